abbrev cX10_man : ByteArray := prog_1_method_4_code
def yX10_man : MethodName := ⟨RX10, "man", "(III)I"⟩
abbrev cX10_voyage : ByteArray := prog_1_method_5_code
def yX10_voyage : MethodName := ⟨RX10, "voyage", "(II)I"⟩
abbrev cX10_heard : ByteArray := prog_1_method_8_code
def yX10_heard : MethodName := ⟨RX10, "heard", "(II)I"⟩
abbrev cX10_left : ByteArray := prog_1_method_10_code
def yX10_left : MethodName := ⟨RX10, "left", "(IIII)I"⟩
abbrev cX10_died : ByteArray := prog_1_method_11_code
def yX10_died : MethodName := ⟨RX10, "died", "(II)I"⟩
abbrev cX10_back : ByteArray := prog_1_method_12_code
def yX10_back : MethodName := ⟨RX10, "back", "(II)I"⟩
abbrev cX10_sign : ByteArray := prog_1_method_15_code
def yX10_sign : MethodName := ⟨RX10, "sign", "(IIIII)I"⟩
abbrev cX10_fine : ByteArray := prog_1_method_22_code
def yX10_fine : MethodName := ⟨RX10, "fine", "(IIIZ)I"⟩
abbrev cX10_addTiding : ByteArray := prog_1_method_46_code
def yX10_addTiding : MethodName := ⟨RX10, "addTiding", "(LShipOffice$Agreement;IIII)I"⟩
def wsX10_man_r1 : List Cond := [Cond.constant RX10 85 (99999), Cond.fieldLink RX10 73 "ShipOffice" "now" "I", Cond.fieldLink RX10 86 "ShipOffice" "manCount" "I", Cond.fieldLink RX10 11 "ShipOffice" "men" "[LShipOffice$Man;", Cond.classLink RX10 9 RX6, Cond.instantiable RX6 6, Cond.initialized RX6, Cond.methodLink RX10 69 yX10_refuse, Cond.instanceMethod yX10_refuse, Cond.selects RX10 yX10_refuse yX10_refuse, Cond.initialized RX10, Cond.code yX10_refuse cX10_refuse 2 (some .int), Cond.fieldLink RX10 66 "ShipOffice" "refusals" "[I", Cond.methodLink RX10 89 yX6_init, Cond.instanceMethod yX6_init, Cond.code yX6_init cX6_init 5 none, Cond.methodLink RX6 3 objectInit, Cond.instanceMethod objectInit, Cond.code objectInit ⟨#[0xb1]⟩ 1 none, Cond.arrayClass .int, Cond.fieldLink RX6 9 "ShipOffice$Man" "wages" "[I", Cond.fieldLink RX6 15 "ShipOffice$Man" "number" "I", Cond.fieldLink RX6 19 "ShipOffice$Man" "name" "I", Cond.fieldLink RX6 22 "ShipOffice$Man" "marks" "I"]
def wsX10_man_r2 : List Cond := [Cond.fieldLink RX6 25 "ShipOffice$Man" "born" "I", Cond.fieldLink RX6 28 "ShipOffice$Man" "leastAlike" "I", Cond.methodLink RX10 92 yX10_joinGroups, Cond.instanceMethod yX10_joinGroups, Cond.selects RX10 yX10_joinGroups yX10_joinGroups, Cond.code yX10_joinGroups cX10_joinGroups 3 none, Cond.fieldLink RX10 311 "ShipOffice$Man" "leastAlike" "I", Cond.methodLink RX10 371 yX6_isAlike, Cond.instanceMethod yX6_isAlike, Cond.selects RX6 yX6_isAlike yX6_isAlike, Cond.code yX6_isAlike cX6_isAlike 2 (some .boolean), Cond.methodLink RX6 31 yX6_digitsApart, Cond.static yX6_digitsApart, Cond.code yX6_digitsApart cX6_digitsApart 6 (some .int), Cond.methodLink RX10 374 yX10_mergeGroups, Cond.instanceMethod yX10_mergeGroups, Cond.selects RX10 yX10_mergeGroups yX10_mergeGroups, Cond.code yX10_mergeGroups cX10_mergeGroups 6 none, Cond.methodLink RX10 378 Lib.Math.min.name, Cond.static Lib.Math.min.name, Cond.initialized "java/lang/Math", Cond.code Lib.Math.min.name Lib.Math.min.code 2 (some .int), Cond.methodLink RX10 383 Lib.Math.max.name, Cond.static Lib.Math.max.name]
def wsX10_man_r3 : List Cond := [Cond.code Lib.Math.max.name Lib.Math.max.code 2 (some .int)]
def wsX10_man : List Cond := .code yX10_man cX10_man 4 (some .int) :: ((wsX10_man_r1 ++ (wsX10_man_r2 ++ wsX10_man_r3)) ++ wsX100 ++ wsX60)
def wsX10_voyage_r1 : List Cond := [Cond.fieldLink RX10 99 "ShipOffice" "voyageCount" "I", Cond.fieldLink RX10 17 "ShipOffice" "voyages" "[LShipOffice$Voyage;", Cond.classLink RX10 15 RX9, Cond.instantiable RX9 10, Cond.initialized RX9, Cond.fieldLink RX10 73 "ShipOffice" "now" "I", Cond.methodLink RX10 77 yX10_isPort, Cond.static yX10_isPort, Cond.initialized RX10, Cond.code yX10_isPort cX10_isPort 1 (some .boolean), Cond.methodLink RX10 69 yX10_refuse, Cond.instanceMethod yX10_refuse, Cond.selects RX10 yX10_refuse yX10_refuse, Cond.code yX10_refuse cX10_refuse 2 (some .int), Cond.fieldLink RX10 66 "ShipOffice" "refusals" "[I", Cond.methodLink RX10 96 yX10_hasVoyage, Cond.instanceMethod yX10_hasVoyage, Cond.selects RX10 yX10_hasVoyage yX10_hasVoyage, Cond.code yX10_hasVoyage cX10_hasVoyage 3 (some .boolean), Cond.fieldLink RX10 386 "ShipOffice$Voyage" "ship" "I", Cond.fieldLink RX10 107 "ShipOffice$Voyage" "isOver" "Z", Cond.methodLink RX10 102 yX9_init, Cond.instanceMethod yX9_init, Cond.code yX9_init cX9_init 5 none]
def wsX10_voyage_r2 : List Cond := [Cond.methodLink RX9 3 objectInit, Cond.instanceMethod objectInit, Cond.code objectInit ⟨#[0xb1]⟩ 1 none, Cond.constant RX9 9 (1000000), Cond.fieldLink RX9 10 "ShipOffice$Voyage" "sailedDay" "I", Cond.fieldLink RX9 16 "ShipOffice$Voyage" "sailedTold" "I", Cond.fieldLink RX9 19 "ShipOffice$Voyage" "lostDay" "I", Cond.fieldLink RX9 22 "ShipOffice$Voyage" "lostTold" "I", Cond.fieldLink RX9 25 "ShipOffice$Voyage" "number" "I", Cond.fieldLink RX9 28 "ShipOffice$Voyage" "ship" "I", Cond.fieldLink RX9 31 "ShipOffice$Voyage" "port" "I", Cond.fieldLink RX9 34 "ShipOffice$Voyage" "openedOn" "I"]
def wsX10_voyage : List Cond := .code yX10_voyage cX10_voyage 3 (some .int) :: ((wsX10_voyage_r1 ++ wsX10_voyage_r2) ++ wsX100 ++ wsX90)
def wsX10_heard_r1 : List Cond := [Cond.classLink RX10 142 RX3, Cond.instantiable RX3 6, Cond.initialized RX3, Cond.fieldLink RX10 73 "ShipOffice" "now" "I", Cond.fieldLink RX10 144 "ShipOffice$Voyage" "heardOf" "LShipOffice$Happening;", Cond.fieldLink RX10 139 "ShipOffice" "happeningCount" "I", Cond.methodLink RX10 103 yX10_voyageAt, Cond.instanceMethod yX10_voyageAt, Cond.selects RX10 yX10_voyageAt yX10_voyageAt, Cond.initialized RX10, Cond.code yX10_voyageAt cX10_voyageAt 2 (some (.object "ShipOffice$Voyage")), Cond.fieldLink RX10 99 "ShipOffice" "voyageCount" "I", Cond.fieldLink RX10 17 "ShipOffice" "voyages" "[LShipOffice$Voyage;", Cond.methodLink RX10 69 yX10_refuse, Cond.instanceMethod yX10_refuse, Cond.selects RX10 yX10_refuse yX10_refuse, Cond.code yX10_refuse cX10_refuse 2 (some .int), Cond.fieldLink RX10 66 "ShipOffice" "refusals" "[I", Cond.methodLink RX10 132 yX10_voyageRefusal, Cond.instanceMethod yX10_voyageRefusal, Cond.selects RX10 yX10_voyageRefusal yX10_voyageRefusal, Cond.code yX10_voyageRefusal cX10_voyageRefusal 4 (some .int), Cond.fieldLink RX10 107 "ShipOffice$Voyage" "isOver" "Z", Cond.fieldLink RX10 365 "ShipOffice$Voyage" "openedOn" "I"]
def wsX10_heard_r2 : List Cond := [Cond.methodLink RX10 148 yX3_init, Cond.instanceMethod yX3_init, Cond.code yX3_init cX3_init 7 none, Cond.methodLink RX3 1 objectInit, Cond.instanceMethod objectInit, Cond.code objectInit ⟨#[0xb1]⟩ 1 none, Cond.fieldLink RX3 7 "ShipOffice$Happening" "kind" "I", Cond.fieldLink RX3 13 "ShipOffice$Happening" "day" "I", Cond.fieldLink RX3 16 "ShipOffice$Happening" "told" "I", Cond.fieldLink RX3 19 "ShipOffice$Happening" "way" "I", Cond.fieldLink RX3 22 "ShipOffice$Happening" "port" "I", Cond.fieldLink RX3 25 "ShipOffice$Happening" "before" "LShipOffice$Happening;"]
def wsX10_heard : List Cond := .code yX10_heard cX10_heard 5 (some .int) :: ((wsX10_heard_r1 ++ wsX10_heard_r2) ++ wsX30 ++ wsX100 ++ wsX90)
def wsX10_addTiding : List Cond := .code yX10_addTiding cX10_addTiding 6 (some .int) :: ([.classLink RX10 142 RX3, .instantiable RX3 6, .initialized RX3, .fieldLink RX10 73 "ShipOffice" "now" "I", .fieldLink RX10 368 "ShipOffice$Agreement" "tidings" "LShipOffice$Happening;", .fieldLink RX10 139 "ShipOffice" "happeningCount" "I", .methodLink RX10 148 yX3_init, .instanceMethod yX3_init, .code yX3_init cX3_init 7 none, .methodLink RX3 1 objectInit, .instanceMethod objectInit, .code objectInit ⟨#[0xb1]⟩ 1 none, .fieldLink RX3 7 "ShipOffice$Happening" "kind" "I", .fieldLink RX3 13 "ShipOffice$Happening" "day" "I", .fieldLink RX3 16 "ShipOffice$Happening" "told" "I", .fieldLink RX3 19 "ShipOffice$Happening" "way" "I", .fieldLink RX3 22 "ShipOffice$Happening" "port" "I", .fieldLink RX3 25 "ShipOffice$Happening" "before" "LShipOffice$Happening;"] ++ wsX30 ++ wsX100 ++ wsX10)
def wsX10_left_r1 : List Cond := [Cond.methodLink RX10 154 yX10_agreementAt, Cond.instanceMethod yX10_agreementAt, Cond.selects RX10 yX10_agreementAt yX10_agreementAt, Cond.initialized RX10, Cond.code yX10_agreementAt cX10_agreementAt 2 (some (.object "ShipOffice$Agreement")), Cond.fieldLink RX10 115 "ShipOffice" "agreementCount" "I", Cond.fieldLink RX10 23 "ShipOffice" "agreements" "[LShipOffice$Agreement;", Cond.methodLink RX10 77 yX10_isPort, Cond.static yX10_isPort, Cond.code yX10_isPort cX10_isPort 1 (some .boolean), Cond.methodLink RX10 69 yX10_refuse, Cond.instanceMethod yX10_refuse, Cond.selects RX10 yX10_refuse yX10_refuse, Cond.code yX10_refuse cX10_refuse 2 (some .int), Cond.fieldLink RX10 66 "ShipOffice" "refusals" "[I", Cond.methodLink RX10 158 yX10_tidingRefusal, Cond.instanceMethod yX10_tidingRefusal, Cond.selects RX10 yX10_tidingRefusal yX10_tidingRefusal, Cond.code yX10_tidingRefusal cX10_tidingRefusal 3 (some .int), Cond.fieldLink RX10 126 "ShipOffice$Agreement" "offDay" "I", Cond.constant RX10 114 (1000000), Cond.fieldLink RX10 255 "ShipOffice$Agreement" "signedOn" "I", Cond.fieldLink RX10 73 "ShipOffice" "now" "I", Cond.fieldLink RX10 139 "ShipOffice" "happeningCount" "I"]
def wsX10_left_r2 : List Cond := [Cond.methodLink RX10 162 yX10_addTiding, Cond.instanceMethod yX10_addTiding, Cond.selects RX10 yX10_addTiding yX10_addTiding, Cond.code yX10_addTiding cX10_addTiding 6 (some .int), Cond.classLink RX10 142 RX3, Cond.instantiable RX3 6, Cond.initialized RX3, Cond.fieldLink RX10 368 "ShipOffice$Agreement" "tidings" "LShipOffice$Happening;", Cond.methodLink RX10 148 yX3_init, Cond.instanceMethod yX3_init, Cond.code yX3_init cX3_init 7 none, Cond.methodLink RX3 1 objectInit, Cond.instanceMethod objectInit, Cond.code objectInit ⟨#[0xb1]⟩ 1 none, Cond.fieldLink RX3 7 "ShipOffice$Happening" "kind" "I", Cond.fieldLink RX3 13 "ShipOffice$Happening" "day" "I", Cond.fieldLink RX3 16 "ShipOffice$Happening" "told" "I", Cond.fieldLink RX3 19 "ShipOffice$Happening" "way" "I", Cond.fieldLink RX3 22 "ShipOffice$Happening" "port" "I", Cond.fieldLink RX3 25 "ShipOffice$Happening" "before" "LShipOffice$Happening;"]
def wsX10_left : List Cond := .code yX10_left cX10_left 7 (some .int) :: ((wsX10_left_r1 ++ wsX10_left_r2) ++ wsX100 ++ wsX10 ++ wsX30)
def wsX10_died_r1 : List Cond := [Cond.fieldLink RX10 166 "ShipOffice$Agreement" "isDead" "Z", Cond.methodLink RX10 154 yX10_agreementAt, Cond.instanceMethod yX10_agreementAt, Cond.selects RX10 yX10_agreementAt yX10_agreementAt, Cond.initialized RX10, Cond.code yX10_agreementAt cX10_agreementAt 2 (some (.object "ShipOffice$Agreement")), Cond.fieldLink RX10 115 "ShipOffice" "agreementCount" "I", Cond.fieldLink RX10 23 "ShipOffice" "agreements" "[LShipOffice$Agreement;", Cond.methodLink RX10 69 yX10_refuse, Cond.instanceMethod yX10_refuse, Cond.selects RX10 yX10_refuse yX10_refuse, Cond.code yX10_refuse cX10_refuse 2 (some .int), Cond.fieldLink RX10 66 "ShipOffice" "refusals" "[I", Cond.methodLink RX10 158 yX10_tidingRefusal, Cond.instanceMethod yX10_tidingRefusal, Cond.selects RX10 yX10_tidingRefusal yX10_tidingRefusal, Cond.code yX10_tidingRefusal cX10_tidingRefusal 3 (some .int), Cond.fieldLink RX10 126 "ShipOffice$Agreement" "offDay" "I", Cond.constant RX10 114 (1000000), Cond.fieldLink RX10 255 "ShipOffice$Agreement" "signedOn" "I", Cond.fieldLink RX10 73 "ShipOffice" "now" "I", Cond.fieldLink RX10 139 "ShipOffice" "happeningCount" "I", Cond.methodLink RX10 162 yX10_addTiding, Cond.instanceMethod yX10_addTiding]
def wsX10_died_r2 : List Cond := [Cond.selects RX10 yX10_addTiding yX10_addTiding, Cond.code yX10_addTiding cX10_addTiding 6 (some .int), Cond.classLink RX10 142 RX3, Cond.instantiable RX3 6, Cond.initialized RX3, Cond.fieldLink RX10 368 "ShipOffice$Agreement" "tidings" "LShipOffice$Happening;", Cond.methodLink RX10 148 yX3_init, Cond.instanceMethod yX3_init, Cond.code yX3_init cX3_init 7 none, Cond.methodLink RX3 1 objectInit, Cond.instanceMethod objectInit, Cond.code objectInit ⟨#[0xb1]⟩ 1 none, Cond.fieldLink RX3 7 "ShipOffice$Happening" "kind" "I", Cond.fieldLink RX3 13 "ShipOffice$Happening" "day" "I", Cond.fieldLink RX3 16 "ShipOffice$Happening" "told" "I", Cond.fieldLink RX3 19 "ShipOffice$Happening" "way" "I", Cond.fieldLink RX3 22 "ShipOffice$Happening" "port" "I", Cond.fieldLink RX3 25 "ShipOffice$Happening" "before" "LShipOffice$Happening;"]
def wsX10_died : List Cond := .code yX10_died cX10_died 5 (some .int) :: ((wsX10_died_r1 ++ wsX10_died_r2) ++ wsX10 ++ wsX100 ++ wsX30)
def wsX10_back_r1 : List Cond := [Cond.methodLink RX10 154 yX10_agreementAt, Cond.instanceMethod yX10_agreementAt, Cond.selects RX10 yX10_agreementAt yX10_agreementAt, Cond.initialized RX10, Cond.code yX10_agreementAt cX10_agreementAt 2 (some (.object "ShipOffice$Agreement")), Cond.fieldLink RX10 115 "ShipOffice" "agreementCount" "I", Cond.fieldLink RX10 23 "ShipOffice" "agreements" "[LShipOffice$Agreement;", Cond.methodLink RX10 69 yX10_refuse, Cond.instanceMethod yX10_refuse, Cond.selects RX10 yX10_refuse yX10_refuse, Cond.code yX10_refuse cX10_refuse 2 (some .int), Cond.fieldLink RX10 66 "ShipOffice" "refusals" "[I", Cond.methodLink RX10 158 yX10_tidingRefusal, Cond.instanceMethod yX10_tidingRefusal, Cond.selects RX10 yX10_tidingRefusal yX10_tidingRefusal, Cond.code yX10_tidingRefusal cX10_tidingRefusal 3 (some .int), Cond.fieldLink RX10 126 "ShipOffice$Agreement" "offDay" "I", Cond.constant RX10 114 (1000000), Cond.fieldLink RX10 255 "ShipOffice$Agreement" "signedOn" "I", Cond.fieldLink RX10 73 "ShipOffice" "now" "I", Cond.fieldLink RX10 139 "ShipOffice" "happeningCount" "I", Cond.methodLink RX10 162 yX10_addTiding, Cond.instanceMethod yX10_addTiding, Cond.selects RX10 yX10_addTiding yX10_addTiding]
def wsX10_back_r2 : List Cond := [Cond.code yX10_addTiding cX10_addTiding 6 (some .int), Cond.classLink RX10 142 RX3, Cond.instantiable RX3 6, Cond.initialized RX3, Cond.fieldLink RX10 368 "ShipOffice$Agreement" "tidings" "LShipOffice$Happening;", Cond.methodLink RX10 148 yX3_init, Cond.instanceMethod yX3_init, Cond.code yX3_init cX3_init 7 none, Cond.methodLink RX3 1 objectInit, Cond.instanceMethod objectInit, Cond.code objectInit ⟨#[0xb1]⟩ 1 none, Cond.fieldLink RX3 7 "ShipOffice$Happening" "kind" "I", Cond.fieldLink RX3 13 "ShipOffice$Happening" "day" "I", Cond.fieldLink RX3 16 "ShipOffice$Happening" "told" "I", Cond.fieldLink RX3 19 "ShipOffice$Happening" "way" "I", Cond.fieldLink RX3 22 "ShipOffice$Happening" "port" "I", Cond.fieldLink RX3 25 "ShipOffice$Happening" "before" "LShipOffice$Happening;"]
def wsX10_back : List Cond := .code yX10_back cX10_back 5 (some .int) :: ((wsX10_back_r1 ++ wsX10_back_r2) ++ wsX100 ++ wsX10 ++ wsX30)
def wsX10_sign_r1 : List Cond := [Cond.fieldLink RX10 115 "ShipOffice" "agreementCount" "I", Cond.fieldLink RX10 126 "ShipOffice$Agreement" "offDay" "I", Cond.constant RX10 114 (1000000), Cond.classLink RX10 21 RX1, Cond.instantiable RX1 18, Cond.initialized RX1, Cond.fieldLink RX10 73 "ShipOffice" "now" "I", Cond.fieldLink RX10 223 "ShipOffice$Agreement" "wage" "I", Cond.fieldLink RX10 226 "ShipOffice$Agreement" "rank" "I", Cond.fieldLink RX10 23 "ShipOffice" "agreements" "[LShipOffice$Agreement;", Cond.methodLink RX10 205 yX10_manAt, Cond.instanceMethod yX10_manAt, Cond.selects RX10 yX10_manAt yX10_manAt, Cond.initialized RX10, Cond.code yX10_manAt cX10_manAt 2 (some (.object "ShipOffice$Man")), Cond.fieldLink RX10 86 "ShipOffice" "manCount" "I", Cond.fieldLink RX10 11 "ShipOffice" "men" "[LShipOffice$Man;", Cond.methodLink RX10 103 yX10_voyageAt, Cond.instanceMethod yX10_voyageAt, Cond.selects RX10 yX10_voyageAt yX10_voyageAt, Cond.code yX10_voyageAt cX10_voyageAt 2 (some (.object "ShipOffice$Voyage")), Cond.fieldLink RX10 99 "ShipOffice" "voyageCount" "I", Cond.fieldLink RX10 17 "ShipOffice" "voyages" "[LShipOffice$Voyage;", Cond.methodLink RX10 154 yX10_agreementAt]
def wsX10_sign_r2 : List Cond := [Cond.instanceMethod yX10_agreementAt, Cond.selects RX10 yX10_agreementAt yX10_agreementAt, Cond.code yX10_agreementAt cX10_agreementAt 2 (some (.object "ShipOffice$Agreement")), Cond.methodLink RX10 69 yX10_refuse, Cond.instanceMethod yX10_refuse, Cond.selects RX10 yX10_refuse yX10_refuse, Cond.code yX10_refuse cX10_refuse 2 (some .int), Cond.fieldLink RX10 66 "ShipOffice" "refusals" "[I", Cond.methodLink RX10 209 yX9_takesHands, Cond.instanceMethod yX9_takesHands, Cond.selects RX9 yX9_takesHands yX9_takesHands, Cond.initialized RX9, Cond.code yX9_takesHands cX9_takesHands 1 (some .boolean), Cond.fieldLink RX9 37 "ShipOffice$Voyage" "isOver" "Z", Cond.fieldLink RX9 16 "ShipOffice$Voyage" "sailedTold" "I", Cond.constant RX9 9 (1000000), Cond.fieldLink RX9 22 "ShipOffice$Voyage" "lostTold" "I", Cond.methodLink RX10 212 yX10_isFree, Cond.instanceMethod yX10_isFree, Cond.selects RX10 yX10_isFree yX10_isFree, Cond.code yX10_isFree cX10_isFree 3 (some .boolean), Cond.fieldLink RX10 299 "ShipOffice$Agreement" "man" "LShipOffice$Man;", Cond.methodLink RX10 122 yX1_goesOn, Cond.instanceMethod yX1_goesOn]
def wsX10_sign_r3 : List Cond := [Cond.selects RX1 yX1_goesOn yX1_goesOn, Cond.code yX1_goesOn cX1_goesOn 1 (some .boolean), Cond.fieldLink RX1 10 "ShipOffice$Agreement" "offDay" "I", Cond.constant RX1 9 (1000000), Cond.fieldLink RX1 44 "ShipOffice$Agreement" "isDead" "Z", Cond.fieldLink RX1 33 "ShipOffice$Agreement" "voyage" "LShipOffice$Voyage;", Cond.fieldLink RX1 48 "ShipOffice$Voyage" "lostTold" "I", Cond.methodLink RX10 216 yX10_signWorth, Cond.instanceMethod yX10_signWorth, Cond.selects RX10 yX10_signWorth yX10_signWorth, Cond.code yX10_signWorth cX10_signWorth 4 (some .int), Cond.fieldLink RX10 59 "ShipOffice" "letters" "[I", Cond.fieldLink RX10 30 "ShipOffice" "law" "LShipOffice$Law;", Cond.methodLink RX10 393 yJ7_fill_53178, Cond.static yJ7_fill_53178, Cond.initialized RJ7, Cond.code yJ7_fill_53178 cJ7_fill_53178 4 none, Cond.methodLink RX10 397 yX6_yearsOn, Cond.instanceMethod yX6_yearsOn, Cond.selects RX6 yX6_yearsOn yX6_yearsOn, Cond.initialized RX6, Cond.code yX6_yearsOn cX6_yearsOn 2 (some .int), Cond.fieldLink RX6 25 "ShipOffice$Man" "born" "I", Cond.methodLink RX10 400 yX5_inForce]
def wsX10_sign_r4 : List Cond := [Cond.instanceMethod yX5_inForce, Cond.selects RX5 yX5_inForce yX5_inForce, Cond.initialized RX5, Cond.code yX5_inForce cX5_inForce 6 (some (.object "ShipOffice$Act")), Cond.fieldLink RX5 17 "ShipOffice$Law" "customs" "[LShipOffice$Act;", Cond.fieldLink RX5 23 "ShipOffice$Law" "actCount" "I", Cond.fieldLink RX5 11 "ShipOffice$Law" "acts" "[LShipOffice$Act;", Cond.fieldLink RX5 27 "ShipOffice$Act" "purpose" "I", Cond.fieldLink RX5 30 "ShipOffice$Act" "day" "I", Cond.methodLink RX10 404 yX0_worth, Cond.instanceMethod yX0_worth, Cond.selects RX0 yX0_worth yX0_worth, Cond.initialized RX0, Cond.code yX0_worth cX0_worth 8 (some .int), Cond.fieldLink RX0 16 "ShipOffice$Act" "code" "[I", Cond.fieldLink RX0 20 "ShipOffice$Act" "stack" "[I", Cond.methodLink RX0 36 yX0_joined, Cond.static yX0_joined, Cond.code yX0_joined cX0_joined 5 (some .int), Cond.methodLink RX0 40 yX0_held, Cond.static yX0_held, Cond.code yX0_held cX0_held 2 (some .int), Cond.constantLong RX0 44 (1000000000), Cond.constant RX0 46 (1000000000)]
def wsX10_sign_r5 : List Cond := [Cond.constantLong RX0 47 (-1000000000), Cond.constant RX0 49 (-1000000000), Cond.methodLink RX10 220 yX1_init, Cond.instanceMethod yX1_init, Cond.code yX1_init cX1_init 5 none, Cond.methodLink RX1 3 objectInit, Cond.instanceMethod objectInit, Cond.code objectInit ⟨#[0xb1]⟩ 1 none, Cond.classLink RX1 16 RX2, Cond.fieldLink RX1 18 "ShipOffice$Agreement" "fines" "[LShipOffice$Fine;", Cond.arrayClass .int, Cond.fieldLink RX1 22 "ShipOffice$Agreement" "shortTold" "[I", Cond.fieldLink RX1 26 "ShipOffice$Agreement" "shortSum" "[I", Cond.fieldLink RX1 29 "ShipOffice$Agreement" "man" "LShipOffice$Man;", Cond.fieldLink RX1 37 "ShipOffice$Agreement" "signedOn" "I", Cond.fieldLink RX1 40 "ShipOffice$Agreement" "paper" "LShipOffice$Agreement;"]
def wsX10_sign : List Cond := .code yX10_sign cX10_sign 11 (some .int) :: ((wsX10_sign_r1 ++ (wsX10_sign_r2 ++ (wsX10_sign_r3 ++ (wsX10_sign_r4 ++ wsX10_sign_r5)))) ++ wsX100 ++ wsX10 ++ wsX90 ++ wsX60 ++ wsX50 ++ wsX00)
def wsX10_fine_r1 : List Cond := [Cond.fieldLink RX10 126 "ShipOffice$Agreement" "offDay" "I", Cond.constant RX10 114 (1000000), Cond.fieldLink RX10 255 "ShipOffice$Agreement" "signedOn" "I", Cond.fieldLink RX10 73 "ShipOffice" "now" "I", Cond.fieldLink RX10 258 "ShipOffice$Agreement" "fineCount" "I", Cond.fieldLink RX10 261 "ShipOffice$Agreement" "fines" "[LShipOffice$Fine;", Cond.classLink RX10 265 RX2, Cond.instantiable RX2 3, Cond.initialized RX2, Cond.methodLink RX10 154 yX10_agreementAt, Cond.instanceMethod yX10_agreementAt, Cond.selects RX10 yX10_agreementAt yX10_agreementAt, Cond.initialized RX10, Cond.code yX10_agreementAt cX10_agreementAt 2 (some (.object "ShipOffice$Agreement")), Cond.fieldLink RX10 115 "ShipOffice" "agreementCount" "I", Cond.fieldLink RX10 23 "ShipOffice" "agreements" "[LShipOffice$Agreement;", Cond.methodLink RX10 69 yX10_refuse, Cond.instanceMethod yX10_refuse, Cond.selects RX10 yX10_refuse yX10_refuse, Cond.code yX10_refuse cX10_refuse 2 (some .int), Cond.fieldLink RX10 66 "ShipOffice" "refusals" "[I", Cond.methodLink RX10 267 yX2_init, Cond.instanceMethod yX2_init, Cond.code yX2_init cX2_init 4 none]
def wsX10_fine_r2 : List Cond := [Cond.methodLink RX2 1 objectInit, Cond.instanceMethod objectInit, Cond.code objectInit ⟨#[0xb1]⟩ 1 none, Cond.fieldLink RX2 7 "ShipOffice$Fine" "day" "I", Cond.fieldLink RX2 13 "ShipOffice$Fine" "sum" "I", Cond.fieldLink RX2 16 "ShipOffice$Fine" "isRead" "Z"]
def wsX10_fine : List Cond := .code yX10_fine cX10_fine 6 (some .int) :: ((wsX10_fine_r1 ++ wsX10_fine_r2) ++ wsX10 ++ wsX100 ++ wsX20)
set_option maxRecDepth 20000 in
theorem ggX10_man_X10_refuse : GoodIn wsX10_man wsX10_refuse := goodIn_r _ [12, 13, 50, 51, 52, 53, 54, 55, 56, 57, 58, 59, 60, 61, 62, 63, 64, 65] (by decide +kernel) (by decide +kernel)
set_option maxRecDepth 20000 in
theorem gX10_man_X10_refuse : GoodIn wsX10_man (wsV RX10 69 RX10 yX10_refuse wsX10_refuse) := goodIn_app (goodIn_of _ (by decide +kernel)) ggX10_man_X10_refuse
set_option maxRecDepth 20000 in
theorem ggX10_man_X6_init : GoodIn wsX10_man wsX6_init := goodIn_r _ [16, 17, 18, 19, 20, 21, 22, 23, 24, 25, 26, 66, 67, 68, 69, 70, 71] (by decide +kernel) (by decide +kernel)
set_option maxRecDepth 20000 in
theorem gX10_man_X6_init : GoodIn wsX10_man (wsX6_init) := ggX10_man_X6_init
set_option maxRecDepth 20000 in
theorem ggX10_man_X10_joinGroups : GoodIn wsX10_man wsX10_joinGroups := goodIn_r _ [30, 3, 4, 31, 32, 33, 34, 7, 35, 24, 23, 36, 37, 38, 39, 40, 41, 11, 42, 43, 44, 45, 46, 47, 48, 49, 50, 51, 52, 53, 54, 55, 56, 57, 58, 59, 60, 61, 62, 63, 64, 65, 66, 67, 68, 69, 70, 71] (by decide +kernel) (by decide +kernel)
set_option maxRecDepth 20000 in
theorem gX10_man_X10_joinGroups : GoodIn wsX10_man (wsV RX10 92 RX10 yX10_joinGroups wsX10_joinGroups) := goodIn_app (goodIn_of _ (by decide +kernel)) ggX10_man_X10_joinGroups
theorem dX10_man_0 : decode cX10_man 0 = .ok (.iload_n 1, 1) := by decide +kernel
theorem dX10_man_1 : decode cX10_man 1 = .ok (.ifCond .lt 14, 3) := by decide +kernel
theorem dX10_man_4 : decode cX10_man 4 = .ok (.iload_n 2, 1) := by decide +kernel
theorem dX10_man_5 : decode cX10_man 5 = .ok (.ifCond .lt 10, 3) := by decide +kernel
theorem dX10_man_8 : decode cX10_man 8 = .ok (.iload_n 3, 1) := by decide +kernel
theorem dX10_man_9 : decode cX10_man 9 = .ok (.sipush (-30000), 3) := by decide +kernel
theorem dX10_man_12 : decode cX10_man 12 = .ok (.if_icmp .ge 10, 3) := by decide +kernel
theorem dX10_man_15 : decode cX10_man 15 = .ok (.aload_n 0, 1) := by decide +kernel
theorem dX10_man_16 : decode cX10_man 16 = .ok (.bipush (-4), 2) := by decide +kernel
theorem dX10_man_18 : decode cX10_man 18 = .ok (.invokevirtual 69, 3) := by decide +kernel
theorem dX10_man_21 : decode cX10_man 21 = .ok (.ireturn, 1) := by decide +kernel
theorem dX10_man_22 : decode cX10_man 22 = .ok (.iload_n 1, 1) := by decide +kernel
theorem dX10_man_23 : decode cX10_man 23 = .ok (.sipush 9999, 3) := by decide +kernel
theorem dX10_man_26 : decode cX10_man 26 = .ok (.if_icmp .gt 26, 3) := by decide +kernel
theorem dX10_man_29 : decode cX10_man 29 = .ok (.iload_n 2, 1) := by decide +kernel
theorem dX10_man_30 : decode cX10_man 30 = .ok (.ldc 85, 2) := by decide +kernel
theorem dX10_man_32 : decode cX10_man 32 = .ok (.if_icmp .gt 20, 3) := by decide +kernel
theorem dX10_man_35 : decode cX10_man 35 = .ok (.iload_n 3, 1) := by decide +kernel
theorem dX10_man_36 : decode cX10_man 36 = .ok (.aload_n 0, 1) := by decide +kernel
theorem dX10_man_37 : decode cX10_man 37 = .ok (.getfield 73, 3) := by decide +kernel
theorem dX10_man_40 : decode cX10_man 40 = .ok (.if_icmp .gt 12, 3) := by decide +kernel
theorem dX10_man_43 : decode cX10_man 43 = .ok (.aload_n 0, 1) := by decide +kernel
theorem dX10_man_44 : decode cX10_man 44 = .ok (.getfield 86, 3) := by decide +kernel
theorem dX10_man_47 : decode cX10_man 47 = .ok (.bipush 40, 2) := by decide +kernel
theorem dX10_man_49 : decode cX10_man 49 = .ok (.if_icmp .lt 10, 3) := by decide +kernel
theorem dX10_man_52 : decode cX10_man 52 = .ok (.aload_n 0, 1) := by decide +kernel
theorem dX10_man_53 : decode cX10_man 53 = .ok (.bipush (-6), 2) := by decide +kernel
theorem dX10_man_55 : decode cX10_man 55 = .ok (.invokevirtual 69, 3) := by decide +kernel
theorem dX10_man_58 : decode cX10_man 58 = .ok (.ireturn, 1) := by decide +kernel
theorem dX10_man_59 : decode cX10_man 59 = .ok (.aload_n 0, 1) := by decide +kernel
theorem dX10_man_60 : decode cX10_man 60 = .ok (.getfield 11, 3) := by decide +kernel
theorem dX10_man_63 : decode cX10_man 63 = .ok (.aload_n 0, 1) := by decide +kernel
theorem dX10_man_64 : decode cX10_man 64 = .ok (.getfield 86, 3) := by decide +kernel
theorem dX10_man_67 : decode cX10_man 67 = .ok (.new 9, 3) := by decide +kernel
theorem dX10_man_70 : decode cX10_man 70 = .ok (.dup, 1) := by decide +kernel
theorem dX10_man_71 : decode cX10_man 71 = .ok (.aload_n 0, 1) := by decide +kernel
theorem dX10_man_72 : decode cX10_man 72 = .ok (.getfield 86, 3) := by decide +kernel
theorem dX10_man_75 : decode cX10_man 75 = .ok (.iload_n 1, 1) := by decide +kernel
theorem dX10_man_76 : decode cX10_man 76 = .ok (.iload_n 2, 1) := by decide +kernel
theorem dX10_man_77 : decode cX10_man 77 = .ok (.iload_n 3, 1) := by decide +kernel
theorem dX10_man_78 : decode cX10_man 78 = .ok (.invokespecial 89, 3) := by decide +kernel
theorem dX10_man_81 : decode cX10_man 81 = .ok (.aastore, 1) := by decide +kernel
theorem dX10_man_82 : decode cX10_man 82 = .ok (.aload_n 0, 1) := by decide +kernel
theorem dX10_man_83 : decode cX10_man 83 = .ok (.dup, 1) := by decide +kernel
theorem dX10_man_84 : decode cX10_man 84 = .ok (.getfield 86, 3) := by decide +kernel
theorem dX10_man_87 : decode cX10_man 87 = .ok (.iconst 1, 1) := by decide +kernel
theorem dX10_man_88 : decode cX10_man 88 = .ok (.iadd, 1) := by decide +kernel
theorem dX10_man_89 : decode cX10_man 89 = .ok (.putfield 86, 3) := by decide +kernel
theorem dX10_man_92 : decode cX10_man 92 = .ok (.aload_n 0, 1) := by decide +kernel
theorem dX10_man_93 : decode cX10_man 93 = .ok (.aload_n 0, 1) := by decide +kernel
theorem dX10_man_94 : decode cX10_man 94 = .ok (.getfield 11, 3) := by decide +kernel
theorem dX10_man_97 : decode cX10_man 97 = .ok (.aload_n 0, 1) := by decide +kernel
theorem dX10_man_98 : decode cX10_man 98 = .ok (.getfield 86, 3) := by decide +kernel
theorem dX10_man_101 : decode cX10_man 101 = .ok (.iconst 1, 1) := by decide +kernel
theorem dX10_man_102 : decode cX10_man 102 = .ok (.isub, 1) := by decide +kernel
theorem dX10_man_103 : decode cX10_man 103 = .ok (.aaload, 1) := by decide +kernel
theorem dX10_man_104 : decode cX10_man 104 = .ok (.invokevirtual 92, 3) := by decide +kernel
theorem dX10_man_107 : decode cX10_man 107 = .ok (.aload_n 0, 1) := by decide +kernel
theorem dX10_man_108 : decode cX10_man 108 = .ok (.getfield 86, 3) := by decide +kernel
theorem dX10_man_111 : decode cX10_man 111 = .ok (.iconst 1, 1) := by decide +kernel
theorem dX10_man_112 : decode cX10_man 112 = .ok (.isub, 1) := by decide +kernel
theorem dX10_man_113 : decode cX10_man 113 = .ok (.ireturn, 1) := by decide +kernel
set_option maxRecDepth 20000 in
theorem ggX10_voyage_X10_isPort : GoodIn wsX10_voyage wsX10_isPort := goodIn_r _ [10] (by decide +kernel) (by decide +kernel)
set_option maxRecDepth 20000 in
theorem gX10_voyage_X10_isPort : GoodIn wsX10_voyage (va_wsS RX10 77 yX10_isPort wsX10_isPort) := goodIn_app (goodIn_of _ (by decide +kernel)) ggX10_voyage_X10_isPort
set_option maxRecDepth 20000 in
theorem ggX10_voyage_X10_refuse : GoodIn wsX10_voyage wsX10_refuse := goodIn_r _ [14, 15, 37, 38, 39, 40, 41, 42, 43, 44, 45, 46, 47, 48, 49, 50, 51, 52] (by decide +kernel) (by decide +kernel)
set_option maxRecDepth 20000 in
theorem gX10_voyage_X10_refuse : GoodIn wsX10_voyage (wsV RX10 69 RX10 yX10_refuse wsX10_refuse) := goodIn_app (goodIn_of _ (by decide +kernel)) ggX10_voyage_X10_refuse
set_option maxRecDepth 20000 in
theorem ggX10_voyage_X10_hasVoyage : GoodIn wsX10_voyage wsX10_hasVoyage := goodIn_r _ [19, 1, 2, 20, 21, 37, 38, 39, 40, 41, 42, 43, 44, 45, 46, 47, 48, 49, 50, 51, 52, 53, 54, 55, 56, 57, 58, 59, 60, 61, 62] (by decide +kernel) (by decide +kernel)
set_option maxRecDepth 20000 in
theorem gX10_voyage_X10_hasVoyage : GoodIn wsX10_voyage (wsV RX10 96 RX10 yX10_hasVoyage wsX10_hasVoyage) := goodIn_app (goodIn_of _ (by decide +kernel)) ggX10_voyage_X10_hasVoyage
set_option maxRecDepth 20000 in
theorem ggX10_voyage_X9_init : GoodIn wsX10_voyage wsX9_init := goodIn_r _ [24, 25, 26, 27, 28, 29, 30, 31, 32, 33, 34, 35, 36, 53, 54, 55, 56, 57, 58, 59, 60, 61, 62] (by decide +kernel) (by decide +kernel)
set_option maxRecDepth 20000 in
theorem gX10_voyage_X9_init : GoodIn wsX10_voyage (wsX9_init) := ggX10_voyage_X9_init
theorem dX10_voyage_0 : decode cX10_voyage 0 = .ok (.iload_n 1, 1) := by decide +kernel
theorem dX10_voyage_1 : decode cX10_voyage 1 = .ok (.ifCond .lt 16, 3) := by decide +kernel
theorem dX10_voyage_4 : decode cX10_voyage 4 = .ok (.iload_n 1, 1) := by decide +kernel
theorem dX10_voyage_5 : decode cX10_voyage 5 = .ok (.bipush 10, 2) := by decide +kernel
theorem dX10_voyage_7 : decode cX10_voyage 7 = .ok (.if_icmp .ge 10, 3) := by decide +kernel
theorem dX10_voyage_10 : decode cX10_voyage 10 = .ok (.iload_n 2, 1) := by decide +kernel
theorem dX10_voyage_11 : decode cX10_voyage 11 = .ok (.invokestatic 77, 3) := by decide +kernel
theorem dX10_voyage_14 : decode cX10_voyage 14 = .ok (.ifCond .ne 9, 3) := by decide +kernel
theorem dX10_voyage_17 : decode cX10_voyage 17 = .ok (.aload_n 0, 1) := by decide +kernel
theorem dX10_voyage_18 : decode cX10_voyage 18 = .ok (.iconst (-1), 1) := by decide +kernel
theorem dX10_voyage_19 : decode cX10_voyage 19 = .ok (.invokevirtual 69, 3) := by decide +kernel
theorem dX10_voyage_22 : decode cX10_voyage 22 = .ok (.ireturn, 1) := by decide +kernel
theorem dX10_voyage_23 : decode cX10_voyage 23 = .ok (.aload_n 0, 1) := by decide +kernel
theorem dX10_voyage_24 : decode cX10_voyage 24 = .ok (.iload_n 1, 1) := by decide +kernel
theorem dX10_voyage_25 : decode cX10_voyage 25 = .ok (.invokevirtual 96, 3) := by decide +kernel
theorem dX10_voyage_28 : decode cX10_voyage 28 = .ok (.ifCond .eq 10, 3) := by decide +kernel
theorem dX10_voyage_31 : decode cX10_voyage 31 = .ok (.aload_n 0, 1) := by decide +kernel
theorem dX10_voyage_32 : decode cX10_voyage 32 = .ok (.bipush (-3), 2) := by decide +kernel
theorem dX10_voyage_34 : decode cX10_voyage 34 = .ok (.invokevirtual 69, 3) := by decide +kernel
theorem dX10_voyage_37 : decode cX10_voyage 37 = .ok (.ireturn, 1) := by decide +kernel
theorem dX10_voyage_38 : decode cX10_voyage 38 = .ok (.aload_n 0, 1) := by decide +kernel
theorem dX10_voyage_39 : decode cX10_voyage 39 = .ok (.getfield 99, 3) := by decide +kernel
theorem dX10_voyage_42 : decode cX10_voyage 42 = .ok (.bipush 20, 2) := by decide +kernel
theorem dX10_voyage_44 : decode cX10_voyage 44 = .ok (.if_icmp .lt 10, 3) := by decide +kernel
theorem dX10_voyage_47 : decode cX10_voyage 47 = .ok (.aload_n 0, 1) := by decide +kernel
theorem dX10_voyage_48 : decode cX10_voyage 48 = .ok (.bipush (-6), 2) := by decide +kernel
theorem dX10_voyage_50 : decode cX10_voyage 50 = .ok (.invokevirtual 69, 3) := by decide +kernel
theorem dX10_voyage_53 : decode cX10_voyage 53 = .ok (.ireturn, 1) := by decide +kernel
theorem dX10_voyage_54 : decode cX10_voyage 54 = .ok (.aload_n 0, 1) := by decide +kernel
theorem dX10_voyage_55 : decode cX10_voyage 55 = .ok (.getfield 17, 3) := by decide +kernel
theorem dX10_voyage_58 : decode cX10_voyage 58 = .ok (.aload_n 0, 1) := by decide +kernel
theorem dX10_voyage_59 : decode cX10_voyage 59 = .ok (.getfield 99, 3) := by decide +kernel
theorem dX10_voyage_62 : decode cX10_voyage 62 = .ok (.new 15, 3) := by decide +kernel
theorem dX10_voyage_65 : decode cX10_voyage 65 = .ok (.dup, 1) := by decide +kernel
theorem dX10_voyage_66 : decode cX10_voyage 66 = .ok (.aload_n 0, 1) := by decide +kernel
theorem dX10_voyage_67 : decode cX10_voyage 67 = .ok (.getfield 99, 3) := by decide +kernel
theorem dX10_voyage_70 : decode cX10_voyage 70 = .ok (.iload_n 1, 1) := by decide +kernel
theorem dX10_voyage_71 : decode cX10_voyage 71 = .ok (.iload_n 2, 1) := by decide +kernel
theorem dX10_voyage_72 : decode cX10_voyage 72 = .ok (.aload_n 0, 1) := by decide +kernel
theorem dX10_voyage_73 : decode cX10_voyage 73 = .ok (.getfield 73, 3) := by decide +kernel
theorem dX10_voyage_76 : decode cX10_voyage 76 = .ok (.invokespecial 102, 3) := by decide +kernel
theorem dX10_voyage_79 : decode cX10_voyage 79 = .ok (.aastore, 1) := by decide +kernel
theorem dX10_voyage_80 : decode cX10_voyage 80 = .ok (.aload_n 0, 1) := by decide +kernel
theorem dX10_voyage_81 : decode cX10_voyage 81 = .ok (.dup, 1) := by decide +kernel
theorem dX10_voyage_82 : decode cX10_voyage 82 = .ok (.getfield 99, 3) := by decide +kernel
theorem dX10_voyage_85 : decode cX10_voyage 85 = .ok (.iconst 1, 1) := by decide +kernel
theorem dX10_voyage_86 : decode cX10_voyage 86 = .ok (.iadd, 1) := by decide +kernel
theorem dX10_voyage_87 : decode cX10_voyage 87 = .ok (.putfield 99, 3) := by decide +kernel
theorem dX10_voyage_90 : decode cX10_voyage 90 = .ok (.aload_n 0, 1) := by decide +kernel
theorem dX10_voyage_91 : decode cX10_voyage 91 = .ok (.getfield 99, 3) := by decide +kernel
theorem dX10_voyage_94 : decode cX10_voyage 94 = .ok (.iconst 1, 1) := by decide +kernel
theorem dX10_voyage_95 : decode cX10_voyage 95 = .ok (.isub, 1) := by decide +kernel
theorem dX10_voyage_96 : decode cX10_voyage 96 = .ok (.ireturn, 1) := by decide +kernel
set_option maxRecDepth 20000 in
theorem ggX10_heard_X10_voyageAt : GoodIn wsX10_heard wsX10_voyageAt := goodIn_r _ [11, 12, 13, 43, 44, 45, 46, 47, 48, 49, 50, 51, 52, 53, 54, 55, 56, 57, 58] (by decide +kernel) (by decide +kernel)
set_option maxRecDepth 20000 in
theorem gX10_heard_X10_voyageAt : GoodIn wsX10_heard (wsV RX10 103 RX10 yX10_voyageAt wsX10_voyageAt) := goodIn_app (goodIn_of _ (by decide +kernel)) ggX10_heard_X10_voyageAt
set_option maxRecDepth 20000 in
theorem ggX10_heard_X10_refuse : GoodIn wsX10_heard wsX10_refuse := goodIn_r _ [17, 18, 43, 44, 45, 46, 47, 48, 49, 50, 51, 52, 53, 54, 55, 56, 57, 58] (by decide +kernel) (by decide +kernel)
set_option maxRecDepth 20000 in
theorem gX10_heard_X10_refuse : GoodIn wsX10_heard (wsV RX10 69 RX10 yX10_refuse wsX10_refuse) := goodIn_app (goodIn_of _ (by decide +kernel)) ggX10_heard_X10_refuse
set_option maxRecDepth 20000 in
theorem ggX10_heard_X10_voyageRefusal : GoodIn wsX10_heard wsX10_voyageRefusal := goodIn_r _ [22, 23, 24, 4, 6, 59, 60, 61, 62, 63, 64, 65, 66, 67, 68, 43, 44, 45, 46, 47, 48, 49, 50, 51, 52, 53, 54, 55, 56, 57, 58] (by decide +kernel) (by decide +kernel)
set_option maxRecDepth 20000 in
theorem gX10_heard_X10_voyageRefusal : GoodIn wsX10_heard (wsV RX10 132 RX10 yX10_voyageRefusal wsX10_voyageRefusal) := goodIn_app (goodIn_of _ (by decide +kernel)) ggX10_heard_X10_voyageRefusal
set_option maxRecDepth 20000 in
theorem ggX10_heard_X3_init : GoodIn wsX10_heard wsX3_init := goodIn_r _ [27, 28, 29, 30, 31, 32, 33, 34, 35, 36, 37, 38, 39, 40, 41, 42] (by decide +kernel) (by decide +kernel)
set_option maxRecDepth 20000 in
theorem gX10_heard_X3_init : GoodIn wsX10_heard (wsX3_init) := ggX10_heard_X3_init
theorem dX10_heard_0 : decode cX10_heard 0 = .ok (.aload_n 0, 1) := by decide +kernel
theorem dX10_heard_1 : decode cX10_heard 1 = .ok (.iload_n 1, 1) := by decide +kernel
theorem dX10_heard_2 : decode cX10_heard 2 = .ok (.invokevirtual 103, 3) := by decide +kernel
theorem dX10_heard_5 : decode cX10_heard 5 = .ok (.astore_n 3, 1) := by decide +kernel
theorem dX10_heard_6 : decode cX10_heard 6 = .ok (.aload_n 3, 1) := by decide +kernel
theorem dX10_heard_7 : decode cX10_heard 7 = .ok (.ifnonnull 9, 3) := by decide +kernel
theorem dX10_heard_10 : decode cX10_heard 10 = .ok (.aload_n 0, 1) := by decide +kernel
theorem dX10_heard_11 : decode cX10_heard 11 = .ok (.iconst (-1), 1) := by decide +kernel
theorem dX10_heard_12 : decode cX10_heard 12 = .ok (.invokevirtual 69, 3) := by decide +kernel
theorem dX10_heard_15 : decode cX10_heard 15 = .ok (.ireturn, 1) := by decide +kernel
theorem dX10_heard_16 : decode cX10_heard 16 = .ok (.aload_n 0, 1) := by decide +kernel
theorem dX10_heard_17 : decode cX10_heard 17 = .ok (.aload_n 3, 1) := by decide +kernel
theorem dX10_heard_18 : decode cX10_heard 18 = .ok (.iload_n 2, 1) := by decide +kernel
theorem dX10_heard_19 : decode cX10_heard 19 = .ok (.iconst 0, 1) := by decide +kernel
theorem dX10_heard_20 : decode cX10_heard 20 = .ok (.invokevirtual 132, 3) := by decide +kernel
theorem dX10_heard_23 : decode cX10_heard 23 = .ok (.istore 4, 2) := by decide +kernel
theorem dX10_heard_25 : decode cX10_heard 25 = .ok (.iload 4, 2) := by decide +kernel
theorem dX10_heard_27 : decode cX10_heard 27 = .ok (.ifCond .eq 10, 3) := by decide +kernel
theorem dX10_heard_30 : decode cX10_heard 30 = .ok (.aload_n 0, 1) := by decide +kernel
theorem dX10_heard_31 : decode cX10_heard 31 = .ok (.iload 4, 2) := by decide +kernel
theorem dX10_heard_33 : decode cX10_heard 33 = .ok (.invokevirtual 69, 3) := by decide +kernel
theorem dX10_heard_36 : decode cX10_heard 36 = .ok (.ireturn, 1) := by decide +kernel
theorem dX10_heard_37 : decode cX10_heard 37 = .ok (.aload_n 3, 1) := by decide +kernel
theorem dX10_heard_38 : decode cX10_heard 38 = .ok (.new 142, 3) := by decide +kernel
theorem dX10_heard_41 : decode cX10_heard 41 = .ok (.dup, 1) := by decide +kernel
theorem dX10_heard_42 : decode cX10_heard 42 = .ok (.iconst 3, 1) := by decide +kernel
theorem dX10_heard_43 : decode cX10_heard 43 = .ok (.iload_n 2, 1) := by decide +kernel
theorem dX10_heard_44 : decode cX10_heard 44 = .ok (.aload_n 0, 1) := by decide +kernel
theorem dX10_heard_45 : decode cX10_heard 45 = .ok (.getfield 73, 3) := by decide +kernel
theorem dX10_heard_48 : decode cX10_heard 48 = .ok (.bipush (-9), 2) := by decide +kernel
theorem dX10_heard_50 : decode cX10_heard 50 = .ok (.bipush (-9), 2) := by decide +kernel
theorem dX10_heard_52 : decode cX10_heard 52 = .ok (.aload_n 3, 1) := by decide +kernel
theorem dX10_heard_53 : decode cX10_heard 53 = .ok (.getfield 144, 3) := by decide +kernel
theorem dX10_heard_56 : decode cX10_heard 56 = .ok (.invokespecial 148, 3) := by decide +kernel
theorem dX10_heard_59 : decode cX10_heard 59 = .ok (.putfield 144, 3) := by decide +kernel
theorem dX10_heard_62 : decode cX10_heard 62 = .ok (.aload_n 0, 1) := by decide +kernel
theorem dX10_heard_63 : decode cX10_heard 63 = .ok (.dup, 1) := by decide +kernel
theorem dX10_heard_64 : decode cX10_heard 64 = .ok (.getfield 139, 3) := by decide +kernel
theorem dX10_heard_67 : decode cX10_heard 67 = .ok (.iconst 1, 1) := by decide +kernel
theorem dX10_heard_68 : decode cX10_heard 68 = .ok (.iadd, 1) := by decide +kernel
theorem dX10_heard_69 : decode cX10_heard 69 = .ok (.putfield 139, 3) := by decide +kernel
theorem dX10_heard_72 : decode cX10_heard 72 = .ok (.aload_n 0, 1) := by decide +kernel
theorem dX10_heard_73 : decode cX10_heard 73 = .ok (.getfield 139, 3) := by decide +kernel
theorem dX10_heard_76 : decode cX10_heard 76 = .ok (.ireturn, 1) := by decide +kernel
set_option maxRecDepth 20000 in
theorem ggX10_left_X10_agreementAt : GoodIn wsX10_left wsX10_agreementAt := goodIn_r _ [5, 6, 7, 45, 46, 47, 48, 49, 50, 51, 52, 53, 54, 55, 56, 57, 58, 59, 60] (by decide +kernel) (by decide +kernel)
set_option maxRecDepth 20000 in
theorem gX10_left_X10_agreementAt : GoodIn wsX10_left (wsV RX10 154 RX10 yX10_agreementAt wsX10_agreementAt) := goodIn_app (goodIn_of _ (by decide +kernel)) ggX10_left_X10_agreementAt
set_option maxRecDepth 20000 in
theorem ggX10_left_X10_isPort : GoodIn wsX10_left wsX10_isPort := goodIn_r _ [10] (by decide +kernel) (by decide +kernel)
set_option maxRecDepth 20000 in
theorem gX10_left_X10_isPort : GoodIn wsX10_left (va_wsS RX10 77 yX10_isPort wsX10_isPort) := goodIn_app (goodIn_of _ (by decide +kernel)) ggX10_left_X10_isPort
set_option maxRecDepth 20000 in
theorem ggX10_left_X10_refuse : GoodIn wsX10_left wsX10_refuse := goodIn_r _ [14, 15, 45, 46, 47, 48, 49, 50, 51, 52, 53, 54, 55, 56, 57, 58, 59, 60] (by decide +kernel) (by decide +kernel)
set_option maxRecDepth 20000 in
theorem gX10_left_X10_refuse : GoodIn wsX10_left (wsV RX10 69 RX10 yX10_refuse wsX10_refuse) := goodIn_app (goodIn_of _ (by decide +kernel)) ggX10_left_X10_refuse
set_option maxRecDepth 20000 in
theorem ggX10_left_X10_tidingRefusal : GoodIn wsX10_left wsX10_tidingRefusal := goodIn_r _ [19, 20, 21, 22, 23, 24, 61, 62, 63, 64, 65, 66, 67, 68, 69, 70, 71, 72, 73, 74, 75, 76, 77, 78, 45, 46, 47, 48, 49, 50, 51, 52, 53, 54, 55, 56, 57, 58, 59, 60] (by decide +kernel) (by decide +kernel)
set_option maxRecDepth 20000 in
theorem gX10_left_X10_tidingRefusal : GoodIn wsX10_left (wsV RX10 158 RX10 yX10_tidingRefusal wsX10_tidingRefusal) := goodIn_app (goodIn_of _ (by decide +kernel)) ggX10_left_X10_tidingRefusal
set_option maxRecDepth 20000 in
theorem ggX10_left_X10_addTiding : GoodIn wsX10_left wsX10_addTiding := goodIn_r _ [28, 29, 30, 31, 23, 32, 24, 33, 34, 35, 36, 37, 38, 39, 40, 41, 42, 43, 44, 79, 80, 81, 82, 83, 84, 45, 46, 47, 48, 49, 50, 51, 52, 53, 54, 55, 56, 57, 58, 59, 60, 61, 62, 63, 64, 65, 66, 67, 68, 69, 70, 71, 72, 73, 74, 75, 76, 77, 78] (by decide +kernel) (by decide +kernel)
set_option maxRecDepth 20000 in
theorem gX10_left_X10_addTiding : GoodIn wsX10_left (wsV RX10 162 RX10 yX10_addTiding wsX10_addTiding) := goodIn_app (goodIn_of _ (by decide +kernel)) ggX10_left_X10_addTiding
theorem dX10_left_0 : decode cX10_left 0 = .ok (.aload_n 0, 1) := by decide +kernel
theorem dX10_left_1 : decode cX10_left 1 = .ok (.iload_n 1, 1) := by decide +kernel
theorem dX10_left_2 : decode cX10_left 2 = .ok (.invokevirtual 154, 3) := by decide +kernel
theorem dX10_left_5 : decode cX10_left 5 = .ok (.astore 5, 2) := by decide +kernel
theorem dX10_left_7 : decode cX10_left 7 = .ok (.aload 5, 2) := by decide +kernel
theorem dX10_left_9 : decode cX10_left 9 = .ok (.ifnull 11, 3) := by decide +kernel
theorem dX10_left_12 : decode cX10_left 12 = .ok (.iload 4, 2) := by decide +kernel
theorem dX10_left_14 : decode cX10_left 14 = .ok (.invokestatic 77, 3) := by decide +kernel
theorem dX10_left_17 : decode cX10_left 17 = .ok (.ifCond .ne 9, 3) := by decide +kernel
theorem dX10_left_20 : decode cX10_left 20 = .ok (.aload_n 0, 1) := by decide +kernel
theorem dX10_left_21 : decode cX10_left 21 = .ok (.iconst (-1), 1) := by decide +kernel
theorem dX10_left_22 : decode cX10_left 22 = .ok (.invokevirtual 69, 3) := by decide +kernel
theorem dX10_left_25 : decode cX10_left 25 = .ok (.ireturn, 1) := by decide +kernel
theorem dX10_left_26 : decode cX10_left 26 = .ok (.iload_n 3, 1) := by decide +kernel
theorem dX10_left_27 : decode cX10_left 27 = .ok (.ifCond .lt 8, 3) := by decide +kernel
theorem dX10_left_30 : decode cX10_left 30 = .ok (.iload_n 3, 1) := by decide +kernel
theorem dX10_left_31 : decode cX10_left 31 = .ok (.iconst 2, 1) := by decide +kernel
theorem dX10_left_32 : decode cX10_left 32 = .ok (.if_icmp .le 10, 3) := by decide +kernel
theorem dX10_left_35 : decode cX10_left 35 = .ok (.aload_n 0, 1) := by decide +kernel
theorem dX10_left_36 : decode cX10_left 36 = .ok (.bipush (-2), 2) := by decide +kernel
theorem dX10_left_38 : decode cX10_left 38 = .ok (.invokevirtual 69, 3) := by decide +kernel
theorem dX10_left_41 : decode cX10_left 41 = .ok (.ireturn, 1) := by decide +kernel
theorem dX10_left_42 : decode cX10_left 42 = .ok (.aload_n 0, 1) := by decide +kernel
theorem dX10_left_43 : decode cX10_left 43 = .ok (.aload 5, 2) := by decide +kernel
theorem dX10_left_45 : decode cX10_left 45 = .ok (.iload_n 2, 1) := by decide +kernel
theorem dX10_left_46 : decode cX10_left 46 = .ok (.invokevirtual 158, 3) := by decide +kernel
theorem dX10_left_49 : decode cX10_left 49 = .ok (.istore 6, 2) := by decide +kernel
theorem dX10_left_51 : decode cX10_left 51 = .ok (.iload 6, 2) := by decide +kernel
theorem dX10_left_53 : decode cX10_left 53 = .ok (.ifCond .eq 10, 3) := by decide +kernel
theorem dX10_left_56 : decode cX10_left 56 = .ok (.aload_n 0, 1) := by decide +kernel
theorem dX10_left_57 : decode cX10_left 57 = .ok (.iload 6, 2) := by decide +kernel
theorem dX10_left_59 : decode cX10_left 59 = .ok (.invokevirtual 69, 3) := by decide +kernel
theorem dX10_left_62 : decode cX10_left 62 = .ok (.ireturn, 1) := by decide +kernel
theorem dX10_left_63 : decode cX10_left 63 = .ok (.aload_n 0, 1) := by decide +kernel
theorem dX10_left_64 : decode cX10_left 64 = .ok (.aload 5, 2) := by decide +kernel
theorem dX10_left_66 : decode cX10_left 66 = .ok (.iconst 0, 1) := by decide +kernel
theorem dX10_left_67 : decode cX10_left 67 = .ok (.iload_n 2, 1) := by decide +kernel
theorem dX10_left_68 : decode cX10_left 68 = .ok (.iload_n 3, 1) := by decide +kernel
theorem dX10_left_69 : decode cX10_left 69 = .ok (.iload 4, 2) := by decide +kernel
theorem dX10_left_71 : decode cX10_left 71 = .ok (.invokevirtual 162, 3) := by decide +kernel
theorem dX10_left_74 : decode cX10_left 74 = .ok (.ireturn, 1) := by decide +kernel
set_option maxRecDepth 20000 in
theorem ggX10_died_X10_agreementAt : GoodIn wsX10_died wsX10_agreementAt := goodIn_r _ [6, 7, 8, 61, 62, 63, 64, 65, 66, 67, 68, 69, 70, 71, 72, 73, 74, 75, 76] (by decide +kernel) (by decide +kernel)
set_option maxRecDepth 20000 in
theorem gX10_died_X10_agreementAt : GoodIn wsX10_died (wsV RX10 154 RX10 yX10_agreementAt wsX10_agreementAt) := goodIn_app (goodIn_of _ (by decide +kernel)) ggX10_died_X10_agreementAt
set_option maxRecDepth 20000 in
theorem ggX10_died_X10_refuse : GoodIn wsX10_died wsX10_refuse := goodIn_r _ [12, 13, 61, 62, 63, 64, 65, 66, 67, 68, 69, 70, 71, 72, 73, 74, 75, 76] (by decide +kernel) (by decide +kernel)
set_option maxRecDepth 20000 in
theorem gX10_died_X10_refuse : GoodIn wsX10_died (wsV RX10 69 RX10 yX10_refuse wsX10_refuse) := goodIn_app (goodIn_of _ (by decide +kernel)) ggX10_died_X10_refuse
set_option maxRecDepth 20000 in
theorem ggX10_died_X10_tidingRefusal : GoodIn wsX10_died wsX10_tidingRefusal := goodIn_r _ [17, 18, 19, 20, 21, 22, 43, 44, 45, 46, 47, 48, 49, 50, 51, 52, 53, 54, 55, 56, 57, 58, 59, 60, 61, 62, 63, 64, 65, 66, 67, 68, 69, 70, 71, 72, 73, 74, 75, 76] (by decide +kernel) (by decide +kernel)
set_option maxRecDepth 20000 in
theorem gX10_died_X10_tidingRefusal : GoodIn wsX10_died (wsV RX10 158 RX10 yX10_tidingRefusal wsX10_tidingRefusal) := goodIn_app (goodIn_of _ (by decide +kernel)) ggX10_died_X10_tidingRefusal
set_option maxRecDepth 20000 in
theorem ggX10_died_X10_addTiding : GoodIn wsX10_died wsX10_addTiding := goodIn_r _ [26, 27, 28, 29, 21, 30, 22, 31, 32, 33, 34, 35, 36, 37, 38, 39, 40, 41, 42, 77, 78, 79, 80, 81, 82, 61, 62, 63, 64, 65, 66, 67, 68, 69, 70, 71, 72, 73, 74, 75, 76, 43, 44, 45, 46, 47, 48, 49, 50, 51, 52, 53, 54, 55, 56, 57, 58, 59, 60] (by decide +kernel) (by decide +kernel)
set_option maxRecDepth 20000 in
theorem gX10_died_X10_addTiding : GoodIn wsX10_died (wsV RX10 162 RX10 yX10_addTiding wsX10_addTiding) := goodIn_app (goodIn_of _ (by decide +kernel)) ggX10_died_X10_addTiding
theorem dX10_died_0 : decode cX10_died 0 = .ok (.aload_n 0, 1) := by decide +kernel
theorem dX10_died_1 : decode cX10_died 1 = .ok (.iload_n 1, 1) := by decide +kernel
theorem dX10_died_2 : decode cX10_died 2 = .ok (.invokevirtual 154, 3) := by decide +kernel
theorem dX10_died_5 : decode cX10_died 5 = .ok (.astore_n 3, 1) := by decide +kernel
theorem dX10_died_6 : decode cX10_died 6 = .ok (.aload_n 3, 1) := by decide +kernel
theorem dX10_died_7 : decode cX10_died 7 = .ok (.ifnonnull 9, 3) := by decide +kernel
theorem dX10_died_10 : decode cX10_died 10 = .ok (.aload_n 0, 1) := by decide +kernel
theorem dX10_died_11 : decode cX10_died 11 = .ok (.iconst (-1), 1) := by decide +kernel
theorem dX10_died_12 : decode cX10_died 12 = .ok (.invokevirtual 69, 3) := by decide +kernel
theorem dX10_died_15 : decode cX10_died 15 = .ok (.ireturn, 1) := by decide +kernel
theorem dX10_died_16 : decode cX10_died 16 = .ok (.aload_n 0, 1) := by decide +kernel
theorem dX10_died_17 : decode cX10_died 17 = .ok (.aload_n 3, 1) := by decide +kernel
theorem dX10_died_18 : decode cX10_died 18 = .ok (.iload_n 2, 1) := by decide +kernel
theorem dX10_died_19 : decode cX10_died 19 = .ok (.invokevirtual 158, 3) := by decide +kernel
theorem dX10_died_22 : decode cX10_died 22 = .ok (.istore 4, 2) := by decide +kernel
theorem dX10_died_24 : decode cX10_died 24 = .ok (.iload 4, 2) := by decide +kernel
theorem dX10_died_26 : decode cX10_died 26 = .ok (.ifCond .eq 10, 3) := by decide +kernel
theorem dX10_died_29 : decode cX10_died 29 = .ok (.aload_n 0, 1) := by decide +kernel
theorem dX10_died_30 : decode cX10_died 30 = .ok (.iload 4, 2) := by decide +kernel
theorem dX10_died_32 : decode cX10_died 32 = .ok (.invokevirtual 69, 3) := by decide +kernel
theorem dX10_died_35 : decode cX10_died 35 = .ok (.ireturn, 1) := by decide +kernel
theorem dX10_died_36 : decode cX10_died 36 = .ok (.aload_n 3, 1) := by decide +kernel
theorem dX10_died_37 : decode cX10_died 37 = .ok (.iconst 1, 1) := by decide +kernel
theorem dX10_died_38 : decode cX10_died 38 = .ok (.putfield 166, 3) := by decide +kernel
theorem dX10_died_41 : decode cX10_died 41 = .ok (.aload_n 0, 1) := by decide +kernel
theorem dX10_died_42 : decode cX10_died 42 = .ok (.aload_n 3, 1) := by decide +kernel
theorem dX10_died_43 : decode cX10_died 43 = .ok (.iconst 2, 1) := by decide +kernel
theorem dX10_died_44 : decode cX10_died 44 = .ok (.iload_n 2, 1) := by decide +kernel
theorem dX10_died_45 : decode cX10_died 45 = .ok (.bipush (-9), 2) := by decide +kernel
theorem dX10_died_47 : decode cX10_died 47 = .ok (.bipush (-9), 2) := by decide +kernel
theorem dX10_died_49 : decode cX10_died 49 = .ok (.invokevirtual 162, 3) := by decide +kernel
theorem dX10_died_52 : decode cX10_died 52 = .ok (.ireturn, 1) := by decide +kernel
set_option maxRecDepth 20000 in
theorem ggX10_back_X10_agreementAt : GoodIn wsX10_back wsX10_agreementAt := goodIn_r _ [5, 6, 7, 42, 43, 44, 45, 46, 47, 48, 49, 50, 51, 52, 53, 54, 55, 56, 57] (by decide +kernel) (by decide +kernel)
set_option maxRecDepth 20000 in
theorem gX10_back_X10_agreementAt : GoodIn wsX10_back (wsV RX10 154 RX10 yX10_agreementAt wsX10_agreementAt) := goodIn_app (goodIn_of _ (by decide +kernel)) ggX10_back_X10_agreementAt
set_option maxRecDepth 20000 in
theorem ggX10_back_X10_refuse : GoodIn wsX10_back wsX10_refuse := goodIn_r _ [11, 12, 42, 43, 44, 45, 46, 47, 48, 49, 50, 51, 52, 53, 54, 55, 56, 57] (by decide +kernel) (by decide +kernel)
set_option maxRecDepth 20000 in
theorem gX10_back_X10_refuse : GoodIn wsX10_back (wsV RX10 69 RX10 yX10_refuse wsX10_refuse) := goodIn_app (goodIn_of _ (by decide +kernel)) ggX10_back_X10_refuse
set_option maxRecDepth 20000 in
theorem ggX10_back_X10_tidingRefusal : GoodIn wsX10_back wsX10_tidingRefusal := goodIn_r _ [16, 17, 18, 19, 20, 21, 58, 59, 60, 61, 62, 63, 64, 65, 66, 67, 68, 69, 70, 71, 72, 73, 74, 75, 42, 43, 44, 45, 46, 47, 48, 49, 50, 51, 52, 53, 54, 55, 56, 57] (by decide +kernel) (by decide +kernel)
set_option maxRecDepth 20000 in
theorem gX10_back_X10_tidingRefusal : GoodIn wsX10_back (wsV RX10 158 RX10 yX10_tidingRefusal wsX10_tidingRefusal) := goodIn_app (goodIn_of _ (by decide +kernel)) ggX10_back_X10_tidingRefusal
set_option maxRecDepth 20000 in
theorem ggX10_back_X10_addTiding : GoodIn wsX10_back wsX10_addTiding := goodIn_r _ [25, 26, 27, 28, 20, 29, 21, 30, 31, 32, 33, 34, 35, 36, 37, 38, 39, 40, 41, 76, 77, 78, 79, 80, 81, 42, 43, 44, 45, 46, 47, 48, 49, 50, 51, 52, 53, 54, 55, 56, 57, 58, 59, 60, 61, 62, 63, 64, 65, 66, 67, 68, 69, 70, 71, 72, 73, 74, 75] (by decide +kernel) (by decide +kernel)
set_option maxRecDepth 20000 in
theorem gX10_back_X10_addTiding : GoodIn wsX10_back (wsV RX10 162 RX10 yX10_addTiding wsX10_addTiding) := goodIn_app (goodIn_of _ (by decide +kernel)) ggX10_back_X10_addTiding
theorem dX10_back_0 : decode cX10_back 0 = .ok (.aload_n 0, 1) := by decide +kernel
theorem dX10_back_1 : decode cX10_back 1 = .ok (.iload_n 1, 1) := by decide +kernel
theorem dX10_back_2 : decode cX10_back 2 = .ok (.invokevirtual 154, 3) := by decide +kernel
theorem dX10_back_5 : decode cX10_back 5 = .ok (.astore_n 3, 1) := by decide +kernel
theorem dX10_back_6 : decode cX10_back 6 = .ok (.aload_n 3, 1) := by decide +kernel
theorem dX10_back_7 : decode cX10_back 7 = .ok (.ifnonnull 9, 3) := by decide +kernel
theorem dX10_back_10 : decode cX10_back 10 = .ok (.aload_n 0, 1) := by decide +kernel
theorem dX10_back_11 : decode cX10_back 11 = .ok (.iconst (-1), 1) := by decide +kernel
theorem dX10_back_12 : decode cX10_back 12 = .ok (.invokevirtual 69, 3) := by decide +kernel
theorem dX10_back_15 : decode cX10_back 15 = .ok (.ireturn, 1) := by decide +kernel
theorem dX10_back_16 : decode cX10_back 16 = .ok (.aload_n 0, 1) := by decide +kernel
theorem dX10_back_17 : decode cX10_back 17 = .ok (.aload_n 3, 1) := by decide +kernel
theorem dX10_back_18 : decode cX10_back 18 = .ok (.iload_n 2, 1) := by decide +kernel
theorem dX10_back_19 : decode cX10_back 19 = .ok (.invokevirtual 158, 3) := by decide +kernel
theorem dX10_back_22 : decode cX10_back 22 = .ok (.istore 4, 2) := by decide +kernel
theorem dX10_back_24 : decode cX10_back 24 = .ok (.iload 4, 2) := by decide +kernel
theorem dX10_back_26 : decode cX10_back 26 = .ok (.ifCond .eq 10, 3) := by decide +kernel
theorem dX10_back_29 : decode cX10_back 29 = .ok (.aload_n 0, 1) := by decide +kernel
theorem dX10_back_30 : decode cX10_back 30 = .ok (.iload 4, 2) := by decide +kernel
theorem dX10_back_32 : decode cX10_back 32 = .ok (.invokevirtual 69, 3) := by decide +kernel
theorem dX10_back_35 : decode cX10_back 35 = .ok (.ireturn, 1) := by decide +kernel
theorem dX10_back_36 : decode cX10_back 36 = .ok (.aload_n 0, 1) := by decide +kernel
theorem dX10_back_37 : decode cX10_back 37 = .ok (.aload_n 3, 1) := by decide +kernel
theorem dX10_back_38 : decode cX10_back 38 = .ok (.iconst 1, 1) := by decide +kernel
theorem dX10_back_39 : decode cX10_back 39 = .ok (.iload_n 2, 1) := by decide +kernel
theorem dX10_back_40 : decode cX10_back 40 = .ok (.bipush (-9), 2) := by decide +kernel
theorem dX10_back_42 : decode cX10_back 42 = .ok (.bipush (-9), 2) := by decide +kernel
theorem dX10_back_44 : decode cX10_back 44 = .ok (.invokevirtual 162, 3) := by decide +kernel
theorem dX10_back_47 : decode cX10_back 47 = .ok (.ireturn, 1) := by decide +kernel
set_option maxRecDepth 20000 in
theorem ggX10_sign_X10_manAt : GoodIn wsX10_sign wsX10_manAt := goodIn_r _ [15, 16, 17, 113, 114, 115, 116, 117, 118, 119, 120, 121, 122, 123, 124, 125, 126, 127, 128] (by decide +kernel) (by decide +kernel)
set_option maxRecDepth 20000 in
theorem gX10_sign_X10_manAt : GoodIn wsX10_sign (wsV RX10 205 RX10 yX10_manAt wsX10_manAt) := goodIn_app (goodIn_of _ (by decide +kernel)) ggX10_sign_X10_manAt
set_option maxRecDepth 20000 in
theorem ggX10_sign_X10_voyageAt : GoodIn wsX10_sign wsX10_voyageAt := goodIn_r _ [21, 22, 23, 113, 114, 115, 116, 117, 118, 119, 120, 121, 122, 123, 124, 125, 126, 127, 128] (by decide +kernel) (by decide +kernel)
set_option maxRecDepth 20000 in
theorem gX10_sign_X10_voyageAt : GoodIn wsX10_sign (wsV RX10 103 RX10 yX10_voyageAt wsX10_voyageAt) := goodIn_app (goodIn_of _ (by decide +kernel)) ggX10_sign_X10_voyageAt
set_option maxRecDepth 20000 in
theorem ggX10_sign_X10_agreementAt : GoodIn wsX10_sign wsX10_agreementAt := goodIn_r _ [27, 1, 10, 113, 114, 115, 116, 117, 118, 119, 120, 121, 122, 123, 124, 125, 126, 127, 128] (by decide +kernel) (by decide +kernel)
set_option maxRecDepth 20000 in
theorem gX10_sign_X10_agreementAt : GoodIn wsX10_sign (wsV RX10 154 RX10 yX10_agreementAt wsX10_agreementAt) := goodIn_app (goodIn_of _ (by decide +kernel)) ggX10_sign_X10_agreementAt
set_option maxRecDepth 20000 in
theorem ggX10_sign_X10_refuse : GoodIn wsX10_sign wsX10_refuse := goodIn_r _ [31, 32, 113, 114, 115, 116, 117, 118, 119, 120, 121, 122, 123, 124, 125, 126, 127, 128] (by decide +kernel) (by decide +kernel)
set_option maxRecDepth 20000 in
theorem gX10_sign_X10_refuse : GoodIn wsX10_sign (wsV RX10 69 RX10 yX10_refuse wsX10_refuse) := goodIn_app (goodIn_of _ (by decide +kernel)) ggX10_sign_X10_refuse
set_option maxRecDepth 20000 in
theorem ggX10_sign_X9_takesHands : GoodIn wsX10_sign wsX9_takesHands := goodIn_r _ [37, 38, 39, 40, 41, 147, 148, 149, 150, 151, 152, 153, 154, 155, 156] (by decide +kernel) (by decide +kernel)
set_option maxRecDepth 20000 in
theorem gX10_sign_X9_takesHands : GoodIn wsX10_sign (wsV RX10 209 RX9 yX9_takesHands wsX9_takesHands) := goodIn_app (goodIn_of _ (by decide +kernel)) ggX10_sign_X9_takesHands
set_option maxRecDepth 20000 in
theorem ggX10_sign_X10_isFree : GoodIn wsX10_sign wsX10_isFree := goodIn_r _ [45, 1, 10, 46, 47, 48, 49, 6, 50, 51, 52, 53, 54, 55, 113, 114, 115, 116, 117, 118, 119, 120, 121, 122, 123, 124, 125, 126, 127, 128, 129, 130, 131, 132, 133, 134, 135, 136, 137, 138, 139, 140, 141, 142, 143, 144, 145, 146, 147, 148, 149, 150, 151, 152, 153, 154, 155, 156] (by decide +kernel) (by decide +kernel)
set_option maxRecDepth 20000 in
theorem gX10_sign_X10_isFree : GoodIn wsX10_sign (wsV RX10 212 RX10 yX10_isFree wsX10_isFree) := goodIn_app (goodIn_of _ (by decide +kernel)) ggX10_sign_X10_isFree
set_option maxRecDepth 20000 in
theorem ggX10_sign_X10_signWorth : GoodIn wsX10_sign wsX10_signWorth := goodIn_r _ [59, 60, 7, 61, 62, 63, 64, 65, 66, 67, 68, 69, 70, 71, 72, 73, 74, 75, 76, 77, 78, 79, 80, 81, 82, 83, 84, 85, 86, 87, 88, 89, 90, 91, 92, 93, 94, 95, 96, 97, 98, 113, 114, 115, 116, 117, 118, 119, 120, 121, 122, 123, 124, 125, 126, 127, 128, 157, 158, 159, 160, 161, 162, 163, 164, 165, 166, 167, 168, 169, 170] (by decide +kernel) (by decide +kernel)
set_option maxRecDepth 20000 in
theorem gX10_sign_X10_signWorth : GoodIn wsX10_sign (wsV RX10 216 RX10 yX10_signWorth wsX10_signWorth) := goodIn_app (goodIn_of _ (by decide +kernel)) ggX10_sign_X10_signWorth
set_option maxRecDepth 20000 in
theorem ggX10_sign_X1_init : GoodIn wsX10_sign wsX1_init := goodIn_r _ [101, 102, 103, 104, 52, 51, 105, 106, 107, 108, 109, 110, 54, 111, 112, 129, 130, 131, 132, 133, 134, 135, 136, 137, 138, 139, 140, 141, 142, 143, 144, 145, 146] (by decide +kernel) (by decide +kernel)
set_option maxRecDepth 20000 in
theorem gX10_sign_X1_init : GoodIn wsX10_sign (wsX1_init) := ggX10_sign_X1_init
theorem dX10_sign_0 : decode cX10_sign 0 = .ok (.aload_n 0, 1) := by decide +kernel
theorem dX10_sign_1 : decode cX10_sign 1 = .ok (.iload_n 1, 1) := by decide +kernel
theorem dX10_sign_2 : decode cX10_sign 2 = .ok (.invokevirtual 205, 3) := by decide +kernel
theorem dX10_sign_5 : decode cX10_sign 5 = .ok (.astore 6, 2) := by decide +kernel
theorem dX10_sign_7 : decode cX10_sign 7 = .ok (.aload_n 0, 1) := by decide +kernel
theorem dX10_sign_8 : decode cX10_sign 8 = .ok (.iload_n 2, 1) := by decide +kernel
theorem dX10_sign_9 : decode cX10_sign 9 = .ok (.invokevirtual 103, 3) := by decide +kernel
theorem dX10_sign_12 : decode cX10_sign 12 = .ok (.astore 7, 2) := by decide +kernel
theorem dX10_sign_14 : decode cX10_sign 14 = .ok (.aload_n 0, 1) := by decide +kernel
theorem dX10_sign_15 : decode cX10_sign 15 = .ok (.iload 5, 2) := by decide +kernel
theorem dX10_sign_17 : decode cX10_sign 17 = .ok (.invokevirtual 154, 3) := by decide +kernel
theorem dX10_sign_20 : decode cX10_sign 20 = .ok (.astore 8, 2) := by decide +kernel
theorem dX10_sign_22 : decode cX10_sign 22 = .ok (.aload 6, 2) := by decide +kernel
theorem dX10_sign_24 : decode cX10_sign 24 = .ok (.ifnull 19, 3) := by decide +kernel
theorem dX10_sign_27 : decode cX10_sign 27 = .ok (.aload 7, 2) := by decide +kernel
theorem dX10_sign_29 : decode cX10_sign 29 = .ok (.ifnull 14, 3) := by decide +kernel
theorem dX10_sign_32 : decode cX10_sign 32 = .ok (.aload 8, 2) := by decide +kernel
theorem dX10_sign_34 : decode cX10_sign 34 = .ok (.ifnonnull 15, 3) := by decide +kernel
theorem dX10_sign_37 : decode cX10_sign 37 = .ok (.iload 5, 2) := by decide +kernel
theorem dX10_sign_39 : decode cX10_sign 39 = .ok (.iconst (-1), 1) := by decide +kernel
theorem dX10_sign_40 : decode cX10_sign 40 = .ok (.if_icmp .eq 9, 3) := by decide +kernel
theorem dX10_sign_43 : decode cX10_sign 43 = .ok (.aload_n 0, 1) := by decide +kernel
theorem dX10_sign_44 : decode cX10_sign 44 = .ok (.iconst (-1), 1) := by decide +kernel
theorem dX10_sign_45 : decode cX10_sign 45 = .ok (.invokevirtual 69, 3) := by decide +kernel
theorem dX10_sign_48 : decode cX10_sign 48 = .ok (.ireturn, 1) := by decide +kernel
theorem dX10_sign_49 : decode cX10_sign 49 = .ok (.iload_n 3, 1) := by decide +kernel
theorem dX10_sign_50 : decode cX10_sign 50 = .ok (.iconst 1, 1) := by decide +kernel
theorem dX10_sign_51 : decode cX10_sign 51 = .ok (.if_icmp .lt 8, 3) := by decide +kernel
theorem dX10_sign_54 : decode cX10_sign 54 = .ok (.iload 4, 2) := by decide +kernel
theorem dX10_sign_56 : decode cX10_sign 56 = .ok (.ifCond .ge 10, 3) := by decide +kernel
theorem dX10_sign_59 : decode cX10_sign 59 = .ok (.aload_n 0, 1) := by decide +kernel
theorem dX10_sign_60 : decode cX10_sign 60 = .ok (.bipush (-4), 2) := by decide +kernel
theorem dX10_sign_62 : decode cX10_sign 62 = .ok (.invokevirtual 69, 3) := by decide +kernel
theorem dX10_sign_65 : decode cX10_sign 65 = .ok (.ireturn, 1) := by decide +kernel
theorem dX10_sign_66 : decode cX10_sign 66 = .ok (.iload_n 3, 1) := by decide +kernel
theorem dX10_sign_67 : decode cX10_sign 67 = .ok (.sipush 9999, 3) := by decide +kernel
theorem dX10_sign_70 : decode cX10_sign 70 = .ok (.if_icmp .gt 18, 3) := by decide +kernel
theorem dX10_sign_73 : decode cX10_sign 73 = .ok (.iload 4, 2) := by decide +kernel
theorem dX10_sign_75 : decode cX10_sign 75 = .ok (.iconst 4, 1) := by decide +kernel
theorem dX10_sign_76 : decode cX10_sign 76 = .ok (.if_icmp .ge 12, 3) := by decide +kernel
theorem dX10_sign_79 : decode cX10_sign 79 = .ok (.aload_n 0, 1) := by decide +kernel
theorem dX10_sign_80 : decode cX10_sign 80 = .ok (.getfield 115, 3) := by decide +kernel
theorem dX10_sign_83 : decode cX10_sign 83 = .ok (.bipush 60, 2) := by decide +kernel
theorem dX10_sign_85 : decode cX10_sign 85 = .ok (.if_icmp .lt 10, 3) := by decide +kernel
theorem dX10_sign_88 : decode cX10_sign 88 = .ok (.aload_n 0, 1) := by decide +kernel
theorem dX10_sign_89 : decode cX10_sign 89 = .ok (.bipush (-6), 2) := by decide +kernel
theorem dX10_sign_91 : decode cX10_sign 91 = .ok (.invokevirtual 69, 3) := by decide +kernel
theorem dX10_sign_94 : decode cX10_sign 94 = .ok (.ireturn, 1) := by decide +kernel
theorem dX10_sign_95 : decode cX10_sign 95 = .ok (.aload 8, 2) := by decide +kernel
theorem dX10_sign_97 : decode cX10_sign 97 = .ok (.ifnull 13, 3) := by decide +kernel
theorem dX10_sign_100 : decode cX10_sign 100 = .ok (.aload 8, 2) := by decide +kernel
theorem dX10_sign_102 : decode cX10_sign 102 = .ok (.getfield 126, 3) := by decide +kernel
theorem dX10_sign_105 : decode cX10_sign 105 = .ok (.ldc 114, 2) := by decide +kernel
theorem dX10_sign_107 : decode cX10_sign 107 = .ok (.if_icmp .eq 7, 3) := by decide +kernel
theorem dX10_sign_110 : decode cX10_sign 110 = .ok (.iconst 1, 1) := by decide +kernel
theorem dX10_sign_111 : decode cX10_sign 111 = .ok (.goto 4, 3) := by decide +kernel
theorem dX10_sign_114 : decode cX10_sign 114 = .ok (.iconst 0, 1) := by decide +kernel
theorem dX10_sign_115 : decode cX10_sign 115 = .ok (.istore 9, 2) := by decide +kernel
theorem dX10_sign_117 : decode cX10_sign 117 = .ok (.aload 7, 2) := by decide +kernel
theorem dX10_sign_119 : decode cX10_sign 119 = .ok (.invokevirtual 209, 3) := by decide +kernel
theorem dX10_sign_122 : decode cX10_sign 122 = .ok (.ifCond .eq 29, 3) := by decide +kernel
theorem dX10_sign_125 : decode cX10_sign 125 = .ok (.aload_n 0, 1) := by decide +kernel
theorem dX10_sign_126 : decode cX10_sign 126 = .ok (.aload 6, 2) := by decide +kernel
theorem dX10_sign_128 : decode cX10_sign 128 = .ok (.invokevirtual 212, 3) := by decide +kernel
theorem dX10_sign_131 : decode cX10_sign 131 = .ok (.ifCond .eq 20, 3) := by decide +kernel
theorem dX10_sign_134 : decode cX10_sign 134 = .ok (.iload 9, 2) := by decide +kernel
theorem dX10_sign_136 : decode cX10_sign 136 = .ok (.ifCond .eq 15, 3) := by decide +kernel
theorem dX10_sign_139 : decode cX10_sign 139 = .ok (.aload_n 0, 1) := by decide +kernel
theorem dX10_sign_140 : decode cX10_sign 140 = .ok (.aload 6, 2) := by decide +kernel
theorem dX10_sign_142 : decode cX10_sign 142 = .ok (.iload_n 3, 1) := by decide +kernel
theorem dX10_sign_143 : decode cX10_sign 143 = .ok (.iload 4, 2) := by decide +kernel
theorem dX10_sign_145 : decode cX10_sign 145 = .ok (.invokevirtual 216, 3) := by decide +kernel
theorem dX10_sign_148 : decode cX10_sign 148 = .ok (.ifCond .gt 10, 3) := by decide +kernel
theorem dX10_sign_151 : decode cX10_sign 151 = .ok (.aload_n 0, 1) := by decide +kernel
theorem dX10_sign_152 : decode cX10_sign 152 = .ok (.bipush (-3), 2) := by decide +kernel
theorem dX10_sign_154 : decode cX10_sign 154 = .ok (.invokevirtual 69, 3) := by decide +kernel
theorem dX10_sign_157 : decode cX10_sign 157 = .ok (.ireturn, 1) := by decide +kernel
theorem dX10_sign_158 : decode cX10_sign 158 = .ok (.new 21, 3) := by decide +kernel
theorem dX10_sign_161 : decode cX10_sign 161 = .ok (.dup, 1) := by decide +kernel
theorem dX10_sign_162 : decode cX10_sign 162 = .ok (.aload 6, 2) := by decide +kernel
theorem dX10_sign_164 : decode cX10_sign 164 = .ok (.aload 7, 2) := by decide +kernel
theorem dX10_sign_166 : decode cX10_sign 166 = .ok (.aload_n 0, 1) := by decide +kernel
theorem dX10_sign_167 : decode cX10_sign 167 = .ok (.getfield 73, 3) := by decide +kernel
theorem dX10_sign_170 : decode cX10_sign 170 = .ok (.aload 8, 2) := by decide +kernel
theorem dX10_sign_172 : decode cX10_sign 172 = .ok (.invokespecial 220, 3) := by decide +kernel
theorem dX10_sign_175 : decode cX10_sign 175 = .ok (.astore 10, 2) := by decide +kernel
theorem dX10_sign_177 : decode cX10_sign 177 = .ok (.aload 10, 2) := by decide +kernel
theorem dX10_sign_179 : decode cX10_sign 179 = .ok (.iload_n 3, 1) := by decide +kernel
theorem dX10_sign_180 : decode cX10_sign 180 = .ok (.putfield 223, 3) := by decide +kernel
theorem dX10_sign_183 : decode cX10_sign 183 = .ok (.aload 10, 2) := by decide +kernel
theorem dX10_sign_185 : decode cX10_sign 185 = .ok (.iload 4, 2) := by decide +kernel
theorem dX10_sign_187 : decode cX10_sign 187 = .ok (.putfield 226, 3) := by decide +kernel
theorem dX10_sign_190 : decode cX10_sign 190 = .ok (.aload_n 0, 1) := by decide +kernel
theorem dX10_sign_191 : decode cX10_sign 191 = .ok (.getfield 23, 3) := by decide +kernel
theorem dX10_sign_194 : decode cX10_sign 194 = .ok (.aload_n 0, 1) := by decide +kernel
theorem dX10_sign_195 : decode cX10_sign 195 = .ok (.getfield 115, 3) := by decide +kernel
theorem dX10_sign_198 : decode cX10_sign 198 = .ok (.aload 10, 2) := by decide +kernel
theorem dX10_sign_200 : decode cX10_sign 200 = .ok (.aastore, 1) := by decide +kernel
theorem dX10_sign_201 : decode cX10_sign 201 = .ok (.aload_n 0, 1) := by decide +kernel
theorem dX10_sign_202 : decode cX10_sign 202 = .ok (.dup, 1) := by decide +kernel
theorem dX10_sign_203 : decode cX10_sign 203 = .ok (.getfield 115, 3) := by decide +kernel
theorem dX10_sign_206 : decode cX10_sign 206 = .ok (.iconst 1, 1) := by decide +kernel
theorem dX10_sign_207 : decode cX10_sign 207 = .ok (.iadd, 1) := by decide +kernel
theorem dX10_sign_208 : decode cX10_sign 208 = .ok (.putfield 115, 3) := by decide +kernel
theorem dX10_sign_211 : decode cX10_sign 211 = .ok (.aload_n 0, 1) := by decide +kernel
theorem dX10_sign_212 : decode cX10_sign 212 = .ok (.getfield 115, 3) := by decide +kernel
theorem dX10_sign_215 : decode cX10_sign 215 = .ok (.iconst 1, 1) := by decide +kernel
theorem dX10_sign_216 : decode cX10_sign 216 = .ok (.isub, 1) := by decide +kernel
theorem dX10_sign_217 : decode cX10_sign 217 = .ok (.ireturn, 1) := by decide +kernel
set_option maxRecDepth 20000 in
theorem ggX10_fine_X10_agreementAt : GoodIn wsX10_fine wsX10_agreementAt := goodIn_r _ [14, 15, 16, 49, 50, 51, 52, 53, 54, 55, 56, 57, 58, 59, 60, 61, 62, 63, 64] (by decide +kernel) (by decide +kernel)
set_option maxRecDepth 20000 in
theorem gX10_fine_X10_agreementAt : GoodIn wsX10_fine (wsV RX10 154 RX10 yX10_agreementAt wsX10_agreementAt) := goodIn_app (goodIn_of _ (by decide +kernel)) ggX10_fine_X10_agreementAt
set_option maxRecDepth 20000 in
theorem ggX10_fine_X10_refuse : GoodIn wsX10_fine wsX10_refuse := goodIn_r _ [20, 21, 49, 50, 51, 52, 53, 54, 55, 56, 57, 58, 59, 60, 61, 62, 63, 64] (by decide +kernel) (by decide +kernel)
set_option maxRecDepth 20000 in
theorem gX10_fine_X10_refuse : GoodIn wsX10_fine (wsV RX10 69 RX10 yX10_refuse wsX10_refuse) := goodIn_app (goodIn_of _ (by decide +kernel)) ggX10_fine_X10_refuse
set_option maxRecDepth 20000 in
theorem ggX10_fine_X2_init : GoodIn wsX10_fine wsX2_init := goodIn_r _ [24, 25, 26, 27, 28, 29, 30, 65, 66, 67] (by decide +kernel) (by decide +kernel)
set_option maxRecDepth 20000 in
theorem gX10_fine_X2_init : GoodIn wsX10_fine (wsX2_init) := ggX10_fine_X2_init
theorem dX10_fine_0 : decode cX10_fine 0 = .ok (.aload_n 0, 1) := by decide +kernel
theorem dX10_fine_1 : decode cX10_fine 1 = .ok (.iload_n 1, 1) := by decide +kernel
theorem dX10_fine_2 : decode cX10_fine 2 = .ok (.invokevirtual 154, 3) := by decide +kernel
theorem dX10_fine_5 : decode cX10_fine 5 = .ok (.astore 5, 2) := by decide +kernel
theorem dX10_fine_7 : decode cX10_fine 7 = .ok (.aload 5, 2) := by decide +kernel
theorem dX10_fine_9 : decode cX10_fine 9 = .ok (.ifnonnull 9, 3) := by decide +kernel
theorem dX10_fine_12 : decode cX10_fine 12 = .ok (.aload_n 0, 1) := by decide +kernel
theorem dX10_fine_13 : decode cX10_fine 13 = .ok (.iconst (-1), 1) := by decide +kernel
theorem dX10_fine_14 : decode cX10_fine 14 = .ok (.invokevirtual 69, 3) := by decide +kernel
theorem dX10_fine_17 : decode cX10_fine 17 = .ok (.ireturn, 1) := by decide +kernel
theorem dX10_fine_18 : decode cX10_fine 18 = .ok (.aload 5, 2) := by decide +kernel
theorem dX10_fine_20 : decode cX10_fine 20 = .ok (.getfield 126, 3) := by decide +kernel
theorem dX10_fine_23 : decode cX10_fine 23 = .ok (.ldc 114, 2) := by decide +kernel
theorem dX10_fine_25 : decode cX10_fine 25 = .ok (.if_icmp .eq 10, 3) := by decide +kernel
theorem dX10_fine_28 : decode cX10_fine 28 = .ok (.aload_n 0, 1) := by decide +kernel
theorem dX10_fine_29 : decode cX10_fine 29 = .ok (.bipush (-3), 2) := by decide +kernel
theorem dX10_fine_31 : decode cX10_fine 31 = .ok (.invokevirtual 69, 3) := by decide +kernel
theorem dX10_fine_34 : decode cX10_fine 34 = .ok (.ireturn, 1) := by decide +kernel
theorem dX10_fine_35 : decode cX10_fine 35 = .ok (.iload_n 2, 1) := by decide +kernel
theorem dX10_fine_36 : decode cX10_fine 36 = .ok (.aload 5, 2) := by decide +kernel
theorem dX10_fine_38 : decode cX10_fine 38 = .ok (.getfield 255, 3) := by decide +kernel
theorem dX10_fine_41 : decode cX10_fine 41 = .ok (.if_icmp .lt 8, 3) := by decide +kernel
theorem dX10_fine_44 : decode cX10_fine 44 = .ok (.iload_n 3, 1) := by decide +kernel
theorem dX10_fine_45 : decode cX10_fine 45 = .ok (.iconst 1, 1) := by decide +kernel
theorem dX10_fine_46 : decode cX10_fine 46 = .ok (.if_icmp .ge 10, 3) := by decide +kernel
theorem dX10_fine_49 : decode cX10_fine 49 = .ok (.aload_n 0, 1) := by decide +kernel
theorem dX10_fine_50 : decode cX10_fine 50 = .ok (.bipush (-4), 2) := by decide +kernel
theorem dX10_fine_52 : decode cX10_fine 52 = .ok (.invokevirtual 69, 3) := by decide +kernel
theorem dX10_fine_55 : decode cX10_fine 55 = .ok (.ireturn, 1) := by decide +kernel
theorem dX10_fine_56 : decode cX10_fine 56 = .ok (.iload_n 2, 1) := by decide +kernel
theorem dX10_fine_57 : decode cX10_fine 57 = .ok (.aload_n 0, 1) := by decide +kernel
theorem dX10_fine_58 : decode cX10_fine 58 = .ok (.getfield 73, 3) := by decide +kernel
theorem dX10_fine_61 : decode cX10_fine 61 = .ok (.if_icmp .gt 20, 3) := by decide +kernel
theorem dX10_fine_64 : decode cX10_fine 64 = .ok (.iload_n 3, 1) := by decide +kernel
theorem dX10_fine_65 : decode cX10_fine 65 = .ok (.sipush 9999, 3) := by decide +kernel
theorem dX10_fine_68 : decode cX10_fine 68 = .ok (.if_icmp .gt 13, 3) := by decide +kernel
theorem dX10_fine_71 : decode cX10_fine 71 = .ok (.aload 5, 2) := by decide +kernel
theorem dX10_fine_73 : decode cX10_fine 73 = .ok (.getfield 258, 3) := by decide +kernel
theorem dX10_fine_76 : decode cX10_fine 76 = .ok (.bipush 6, 2) := by decide +kernel
theorem dX10_fine_78 : decode cX10_fine 78 = .ok (.if_icmp .lt 10, 3) := by decide +kernel
theorem dX10_fine_81 : decode cX10_fine 81 = .ok (.aload_n 0, 1) := by decide +kernel
theorem dX10_fine_82 : decode cX10_fine 82 = .ok (.bipush (-6), 2) := by decide +kernel
theorem dX10_fine_84 : decode cX10_fine 84 = .ok (.invokevirtual 69, 3) := by decide +kernel
theorem dX10_fine_87 : decode cX10_fine 87 = .ok (.ireturn, 1) := by decide +kernel
theorem dX10_fine_88 : decode cX10_fine 88 = .ok (.aload 5, 2) := by decide +kernel
theorem dX10_fine_90 : decode cX10_fine 90 = .ok (.getfield 261, 3) := by decide +kernel
theorem dX10_fine_93 : decode cX10_fine 93 = .ok (.aload 5, 2) := by decide +kernel
theorem dX10_fine_95 : decode cX10_fine 95 = .ok (.getfield 258, 3) := by decide +kernel
theorem dX10_fine_98 : decode cX10_fine 98 = .ok (.new 265, 3) := by decide +kernel
theorem dX10_fine_101 : decode cX10_fine 101 = .ok (.dup, 1) := by decide +kernel
theorem dX10_fine_102 : decode cX10_fine 102 = .ok (.iload_n 2, 1) := by decide +kernel
theorem dX10_fine_103 : decode cX10_fine 103 = .ok (.iload_n 3, 1) := by decide +kernel
theorem dX10_fine_104 : decode cX10_fine 104 = .ok (.iload 4, 2) := by decide +kernel
theorem dX10_fine_106 : decode cX10_fine 106 = .ok (.invokespecial 267, 3) := by decide +kernel
theorem dX10_fine_109 : decode cX10_fine 109 = .ok (.aastore, 1) := by decide +kernel
theorem dX10_fine_110 : decode cX10_fine 110 = .ok (.aload 5, 2) := by decide +kernel
theorem dX10_fine_112 : decode cX10_fine 112 = .ok (.dup, 1) := by decide +kernel
theorem dX10_fine_113 : decode cX10_fine 113 = .ok (.getfield 258, 3) := by decide +kernel
theorem dX10_fine_116 : decode cX10_fine 116 = .ok (.iconst 1, 1) := by decide +kernel
theorem dX10_fine_117 : decode cX10_fine 117 = .ok (.iadd, 1) := by decide +kernel
theorem dX10_fine_118 : decode cX10_fine 118 = .ok (.putfield 258, 3) := by decide +kernel
theorem dX10_fine_121 : decode cX10_fine 121 = .ok (.aload 5, 2) := by decide +kernel
theorem dX10_fine_123 : decode cX10_fine 123 = .ok (.getfield 258, 3) := by decide +kernel
theorem dX10_fine_126 : decode cX10_fine 126 = .ok (.ireturn, 1) := by decide +kernel
set_option maxRecDepth 20000 in
theorem ggX10_addTiding_X3_init : GoodIn wsX10_addTiding wsX3_init := goodIn_r _ [9, 10, 11, 12, 13, 14, 15, 16, 17, 18, 19, 20, 21, 22, 23, 24] (by decide +kernel) (by decide +kernel)
set_option maxRecDepth 20000 in
theorem gX10_addTiding_X3_init : GoodIn wsX10_addTiding (wsX3_init) := ggX10_addTiding_X3_init
theorem dX10_addTiding_0 : decode cX10_addTiding 0 = .ok (.aload_n 1, 1) := by decide +kernel
theorem dX10_addTiding_1 : decode cX10_addTiding 1 = .ok (.new 142, 3) := by decide +kernel
theorem dX10_addTiding_4 : decode cX10_addTiding 4 = .ok (.dup, 1) := by decide +kernel
theorem dX10_addTiding_5 : decode cX10_addTiding 5 = .ok (.iload_n 2, 1) := by decide +kernel
theorem dX10_addTiding_6 : decode cX10_addTiding 6 = .ok (.iload_n 3, 1) := by decide +kernel
theorem dX10_addTiding_7 : decode cX10_addTiding 7 = .ok (.aload_n 0, 1) := by decide +kernel
theorem dX10_addTiding_8 : decode cX10_addTiding 8 = .ok (.getfield 73, 3) := by decide +kernel
theorem dX10_addTiding_11 : decode cX10_addTiding 11 = .ok (.iload 4, 2) := by decide +kernel
theorem dX10_addTiding_13 : decode cX10_addTiding 13 = .ok (.iload 5, 2) := by decide +kernel
theorem dX10_addTiding_15 : decode cX10_addTiding 15 = .ok (.aload_n 1, 1) := by decide +kernel
theorem dX10_addTiding_16 : decode cX10_addTiding 16 = .ok (.getfield 368, 3) := by decide +kernel
theorem dX10_addTiding_19 : decode cX10_addTiding 19 = .ok (.invokespecial 148, 3) := by decide +kernel
theorem dX10_addTiding_22 : decode cX10_addTiding 22 = .ok (.putfield 368, 3) := by decide +kernel
theorem dX10_addTiding_25 : decode cX10_addTiding 25 = .ok (.aload_n 0, 1) := by decide +kernel
theorem dX10_addTiding_26 : decode cX10_addTiding 26 = .ok (.dup, 1) := by decide +kernel
theorem dX10_addTiding_27 : decode cX10_addTiding 27 = .ok (.getfield 139, 3) := by decide +kernel
theorem dX10_addTiding_30 : decode cX10_addTiding 30 = .ok (.iconst 1, 1) := by decide +kernel
theorem dX10_addTiding_31 : decode cX10_addTiding 31 = .ok (.iadd, 1) := by decide +kernel
theorem dX10_addTiding_32 : decode cX10_addTiding 32 = .ok (.putfield 139, 3) := by decide +kernel
theorem dX10_addTiding_35 : decode cX10_addTiding 35 = .ok (.aload_n 0, 1) := by decide +kernel
theorem dX10_addTiding_36 : decode cX10_addTiding 36 = .ok (.getfield 139, 3) := by decide +kernel
theorem dX10_addTiding_39 : decode cX10_addTiding 39 = .ok (.ireturn, 1) := by decide +kernel
theorem in_wsX10_addTiding_X3 : ∀ w ∈ wsX30, w ∈ wsX10_addTiding := fun w h => List.mem_cons_of_mem _ (List.mem_append_left _ (List.mem_append_left _ (List.mem_append_right _ h)))
theorem in_wsX10_addTiding_X10 : ∀ w ∈ wsX100, w ∈ wsX10_addTiding := fun w h => List.mem_cons_of_mem _ (List.mem_append_left _ (List.mem_append_right _ h))
theorem in_wsX10_addTiding_X1 : ∀ w ∈ wsX10, w ∈ wsX10_addTiding := fun w h => List.mem_cons_of_mem _ (List.mem_append_right _ h)
theorem in_wsX10_died_X1 : ∀ w ∈ wsX10, w ∈ wsX10_died := fun w h => List.mem_cons_of_mem _ (List.mem_append_left _ (List.mem_append_left _ (List.mem_append_right _ h)))
theorem in_wsX10_heard_X3 : ∀ w ∈ wsX30, w ∈ wsX10_heard := fun w h => List.mem_cons_of_mem _ (List.mem_append_left _ (List.mem_append_left _ (List.mem_append_right _ h)))
theorem in_wsX10_heard_X10 : ∀ w ∈ wsX100, w ∈ wsX10_heard := fun w h => List.mem_cons_of_mem _ (List.mem_append_left _ (List.mem_append_right _ h))
theorem in_wsX10_heard_X9 : ∀ w ∈ wsX90, w ∈ wsX10_heard := fun w h => List.mem_cons_of_mem _ (List.mem_append_right _ h)
theorem in_wsX10_man_X10 : ∀ w ∈ wsX100, w ∈ wsX10_man := fun w h => List.mem_cons_of_mem _ (List.mem_append_left _ (List.mem_append_right _ h))
theorem in_wsX10_man_X6 : ∀ w ∈ wsX60, w ∈ wsX10_man := fun w h => List.mem_cons_of_mem _ (List.mem_append_right _ h)
theorem in_wsX10_voyage_X10 : ∀ w ∈ wsX100, w ∈ wsX10_voyage := fun w h => List.mem_cons_of_mem _ (List.mem_append_left _ (List.mem_append_right _ h))
theorem in_wsX10_voyage_X9 : ∀ w ∈ wsX90, w ∈ wsX10_voyage := fun w h => List.mem_cons_of_mem _ (List.mem_append_right _ h)
theorem in_wsX10_fine_X1 : ∀ w ∈ wsX10, w ∈ wsX10_fine := fun w h => List.mem_cons_of_mem _ (List.mem_append_left _ (List.mem_append_left _ (List.mem_append_right _ h)))
theorem in_wsX10_fine_X10 : ∀ w ∈ wsX100, w ∈ wsX10_fine := fun w h => List.mem_cons_of_mem _ (List.mem_append_left _ (List.mem_append_right _ h))
theorem in_wsX10_fine_X2 : ∀ w ∈ wsX20, w ∈ wsX10_fine := fun w h => List.mem_cons_of_mem _ (List.mem_append_right _ h)
theorem in_wsX10_sign_X10 : ∀ w ∈ wsX100, w ∈ wsX10_sign := fun w h => List.mem_cons_of_mem _ (List.mem_append_left _ (List.mem_append_left _ (List.mem_append_left _ (List.mem_append_left _ (List.mem_append_left _ (List.mem_append_right _ h))))))
theorem in_wsX10_sign_X1 : ∀ w ∈ wsX10, w ∈ wsX10_sign := fun w h => List.mem_cons_of_mem _ (List.mem_append_left _ (List.mem_append_left _ (List.mem_append_left _ (List.mem_append_left _ (List.mem_append_right _ h)))))
set_option maxHeartbeats 4000000 in
set_option maxRecDepth 100000 in
theorem c_X10_addTiding (l : Launch) (dC : Nat → ClassId) (dI : Nat → Nat → Nat) (sz : Nat) (cq : Nat → ClassId) (Z : oS) (gI : oInv Z) (o : Nat) (to : oty Z o 10) (a1 : Nat) (ta1 : oty Z a1 1) (x2 : Int32) (x3 : Int32) (x4 : Int32) (x5 : Int32) (hw : (x4.toInt = -9 ∨ (0 ≤ x5.toInt ∧ x5.toInt ≤ 9))) : Met l yX10_addTiding wsX10_addTiding ({ frames := 2, cells := 1, slots := 6, locals := 40 }) (va_Pc [.ref o, .ref a1, .int x2, .int x3, .int x4, .int x5] (pcW (dC, dI) (oT cq) (oW cq Z) sz)) (va_Qi (fun (r : Int32) (u : oS) => oInv u ∧ oX Z u) (fun u t => va_P (dC, dI) vwCl (oW cq u) t.heap ∧ va_K (dC, dI) vwCl (oT cq) t ∧ va_D (va_A (oW cq Z) sz) (oW cq u)) (va_A (oW cq Z) sz)) 1 6 (va_A (oW cq Z) sz) := by
  refine Met.ofW (cc := cX10_addTiding) (maxL := 6) (ret := (some .int)) (by decide) rfl ?_
  intro p e s m args below meth c s₁ B hml hv
  obtain ⟨rfl, hsz, hP, hK, hD0⟩ := hv
  have hx := B.exec
  have hb := B.bytes
  have hr := B.returns
  have hts := atoms_spec (ws := wsX10_addTiding) B.pre
  have hown : s.vm.findClass RX10 = some m.cls := findClass_of_methodNamed B.named
  have hlocks := B.notSynchronized
  subst hsz
  have hD := hD0.self (sz := s.heap.size)
  generalize hAe : va_A (oW cq Z) s.heap.size = A at hD ⊢
  have hA : ∀ q : Nat, s.heap.size ≤ q → A q := fun q h => by rw [← hAe]; exact Or.inr h
  have hS : va_S A s.heap s.heap [] := va_S.rf
  have hP : va_P (dC, dI) vwCl (oW cq Z) s.heap := hP
  have hl := lv_entry ([.ref o, .ref a1, .int x2, .int x3, .int x4, .int x5]) (n := 6) (Nat.le_of_ble_eq_true rfl)
  rw [lg_entry_eq]
  generalize (lg_sl ([.ref o, .ref a1, .int x2, .int x3, .int x4, .int x5]) ++ List.replicate (6 - (lg_sl ([.ref o, .ref a1, .int x2, .int x3, .int x4, .int x5])).length) Slot.unset).toArray = ls at hl ⊢
  have hl : lv_has ls 6 [(0, .ref o), (1, .ref a1), (2, .int x2), (3, .int x3), (4, .int x4), (5, .int x5)] := hl
  refine lv_aload_n hx hb dX10_addTiding_0 rfl (lv_at hl 1 rfl) ?_
  refine va_new (ci := 3) (fs := [.int 0, .int 0, .int 0, .int 0, .int 0, .null]) (C := RX3) (T := TX3) (N := 6) hx hb hts in_wsX10_addTiding_X3 tyX3 tyX3_ok hown (hts (.classLink RX10 142 RX3) (by decide +kernel)) (hts (.instantiable RX3 6) (by decide +kernel)) (hts (.initialized RX3) (by decide +kernel)) hK hP hD hS hA rfl (fun j hj => by rcases (show j = 0 ∨ j = 1 ∨ j = 2 ∨ j = 3 ∨ j = 4 ∨ j = 5 by omega) with rfl | rfl | rfl | rfl | rfl | rfl <;> rfl) (Nat.le_of_ble_eq_true rfl) (Nat.le_of_ble_eq_true rfl) dX10_addTiding_1 (fun q_1 H hP1 hD1 hS => ?_)
  have hnq_1 := add_q hD1
  obtain ⟨S_2, eS_2⟩ : ∃ zq, zq = addO Z q_1 33 := ⟨_, rfl⟩
  have hP : va_P (dC, dI) vwCl (oW cq S_2) H := by rw [eS_2]; exact cP (onew hD1 (by rw [oE_33 add_K, add_I, add_P]; rfl)) hP1
  have hD : va_D A (oW cq S_2) := by rw [eS_2]; exact cD (onew hD1 (by rw [oE_33 add_K, add_I, add_P]; rfl)) hD1
  clear hP1 hD1
  have hIS_2 : oInv S_2 := by rw [eS_2]; exact oInv.add gI hnq_1 (by decide)
  have XS_2 : oX Z S_2 := by rw [eS_2]; exact oX.add hnq_1
  have X_3 : oX Z S_2 := XS_2
  have tq_1 : oty S_2 q_1 33 := by rw [eS_2]; exact add_ty
  refine W.widen (k := 1) (n := 6) (Nat.le_of_ble_eq_true rfl) (Nat.le_of_ble_eq_true rfl) ?_
  refine lv_dup hx hb dX10_addTiding_4 rfl ?_
  refine lv_iload_n hx hb dX10_addTiding_5 rfl (lv_at hl 2 rfl) ?_
  refine lv_iload_n hx hb dX10_addTiding_6 rfl (lv_at hl 3 rfl) ?_
  refine lv_aload_n hx hb dX10_addTiding_7 rfl (lv_at hl 0 rfl) ?_
  have t_4 : oty S_2 o 10 := (oX.ty XS_2 to)
  obtain ⟨q_5, hq_5⟩ := og (cq := cq) t_4.1 (oE_10 t_4.2)
  refine va_get (D := (dC, dI)) (ci := 10) (v := .int (oI S_2 o 0)) (C := RX10) (T := TX10) (N := 16) hx hb hts in_wsX10_addTiding_X10 hown hK hP q_5 hq_5 rfl 0 (by decide) (hts (.fieldLink RX10 73 "ShipOffice" "now" "I") (by decide +kernel)) (fun _ h9 => h9) rfl dX10_addTiding_8 ?_
  refine lv_topi (fun x_6 ex_6 => ?_)
  have hx_6 : 0 ≤ x_6.toInt ∧ x_6.toInt ≤ 3000 := iv_of ex_6 (oInv.iv hIS_2 t_4.2 rfl rfl)
  have gx_6 : x_6.toInt = (oI S_2 o 0).toInt := iv_to ex_6
  clear ex_6
  refine lv_iload hx hb dX10_addTiding_11 (lv_at hl 4 rfl) ?_
  refine lv_iload hx hb dX10_addTiding_13 (lv_at hl 5 rfl) ?_
  refine lv_aload_n hx hb dX10_addTiding_15 rfl (lv_at hl 1 rfl) ?_
  have t_7 : oty S_2 a1 1 := (oX.ty XS_2 ta1)
  obtain ⟨q_8, hq_8⟩ := og (cq := cq) t_7.1 (oE_1 t_7.2)
  rcases hb_10 : oP S_2 a1 8 with _ | b_9
  · refine va_get (D := (dC, dI)) (ci := 1) (v := .null) (C := RX1) (T := TX1) (N := 18) hx hb hts in_wsX10_addTiding_X1 hown hK hP q_8 hq_8 rfl 8 (by decide) (hts (.fieldLink RX10 368 "ShipOffice$Agreement" "tidings" "LShipOffice$Happening;") (by decide +kernel)) (fun _ h9 => h9) (o_rd hb_10) dX10_addTiding_16 ?_
    have hFc := o_free hD hS hA
    refine va_callv (va_runI (As := [.int x2, .int x3, .int x_6, .int x4, .int x5, .null]) (rest := [.ref q_1, .ref a1]) ⟨hx, hb, hml, hown, hts⟩ (c_X3_init l dC dI H.size cq S_2 hIS_2 q_1 tq_1 x2 x3 x_6 x4 x5 none (fun b h => by cases h) hw (fun b h => by cases h)) (cwI 6 hts gX10_addTiding_X3_init rfl rfl rfl (hts (.initialized RX3) (by decide +kernel)) (hts (.methodLink RX10 148 yX3_init) (by decide +kernel)) (hts (.instanceMethod yX3_init) (by decide +kernel)) rfl (by decide +kernel) ⟨(Nat.le_of_ble_eq_true rfl), (Nat.le_of_ble_eq_true rfl)⟩) (pr_S hP hK hD) rfl rfl hl.1 rfl (lv_room (Nat.le_of_ble_eq_true rfl)) dX10_addTiding_19 ⟨(Nat.le_of_ble_eq_true rfl), (Nat.le_of_ble_eq_true rfl)⟩) hS (fun q _ h => hFc q h) hFc (fun u t H locs ht hvm w_11 hB hz1 hk1 hS => ?_)
    obtain ⟨S_13, rfl⟩ : ∃ z, z = u := ⟨_, rfl⟩
    obtain ⟨hP1, hK1, hD1⟩ := hB
    rw [ht] at hP1
    have hP : va_P (dC, dI) vwCl (oW cq S_13) H := hP1
    have hD : va_D A (oW cq S_13) := hD1.weaken (fun _ _ _ h => hFc _ h)
    clear hP1 hK1 hD1 hk1 hz1 hvm ht hFc
    obtain ⟨hIS_13, XS_13, hx_14⟩ := w_11
    obtain ⟨hxS_13, FS_13⟩ := hx_14
    have X_15 : oX Z S_13 := oX.c X_3 XS_13 (oX.nin oX.rf hnq_1)
    have g_16 : (oI S_13 o 0).toInt = (oI S_2 o 0).toInt := by rw [(FS_13 o t_4.1 (ty_ne t_4 tq_1 (by decide))).1 (by rw [t_4.2]; decide)]
    have t_17 : oty S_13 a1 1 := (oXc.ty XS_13 (ty_ne t_7 tq_1 (by decide)) t_7)
    obtain ⟨q_18, hq_18⟩ := og (cq := cq) t_17.1 (oE_1 t_17.2)
    refine va_put (D := (dC, dI)) (ci := 1) (v := .ref q_1) (ty := .object "ShipOffice$Happening") (C := RX1) (T := TX1) (N := 18) hx hb hts in_wsX10_addTiding_X1 tyX1 tyX1_ok nmX1 hown hK hP hD hS q_18 hq_18 rfl 8 (by decide) (hts (.fieldLink RX10 368 "ShipOffice$Agreement" "tidings" "LShipOffice$Happening;") (by decide +kernel)) (fun _ h9 => h9) rfl (by decide +kernel) rfl rfl (Nat.le_of_ble_eq_true rfl) dX10_addTiding_22 (fun H locs hP1 hD1 hS => ?_)
    obtain ⟨S_19, eS_19⟩ : ∃ zq, zq = setP S_13 a1 8 (some q_1) := ⟨_, rfl⟩
    have hP : va_P (dC, dI) vwCl (oW cq S_19) H := by rw [eS_19]; exact cP (oset t_17.1 hq_18 hD rfl (he_1_8 t_17.2) neP) hP1
    have hD : va_D A (oW cq S_19) := by rw [eS_19]; exact cD (oset t_17.1 hq_18 hD rfl (he_1_8 t_17.2) neP) hD1
    clear hP1 hD1
    have hIS_19 : oInv S_19 := by rw [eS_19]; exact oInv.P (k := 1) hIS_13 t_17.2 (by decide) rfl (by decide) hxS_13 (by decide)
    have XS_19 : oX S_13 S_19 := by rw [eS_19]; exact oX.P
    have X_20 : oX Z S_19 := oX.tr X_15 XS_19
    have g_21 : (oI S_19 o 0).toInt = (oI S_13 o 0).toInt := by rw [eS_19]; rfl
    refine lv_aload_n hx hb dX10_addTiding_25 rfl (lv_at hl 0 rfl) ?_
    refine lv_dup hx hb dX10_addTiding_26 rfl ?_
    have t_22 : oty S_19 o 10 := (oX.ty XS_19 (oXc.ty XS_13 (ty_ne t_4 tq_1 (by decide)) t_4))
    obtain ⟨q_23, hq_23⟩ := og (cq := cq) t_22.1 (oE_10 t_22.2)
    refine va_get (D := (dC, dI)) (ci := 10) (v := .int (oI S_19 o 7)) (C := RX10) (T := TX10) (N := 16) hx hb hts in_wsX10_addTiding_X10 hown hK hP q_23 hq_23 rfl 7 (by decide) (hts (.fieldLink RX10 139 "ShipOffice" "happeningCount" "I") (by decide +kernel)) (fun _ h9 => h9) rfl dX10_addTiding_27 ?_
    refine lv_topi (fun x_24 ex_24 => ?_)
    clear ex_24
    refine lv_iconst (v := 1) hx hb dX10_addTiding_30 (by decide) ?_
    refine lv_iadd hx hb dX10_addTiding_31 ?_
    refine lv_topi (fun x_25 ex_25 => ?_)
    clear ex_25
    refine va_put (D := (dC, dI)) (ci := 10) (v := .int x_25) (ty := .int) (C := RX10) (T := TX10) (N := 16) hx hb hts in_wsX10_addTiding_X10 tyX10 tyX10_ok nmX10 hown hK hP hD hS q_23 hq_23 rfl 7 (by decide) (hts (.fieldLink RX10 139 "ShipOffice" "happeningCount" "I") (by decide +kernel)) (fun _ h9 => h9) rfl (by decide +kernel) rfl rfl (Nat.le_of_ble_eq_true rfl) dX10_addTiding_32 (fun H locs hP1 hD1 hS => ?_)
    obtain ⟨S_26, eS_26⟩ : ∃ zq, zq = setI S_19 o 7 x_25 := ⟨_, rfl⟩
    have hP : va_P (dC, dI) vwCl (oW cq S_26) H := by rw [eS_26]; exact cP (oset t_22.1 hq_23 hD rfl (he_10_7 t_22.2) neI) hP1
    have hD : va_D A (oW cq S_26) := by rw [eS_26]; exact cD (oset t_22.1 hq_23 hD rfl (he_10_7 t_22.2) neI) hD1
    clear hP1 hD1
    have hIS_26 : oInv S_26 := by rw [eS_26]; exact oInv.I0 (k := 10) (lo := -2147483648) (hi := 2147483647) hIS_19 t_22.2 (by decide) rfl rfl rfl (iv_all _)
    have XS_26 : oX S_19 S_26 := by rw [eS_26]; exact oX.I (k := 10) t_22.2 (by decide)
    have X_27 : oX Z S_26 := oX.tr X_20 XS_26
    have g_28 : (oI S_26 o 0).toInt = (oI S_19 o 0).toInt := by rw [eS_26, setI_ne (by decide)]
    refine lv_aload_n hx hb dX10_addTiding_35 rfl (lv_at hl 0 rfl) ?_
    have t_29 : oty S_26 o 10 := (oX.ty XS_26 t_22)
    obtain ⟨q_30, hq_30⟩ := og (cq := cq) t_29.1 (oE_10 t_29.2)
    refine va_get (D := (dC, dI)) (ci := 10) (v := .int (oI S_26 o 7)) (C := RX10) (T := TX10) (N := 16) hx hb hts in_wsX10_addTiding_X10 hown hK hP q_30 hq_30 rfl 7 (by decide) (hts (.fieldLink RX10 139 "ShipOffice" "happeningCount" "I") (by decide +kernel)) (fun _ h9 => h9) rfl dX10_addTiding_36 ?_
    refine lv_topi (fun x_31 ex_31 => ?_)
    clear ex_31
    exact W.iret (v := x_31) hx hb hr (fun t ht hW => ⟨⟨x_31, S_26, rfl, ⟨hIS_26, X_27⟩, ⟨by rw [ht]; exact hP, va_K.moved hW.alike hK, hD⟩⟩, hS.F ht⟩) hS.2.2 dX10_addTiding_39
  · refine va_get (D := (dC, dI)) (ci := 1) (v := .ref b_9) (C := RX1) (T := TX1) (N := 18) hx hb hts in_wsX10_addTiding_X1 hown hK hP q_8 hq_8 rfl 8 (by decide) (hts (.fieldLink RX10 368 "ShipOffice$Agreement" "tidings" "LShipOffice$Happening;") (by decide +kernel)) (fun _ h9 => h9) (o_rd hb_10) dX10_addTiding_16 ?_
    have tb_9 : oty S_2 b_9 3 := oInv.rd hIS_2 t_7.2 hb_10 rfl rfl
    have hFc := o_free hD hS hA
    refine va_callv (va_runI (As := [.int x2, .int x3, .int x_6, .int x4, .int x5, .ref b_9]) (rest := [.ref q_1, .ref a1]) ⟨hx, hb, hml, hown, hts⟩ (c_X3_init l dC dI H.size cq S_2 hIS_2 q_1 tq_1 x2 x3 x_6 x4 x5 (some b_9) (fun b h => by cases h; exact tb_9) hw (fun b h => by cases h; have hm := tb_9.1; have nb := ty_ne tb_9 tq_1 (by decide); rw [eS_2] at hm ⊢; exact add_G2 hnq_1 hm nb)) (cwI 6 hts gX10_addTiding_X3_init rfl rfl rfl (hts (.initialized RX3) (by decide +kernel)) (hts (.methodLink RX10 148 yX3_init) (by decide +kernel)) (hts (.instanceMethod yX3_init) (by decide +kernel)) rfl (by decide +kernel) ⟨(Nat.le_of_ble_eq_true rfl), (Nat.le_of_ble_eq_true rfl)⟩) (pr_S hP hK hD) rfl rfl hl.1 rfl (lv_room (Nat.le_of_ble_eq_true rfl)) dX10_addTiding_19 ⟨(Nat.le_of_ble_eq_true rfl), (Nat.le_of_ble_eq_true rfl)⟩) hS (fun q _ h => hFc q h) hFc (fun u t H locs ht hvm w_32 hB hz1 hk1 hS => ?_)
    obtain ⟨S_34, rfl⟩ : ∃ z, z = u := ⟨_, rfl⟩
    obtain ⟨hP1, hK1, hD1⟩ := hB
    rw [ht] at hP1
    have hP : va_P (dC, dI) vwCl (oW cq S_34) H := hP1
    have hD : va_D A (oW cq S_34) := hD1.weaken (fun _ _ _ h => hFc _ h)
    clear hP1 hK1 hD1 hk1 hz1 hvm ht hFc
    obtain ⟨hIS_34, XS_34, hx_35⟩ := w_32
    obtain ⟨hxS_34, FS_34⟩ := hx_35
    have X_36 : oX Z S_34 := oX.c X_3 XS_34 (oX.nin oX.rf hnq_1)
    have g_37 : (oI S_34 o 0).toInt = (oI S_2 o 0).toInt := by rw [(FS_34 o t_4.1 (ty_ne t_4 tq_1 (by decide))).1 (by rw [t_4.2]; decide)]
    have t_38 : oty S_34 a1 1 := (oXc.ty XS_34 (ty_ne t_7 tq_1 (by decide)) t_7)
    obtain ⟨q_39, hq_39⟩ := og (cq := cq) t_38.1 (oE_1 t_38.2)
    refine va_put (D := (dC, dI)) (ci := 1) (v := .ref q_1) (ty := .object "ShipOffice$Happening") (C := RX1) (T := TX1) (N := 18) hx hb hts in_wsX10_addTiding_X1 tyX1 tyX1_ok nmX1 hown hK hP hD hS q_39 hq_39 rfl 8 (by decide) (hts (.fieldLink RX10 368 "ShipOffice$Agreement" "tidings" "LShipOffice$Happening;") (by decide +kernel)) (fun _ h9 => h9) rfl (by decide +kernel) rfl rfl (Nat.le_of_ble_eq_true rfl) dX10_addTiding_22 (fun H locs hP1 hD1 hS => ?_)
    obtain ⟨S_40, eS_40⟩ : ∃ zq, zq = setP S_34 a1 8 (some q_1) := ⟨_, rfl⟩
    have hP : va_P (dC, dI) vwCl (oW cq S_40) H := by rw [eS_40]; exact cP (oset t_38.1 hq_39 hD rfl (he_1_8 t_38.2) neP) hP1
    have hD : va_D A (oW cq S_40) := by rw [eS_40]; exact cD (oset t_38.1 hq_39 hD rfl (he_1_8 t_38.2) neP) hD1
    clear hP1 hD1
    have hIS_40 : oInv S_40 := by rw [eS_40]; exact oInv.P (k := 1) hIS_34 t_38.2 (by decide) rfl (by decide) hxS_34 (by decide)
    have XS_40 : oX S_34 S_40 := by rw [eS_40]; exact oX.P
    have X_41 : oX Z S_40 := oX.tr X_36 XS_40
    have g_42 : (oI S_40 o 0).toInt = (oI S_34 o 0).toInt := by rw [eS_40]; rfl
    refine lv_aload_n hx hb dX10_addTiding_25 rfl (lv_at hl 0 rfl) ?_
    refine lv_dup hx hb dX10_addTiding_26 rfl ?_
    have t_43 : oty S_40 o 10 := (oX.ty XS_40 (oXc.ty XS_34 (ty_ne t_4 tq_1 (by decide)) t_4))
    obtain ⟨q_44, hq_44⟩ := og (cq := cq) t_43.1 (oE_10 t_43.2)
    refine va_get (D := (dC, dI)) (ci := 10) (v := .int (oI S_40 o 7)) (C := RX10) (T := TX10) (N := 16) hx hb hts in_wsX10_addTiding_X10 hown hK hP q_44 hq_44 rfl 7 (by decide) (hts (.fieldLink RX10 139 "ShipOffice" "happeningCount" "I") (by decide +kernel)) (fun _ h9 => h9) rfl dX10_addTiding_27 ?_
    refine lv_topi (fun x_45 ex_45 => ?_)
    clear ex_45
    refine lv_iconst (v := 1) hx hb dX10_addTiding_30 (by decide) ?_
    refine lv_iadd hx hb dX10_addTiding_31 ?_
    refine lv_topi (fun x_46 ex_46 => ?_)
    clear ex_46
    refine va_put (D := (dC, dI)) (ci := 10) (v := .int x_46) (ty := .int) (C := RX10) (T := TX10) (N := 16) hx hb hts in_wsX10_addTiding_X10 tyX10 tyX10_ok nmX10 hown hK hP hD hS q_44 hq_44 rfl 7 (by decide) (hts (.fieldLink RX10 139 "ShipOffice" "happeningCount" "I") (by decide +kernel)) (fun _ h9 => h9) rfl (by decide +kernel) rfl rfl (Nat.le_of_ble_eq_true rfl) dX10_addTiding_32 (fun H locs hP1 hD1 hS => ?_)
    obtain ⟨S_47, eS_47⟩ : ∃ zq, zq = setI S_40 o 7 x_46 := ⟨_, rfl⟩
    have hP : va_P (dC, dI) vwCl (oW cq S_47) H := by rw [eS_47]; exact cP (oset t_43.1 hq_44 hD rfl (he_10_7 t_43.2) neI) hP1
    have hD : va_D A (oW cq S_47) := by rw [eS_47]; exact cD (oset t_43.1 hq_44 hD rfl (he_10_7 t_43.2) neI) hD1
    clear hP1 hD1
    have hIS_47 : oInv S_47 := by rw [eS_47]; exact oInv.I0 (k := 10) (lo := -2147483648) (hi := 2147483647) hIS_40 t_43.2 (by decide) rfl rfl rfl (iv_all _)
    have XS_47 : oX S_40 S_47 := by rw [eS_47]; exact oX.I (k := 10) t_43.2 (by decide)
    have X_48 : oX Z S_47 := oX.tr X_41 XS_47
    have g_49 : (oI S_47 o 0).toInt = (oI S_40 o 0).toInt := by rw [eS_47, setI_ne (by decide)]
    refine lv_aload_n hx hb dX10_addTiding_35 rfl (lv_at hl 0 rfl) ?_
    have t_50 : oty S_47 o 10 := (oX.ty XS_47 t_43)
    obtain ⟨q_51, hq_51⟩ := og (cq := cq) t_50.1 (oE_10 t_50.2)
    refine va_get (D := (dC, dI)) (ci := 10) (v := .int (oI S_47 o 7)) (C := RX10) (T := TX10) (N := 16) hx hb hts in_wsX10_addTiding_X10 hown hK hP q_51 hq_51 rfl 7 (by decide) (hts (.fieldLink RX10 139 "ShipOffice" "happeningCount" "I") (by decide +kernel)) (fun _ h9 => h9) rfl dX10_addTiding_36 ?_
    refine lv_topi (fun x_52 ex_52 => ?_)
    clear ex_52
    exact W.iret (v := x_52) hx hb hr (fun t ht hW => ⟨⟨x_52, S_47, rfl, ⟨hIS_47, X_48⟩, ⟨by rw [ht]; exact hP, va_K.moved hW.alike hK, hD⟩⟩, hS.F ht⟩) hS.2.2 dX10_addTiding_39
set_option maxHeartbeats 4000000 in
set_option maxRecDepth 100000 in
theorem c_X10_died (l : Launch) (dC : Nat → ClassId) (dI : Nat → Nat → Nat) (sz : Nat) (cq : Nat → ClassId) (Z : oS) (gI : oInv Z) (o : Nat) (to : oty Z o 10) (x1 : Int32) (x2 : Int32) : Met l yX10_died wsX10_died ({ frames := 3, cells := 1, slots := 6, locals := 65 }) (va_Pc [.ref o, .int x1, .int x2] (pcW (dC, dI) (oT cq) (oW cq Z) sz)) (va_Qi (fun (r : Int32) (u : oS) => oInv u ∧ oX Z u) (fun u t => va_P (dC, dI) vwCl (oW cq u) t.heap ∧ va_K (dC, dI) vwCl (oT cq) t ∧ va_D (va_A (oW cq Z) sz) (oW cq u)) (va_A (oW cq Z) sz)) 1 6 (va_A (oW cq Z) sz) := by
  refine Met.ofW (cc := cX10_died) (maxL := 5) (ret := (some .int)) (by decide) rfl ?_
  intro p e s m args below meth c s₁ B hml hv
  obtain ⟨rfl, hsz, hP, hK, hD0⟩ := hv
  have hx := B.exec
  have hb := B.bytes
  have hr := B.returns
  have hts := atoms_spec (ws := wsX10_died) B.pre
  have hown : s.vm.findClass RX10 = some m.cls := findClass_of_methodNamed B.named
  have hlocks := B.notSynchronized
  subst hsz
  have hD := hD0.self (sz := s.heap.size)
  generalize hAe : va_A (oW cq Z) s.heap.size = A at hD ⊢
  have hA : ∀ q : Nat, s.heap.size ≤ q → A q := fun q h => by rw [← hAe]; exact Or.inr h
  have hS : va_S A s.heap s.heap [] := va_S.rf
  have hP : va_P (dC, dI) vwCl (oW cq Z) s.heap := hP
  have hl := lv_entry ([.ref o, .int x1, .int x2]) (n := 5) (Nat.le_of_ble_eq_true rfl)
  rw [lg_entry_eq]
  generalize (lg_sl ([.ref o, .int x1, .int x2]) ++ List.replicate (5 - (lg_sl ([.ref o, .int x1, .int x2])).length) Slot.unset).toArray = ls at hl ⊢
  have hl : lv_has ls 5 [(0, .ref o), (1, .int x1), (2, .int x2)] := hl
  refine lv_aload_n hx hb dX10_died_0 rfl (lv_at hl 0 rfl) ?_
  refine lv_iload_n hx hb dX10_died_1 rfl (lv_at hl 1 rfl) ?_
  have hFc : ∀ q, va_A [] s.heap.size q → A q := pu_free hS hA
  obtain ⟨q_1, hq_1⟩ := og (cq := cq) to.1 (oE_10 to.2)
  refine va_callq (va_runV (As := [.int x1]) (rest := []) ⟨hx, hb, hml, hown, hts⟩ (c_X10_agreementAt l dC dI s.heap.size cq Z gI o to x1) (cwV 1 hts gX10_died_X10_agreementAt rfl rfl rfl (by decide +kernel) ⟨(Nat.le_of_ble_eq_true rfl), (Nat.le_of_ble_eq_true rfl)⟩) (pr_V (r := (RX10, TX10, 16)) hP hK hD q_1 10 rfl hq_1) rfl rfl hl.1 rfl (lv_room (Nat.le_of_ble_eq_true rfl)) dX10_died_2 ⟨(Nat.le_of_ble_eq_true rfl), (Nat.le_of_ble_eq_true rfl)⟩) hS (fun q _ h => hFc q h) hFc (fun r_3 u t H locs ht hvm w_2 hB hz1 hk1 hS => ?_)
  have hP := pu_keep hP hk1
  clear hk1 hz1 hvm hB ht hFc
  have hk_4 := w_2
  rcases r_3 with _ | b_5
  · refine W.eq (g2 := F0 m 5 ls [.null]) rfl ?_
    refine lv_astore_nN (lv' := [(3, .null), (0, .ref o), (1, .int x1), (2, .int x2)]) hx hb dX10_died_5 rfl hl (by decide) rfl (fun ls hl => ?_)
    refine lv_aload_nN hx hb dX10_died_6 rfl (lv_at hl 0 rfl) ?_
    refine lv_ifnonnullN hx hb dX10_died_7 ?_
    refine lv_aload_n hx hb dX10_died_10 rfl (lv_at hl 1 rfl) ?_
    refine lv_iconst (v := (-1)) hx hb dX10_died_11 (by decide) ?_
    have hFc := o_free hD hS hA
    refine va_calli (va_runV (As := [.int (-1)]) (rest := []) ⟨hx, hb, hml, hown, hts⟩ (c_X10_refuse l dC dI H.size cq Z gI o to (-1) (by decide)) (cwV 1 hts gX10_died_X10_refuse rfl rfl rfl (by decide +kernel) ⟨(Nat.le_of_ble_eq_true rfl), (Nat.le_of_ble_eq_true rfl)⟩) (pr_V (r := (RX10, TX10, 16)) hP hK hD q_1 10 rfl hq_1) rfl rfl hl.1 rfl (lv_room (Nat.le_of_ble_eq_true rfl)) dX10_died_12 ⟨(Nat.le_of_ble_eq_true rfl), (Nat.le_of_ble_eq_true rfl)⟩) hS (fun q _ h => hFc q h) hFc (fun r_7 u t H locs ht hvm w_6 hB hz1 hk1 hS => ?_)
    obtain ⟨S_8, rfl⟩ : ∃ z, z = u := ⟨_, rfl⟩
    obtain ⟨hP1, hK1, hD1⟩ := hB
    rw [ht] at hP1
    have hP : va_P (dC, dI) vwCl (oW cq S_8) H := hP1
    have hD : va_D A (oW cq S_8) := hD1.weaken (fun _ _ _ h => hFc _ h)
    clear hP1 hK1 hD1 hk1 hz1 hvm ht hFc
    obtain ⟨hIS_8, XS_8, hb_9, hx_10⟩ := w_6
    have X_11 : oX Z S_8 := XS_8
    have rf_12 : r_7.toInt = -1 := by rw [hx_10]; decide
    refine W.widen (k := 1) (n := 6) (Nat.le_of_ble_eq_true rfl) (Nat.le_of_ble_eq_true rfl) ?_
    exact W.iret (v := r_7) hx hb hr (fun t ht hW => ⟨⟨r_7, S_8, rfl, ⟨hIS_8, X_11⟩, ⟨by rw [ht]; exact hP, va_K.moved hW.alike hK, hD⟩⟩, hS.F ht⟩) hS.2.2 dX10_died_15
  · refine W.eq (g2 := F0 m 5 ls [.ref b_5]) rfl ?_
    have tb_5 : oty Z b_5 1 := hk_4 b_5 rfl
    refine lv_astore_n (lv' := [(3, .ref b_5), (0, .ref o), (1, .int x1), (2, .int x2)]) hx hb dX10_died_5 rfl hl (by decide) rfl (fun ls hl => ?_)
    refine lv_aload_n hx hb dX10_died_6 rfl (lv_at hl 0 rfl) ?_
    refine lv_ifnonnull (tgt := 16) hx hb dX10_died_7 (by decide) ?_
    refine lv_aload_n hx hb dX10_died_16 rfl (lv_at hl 1 rfl) ?_
    refine lv_aload_n hx hb dX10_died_17 rfl (lv_at hl 0 rfl) ?_
    refine lv_iload_n hx hb dX10_died_18 rfl (lv_at hl 3 rfl) ?_
    have hFc : ∀ q, va_A [] H.size q → A q := pu_free hS hA
    refine va_calli (va_runV (As := [.ref b_5, .int x2]) (rest := []) ⟨hx, hb, hml, hown, hts⟩ (c_X10_tidingRefusal l dC dI H.size cq Z gI o to b_5 tb_5 x2) (cwV 2 hts gX10_died_X10_tidingRefusal rfl rfl rfl (by decide +kernel) ⟨(Nat.le_of_ble_eq_true rfl), (Nat.le_of_ble_eq_true rfl)⟩) (pr_V (r := (RX10, TX10, 16)) hP hK hD q_1 10 rfl hq_1) rfl rfl hl.1 rfl (lv_room (Nat.le_of_ble_eq_true rfl)) dX10_died_19 ⟨(Nat.le_of_ble_eq_true rfl), (Nat.le_of_ble_eq_true rfl)⟩) hS (fun q _ h => hFc q h) hFc (fun r_14 u t H locs ht hvm w_13 hB hz1 hk1 hS => ?_)
    have hP := pu_keep hP hk1
    clear hk1 hz1 hvm hB ht hFc
    have hb_15 := w_13
    refine lv_istore (lv' := [(4, .int r_14), (3, .ref b_5), (0, .ref o), (1, .int x1), (2, .int x2)]) hx hb dX10_died_22 hl (by decide) rfl (fun ls hl => ?_)
    refine lv_iload hx hb dX10_died_24 (lv_at hl 0 rfl) ?_
    refine lv_if_eq (tgt := 36) hx hb dX10_died_26 (by decide) (fun c_16 => ?_) (fun c_16 => ?_)
    · have dc_16 := c_eq (a := r_14.toInt) (b := 0) rfl (by decide) c_16
      refine lv_aload_n hx hb dX10_died_36 rfl (lv_at hl 1 rfl) ?_
      refine lv_iconst (v := 1) hx hb dX10_died_37 (by decide) ?_
      obtain ⟨q_17, hq_17⟩ := og (cq := cq) tb_5.1 (oE_1 tb_5.2)
      refine va_put (D := (dC, dI)) (ci := 1) (v := .int 1) (ty := .boolean) (C := RX1) (T := TX1) (N := 18) hx hb hts in_wsX10_died_X1 tyX1 tyX1_ok nmX1 hown hK hP hD hS q_17 hq_17 rfl 7 (by decide) (hts (.fieldLink RX10 166 "ShipOffice$Agreement" "isDead" "Z") (by decide +kernel)) (fun _ h9 => h9) rfl (by decide +kernel) rfl rfl (Nat.le_of_ble_eq_true rfl) dX10_died_38 (fun H locs hP1 hD1 hS => ?_)
      obtain ⟨S_18, eS_18⟩ : ∃ zq, zq = setI Z b_5 7 1 := ⟨_, rfl⟩
      have hP : va_P (dC, dI) vwCl (oW cq S_18) H := by rw [eS_18]; exact cP (oset tb_5.1 hq_17 hD rfl (he_1_7 tb_5.2) neI) hP1
      have hD : va_D A (oW cq S_18) := by rw [eS_18]; exact cD (oset tb_5.1 hq_17 hD rfl (he_1_7 tb_5.2) neI) hD1
      clear hP1 hD1
      have hIS_18 : oInv S_18 := by rw [eS_18]; exact oInv.I0 (k := 1) (lo := -2147483648) (hi := 2147483647) gI tb_5.2 (by decide) rfl rfl rfl (iv_all _)
      have XS_18 : oX Z S_18 := by rw [eS_18]; exact oX.I (k := 1) tb_5.2 (by decide)
      have X_19 : oX Z S_18 := XS_18
      refine lv_aload_n hx hb dX10_died_41 rfl (lv_at hl 2 rfl) ?_
      refine lv_aload_n hx hb dX10_died_42 rfl (lv_at hl 1 rfl) ?_
      refine lv_iconst (v := 2) hx hb dX10_died_43 (by decide) ?_
      refine lv_iload_n hx hb dX10_died_44 rfl (lv_at hl 4 rfl) ?_
      refine lv_bipush (v := (-9)) hx hb dX10_died_45 (by decide) ?_
      refine lv_bipush (v := (-9)) hx hb dX10_died_47 (by decide) ?_
      have t_20 : oty S_18 o 10 := (oX.ty XS_18 to)
      have t_21 : oty S_18 b_5 1 := (oX.ty XS_18 tb_5)
      have hFc := o_free hD hS hA
      obtain ⟨q_22, hq_22⟩ := og (cq := cq) t_20.1 (oE_10 t_20.2)
      refine va_calli (va_runV (As := [.ref b_5, .int 2, .int x2, .int (-9), .int (-9)]) (rest := []) ⟨hx, hb, hml, hown, hts⟩ (c_X10_addTiding l dC dI H.size cq S_18 hIS_18 o t_20 b_5 t_21 2 x2 (-9) (-9) (Or.inl (by decide))) (cwV 5 hts gX10_died_X10_addTiding rfl rfl rfl (by decide +kernel) ⟨(Nat.le_of_ble_eq_true rfl), (Nat.le_of_ble_eq_true rfl)⟩) (pr_V (r := (RX10, TX10, 16)) hP hK hD q_22 10 rfl hq_22) rfl rfl hl.1 rfl (lv_room (Nat.le_of_ble_eq_true rfl)) dX10_died_49 ⟨(Nat.le_of_ble_eq_true rfl), (Nat.le_of_ble_eq_true rfl)⟩) hS (fun q _ h => hFc q h) hFc (fun r_24 u t H locs ht hvm w_23 hB hz1 hk1 hS => ?_)
      obtain ⟨S_25, rfl⟩ : ∃ z, z = u := ⟨_, rfl⟩
      obtain ⟨hP1, hK1, hD1⟩ := hB
      rw [ht] at hP1
      have hP : va_P (dC, dI) vwCl (oW cq S_25) H := hP1
      have hD : va_D A (oW cq S_25) := hD1.weaken (fun _ _ _ h => hFc _ h)
      clear hP1 hK1 hD1 hk1 hz1 hvm ht hFc
      refine W.widen (k := 1) (n := 6) (Nat.le_of_ble_eq_true rfl) (Nat.le_of_ble_eq_true rfl) ?_
      obtain ⟨hIS_25, XS_25⟩ := w_23
      have X_26 : oX Z S_25 := oX.tr X_19 XS_25
      exact W.iret (v := r_24) hx hb hr (fun t ht hW => ⟨⟨r_24, S_25, rfl, ⟨hIS_25, X_26⟩, ⟨by rw [ht]; exact hP, va_K.moved hW.alike hK, hD⟩⟩, hS.F ht⟩) hS.2.2 dX10_died_52
    · have dc_16 := c_ne (a := r_14.toInt) (b := 0) rfl (by decide) c_16
      refine lv_aload_n hx hb dX10_died_29 rfl (lv_at hl 2 rfl) ?_
      refine lv_iload hx hb dX10_died_30 (lv_at hl 0 rfl) ?_
      have hFc := o_free hD hS hA
      refine va_calli (va_runV (As := [.int r_14]) (rest := []) ⟨hx, hb, hml, hown, hts⟩ (c_X10_refuse l dC dI H.size cq Z gI o to r_14 (by omega)) (cwV 1 hts gX10_died_X10_refuse rfl rfl rfl (by decide +kernel) ⟨(Nat.le_of_ble_eq_true rfl), (Nat.le_of_ble_eq_true rfl)⟩) (pr_V (r := (RX10, TX10, 16)) hP hK hD q_1 10 rfl hq_1) rfl rfl hl.1 rfl (lv_room (Nat.le_of_ble_eq_true rfl)) dX10_died_32 ⟨(Nat.le_of_ble_eq_true rfl), (Nat.le_of_ble_eq_true rfl)⟩) hS (fun q _ h => hFc q h) hFc (fun r_28 u t H locs ht hvm w_27 hB hz1 hk1 hS => ?_)
      obtain ⟨S_29, rfl⟩ : ∃ z, z = u := ⟨_, rfl⟩
      obtain ⟨hP1, hK1, hD1⟩ := hB
      rw [ht] at hP1
      have hP : va_P (dC, dI) vwCl (oW cq S_29) H := hP1
      have hD : va_D A (oW cq S_29) := hD1.weaken (fun _ _ _ h => hFc _ h)
      clear hP1 hK1 hD1 hk1 hz1 hvm ht hFc
      obtain ⟨hIS_29, XS_29, hb_30, hx_31⟩ := w_27
      have X_32 : oX Z S_29 := XS_29
      refine W.widen (k := 1) (n := 6) (Nat.le_of_ble_eq_true rfl) (Nat.le_of_ble_eq_true rfl) ?_
      exact W.iret (v := r_28) hx hb hr (fun t ht hW => ⟨⟨r_28, S_29, rfl, ⟨hIS_29, X_32⟩, ⟨by rw [ht]; exact hP, va_K.moved hW.alike hK, hD⟩⟩, hS.F ht⟩) hS.2.2 dX10_died_35
set_option maxHeartbeats 4000000 in
set_option maxRecDepth 100000 in
theorem c_X10_back (l : Launch) (dC : Nat → ClassId) (dI : Nat → Nat → Nat) (sz : Nat) (cq : Nat → ClassId) (Z : oS) (gI : oInv Z) (o : Nat) (to : oty Z o 10) (x1 : Int32) (x2 : Int32) : Met l yX10_back wsX10_back ({ frames := 3, cells := 1, slots := 6, locals := 65 }) (va_Pc [.ref o, .int x1, .int x2] (pcW (dC, dI) (oT cq) (oW cq Z) sz)) (va_Qi (fun (r : Int32) (u : oS) => oInv u ∧ oX Z u) (fun u t => va_P (dC, dI) vwCl (oW cq u) t.heap ∧ va_K (dC, dI) vwCl (oT cq) t ∧ va_D (va_A (oW cq Z) sz) (oW cq u)) (va_A (oW cq Z) sz)) 1 6 (va_A (oW cq Z) sz) := by
  refine Met.ofW (cc := cX10_back) (maxL := 5) (ret := (some .int)) (by decide) rfl ?_
  intro p e s m args below meth c s₁ B hml hv
  obtain ⟨rfl, hsz, hP, hK, hD0⟩ := hv
  have hx := B.exec
  have hb := B.bytes
  have hr := B.returns
  have hts := atoms_spec (ws := wsX10_back) B.pre
  have hown : s.vm.findClass RX10 = some m.cls := findClass_of_methodNamed B.named
  have hlocks := B.notSynchronized
  subst hsz
  have hD := hD0.self (sz := s.heap.size)
  generalize hAe : va_A (oW cq Z) s.heap.size = A at hD ⊢
  have hA : ∀ q : Nat, s.heap.size ≤ q → A q := fun q h => by rw [← hAe]; exact Or.inr h
  have hS : va_S A s.heap s.heap [] := va_S.rf
  have hP : va_P (dC, dI) vwCl (oW cq Z) s.heap := hP
  have hl := lv_entry ([.ref o, .int x1, .int x2]) (n := 5) (Nat.le_of_ble_eq_true rfl)
  rw [lg_entry_eq]
  generalize (lg_sl ([.ref o, .int x1, .int x2]) ++ List.replicate (5 - (lg_sl ([.ref o, .int x1, .int x2])).length) Slot.unset).toArray = ls at hl ⊢
  have hl : lv_has ls 5 [(0, .ref o), (1, .int x1), (2, .int x2)] := hl
  refine lv_aload_n hx hb dX10_back_0 rfl (lv_at hl 0 rfl) ?_
  refine lv_iload_n hx hb dX10_back_1 rfl (lv_at hl 1 rfl) ?_
  have hFc : ∀ q, va_A [] s.heap.size q → A q := pu_free hS hA
  obtain ⟨q_1, hq_1⟩ := og (cq := cq) to.1 (oE_10 to.2)
  refine va_callq (va_runV (As := [.int x1]) (rest := []) ⟨hx, hb, hml, hown, hts⟩ (c_X10_agreementAt l dC dI s.heap.size cq Z gI o to x1) (cwV 1 hts gX10_back_X10_agreementAt rfl rfl rfl (by decide +kernel) ⟨(Nat.le_of_ble_eq_true rfl), (Nat.le_of_ble_eq_true rfl)⟩) (pr_V (r := (RX10, TX10, 16)) hP hK hD q_1 10 rfl hq_1) rfl rfl hl.1 rfl (lv_room (Nat.le_of_ble_eq_true rfl)) dX10_back_2 ⟨(Nat.le_of_ble_eq_true rfl), (Nat.le_of_ble_eq_true rfl)⟩) hS (fun q _ h => hFc q h) hFc (fun r_3 u t H locs ht hvm w_2 hB hz1 hk1 hS => ?_)
  have hP := pu_keep hP hk1
  clear hk1 hz1 hvm hB ht hFc
  have hk_4 := w_2
  rcases r_3 with _ | b_5
  · refine W.eq (g2 := F0 m 5 ls [.null]) rfl ?_
    refine lv_astore_nN (lv' := [(3, .null), (0, .ref o), (1, .int x1), (2, .int x2)]) hx hb dX10_back_5 rfl hl (by decide) rfl (fun ls hl => ?_)
    refine lv_aload_nN hx hb dX10_back_6 rfl (lv_at hl 0 rfl) ?_
    refine lv_ifnonnullN hx hb dX10_back_7 ?_
    refine lv_aload_n hx hb dX10_back_10 rfl (lv_at hl 1 rfl) ?_
    refine lv_iconst (v := (-1)) hx hb dX10_back_11 (by decide) ?_
    have hFc := o_free hD hS hA
    refine va_calli (va_runV (As := [.int (-1)]) (rest := []) ⟨hx, hb, hml, hown, hts⟩ (c_X10_refuse l dC dI H.size cq Z gI o to (-1) (by decide)) (cwV 1 hts gX10_back_X10_refuse rfl rfl rfl (by decide +kernel) ⟨(Nat.le_of_ble_eq_true rfl), (Nat.le_of_ble_eq_true rfl)⟩) (pr_V (r := (RX10, TX10, 16)) hP hK hD q_1 10 rfl hq_1) rfl rfl hl.1 rfl (lv_room (Nat.le_of_ble_eq_true rfl)) dX10_back_12 ⟨(Nat.le_of_ble_eq_true rfl), (Nat.le_of_ble_eq_true rfl)⟩) hS (fun q _ h => hFc q h) hFc (fun r_7 u t H locs ht hvm w_6 hB hz1 hk1 hS => ?_)
    obtain ⟨S_8, rfl⟩ : ∃ z, z = u := ⟨_, rfl⟩
    obtain ⟨hP1, hK1, hD1⟩ := hB
    rw [ht] at hP1
    have hP : va_P (dC, dI) vwCl (oW cq S_8) H := hP1
    have hD : va_D A (oW cq S_8) := hD1.weaken (fun _ _ _ h => hFc _ h)
    clear hP1 hK1 hD1 hk1 hz1 hvm ht hFc
    obtain ⟨hIS_8, XS_8, hb_9, hx_10⟩ := w_6
    have X_11 : oX Z S_8 := XS_8
    have rf_12 : r_7.toInt = -1 := by rw [hx_10]; decide
    refine W.widen (k := 1) (n := 6) (Nat.le_of_ble_eq_true rfl) (Nat.le_of_ble_eq_true rfl) ?_
    exact W.iret (v := r_7) hx hb hr (fun t ht hW => ⟨⟨r_7, S_8, rfl, ⟨hIS_8, X_11⟩, ⟨by rw [ht]; exact hP, va_K.moved hW.alike hK, hD⟩⟩, hS.F ht⟩) hS.2.2 dX10_back_15
  · refine W.eq (g2 := F0 m 5 ls [.ref b_5]) rfl ?_
    have tb_5 : oty Z b_5 1 := hk_4 b_5 rfl
    refine lv_astore_n (lv' := [(3, .ref b_5), (0, .ref o), (1, .int x1), (2, .int x2)]) hx hb dX10_back_5 rfl hl (by decide) rfl (fun ls hl => ?_)
    refine lv_aload_n hx hb dX10_back_6 rfl (lv_at hl 0 rfl) ?_
    refine lv_ifnonnull (tgt := 16) hx hb dX10_back_7 (by decide) ?_
    refine lv_aload_n hx hb dX10_back_16 rfl (lv_at hl 1 rfl) ?_
    refine lv_aload_n hx hb dX10_back_17 rfl (lv_at hl 0 rfl) ?_
    refine lv_iload_n hx hb dX10_back_18 rfl (lv_at hl 3 rfl) ?_
    have hFc : ∀ q, va_A [] H.size q → A q := pu_free hS hA
    refine va_calli (va_runV (As := [.ref b_5, .int x2]) (rest := []) ⟨hx, hb, hml, hown, hts⟩ (c_X10_tidingRefusal l dC dI H.size cq Z gI o to b_5 tb_5 x2) (cwV 2 hts gX10_back_X10_tidingRefusal rfl rfl rfl (by decide +kernel) ⟨(Nat.le_of_ble_eq_true rfl), (Nat.le_of_ble_eq_true rfl)⟩) (pr_V (r := (RX10, TX10, 16)) hP hK hD q_1 10 rfl hq_1) rfl rfl hl.1 rfl (lv_room (Nat.le_of_ble_eq_true rfl)) dX10_back_19 ⟨(Nat.le_of_ble_eq_true rfl), (Nat.le_of_ble_eq_true rfl)⟩) hS (fun q _ h => hFc q h) hFc (fun r_14 u t H locs ht hvm w_13 hB hz1 hk1 hS => ?_)
    have hP := pu_keep hP hk1
    clear hk1 hz1 hvm hB ht hFc
    have hb_15 := w_13
    refine lv_istore (lv' := [(4, .int r_14), (3, .ref b_5), (0, .ref o), (1, .int x1), (2, .int x2)]) hx hb dX10_back_22 hl (by decide) rfl (fun ls hl => ?_)
    refine lv_iload hx hb dX10_back_24 (lv_at hl 0 rfl) ?_
    refine lv_if_eq (tgt := 36) hx hb dX10_back_26 (by decide) (fun c_16 => ?_) (fun c_16 => ?_)
    · have dc_16 := c_eq (a := r_14.toInt) (b := 0) rfl (by decide) c_16
      refine lv_aload_n hx hb dX10_back_36 rfl (lv_at hl 2 rfl) ?_
      refine lv_aload_n hx hb dX10_back_37 rfl (lv_at hl 1 rfl) ?_
      refine lv_iconst (v := 1) hx hb dX10_back_38 (by decide) ?_
      refine lv_iload_n hx hb dX10_back_39 rfl (lv_at hl 4 rfl) ?_
      refine lv_bipush (v := (-9)) hx hb dX10_back_40 (by decide) ?_
      refine lv_bipush (v := (-9)) hx hb dX10_back_42 (by decide) ?_
      have hFc := o_free hD hS hA
      refine va_calli (va_runV (As := [.ref b_5, .int 1, .int x2, .int (-9), .int (-9)]) (rest := []) ⟨hx, hb, hml, hown, hts⟩ (c_X10_addTiding l dC dI H.size cq Z gI o to b_5 tb_5 1 x2 (-9) (-9) (Or.inl (by decide))) (cwV 5 hts gX10_back_X10_addTiding rfl rfl rfl (by decide +kernel) ⟨(Nat.le_of_ble_eq_true rfl), (Nat.le_of_ble_eq_true rfl)⟩) (pr_V (r := (RX10, TX10, 16)) hP hK hD q_1 10 rfl hq_1) rfl rfl hl.1 rfl (lv_room (Nat.le_of_ble_eq_true rfl)) dX10_back_44 ⟨(Nat.le_of_ble_eq_true rfl), (Nat.le_of_ble_eq_true rfl)⟩) hS (fun q _ h => hFc q h) hFc (fun r_18 u t H locs ht hvm w_17 hB hz1 hk1 hS => ?_)
      obtain ⟨S_19, rfl⟩ : ∃ z, z = u := ⟨_, rfl⟩
      obtain ⟨hP1, hK1, hD1⟩ := hB
      rw [ht] at hP1
      have hP : va_P (dC, dI) vwCl (oW cq S_19) H := hP1
      have hD : va_D A (oW cq S_19) := hD1.weaken (fun _ _ _ h => hFc _ h)
      clear hP1 hK1 hD1 hk1 hz1 hvm ht hFc
      refine W.widen (k := 1) (n := 6) (Nat.le_of_ble_eq_true rfl) (Nat.le_of_ble_eq_true rfl) ?_
      obtain ⟨hIS_19, XS_19⟩ := w_17
      have X_20 : oX Z S_19 := XS_19
      exact W.iret (v := r_18) hx hb hr (fun t ht hW => ⟨⟨r_18, S_19, rfl, ⟨hIS_19, X_20⟩, ⟨by rw [ht]; exact hP, va_K.moved hW.alike hK, hD⟩⟩, hS.F ht⟩) hS.2.2 dX10_back_47
    · have dc_16 := c_ne (a := r_14.toInt) (b := 0) rfl (by decide) c_16
      refine lv_aload_n hx hb dX10_back_29 rfl (lv_at hl 2 rfl) ?_
      refine lv_iload hx hb dX10_back_30 (lv_at hl 0 rfl) ?_
      have hFc := o_free hD hS hA
      refine va_calli (va_runV (As := [.int r_14]) (rest := []) ⟨hx, hb, hml, hown, hts⟩ (c_X10_refuse l dC dI H.size cq Z gI o to r_14 (by omega)) (cwV 1 hts gX10_back_X10_refuse rfl rfl rfl (by decide +kernel) ⟨(Nat.le_of_ble_eq_true rfl), (Nat.le_of_ble_eq_true rfl)⟩) (pr_V (r := (RX10, TX10, 16)) hP hK hD q_1 10 rfl hq_1) rfl rfl hl.1 rfl (lv_room (Nat.le_of_ble_eq_true rfl)) dX10_back_32 ⟨(Nat.le_of_ble_eq_true rfl), (Nat.le_of_ble_eq_true rfl)⟩) hS (fun q _ h => hFc q h) hFc (fun r_22 u t H locs ht hvm w_21 hB hz1 hk1 hS => ?_)
      obtain ⟨S_23, rfl⟩ : ∃ z, z = u := ⟨_, rfl⟩
      obtain ⟨hP1, hK1, hD1⟩ := hB
      rw [ht] at hP1
      have hP : va_P (dC, dI) vwCl (oW cq S_23) H := hP1
      have hD : va_D A (oW cq S_23) := hD1.weaken (fun _ _ _ h => hFc _ h)
      clear hP1 hK1 hD1 hk1 hz1 hvm ht hFc
      obtain ⟨hIS_23, XS_23, hb_24, hx_25⟩ := w_21
      have X_26 : oX Z S_23 := XS_23
      refine W.widen (k := 1) (n := 6) (Nat.le_of_ble_eq_true rfl) (Nat.le_of_ble_eq_true rfl) ?_
      exact W.iret (v := r_22) hx hb hr (fun t ht hW => ⟨⟨r_22, S_23, rfl, ⟨hIS_23, X_26⟩, ⟨by rw [ht]; exact hP, va_K.moved hW.alike hK, hD⟩⟩, hS.F ht⟩) hS.2.2 dX10_back_35
set_option maxHeartbeats 4000000 in
set_option maxRecDepth 100000 in
theorem c_X10_left (l : Launch) (dC : Nat → ClassId) (dI : Nat → Nat → Nat) (sz : Nat) (cq : Nat → ClassId) (Z : oS) (gI : oInv Z) (o : Nat) (to : oty Z o 10) (x1 : Int32) (x2 : Int32) (x3 : Int32) (x4 : Int32) : Met l yX10_left wsX10_left ({ frames := 3, cells := 1, slots := 6, locals := 65 }) (va_Pc [.ref o, .int x1, .int x2, .int x3, .int x4] (pcW (dC, dI) (oT cq) (oW cq Z) sz)) (va_Qi (fun (r : Int32) (u : oS) => oInv u ∧ oX Z u) (fun u t => va_P (dC, dI) vwCl (oW cq u) t.heap ∧ va_K (dC, dI) vwCl (oT cq) t ∧ va_D (va_A (oW cq Z) sz) (oW cq u)) (va_A (oW cq Z) sz)) 1 6 (va_A (oW cq Z) sz) := by
  refine Met.ofW (cc := cX10_left) (maxL := 7) (ret := (some .int)) (by decide) rfl ?_
  intro p e s m args below meth c s₁ B hml hv
  obtain ⟨rfl, hsz, hP, hK, hD0⟩ := hv
  have hx := B.exec
  have hb := B.bytes
  have hr := B.returns
  have hts := atoms_spec (ws := wsX10_left) B.pre
  have hown : s.vm.findClass RX10 = some m.cls := findClass_of_methodNamed B.named
  have hlocks := B.notSynchronized
  subst hsz
  have hD := hD0.self (sz := s.heap.size)
  generalize hAe : va_A (oW cq Z) s.heap.size = A at hD ⊢
  have hA : ∀ q : Nat, s.heap.size ≤ q → A q := fun q h => by rw [← hAe]; exact Or.inr h
  have hS : va_S A s.heap s.heap [] := va_S.rf
  have hP : va_P (dC, dI) vwCl (oW cq Z) s.heap := hP
  have hl := lv_entry ([.ref o, .int x1, .int x2, .int x3, .int x4]) (n := 7) (Nat.le_of_ble_eq_true rfl)
  rw [lg_entry_eq]
  generalize (lg_sl ([.ref o, .int x1, .int x2, .int x3, .int x4]) ++ List.replicate (7 - (lg_sl ([.ref o, .int x1, .int x2, .int x3, .int x4])).length) Slot.unset).toArray = ls at hl ⊢
  have hl : lv_has ls 7 [(0, .ref o), (1, .int x1), (2, .int x2), (3, .int x3), (4, .int x4)] := hl
  refine lv_aload_n hx hb dX10_left_0 rfl (lv_at hl 0 rfl) ?_
  refine lv_iload_n hx hb dX10_left_1 rfl (lv_at hl 1 rfl) ?_
  have hFc : ∀ q, va_A [] s.heap.size q → A q := pu_free hS hA
  obtain ⟨q_1, hq_1⟩ := og (cq := cq) to.1 (oE_10 to.2)
  refine va_callq (va_runV (As := [.int x1]) (rest := []) ⟨hx, hb, hml, hown, hts⟩ (c_X10_agreementAt l dC dI s.heap.size cq Z gI o to x1) (cwV 1 hts gX10_left_X10_agreementAt rfl rfl rfl (by decide +kernel) ⟨(Nat.le_of_ble_eq_true rfl), (Nat.le_of_ble_eq_true rfl)⟩) (pr_V (r := (RX10, TX10, 16)) hP hK hD q_1 10 rfl hq_1) rfl rfl hl.1 rfl (lv_room (Nat.le_of_ble_eq_true rfl)) dX10_left_2 ⟨(Nat.le_of_ble_eq_true rfl), (Nat.le_of_ble_eq_true rfl)⟩) hS (fun q _ h => hFc q h) hFc (fun r_3 u t H locs ht hvm w_2 hB hz1 hk1 hS => ?_)
  have hP := pu_keep hP hk1
  clear hk1 hz1 hvm hB ht hFc
  have hk_4 := w_2
  rcases r_3 with _ | b_5
  · refine W.eq (g2 := F0 m 5 ls [.null]) rfl ?_
    refine lv_astoreN (lv' := [(5, .null), (0, .ref o), (1, .int x1), (2, .int x2), (3, .int x3), (4, .int x4)]) hx hb dX10_left_5 hl (by decide) rfl (fun ls hl => ?_)
    refine lv_aloadN hx hb dX10_left_7 (lv_at hl 0 rfl) ?_
    refine lv_ifnullN (tgt := 20) hx hb dX10_left_9 (by decide) ?_
    refine lv_aload_n hx hb dX10_left_20 rfl (lv_at hl 1 rfl) ?_
    refine lv_iconst (v := (-1)) hx hb dX10_left_21 (by decide) ?_
    have hFc := o_free hD hS hA
    refine va_calli (va_runV (As := [.int (-1)]) (rest := []) ⟨hx, hb, hml, hown, hts⟩ (c_X10_refuse l dC dI H.size cq Z gI o to (-1) (by decide)) (cwV 1 hts gX10_left_X10_refuse rfl rfl rfl (by decide +kernel) ⟨(Nat.le_of_ble_eq_true rfl), (Nat.le_of_ble_eq_true rfl)⟩) (pr_V (r := (RX10, TX10, 16)) hP hK hD q_1 10 rfl hq_1) rfl rfl hl.1 rfl (lv_room (Nat.le_of_ble_eq_true rfl)) dX10_left_22 ⟨(Nat.le_of_ble_eq_true rfl), (Nat.le_of_ble_eq_true rfl)⟩) hS (fun q _ h => hFc q h) hFc (fun r_7 u t H locs ht hvm w_6 hB hz1 hk1 hS => ?_)
    obtain ⟨S_8, rfl⟩ : ∃ z, z = u := ⟨_, rfl⟩
    obtain ⟨hP1, hK1, hD1⟩ := hB
    rw [ht] at hP1
    have hP : va_P (dC, dI) vwCl (oW cq S_8) H := hP1
    have hD : va_D A (oW cq S_8) := hD1.weaken (fun _ _ _ h => hFc _ h)
    clear hP1 hK1 hD1 hk1 hz1 hvm ht hFc
    obtain ⟨hIS_8, XS_8, hb_9, hx_10⟩ := w_6
    have X_11 : oX Z S_8 := XS_8
    have rf_12 : r_7.toInt = -1 := by rw [hx_10]; decide
    refine W.widen (k := 1) (n := 6) (Nat.le_of_ble_eq_true rfl) (Nat.le_of_ble_eq_true rfl) ?_
    exact W.iret (v := r_7) hx hb hr (fun t ht hW => ⟨⟨r_7, S_8, rfl, ⟨hIS_8, X_11⟩, ⟨by rw [ht]; exact hP, va_K.moved hW.alike hK, hD⟩⟩, hS.F ht⟩) hS.2.2 dX10_left_25
  · refine W.eq (g2 := F0 m 5 ls [.ref b_5]) rfl ?_
    have tb_5 : oty Z b_5 1 := hk_4 b_5 rfl
    refine lv_astore (lv' := [(5, .ref b_5), (0, .ref o), (1, .int x1), (2, .int x2), (3, .int x3), (4, .int x4)]) hx hb dX10_left_5 hl (by decide) rfl (fun ls hl => ?_)
    refine lv_aload hx hb dX10_left_7 (lv_at hl 0 rfl) ?_
    refine lv_ifnull hx hb dX10_left_9 ?_
    refine lv_iload hx hb dX10_left_12 (lv_at hl 5 rfl) ?_
    have hFc : ∀ q, va_A [] H.size q → A q := pu_free hS hA
    have hPc := hP.sub (ws' := []) [] rfl
    have hDc := hD.sub (ws' := []) [] (by decide) rfl
    have hKc := hK.sub (tys' := []) [] rfl
    refine va_calli (va_runS (As := [.int x4]) (rest := []) ⟨hx, hb, hml, hown, hts⟩ (c_X10_isPort l dC dI H.size  x4) (va_cwS 1 hts gX10_left_X10_isPort rfl rfl rfl (by decide +kernel) ⟨(Nat.le_of_ble_eq_true rfl), (Nat.le_of_ble_eq_true rfl)⟩) (pr_S hPc hKc hDc) rfl rfl hl.1 rfl (lv_room (Nat.le_of_ble_eq_true rfl)) dX10_left_14 ⟨(Nat.le_of_ble_eq_true rfl), (Nat.le_of_ble_eq_true rfl)⟩) hS (fun q _ h => hFc q h) hFc (fun r_14 u t H locs ht hvm w_13 hB hz1 hk1 hS => ?_)
    have hP := pu_keep hP hk1
    clear hk1 hz1 hvm hB ht hFc hPc hDc hKc
    obtain ⟨hb_15, hx_16⟩ := w_13
    refine lv_if_ne (tgt := 26) hx hb dX10_left_17 (by decide) (fun c_17 => ?_) (fun c_17 => ?_)
    · have dc_17 := c_ne (a := r_14.toInt) (b := 0) rfl (by decide) c_17
      have hi_18 := Or.resolve_left hx_16 c_17
      refine lv_iload_n hx hb dX10_left_26 rfl (lv_at hl 4 rfl) ?_
      refine lv_if_lt (tgt := 35) hx hb dX10_left_27 (by decide) (fun c_19 => ?_) (fun c_19 => ?_)
      · have dc_19 := c_lt (a := x3.toInt) (b := 0) rfl (by decide) c_19
        refine lv_aload_n hx hb dX10_left_35 rfl (lv_at hl 1 rfl) ?_
        refine lv_bipush (v := (-2)) hx hb dX10_left_36 (by decide) ?_
        have hFc := o_free hD hS hA
        refine va_calli (va_runV (As := [.int (-2)]) (rest := []) ⟨hx, hb, hml, hown, hts⟩ (c_X10_refuse l dC dI H.size cq Z gI o to (-2) (by decide)) (cwV 1 hts gX10_left_X10_refuse rfl rfl rfl (by decide +kernel) ⟨(Nat.le_of_ble_eq_true rfl), (Nat.le_of_ble_eq_true rfl)⟩) (pr_V (r := (RX10, TX10, 16)) hP hK hD q_1 10 rfl hq_1) rfl rfl hl.1 rfl (lv_room (Nat.le_of_ble_eq_true rfl)) dX10_left_38 ⟨(Nat.le_of_ble_eq_true rfl), (Nat.le_of_ble_eq_true rfl)⟩) hS (fun q _ h => hFc q h) hFc (fun r_21 u t H locs ht hvm w_20 hB hz1 hk1 hS => ?_)
        obtain ⟨S_22, rfl⟩ : ∃ z, z = u := ⟨_, rfl⟩
        obtain ⟨hP1, hK1, hD1⟩ := hB
        rw [ht] at hP1
        have hP : va_P (dC, dI) vwCl (oW cq S_22) H := hP1
        have hD : va_D A (oW cq S_22) := hD1.weaken (fun _ _ _ h => hFc _ h)
        clear hP1 hK1 hD1 hk1 hz1 hvm ht hFc
        obtain ⟨hIS_22, XS_22, hb_23, hx_24⟩ := w_20
        have X_25 : oX Z S_22 := XS_22
        have rf_26 : r_21.toInt = -2 := by rw [hx_24]; decide
        refine W.widen (k := 1) (n := 6) (Nat.le_of_ble_eq_true rfl) (Nat.le_of_ble_eq_true rfl) ?_
        exact W.iret (v := r_21) hx hb hr (fun t ht hW => ⟨⟨r_21, S_22, rfl, ⟨hIS_22, X_25⟩, ⟨by rw [ht]; exact hP, va_K.moved hW.alike hK, hD⟩⟩, hS.F ht⟩) hS.2.2 dX10_left_41
      · have dc_19 := c_nlt (a := x3.toInt) (b := 0) rfl (by decide) c_19
        refine lv_iload_n hx hb dX10_left_30 rfl (lv_at hl 4 rfl) ?_
        refine lv_iconst (v := 2) hx hb dX10_left_31 (by decide) ?_
        refine lv_icmp_le (tgt := 42) hx hb dX10_left_32 (by decide) (fun c_27 => ?_) (fun c_27 => ?_)
        · have dc_27 := c_le (a := x3.toInt) (b := 2) rfl (by decide) c_27
          refine lv_aload_n hx hb dX10_left_42 rfl (lv_at hl 1 rfl) ?_
          refine lv_aload hx hb dX10_left_43 (lv_at hl 0 rfl) ?_
          refine lv_iload_n hx hb dX10_left_45 rfl (lv_at hl 3 rfl) ?_
          have hFc : ∀ q, va_A [] H.size q → A q := pu_free hS hA
          refine va_calli (va_runV (As := [.ref b_5, .int x2]) (rest := []) ⟨hx, hb, hml, hown, hts⟩ (c_X10_tidingRefusal l dC dI H.size cq Z gI o to b_5 tb_5 x2) (cwV 2 hts gX10_left_X10_tidingRefusal rfl rfl rfl (by decide +kernel) ⟨(Nat.le_of_ble_eq_true rfl), (Nat.le_of_ble_eq_true rfl)⟩) (pr_V (r := (RX10, TX10, 16)) hP hK hD q_1 10 rfl hq_1) rfl rfl hl.1 rfl (lv_room (Nat.le_of_ble_eq_true rfl)) dX10_left_46 ⟨(Nat.le_of_ble_eq_true rfl), (Nat.le_of_ble_eq_true rfl)⟩) hS (fun q _ h => hFc q h) hFc (fun r_29 u t H locs ht hvm w_28 hB hz1 hk1 hS => ?_)
          have hP := pu_keep hP hk1
          clear hk1 hz1 hvm hB ht hFc
          have hb_30 := w_28
          refine lv_istore (lv' := [(6, .int r_29), (5, .ref b_5), (0, .ref o), (1, .int x1), (2, .int x2), (3, .int x3), (4, .int x4)]) hx hb dX10_left_49 hl (by decide) rfl (fun ls hl => ?_)
          refine lv_iload hx hb dX10_left_51 (lv_at hl 0 rfl) ?_
          refine lv_if_eq (tgt := 63) hx hb dX10_left_53 (by decide) (fun c_31 => ?_) (fun c_31 => ?_)
          · have dc_31 := c_eq (a := r_29.toInt) (b := 0) rfl (by decide) c_31
            refine lv_aload_n hx hb dX10_left_63 rfl (lv_at hl 2 rfl) ?_
            refine lv_aload hx hb dX10_left_64 (lv_at hl 1 rfl) ?_
            refine lv_iconst (v := 0) hx hb dX10_left_66 (by decide) ?_
            refine lv_iload_n hx hb dX10_left_67 rfl (lv_at hl 4 rfl) ?_
            refine lv_iload_n hx hb dX10_left_68 rfl (lv_at hl 5 rfl) ?_
            refine lv_iload hx hb dX10_left_69 (lv_at hl 6 rfl) ?_
            have hFc := o_free hD hS hA
            refine va_calli (va_runV (As := [.ref b_5, .int 0, .int x2, .int x3, .int x4]) (rest := []) ⟨hx, hb, hml, hown, hts⟩ (c_X10_addTiding l dC dI H.size cq Z gI o to b_5 tb_5 0 x2 x3 x4 (Or.inr (by omega))) (cwV 5 hts gX10_left_X10_addTiding rfl rfl rfl (by decide +kernel) ⟨(Nat.le_of_ble_eq_true rfl), (Nat.le_of_ble_eq_true rfl)⟩) (pr_V (r := (RX10, TX10, 16)) hP hK hD q_1 10 rfl hq_1) rfl rfl hl.1 rfl (lv_room (Nat.le_of_ble_eq_true rfl)) dX10_left_71 ⟨(Nat.le_of_ble_eq_true rfl), (Nat.le_of_ble_eq_true rfl)⟩) hS (fun q _ h => hFc q h) hFc (fun r_33 u t H locs ht hvm w_32 hB hz1 hk1 hS => ?_)
            obtain ⟨S_34, rfl⟩ : ∃ z, z = u := ⟨_, rfl⟩
            obtain ⟨hP1, hK1, hD1⟩ := hB
            rw [ht] at hP1
            have hP : va_P (dC, dI) vwCl (oW cq S_34) H := hP1
            have hD : va_D A (oW cq S_34) := hD1.weaken (fun _ _ _ h => hFc _ h)
            clear hP1 hK1 hD1 hk1 hz1 hvm ht hFc
            refine W.widen (k := 1) (n := 6) (Nat.le_of_ble_eq_true rfl) (Nat.le_of_ble_eq_true rfl) ?_
            obtain ⟨hIS_34, XS_34⟩ := w_32
            have X_35 : oX Z S_34 := XS_34
            exact W.iret (v := r_33) hx hb hr (fun t ht hW => ⟨⟨r_33, S_34, rfl, ⟨hIS_34, X_35⟩, ⟨by rw [ht]; exact hP, va_K.moved hW.alike hK, hD⟩⟩, hS.F ht⟩) hS.2.2 dX10_left_74
          · have dc_31 := c_ne (a := r_29.toInt) (b := 0) rfl (by decide) c_31
            refine lv_aload_n hx hb dX10_left_56 rfl (lv_at hl 2 rfl) ?_
            refine lv_iload hx hb dX10_left_57 (lv_at hl 0 rfl) ?_
            have hFc := o_free hD hS hA
            refine va_calli (va_runV (As := [.int r_29]) (rest := []) ⟨hx, hb, hml, hown, hts⟩ (c_X10_refuse l dC dI H.size cq Z gI o to r_29 (by omega)) (cwV 1 hts gX10_left_X10_refuse rfl rfl rfl (by decide +kernel) ⟨(Nat.le_of_ble_eq_true rfl), (Nat.le_of_ble_eq_true rfl)⟩) (pr_V (r := (RX10, TX10, 16)) hP hK hD q_1 10 rfl hq_1) rfl rfl hl.1 rfl (lv_room (Nat.le_of_ble_eq_true rfl)) dX10_left_59 ⟨(Nat.le_of_ble_eq_true rfl), (Nat.le_of_ble_eq_true rfl)⟩) hS (fun q _ h => hFc q h) hFc (fun r_37 u t H locs ht hvm w_36 hB hz1 hk1 hS => ?_)
            obtain ⟨S_38, rfl⟩ : ∃ z, z = u := ⟨_, rfl⟩
            obtain ⟨hP1, hK1, hD1⟩ := hB
            rw [ht] at hP1
            have hP : va_P (dC, dI) vwCl (oW cq S_38) H := hP1
            have hD : va_D A (oW cq S_38) := hD1.weaken (fun _ _ _ h => hFc _ h)
            clear hP1 hK1 hD1 hk1 hz1 hvm ht hFc
            obtain ⟨hIS_38, XS_38, hb_39, hx_40⟩ := w_36
            have X_41 : oX Z S_38 := XS_38
            refine W.widen (k := 1) (n := 6) (Nat.le_of_ble_eq_true rfl) (Nat.le_of_ble_eq_true rfl) ?_
            exact W.iret (v := r_37) hx hb hr (fun t ht hW => ⟨⟨r_37, S_38, rfl, ⟨hIS_38, X_41⟩, ⟨by rw [ht]; exact hP, va_K.moved hW.alike hK, hD⟩⟩, hS.F ht⟩) hS.2.2 dX10_left_62
        · have dc_27 := c_nle (a := x3.toInt) (b := 2) rfl (by decide) c_27
          refine lv_aload_n hx hb dX10_left_35 rfl (lv_at hl 1 rfl) ?_
          refine lv_bipush (v := (-2)) hx hb dX10_left_36 (by decide) ?_
          have hFc := o_free hD hS hA
          refine va_calli (va_runV (As := [.int (-2)]) (rest := []) ⟨hx, hb, hml, hown, hts⟩ (c_X10_refuse l dC dI H.size cq Z gI o to (-2) (by decide)) (cwV 1 hts gX10_left_X10_refuse rfl rfl rfl (by decide +kernel) ⟨(Nat.le_of_ble_eq_true rfl), (Nat.le_of_ble_eq_true rfl)⟩) (pr_V (r := (RX10, TX10, 16)) hP hK hD q_1 10 rfl hq_1) rfl rfl hl.1 rfl (lv_room (Nat.le_of_ble_eq_true rfl)) dX10_left_38 ⟨(Nat.le_of_ble_eq_true rfl), (Nat.le_of_ble_eq_true rfl)⟩) hS (fun q _ h => hFc q h) hFc (fun r_43 u t H locs ht hvm w_42 hB hz1 hk1 hS => ?_)
          obtain ⟨S_44, rfl⟩ : ∃ z, z = u := ⟨_, rfl⟩
          obtain ⟨hP1, hK1, hD1⟩ := hB
          rw [ht] at hP1
          have hP : va_P (dC, dI) vwCl (oW cq S_44) H := hP1
          have hD : va_D A (oW cq S_44) := hD1.weaken (fun _ _ _ h => hFc _ h)
          clear hP1 hK1 hD1 hk1 hz1 hvm ht hFc
          obtain ⟨hIS_44, XS_44, hb_45, hx_46⟩ := w_42
          have X_47 : oX Z S_44 := XS_44
          have rf_48 : r_43.toInt = -2 := by rw [hx_46]; decide
          refine W.widen (k := 1) (n := 6) (Nat.le_of_ble_eq_true rfl) (Nat.le_of_ble_eq_true rfl) ?_
          exact W.iret (v := r_43) hx hb hr (fun t ht hW => ⟨⟨r_43, S_44, rfl, ⟨hIS_44, X_47⟩, ⟨by rw [ht]; exact hP, va_K.moved hW.alike hK, hD⟩⟩, hS.F ht⟩) hS.2.2 dX10_left_41
    · have dc_17 := c_eq (a := r_14.toInt) (b := 0) rfl (by decide) c_17
      refine lv_aload_n hx hb dX10_left_20 rfl (lv_at hl 1 rfl) ?_
      refine lv_iconst (v := (-1)) hx hb dX10_left_21 (by decide) ?_
      have hFc := o_free hD hS hA
      refine va_calli (va_runV (As := [.int (-1)]) (rest := []) ⟨hx, hb, hml, hown, hts⟩ (c_X10_refuse l dC dI H.size cq Z gI o to (-1) (by decide)) (cwV 1 hts gX10_left_X10_refuse rfl rfl rfl (by decide +kernel) ⟨(Nat.le_of_ble_eq_true rfl), (Nat.le_of_ble_eq_true rfl)⟩) (pr_V (r := (RX10, TX10, 16)) hP hK hD q_1 10 rfl hq_1) rfl rfl hl.1 rfl (lv_room (Nat.le_of_ble_eq_true rfl)) dX10_left_22 ⟨(Nat.le_of_ble_eq_true rfl), (Nat.le_of_ble_eq_true rfl)⟩) hS (fun q _ h => hFc q h) hFc (fun r_50 u t H locs ht hvm w_49 hB hz1 hk1 hS => ?_)
      obtain ⟨S_51, rfl⟩ : ∃ z, z = u := ⟨_, rfl⟩
      obtain ⟨hP1, hK1, hD1⟩ := hB
      rw [ht] at hP1
      have hP : va_P (dC, dI) vwCl (oW cq S_51) H := hP1
      have hD : va_D A (oW cq S_51) := hD1.weaken (fun _ _ _ h => hFc _ h)
      clear hP1 hK1 hD1 hk1 hz1 hvm ht hFc
      obtain ⟨hIS_51, XS_51, hb_52, hx_53⟩ := w_49
      have X_54 : oX Z S_51 := XS_51
      have rf_55 : r_50.toInt = -1 := by rw [hx_53]; decide
      refine W.widen (k := 1) (n := 6) (Nat.le_of_ble_eq_true rfl) (Nat.le_of_ble_eq_true rfl) ?_
      exact W.iret (v := r_50) hx hb hr (fun t ht hW => ⟨⟨r_50, S_51, rfl, ⟨hIS_51, X_54⟩, ⟨by rw [ht]; exact hP, va_K.moved hW.alike hK, hD⟩⟩, hS.F ht⟩) hS.2.2 dX10_left_25
set_option maxHeartbeats 4000000 in
set_option maxRecDepth 100000 in
theorem c_X10_heard (l : Launch) (dC : Nat → ClassId) (dI : Nat → Nat → Nat) (sz : Nat) (cq : Nat → ClassId) (Z : oS) (gI : oInv Z) (o : Nat) (to : oty Z o 10) (x1 : Int32) (x2 : Int32) : Met l yX10_heard wsX10_heard ({ frames := 2, cells := 1, slots := 6, locals := 40 }) (va_Pc [.ref o, .int x1, .int x2] (pcW (dC, dI) (oT cq) (oW cq Z) sz)) (va_Qi (fun (r : Int32) (u : oS) => oInv u ∧ oX Z u) (fun u t => va_P (dC, dI) vwCl (oW cq u) t.heap ∧ va_K (dC, dI) vwCl (oT cq) t ∧ va_D (va_A (oW cq Z) sz) (oW cq u)) (va_A (oW cq Z) sz)) 1 6 (va_A (oW cq Z) sz) := by
  refine Met.ofW (cc := cX10_heard) (maxL := 5) (ret := (some .int)) (by decide) rfl ?_
  intro p e s m args below meth c s₁ B hml hv
  obtain ⟨rfl, hsz, hP, hK, hD0⟩ := hv
  have hx := B.exec
  have hb := B.bytes
  have hr := B.returns
  have hts := atoms_spec (ws := wsX10_heard) B.pre
  have hown : s.vm.findClass RX10 = some m.cls := findClass_of_methodNamed B.named
  have hlocks := B.notSynchronized
  subst hsz
  have hD := hD0.self (sz := s.heap.size)
  generalize hAe : va_A (oW cq Z) s.heap.size = A at hD ⊢
  have hA : ∀ q : Nat, s.heap.size ≤ q → A q := fun q h => by rw [← hAe]; exact Or.inr h
  have hS : va_S A s.heap s.heap [] := va_S.rf
  have hP : va_P (dC, dI) vwCl (oW cq Z) s.heap := hP
  have hl := lv_entry ([.ref o, .int x1, .int x2]) (n := 5) (Nat.le_of_ble_eq_true rfl)
  rw [lg_entry_eq]
  generalize (lg_sl ([.ref o, .int x1, .int x2]) ++ List.replicate (5 - (lg_sl ([.ref o, .int x1, .int x2])).length) Slot.unset).toArray = ls at hl ⊢
  have hl : lv_has ls 5 [(0, .ref o), (1, .int x1), (2, .int x2)] := hl
  refine lv_aload_n hx hb dX10_heard_0 rfl (lv_at hl 0 rfl) ?_
  refine lv_iload_n hx hb dX10_heard_1 rfl (lv_at hl 1 rfl) ?_
  have hFc : ∀ q, va_A [] s.heap.size q → A q := pu_free hS hA
  obtain ⟨q_1, hq_1⟩ := og (cq := cq) to.1 (oE_10 to.2)
  refine va_callq (va_runV (As := [.int x1]) (rest := []) ⟨hx, hb, hml, hown, hts⟩ (c_X10_voyageAt l dC dI s.heap.size cq Z gI o to x1) (cwV 1 hts gX10_heard_X10_voyageAt rfl rfl rfl (by decide +kernel) ⟨(Nat.le_of_ble_eq_true rfl), (Nat.le_of_ble_eq_true rfl)⟩) (pr_V (r := (RX10, TX10, 16)) hP hK hD q_1 10 rfl hq_1) rfl rfl hl.1 rfl (lv_room (Nat.le_of_ble_eq_true rfl)) dX10_heard_2 ⟨(Nat.le_of_ble_eq_true rfl), (Nat.le_of_ble_eq_true rfl)⟩) hS (fun q _ h => hFc q h) hFc (fun r_3 u t H locs ht hvm w_2 hB hz1 hk1 hS => ?_)
  have hP := pu_keep hP hk1
  clear hk1 hz1 hvm hB ht hFc
  have hk_4 := w_2
  rcases r_3 with _ | b_5
  · refine W.eq (g2 := F0 m 5 ls [.null]) rfl ?_
    refine lv_astore_nN (lv' := [(3, .null), (0, .ref o), (1, .int x1), (2, .int x2)]) hx hb dX10_heard_5 rfl hl (by decide) rfl (fun ls hl => ?_)
    refine lv_aload_nN hx hb dX10_heard_6 rfl (lv_at hl 0 rfl) ?_
    refine lv_ifnonnullN hx hb dX10_heard_7 ?_
    refine lv_aload_n hx hb dX10_heard_10 rfl (lv_at hl 1 rfl) ?_
    refine lv_iconst (v := (-1)) hx hb dX10_heard_11 (by decide) ?_
    have hFc := o_free hD hS hA
    refine va_calli (va_runV (As := [.int (-1)]) (rest := []) ⟨hx, hb, hml, hown, hts⟩ (c_X10_refuse l dC dI H.size cq Z gI o to (-1) (by decide)) (cwV 1 hts gX10_heard_X10_refuse rfl rfl rfl (by decide +kernel) ⟨(Nat.le_of_ble_eq_true rfl), (Nat.le_of_ble_eq_true rfl)⟩) (pr_V (r := (RX10, TX10, 16)) hP hK hD q_1 10 rfl hq_1) rfl rfl hl.1 rfl (lv_room (Nat.le_of_ble_eq_true rfl)) dX10_heard_12 ⟨(Nat.le_of_ble_eq_true rfl), (Nat.le_of_ble_eq_true rfl)⟩) hS (fun q _ h => hFc q h) hFc (fun r_7 u t H locs ht hvm w_6 hB hz1 hk1 hS => ?_)
    obtain ⟨S_8, rfl⟩ : ∃ z, z = u := ⟨_, rfl⟩
    obtain ⟨hP1, hK1, hD1⟩ := hB
    rw [ht] at hP1
    have hP : va_P (dC, dI) vwCl (oW cq S_8) H := hP1
    have hD : va_D A (oW cq S_8) := hD1.weaken (fun _ _ _ h => hFc _ h)
    clear hP1 hK1 hD1 hk1 hz1 hvm ht hFc
    obtain ⟨hIS_8, XS_8, hb_9, hx_10⟩ := w_6
    have X_11 : oX Z S_8 := XS_8
    have rf_12 : r_7.toInt = -1 := by rw [hx_10]; decide
    refine W.widen (k := 1) (n := 6) (Nat.le_of_ble_eq_true rfl) (Nat.le_of_ble_eq_true rfl) ?_
    exact W.iret (v := r_7) hx hb hr (fun t ht hW => ⟨⟨r_7, S_8, rfl, ⟨hIS_8, X_11⟩, ⟨by rw [ht]; exact hP, va_K.moved hW.alike hK, hD⟩⟩, hS.F ht⟩) hS.2.2 dX10_heard_15
  · refine W.eq (g2 := F0 m 5 ls [.ref b_5]) rfl ?_
    have tb_5 : oty Z b_5 9 := hk_4 b_5 rfl
    refine lv_astore_n (lv' := [(3, .ref b_5), (0, .ref o), (1, .int x1), (2, .int x2)]) hx hb dX10_heard_5 rfl hl (by decide) rfl (fun ls hl => ?_)
    refine lv_aload_n hx hb dX10_heard_6 rfl (lv_at hl 0 rfl) ?_
    refine lv_ifnonnull (tgt := 16) hx hb dX10_heard_7 (by decide) ?_
    refine lv_aload_n hx hb dX10_heard_16 rfl (lv_at hl 1 rfl) ?_
    refine lv_aload_n hx hb dX10_heard_17 rfl (lv_at hl 0 rfl) ?_
    refine lv_iload_n hx hb dX10_heard_18 rfl (lv_at hl 3 rfl) ?_
    refine lv_iconst (v := 0) hx hb dX10_heard_19 (by decide) ?_
    have hFc : ∀ q, va_A [] H.size q → A q := pu_free hS hA
    refine va_calli (va_runV (As := [.ref b_5, .int x2, .int 0]) (rest := []) ⟨hx, hb, hml, hown, hts⟩ (c_X10_voyageRefusal l dC dI H.size cq Z gI o to b_5 tb_5 x2 0) (cwV 3 hts gX10_heard_X10_voyageRefusal rfl rfl rfl (by decide +kernel) ⟨(Nat.le_of_ble_eq_true rfl), (Nat.le_of_ble_eq_true rfl)⟩) (pr_V (r := (RX10, TX10, 16)) hP hK hD q_1 10 rfl hq_1) rfl rfl hl.1 rfl (lv_room (Nat.le_of_ble_eq_true rfl)) dX10_heard_20 ⟨(Nat.le_of_ble_eq_true rfl), (Nat.le_of_ble_eq_true rfl)⟩) hS (fun q _ h => hFc q h) hFc (fun r_14 u t H locs ht hvm w_13 hB hz1 hk1 hS => ?_)
    have hP := pu_keep hP hk1
    clear hk1 hz1 hvm hB ht hFc
    obtain ⟨hb_15, hx_16⟩ := w_13
    refine lv_istore (lv' := [(4, .int r_14), (3, .ref b_5), (0, .ref o), (1, .int x1), (2, .int x2)]) hx hb dX10_heard_23 hl (by decide) rfl (fun ls hl => ?_)
    refine lv_iload hx hb dX10_heard_25 (lv_at hl 0 rfl) ?_
    refine lv_if_eq (tgt := 37) hx hb dX10_heard_27 (by decide) (fun c_17 => ?_) (fun c_17 => ?_)
    · have dc_17 := c_eq (a := r_14.toInt) (b := 0) rfl (by decide) c_17
      have hi_18 := hx_16 c_17
      refine lv_aload_n hx hb dX10_heard_37 rfl (lv_at hl 1 rfl) ?_
      refine va_new (ci := 3) (fs := [.int 0, .int 0, .int 0, .int 0, .int 0, .null]) (C := RX3) (T := TX3) (N := 6) hx hb hts in_wsX10_heard_X3 tyX3 tyX3_ok hown (hts (.classLink RX10 142 RX3) (by decide +kernel)) (hts (.instantiable RX3 6) (by decide +kernel)) (hts (.initialized RX3) (by decide +kernel)) hK hP hD hS hA rfl (fun j hj => by rcases (show j = 0 ∨ j = 1 ∨ j = 2 ∨ j = 3 ∨ j = 4 ∨ j = 5 by omega) with rfl | rfl | rfl | rfl | rfl | rfl <;> rfl) (Nat.le_of_ble_eq_true rfl) (Nat.le_of_ble_eq_true rfl) dX10_heard_38 (fun q_19 H hP1 hD1 hS => ?_)
      have hnq_19 := add_q hD1
      obtain ⟨S_20, eS_20⟩ : ∃ zq, zq = addO Z q_19 33 := ⟨_, rfl⟩
      have hP : va_P (dC, dI) vwCl (oW cq S_20) H := by rw [eS_20]; exact cP (onew hD1 (by rw [oE_33 add_K, add_I, add_P]; rfl)) hP1
      have hD : va_D A (oW cq S_20) := by rw [eS_20]; exact cD (onew hD1 (by rw [oE_33 add_K, add_I, add_P]; rfl)) hD1
      clear hP1 hD1
      have hIS_20 : oInv S_20 := by rw [eS_20]; exact oInv.add gI hnq_19 (by decide)
      have XS_20 : oX Z S_20 := by rw [eS_20]; exact oX.add hnq_19
      have X_21 : oX Z S_20 := XS_20
      have tq_19 : oty S_20 q_19 33 := by rw [eS_20]; exact add_ty
      refine W.widen (k := 1) (n := 6) (Nat.le_of_ble_eq_true rfl) (Nat.le_of_ble_eq_true rfl) ?_
      refine lv_dup hx hb dX10_heard_41 rfl ?_
      refine lv_iconst (v := 3) hx hb dX10_heard_42 (by decide) ?_
      refine lv_iload_n hx hb dX10_heard_43 rfl (lv_at hl 4 rfl) ?_
      refine lv_aload_n hx hb dX10_heard_44 rfl (lv_at hl 2 rfl) ?_
      have t_22 : oty S_20 o 10 := (oX.ty XS_20 to)
      obtain ⟨q_23, hq_23⟩ := og (cq := cq) t_22.1 (oE_10 t_22.2)
      refine va_get (D := (dC, dI)) (ci := 10) (v := .int (oI S_20 o 0)) (C := RX10) (T := TX10) (N := 16) hx hb hts in_wsX10_heard_X10 hown hK hP q_23 hq_23 rfl 0 (by decide) (hts (.fieldLink RX10 73 "ShipOffice" "now" "I") (by decide +kernel)) (fun _ h9 => h9) rfl dX10_heard_45 ?_
      refine lv_topi (fun x_24 ex_24 => ?_)
      have hx_24 : 0 ≤ x_24.toInt ∧ x_24.toInt ≤ 3000 := iv_of ex_24 (oInv.iv hIS_20 t_22.2 rfl rfl)
      have gx_24 : x_24.toInt = (oI S_20 o 0).toInt := iv_to ex_24
      clear ex_24
      refine lv_bipush (v := (-9)) hx hb dX10_heard_48 (by decide) ?_
      refine lv_bipush (v := (-9)) hx hb dX10_heard_50 (by decide) ?_
      refine lv_aload_n hx hb dX10_heard_52 rfl (lv_at hl 1 rfl) ?_
      have t_25 : oty S_20 b_5 9 := (oX.ty XS_20 tb_5)
      obtain ⟨q_26, hq_26⟩ := og (cq := cq) t_25.1 (oE_9 t_25.2)
      rcases hb_28 : oP S_20 b_5 9 with _ | b_27
      · refine va_get (D := (dC, dI)) (ci := 9) (v := .null) (C := RX9) (T := TX9) (N := 10) hx hb hts in_wsX10_heard_X9 hown hK hP q_26 hq_26 rfl 9 (by decide) (hts (.fieldLink RX10 144 "ShipOffice$Voyage" "heardOf" "LShipOffice$Happening;") (by decide +kernel)) (fun _ h9 => h9) (o_rd hb_28) dX10_heard_53 ?_
        have hFc := o_free hD hS hA
        refine va_callv (va_runI (As := [.int 3, .int x2, .int x_24, .int (-9), .int (-9), .null]) (rest := [.ref q_19, .ref b_5]) ⟨hx, hb, hml, hown, hts⟩ (c_X3_init l dC dI H.size cq S_20 hIS_20 q_19 tq_19 3 x2 x_24 (-9) (-9) none (fun b h => by cases h) (Or.inl (by decide)) (fun b h => by cases h)) (cwI 6 hts gX10_heard_X3_init rfl rfl rfl (hts (.initialized RX3) (by decide +kernel)) (hts (.methodLink RX10 148 yX3_init) (by decide +kernel)) (hts (.instanceMethod yX3_init) (by decide +kernel)) rfl (by decide +kernel) ⟨(Nat.le_of_ble_eq_true rfl), (Nat.le_of_ble_eq_true rfl)⟩) (pr_S hP hK hD) rfl rfl hl.1 rfl (lv_room (Nat.le_of_ble_eq_true rfl)) dX10_heard_56 ⟨(Nat.le_of_ble_eq_true rfl), (Nat.le_of_ble_eq_true rfl)⟩) hS (fun q _ h => hFc q h) hFc (fun u t H locs ht hvm w_29 hB hz1 hk1 hS => ?_)
        obtain ⟨S_31, rfl⟩ : ∃ z, z = u := ⟨_, rfl⟩
        obtain ⟨hP1, hK1, hD1⟩ := hB
        rw [ht] at hP1
        have hP : va_P (dC, dI) vwCl (oW cq S_31) H := hP1
        have hD : va_D A (oW cq S_31) := hD1.weaken (fun _ _ _ h => hFc _ h)
        clear hP1 hK1 hD1 hk1 hz1 hvm ht hFc
        obtain ⟨hIS_31, XS_31, hx_32⟩ := w_29
        obtain ⟨hxS_31, FS_31⟩ := hx_32
        have X_33 : oX Z S_31 := oX.c X_21 XS_31 (oX.nin oX.rf hnq_19)
        have g_34 : (oI S_31 o 0).toInt = (oI S_20 o 0).toInt := by rw [(FS_31 o t_22.1 (ty_ne t_22 tq_19 (by decide))).1 (by rw [t_22.2]; decide)]
        have t_35 : oty S_31 b_5 9 := (oXc.ty XS_31 (ty_ne t_25 tq_19 (by decide)) t_25)
        obtain ⟨q_36, hq_36⟩ := og (cq := cq) t_35.1 (oE_9 t_35.2)
        refine va_put (D := (dC, dI)) (ci := 9) (v := .ref q_19) (ty := .object "ShipOffice$Happening") (C := RX9) (T := TX9) (N := 10) hx hb hts in_wsX10_heard_X9 tyX9 tyX9_ok nmX9 hown hK hP hD hS q_36 hq_36 rfl 9 (by decide) (hts (.fieldLink RX10 144 "ShipOffice$Voyage" "heardOf" "LShipOffice$Happening;") (by decide +kernel)) (fun _ h9 => h9) rfl (by decide +kernel) rfl rfl (Nat.le_of_ble_eq_true rfl) dX10_heard_59 (fun H locs hP1 hD1 hS => ?_)
        obtain ⟨S_37, eS_37⟩ : ∃ zq, zq = setP S_31 b_5 9 (some q_19) := ⟨_, rfl⟩
        have hP : va_P (dC, dI) vwCl (oW cq S_37) H := by rw [eS_37]; exact cP (oset t_35.1 hq_36 hD rfl (he_9_9 t_35.2) neP) hP1
        have hD : va_D A (oW cq S_37) := by rw [eS_37]; exact cD (oset t_35.1 hq_36 hD rfl (he_9_9 t_35.2) neP) hD1
        clear hP1 hD1
        have hIS_37 : oInv S_37 := by rw [eS_37]; exact oInv.P (k := 9) hIS_31 t_35.2 (by decide) rfl (by decide) hxS_31 (by decide)
        have XS_37 : oX S_31 S_37 := by rw [eS_37]; exact oX.P
        have X_38 : oX Z S_37 := oX.tr X_33 XS_37
        have g_39 : (oI S_37 o 0).toInt = (oI S_31 o 0).toInt := by rw [eS_37]; rfl
        refine lv_aload_n hx hb dX10_heard_62 rfl (lv_at hl 2 rfl) ?_
        refine lv_dup hx hb dX10_heard_63 rfl ?_
        have t_40 : oty S_37 o 10 := (oX.ty XS_37 (oXc.ty XS_31 (ty_ne t_22 tq_19 (by decide)) t_22))
        obtain ⟨q_41, hq_41⟩ := og (cq := cq) t_40.1 (oE_10 t_40.2)
        refine va_get (D := (dC, dI)) (ci := 10) (v := .int (oI S_37 o 7)) (C := RX10) (T := TX10) (N := 16) hx hb hts in_wsX10_heard_X10 hown hK hP q_41 hq_41 rfl 7 (by decide) (hts (.fieldLink RX10 139 "ShipOffice" "happeningCount" "I") (by decide +kernel)) (fun _ h9 => h9) rfl dX10_heard_64 ?_
        refine lv_topi (fun x_42 ex_42 => ?_)
        clear ex_42
        refine lv_iconst (v := 1) hx hb dX10_heard_67 (by decide) ?_
        refine lv_iadd hx hb dX10_heard_68 ?_
        refine lv_topi (fun x_43 ex_43 => ?_)
        clear ex_43
        refine va_put (D := (dC, dI)) (ci := 10) (v := .int x_43) (ty := .int) (C := RX10) (T := TX10) (N := 16) hx hb hts in_wsX10_heard_X10 tyX10 tyX10_ok nmX10 hown hK hP hD hS q_41 hq_41 rfl 7 (by decide) (hts (.fieldLink RX10 139 "ShipOffice" "happeningCount" "I") (by decide +kernel)) (fun _ h9 => h9) rfl (by decide +kernel) rfl rfl (Nat.le_of_ble_eq_true rfl) dX10_heard_69 (fun H locs hP1 hD1 hS => ?_)
        obtain ⟨S_44, eS_44⟩ : ∃ zq, zq = setI S_37 o 7 x_43 := ⟨_, rfl⟩
        have hP : va_P (dC, dI) vwCl (oW cq S_44) H := by rw [eS_44]; exact cP (oset t_40.1 hq_41 hD rfl (he_10_7 t_40.2) neI) hP1
        have hD : va_D A (oW cq S_44) := by rw [eS_44]; exact cD (oset t_40.1 hq_41 hD rfl (he_10_7 t_40.2) neI) hD1
        clear hP1 hD1
        have hIS_44 : oInv S_44 := by rw [eS_44]; exact oInv.I0 (k := 10) (lo := -2147483648) (hi := 2147483647) hIS_37 t_40.2 (by decide) rfl rfl rfl (iv_all _)
        have XS_44 : oX S_37 S_44 := by rw [eS_44]; exact oX.I (k := 10) t_40.2 (by decide)
        have X_45 : oX Z S_44 := oX.tr X_38 XS_44
        have g_46 : (oI S_44 o 0).toInt = (oI S_37 o 0).toInt := by rw [eS_44, setI_ne (by decide)]
        refine lv_aload_n hx hb dX10_heard_72 rfl (lv_at hl 2 rfl) ?_
        have t_47 : oty S_44 o 10 := (oX.ty XS_44 t_40)
        obtain ⟨q_48, hq_48⟩ := og (cq := cq) t_47.1 (oE_10 t_47.2)
        refine va_get (D := (dC, dI)) (ci := 10) (v := .int (oI S_44 o 7)) (C := RX10) (T := TX10) (N := 16) hx hb hts in_wsX10_heard_X10 hown hK hP q_48 hq_48 rfl 7 (by decide) (hts (.fieldLink RX10 139 "ShipOffice" "happeningCount" "I") (by decide +kernel)) (fun _ h9 => h9) rfl dX10_heard_73 ?_
        refine lv_topi (fun x_49 ex_49 => ?_)
        clear ex_49
        exact W.iret (v := x_49) hx hb hr (fun t ht hW => ⟨⟨x_49, S_44, rfl, ⟨hIS_44, X_45⟩, ⟨by rw [ht]; exact hP, va_K.moved hW.alike hK, hD⟩⟩, hS.F ht⟩) hS.2.2 dX10_heard_76
      · refine va_get (D := (dC, dI)) (ci := 9) (v := .ref b_27) (C := RX9) (T := TX9) (N := 10) hx hb hts in_wsX10_heard_X9 hown hK hP q_26 hq_26 rfl 9 (by decide) (hts (.fieldLink RX10 144 "ShipOffice$Voyage" "heardOf" "LShipOffice$Happening;") (by decide +kernel)) (fun _ h9 => h9) (o_rd hb_28) dX10_heard_53 ?_
        have tb_27 : oty S_20 b_27 3 := oInv.rd hIS_20 t_25.2 hb_28 rfl rfl
        have hFc := o_free hD hS hA
        refine va_callv (va_runI (As := [.int 3, .int x2, .int x_24, .int (-9), .int (-9), .ref b_27]) (rest := [.ref q_19, .ref b_5]) ⟨hx, hb, hml, hown, hts⟩ (c_X3_init l dC dI H.size cq S_20 hIS_20 q_19 tq_19 3 x2 x_24 (-9) (-9) (some b_27) (fun b h => by cases h; exact tb_27) (Or.inl (by decide)) (fun b h => by cases h; have hm := tb_27.1; have nb := ty_ne tb_27 tq_19 (by decide); rw [eS_20] at hm ⊢; exact add_G2 hnq_19 hm nb)) (cwI 6 hts gX10_heard_X3_init rfl rfl rfl (hts (.initialized RX3) (by decide +kernel)) (hts (.methodLink RX10 148 yX3_init) (by decide +kernel)) (hts (.instanceMethod yX3_init) (by decide +kernel)) rfl (by decide +kernel) ⟨(Nat.le_of_ble_eq_true rfl), (Nat.le_of_ble_eq_true rfl)⟩) (pr_S hP hK hD) rfl rfl hl.1 rfl (lv_room (Nat.le_of_ble_eq_true rfl)) dX10_heard_56 ⟨(Nat.le_of_ble_eq_true rfl), (Nat.le_of_ble_eq_true rfl)⟩) hS (fun q _ h => hFc q h) hFc (fun u t H locs ht hvm w_50 hB hz1 hk1 hS => ?_)
        obtain ⟨S_52, rfl⟩ : ∃ z, z = u := ⟨_, rfl⟩
        obtain ⟨hP1, hK1, hD1⟩ := hB
        rw [ht] at hP1
        have hP : va_P (dC, dI) vwCl (oW cq S_52) H := hP1
        have hD : va_D A (oW cq S_52) := hD1.weaken (fun _ _ _ h => hFc _ h)
        clear hP1 hK1 hD1 hk1 hz1 hvm ht hFc
        obtain ⟨hIS_52, XS_52, hx_53⟩ := w_50
        obtain ⟨hxS_52, FS_52⟩ := hx_53
        have X_54 : oX Z S_52 := oX.c X_21 XS_52 (oX.nin oX.rf hnq_19)
        have g_55 : (oI S_52 o 0).toInt = (oI S_20 o 0).toInt := by rw [(FS_52 o t_22.1 (ty_ne t_22 tq_19 (by decide))).1 (by rw [t_22.2]; decide)]
        have t_56 : oty S_52 b_5 9 := (oXc.ty XS_52 (ty_ne t_25 tq_19 (by decide)) t_25)
        obtain ⟨q_57, hq_57⟩ := og (cq := cq) t_56.1 (oE_9 t_56.2)
        refine va_put (D := (dC, dI)) (ci := 9) (v := .ref q_19) (ty := .object "ShipOffice$Happening") (C := RX9) (T := TX9) (N := 10) hx hb hts in_wsX10_heard_X9 tyX9 tyX9_ok nmX9 hown hK hP hD hS q_57 hq_57 rfl 9 (by decide) (hts (.fieldLink RX10 144 "ShipOffice$Voyage" "heardOf" "LShipOffice$Happening;") (by decide +kernel)) (fun _ h9 => h9) rfl (by decide +kernel) rfl rfl (Nat.le_of_ble_eq_true rfl) dX10_heard_59 (fun H locs hP1 hD1 hS => ?_)
        obtain ⟨S_58, eS_58⟩ : ∃ zq, zq = setP S_52 b_5 9 (some q_19) := ⟨_, rfl⟩
        have hP : va_P (dC, dI) vwCl (oW cq S_58) H := by rw [eS_58]; exact cP (oset t_56.1 hq_57 hD rfl (he_9_9 t_56.2) neP) hP1
        have hD : va_D A (oW cq S_58) := by rw [eS_58]; exact cD (oset t_56.1 hq_57 hD rfl (he_9_9 t_56.2) neP) hD1
        clear hP1 hD1
        have hIS_58 : oInv S_58 := by rw [eS_58]; exact oInv.P (k := 9) hIS_52 t_56.2 (by decide) rfl (by decide) hxS_52 (by decide)
        have XS_58 : oX S_52 S_58 := by rw [eS_58]; exact oX.P
        have X_59 : oX Z S_58 := oX.tr X_54 XS_58
        have g_60 : (oI S_58 o 0).toInt = (oI S_52 o 0).toInt := by rw [eS_58]; rfl
        refine lv_aload_n hx hb dX10_heard_62 rfl (lv_at hl 2 rfl) ?_
        refine lv_dup hx hb dX10_heard_63 rfl ?_
        have t_61 : oty S_58 o 10 := (oX.ty XS_58 (oXc.ty XS_52 (ty_ne t_22 tq_19 (by decide)) t_22))
        obtain ⟨q_62, hq_62⟩ := og (cq := cq) t_61.1 (oE_10 t_61.2)
        refine va_get (D := (dC, dI)) (ci := 10) (v := .int (oI S_58 o 7)) (C := RX10) (T := TX10) (N := 16) hx hb hts in_wsX10_heard_X10 hown hK hP q_62 hq_62 rfl 7 (by decide) (hts (.fieldLink RX10 139 "ShipOffice" "happeningCount" "I") (by decide +kernel)) (fun _ h9 => h9) rfl dX10_heard_64 ?_
        refine lv_topi (fun x_63 ex_63 => ?_)
        clear ex_63
        refine lv_iconst (v := 1) hx hb dX10_heard_67 (by decide) ?_
        refine lv_iadd hx hb dX10_heard_68 ?_
        refine lv_topi (fun x_64 ex_64 => ?_)
        clear ex_64
        refine va_put (D := (dC, dI)) (ci := 10) (v := .int x_64) (ty := .int) (C := RX10) (T := TX10) (N := 16) hx hb hts in_wsX10_heard_X10 tyX10 tyX10_ok nmX10 hown hK hP hD hS q_62 hq_62 rfl 7 (by decide) (hts (.fieldLink RX10 139 "ShipOffice" "happeningCount" "I") (by decide +kernel)) (fun _ h9 => h9) rfl (by decide +kernel) rfl rfl (Nat.le_of_ble_eq_true rfl) dX10_heard_69 (fun H locs hP1 hD1 hS => ?_)
        obtain ⟨S_65, eS_65⟩ : ∃ zq, zq = setI S_58 o 7 x_64 := ⟨_, rfl⟩
        have hP : va_P (dC, dI) vwCl (oW cq S_65) H := by rw [eS_65]; exact cP (oset t_61.1 hq_62 hD rfl (he_10_7 t_61.2) neI) hP1
        have hD : va_D A (oW cq S_65) := by rw [eS_65]; exact cD (oset t_61.1 hq_62 hD rfl (he_10_7 t_61.2) neI) hD1
        clear hP1 hD1
        have hIS_65 : oInv S_65 := by rw [eS_65]; exact oInv.I0 (k := 10) (lo := -2147483648) (hi := 2147483647) hIS_58 t_61.2 (by decide) rfl rfl rfl (iv_all _)
        have XS_65 : oX S_58 S_65 := by rw [eS_65]; exact oX.I (k := 10) t_61.2 (by decide)
        have X_66 : oX Z S_65 := oX.tr X_59 XS_65
        have g_67 : (oI S_65 o 0).toInt = (oI S_58 o 0).toInt := by rw [eS_65, setI_ne (by decide)]
        refine lv_aload_n hx hb dX10_heard_72 rfl (lv_at hl 2 rfl) ?_
        have t_68 : oty S_65 o 10 := (oX.ty XS_65 t_61)
        obtain ⟨q_69, hq_69⟩ := og (cq := cq) t_68.1 (oE_10 t_68.2)
        refine va_get (D := (dC, dI)) (ci := 10) (v := .int (oI S_65 o 7)) (C := RX10) (T := TX10) (N := 16) hx hb hts in_wsX10_heard_X10 hown hK hP q_69 hq_69 rfl 7 (by decide) (hts (.fieldLink RX10 139 "ShipOffice" "happeningCount" "I") (by decide +kernel)) (fun _ h9 => h9) rfl dX10_heard_73 ?_
        refine lv_topi (fun x_70 ex_70 => ?_)
        clear ex_70
        exact W.iret (v := x_70) hx hb hr (fun t ht hW => ⟨⟨x_70, S_65, rfl, ⟨hIS_65, X_66⟩, ⟨by rw [ht]; exact hP, va_K.moved hW.alike hK, hD⟩⟩, hS.F ht⟩) hS.2.2 dX10_heard_76
    · have dc_17 := c_ne (a := r_14.toInt) (b := 0) rfl (by decide) c_17
      refine lv_aload_n hx hb dX10_heard_30 rfl (lv_at hl 2 rfl) ?_
      refine lv_iload hx hb dX10_heard_31 (lv_at hl 0 rfl) ?_
      have hFc := o_free hD hS hA
      refine va_calli (va_runV (As := [.int r_14]) (rest := []) ⟨hx, hb, hml, hown, hts⟩ (c_X10_refuse l dC dI H.size cq Z gI o to r_14 (by omega)) (cwV 1 hts gX10_heard_X10_refuse rfl rfl rfl (by decide +kernel) ⟨(Nat.le_of_ble_eq_true rfl), (Nat.le_of_ble_eq_true rfl)⟩) (pr_V (r := (RX10, TX10, 16)) hP hK hD q_1 10 rfl hq_1) rfl rfl hl.1 rfl (lv_room (Nat.le_of_ble_eq_true rfl)) dX10_heard_33 ⟨(Nat.le_of_ble_eq_true rfl), (Nat.le_of_ble_eq_true rfl)⟩) hS (fun q _ h => hFc q h) hFc (fun r_72 u t H locs ht hvm w_71 hB hz1 hk1 hS => ?_)
      obtain ⟨S_73, rfl⟩ : ∃ z, z = u := ⟨_, rfl⟩
      obtain ⟨hP1, hK1, hD1⟩ := hB
      rw [ht] at hP1
      have hP : va_P (dC, dI) vwCl (oW cq S_73) H := hP1
      have hD : va_D A (oW cq S_73) := hD1.weaken (fun _ _ _ h => hFc _ h)
      clear hP1 hK1 hD1 hk1 hz1 hvm ht hFc
      obtain ⟨hIS_73, XS_73, hb_74, hx_75⟩ := w_71
      have X_76 : oX Z S_73 := XS_73
      refine W.widen (k := 1) (n := 6) (Nat.le_of_ble_eq_true rfl) (Nat.le_of_ble_eq_true rfl) ?_
      exact W.iret (v := r_72) hx hb hr (fun t ht hW => ⟨⟨r_72, S_73, rfl, ⟨hIS_73, X_76⟩, ⟨by rw [ht]; exact hP, va_K.moved hW.alike hK, hD⟩⟩, hS.F ht⟩) hS.2.2 dX10_heard_36
set_option maxHeartbeats 4000000 in
set_option maxRecDepth 100000 in
theorem c_X10_man (l : Launch) (dC : Nat → ClassId) (dI : Nat → Nat → Nat) (sz : Nat) (cq : Nat → ClassId) (Z : oS) (gI : oInv Z) (o : Nat) (to : oty Z o 10) (x1 : Int32) (x2 : Int32) (x3 : Int32) : Met l yX10_man wsX10_man ({ frames := 3, cells := 2, slots := 10, locals := 68 }) (va_Pc [.ref o, .int x1, .int x2, .int x3] (pcW (dC, dI) (oT cq) (oW cq Z) sz)) (va_Qi (fun (r : Int32) (u : oS) => oInv u ∧ oX Z u) (fun u t => va_P (dC, dI) vwCl (oW cq u) t.heap ∧ va_K (dC, dI) vwCl (oT cq) t ∧ va_D (va_A (oW cq Z) sz) (oW cq u)) (va_A (oW cq Z) sz)) 2 10 (va_A (oW cq Z) sz) := by
  refine Met.ofW (cc := cX10_man) (maxL := 4) (ret := (some .int)) (by decide) rfl ?_
  intro p e s m args below meth c s₁ B hml hv
  obtain ⟨rfl, hsz, hP, hK, hD0⟩ := hv
  have hx := B.exec
  have hb := B.bytes
  have hr := B.returns
  have hts := atoms_spec (ws := wsX10_man) B.pre
  have hown : s.vm.findClass RX10 = some m.cls := findClass_of_methodNamed B.named
  have hlocks := B.notSynchronized
  subst hsz
  have hD := hD0.self (sz := s.heap.size)
  generalize hAe : va_A (oW cq Z) s.heap.size = A at hD ⊢
  have hA : ∀ q : Nat, s.heap.size ≤ q → A q := fun q h => by rw [← hAe]; exact Or.inr h
  have hS : va_S A s.heap s.heap [] := va_S.rf
  have hP : va_P (dC, dI) vwCl (oW cq Z) s.heap := hP
  have hl := lv_entry ([.ref o, .int x1, .int x2, .int x3]) (n := 4) (Nat.le_of_ble_eq_true rfl)
  rw [lg_entry_eq]
  generalize (lg_sl ([.ref o, .int x1, .int x2, .int x3]) ++ List.replicate (4 - (lg_sl ([.ref o, .int x1, .int x2, .int x3])).length) Slot.unset).toArray = ls at hl ⊢
  have hl : lv_has ls 4 [(0, .ref o), (1, .int x1), (2, .int x2), (3, .int x3)] := hl
  refine lv_iload_n hx hb dX10_man_0 rfl (lv_at hl 1 rfl) ?_
  refine lv_if_lt (tgt := 15) hx hb dX10_man_1 (by decide) (fun c_1 => ?_) (fun c_1 => ?_)
  · have dc_1 := c_lt (a := x1.toInt) (b := 0) rfl (by decide) c_1
    refine lv_aload_n hx hb dX10_man_15 rfl (lv_at hl 0 rfl) ?_
    refine lv_bipush (v := (-4)) hx hb dX10_man_16 (by decide) ?_
    have hFc := o_free hD hS hA
    obtain ⟨q_2, hq_2⟩ := og (cq := cq) to.1 (oE_10 to.2)
    refine va_calli (va_runV (As := [.int (-4)]) (rest := []) ⟨hx, hb, hml, hown, hts⟩ (c_X10_refuse l dC dI s.heap.size cq Z gI o to (-4) (by decide)) (cwV 1 hts gX10_man_X10_refuse rfl rfl rfl (by decide +kernel) ⟨(Nat.le_of_ble_eq_true rfl), (Nat.le_of_ble_eq_true rfl)⟩) (pr_V (r := (RX10, TX10, 16)) hP hK hD q_2 10 rfl hq_2) rfl rfl hl.1 rfl (lv_room (Nat.le_of_ble_eq_true rfl)) dX10_man_18 ⟨(Nat.le_of_ble_eq_true rfl), (Nat.le_of_ble_eq_true rfl)⟩) hS (fun q _ h => hFc q h) hFc (fun r_4 u t H locs ht hvm w_3 hB hz1 hk1 hS => ?_)
    obtain ⟨S_5, rfl⟩ : ∃ z, z = u := ⟨_, rfl⟩
    obtain ⟨hP1, hK1, hD1⟩ := hB
    rw [ht] at hP1
    have hP : va_P (dC, dI) vwCl (oW cq S_5) H := hP1
    have hD : va_D A (oW cq S_5) := hD1.weaken (fun _ _ _ h => hFc _ h)
    clear hP1 hK1 hD1 hk1 hz1 hvm ht hFc
    obtain ⟨hIS_5, XS_5, hb_6, hx_7⟩ := w_3
    have X_8 : oX Z S_5 := XS_5
    have rf_9 : r_4.toInt = -4 := by rw [hx_7]; decide
    refine W.widen (k := 2) (n := 10) (Nat.le_of_ble_eq_true rfl) (Nat.le_of_ble_eq_true rfl) ?_
    exact W.iret (v := r_4) hx hb hr (fun t ht hW => ⟨⟨r_4, S_5, rfl, ⟨hIS_5, X_8⟩, ⟨by rw [ht]; exact hP, va_K.moved hW.alike hK, hD⟩⟩, hS.F ht⟩) hS.2.2 dX10_man_21
  · have dc_1 := c_nlt (a := x1.toInt) (b := 0) rfl (by decide) c_1
    refine lv_iload_n hx hb dX10_man_4 rfl (lv_at hl 2 rfl) ?_
    refine lv_if_lt (tgt := 15) hx hb dX10_man_5 (by decide) (fun c_10 => ?_) (fun c_10 => ?_)
    · have dc_10 := c_lt (a := x2.toInt) (b := 0) rfl (by decide) c_10
      refine lv_aload_n hx hb dX10_man_15 rfl (lv_at hl 0 rfl) ?_
      refine lv_bipush (v := (-4)) hx hb dX10_man_16 (by decide) ?_
      have hFc := o_free hD hS hA
      obtain ⟨q_11, hq_11⟩ := og (cq := cq) to.1 (oE_10 to.2)
      refine va_calli (va_runV (As := [.int (-4)]) (rest := []) ⟨hx, hb, hml, hown, hts⟩ (c_X10_refuse l dC dI s.heap.size cq Z gI o to (-4) (by decide)) (cwV 1 hts gX10_man_X10_refuse rfl rfl rfl (by decide +kernel) ⟨(Nat.le_of_ble_eq_true rfl), (Nat.le_of_ble_eq_true rfl)⟩) (pr_V (r := (RX10, TX10, 16)) hP hK hD q_11 10 rfl hq_11) rfl rfl hl.1 rfl (lv_room (Nat.le_of_ble_eq_true rfl)) dX10_man_18 ⟨(Nat.le_of_ble_eq_true rfl), (Nat.le_of_ble_eq_true rfl)⟩) hS (fun q _ h => hFc q h) hFc (fun r_13 u t H locs ht hvm w_12 hB hz1 hk1 hS => ?_)
      obtain ⟨S_14, rfl⟩ : ∃ z, z = u := ⟨_, rfl⟩
      obtain ⟨hP1, hK1, hD1⟩ := hB
      rw [ht] at hP1
      have hP : va_P (dC, dI) vwCl (oW cq S_14) H := hP1
      have hD : va_D A (oW cq S_14) := hD1.weaken (fun _ _ _ h => hFc _ h)
      clear hP1 hK1 hD1 hk1 hz1 hvm ht hFc
      obtain ⟨hIS_14, XS_14, hb_15, hx_16⟩ := w_12
      have X_17 : oX Z S_14 := XS_14
      have rf_18 : r_13.toInt = -4 := by rw [hx_16]; decide
      refine W.widen (k := 2) (n := 10) (Nat.le_of_ble_eq_true rfl) (Nat.le_of_ble_eq_true rfl) ?_
      exact W.iret (v := r_13) hx hb hr (fun t ht hW => ⟨⟨r_13, S_14, rfl, ⟨hIS_14, X_17⟩, ⟨by rw [ht]; exact hP, va_K.moved hW.alike hK, hD⟩⟩, hS.F ht⟩) hS.2.2 dX10_man_21
    · have dc_10 := c_nlt (a := x2.toInt) (b := 0) rfl (by decide) c_10
      refine lv_iload_n hx hb dX10_man_8 rfl (lv_at hl 3 rfl) ?_
      refine lv_sipush (v := (-30000)) hx hb dX10_man_9 (by decide) ?_
      refine lv_icmp_ge (tgt := 22) hx hb dX10_man_12 (by decide) (fun c_19 => ?_) (fun c_19 => ?_)
      · have dc_19 := c_le (a := (-30000)) (b := x3.toInt) (by decide) rfl c_19
        refine lv_iload_n hx hb dX10_man_22 rfl (lv_at hl 1 rfl) ?_
        refine lv_sipush (v := 9999) hx hb dX10_man_23 (by decide) ?_
        refine lv_icmp_gt (tgt := 52) hx hb dX10_man_26 (by decide) (fun c_20 => ?_) (fun c_20 => ?_)
        · have dc_20 := c_lt (a := 9999) (b := x1.toInt) (by decide) rfl c_20
          refine lv_aload_n hx hb dX10_man_52 rfl (lv_at hl 0 rfl) ?_
          refine lv_bipush (v := (-6)) hx hb dX10_man_53 (by decide) ?_
          have hFc := o_free hD hS hA
          obtain ⟨q_21, hq_21⟩ := og (cq := cq) to.1 (oE_10 to.2)
          refine va_calli (va_runV (As := [.int (-6)]) (rest := []) ⟨hx, hb, hml, hown, hts⟩ (c_X10_refuse l dC dI s.heap.size cq Z gI o to (-6) (by decide)) (cwV 1 hts gX10_man_X10_refuse rfl rfl rfl (by decide +kernel) ⟨(Nat.le_of_ble_eq_true rfl), (Nat.le_of_ble_eq_true rfl)⟩) (pr_V (r := (RX10, TX10, 16)) hP hK hD q_21 10 rfl hq_21) rfl rfl hl.1 rfl (lv_room (Nat.le_of_ble_eq_true rfl)) dX10_man_55 ⟨(Nat.le_of_ble_eq_true rfl), (Nat.le_of_ble_eq_true rfl)⟩) hS (fun q _ h => hFc q h) hFc (fun r_23 u t H locs ht hvm w_22 hB hz1 hk1 hS => ?_)
          obtain ⟨S_24, rfl⟩ : ∃ z, z = u := ⟨_, rfl⟩
          obtain ⟨hP1, hK1, hD1⟩ := hB
          rw [ht] at hP1
          have hP : va_P (dC, dI) vwCl (oW cq S_24) H := hP1
          have hD : va_D A (oW cq S_24) := hD1.weaken (fun _ _ _ h => hFc _ h)
          clear hP1 hK1 hD1 hk1 hz1 hvm ht hFc
          obtain ⟨hIS_24, XS_24, hb_25, hx_26⟩ := w_22
          have X_27 : oX Z S_24 := XS_24
          have rf_28 : r_23.toInt = -6 := by rw [hx_26]; decide
          refine W.widen (k := 2) (n := 10) (Nat.le_of_ble_eq_true rfl) (Nat.le_of_ble_eq_true rfl) ?_
          exact W.iret (v := r_23) hx hb hr (fun t ht hW => ⟨⟨r_23, S_24, rfl, ⟨hIS_24, X_27⟩, ⟨by rw [ht]; exact hP, va_K.moved hW.alike hK, hD⟩⟩, hS.F ht⟩) hS.2.2 dX10_man_58
        · have dc_20 := c_nlt (a := 9999) (b := x1.toInt) (by decide) rfl c_20
          refine lv_iload_n hx hb dX10_man_29 rfl (lv_at hl 2 rfl) ?_
          refine lv_ldc (v := 99999) hx hb hown (hts (.constant RX10 85 (99999)) (by decide +kernel)) dX10_man_30 ?_
          refine lv_icmp_gt (tgt := 52) hx hb dX10_man_32 (by decide) (fun c_29 => ?_) (fun c_29 => ?_)
          · have dc_29 := c_lt (a := 99999) (b := x2.toInt) (by decide) rfl c_29
            refine lv_aload_n hx hb dX10_man_52 rfl (lv_at hl 0 rfl) ?_
            refine lv_bipush (v := (-6)) hx hb dX10_man_53 (by decide) ?_
            have hFc := o_free hD hS hA
            obtain ⟨q_30, hq_30⟩ := og (cq := cq) to.1 (oE_10 to.2)
            refine va_calli (va_runV (As := [.int (-6)]) (rest := []) ⟨hx, hb, hml, hown, hts⟩ (c_X10_refuse l dC dI s.heap.size cq Z gI o to (-6) (by decide)) (cwV 1 hts gX10_man_X10_refuse rfl rfl rfl (by decide +kernel) ⟨(Nat.le_of_ble_eq_true rfl), (Nat.le_of_ble_eq_true rfl)⟩) (pr_V (r := (RX10, TX10, 16)) hP hK hD q_30 10 rfl hq_30) rfl rfl hl.1 rfl (lv_room (Nat.le_of_ble_eq_true rfl)) dX10_man_55 ⟨(Nat.le_of_ble_eq_true rfl), (Nat.le_of_ble_eq_true rfl)⟩) hS (fun q _ h => hFc q h) hFc (fun r_32 u t H locs ht hvm w_31 hB hz1 hk1 hS => ?_)
            obtain ⟨S_33, rfl⟩ : ∃ z, z = u := ⟨_, rfl⟩
            obtain ⟨hP1, hK1, hD1⟩ := hB
            rw [ht] at hP1
            have hP : va_P (dC, dI) vwCl (oW cq S_33) H := hP1
            have hD : va_D A (oW cq S_33) := hD1.weaken (fun _ _ _ h => hFc _ h)
            clear hP1 hK1 hD1 hk1 hz1 hvm ht hFc
            obtain ⟨hIS_33, XS_33, hb_34, hx_35⟩ := w_31
            have X_36 : oX Z S_33 := XS_33
            have rf_37 : r_32.toInt = -6 := by rw [hx_35]; decide
            refine W.widen (k := 2) (n := 10) (Nat.le_of_ble_eq_true rfl) (Nat.le_of_ble_eq_true rfl) ?_
            exact W.iret (v := r_32) hx hb hr (fun t ht hW => ⟨⟨r_32, S_33, rfl, ⟨hIS_33, X_36⟩, ⟨by rw [ht]; exact hP, va_K.moved hW.alike hK, hD⟩⟩, hS.F ht⟩) hS.2.2 dX10_man_58
          · have dc_29 := c_nlt (a := 99999) (b := x2.toInt) (by decide) rfl c_29
            refine lv_iload_n hx hb dX10_man_35 rfl (lv_at hl 3 rfl) ?_
            refine lv_aload_n hx hb dX10_man_36 rfl (lv_at hl 0 rfl) ?_
            obtain ⟨q_38, hq_38⟩ := og (cq := cq) to.1 (oE_10 to.2)
            refine va_get (D := (dC, dI)) (ci := 10) (v := .int (oI Z o 0)) (C := RX10) (T := TX10) (N := 16) hx hb hts in_wsX10_man_X10 hown hK hP q_38 hq_38 rfl 0 (by decide) (hts (.fieldLink RX10 73 "ShipOffice" "now" "I") (by decide +kernel)) (fun _ h9 => h9) rfl dX10_man_37 ?_
            refine lv_topi (fun x_39 ex_39 => ?_)
            have hx_39 : 0 ≤ x_39.toInt ∧ x_39.toInt ≤ 3000 := iv_of ex_39 (oInv.iv gI to.2 rfl rfl)
            have gx_39 : x_39.toInt = (oI Z o 0).toInt := iv_to ex_39
            clear ex_39
            refine lv_icmp_gt (tgt := 52) hx hb dX10_man_40 (by decide) (fun c_40 => ?_) (fun c_40 => ?_)
            · have dc_40 := c_lt (a := x_39.toInt) (b := x3.toInt) rfl rfl c_40
              refine lv_aload_n hx hb dX10_man_52 rfl (lv_at hl 0 rfl) ?_
              refine lv_bipush (v := (-6)) hx hb dX10_man_53 (by decide) ?_
              have hFc := o_free hD hS hA
              refine va_calli (va_runV (As := [.int (-6)]) (rest := []) ⟨hx, hb, hml, hown, hts⟩ (c_X10_refuse l dC dI s.heap.size cq Z gI o to (-6) (by decide)) (cwV 1 hts gX10_man_X10_refuse rfl rfl rfl (by decide +kernel) ⟨(Nat.le_of_ble_eq_true rfl), (Nat.le_of_ble_eq_true rfl)⟩) (pr_V (r := (RX10, TX10, 16)) hP hK hD q_38 10 rfl hq_38) rfl rfl hl.1 rfl (lv_room (Nat.le_of_ble_eq_true rfl)) dX10_man_55 ⟨(Nat.le_of_ble_eq_true rfl), (Nat.le_of_ble_eq_true rfl)⟩) hS (fun q _ h => hFc q h) hFc (fun r_42 u t H locs ht hvm w_41 hB hz1 hk1 hS => ?_)
              obtain ⟨S_43, rfl⟩ : ∃ z, z = u := ⟨_, rfl⟩
              obtain ⟨hP1, hK1, hD1⟩ := hB
              rw [ht] at hP1
              have hP : va_P (dC, dI) vwCl (oW cq S_43) H := hP1
              have hD : va_D A (oW cq S_43) := hD1.weaken (fun _ _ _ h => hFc _ h)
              clear hP1 hK1 hD1 hk1 hz1 hvm ht hFc
              obtain ⟨hIS_43, XS_43, hb_44, hx_45⟩ := w_41
              have X_46 : oX Z S_43 := XS_43
              have rf_47 : r_42.toInt = -6 := by rw [hx_45]; decide
              refine W.widen (k := 2) (n := 10) (Nat.le_of_ble_eq_true rfl) (Nat.le_of_ble_eq_true rfl) ?_
              exact W.iret (v := r_42) hx hb hr (fun t ht hW => ⟨⟨r_42, S_43, rfl, ⟨hIS_43, X_46⟩, ⟨by rw [ht]; exact hP, va_K.moved hW.alike hK, hD⟩⟩, hS.F ht⟩) hS.2.2 dX10_man_58
            · have dc_40 := c_nlt (a := x_39.toInt) (b := x3.toInt) rfl rfl c_40
              refine lv_aload_n hx hb dX10_man_43 rfl (lv_at hl 0 rfl) ?_
              refine va_get (D := (dC, dI)) (ci := 10) (v := .int (oI Z o 2)) (C := RX10) (T := TX10) (N := 16) hx hb hts in_wsX10_man_X10 hown hK hP q_38 hq_38 rfl 2 (by decide) (hts (.fieldLink RX10 86 "ShipOffice" "manCount" "I") (by decide +kernel)) (fun _ h9 => h9) rfl dX10_man_44 ?_
              refine lv_topi (fun x_48 ex_48 => ?_)
              have hx_48 : 0 ≤ x_48.toInt ∧ x_48.toInt ≤ 40 := iv_of ex_48 (oInv.iv gI to.2 rfl rfl)
              have gx_48 : x_48.toInt = (oI Z o 2).toInt := iv_to ex_48
              clear ex_48
              refine lv_bipush (v := 40) hx hb dX10_man_47 (by decide) ?_
              refine lv_icmp_lt (tgt := 59) hx hb dX10_man_49 (by decide) (fun c_49 => ?_) (fun c_49 => ?_)
              · have dc_49 := c_lt (a := x_48.toInt) (b := 40) rfl (by decide) c_49
                refine lv_aload_n hx hb dX10_man_59 rfl (lv_at hl 0 rfl) ?_
                obtain ⟨b_50, hb_50⟩ := oInv.nn (i := 1) gI to rfl
                refine va_get (D := (dC, dI)) (ci := 10) (v := .ref b_50) (C := RX10) (T := TX10) (N := 16) hx hb hts in_wsX10_man_X10 hown hK hP q_38 hq_38 rfl 1 (by decide) (hts (.fieldLink RX10 11 "ShipOffice" "men" "[LShipOffice$Man;") (by decide +kernel)) (fun _ h9 => h9) (o_rd hb_50) dX10_man_60 ?_
                have tb_50 : oty Z b_50 14 := oInv.rd gI to.2 hb_50 rfl rfl
                refine lv_aload_n hx hb dX10_man_63 rfl (lv_at hl 0 rfl) ?_
                refine va_get (D := (dC, dI)) (ci := 10) (v := .int (oI Z o 2)) (C := RX10) (T := TX10) (N := 16) hx hb hts in_wsX10_man_X10 hown hK hP q_38 hq_38 rfl 2 (by decide) (hts (.fieldLink RX10 86 "ShipOffice" "manCount" "I") (by decide +kernel)) (fun _ h9 => h9) rfl dX10_man_64 ?_
                refine lv_topi (fun x_51 ex_51 => ?_)
                have hx_51 : 0 ≤ x_51.toInt ∧ x_51.toInt ≤ 40 := iv_of ex_51 (oInv.iv gI to.2 rfl rfl)
                have gx_51 : x_51.toInt = (oI Z o 2).toInt := iv_to ex_51
                clear ex_51
                refine va_new (ci := 6) (fs := [.int 0, .int 0, .int 0, .int 0, .null, .int 0]) (C := RX6) (T := TX6) (N := 6) hx hb hts in_wsX10_man_X6 tyX6 tyX6_ok hown (hts (.classLink RX10 9 RX6) (by decide +kernel)) (hts (.instantiable RX6 6) (by decide +kernel)) (hts (.initialized RX6) (by decide +kernel)) hK hP hD hS hA rfl (fun j hj => by rcases (show j = 0 ∨ j = 1 ∨ j = 2 ∨ j = 3 ∨ j = 4 ∨ j = 5 by omega) with rfl | rfl | rfl | rfl | rfl | rfl <;> rfl) (Nat.le_of_ble_eq_true rfl) (Nat.le_of_ble_eq_true rfl) dX10_man_67 (fun q_52 H hP1 hD1 hS => ?_)
                have hnq_52 := add_q hD1
                obtain ⟨S_53, eS_53⟩ : ∃ zq, zq = addO Z q_52 36 := ⟨_, rfl⟩
                have hP : va_P (dC, dI) vwCl (oW cq S_53) H := by rw [eS_53]; exact cP (onew hD1 (by rw [oE_36 add_K, add_I, add_P]; rfl)) hP1
                have hD : va_D A (oW cq S_53) := by rw [eS_53]; exact cD (onew hD1 (by rw [oE_36 add_K, add_I, add_P]; rfl)) hD1
                clear hP1 hD1
                have hIS_53 : oInv S_53 := by rw [eS_53]; exact oInv.add gI hnq_52 (by decide)
                have XS_53 : oX Z S_53 := by rw [eS_53]; exact oX.add hnq_52
                have sr_54 : oP S_53 o 1 = some b_50 := by rw [eS_53, add_Pn hnq_52 to.1]; exact hb_50
                have g_55 : (oI S_53 o 0).toInt = (oI Z o 0).toInt := by rw [eS_53, add_In hnq_52 to.1]
                have g_56 : (oI S_53 o 2).toInt = (oI Z o 2).toInt := by rw [eS_53, add_In hnq_52 to.1]
                have X_57 : oX Z S_53 := XS_53
                have tq_52 : oty S_53 q_52 36 := by rw [eS_53]; exact add_ty
                refine W.widen (k := 1) (n := 6) (Nat.le_of_ble_eq_true rfl) (Nat.le_of_ble_eq_true rfl) ?_
                refine lv_dup hx hb dX10_man_70 rfl ?_
                refine lv_aload_n hx hb dX10_man_71 rfl (lv_at hl 0 rfl) ?_
                have t_58 : oty S_53 o 10 := (oX.ty XS_53 to)
                obtain ⟨q_59, hq_59⟩ := og (cq := cq) t_58.1 (oE_10 t_58.2)
                refine va_get (D := (dC, dI)) (ci := 10) (v := .int (oI S_53 o 2)) (C := RX10) (T := TX10) (N := 16) hx hb hts in_wsX10_man_X10 hown hK hP q_59 hq_59 rfl 2 (by decide) (hts (.fieldLink RX10 86 "ShipOffice" "manCount" "I") (by decide +kernel)) (fun _ h9 => h9) rfl dX10_man_72 ?_
                refine lv_topi (fun x_60 ex_60 => ?_)
                have hx_60 : 0 ≤ x_60.toInt ∧ x_60.toInt ≤ 40 := iv_of ex_60 (oInv.iv hIS_53 t_58.2 rfl rfl)
                have gx_60 : x_60.toInt = (oI S_53 o 2).toInt := iv_to ex_60
                clear ex_60
                refine lv_iload_n hx hb dX10_man_75 rfl (lv_at hl 1 rfl) ?_
                refine lv_iload_n hx hb dX10_man_76 rfl (lv_at hl 2 rfl) ?_
                refine lv_iload_n hx hb dX10_man_77 rfl (lv_at hl 3 rfl) ?_
                have hFc := o_free hD hS hA
                refine va_callv (va_runI (As := [.int x_60, .int x1, .int x2, .int x3]) (rest := [.ref q_52, .int x_51, .ref b_50]) ⟨hx, hb, hml, hown, hts⟩ (c_X6_init l dC dI H.size cq S_53 hIS_53 q_52 tq_52 x_60 x1 x2 x3) (cwI 4 hts gX10_man_X6_init rfl rfl rfl (hts (.initialized RX6) (by decide +kernel)) (hts (.methodLink RX10 89 yX6_init) (by decide +kernel)) (hts (.instanceMethod yX6_init) (by decide +kernel)) rfl (by decide +kernel) ⟨(Nat.le_of_ble_eq_true rfl), (Nat.le_of_ble_eq_true rfl)⟩) (pr_S hP hK hD) rfl rfl hl.1 rfl (lv_room (Nat.le_of_ble_eq_true rfl)) dX10_man_78 ⟨(Nat.le_of_ble_eq_true rfl), (Nat.le_of_ble_eq_true rfl)⟩) hS (fun q _ h => hFc q h) hFc (fun u t H locs ht hvm w_61 hB hz1 hk1 hS => ?_)
                obtain ⟨S_63, rfl⟩ : ∃ z, z = u := ⟨_, rfl⟩
                obtain ⟨hP1, hK1, hD1⟩ := hB
                rw [ht] at hP1
                have hP : va_P (dC, dI) vwCl (oW cq S_63) H := hP1
                have hD : va_D A (oW cq S_63) := hD1.weaken (fun _ _ _ h => hFc _ h)
                clear hP1 hK1 hD1 hk1 hz1 hvm ht hFc
                refine W.widen (k := 2) (n := 10) (Nat.le_of_ble_eq_true rfl) (Nat.le_of_ble_eq_true rfl) ?_
                obtain ⟨hIS_63, XS_63, hx_64⟩ := w_61
                obtain ⟨hxS_63, FS_63⟩ := hx_64
                have X_65 : oX Z S_63 := oX.c X_57 XS_63 (oX.nin oX.rf hnq_52)
                have sr_66 : oP S_63 o 1 = some b_50 := by rw [(FS_63 o t_58.1 (ty_ne t_58 tq_52 (by decide))).2]; exact sr_54
                have g_67 : (oI S_63 o 0).toInt = (oI S_53 o 0).toInt := by rw [(FS_63 o t_58.1 (ty_ne t_58 tq_52 (by decide))).1 (by rw [t_58.2]; decide)]
                have g_68 : (oI S_63 o 2).toInt = (oI S_53 o 2).toInt := by rw [(FS_63 o t_58.1 (ty_ne t_58 tq_52 (by decide))).1 (by rw [t_58.2]; decide)]
                have t_69 : oty S_63 b_50 14 := (oXc.ty XS_63 (ty_ne (oX.ty XS_53 tb_50) tq_52 (by decide)) (oX.ty XS_53 tb_50))
                obtain ⟨q_70, hq_70⟩ := og (cq := cq) t_69.1 (oE_14 t_69.2)
                obtain ⟨q_71, hq_71⟩ := og (cq := cq) hxS_63.1 (oE_6 hxS_63.2)
                refine va_astq (r := (RX6, TX6, 6)) hx hb hK hP hD hS q_70 3 q_71 6 hq_70 rfl hq_71 rfl (vp_in_iff.mpr (by omega)) dX10_man_81 (fun H locs hP1 hD1 hS => ?_)
                obtain ⟨S_72, eS_72⟩ : ∃ zq, zq = setP S_63 b_50 (x_51 : Int32).toNatClampNeg (some q_52) := ⟨_, rfl⟩
                have hP : va_P (dC, dI) vwCl (oW cq S_72) H := by rw [eS_72]; exact cP (oset t_69.1 hq_70 hD rfl (he_14 t_69.2) neP) hP1
                have hD : va_D A (oW cq S_72) := by rw [eS_72]; exact cD (oset t_69.1 hq_70 hD rfl (he_14 t_69.2) neP) hD1
                clear hP1 hD1
                have hIS_72 : oInv S_72 := by rw [eS_72]; exact oInv.P (k := 14) hIS_63 t_69.2 (by decide) rfl (fun h => absurd h.1 (by decide)) hxS_63 (show 6 ≤ 6 ∧ 6 ≤ 6 from ⟨Nat.le_refl _, Nat.le_refl _⟩)
                have XS_72 : oX S_63 S_72 := by rw [eS_72]; exact oX.P
                have X_73 : oX Z S_72 := oX.tr X_65 XS_72
                have g_74 : (oI S_72 o 0).toInt = (oI S_63 o 0).toInt := by rw [eS_72]; rfl
                have g_75 : (oI S_72 o 2).toInt = (oI S_63 o 2).toInt := by rw [eS_72]; rfl
                have helS_72 : oP S_72 b_50 (x_51 : Int32).toNatClampNeg = some q_52 := by rw [eS_72, setP_same]
                have hsrS_72 : oP S_72 o 1 = some b_50 := by rw [eS_72, setP_oth (ty_ne (oXc.ty XS_63 (ty_ne t_58 tq_52 (by decide)) t_58) t_69 (by decide))]; exact sr_66
                refine lv_aload_n hx hb dX10_man_82 rfl (lv_at hl 0 rfl) ?_
                refine lv_dup hx hb dX10_man_83 rfl ?_
                have t_76 : oty S_72 o 10 := (oX.ty XS_72 (oXc.ty XS_63 (ty_ne t_58 tq_52 (by decide)) t_58))
                obtain ⟨q_77, hq_77⟩ := og (cq := cq) t_76.1 (oE_10 t_76.2)
                refine va_get (D := (dC, dI)) (ci := 10) (v := .int (oI S_72 o 2)) (C := RX10) (T := TX10) (N := 16) hx hb hts in_wsX10_man_X10 hown hK hP q_77 hq_77 rfl 2 (by decide) (hts (.fieldLink RX10 86 "ShipOffice" "manCount" "I") (by decide +kernel)) (fun _ h9 => h9) rfl dX10_man_84 ?_
                refine lv_topi (fun x_78 ex_78 => ?_)
                have hx_78 : 0 ≤ x_78.toInt ∧ x_78.toInt ≤ 40 := iv_of ex_78 (oInv.iv hIS_72 t_76.2 rfl rfl)
                have gx_78 : x_78.toInt = (oI S_72 o 2).toInt := iv_to ex_78
                clear ex_78
                refine lv_iconst (v := 1) hx hb dX10_man_87 (by decide) ?_
                refine lv_iadd hx hb dX10_man_88 ?_
                refine lv_topi (fun x_79 ex_79 => ?_)
                have hx_79 : x_79.toInt = x_78.toInt + 1 := (iv_to ex_79).trans (ad_i rfl (by decide) (by omega) (by omega))
                clear ex_79
                refine va_put (D := (dC, dI)) (ci := 10) (v := .int x_79) (ty := .int) (C := RX10) (T := TX10) (N := 16) hx hb hts in_wsX10_man_X10 tyX10 tyX10_ok nmX10 hown hK hP hD hS q_77 hq_77 rfl 2 (by decide) (hts (.fieldLink RX10 86 "ShipOffice" "manCount" "I") (by decide +kernel)) (fun _ h9 => h9) rfl (by decide +kernel) rfl rfl (Nat.le_of_ble_eq_true rfl) dX10_man_89 (fun H locs hP1 hD1 hS => ?_)
                obtain ⟨S_80, eS_80⟩ : ∃ zq, zq = setI S_72 o 2 x_79 := ⟨_, rfl⟩
                have hP : va_P (dC, dI) vwCl (oW cq S_80) H := by rw [eS_80]; exact cP (oset t_76.1 hq_77 hD rfl (he_10_2 t_76.2) neI) hP1
                have hD : va_D A (oW cq S_80) := by rw [eS_80]; exact cD (oset t_76.1 hq_77 hD rfl (he_10_2 t_76.2) neI) hD1
                clear hP1 hD1
                have hIS_80 : oInv S_80 := by rw [eS_80]; exact oInv.I (k := 10) (lo := 0) (hi := 40) hIS_72 t_76.2 (by decide) rfl rfl (by omega) (inv_cnt hIS_72 t_76 rfl hsrS_72 (by omega) (by omega) ⟨_, by rw [← cnt_at (x := x_51) (S := S_72) (a := o) (i := 2) (by omega)]; exact helS_72⟩)
                have XS_80 : oX S_72 S_80 := by rw [eS_80]; exact oX.I (k := 10) t_76.2 (by decide)
                have X_81 : oX Z S_80 := oX.tr X_73 XS_80
                have g_82 : (oI S_80 o 0).toInt = (oI S_72 o 0).toInt := by rw [eS_80, setI_ne (by decide)]
                have g_83 : (oI S_80 o 2).toInt = x_79.toInt := by rw [eS_80, setI_same]
                refine lv_aload_n hx hb dX10_man_92 rfl (lv_at hl 0 rfl) ?_
                refine lv_aload_n hx hb dX10_man_93 rfl (lv_at hl 0 rfl) ?_
                have t_84 : oty S_80 o 10 := (oX.ty XS_80 t_76)
                obtain ⟨q_85, hq_85⟩ := og (cq := cq) t_84.1 (oE_10 t_84.2)
                obtain ⟨b_86, hb_86⟩ := oInv.nn (i := 1) hIS_80 t_84 rfl
                refine va_get (D := (dC, dI)) (ci := 10) (v := .ref b_86) (C := RX10) (T := TX10) (N := 16) hx hb hts in_wsX10_man_X10 hown hK hP q_85 hq_85 rfl 1 (by decide) (hts (.fieldLink RX10 11 "ShipOffice" "men" "[LShipOffice$Man;") (by decide +kernel)) (fun _ h9 => h9) (o_rd hb_86) dX10_man_94 ?_
                have tb_86 : oty S_80 b_86 14 := oInv.rd hIS_80 t_84.2 hb_86 rfl rfl
                refine lv_aload_n hx hb dX10_man_97 rfl (lv_at hl 0 rfl) ?_
                refine va_get (D := (dC, dI)) (ci := 10) (v := .int (oI S_80 o 2)) (C := RX10) (T := TX10) (N := 16) hx hb hts in_wsX10_man_X10 hown hK hP q_85 hq_85 rfl 2 (by decide) (hts (.fieldLink RX10 86 "ShipOffice" "manCount" "I") (by decide +kernel)) (fun _ h9 => h9) rfl dX10_man_98 ?_
                refine lv_topi (fun x_87 ex_87 => ?_)
                have hx_87 : 0 ≤ x_87.toInt ∧ x_87.toInt ≤ 40 := iv_of ex_87 (oInv.iv hIS_80 t_84.2 rfl rfl)
                have gx_87 : x_87.toInt = (oI S_80 o 2).toInt := iv_to ex_87
                clear ex_87
                refine lv_iconst (v := 1) hx hb dX10_man_101 (by decide) ?_
                refine lv_isub hx hb dX10_man_102 ?_
                refine lv_topi (fun x_88 ex_88 => ?_)
                have hx_88 : x_88.toInt = x_87.toInt - 1 := (iv_to ex_88).trans (sb_i rfl (by decide) (by omega) (by omega))
                clear ex_88
                obtain ⟨q_89, hq_89⟩ := og (cq := cq) tb_86.1 (oE_14 tb_86.2)
                refine va_aldq hx hb hK hP q_89 3 hq_89 rfl (vp_in_iff.mpr (by omega)) dX10_man_103 ?_
                obtain ⟨b_90, hb_90⟩ := oInv.el (i := 2) (x := x_88) hIS_80 t_84 rfl hb_86 (by omega) (by omega)
                refine W.eq (g2 := F0 m 104 ls [.ref b_90, .ref o]) (congrArg (fun z => F0 m 104 ls [va_rf z, .ref o]) hb_90) ?_
                have tb_90 : oty S_80 b_90 6 := oInv.rd hIS_80 tb_86.2 hb_90 rfl rfl
                have hFc := o_free hD hS hA
                refine va_callv (va_runV (As := [.ref b_90]) (rest := []) ⟨hx, hb, hml, hown, hts⟩ (c_X10_joinGroups l dC dI H.size cq S_80 hIS_80 o t_84 b_90 tb_90) (cwV 1 hts gX10_man_X10_joinGroups rfl rfl rfl (by decide +kernel) ⟨(Nat.le_of_ble_eq_true rfl), (Nat.le_of_ble_eq_true rfl)⟩) (pr_V (r := (RX10, TX10, 16)) hP hK hD q_85 10 rfl hq_85) rfl rfl hl.1 rfl (lv_room (Nat.le_of_ble_eq_true rfl)) dX10_man_104 ⟨(Nat.le_of_ble_eq_true rfl), (Nat.le_of_ble_eq_true rfl)⟩) hS (fun q _ h => hFc q h) hFc (fun u t H locs ht hvm w_91 hB hz1 hk1 hS => ?_)
                obtain ⟨S_93, rfl⟩ : ∃ z, z = u := ⟨_, rfl⟩
                obtain ⟨hP1, hK1, hD1⟩ := hB
                rw [ht] at hP1
                have hP : va_P (dC, dI) vwCl (oW cq S_93) H := hP1
                have hD : va_D A (oW cq S_93) := hD1.weaken (fun _ _ _ h => hFc _ h)
                clear hP1 hK1 hD1 hk1 hz1 hvm ht hFc
                obtain ⟨hIS_93, XS_93⟩ := w_91
                have X_94 : oX Z S_93 := oX.tr X_81 XS_93
                refine lv_aload_n hx hb dX10_man_107 rfl (lv_at hl 0 rfl) ?_
                have t_95 : oty S_93 o 10 := (oX.ty XS_93 t_84)
                obtain ⟨q_96, hq_96⟩ := og (cq := cq) t_95.1 (oE_10 t_95.2)
                refine va_get (D := (dC, dI)) (ci := 10) (v := .int (oI S_93 o 2)) (C := RX10) (T := TX10) (N := 16) hx hb hts in_wsX10_man_X10 hown hK hP q_96 hq_96 rfl 2 (by decide) (hts (.fieldLink RX10 86 "ShipOffice" "manCount" "I") (by decide +kernel)) (fun _ h9 => h9) rfl dX10_man_108 ?_
                refine lv_topi (fun x_97 ex_97 => ?_)
                have hx_97 : 0 ≤ x_97.toInt ∧ x_97.toInt ≤ 40 := iv_of ex_97 (oInv.iv hIS_93 t_95.2 rfl rfl)
                have gx_97 : x_97.toInt = (oI S_93 o 2).toInt := iv_to ex_97
                clear ex_97
                refine lv_iconst (v := 1) hx hb dX10_man_111 (by decide) ?_
                refine lv_isub hx hb dX10_man_112 ?_
                refine lv_topi (fun x_98 ex_98 => ?_)
                have hx_98 : x_98.toInt = x_97.toInt - 1 := (iv_to ex_98).trans (sb_i rfl (by decide) (by omega) (by omega))
                clear ex_98
                exact W.iret (v := x_98) hx hb hr (fun t ht hW => ⟨⟨x_98, S_93, rfl, ⟨hIS_93, X_94⟩, ⟨by rw [ht]; exact hP, va_K.moved hW.alike hK, hD⟩⟩, hS.F ht⟩) hS.2.2 dX10_man_113
              · have dc_49 := c_nlt (a := x_48.toInt) (b := 40) rfl (by decide) c_49
                refine lv_aload_n hx hb dX10_man_52 rfl (lv_at hl 0 rfl) ?_
                refine lv_bipush (v := (-6)) hx hb dX10_man_53 (by decide) ?_
                have hFc := o_free hD hS hA
                refine va_calli (va_runV (As := [.int (-6)]) (rest := []) ⟨hx, hb, hml, hown, hts⟩ (c_X10_refuse l dC dI s.heap.size cq Z gI o to (-6) (by decide)) (cwV 1 hts gX10_man_X10_refuse rfl rfl rfl (by decide +kernel) ⟨(Nat.le_of_ble_eq_true rfl), (Nat.le_of_ble_eq_true rfl)⟩) (pr_V (r := (RX10, TX10, 16)) hP hK hD q_38 10 rfl hq_38) rfl rfl hl.1 rfl (lv_room (Nat.le_of_ble_eq_true rfl)) dX10_man_55 ⟨(Nat.le_of_ble_eq_true rfl), (Nat.le_of_ble_eq_true rfl)⟩) hS (fun q _ h => hFc q h) hFc (fun r_100 u t H locs ht hvm w_99 hB hz1 hk1 hS => ?_)
                obtain ⟨S_101, rfl⟩ : ∃ z, z = u := ⟨_, rfl⟩
                obtain ⟨hP1, hK1, hD1⟩ := hB
                rw [ht] at hP1
                have hP : va_P (dC, dI) vwCl (oW cq S_101) H := hP1
                have hD : va_D A (oW cq S_101) := hD1.weaken (fun _ _ _ h => hFc _ h)
                clear hP1 hK1 hD1 hk1 hz1 hvm ht hFc
                obtain ⟨hIS_101, XS_101, hb_102, hx_103⟩ := w_99
                have X_104 : oX Z S_101 := XS_101
                have rf_105 : r_100.toInt = -6 := by rw [hx_103]; decide
                refine W.widen (k := 2) (n := 10) (Nat.le_of_ble_eq_true rfl) (Nat.le_of_ble_eq_true rfl) ?_
                exact W.iret (v := r_100) hx hb hr (fun t ht hW => ⟨⟨r_100, S_101, rfl, ⟨hIS_101, X_104⟩, ⟨by rw [ht]; exact hP, va_K.moved hW.alike hK, hD⟩⟩, hS.F ht⟩) hS.2.2 dX10_man_58
      · have dc_19 := c_nle (a := (-30000)) (b := x3.toInt) (by decide) rfl c_19
        refine lv_aload_n hx hb dX10_man_15 rfl (lv_at hl 0 rfl) ?_
        refine lv_bipush (v := (-4)) hx hb dX10_man_16 (by decide) ?_
        have hFc := o_free hD hS hA
        obtain ⟨q_106, hq_106⟩ := og (cq := cq) to.1 (oE_10 to.2)
        refine va_calli (va_runV (As := [.int (-4)]) (rest := []) ⟨hx, hb, hml, hown, hts⟩ (c_X10_refuse l dC dI s.heap.size cq Z gI o to (-4) (by decide)) (cwV 1 hts gX10_man_X10_refuse rfl rfl rfl (by decide +kernel) ⟨(Nat.le_of_ble_eq_true rfl), (Nat.le_of_ble_eq_true rfl)⟩) (pr_V (r := (RX10, TX10, 16)) hP hK hD q_106 10 rfl hq_106) rfl rfl hl.1 rfl (lv_room (Nat.le_of_ble_eq_true rfl)) dX10_man_18 ⟨(Nat.le_of_ble_eq_true rfl), (Nat.le_of_ble_eq_true rfl)⟩) hS (fun q _ h => hFc q h) hFc (fun r_108 u t H locs ht hvm w_107 hB hz1 hk1 hS => ?_)
        obtain ⟨S_109, rfl⟩ : ∃ z, z = u := ⟨_, rfl⟩
        obtain ⟨hP1, hK1, hD1⟩ := hB
        rw [ht] at hP1
        have hP : va_P (dC, dI) vwCl (oW cq S_109) H := hP1
        have hD : va_D A (oW cq S_109) := hD1.weaken (fun _ _ _ h => hFc _ h)
        clear hP1 hK1 hD1 hk1 hz1 hvm ht hFc
        obtain ⟨hIS_109, XS_109, hb_110, hx_111⟩ := w_107
        have X_112 : oX Z S_109 := XS_109
        have rf_113 : r_108.toInt = -4 := by rw [hx_111]; decide
        refine W.widen (k := 2) (n := 10) (Nat.le_of_ble_eq_true rfl) (Nat.le_of_ble_eq_true rfl) ?_
        exact W.iret (v := r_108) hx hb hr (fun t ht hW => ⟨⟨r_108, S_109, rfl, ⟨hIS_109, X_112⟩, ⟨by rw [ht]; exact hP, va_K.moved hW.alike hK, hD⟩⟩, hS.F ht⟩) hS.2.2 dX10_man_21
set_option maxHeartbeats 4000000 in
set_option maxRecDepth 100000 in
theorem c_X10_voyage (l : Launch) (dC : Nat → ClassId) (dI : Nat → Nat → Nat) (sz : Nat) (cq : Nat → ClassId) (Z : oS) (gI : oInv Z) (o : Nat) (to : oty Z o 10) (x1 : Int32) (x2 : Int32) : Met l yX10_voyage wsX10_voyage ({ frames := 2, cells := 1, slots := 10, locals := 38 }) (va_Pc [.ref o, .int x1, .int x2] (pcW (dC, dI) (oT cq) (oW cq Z) sz)) (va_Qi (fun (r : Int32) (u : oS) => oInv u ∧ oX Z u) (fun u t => va_P (dC, dI) vwCl (oW cq u) t.heap ∧ va_K (dC, dI) vwCl (oT cq) t ∧ va_D (va_A (oW cq Z) sz) (oW cq u)) (va_A (oW cq Z) sz)) 1 10 (va_A (oW cq Z) sz) := by
  refine Met.ofW (cc := cX10_voyage) (maxL := 3) (ret := (some .int)) (by decide) rfl ?_
  intro p e s m args below meth c s₁ B hml hv
  obtain ⟨rfl, hsz, hP, hK, hD0⟩ := hv
  have hx := B.exec
  have hb := B.bytes
  have hr := B.returns
  have hts := atoms_spec (ws := wsX10_voyage) B.pre
  have hown : s.vm.findClass RX10 = some m.cls := findClass_of_methodNamed B.named
  have hlocks := B.notSynchronized
  subst hsz
  have hD := hD0.self (sz := s.heap.size)
  generalize hAe : va_A (oW cq Z) s.heap.size = A at hD ⊢
  have hA : ∀ q : Nat, s.heap.size ≤ q → A q := fun q h => by rw [← hAe]; exact Or.inr h
  have hS : va_S A s.heap s.heap [] := va_S.rf
  have hP : va_P (dC, dI) vwCl (oW cq Z) s.heap := hP
  have hl := lv_entry ([.ref o, .int x1, .int x2]) (n := 3) (Nat.le_of_ble_eq_true rfl)
  rw [lg_entry_eq]
  generalize (lg_sl ([.ref o, .int x1, .int x2]) ++ List.replicate (3 - (lg_sl ([.ref o, .int x1, .int x2])).length) Slot.unset).toArray = ls at hl ⊢
  have hl : lv_has ls 3 [(0, .ref o), (1, .int x1), (2, .int x2)] := hl
  refine lv_iload_n hx hb dX10_voyage_0 rfl (lv_at hl 1 rfl) ?_
  refine lv_if_lt (tgt := 17) hx hb dX10_voyage_1 (by decide) (fun c_1 => ?_) (fun c_1 => ?_)
  · have dc_1 := c_lt (a := x1.toInt) (b := 0) rfl (by decide) c_1
    refine lv_aload_n hx hb dX10_voyage_17 rfl (lv_at hl 0 rfl) ?_
    refine lv_iconst (v := (-1)) hx hb dX10_voyage_18 (by decide) ?_
    have hFc := o_free hD hS hA
    obtain ⟨q_2, hq_2⟩ := og (cq := cq) to.1 (oE_10 to.2)
    refine va_calli (va_runV (As := [.int (-1)]) (rest := []) ⟨hx, hb, hml, hown, hts⟩ (c_X10_refuse l dC dI s.heap.size cq Z gI o to (-1) (by decide)) (cwV 1 hts gX10_voyage_X10_refuse rfl rfl rfl (by decide +kernel) ⟨(Nat.le_of_ble_eq_true rfl), (Nat.le_of_ble_eq_true rfl)⟩) (pr_V (r := (RX10, TX10, 16)) hP hK hD q_2 10 rfl hq_2) rfl rfl hl.1 rfl (lv_room (Nat.le_of_ble_eq_true rfl)) dX10_voyage_19 ⟨(Nat.le_of_ble_eq_true rfl), (Nat.le_of_ble_eq_true rfl)⟩) hS (fun q _ h => hFc q h) hFc (fun r_4 u t H locs ht hvm w_3 hB hz1 hk1 hS => ?_)
    obtain ⟨S_5, rfl⟩ : ∃ z, z = u := ⟨_, rfl⟩
    obtain ⟨hP1, hK1, hD1⟩ := hB
    rw [ht] at hP1
    have hP : va_P (dC, dI) vwCl (oW cq S_5) H := hP1
    have hD : va_D A (oW cq S_5) := hD1.weaken (fun _ _ _ h => hFc _ h)
    clear hP1 hK1 hD1 hk1 hz1 hvm ht hFc
    obtain ⟨hIS_5, XS_5, hb_6, hx_7⟩ := w_3
    have X_8 : oX Z S_5 := XS_5
    have rf_9 : r_4.toInt = -1 := by rw [hx_7]; decide
    refine W.widen (k := 1) (n := 10) (Nat.le_of_ble_eq_true rfl) (Nat.le_of_ble_eq_true rfl) ?_
    exact W.iret (v := r_4) hx hb hr (fun t ht hW => ⟨⟨r_4, S_5, rfl, ⟨hIS_5, X_8⟩, ⟨by rw [ht]; exact hP, va_K.moved hW.alike hK, hD⟩⟩, hS.F ht⟩) hS.2.2 dX10_voyage_22
  · have dc_1 := c_nlt (a := x1.toInt) (b := 0) rfl (by decide) c_1
    refine lv_iload_n hx hb dX10_voyage_4 rfl (lv_at hl 1 rfl) ?_
    refine lv_bipush (v := 10) hx hb dX10_voyage_5 (by decide) ?_
    refine lv_icmp_ge (tgt := 17) hx hb dX10_voyage_7 (by decide) (fun c_10 => ?_) (fun c_10 => ?_)
    · have dc_10 := c_le (a := 10) (b := x1.toInt) (by decide) rfl c_10
      refine lv_aload_n hx hb dX10_voyage_17 rfl (lv_at hl 0 rfl) ?_
      refine lv_iconst (v := (-1)) hx hb dX10_voyage_18 (by decide) ?_
      have hFc := o_free hD hS hA
      obtain ⟨q_11, hq_11⟩ := og (cq := cq) to.1 (oE_10 to.2)
      refine va_calli (va_runV (As := [.int (-1)]) (rest := []) ⟨hx, hb, hml, hown, hts⟩ (c_X10_refuse l dC dI s.heap.size cq Z gI o to (-1) (by decide)) (cwV 1 hts gX10_voyage_X10_refuse rfl rfl rfl (by decide +kernel) ⟨(Nat.le_of_ble_eq_true rfl), (Nat.le_of_ble_eq_true rfl)⟩) (pr_V (r := (RX10, TX10, 16)) hP hK hD q_11 10 rfl hq_11) rfl rfl hl.1 rfl (lv_room (Nat.le_of_ble_eq_true rfl)) dX10_voyage_19 ⟨(Nat.le_of_ble_eq_true rfl), (Nat.le_of_ble_eq_true rfl)⟩) hS (fun q _ h => hFc q h) hFc (fun r_13 u t H locs ht hvm w_12 hB hz1 hk1 hS => ?_)
      obtain ⟨S_14, rfl⟩ : ∃ z, z = u := ⟨_, rfl⟩
      obtain ⟨hP1, hK1, hD1⟩ := hB
      rw [ht] at hP1
      have hP : va_P (dC, dI) vwCl (oW cq S_14) H := hP1
      have hD : va_D A (oW cq S_14) := hD1.weaken (fun _ _ _ h => hFc _ h)
      clear hP1 hK1 hD1 hk1 hz1 hvm ht hFc
      obtain ⟨hIS_14, XS_14, hb_15, hx_16⟩ := w_12
      have X_17 : oX Z S_14 := XS_14
      have rf_18 : r_13.toInt = -1 := by rw [hx_16]; decide
      refine W.widen (k := 1) (n := 10) (Nat.le_of_ble_eq_true rfl) (Nat.le_of_ble_eq_true rfl) ?_
      exact W.iret (v := r_13) hx hb hr (fun t ht hW => ⟨⟨r_13, S_14, rfl, ⟨hIS_14, X_17⟩, ⟨by rw [ht]; exact hP, va_K.moved hW.alike hK, hD⟩⟩, hS.F ht⟩) hS.2.2 dX10_voyage_22
    · have dc_10 := c_nle (a := 10) (b := x1.toInt) (by decide) rfl c_10
      refine lv_iload_n hx hb dX10_voyage_10 rfl (lv_at hl 2 rfl) ?_
      have hFc : ∀ q, va_A [] s.heap.size q → A q := pu_free hS hA
      have hPc := hP.sub (ws' := []) [] rfl
      have hDc := hD.sub (ws' := []) [] (by decide) rfl
      have hKc := hK.sub (tys' := []) [] rfl
      refine va_calli (va_runS (As := [.int x2]) (rest := []) ⟨hx, hb, hml, hown, hts⟩ (c_X10_isPort l dC dI s.heap.size  x2) (va_cwS 1 hts gX10_voyage_X10_isPort rfl rfl rfl (by decide +kernel) ⟨(Nat.le_of_ble_eq_true rfl), (Nat.le_of_ble_eq_true rfl)⟩) (pr_S hPc hKc hDc) rfl rfl hl.1 rfl (lv_room (Nat.le_of_ble_eq_true rfl)) dX10_voyage_11 ⟨(Nat.le_of_ble_eq_true rfl), (Nat.le_of_ble_eq_true rfl)⟩) hS (fun q _ h => hFc q h) hFc (fun r_20 u t H locs ht hvm w_19 hB hz1 hk1 hS => ?_)
      have hP := pu_keep hP hk1
      clear hk1 hz1 hvm hB ht hFc hPc hDc hKc
      obtain ⟨hb_21, hx_22⟩ := w_19
      refine lv_if_ne (tgt := 23) hx hb dX10_voyage_14 (by decide) (fun c_23 => ?_) (fun c_23 => ?_)
      · have dc_23 := c_ne (a := r_20.toInt) (b := 0) rfl (by decide) c_23
        have hi_24 := Or.resolve_left hx_22 c_23
        refine lv_aload_n hx hb dX10_voyage_23 rfl (lv_at hl 0 rfl) ?_
        refine lv_iload_n hx hb dX10_voyage_24 rfl (lv_at hl 1 rfl) ?_
        have hFc : ∀ q, va_A [] H.size q → A q := pu_free hS hA
        obtain ⟨q_25, hq_25⟩ := og (cq := cq) to.1 (oE_10 to.2)
        refine va_calli (va_runV (As := [.int x1]) (rest := []) ⟨hx, hb, hml, hown, hts⟩ (c_X10_hasVoyage l dC dI H.size cq Z gI o to x1) (cwV 1 hts gX10_voyage_X10_hasVoyage rfl rfl rfl (by decide +kernel) ⟨(Nat.le_of_ble_eq_true rfl), (Nat.le_of_ble_eq_true rfl)⟩) (pr_V (r := (RX10, TX10, 16)) hP hK hD q_25 10 rfl hq_25) rfl rfl hl.1 rfl (lv_room (Nat.le_of_ble_eq_true rfl)) dX10_voyage_25 ⟨(Nat.le_of_ble_eq_true rfl), (Nat.le_of_ble_eq_true rfl)⟩) hS (fun q _ h => hFc q h) hFc (fun r_27 u t H locs ht hvm w_26 hB hz1 hk1 hS => ?_)
        have hP := pu_keep hP hk1
        clear hk1 hz1 hvm hB ht hFc
        have hb_28 := w_26
        refine lv_if_eq (tgt := 38) hx hb dX10_voyage_28 (by decide) (fun c_29 => ?_) (fun c_29 => ?_)
        · have dc_29 := c_eq (a := r_27.toInt) (b := 0) rfl (by decide) c_29
          refine lv_aload_n hx hb dX10_voyage_38 rfl (lv_at hl 0 rfl) ?_
          refine va_get (D := (dC, dI)) (ci := 10) (v := .int (oI Z o 4)) (C := RX10) (T := TX10) (N := 16) hx hb hts in_wsX10_voyage_X10 hown hK hP q_25 hq_25 rfl 4 (by decide) (hts (.fieldLink RX10 99 "ShipOffice" "voyageCount" "I") (by decide +kernel)) (fun _ h9 => h9) rfl dX10_voyage_39 ?_
          refine lv_topi (fun x_30 ex_30 => ?_)
          have hx_30 : 0 ≤ x_30.toInt ∧ x_30.toInt ≤ 20 := iv_of ex_30 (oInv.iv gI to.2 rfl rfl)
          have gx_30 : x_30.toInt = (oI Z o 4).toInt := iv_to ex_30
          clear ex_30
          refine lv_bipush (v := 20) hx hb dX10_voyage_42 (by decide) ?_
          refine lv_icmp_lt (tgt := 54) hx hb dX10_voyage_44 (by decide) (fun c_31 => ?_) (fun c_31 => ?_)
          · have dc_31 := c_lt (a := x_30.toInt) (b := 20) rfl (by decide) c_31
            refine lv_aload_n hx hb dX10_voyage_54 rfl (lv_at hl 0 rfl) ?_
            obtain ⟨b_32, hb_32⟩ := oInv.nn (i := 3) gI to rfl
            refine va_get (D := (dC, dI)) (ci := 10) (v := .ref b_32) (C := RX10) (T := TX10) (N := 16) hx hb hts in_wsX10_voyage_X10 hown hK hP q_25 hq_25 rfl 3 (by decide) (hts (.fieldLink RX10 17 "ShipOffice" "voyages" "[LShipOffice$Voyage;") (by decide +kernel)) (fun _ h9 => h9) (o_rd hb_32) dX10_voyage_55 ?_
            have tb_32 : oty Z b_32 15 := oInv.rd gI to.2 hb_32 rfl rfl
            refine lv_aload_n hx hb dX10_voyage_58 rfl (lv_at hl 0 rfl) ?_
            refine va_get (D := (dC, dI)) (ci := 10) (v := .int (oI Z o 4)) (C := RX10) (T := TX10) (N := 16) hx hb hts in_wsX10_voyage_X10 hown hK hP q_25 hq_25 rfl 4 (by decide) (hts (.fieldLink RX10 99 "ShipOffice" "voyageCount" "I") (by decide +kernel)) (fun _ h9 => h9) rfl dX10_voyage_59 ?_
            refine lv_topi (fun x_33 ex_33 => ?_)
            have hx_33 : 0 ≤ x_33.toInt ∧ x_33.toInt ≤ 20 := iv_of ex_33 (oInv.iv gI to.2 rfl rfl)
            have gx_33 : x_33.toInt = (oI Z o 4).toInt := iv_to ex_33
            clear ex_33
            refine va_new (ci := 9) (fs := [.int 0, .int 0, .int 0, .int 0, .int 0, .int 0, .int 0, .int 0, .int 0, .null]) (C := RX9) (T := TX9) (N := 10) hx hb hts in_wsX10_voyage_X9 tyX9 tyX9_ok hown (hts (.classLink RX10 15 RX9) (by decide +kernel)) (hts (.instantiable RX9 10) (by decide +kernel)) (hts (.initialized RX9) (by decide +kernel)) hK hP hD hS hA rfl (fun j hj => by rcases (show j = 0 ∨ j = 1 ∨ j = 2 ∨ j = 3 ∨ j = 4 ∨ j = 5 ∨ j = 6 ∨ j = 7 ∨ j = 8 ∨ j = 9 by omega) with rfl | rfl | rfl | rfl | rfl | rfl | rfl | rfl | rfl | rfl <;> rfl) (Nat.le_of_ble_eq_true rfl) (Nat.le_of_ble_eq_true rfl) dX10_voyage_62 (fun q_34 H hP1 hD1 hS => ?_)
            have hnq_34 := add_q hD1
            obtain ⟨S_35, eS_35⟩ : ∃ zq, zq = addO Z q_34 39 := ⟨_, rfl⟩
            have hP : va_P (dC, dI) vwCl (oW cq S_35) H := by rw [eS_35]; exact cP (onew hD1 (by rw [oE_39 add_K, add_I, add_P]; rfl)) hP1
            have hD : va_D A (oW cq S_35) := by rw [eS_35]; exact cD (onew hD1 (by rw [oE_39 add_K, add_I, add_P]; rfl)) hD1
            clear hP1 hD1
            have hIS_35 : oInv S_35 := by rw [eS_35]; exact oInv.add gI hnq_34 (by decide)
            have XS_35 : oX Z S_35 := by rw [eS_35]; exact oX.add hnq_34
            have sr_36 : oP S_35 o 3 = some b_32 := by rw [eS_35, add_Pn hnq_34 to.1]; exact hb_32
            have g_37 : (oI S_35 o 4).toInt = (oI Z o 4).toInt := by rw [eS_35, add_In hnq_34 to.1]
            have X_38 : oX Z S_35 := XS_35
            have tq_34 : oty S_35 q_34 39 := by rw [eS_35]; exact add_ty
            refine W.widen (k := 1) (n := 10) (Nat.le_of_ble_eq_true rfl) (Nat.le_of_ble_eq_true rfl) ?_
            refine lv_dup hx hb dX10_voyage_65 rfl ?_
            refine lv_aload_n hx hb dX10_voyage_66 rfl (lv_at hl 0 rfl) ?_
            have t_39 : oty S_35 o 10 := (oX.ty XS_35 to)
            obtain ⟨q_40, hq_40⟩ := og (cq := cq) t_39.1 (oE_10 t_39.2)
            refine va_get (D := (dC, dI)) (ci := 10) (v := .int (oI S_35 o 4)) (C := RX10) (T := TX10) (N := 16) hx hb hts in_wsX10_voyage_X10 hown hK hP q_40 hq_40 rfl 4 (by decide) (hts (.fieldLink RX10 99 "ShipOffice" "voyageCount" "I") (by decide +kernel)) (fun _ h9 => h9) rfl dX10_voyage_67 ?_
            refine lv_topi (fun x_41 ex_41 => ?_)
            have hx_41 : 0 ≤ x_41.toInt ∧ x_41.toInt ≤ 20 := iv_of ex_41 (oInv.iv hIS_35 t_39.2 rfl rfl)
            have gx_41 : x_41.toInt = (oI S_35 o 4).toInt := iv_to ex_41
            clear ex_41
            refine lv_iload_n hx hb dX10_voyage_70 rfl (lv_at hl 1 rfl) ?_
            refine lv_iload_n hx hb dX10_voyage_71 rfl (lv_at hl 2 rfl) ?_
            refine lv_aload_n hx hb dX10_voyage_72 rfl (lv_at hl 0 rfl) ?_
            refine va_get (D := (dC, dI)) (ci := 10) (v := .int (oI S_35 o 0)) (C := RX10) (T := TX10) (N := 16) hx hb hts in_wsX10_voyage_X10 hown hK hP q_40 hq_40 rfl 0 (by decide) (hts (.fieldLink RX10 73 "ShipOffice" "now" "I") (by decide +kernel)) (fun _ h9 => h9) rfl dX10_voyage_73 ?_
            refine lv_topi (fun x_42 ex_42 => ?_)
            have hx_42 : 0 ≤ x_42.toInt ∧ x_42.toInt ≤ 3000 := iv_of ex_42 (oInv.iv hIS_35 t_39.2 rfl rfl)
            have gx_42 : x_42.toInt = (oI S_35 o 0).toInt := iv_to ex_42
            clear ex_42
            have hFc := o_free hD hS hA
            refine va_callv (va_runI (As := [.int x_41, .int x1, .int x2, .int x_42]) (rest := [.ref q_34, .int x_33, .ref b_32]) ⟨hx, hb, hml, hown, hts⟩ (c_X9_init l dC dI H.size cq S_35 hIS_35 q_34 tq_34 x_41 x1 x2 (by omega) x_42 (by omega)) (cwI 4 hts gX10_voyage_X9_init rfl rfl rfl (hts (.initialized RX9) (by decide +kernel)) (hts (.methodLink RX10 102 yX9_init) (by decide +kernel)) (hts (.instanceMethod yX9_init) (by decide +kernel)) rfl (by decide +kernel) ⟨(Nat.le_of_ble_eq_true rfl), (Nat.le_of_ble_eq_true rfl)⟩) (pr_S hP hK hD) rfl rfl hl.1 rfl (lv_room (Nat.le_of_ble_eq_true rfl)) dX10_voyage_76 ⟨(Nat.le_of_ble_eq_true rfl), (Nat.le_of_ble_eq_true rfl)⟩) hS (fun q _ h => hFc q h) hFc (fun u t H locs ht hvm w_43 hB hz1 hk1 hS => ?_)
            obtain ⟨S_45, rfl⟩ : ∃ z, z = u := ⟨_, rfl⟩
            obtain ⟨hP1, hK1, hD1⟩ := hB
            rw [ht] at hP1
            have hP : va_P (dC, dI) vwCl (oW cq S_45) H := hP1
            have hD : va_D A (oW cq S_45) := hD1.weaken (fun _ _ _ h => hFc _ h)
            clear hP1 hK1 hD1 hk1 hz1 hvm ht hFc
            obtain ⟨hIS_45, XS_45, hx_46⟩ := w_43
            obtain ⟨hxS_45, FS_45⟩ := hx_46
            have X_47 : oX Z S_45 := oX.c X_38 XS_45 (oX.nin oX.rf hnq_34)
            have sr_48 : oP S_45 o 3 = some b_32 := by rw [(FS_45 o t_39.1 (ty_ne t_39 tq_34 (by decide))).2]; exact sr_36
            have g_49 : (oI S_45 o 0).toInt = (oI S_35 o 0).toInt := by rw [(FS_45 o t_39.1 (ty_ne t_39 tq_34 (by decide))).1 (by rw [t_39.2]; decide)]
            have g_50 : (oI S_45 o 4).toInt = (oI S_35 o 4).toInt := by rw [(FS_45 o t_39.1 (ty_ne t_39 tq_34 (by decide))).1 (by rw [t_39.2]; decide)]
            have t_51 : oty S_45 b_32 15 := (oXc.ty XS_45 (ty_ne (oX.ty XS_35 tb_32) tq_34 (by decide)) (oX.ty XS_35 tb_32))
            obtain ⟨q_52, hq_52⟩ := og (cq := cq) t_51.1 (oE_15 t_51.2)
            obtain ⟨q_53, hq_53⟩ := og (cq := cq) hxS_45.1 (oE_9 hxS_45.2)
            refine va_astq (r := (RX9, TX9, 10)) hx hb hK hP hD hS q_52 4 q_53 9 hq_52 rfl hq_53 rfl (vp_in_iff.mpr (by omega)) dX10_voyage_79 (fun H locs hP1 hD1 hS => ?_)
            obtain ⟨S_54, eS_54⟩ : ∃ zq, zq = setP S_45 b_32 (x_33 : Int32).toNatClampNeg (some q_34) := ⟨_, rfl⟩
            have hP : va_P (dC, dI) vwCl (oW cq S_54) H := by rw [eS_54]; exact cP (oset t_51.1 hq_52 hD rfl (he_15 t_51.2) neP) hP1
            have hD : va_D A (oW cq S_54) := by rw [eS_54]; exact cD (oset t_51.1 hq_52 hD rfl (he_15 t_51.2) neP) hD1
            clear hP1 hD1
            have hIS_54 : oInv S_54 := by rw [eS_54]; exact oInv.P (k := 15) hIS_45 t_51.2 (by decide) rfl (fun h => absurd h.1 (by decide)) hxS_45 (show 9 ≤ 9 ∧ 9 ≤ 9 from ⟨Nat.le_refl _, Nat.le_refl _⟩)
            have XS_54 : oX S_45 S_54 := by rw [eS_54]; exact oX.P
            have X_55 : oX Z S_54 := oX.tr X_47 XS_54
            have g_56 : (oI S_54 o 0).toInt = (oI S_45 o 0).toInt := by rw [eS_54]; rfl
            have g_57 : (oI S_54 o 4).toInt = (oI S_45 o 4).toInt := by rw [eS_54]; rfl
            have helS_54 : oP S_54 b_32 (x_33 : Int32).toNatClampNeg = some q_34 := by rw [eS_54, setP_same]
            have hsrS_54 : oP S_54 o 3 = some b_32 := by rw [eS_54, setP_oth (ty_ne (oXc.ty XS_45 (ty_ne t_39 tq_34 (by decide)) t_39) t_51 (by decide))]; exact sr_48
            refine lv_aload_n hx hb dX10_voyage_80 rfl (lv_at hl 0 rfl) ?_
            refine lv_dup hx hb dX10_voyage_81 rfl ?_
            have t_58 : oty S_54 o 10 := (oX.ty XS_54 (oXc.ty XS_45 (ty_ne t_39 tq_34 (by decide)) t_39))
            obtain ⟨q_59, hq_59⟩ := og (cq := cq) t_58.1 (oE_10 t_58.2)
            refine va_get (D := (dC, dI)) (ci := 10) (v := .int (oI S_54 o 4)) (C := RX10) (T := TX10) (N := 16) hx hb hts in_wsX10_voyage_X10 hown hK hP q_59 hq_59 rfl 4 (by decide) (hts (.fieldLink RX10 99 "ShipOffice" "voyageCount" "I") (by decide +kernel)) (fun _ h9 => h9) rfl dX10_voyage_82 ?_
            refine lv_topi (fun x_60 ex_60 => ?_)
            have hx_60 : 0 ≤ x_60.toInt ∧ x_60.toInt ≤ 20 := iv_of ex_60 (oInv.iv hIS_54 t_58.2 rfl rfl)
            have gx_60 : x_60.toInt = (oI S_54 o 4).toInt := iv_to ex_60
            clear ex_60
            refine lv_iconst (v := 1) hx hb dX10_voyage_85 (by decide) ?_
            refine lv_iadd hx hb dX10_voyage_86 ?_
            refine lv_topi (fun x_61 ex_61 => ?_)
            have hx_61 : x_61.toInt = x_60.toInt + 1 := (iv_to ex_61).trans (ad_i rfl (by decide) (by omega) (by omega))
            clear ex_61
            refine va_put (D := (dC, dI)) (ci := 10) (v := .int x_61) (ty := .int) (C := RX10) (T := TX10) (N := 16) hx hb hts in_wsX10_voyage_X10 tyX10 tyX10_ok nmX10 hown hK hP hD hS q_59 hq_59 rfl 4 (by decide) (hts (.fieldLink RX10 99 "ShipOffice" "voyageCount" "I") (by decide +kernel)) (fun _ h9 => h9) rfl (by decide +kernel) rfl rfl (Nat.le_of_ble_eq_true rfl) dX10_voyage_87 (fun H locs hP1 hD1 hS => ?_)
            obtain ⟨S_62, eS_62⟩ : ∃ zq, zq = setI S_54 o 4 x_61 := ⟨_, rfl⟩
            have hP : va_P (dC, dI) vwCl (oW cq S_62) H := by rw [eS_62]; exact cP (oset t_58.1 hq_59 hD rfl (he_10_4 t_58.2) neI) hP1
            have hD : va_D A (oW cq S_62) := by rw [eS_62]; exact cD (oset t_58.1 hq_59 hD rfl (he_10_4 t_58.2) neI) hD1
            clear hP1 hD1
            have hIS_62 : oInv S_62 := by rw [eS_62]; exact oInv.I (k := 10) (lo := 0) (hi := 20) hIS_54 t_58.2 (by decide) rfl rfl (by omega) (inv_cnt hIS_54 t_58 rfl hsrS_54 (by omega) (by omega) ⟨_, by rw [← cnt_at (x := x_33) (S := S_54) (a := o) (i := 4) (by omega)]; exact helS_54⟩)
            have XS_62 : oX S_54 S_62 := by rw [eS_62]; exact oX.I (k := 10) t_58.2 (by decide)
            have X_63 : oX Z S_62 := oX.tr X_55 XS_62
            have g_64 : (oI S_62 o 0).toInt = (oI S_54 o 0).toInt := by rw [eS_62, setI_ne (by decide)]
            have g_65 : (oI S_62 o 4).toInt = x_61.toInt := by rw [eS_62, setI_same]
            refine lv_aload_n hx hb dX10_voyage_90 rfl (lv_at hl 0 rfl) ?_
            have t_66 : oty S_62 o 10 := (oX.ty XS_62 t_58)
            obtain ⟨q_67, hq_67⟩ := og (cq := cq) t_66.1 (oE_10 t_66.2)
            refine va_get (D := (dC, dI)) (ci := 10) (v := .int (oI S_62 o 4)) (C := RX10) (T := TX10) (N := 16) hx hb hts in_wsX10_voyage_X10 hown hK hP q_67 hq_67 rfl 4 (by decide) (hts (.fieldLink RX10 99 "ShipOffice" "voyageCount" "I") (by decide +kernel)) (fun _ h9 => h9) rfl dX10_voyage_91 ?_
            refine lv_topi (fun x_68 ex_68 => ?_)
            have hx_68 : 0 ≤ x_68.toInt ∧ x_68.toInt ≤ 20 := iv_of ex_68 (oInv.iv hIS_62 t_66.2 rfl rfl)
            have gx_68 : x_68.toInt = (oI S_62 o 4).toInt := iv_to ex_68
            clear ex_68
            refine lv_iconst (v := 1) hx hb dX10_voyage_94 (by decide) ?_
            refine lv_isub hx hb dX10_voyage_95 ?_
            refine lv_topi (fun x_69 ex_69 => ?_)
            have hx_69 : x_69.toInt = x_68.toInt - 1 := (iv_to ex_69).trans (sb_i rfl (by decide) (by omega) (by omega))
            clear ex_69
            exact W.iret (v := x_69) hx hb hr (fun t ht hW => ⟨⟨x_69, S_62, rfl, ⟨hIS_62, X_63⟩, ⟨by rw [ht]; exact hP, va_K.moved hW.alike hK, hD⟩⟩, hS.F ht⟩) hS.2.2 dX10_voyage_96
          · have dc_31 := c_nlt (a := x_30.toInt) (b := 20) rfl (by decide) c_31
            refine lv_aload_n hx hb dX10_voyage_47 rfl (lv_at hl 0 rfl) ?_
            refine lv_bipush (v := (-6)) hx hb dX10_voyage_48 (by decide) ?_
            have hFc := o_free hD hS hA
            refine va_calli (va_runV (As := [.int (-6)]) (rest := []) ⟨hx, hb, hml, hown, hts⟩ (c_X10_refuse l dC dI H.size cq Z gI o to (-6) (by decide)) (cwV 1 hts gX10_voyage_X10_refuse rfl rfl rfl (by decide +kernel) ⟨(Nat.le_of_ble_eq_true rfl), (Nat.le_of_ble_eq_true rfl)⟩) (pr_V (r := (RX10, TX10, 16)) hP hK hD q_25 10 rfl hq_25) rfl rfl hl.1 rfl (lv_room (Nat.le_of_ble_eq_true rfl)) dX10_voyage_50 ⟨(Nat.le_of_ble_eq_true rfl), (Nat.le_of_ble_eq_true rfl)⟩) hS (fun q _ h => hFc q h) hFc (fun r_71 u t H locs ht hvm w_70 hB hz1 hk1 hS => ?_)
            obtain ⟨S_72, rfl⟩ : ∃ z, z = u := ⟨_, rfl⟩
            obtain ⟨hP1, hK1, hD1⟩ := hB
            rw [ht] at hP1
            have hP : va_P (dC, dI) vwCl (oW cq S_72) H := hP1
            have hD : va_D A (oW cq S_72) := hD1.weaken (fun _ _ _ h => hFc _ h)
            clear hP1 hK1 hD1 hk1 hz1 hvm ht hFc
            obtain ⟨hIS_72, XS_72, hb_73, hx_74⟩ := w_70
            have X_75 : oX Z S_72 := XS_72
            have rf_76 : r_71.toInt = -6 := by rw [hx_74]; decide
            refine W.widen (k := 1) (n := 10) (Nat.le_of_ble_eq_true rfl) (Nat.le_of_ble_eq_true rfl) ?_
            exact W.iret (v := r_71) hx hb hr (fun t ht hW => ⟨⟨r_71, S_72, rfl, ⟨hIS_72, X_75⟩, ⟨by rw [ht]; exact hP, va_K.moved hW.alike hK, hD⟩⟩, hS.F ht⟩) hS.2.2 dX10_voyage_53
        · have dc_29 := c_ne (a := r_27.toInt) (b := 0) rfl (by decide) c_29
          refine lv_aload_n hx hb dX10_voyage_31 rfl (lv_at hl 0 rfl) ?_
          refine lv_bipush (v := (-3)) hx hb dX10_voyage_32 (by decide) ?_
          have hFc := o_free hD hS hA
          refine va_calli (va_runV (As := [.int (-3)]) (rest := []) ⟨hx, hb, hml, hown, hts⟩ (c_X10_refuse l dC dI H.size cq Z gI o to (-3) (by decide)) (cwV 1 hts gX10_voyage_X10_refuse rfl rfl rfl (by decide +kernel) ⟨(Nat.le_of_ble_eq_true rfl), (Nat.le_of_ble_eq_true rfl)⟩) (pr_V (r := (RX10, TX10, 16)) hP hK hD q_25 10 rfl hq_25) rfl rfl hl.1 rfl (lv_room (Nat.le_of_ble_eq_true rfl)) dX10_voyage_34 ⟨(Nat.le_of_ble_eq_true rfl), (Nat.le_of_ble_eq_true rfl)⟩) hS (fun q _ h => hFc q h) hFc (fun r_78 u t H locs ht hvm w_77 hB hz1 hk1 hS => ?_)
          obtain ⟨S_79, rfl⟩ : ∃ z, z = u := ⟨_, rfl⟩
          obtain ⟨hP1, hK1, hD1⟩ := hB
          rw [ht] at hP1
          have hP : va_P (dC, dI) vwCl (oW cq S_79) H := hP1
          have hD : va_D A (oW cq S_79) := hD1.weaken (fun _ _ _ h => hFc _ h)
          clear hP1 hK1 hD1 hk1 hz1 hvm ht hFc
          obtain ⟨hIS_79, XS_79, hb_80, hx_81⟩ := w_77
          have X_82 : oX Z S_79 := XS_79
          have rf_83 : r_78.toInt = -3 := by rw [hx_81]; decide
          refine W.widen (k := 1) (n := 10) (Nat.le_of_ble_eq_true rfl) (Nat.le_of_ble_eq_true rfl) ?_
          exact W.iret (v := r_78) hx hb hr (fun t ht hW => ⟨⟨r_78, S_79, rfl, ⟨hIS_79, X_82⟩, ⟨by rw [ht]; exact hP, va_K.moved hW.alike hK, hD⟩⟩, hS.F ht⟩) hS.2.2 dX10_voyage_37
      · have dc_23 := c_eq (a := r_20.toInt) (b := 0) rfl (by decide) c_23
        refine lv_aload_n hx hb dX10_voyage_17 rfl (lv_at hl 0 rfl) ?_
        refine lv_iconst (v := (-1)) hx hb dX10_voyage_18 (by decide) ?_
        have hFc := o_free hD hS hA
        obtain ⟨q_84, hq_84⟩ := og (cq := cq) to.1 (oE_10 to.2)
        refine va_calli (va_runV (As := [.int (-1)]) (rest := []) ⟨hx, hb, hml, hown, hts⟩ (c_X10_refuse l dC dI H.size cq Z gI o to (-1) (by decide)) (cwV 1 hts gX10_voyage_X10_refuse rfl rfl rfl (by decide +kernel) ⟨(Nat.le_of_ble_eq_true rfl), (Nat.le_of_ble_eq_true rfl)⟩) (pr_V (r := (RX10, TX10, 16)) hP hK hD q_84 10 rfl hq_84) rfl rfl hl.1 rfl (lv_room (Nat.le_of_ble_eq_true rfl)) dX10_voyage_19 ⟨(Nat.le_of_ble_eq_true rfl), (Nat.le_of_ble_eq_true rfl)⟩) hS (fun q _ h => hFc q h) hFc (fun r_86 u t H locs ht hvm w_85 hB hz1 hk1 hS => ?_)
        obtain ⟨S_87, rfl⟩ : ∃ z, z = u := ⟨_, rfl⟩
        obtain ⟨hP1, hK1, hD1⟩ := hB
        rw [ht] at hP1
        have hP : va_P (dC, dI) vwCl (oW cq S_87) H := hP1
        have hD : va_D A (oW cq S_87) := hD1.weaken (fun _ _ _ h => hFc _ h)
        clear hP1 hK1 hD1 hk1 hz1 hvm ht hFc
        obtain ⟨hIS_87, XS_87, hb_88, hx_89⟩ := w_85
        have X_90 : oX Z S_87 := XS_87
        have rf_91 : r_86.toInt = -1 := by rw [hx_89]; decide
        refine W.widen (k := 1) (n := 10) (Nat.le_of_ble_eq_true rfl) (Nat.le_of_ble_eq_true rfl) ?_
        exact W.iret (v := r_86) hx hb hr (fun t ht hW => ⟨⟨r_86, S_87, rfl, ⟨hIS_87, X_90⟩, ⟨by rw [ht]; exact hP, va_K.moved hW.alike hK, hD⟩⟩, hS.F ht⟩) hS.2.2 dX10_voyage_22
set_option maxHeartbeats 4000000 in
set_option maxRecDepth 100000 in
theorem c_X10_fine (l : Launch) (dC : Nat → ClassId) (dI : Nat → Nat → Nat) (sz : Nat) (cq : Nat → ClassId) (Z : oS) (gI : oInv Z) (o : Nat) (to : oty Z o 10) (x1 : Int32) (x2 : Int32) (x3 : Int32) (x4 : Int32) (hx4 : 0 ≤ x4.toInt ∧ x4.toInt ≤ 1) : Met l yX10_fine wsX10_fine ({ frames := 2, cells := 1, slots := 3, locals := 37 }) (va_Pc [.ref o, .int x1, .int x2, .int x3, .int x4] (pcW (dC, dI) (oT cq) (oW cq Z) sz)) (va_Qi (fun (r : Int32) (u : oS) => oInv u ∧ oX Z u) (fun u t => va_P (dC, dI) vwCl (oW cq u) t.heap ∧ va_K (dC, dI) vwCl (oT cq) t ∧ va_D (va_A (oW cq Z) sz) (oW cq u)) (va_A (oW cq Z) sz)) 1 3 (va_A (oW cq Z) sz) := by
  refine Met.ofW (cc := cX10_fine) (maxL := 6) (ret := (some .int)) (by decide) rfl ?_
  intro p e s m args below meth c s₁ B hml hv
  obtain ⟨rfl, hsz, hP, hK, hD0⟩ := hv
  have hx := B.exec
  have hb := B.bytes
  have hr := B.returns
  have hts := atoms_spec (ws := wsX10_fine) B.pre
  have hown : s.vm.findClass RX10 = some m.cls := findClass_of_methodNamed B.named
  have hlocks := B.notSynchronized
  subst hsz
  have hD := hD0.self (sz := s.heap.size)
  generalize hAe : va_A (oW cq Z) s.heap.size = A at hD ⊢
  have hA : ∀ q : Nat, s.heap.size ≤ q → A q := fun q h => by rw [← hAe]; exact Or.inr h
  have hS : va_S A s.heap s.heap [] := va_S.rf
  have hP : va_P (dC, dI) vwCl (oW cq Z) s.heap := hP
  have hl := lv_entry ([.ref o, .int x1, .int x2, .int x3, .int x4]) (n := 6) (Nat.le_of_ble_eq_true rfl)
  rw [lg_entry_eq]
  generalize (lg_sl ([.ref o, .int x1, .int x2, .int x3, .int x4]) ++ List.replicate (6 - (lg_sl ([.ref o, .int x1, .int x2, .int x3, .int x4])).length) Slot.unset).toArray = ls at hl ⊢
  have hl : lv_has ls 6 [(0, .ref o), (1, .int x1), (2, .int x2), (3, .int x3), (4, .int x4)] := hl
  refine lv_aload_n hx hb dX10_fine_0 rfl (lv_at hl 0 rfl) ?_
  refine lv_iload_n hx hb dX10_fine_1 rfl (lv_at hl 1 rfl) ?_
  have hFc : ∀ q, va_A [] s.heap.size q → A q := pu_free hS hA
  obtain ⟨q_1, hq_1⟩ := og (cq := cq) to.1 (oE_10 to.2)
  refine va_callq (va_runV (As := [.int x1]) (rest := []) ⟨hx, hb, hml, hown, hts⟩ (c_X10_agreementAt l dC dI s.heap.size cq Z gI o to x1) (cwV 1 hts gX10_fine_X10_agreementAt rfl rfl rfl (by decide +kernel) ⟨(Nat.le_of_ble_eq_true rfl), (Nat.le_of_ble_eq_true rfl)⟩) (pr_V (r := (RX10, TX10, 16)) hP hK hD q_1 10 rfl hq_1) rfl rfl hl.1 rfl (lv_room (Nat.le_of_ble_eq_true rfl)) dX10_fine_2 ⟨(Nat.le_of_ble_eq_true rfl), (Nat.le_of_ble_eq_true rfl)⟩) hS (fun q _ h => hFc q h) hFc (fun r_3 u t H locs ht hvm w_2 hB hz1 hk1 hS => ?_)
  have hP := pu_keep hP hk1
  clear hk1 hz1 hvm hB ht hFc
  have hk_4 := w_2
  rcases r_3 with _ | b_5
  · refine W.eq (g2 := F0 m 5 ls [.null]) rfl ?_
    refine lv_astoreN (lv' := [(5, .null), (0, .ref o), (1, .int x1), (2, .int x2), (3, .int x3), (4, .int x4)]) hx hb dX10_fine_5 hl (by decide) rfl (fun ls hl => ?_)
    refine lv_aloadN hx hb dX10_fine_7 (lv_at hl 0 rfl) ?_
    refine lv_ifnonnullN hx hb dX10_fine_9 ?_
    refine lv_aload_n hx hb dX10_fine_12 rfl (lv_at hl 1 rfl) ?_
    refine lv_iconst (v := (-1)) hx hb dX10_fine_13 (by decide) ?_
    have hFc := o_free hD hS hA
    refine va_calli (va_runV (As := [.int (-1)]) (rest := []) ⟨hx, hb, hml, hown, hts⟩ (c_X10_refuse l dC dI H.size cq Z gI o to (-1) (by decide)) (cwV 1 hts gX10_fine_X10_refuse rfl rfl rfl (by decide +kernel) ⟨(Nat.le_of_ble_eq_true rfl), (Nat.le_of_ble_eq_true rfl)⟩) (pr_V (r := (RX10, TX10, 16)) hP hK hD q_1 10 rfl hq_1) rfl rfl hl.1 rfl (lv_room (Nat.le_of_ble_eq_true rfl)) dX10_fine_14 ⟨(Nat.le_of_ble_eq_true rfl), (Nat.le_of_ble_eq_true rfl)⟩) hS (fun q _ h => hFc q h) hFc (fun r_7 u t H locs ht hvm w_6 hB hz1 hk1 hS => ?_)
    obtain ⟨S_8, rfl⟩ : ∃ z, z = u := ⟨_, rfl⟩
    obtain ⟨hP1, hK1, hD1⟩ := hB
    rw [ht] at hP1
    have hP : va_P (dC, dI) vwCl (oW cq S_8) H := hP1
    have hD : va_D A (oW cq S_8) := hD1.weaken (fun _ _ _ h => hFc _ h)
    clear hP1 hK1 hD1 hk1 hz1 hvm ht hFc
    obtain ⟨hIS_8, XS_8, hb_9, hx_10⟩ := w_6
    have X_11 : oX Z S_8 := XS_8
    have rf_12 : r_7.toInt = -1 := by rw [hx_10]; decide
    refine W.widen (k := 1) (n := 3) (Nat.le_of_ble_eq_true rfl) (Nat.le_of_ble_eq_true rfl) ?_
    exact W.iret (v := r_7) hx hb hr (fun t ht hW => ⟨⟨r_7, S_8, rfl, ⟨hIS_8, X_11⟩, ⟨by rw [ht]; exact hP, va_K.moved hW.alike hK, hD⟩⟩, hS.F ht⟩) hS.2.2 dX10_fine_17
  · refine W.eq (g2 := F0 m 5 ls [.ref b_5]) rfl ?_
    have tb_5 : oty Z b_5 1 := hk_4 b_5 rfl
    refine lv_astore (lv' := [(5, .ref b_5), (0, .ref o), (1, .int x1), (2, .int x2), (3, .int x3), (4, .int x4)]) hx hb dX10_fine_5 hl (by decide) rfl (fun ls hl => ?_)
    refine lv_aload hx hb dX10_fine_7 (lv_at hl 0 rfl) ?_
    refine lv_ifnonnull (tgt := 18) hx hb dX10_fine_9 (by decide) ?_
    refine lv_aload hx hb dX10_fine_18 (lv_at hl 0 rfl) ?_
    obtain ⟨q_13, hq_13⟩ := og (cq := cq) tb_5.1 (oE_1 tb_5.2)
    refine va_get (D := (dC, dI)) (ci := 1) (v := .int (oI Z b_5 6)) (C := RX1) (T := TX1) (N := 18) hx hb hts in_wsX10_fine_X1 hown hK hP q_13 hq_13 rfl 6 (by decide) (hts (.fieldLink RX10 126 "ShipOffice$Agreement" "offDay" "I") (by decide +kernel)) (fun _ h9 => h9) rfl dX10_fine_20 ?_
    refine lv_topi (fun x_14 ex_14 => ?_)
    have gx_14 : x_14.toInt = (oI Z b_5 6).toInt := iv_to ex_14
    clear ex_14
    refine lv_ldc (v := 1000000) hx hb hown (hts (.constant RX10 114 (1000000)) (by decide +kernel)) dX10_fine_23 ?_
    refine lv_icmp_eq (tgt := 35) hx hb dX10_fine_25 (by decide) (fun c_15 => ?_) (fun c_15 => ?_)
    · have dc_15 := c_eq (a := x_14.toInt) (b := 1000000) rfl (by decide) c_15
      refine lv_iload_n hx hb dX10_fine_35 rfl (lv_at hl 3 rfl) ?_
      refine lv_aload hx hb dX10_fine_36 (lv_at hl 0 rfl) ?_
      refine va_get (D := (dC, dI)) (ci := 1) (v := .int (oI Z b_5 2)) (C := RX1) (T := TX1) (N := 18) hx hb hts in_wsX10_fine_X1 hown hK hP q_13 hq_13 rfl 2 (by decide) (hts (.fieldLink RX10 255 "ShipOffice$Agreement" "signedOn" "I") (by decide +kernel)) (fun _ h9 => h9) rfl dX10_fine_38 ?_
      refine lv_topi (fun x_16 ex_16 => ?_)
      clear ex_16
      refine lv_icmp_lt (tgt := 49) hx hb dX10_fine_41 (by decide) (fun c_17 => ?_) (fun c_17 => ?_)
      · have dc_17 := c_lt (a := x2.toInt) (b := x_16.toInt) rfl rfl c_17
        refine lv_aload_n hx hb dX10_fine_49 rfl (lv_at hl 1 rfl) ?_
        refine lv_bipush (v := (-4)) hx hb dX10_fine_50 (by decide) ?_
        have hFc := o_free hD hS hA
        refine va_calli (va_runV (As := [.int (-4)]) (rest := []) ⟨hx, hb, hml, hown, hts⟩ (c_X10_refuse l dC dI H.size cq Z gI o to (-4) (by decide)) (cwV 1 hts gX10_fine_X10_refuse rfl rfl rfl (by decide +kernel) ⟨(Nat.le_of_ble_eq_true rfl), (Nat.le_of_ble_eq_true rfl)⟩) (pr_V (r := (RX10, TX10, 16)) hP hK hD q_1 10 rfl hq_1) rfl rfl hl.1 rfl (lv_room (Nat.le_of_ble_eq_true rfl)) dX10_fine_52 ⟨(Nat.le_of_ble_eq_true rfl), (Nat.le_of_ble_eq_true rfl)⟩) hS (fun q _ h => hFc q h) hFc (fun r_19 u t H locs ht hvm w_18 hB hz1 hk1 hS => ?_)
        obtain ⟨S_20, rfl⟩ : ∃ z, z = u := ⟨_, rfl⟩
        obtain ⟨hP1, hK1, hD1⟩ := hB
        rw [ht] at hP1
        have hP : va_P (dC, dI) vwCl (oW cq S_20) H := hP1
        have hD : va_D A (oW cq S_20) := hD1.weaken (fun _ _ _ h => hFc _ h)
        clear hP1 hK1 hD1 hk1 hz1 hvm ht hFc
        obtain ⟨hIS_20, XS_20, hb_21, hx_22⟩ := w_18
        have X_23 : oX Z S_20 := XS_20
        have rf_24 : r_19.toInt = -4 := by rw [hx_22]; decide
        refine W.widen (k := 1) (n := 3) (Nat.le_of_ble_eq_true rfl) (Nat.le_of_ble_eq_true rfl) ?_
        exact W.iret (v := r_19) hx hb hr (fun t ht hW => ⟨⟨r_19, S_20, rfl, ⟨hIS_20, X_23⟩, ⟨by rw [ht]; exact hP, va_K.moved hW.alike hK, hD⟩⟩, hS.F ht⟩) hS.2.2 dX10_fine_55
      · have dc_17 := c_nlt (a := x2.toInt) (b := x_16.toInt) rfl rfl c_17
        refine lv_iload_n hx hb dX10_fine_44 rfl (lv_at hl 4 rfl) ?_
        refine lv_iconst (v := 1) hx hb dX10_fine_45 (by decide) ?_
        refine lv_icmp_ge (tgt := 56) hx hb dX10_fine_46 (by decide) (fun c_25 => ?_) (fun c_25 => ?_)
        · have dc_25 := c_le (a := 1) (b := x3.toInt) (by decide) rfl c_25
          refine lv_iload_n hx hb dX10_fine_56 rfl (lv_at hl 3 rfl) ?_
          refine lv_aload_n hx hb dX10_fine_57 rfl (lv_at hl 1 rfl) ?_
          refine va_get (D := (dC, dI)) (ci := 10) (v := .int (oI Z o 0)) (C := RX10) (T := TX10) (N := 16) hx hb hts in_wsX10_fine_X10 hown hK hP q_1 hq_1 rfl 0 (by decide) (hts (.fieldLink RX10 73 "ShipOffice" "now" "I") (by decide +kernel)) (fun _ h9 => h9) rfl dX10_fine_58 ?_
          refine lv_topi (fun x_26 ex_26 => ?_)
          have hx_26 : 0 ≤ x_26.toInt ∧ x_26.toInt ≤ 3000 := iv_of ex_26 (oInv.iv gI to.2 rfl rfl)
          have gx_26 : x_26.toInt = (oI Z o 0).toInt := iv_to ex_26
          clear ex_26
          refine lv_icmp_gt (tgt := 81) hx hb dX10_fine_61 (by decide) (fun c_27 => ?_) (fun c_27 => ?_)
          · have dc_27 := c_lt (a := x_26.toInt) (b := x2.toInt) rfl rfl c_27
            refine lv_aload_n hx hb dX10_fine_81 rfl (lv_at hl 1 rfl) ?_
            refine lv_bipush (v := (-6)) hx hb dX10_fine_82 (by decide) ?_
            have hFc := o_free hD hS hA
            refine va_calli (va_runV (As := [.int (-6)]) (rest := []) ⟨hx, hb, hml, hown, hts⟩ (c_X10_refuse l dC dI H.size cq Z gI o to (-6) (by decide)) (cwV 1 hts gX10_fine_X10_refuse rfl rfl rfl (by decide +kernel) ⟨(Nat.le_of_ble_eq_true rfl), (Nat.le_of_ble_eq_true rfl)⟩) (pr_V (r := (RX10, TX10, 16)) hP hK hD q_1 10 rfl hq_1) rfl rfl hl.1 rfl (lv_room (Nat.le_of_ble_eq_true rfl)) dX10_fine_84 ⟨(Nat.le_of_ble_eq_true rfl), (Nat.le_of_ble_eq_true rfl)⟩) hS (fun q _ h => hFc q h) hFc (fun r_29 u t H locs ht hvm w_28 hB hz1 hk1 hS => ?_)
            obtain ⟨S_30, rfl⟩ : ∃ z, z = u := ⟨_, rfl⟩
            obtain ⟨hP1, hK1, hD1⟩ := hB
            rw [ht] at hP1
            have hP : va_P (dC, dI) vwCl (oW cq S_30) H := hP1
            have hD : va_D A (oW cq S_30) := hD1.weaken (fun _ _ _ h => hFc _ h)
            clear hP1 hK1 hD1 hk1 hz1 hvm ht hFc
            obtain ⟨hIS_30, XS_30, hb_31, hx_32⟩ := w_28
            have X_33 : oX Z S_30 := XS_30
            have rf_34 : r_29.toInt = -6 := by rw [hx_32]; decide
            refine W.widen (k := 1) (n := 3) (Nat.le_of_ble_eq_true rfl) (Nat.le_of_ble_eq_true rfl) ?_
            exact W.iret (v := r_29) hx hb hr (fun t ht hW => ⟨⟨r_29, S_30, rfl, ⟨hIS_30, X_33⟩, ⟨by rw [ht]; exact hP, va_K.moved hW.alike hK, hD⟩⟩, hS.F ht⟩) hS.2.2 dX10_fine_87
          · have dc_27 := c_nlt (a := x_26.toInt) (b := x2.toInt) rfl rfl c_27
            refine lv_iload_n hx hb dX10_fine_64 rfl (lv_at hl 4 rfl) ?_
            refine lv_sipush (v := 9999) hx hb dX10_fine_65 (by decide) ?_
            refine lv_icmp_gt (tgt := 81) hx hb dX10_fine_68 (by decide) (fun c_35 => ?_) (fun c_35 => ?_)
            · have dc_35 := c_lt (a := 9999) (b := x3.toInt) (by decide) rfl c_35
              refine lv_aload_n hx hb dX10_fine_81 rfl (lv_at hl 1 rfl) ?_
              refine lv_bipush (v := (-6)) hx hb dX10_fine_82 (by decide) ?_
              have hFc := o_free hD hS hA
              refine va_calli (va_runV (As := [.int (-6)]) (rest := []) ⟨hx, hb, hml, hown, hts⟩ (c_X10_refuse l dC dI H.size cq Z gI o to (-6) (by decide)) (cwV 1 hts gX10_fine_X10_refuse rfl rfl rfl (by decide +kernel) ⟨(Nat.le_of_ble_eq_true rfl), (Nat.le_of_ble_eq_true rfl)⟩) (pr_V (r := (RX10, TX10, 16)) hP hK hD q_1 10 rfl hq_1) rfl rfl hl.1 rfl (lv_room (Nat.le_of_ble_eq_true rfl)) dX10_fine_84 ⟨(Nat.le_of_ble_eq_true rfl), (Nat.le_of_ble_eq_true rfl)⟩) hS (fun q _ h => hFc q h) hFc (fun r_37 u t H locs ht hvm w_36 hB hz1 hk1 hS => ?_)
              obtain ⟨S_38, rfl⟩ : ∃ z, z = u := ⟨_, rfl⟩
              obtain ⟨hP1, hK1, hD1⟩ := hB
              rw [ht] at hP1
              have hP : va_P (dC, dI) vwCl (oW cq S_38) H := hP1
              have hD : va_D A (oW cq S_38) := hD1.weaken (fun _ _ _ h => hFc _ h)
              clear hP1 hK1 hD1 hk1 hz1 hvm ht hFc
              obtain ⟨hIS_38, XS_38, hb_39, hx_40⟩ := w_36
              have X_41 : oX Z S_38 := XS_38
              have rf_42 : r_37.toInt = -6 := by rw [hx_40]; decide
              refine W.widen (k := 1) (n := 3) (Nat.le_of_ble_eq_true rfl) (Nat.le_of_ble_eq_true rfl) ?_
              exact W.iret (v := r_37) hx hb hr (fun t ht hW => ⟨⟨r_37, S_38, rfl, ⟨hIS_38, X_41⟩, ⟨by rw [ht]; exact hP, va_K.moved hW.alike hK, hD⟩⟩, hS.F ht⟩) hS.2.2 dX10_fine_87
            · have dc_35 := c_nlt (a := 9999) (b := x3.toInt) (by decide) rfl c_35
              refine lv_aload hx hb dX10_fine_71 (lv_at hl 0 rfl) ?_
              refine va_get (D := (dC, dI)) (ci := 1) (v := .int (oI Z b_5 13)) (C := RX1) (T := TX1) (N := 18) hx hb hts in_wsX10_fine_X1 hown hK hP q_13 hq_13 rfl 13 (by decide) (hts (.fieldLink RX10 258 "ShipOffice$Agreement" "fineCount" "I") (by decide +kernel)) (fun _ h9 => h9) rfl dX10_fine_73 ?_
              refine lv_topi (fun x_43 ex_43 => ?_)
              have hx_43 : 0 ≤ x_43.toInt ∧ x_43.toInt ≤ 6 := iv_of ex_43 (oInv.iv gI tb_5.2 rfl rfl)
              have gx_43 : x_43.toInt = (oI Z b_5 13).toInt := iv_to ex_43
              clear ex_43
              refine lv_bipush (v := 6) hx hb dX10_fine_76 (by decide) ?_
              refine lv_icmp_lt (tgt := 88) hx hb dX10_fine_78 (by decide) (fun c_44 => ?_) (fun c_44 => ?_)
              · have dc_44 := c_lt (a := x_43.toInt) (b := 6) rfl (by decide) c_44
                refine lv_aload hx hb dX10_fine_88 (lv_at hl 0 rfl) ?_
                obtain ⟨b_45, hb_45⟩ := oInv.nn (i := 12) gI tb_5 rfl
                refine va_get (D := (dC, dI)) (ci := 1) (v := .ref b_45) (C := RX1) (T := TX1) (N := 18) hx hb hts in_wsX10_fine_X1 hown hK hP q_13 hq_13 rfl 12 (by decide) (hts (.fieldLink RX10 261 "ShipOffice$Agreement" "fines" "[LShipOffice$Fine;") (by decide +kernel)) (fun _ h9 => h9) (o_rd hb_45) dX10_fine_90 ?_
                have tb_45 : oty Z b_45 17 := oInv.rd gI tb_5.2 hb_45 rfl rfl
                refine lv_aload hx hb dX10_fine_93 (lv_at hl 0 rfl) ?_
                refine va_get (D := (dC, dI)) (ci := 1) (v := .int (oI Z b_5 13)) (C := RX1) (T := TX1) (N := 18) hx hb hts in_wsX10_fine_X1 hown hK hP q_13 hq_13 rfl 13 (by decide) (hts (.fieldLink RX10 258 "ShipOffice$Agreement" "fineCount" "I") (by decide +kernel)) (fun _ h9 => h9) rfl dX10_fine_95 ?_
                refine lv_topi (fun x_46 ex_46 => ?_)
                have hx_46 : 0 ≤ x_46.toInt ∧ x_46.toInt ≤ 6 := iv_of ex_46 (oInv.iv gI tb_5.2 rfl rfl)
                have gx_46 : x_46.toInt = (oI Z b_5 13).toInt := iv_to ex_46
                clear ex_46
                refine va_new (ci := 2) (fs := [.int 0, .int 0, .int 0]) (C := RX2) (T := TX2) (N := 3) hx hb hts in_wsX10_fine_X2 tyX2 tyX2_ok hown (hts (.classLink RX10 265 RX2) (by decide +kernel)) (hts (.instantiable RX2 3) (by decide +kernel)) (hts (.initialized RX2) (by decide +kernel)) hK hP hD hS hA rfl (fun j hj => by rcases (show j = 0 ∨ j = 1 ∨ j = 2 by omega) with rfl | rfl | rfl <;> rfl) (Nat.le_of_ble_eq_true rfl) (Nat.le_of_ble_eq_true rfl) dX10_fine_98 (fun q_47 H hP1 hD1 hS => ?_)
                have hnq_47 := add_q hD1
                obtain ⟨S_48, eS_48⟩ : ∃ zq, zq = addO Z q_47 32 := ⟨_, rfl⟩
                have hP : va_P (dC, dI) vwCl (oW cq S_48) H := by rw [eS_48]; exact cP (onew hD1 (by rw [oE_32 add_K, add_I])) hP1
                have hD : va_D A (oW cq S_48) := by rw [eS_48]; exact cD (onew hD1 (by rw [oE_32 add_K, add_I])) hD1
                clear hP1 hD1
                have hIS_48 : oInv S_48 := by rw [eS_48]; exact oInv.add gI hnq_47 (by decide)
                have XS_48 : oX Z S_48 := by rw [eS_48]; exact oX.add hnq_47
                have sr_49 : oP S_48 b_5 12 = some b_45 := by rw [eS_48, add_Pn hnq_47 tb_5.1]; exact hb_45
                have g_50 : (oI S_48 b_5 6).toInt = (oI Z b_5 6).toInt := by rw [eS_48, add_In hnq_47 tb_5.1]
                have g_51 : (oI S_48 b_5 13).toInt = (oI Z b_5 13).toInt := by rw [eS_48, add_In hnq_47 tb_5.1]
                have g_52 : (oI S_48 o 0).toInt = (oI Z o 0).toInt := by rw [eS_48, add_In hnq_47 to.1]
                have X_53 : oX Z S_48 := XS_48
                have tq_47 : oty S_48 q_47 32 := by rw [eS_48]; exact add_ty
                refine W.widen (k := 1) (n := 3) (Nat.le_of_ble_eq_true rfl) (Nat.le_of_ble_eq_true rfl) ?_
                refine lv_dup hx hb dX10_fine_101 rfl ?_
                refine lv_iload_n hx hb dX10_fine_102 rfl (lv_at hl 3 rfl) ?_
                refine lv_iload_n hx hb dX10_fine_103 rfl (lv_at hl 4 rfl) ?_
                refine lv_iload hx hb dX10_fine_104 (lv_at hl 5 rfl) ?_
                have hFc := o_free hD hS hA
                refine va_callv (va_runI (As := [.int x2, .int x3, .int x4]) (rest := [.ref q_47, .int x_46, .ref b_45]) ⟨hx, hb, hml, hown, hts⟩ (c_X2_init l dC dI H.size cq S_48 hIS_48 q_47 tq_47 x2 x3 x4 (by omega)) (cwI 3 hts gX10_fine_X2_init rfl rfl rfl (hts (.initialized RX2) (by decide +kernel)) (hts (.methodLink RX10 267 yX2_init) (by decide +kernel)) (hts (.instanceMethod yX2_init) (by decide +kernel)) rfl (by decide +kernel) ⟨(Nat.le_of_ble_eq_true rfl), (Nat.le_of_ble_eq_true rfl)⟩) (pr_S hP hK hD) rfl rfl hl.1 rfl (lv_room (Nat.le_of_ble_eq_true rfl)) dX10_fine_106 ⟨(Nat.le_of_ble_eq_true rfl), (Nat.le_of_ble_eq_true rfl)⟩) hS (fun q _ h => hFc q h) hFc (fun u t H locs ht hvm w_54 hB hz1 hk1 hS => ?_)
                obtain ⟨S_56, rfl⟩ : ∃ z, z = u := ⟨_, rfl⟩
                obtain ⟨hP1, hK1, hD1⟩ := hB
                rw [ht] at hP1
                have hP : va_P (dC, dI) vwCl (oW cq S_56) H := hP1
                have hD : va_D A (oW cq S_56) := hD1.weaken (fun _ _ _ h => hFc _ h)
                clear hP1 hK1 hD1 hk1 hz1 hvm ht hFc
                obtain ⟨hIS_56, XS_56, hx_57⟩ := w_54
                obtain ⟨hxS_56, FS_56⟩ := hx_57
                have X_58 : oX Z S_56 := oX.c X_53 XS_56 (oX.nin oX.rf hnq_47)
                have sr_59 : oP S_56 b_5 12 = some b_45 := by rw [(FS_56 b_5 (oX.ty XS_48 tb_5).1 (ty_ne (oX.ty XS_48 tb_5) tq_47 (by decide))).2]; exact sr_49
                have g_60 : (oI S_56 b_5 6).toInt = (oI S_48 b_5 6).toInt := by rw [(FS_56 b_5 (oX.ty XS_48 tb_5).1 (ty_ne (oX.ty XS_48 tb_5) tq_47 (by decide))).1 (by rw [(oX.ty XS_48 tb_5).2]; decide)]
                have g_61 : (oI S_56 b_5 13).toInt = (oI S_48 b_5 13).toInt := by rw [(FS_56 b_5 (oX.ty XS_48 tb_5).1 (ty_ne (oX.ty XS_48 tb_5) tq_47 (by decide))).1 (by rw [(oX.ty XS_48 tb_5).2]; decide)]
                have g_62 : (oI S_56 o 0).toInt = (oI S_48 o 0).toInt := by rw [(FS_56 o (oX.ty XS_48 to).1 (ty_ne (oX.ty XS_48 to) tq_47 (by decide))).1 (by rw [(oX.ty XS_48 to).2]; decide)]
                have t_63 : oty S_56 b_45 17 := (oXc.ty XS_56 (ty_ne (oX.ty XS_48 tb_45) tq_47 (by decide)) (oX.ty XS_48 tb_45))
                obtain ⟨q_64, hq_64⟩ := og (cq := cq) t_63.1 (oE_17 t_63.2)
                obtain ⟨q_65, hq_65⟩ := og (cq := cq) hxS_56.1 (oE_2 hxS_56.2)
                refine va_astq (r := (RX2, TX2, 3)) hx hb hK hP hD hS q_64 6 q_65 2 hq_64 rfl hq_65 rfl (vp_in_iff.mpr (by omega)) dX10_fine_109 (fun H locs hP1 hD1 hS => ?_)
                obtain ⟨S_66, eS_66⟩ : ∃ zq, zq = setP S_56 b_45 (x_46 : Int32).toNatClampNeg (some q_47) := ⟨_, rfl⟩
                have hP : va_P (dC, dI) vwCl (oW cq S_66) H := by rw [eS_66]; exact cP (oset t_63.1 hq_64 hD rfl (he_17 t_63.2) neP) hP1
                have hD : va_D A (oW cq S_66) := by rw [eS_66]; exact cD (oset t_63.1 hq_64 hD rfl (he_17 t_63.2) neP) hD1
                clear hP1 hD1
                have hIS_66 : oInv S_66 := by rw [eS_66]; exact oInv.P (k := 17) hIS_56 t_63.2 (by decide) rfl (fun h => absurd h.1 (by decide)) hxS_56 (show 2 ≤ 2 ∧ 2 ≤ 2 from ⟨Nat.le_refl _, Nat.le_refl _⟩)
                have XS_66 : oX S_56 S_66 := by rw [eS_66]; exact oX.P
                have X_67 : oX Z S_66 := oX.tr X_58 XS_66
                have g_68 : (oI S_66 b_5 6).toInt = (oI S_56 b_5 6).toInt := by rw [eS_66]; rfl
                have g_69 : (oI S_66 b_5 13).toInt = (oI S_56 b_5 13).toInt := by rw [eS_66]; rfl
                have g_70 : (oI S_66 o 0).toInt = (oI S_56 o 0).toInt := by rw [eS_66]; rfl
                have helS_66 : oP S_66 b_45 (x_46 : Int32).toNatClampNeg = some q_47 := by rw [eS_66, setP_same]
                have hsrS_66 : oP S_66 b_5 12 = some b_45 := by rw [eS_66, setP_oth (ty_ne (oXc.ty XS_56 (ty_ne (oX.ty XS_48 tb_5) tq_47 (by decide)) (oX.ty XS_48 tb_5)) t_63 (by decide))]; exact sr_59
                refine lv_aload hx hb dX10_fine_110 (lv_at hl 0 rfl) ?_
                refine lv_dup hx hb dX10_fine_112 rfl ?_
                have t_71 : oty S_66 b_5 1 := (oX.ty XS_66 (oXc.ty XS_56 (ty_ne (oX.ty XS_48 tb_5) tq_47 (by decide)) (oX.ty XS_48 tb_5)))
                obtain ⟨q_72, hq_72⟩ := og (cq := cq) t_71.1 (oE_1 t_71.2)
                refine va_get (D := (dC, dI)) (ci := 1) (v := .int (oI S_66 b_5 13)) (C := RX1) (T := TX1) (N := 18) hx hb hts in_wsX10_fine_X1 hown hK hP q_72 hq_72 rfl 13 (by decide) (hts (.fieldLink RX10 258 "ShipOffice$Agreement" "fineCount" "I") (by decide +kernel)) (fun _ h9 => h9) rfl dX10_fine_113 ?_
                refine lv_topi (fun x_73 ex_73 => ?_)
                have hx_73 : 0 ≤ x_73.toInt ∧ x_73.toInt ≤ 6 := iv_of ex_73 (oInv.iv hIS_66 t_71.2 rfl rfl)
                have gx_73 : x_73.toInt = (oI S_66 b_5 13).toInt := iv_to ex_73
                clear ex_73
                refine lv_iconst (v := 1) hx hb dX10_fine_116 (by decide) ?_
                refine lv_iadd hx hb dX10_fine_117 ?_
                refine lv_topi (fun x_74 ex_74 => ?_)
                have hx_74 : x_74.toInt = x_73.toInt + 1 := (iv_to ex_74).trans (ad_i rfl (by decide) (by omega) (by omega))
                clear ex_74
                refine va_put (D := (dC, dI)) (ci := 1) (v := .int x_74) (ty := .int) (C := RX1) (T := TX1) (N := 18) hx hb hts in_wsX10_fine_X1 tyX1 tyX1_ok nmX1 hown hK hP hD hS q_72 hq_72 rfl 13 (by decide) (hts (.fieldLink RX10 258 "ShipOffice$Agreement" "fineCount" "I") (by decide +kernel)) (fun _ h9 => h9) rfl (by decide +kernel) rfl rfl (Nat.le_of_ble_eq_true rfl) dX10_fine_118 (fun H locs hP1 hD1 hS => ?_)
                obtain ⟨S_75, eS_75⟩ : ∃ zq, zq = setI S_66 b_5 13 x_74 := ⟨_, rfl⟩
                have hP : va_P (dC, dI) vwCl (oW cq S_75) H := by rw [eS_75]; exact cP (oset t_71.1 hq_72 hD rfl (he_1_13 t_71.2) neI) hP1
                have hD : va_D A (oW cq S_75) := by rw [eS_75]; exact cD (oset t_71.1 hq_72 hD rfl (he_1_13 t_71.2) neI) hD1
                clear hP1 hD1
                have hIS_75 : oInv S_75 := by rw [eS_75]; exact oInv.I (k := 1) (lo := 0) (hi := 6) hIS_66 t_71.2 (by decide) rfl rfl (by omega) (inv_cnt hIS_66 t_71 rfl hsrS_66 (by omega) (by omega) ⟨_, by rw [← cnt_at (x := x_46) (S := S_66) (a := b_5) (i := 13) (by omega)]; exact helS_66⟩)
                have XS_75 : oX S_66 S_75 := by rw [eS_75]; exact oX.I (k := 1) t_71.2 (by decide)
                have X_76 : oX Z S_75 := oX.tr X_67 XS_75
                have g_77 : (oI S_75 b_5 6).toInt = (oI S_66 b_5 6).toInt := by rw [eS_75, setI_ne (by decide)]
                have g_78 : (oI S_75 b_5 13).toInt = x_74.toInt := by rw [eS_75, setI_same]
                have g_79 : (oI S_75 o 0).toInt = (oI S_66 o 0).toInt := by rw [eS_75, setI_oth (ty_ne (oX.ty XS_66 (oXc.ty XS_56 (ty_ne (oX.ty XS_48 to) tq_47 (by decide)) (oX.ty XS_48 to))) t_71 (by decide))]
                refine lv_aload hx hb dX10_fine_121 (lv_at hl 0 rfl) ?_
                have t_80 : oty S_75 b_5 1 := (oX.ty XS_75 t_71)
                obtain ⟨q_81, hq_81⟩ := og (cq := cq) t_80.1 (oE_1 t_80.2)
                refine va_get (D := (dC, dI)) (ci := 1) (v := .int (oI S_75 b_5 13)) (C := RX1) (T := TX1) (N := 18) hx hb hts in_wsX10_fine_X1 hown hK hP q_81 hq_81 rfl 13 (by decide) (hts (.fieldLink RX10 258 "ShipOffice$Agreement" "fineCount" "I") (by decide +kernel)) (fun _ h9 => h9) rfl dX10_fine_123 ?_
                refine lv_topi (fun x_82 ex_82 => ?_)
                have hx_82 : 0 ≤ x_82.toInt ∧ x_82.toInt ≤ 6 := iv_of ex_82 (oInv.iv hIS_75 t_80.2 rfl rfl)
                have gx_82 : x_82.toInt = (oI S_75 b_5 13).toInt := iv_to ex_82
                clear ex_82
                exact W.iret (v := x_82) hx hb hr (fun t ht hW => ⟨⟨x_82, S_75, rfl, ⟨hIS_75, X_76⟩, ⟨by rw [ht]; exact hP, va_K.moved hW.alike hK, hD⟩⟩, hS.F ht⟩) hS.2.2 dX10_fine_126
              · have dc_44 := c_nlt (a := x_43.toInt) (b := 6) rfl (by decide) c_44
                refine lv_aload_n hx hb dX10_fine_81 rfl (lv_at hl 1 rfl) ?_
                refine lv_bipush (v := (-6)) hx hb dX10_fine_82 (by decide) ?_
                have hFc := o_free hD hS hA
                refine va_calli (va_runV (As := [.int (-6)]) (rest := []) ⟨hx, hb, hml, hown, hts⟩ (c_X10_refuse l dC dI H.size cq Z gI o to (-6) (by decide)) (cwV 1 hts gX10_fine_X10_refuse rfl rfl rfl (by decide +kernel) ⟨(Nat.le_of_ble_eq_true rfl), (Nat.le_of_ble_eq_true rfl)⟩) (pr_V (r := (RX10, TX10, 16)) hP hK hD q_1 10 rfl hq_1) rfl rfl hl.1 rfl (lv_room (Nat.le_of_ble_eq_true rfl)) dX10_fine_84 ⟨(Nat.le_of_ble_eq_true rfl), (Nat.le_of_ble_eq_true rfl)⟩) hS (fun q _ h => hFc q h) hFc (fun r_84 u t H locs ht hvm w_83 hB hz1 hk1 hS => ?_)
                obtain ⟨S_85, rfl⟩ : ∃ z, z = u := ⟨_, rfl⟩
                obtain ⟨hP1, hK1, hD1⟩ := hB
                rw [ht] at hP1
                have hP : va_P (dC, dI) vwCl (oW cq S_85) H := hP1
                have hD : va_D A (oW cq S_85) := hD1.weaken (fun _ _ _ h => hFc _ h)
                clear hP1 hK1 hD1 hk1 hz1 hvm ht hFc
                obtain ⟨hIS_85, XS_85, hb_86, hx_87⟩ := w_83
                have X_88 : oX Z S_85 := XS_85
                have rf_89 : r_84.toInt = -6 := by rw [hx_87]; decide
                refine W.widen (k := 1) (n := 3) (Nat.le_of_ble_eq_true rfl) (Nat.le_of_ble_eq_true rfl) ?_
                exact W.iret (v := r_84) hx hb hr (fun t ht hW => ⟨⟨r_84, S_85, rfl, ⟨hIS_85, X_88⟩, ⟨by rw [ht]; exact hP, va_K.moved hW.alike hK, hD⟩⟩, hS.F ht⟩) hS.2.2 dX10_fine_87
        · have dc_25 := c_nle (a := 1) (b := x3.toInt) (by decide) rfl c_25
          refine lv_aload_n hx hb dX10_fine_49 rfl (lv_at hl 1 rfl) ?_
          refine lv_bipush (v := (-4)) hx hb dX10_fine_50 (by decide) ?_
          have hFc := o_free hD hS hA
          refine va_calli (va_runV (As := [.int (-4)]) (rest := []) ⟨hx, hb, hml, hown, hts⟩ (c_X10_refuse l dC dI H.size cq Z gI o to (-4) (by decide)) (cwV 1 hts gX10_fine_X10_refuse rfl rfl rfl (by decide +kernel) ⟨(Nat.le_of_ble_eq_true rfl), (Nat.le_of_ble_eq_true rfl)⟩) (pr_V (r := (RX10, TX10, 16)) hP hK hD q_1 10 rfl hq_1) rfl rfl hl.1 rfl (lv_room (Nat.le_of_ble_eq_true rfl)) dX10_fine_52 ⟨(Nat.le_of_ble_eq_true rfl), (Nat.le_of_ble_eq_true rfl)⟩) hS (fun q _ h => hFc q h) hFc (fun r_91 u t H locs ht hvm w_90 hB hz1 hk1 hS => ?_)
          obtain ⟨S_92, rfl⟩ : ∃ z, z = u := ⟨_, rfl⟩
          obtain ⟨hP1, hK1, hD1⟩ := hB
          rw [ht] at hP1
          have hP : va_P (dC, dI) vwCl (oW cq S_92) H := hP1
          have hD : va_D A (oW cq S_92) := hD1.weaken (fun _ _ _ h => hFc _ h)
          clear hP1 hK1 hD1 hk1 hz1 hvm ht hFc
          obtain ⟨hIS_92, XS_92, hb_93, hx_94⟩ := w_90
          have X_95 : oX Z S_92 := XS_92
          have rf_96 : r_91.toInt = -4 := by rw [hx_94]; decide
          refine W.widen (k := 1) (n := 3) (Nat.le_of_ble_eq_true rfl) (Nat.le_of_ble_eq_true rfl) ?_
          exact W.iret (v := r_91) hx hb hr (fun t ht hW => ⟨⟨r_91, S_92, rfl, ⟨hIS_92, X_95⟩, ⟨by rw [ht]; exact hP, va_K.moved hW.alike hK, hD⟩⟩, hS.F ht⟩) hS.2.2 dX10_fine_55
    · have dc_15 := c_ne (a := x_14.toInt) (b := 1000000) rfl (by decide) c_15
      refine lv_aload_n hx hb dX10_fine_28 rfl (lv_at hl 1 rfl) ?_
      refine lv_bipush (v := (-3)) hx hb dX10_fine_29 (by decide) ?_
      have hFc := o_free hD hS hA
      refine va_calli (va_runV (As := [.int (-3)]) (rest := []) ⟨hx, hb, hml, hown, hts⟩ (c_X10_refuse l dC dI H.size cq Z gI o to (-3) (by decide)) (cwV 1 hts gX10_fine_X10_refuse rfl rfl rfl (by decide +kernel) ⟨(Nat.le_of_ble_eq_true rfl), (Nat.le_of_ble_eq_true rfl)⟩) (pr_V (r := (RX10, TX10, 16)) hP hK hD q_1 10 rfl hq_1) rfl rfl hl.1 rfl (lv_room (Nat.le_of_ble_eq_true rfl)) dX10_fine_31 ⟨(Nat.le_of_ble_eq_true rfl), (Nat.le_of_ble_eq_true rfl)⟩) hS (fun q _ h => hFc q h) hFc (fun r_98 u t H locs ht hvm w_97 hB hz1 hk1 hS => ?_)
      obtain ⟨S_99, rfl⟩ : ∃ z, z = u := ⟨_, rfl⟩
      obtain ⟨hP1, hK1, hD1⟩ := hB
      rw [ht] at hP1
      have hP : va_P (dC, dI) vwCl (oW cq S_99) H := hP1
      have hD : va_D A (oW cq S_99) := hD1.weaken (fun _ _ _ h => hFc _ h)
      clear hP1 hK1 hD1 hk1 hz1 hvm ht hFc
      obtain ⟨hIS_99, XS_99, hb_100, hx_101⟩ := w_97
      have X_102 : oX Z S_99 := XS_99
      have rf_103 : r_98.toInt = -3 := by rw [hx_101]; decide
      refine W.widen (k := 1) (n := 3) (Nat.le_of_ble_eq_true rfl) (Nat.le_of_ble_eq_true rfl) ?_
      exact W.iret (v := r_98) hx hb hr (fun t ht hW => ⟨⟨r_98, S_99, rfl, ⟨hIS_99, X_102⟩, ⟨by rw [ht]; exact hP, va_K.moved hW.alike hK, hD⟩⟩, hS.F ht⟩) hS.2.2 dX10_fine_34
set_option maxHeartbeats 4000000 in
set_option maxRecDepth 100000 in
theorem c_J7_fill_53178_w (l : Launch) (dC : Nat → ClassId) (dI : Nat → Nat → Nat) (sz : Nat) (cq : Nat → ClassId) (Z : oS) (gI : oInv Z) (n1 : Nat) (hn1 : n1 ≤ 200) (a1 : Nat) (ta1 : oty Z a1 (100 + n1)) (x2 : Int32) : Met l yJ7_fill_53178 wsJ7_fill_53178 ({ frames := 0, cells := 0, slots := 0, locals := 0 }) (va_Pc [.ref a1, .int x2] (pcW (dC, dI) (oT cq) (oW cq Z) sz)) (va_Qv (fun (u : oS) => oInv u ∧ oX Z u ∧ (oWk Z u)) (fun u t => va_P (dC, dI) vwCl (oW cq u) t.heap ∧ va_K (dC, dI) vwCl (oT cq) t ∧ va_D (va_A (oW cq Z) sz) (oW cq u)) (va_A (oW cq Z) sz)) 0 0 (va_A (oW cq Z) sz) := by
  refine Met.ofW (cc := cJ7_fill_53178) (maxL := 4) (ret := none) (by decide) rfl ?_
  intro p e s m args below meth c s₁ B hml hv
  obtain ⟨rfl, hsz, hP, hK, hD0⟩ := hv
  have hx := B.exec
  have hb := B.bytes
  have hr := B.returns
  have hts := atoms_spec (ws := wsJ7_fill_53178) B.pre
  have hown : s.vm.findClass RJ7 = some m.cls := findClass_of_methodNamed B.named
  have hlocks := B.notSynchronized
  subst hsz
  have hD := hD0.self (sz := s.heap.size)
  generalize hAe : va_A (oW cq Z) s.heap.size = A at hD ⊢
  have hA : ∀ q : Nat, s.heap.size ≤ q → A q := fun q h => by rw [← hAe]; exact Or.inr h
  have hS : va_S A s.heap s.heap [] := va_S.rf
  have hP : va_P (dC, dI) vwCl (oW cq Z) s.heap := hP
  have hl := lv_entry ([.ref a1, .int x2]) (n := 4) (Nat.le_of_ble_eq_true rfl)
  rw [lg_entry_eq]
  generalize (lg_sl ([.ref a1, .int x2]) ++ List.replicate (4 - (lg_sl ([.ref a1, .int x2])).length) Slot.unset).toArray = ls at hl ⊢
  have hl : lv_has ls 4 [(0, .ref a1), (1, .int x2)] := hl
  refine lv_iconst (v := 0) hx hb dJ7_fill_53178_0 (by decide) ?_
  refine lv_istore_n (lv' := [(2, .int 0), (0, .ref a1), (1, .int x2)]) hx hb dJ7_fill_53178_1 rfl hl (by decide) rfl (fun ls hl => ?_)
  refine lv_aload_n hx hb dJ7_fill_53178_2 rfl (lv_at hl 1 rfl) ?_
  obtain ⟨q_1, hq_1⟩ := og (cq := cq) ta1.1 (oE_ar (n := n1) ta1.2)
  refine va_alen (v := nI n1) hx hb hK hP q_1 0 hq_1 rfl rfl dJ7_fill_53178_3 ?_
  refine lv_topi (fun x_2 ex_2 => ?_)
  have hx_2 : x_2.toInt = (n1 : Int) := (iv_to ex_2).trans (nI_toInt (by omega))
  clear ex_2
  refine lv_istore_n (lv' := [(3, .int x_2), (2, .int 0), (0, .ref a1), (1, .int x2)]) hx hb dJ7_fill_53178_4 rfl hl (by decide) rfl (fun ls hl => ?_)
  have cut_3 : ∀ (n : Nat) (y_4 : Int32) (S_5 : oS) (H : Heap) (locs : List Loc) (ls : Array Slot), 200 - y_4.toInt ≤ (n : Int) → (0 ≤ y_4.toInt ∧ y_4.toInt ≤ 200) → oInv S_5 → oX Z S_5 → va_P (dC, dI) vwCl (oW cq S_5) H → va_D A (oW cq S_5) → va_S A s.heap H locs → oWk Z S_5 → lv_has ls 4 [(2, .int y_4), (3, .int x_2), (0, .ref a1), (1, .int x2)] → W p l e (headSpec wsJ7_fill_53178 { frames := 0, cells := 0, slots := 0, locals := 0 }).room s m #[Value.ref a1, Value.int x2] below meth c H locs 0 0 (MQ below (va_Qv (fun (u : oS) => oInv u ∧ oX Z u ∧ (oWk Z u)) (fun u t => va_P (dC, dI) vwCl (oW cq u) t.heap ∧ va_K (dC, dI) vwCl (oT cq) t ∧ va_D A (oW cq u)) A) #[Value.ref a1, Value.int x2] s 0 0 A) (F0 m 5 ls []) := by
    intro n
    induction n using Nat.strongRecOn with
    | ind n ih =>
      intro y_4 S_5 H locs ls hm hy_4 hIS_5 XS_5 hP hD hS wkS_5 hl
      have YS_5 : oX Z S_5 := XS_5
      refine lv_iload_n hx hb dJ7_fill_53178_5 rfl (lv_at hl 0 rfl) ?_
      refine lv_iload_n hx hb dJ7_fill_53178_6 rfl (lv_at hl 1 rfl) ?_
      refine lv_icmp_ge (tgt := 20) hx hb dJ7_fill_53178_7 (by decide) (fun c_6 => ?_) (fun c_6 => ?_)
      · have dc_6 := c_le (a := x_2.toInt) (b := y_4.toInt) rfl rfl c_6
        exact W.vret hx hb hr (fun t ht hW => ⟨⟨S_5, rfl, ⟨hIS_5, YS_5, wkS_5⟩, ⟨by rw [ht]; exact hP, va_K.moved hW.alike hK, hD⟩⟩, hS.F ht⟩) hS.2.2 dJ7_fill_53178_20
      · have dc_6 := c_nle (a := x_2.toInt) (b := y_4.toInt) rfl rfl c_6
        refine lv_aload_n hx hb dJ7_fill_53178_10 rfl (lv_at hl 2 rfl) ?_
        refine lv_iload_n hx hb dJ7_fill_53178_11 rfl (lv_at hl 0 rfl) ?_
        refine lv_iload_n hx hb dJ7_fill_53178_12 rfl (lv_at hl 3 rfl) ?_
        have t_7 : oty S_5 a1 (100 + n1) := (oX.ty XS_5 ta1)
        obtain ⟨q_8, hq_8⟩ := og (cq := cq) t_7.1 (oE_ar (n := n1) t_7.2)
        refine va_iast hx hb hK hP hD hS q_8 0 hq_8 rfl (vp_in_iff.mpr (by omega)) dJ7_fill_53178_13 (fun H locs hP1 hD1 hS => ?_)
        obtain ⟨S_9, eS_9⟩ : ∃ zq, zq = setI S_5 a1 (y_4 : Int32).toNatClampNeg x2 := ⟨_, rfl⟩
        have hP : va_P (dC, dI) vwCl (oW cq S_9) H := by rw [eS_9]; exact cP (oset t_7.1 hq_8 hD rfl (he_ar (n := n1) t_7.2) neI) hP1
        have hD : va_D A (oW cq S_9) := by rw [eS_9]; exact cD (oset t_7.1 hq_8 hD rfl (he_ar (n := n1) t_7.2) neI) hD1
        clear hP1 hD1
        have hIS_9 : oInv S_9 := by rw [eS_9]; exact oInv.A (n := n1) hIS_5 t_7.2
        have XS_9 : oX S_5 S_9 := by rw [eS_9]; exact oX.I (k := (100 + n1)) t_7.2 (fun h => absurd h (by omega))
        have wkS_9 : oWk Z S_9 := by rw [eS_9]; exact oWk.A (n := n1) wkS_5 YS_5 ta1
        have X_10 : oX Z S_9 := oX.tr YS_5 XS_9
        obtain ⟨x_11, ex_11⟩ : ∃ zq : Int32, y_4 + 1 = zq := ⟨_, rfl⟩
        have hx_11 : x_11.toInt = y_4.toInt + 1 := (iv_to ex_11).symm.trans (ad_i rfl (by decide) (by omega) (by omega))
        refine lv_iinc (v := x_11) (lv' := [(2, .int x_11), (3, .int x_2), (0, .ref a1), (1, .int x2)]) hx hb dJ7_fill_53178_14 hl (k := 0) rfl ex_11 (by decide) rfl (fun ls hl => ?_)
        clear ex_11
        refine lv_goto (tgt := 5) hx hb dJ7_fill_53178_17 (by decide) ?_
        exact ih (n - 1) (by omega) x_11 S_9 _ _ ls (by omega) (by omega) hIS_9 (oX.tr XS_5 XS_9) hP hD hS wkS_9 (lv_sub hl [0, 1, 2, 3] rfl)
  have kc_12 : (0 : Int32).toInt = 0 := by decide
  exact cut_3 201 0 Z _ _ ls (by omega) (by decide) gI oX.rf hP hD hS oWk.rf (lv_sub hl [1, 0, 2, 3] rfl)
set_option maxHeartbeats 4000000 in
set_option maxRecDepth 100000 in
theorem c_X10_signWorth_w (l : Launch) (dC : Nat → ClassId) (dI : Nat → Nat → Nat) (sz : Nat) (cq : Nat → ClassId) (Z : oS) (gI : oInv Z) (o : Nat) (to : oty Z o 10) (a1 : Nat) (ta1 : oty Z a1 6) (x2 : Int32) (x3 : Int32) : Met l yX10_signWorth wsX10_signWorth ({ frames := 3, cells := 0, slots := 0, locals := 72 }) (va_Pc [.ref o, .ref a1, .int x2, .int x3] (pcW (dC, dI) (oT cq) (oW cq Z) sz)) (va_Qi (fun (r : Int32) (u : oS) => oInv u ∧ oX Z u ∧ ((oI u o 6).toInt = (oI Z o 6).toInt)) (fun u t => va_P (dC, dI) vwCl (oW cq u) t.heap ∧ va_K (dC, dI) vwCl (oT cq) t ∧ va_D (va_A (oW cq Z) sz) (oW cq u)) (va_A (oW cq Z) sz)) 0 0 (va_A (oW cq Z) sz) := by
  refine Met.ofW (cc := cX10_signWorth) (maxL := 4) (ret := (some .int)) (by decide) rfl ?_
  intro p e s m args below meth c s₁ B hml hv
  obtain ⟨rfl, hsz, hP, hK, hD0⟩ := hv
  have hx := B.exec
  have hb := B.bytes
  have hr := B.returns
  have hts := atoms_spec (ws := wsX10_signWorth) B.pre
  have hown : s.vm.findClass RX10 = some m.cls := findClass_of_methodNamed B.named
  have hlocks := B.notSynchronized
  subst hsz
  have hD := hD0.self (sz := s.heap.size)
  generalize hAe : va_A (oW cq Z) s.heap.size = A at hD ⊢
  have hA : ∀ q : Nat, s.heap.size ≤ q → A q := fun q h => by rw [← hAe]; exact Or.inr h
  have hS : va_S A s.heap s.heap [] := va_S.rf
  have hP : va_P (dC, dI) vwCl (oW cq Z) s.heap := hP
  have hl := lv_entry ([.ref o, .ref a1, .int x2, .int x3]) (n := 4) (Nat.le_of_ble_eq_true rfl)
  rw [lg_entry_eq]
  generalize (lg_sl ([.ref o, .ref a1, .int x2, .int x3]) ++ List.replicate (4 - (lg_sl ([.ref o, .ref a1, .int x2, .int x3])).length) Slot.unset).toArray = ls at hl ⊢
  have hl : lv_has ls 4 [(0, .ref o), (1, .ref a1), (2, .int x2), (3, .int x3)] := hl
  refine lv_aload_n hx hb dX10_signWorth_0 rfl (lv_at hl 0 rfl) ?_
  obtain ⟨q_1, hq_1⟩ := og (cq := cq) to.1 (oE_10 to.2)
  obtain ⟨b_2, hb_2⟩ := oInv.nn (i := 12) gI to rfl
  refine va_get (D := (dC, dI)) (ci := 10) (v := .ref b_2) (C := RX10) (T := TX10) (N := 16) hx hb hts in_wsX10_signWorth_X10 hown hK hP q_1 hq_1 rfl 12 (by decide) (hts (.fieldLink RX10 59 "ShipOffice" "letters" "[I") (by decide +kernel)) (fun _ h9 => h9) (o_rd hb_2) dX10_signWorth_1 ?_
  have tb_2 : oty Z b_2 108 := oInv.rd gI to.2 hb_2 rfl rfl
  refine lv_iconst (v := 0) hx hb dX10_signWorth_4 (by decide) ?_
  have hFc := o_free hD hS hA
  refine va_callv (va_runS (As := [.ref b_2, .int 0]) (rest := []) ⟨hx, hb, hml, hown, hts⟩ (c_J7_fill_53178_w l dC dI s.heap.size cq Z gI 8 (by decide) b_2 tb_2 0) (va_cwS 2 hts gX10_signWorth_J7_fill_53178 rfl rfl rfl (by decide +kernel) ⟨(Nat.le_of_ble_eq_true rfl), (Nat.le_of_ble_eq_true rfl)⟩) (pr_S hP hK hD) rfl rfl hl.1 rfl (lv_room (Nat.le_of_ble_eq_true rfl)) dX10_signWorth_5 ⟨(Nat.le_of_ble_eq_true rfl), (Nat.le_of_ble_eq_true rfl)⟩) hS (fun q _ h => hFc q h) hFc (fun u t H locs ht hvm w_3 hB hz1 hk1 hS => ?_)
  obtain ⟨S_5, rfl⟩ : ∃ z, z = u := ⟨_, rfl⟩
  obtain ⟨hP1, hK1, hD1⟩ := hB
  rw [ht] at hP1
  have hP : va_P (dC, dI) vwCl (oW cq S_5) H := hP1
  have hD : va_D A (oW cq S_5) := hD1.weaken (fun _ _ _ h => hFc _ h)
  clear hP1 hK1 hD1 hk1 hz1 hvm ht hFc
  obtain ⟨hIS_5, XS_5, hx_6⟩ := w_3
  have X_7 : oX Z S_5 := XS_5
  have g_8 : (oI S_5 o 6).toInt = (oI Z o 6).toInt := by rw [hx_6.2 o (by rw [to.2]; decide)]
  refine lv_aload_n hx hb dX10_signWorth_8 rfl (lv_at hl 0 rfl) ?_
  have t_9 : oty S_5 o 10 := (oX.ty XS_5 to)
  obtain ⟨q_10, hq_10⟩ := og (cq := cq) t_9.1 (oE_10 t_9.2)
  obtain ⟨b_11, hb_11⟩ := oInv.nn (i := 12) hIS_5 t_9 rfl
  refine va_get (D := (dC, dI)) (ci := 10) (v := .ref b_11) (C := RX10) (T := TX10) (N := 16) hx hb hts in_wsX10_signWorth_X10 hown hK hP q_10 hq_10 rfl 12 (by decide) (hts (.fieldLink RX10 59 "ShipOffice" "letters" "[I") (by decide +kernel)) (fun _ h9 => h9) (o_rd hb_11) dX10_signWorth_9 ?_
  have tb_11 : oty S_5 b_11 108 := oInv.rd hIS_5 t_9.2 hb_11 rfl rfl
  refine lv_iconst (v := 0) hx hb dX10_signWorth_12 (by decide) ?_
  refine lv_iload_n hx hb dX10_signWorth_13 rfl (lv_at hl 2 rfl) ?_
  obtain ⟨q_12, hq_12⟩ := og (cq := cq) tb_11.1 (oE_ar (n := 8) tb_11.2)
  refine va_iast hx hb hK hP hD hS q_12 0 hq_12 rfl (by unfold vp_in; decide) dX10_signWorth_14 (fun H locs hP1 hD1 hS => ?_)
  obtain ⟨S_13, eS_13⟩ : ∃ zq, zq = setI S_5 b_11 (0 : Int32).toNatClampNeg x2 := ⟨_, rfl⟩
  have hP : va_P (dC, dI) vwCl (oW cq S_13) H := by rw [eS_13]; exact cP (oset tb_11.1 hq_12 hD rfl (he_ar (n := 8) tb_11.2) neI) hP1
  have hD : va_D A (oW cq S_13) := by rw [eS_13]; exact cD (oset tb_11.1 hq_12 hD rfl (he_ar (n := 8) tb_11.2) neI) hD1
  clear hP1 hD1
  have hIS_13 : oInv S_13 := by rw [eS_13]; exact oInv.A (n := 8) hIS_5 tb_11.2
  have XS_13 : oX S_5 S_13 := by rw [eS_13]; exact oX.I (k := 108) tb_11.2 (fun h => absurd h (by decide))
  have X_14 : oX Z S_13 := oX.tr X_7 XS_13
  have g_15 : (oI S_13 o 6).toInt = (oI S_5 o 6).toInt := by rw [eS_13, setI_oth (ty_ne t_9 tb_11 (by decide))]
  refine lv_aload_n hx hb dX10_signWorth_15 rfl (lv_at hl 0 rfl) ?_
  have t_16 : oty S_13 o 10 := (oX.ty XS_13 t_9)
  obtain ⟨q_17, hq_17⟩ := og (cq := cq) t_16.1 (oE_10 t_16.2)
  obtain ⟨b_18, hb_18⟩ := oInv.nn (i := 12) hIS_13 t_16 rfl
  refine va_get (D := (dC, dI)) (ci := 10) (v := .ref b_18) (C := RX10) (T := TX10) (N := 16) hx hb hts in_wsX10_signWorth_X10 hown hK hP q_17 hq_17 rfl 12 (by decide) (hts (.fieldLink RX10 59 "ShipOffice" "letters" "[I") (by decide +kernel)) (fun _ h9 => h9) (o_rd hb_18) dX10_signWorth_16 ?_
  have tb_18 : oty S_13 b_18 108 := oInv.rd hIS_13 t_16.2 hb_18 rfl rfl
  refine lv_iconst (v := 1) hx hb dX10_signWorth_19 (by decide) ?_
  refine lv_iload_n hx hb dX10_signWorth_20 rfl (lv_at hl 3 rfl) ?_
  obtain ⟨q_19, hq_19⟩ := og (cq := cq) tb_18.1 (oE_ar (n := 8) tb_18.2)
  refine va_iast hx hb hK hP hD hS q_19 0 hq_19 rfl (by unfold vp_in; decide) dX10_signWorth_21 (fun H locs hP1 hD1 hS => ?_)
  obtain ⟨S_20, eS_20⟩ : ∃ zq, zq = setI S_13 b_18 (1 : Int32).toNatClampNeg x3 := ⟨_, rfl⟩
  have hP : va_P (dC, dI) vwCl (oW cq S_20) H := by rw [eS_20]; exact cP (oset tb_18.1 hq_19 hD rfl (he_ar (n := 8) tb_18.2) neI) hP1
  have hD : va_D A (oW cq S_20) := by rw [eS_20]; exact cD (oset tb_18.1 hq_19 hD rfl (he_ar (n := 8) tb_18.2) neI) hD1
  clear hP1 hD1
  have hIS_20 : oInv S_20 := by rw [eS_20]; exact oInv.A (n := 8) hIS_13 tb_18.2
  have XS_20 : oX S_13 S_20 := by rw [eS_20]; exact oX.I (k := 108) tb_18.2 (fun h => absurd h (by decide))
  have X_21 : oX Z S_20 := oX.tr X_14 XS_20
  have g_22 : (oI S_20 o 6).toInt = (oI S_13 o 6).toInt := by rw [eS_20, setI_oth (ty_ne t_16 tb_18 (by decide))]
  refine lv_aload_n hx hb dX10_signWorth_22 rfl (lv_at hl 0 rfl) ?_
  have t_23 : oty S_20 o 10 := (oX.ty XS_20 t_16)
  obtain ⟨q_24, hq_24⟩ := og (cq := cq) t_23.1 (oE_10 t_23.2)
  obtain ⟨b_25, hb_25⟩ := oInv.nn (i := 12) hIS_20 t_23 rfl
  refine va_get (D := (dC, dI)) (ci := 10) (v := .ref b_25) (C := RX10) (T := TX10) (N := 16) hx hb hts in_wsX10_signWorth_X10 hown hK hP q_24 hq_24 rfl 12 (by decide) (hts (.fieldLink RX10 59 "ShipOffice" "letters" "[I") (by decide +kernel)) (fun _ h9 => h9) (o_rd hb_25) dX10_signWorth_23 ?_
  have tb_25 : oty S_20 b_25 108 := oInv.rd hIS_20 t_23.2 hb_25 rfl rfl
  refine lv_iconst (v := 2) hx hb dX10_signWorth_26 (by decide) ?_
  refine lv_aload_n hx hb dX10_signWorth_27 rfl (lv_at hl 1 rfl) ?_
  refine lv_aload_n hx hb dX10_signWorth_28 rfl (lv_at hl 0 rfl) ?_
  refine va_get (D := (dC, dI)) (ci := 10) (v := .int (oI S_20 o 0)) (C := RX10) (T := TX10) (N := 16) hx hb hts in_wsX10_signWorth_X10 hown hK hP q_24 hq_24 rfl 0 (by decide) (hts (.fieldLink RX10 73 "ShipOffice" "now" "I") (by decide +kernel)) (fun _ h9 => h9) rfl dX10_signWorth_29 ?_
  refine lv_topi (fun x_26 ex_26 => ?_)
  have hx_26 : 0 ≤ x_26.toInt ∧ x_26.toInt ≤ 3000 := iv_of ex_26 (oInv.iv hIS_20 t_23.2 rfl rfl)
  have gx_26 : x_26.toInt = (oI S_20 o 0).toInt := iv_to ex_26
  clear ex_26
  have t_27 : oty S_20 a1 6 := (oX.ty XS_20 (oX.ty XS_13 (oX.ty XS_5 ta1)))
  have hFc : ∀ q, va_A [] H.size q → A q := pu_free hS hA
  obtain ⟨q_28, hq_28⟩ := og (cq := cq) t_27.1 (oE_6 t_27.2)
  refine va_calli (va_runV (As := [.int x_26]) (rest := [.int 2, .ref b_25]) ⟨hx, hb, hml, hown, hts⟩ (c_X6_yearsOn l dC dI H.size cq S_20 hIS_20 a1 t_27 x_26) (cwV 1 hts gX10_signWorth_X6_yearsOn rfl rfl rfl (by decide +kernel) ⟨(Nat.le_of_ble_eq_true rfl), (Nat.le_of_ble_eq_true rfl)⟩) (pr_V (r := (RX6, TX6, 6)) hP hK hD q_28 6 rfl hq_28) rfl rfl hl.1 rfl (lv_room (Nat.le_of_ble_eq_true rfl)) dX10_signWorth_32 ⟨(Nat.le_of_ble_eq_true rfl), (Nat.le_of_ble_eq_true rfl)⟩) hS (fun q _ h => hFc q h) hFc (fun r_30 u t H locs ht hvm w_29 hB hz1 hk1 hS => ?_)
  have hP := pu_keep hP hk1
  clear hk1 hz1 hvm hB ht hFc
  obtain ⟨q_31, hq_31⟩ := og (cq := cq) tb_25.1 (oE_ar (n := 8) tb_25.2)
  refine va_iast hx hb hK hP hD hS q_31 0 hq_31 rfl (by unfold vp_in; decide) dX10_signWorth_35 (fun H locs hP1 hD1 hS => ?_)
  obtain ⟨S_32, eS_32⟩ : ∃ zq, zq = setI S_20 b_25 (2 : Int32).toNatClampNeg r_30 := ⟨_, rfl⟩
  have hP : va_P (dC, dI) vwCl (oW cq S_32) H := by rw [eS_32]; exact cP (oset tb_25.1 hq_31 hD rfl (he_ar (n := 8) tb_25.2) neI) hP1
  have hD : va_D A (oW cq S_32) := by rw [eS_32]; exact cD (oset tb_25.1 hq_31 hD rfl (he_ar (n := 8) tb_25.2) neI) hD1
  clear hP1 hD1
  have hIS_32 : oInv S_32 := by rw [eS_32]; exact oInv.A (n := 8) hIS_20 tb_25.2
  have XS_32 : oX S_20 S_32 := by rw [eS_32]; exact oX.I (k := 108) tb_25.2 (fun h => absurd h (by decide))
  have X_33 : oX Z S_32 := oX.tr X_21 XS_32
  have g_34 : (oI S_32 o 0).toInt = (oI S_20 o 0).toInt := by rw [eS_32, setI_oth (ty_ne t_23 tb_25 (by decide))]
  have g_35 : (oI S_32 o 6).toInt = (oI S_20 o 6).toInt := by rw [eS_32, setI_oth (ty_ne t_23 tb_25 (by decide))]
  refine lv_aload_n hx hb dX10_signWorth_36 rfl (lv_at hl 0 rfl) ?_
  have t_36 : oty S_32 o 10 := (oX.ty XS_32 t_23)
  obtain ⟨q_37, hq_37⟩ := og (cq := cq) t_36.1 (oE_10 t_36.2)
  obtain ⟨b_38, hb_38⟩ := oInv.nn (i := 8) hIS_32 t_36 rfl
  refine va_get (D := (dC, dI)) (ci := 10) (v := .ref b_38) (C := RX10) (T := TX10) (N := 16) hx hb hts in_wsX10_signWorth_X10 hown hK hP q_37 hq_37 rfl 8 (by decide) (hts (.fieldLink RX10 30 "ShipOffice" "law" "LShipOffice$Law;") (by decide +kernel)) (fun _ h9 => h9) (o_rd hb_38) dX10_signWorth_37 ?_
  have tb_38 : oty S_32 b_38 5 := oInv.rd hIS_32 t_36.2 hb_38 rfl rfl
  refine lv_iconst (v := 0) hx hb dX10_signWorth_40 (by decide) ?_
  refine lv_aload_n hx hb dX10_signWorth_41 rfl (lv_at hl 0 rfl) ?_
  refine va_get (D := (dC, dI)) (ci := 10) (v := .int (oI S_32 o 0)) (C := RX10) (T := TX10) (N := 16) hx hb hts in_wsX10_signWorth_X10 hown hK hP q_37 hq_37 rfl 0 (by decide) (hts (.fieldLink RX10 73 "ShipOffice" "now" "I") (by decide +kernel)) (fun _ h9 => h9) rfl dX10_signWorth_42 ?_
  refine lv_topi (fun x_39 ex_39 => ?_)
  have hx_39 : 0 ≤ x_39.toInt ∧ x_39.toInt ≤ 3000 := iv_of ex_39 (oInv.iv hIS_32 t_36.2 rfl rfl)
  have gx_39 : x_39.toInt = (oI S_32 o 0).toInt := iv_to ex_39
  clear ex_39
  have hFc : ∀ q, va_A [] H.size q → A q := pu_free hS hA
  obtain ⟨q_40, hq_40⟩ := og (cq := cq) tb_38.1 (oE_5 tb_38.2)
  refine va_callq (va_runV (As := [.int 0, .int x_39]) (rest := []) ⟨hx, hb, hml, hown, hts⟩ (c_X5_inForce l dC dI H.size cq S_32 hIS_32 b_38 tb_38 0 (by decide) x_39) (cwV 2 hts gX10_signWorth_X5_inForce rfl rfl rfl (by decide +kernel) ⟨(Nat.le_of_ble_eq_true rfl), (Nat.le_of_ble_eq_true rfl)⟩) (pr_V (r := (RX5, TX5, 3)) hP hK hD q_40 5 rfl hq_40) rfl rfl hl.1 rfl (lv_room (Nat.le_of_ble_eq_true rfl)) dX10_signWorth_45 ⟨(Nat.le_of_ble_eq_true rfl), (Nat.le_of_ble_eq_true rfl)⟩) hS (fun q _ h => hFc q h) hFc (fun r_42 u t H locs ht hvm w_41 hB hz1 hk1 hS => ?_)
  have hP := pu_keep hP hk1
  clear hk1 hz1 hvm hB ht hFc
  have hk_43 := w_41
  obtain ⟨b_44, rfl, tb_44⟩ := hk_43
  refine W.eq (g2 := F0 m 48 ls [.ref b_44]) rfl ?_
  refine lv_aload_n hx hb dX10_signWorth_48 rfl (lv_at hl 0 rfl) ?_
  obtain ⟨b_45, hb_45⟩ := oInv.nn (i := 12) hIS_32 t_36 rfl
  refine va_get (D := (dC, dI)) (ci := 10) (v := .ref b_45) (C := RX10) (T := TX10) (N := 16) hx hb hts in_wsX10_signWorth_X10 hown hK hP q_37 hq_37 rfl 12 (by decide) (hts (.fieldLink RX10 59 "ShipOffice" "letters" "[I") (by decide +kernel)) (fun _ h9 => h9) (o_rd hb_45) dX10_signWorth_49 ?_
  have tb_45 : oty S_32 b_45 108 := oInv.rd hIS_32 t_36.2 hb_45 rfl rfl
  have hFc := o_free hD hS hA
  obtain ⟨q_46, hq_46⟩ := og (cq := cq) tb_44.1 (oE_0 tb_44.2)
  refine va_calli (va_runV (As := [.ref b_45]) (rest := []) ⟨hx, hb, hml, hown, hts⟩ (c_X0_worth l dC dI H.size cq S_32 hIS_32 b_44 tb_44 b_45 tb_45) (cwV 1 hts gX10_signWorth_X0_worth rfl rfl rfl (by decide +kernel) ⟨(Nat.le_of_ble_eq_true rfl), (Nat.le_of_ble_eq_true rfl)⟩) (pr_V (r := (RX0, TX0, 5)) hP hK hD q_46 0 rfl hq_46) rfl rfl hl.1 rfl (lv_room (Nat.le_of_ble_eq_true rfl)) dX10_signWorth_52 ⟨(Nat.le_of_ble_eq_true rfl), (Nat.le_of_ble_eq_true rfl)⟩) hS (fun q _ h => hFc q h) hFc (fun r_48 u t H locs ht hvm w_47 hB hz1 hk1 hS => ?_)
  obtain ⟨S_49, rfl⟩ : ∃ z, z = u := ⟨_, rfl⟩
  obtain ⟨hP1, hK1, hD1⟩ := hB
  rw [ht] at hP1
  have hP : va_P (dC, dI) vwCl (oW cq S_49) H := hP1
  have hD : va_D A (oW cq S_49) := hD1.weaken (fun _ _ _ h => hFc _ h)
  clear hP1 hK1 hD1 hk1 hz1 hvm ht hFc
  obtain ⟨hIS_49, XS_49, hx_50⟩ := w_47
  have X_51 : oX Z S_49 := oX.tr X_33 XS_49
  have g_52 : (oI S_49 o 6).toInt = (oI S_32 o 6).toInt := by rw [hx_50.2 o (by rw [t_36.2]; decide)]
  exact W.iret (v := r_48) hx hb hr (fun t ht hW => ⟨⟨r_48, S_49, rfl, ⟨hIS_49, X_51, (by omega)⟩, ⟨by rw [ht]; exact hP, va_K.moved hW.alike hK, hD⟩⟩, hS.F ht⟩) hS.2.2 dX10_signWorth_55
set_option maxHeartbeats 4000000 in
set_option maxRecDepth 100000 in
theorem c_X10_sign (l : Launch) (dC : Nat → ClassId) (dI : Nat → Nat → Nat) (sz : Nat) (tL tS tG : Nat) (cq : Nat → ClassId) (Z : oS) (gI : oInv Z) (o : Nat) (to : oty Z o 10) (x1 : Int32) (x2 : Int32) (x3 : Int32) (x4 : Int32) (x5 : Int32) : Met l yX10_sign wsX10_sign ({ frames := 4, cells := 4, slots := 64, locals := 95 }) (va_Pc [.ref o, .int x1, .int x2, .int x3, .int x4, .int x5] (pcO (dC, dI) (oT cq) (oW cq Z) sz tL tS tG (oW cq Z))) (va_Qi (fun (r : Int32) (u : oS) => oInv u ∧ oX Z u) (fun u t => va_P (dC, dI) vwCl (oW cq u) t.heap ∧ va_K (dC, dI) vwCl (oT cq) t ∧ va_D (va_A (oW cq Z) sz) (oW cq u)) (va_A (oW cq Z) sz)) 4 64 (va_A (oW cq Z) sz) := by
  refine Met.ofW (cc := cX10_sign) (maxL := 11) (ret := (some .int)) (by decide) rfl ?_
  intro p e s m args below meth c s₁ B hml hv
  obtain ⟨rfl, ⟨hsz, hP, hK, hD0⟩, hZ⟩ := hv
  have hx := B.exec
  have hb := B.bytes
  have hr := B.returns
  have hts := atoms_spec (ws := wsX10_sign) B.pre
  have hown : s.vm.findClass RX10 = some m.cls := findClass_of_methodNamed B.named
  have hlocks := B.notSynchronized
  subst hsz
  have hD := hD0.self (sz := s.heap.size)
  generalize hAe : va_A (oW cq Z) s.heap.size = A at hD hZ ⊢
  have hA : ∀ q : Nat, s.heap.size ≤ q → A q := fun q h => by rw [← hAe]; exact Or.inr h
  have hS : va_S A s.heap s.heap [] := va_S.rf
  have hP : va_P (dC, dI) vwCl (oW cq Z) s.heap := hP
  have hl := lv_entry ([.ref o, .int x1, .int x2, .int x3, .int x4, .int x5]) (n := 11) (Nat.le_of_ble_eq_true rfl)
  rw [lg_entry_eq]
  generalize (lg_sl ([.ref o, .int x1, .int x2, .int x3, .int x4, .int x5]) ++ List.replicate (11 - (lg_sl ([.ref o, .int x1, .int x2, .int x3, .int x4, .int x5])).length) Slot.unset).toArray = ls at hl ⊢
  have hl : lv_has ls 11 [(0, .ref o), (1, .int x1), (2, .int x2), (3, .int x3), (4, .int x4), (5, .int x5)] := hl
  refine lv_aload_n hx hb dX10_sign_0 rfl (lv_at hl 0 rfl) ?_
  refine lv_iload_n hx hb dX10_sign_1 rfl (lv_at hl 1 rfl) ?_
  have hFc : ∀ q, va_A [] s.heap.size q → A q := pu_free hS hA
  obtain ⟨q_1, hq_1⟩ := og (cq := cq) to.1 (oE_10 to.2)
  refine va_callq (va_runV (As := [.int x1]) (rest := []) ⟨hx, hb, hml, hown, hts⟩ (c_X10_manAt l dC dI s.heap.size cq Z gI o to x1) (cwV 1 hts gX10_sign_X10_manAt rfl rfl rfl (by decide +kernel) ⟨(Nat.le_of_ble_eq_true rfl), (Nat.le_of_ble_eq_true rfl)⟩) (pr_V (r := (RX10, TX10, 16)) hP hK hD q_1 10 rfl hq_1) rfl rfl hl.1 rfl (lv_room (Nat.le_of_ble_eq_true rfl)) dX10_sign_2 ⟨(Nat.le_of_ble_eq_true rfl), (Nat.le_of_ble_eq_true rfl)⟩) hS (fun q _ h => hFc q h) hFc (fun r_3 u t H locs ht hvm w_2 hB hz1 hk1 hS => ?_)
  have hP := pu_keep hP hk1
  clear hk1 hz1 hvm hB ht hFc
  have hk_4 := w_2
  rcases r_3 with _ | b_5
  · refine W.eq (g2 := F0 m 5 ls [.null]) rfl ?_
    refine lv_astoreN (lv' := [(6, .null), (0, .ref o), (1, .int x1), (2, .int x2), (3, .int x3), (4, .int x4), (5, .int x5)]) hx hb dX10_sign_5 hl (by decide) rfl (fun ls hl => ?_)
    refine lv_aload_n hx hb dX10_sign_7 rfl (lv_at hl 1 rfl) ?_
    refine lv_iload_n hx hb dX10_sign_8 rfl (lv_at hl 3 rfl) ?_
    have hFc : ∀ q, va_A [] H.size q → A q := pu_free hS hA
    refine va_callq (va_runV (As := [.int x2]) (rest := []) ⟨hx, hb, hml, hown, hts⟩ (c_X10_voyageAt l dC dI H.size cq Z gI o to x2) (cwV 1 hts gX10_sign_X10_voyageAt rfl rfl rfl (by decide +kernel) ⟨(Nat.le_of_ble_eq_true rfl), (Nat.le_of_ble_eq_true rfl)⟩) (pr_V (r := (RX10, TX10, 16)) hP hK hD q_1 10 rfl hq_1) rfl rfl hl.1 rfl (lv_room (Nat.le_of_ble_eq_true rfl)) dX10_sign_9 ⟨(Nat.le_of_ble_eq_true rfl), (Nat.le_of_ble_eq_true rfl)⟩) hS (fun q _ h => hFc q h) hFc (fun r_7 u t H locs ht hvm w_6 hB hz1 hk1 hS => ?_)
    have hP := pu_keep hP hk1
    clear hk1 hz1 hvm hB ht hFc
    have hk_8 := w_6
    rcases r_7 with _ | b_9
    · refine W.eq (g2 := F0 m 12 ls [.null]) rfl ?_
      refine lv_astoreN (lv' := [(7, .null), (6, .null), (0, .ref o), (1, .int x1), (2, .int x2), (3, .int x3), (4, .int x4), (5, .int x5)]) hx hb dX10_sign_12 hl (by decide) rfl (fun ls hl => ?_)
      refine lv_aload_n hx hb dX10_sign_14 rfl (lv_at hl 2 rfl) ?_
      refine lv_iload hx hb dX10_sign_15 (lv_at hl 7 rfl) ?_
      have hFc : ∀ q, va_A [] H.size q → A q := pu_free hS hA
      refine va_callq (va_runV (As := [.int x5]) (rest := []) ⟨hx, hb, hml, hown, hts⟩ (c_X10_agreementAt l dC dI H.size cq Z gI o to x5) (cwV 1 hts gX10_sign_X10_agreementAt rfl rfl rfl (by decide +kernel) ⟨(Nat.le_of_ble_eq_true rfl), (Nat.le_of_ble_eq_true rfl)⟩) (pr_V (r := (RX10, TX10, 16)) hP hK hD q_1 10 rfl hq_1) rfl rfl hl.1 rfl (lv_room (Nat.le_of_ble_eq_true rfl)) dX10_sign_17 ⟨(Nat.le_of_ble_eq_true rfl), (Nat.le_of_ble_eq_true rfl)⟩) hS (fun q _ h => hFc q h) hFc (fun r_11 u t H locs ht hvm w_10 hB hz1 hk1 hS => ?_)
      have hP := pu_keep hP hk1
      clear hk1 hz1 hvm hB ht hFc
      have hk_12 := w_10
      rcases r_11 with _ | b_13
      · refine W.eq (g2 := F0 m 20 ls [.null]) rfl ?_
        refine lv_astoreN (lv' := [(8, .null), (7, .null), (6, .null), (0, .ref o), (1, .int x1), (2, .int x2), (3, .int x3), (4, .int x4), (5, .int x5)]) hx hb dX10_sign_20 hl (by decide) rfl (fun ls hl => ?_)
        refine lv_aloadN hx hb dX10_sign_22 (lv_at hl 2 rfl) ?_
        refine lv_ifnullN (tgt := 43) hx hb dX10_sign_24 (by decide) ?_
        refine lv_aload_n hx hb dX10_sign_43 rfl (lv_at hl 3 rfl) ?_
        refine lv_iconst (v := (-1)) hx hb dX10_sign_44 (by decide) ?_
        have hFc := o_free hD hS hA
        refine va_calli (va_runV (As := [.int (-1)]) (rest := []) ⟨hx, hb, hml, hown, hts⟩ (c_X10_refuse l dC dI H.size cq Z gI o to (-1) (by decide)) (cwV 1 hts gX10_sign_X10_refuse rfl rfl rfl (by decide +kernel) ⟨(Nat.le_of_ble_eq_true rfl), (Nat.le_of_ble_eq_true rfl)⟩) (pr_V (r := (RX10, TX10, 16)) hP hK hD q_1 10 rfl hq_1) rfl rfl hl.1 rfl (lv_room (Nat.le_of_ble_eq_true rfl)) dX10_sign_45 ⟨(Nat.le_of_ble_eq_true rfl), (Nat.le_of_ble_eq_true rfl)⟩) hS (fun q _ h => hFc q h) hFc (fun r_15 u t H locs ht hvm w_14 hB hz1 hk1 hS => ?_)
        obtain ⟨S_16, rfl⟩ : ∃ z, z = u := ⟨_, rfl⟩
        obtain ⟨hP1, hK1, hD1⟩ := hB
        rw [ht] at hP1
        have hP : va_P (dC, dI) vwCl (oW cq S_16) H := hP1
        have hD : va_D A (oW cq S_16) := hD1.weaken (fun _ _ _ h => hFc _ h)
        clear hP1 hK1 hD1 hk1 hz1 hvm ht hFc
        obtain ⟨hIS_16, XS_16, hb_17, hx_18⟩ := w_14
        have X_19 : oX Z S_16 := XS_16
        have rf_20 : r_15.toInt = -1 := by rw [hx_18]; decide
        refine W.widen (k := 4) (n := 64) (Nat.le_of_ble_eq_true rfl) (Nat.le_of_ble_eq_true rfl) ?_
        exact W.iret (v := r_15) hx hb hr (fun t ht hW => ⟨⟨r_15, S_16, rfl, ⟨hIS_16, X_19⟩, ⟨by rw [ht]; exact hP, va_K.moved hW.alike hK, hD⟩⟩, hS.F ht⟩) hS.2.2 dX10_sign_48
      · refine W.eq (g2 := F0 m 20 ls [.ref b_13]) rfl ?_
        have tb_13 : oty Z b_13 1 := hk_12 b_13 rfl
        refine lv_astore (lv' := [(8, .ref b_13), (7, .null), (6, .null), (0, .ref o), (1, .int x1), (2, .int x2), (3, .int x3), (4, .int x4), (5, .int x5)]) hx hb dX10_sign_20 hl (by decide) rfl (fun ls hl => ?_)
        refine lv_aloadN hx hb dX10_sign_22 (lv_at hl 2 rfl) ?_
        refine lv_ifnullN (tgt := 43) hx hb dX10_sign_24 (by decide) ?_
        refine lv_aload_n hx hb dX10_sign_43 rfl (lv_at hl 3 rfl) ?_
        refine lv_iconst (v := (-1)) hx hb dX10_sign_44 (by decide) ?_
        have hFc := o_free hD hS hA
        refine va_calli (va_runV (As := [.int (-1)]) (rest := []) ⟨hx, hb, hml, hown, hts⟩ (c_X10_refuse l dC dI H.size cq Z gI o to (-1) (by decide)) (cwV 1 hts gX10_sign_X10_refuse rfl rfl rfl (by decide +kernel) ⟨(Nat.le_of_ble_eq_true rfl), (Nat.le_of_ble_eq_true rfl)⟩) (pr_V (r := (RX10, TX10, 16)) hP hK hD q_1 10 rfl hq_1) rfl rfl hl.1 rfl (lv_room (Nat.le_of_ble_eq_true rfl)) dX10_sign_45 ⟨(Nat.le_of_ble_eq_true rfl), (Nat.le_of_ble_eq_true rfl)⟩) hS (fun q _ h => hFc q h) hFc (fun r_22 u t H locs ht hvm w_21 hB hz1 hk1 hS => ?_)
        obtain ⟨S_23, rfl⟩ : ∃ z, z = u := ⟨_, rfl⟩
        obtain ⟨hP1, hK1, hD1⟩ := hB
        rw [ht] at hP1
        have hP : va_P (dC, dI) vwCl (oW cq S_23) H := hP1
        have hD : va_D A (oW cq S_23) := hD1.weaken (fun _ _ _ h => hFc _ h)
        clear hP1 hK1 hD1 hk1 hz1 hvm ht hFc
        obtain ⟨hIS_23, XS_23, hb_24, hx_25⟩ := w_21
        have X_26 : oX Z S_23 := XS_23
        have rf_27 : r_22.toInt = -1 := by rw [hx_25]; decide
        refine W.widen (k := 4) (n := 64) (Nat.le_of_ble_eq_true rfl) (Nat.le_of_ble_eq_true rfl) ?_
        exact W.iret (v := r_22) hx hb hr (fun t ht hW => ⟨⟨r_22, S_23, rfl, ⟨hIS_23, X_26⟩, ⟨by rw [ht]; exact hP, va_K.moved hW.alike hK, hD⟩⟩, hS.F ht⟩) hS.2.2 dX10_sign_48
    · refine W.eq (g2 := F0 m 12 ls [.ref b_9]) rfl ?_
      have tb_9 : oty Z b_9 9 := hk_8 b_9 rfl
      refine lv_astore (lv' := [(7, .ref b_9), (6, .null), (0, .ref o), (1, .int x1), (2, .int x2), (3, .int x3), (4, .int x4), (5, .int x5)]) hx hb dX10_sign_12 hl (by decide) rfl (fun ls hl => ?_)
      refine lv_aload_n hx hb dX10_sign_14 rfl (lv_at hl 2 rfl) ?_
      refine lv_iload hx hb dX10_sign_15 (lv_at hl 7 rfl) ?_
      have hFc : ∀ q, va_A [] H.size q → A q := pu_free hS hA
      refine va_callq (va_runV (As := [.int x5]) (rest := []) ⟨hx, hb, hml, hown, hts⟩ (c_X10_agreementAt l dC dI H.size cq Z gI o to x5) (cwV 1 hts gX10_sign_X10_agreementAt rfl rfl rfl (by decide +kernel) ⟨(Nat.le_of_ble_eq_true rfl), (Nat.le_of_ble_eq_true rfl)⟩) (pr_V (r := (RX10, TX10, 16)) hP hK hD q_1 10 rfl hq_1) rfl rfl hl.1 rfl (lv_room (Nat.le_of_ble_eq_true rfl)) dX10_sign_17 ⟨(Nat.le_of_ble_eq_true rfl), (Nat.le_of_ble_eq_true rfl)⟩) hS (fun q _ h => hFc q h) hFc (fun r_29 u t H locs ht hvm w_28 hB hz1 hk1 hS => ?_)
      have hP := pu_keep hP hk1
      clear hk1 hz1 hvm hB ht hFc
      have hk_30 := w_28
      rcases r_29 with _ | b_31
      · refine W.eq (g2 := F0 m 20 ls [.null]) rfl ?_
        refine lv_astoreN (lv' := [(8, .null), (7, .ref b_9), (6, .null), (0, .ref o), (1, .int x1), (2, .int x2), (3, .int x3), (4, .int x4), (5, .int x5)]) hx hb dX10_sign_20 hl (by decide) rfl (fun ls hl => ?_)
        refine lv_aloadN hx hb dX10_sign_22 (lv_at hl 2 rfl) ?_
        refine lv_ifnullN (tgt := 43) hx hb dX10_sign_24 (by decide) ?_
        refine lv_aload_n hx hb dX10_sign_43 rfl (lv_at hl 3 rfl) ?_
        refine lv_iconst (v := (-1)) hx hb dX10_sign_44 (by decide) ?_
        have hFc := o_free hD hS hA
        refine va_calli (va_runV (As := [.int (-1)]) (rest := []) ⟨hx, hb, hml, hown, hts⟩ (c_X10_refuse l dC dI H.size cq Z gI o to (-1) (by decide)) (cwV 1 hts gX10_sign_X10_refuse rfl rfl rfl (by decide +kernel) ⟨(Nat.le_of_ble_eq_true rfl), (Nat.le_of_ble_eq_true rfl)⟩) (pr_V (r := (RX10, TX10, 16)) hP hK hD q_1 10 rfl hq_1) rfl rfl hl.1 rfl (lv_room (Nat.le_of_ble_eq_true rfl)) dX10_sign_45 ⟨(Nat.le_of_ble_eq_true rfl), (Nat.le_of_ble_eq_true rfl)⟩) hS (fun q _ h => hFc q h) hFc (fun r_33 u t H locs ht hvm w_32 hB hz1 hk1 hS => ?_)
        obtain ⟨S_34, rfl⟩ : ∃ z, z = u := ⟨_, rfl⟩
        obtain ⟨hP1, hK1, hD1⟩ := hB
        rw [ht] at hP1
        have hP : va_P (dC, dI) vwCl (oW cq S_34) H := hP1
        have hD : va_D A (oW cq S_34) := hD1.weaken (fun _ _ _ h => hFc _ h)
        clear hP1 hK1 hD1 hk1 hz1 hvm ht hFc
        obtain ⟨hIS_34, XS_34, hb_35, hx_36⟩ := w_32
        have X_37 : oX Z S_34 := XS_34
        have rf_38 : r_33.toInt = -1 := by rw [hx_36]; decide
        refine W.widen (k := 4) (n := 64) (Nat.le_of_ble_eq_true rfl) (Nat.le_of_ble_eq_true rfl) ?_
        exact W.iret (v := r_33) hx hb hr (fun t ht hW => ⟨⟨r_33, S_34, rfl, ⟨hIS_34, X_37⟩, ⟨by rw [ht]; exact hP, va_K.moved hW.alike hK, hD⟩⟩, hS.F ht⟩) hS.2.2 dX10_sign_48
      · refine W.eq (g2 := F0 m 20 ls [.ref b_31]) rfl ?_
        have tb_31 : oty Z b_31 1 := hk_30 b_31 rfl
        refine lv_astore (lv' := [(8, .ref b_31), (7, .ref b_9), (6, .null), (0, .ref o), (1, .int x1), (2, .int x2), (3, .int x3), (4, .int x4), (5, .int x5)]) hx hb dX10_sign_20 hl (by decide) rfl (fun ls hl => ?_)
        refine lv_aloadN hx hb dX10_sign_22 (lv_at hl 2 rfl) ?_
        refine lv_ifnullN (tgt := 43) hx hb dX10_sign_24 (by decide) ?_
        refine lv_aload_n hx hb dX10_sign_43 rfl (lv_at hl 3 rfl) ?_
        refine lv_iconst (v := (-1)) hx hb dX10_sign_44 (by decide) ?_
        have hFc := o_free hD hS hA
        refine va_calli (va_runV (As := [.int (-1)]) (rest := []) ⟨hx, hb, hml, hown, hts⟩ (c_X10_refuse l dC dI H.size cq Z gI o to (-1) (by decide)) (cwV 1 hts gX10_sign_X10_refuse rfl rfl rfl (by decide +kernel) ⟨(Nat.le_of_ble_eq_true rfl), (Nat.le_of_ble_eq_true rfl)⟩) (pr_V (r := (RX10, TX10, 16)) hP hK hD q_1 10 rfl hq_1) rfl rfl hl.1 rfl (lv_room (Nat.le_of_ble_eq_true rfl)) dX10_sign_45 ⟨(Nat.le_of_ble_eq_true rfl), (Nat.le_of_ble_eq_true rfl)⟩) hS (fun q _ h => hFc q h) hFc (fun r_40 u t H locs ht hvm w_39 hB hz1 hk1 hS => ?_)
        obtain ⟨S_41, rfl⟩ : ∃ z, z = u := ⟨_, rfl⟩
        obtain ⟨hP1, hK1, hD1⟩ := hB
        rw [ht] at hP1
        have hP : va_P (dC, dI) vwCl (oW cq S_41) H := hP1
        have hD : va_D A (oW cq S_41) := hD1.weaken (fun _ _ _ h => hFc _ h)
        clear hP1 hK1 hD1 hk1 hz1 hvm ht hFc
        obtain ⟨hIS_41, XS_41, hb_42, hx_43⟩ := w_39
        have X_44 : oX Z S_41 := XS_41
        have rf_45 : r_40.toInt = -1 := by rw [hx_43]; decide
        refine W.widen (k := 4) (n := 64) (Nat.le_of_ble_eq_true rfl) (Nat.le_of_ble_eq_true rfl) ?_
        exact W.iret (v := r_40) hx hb hr (fun t ht hW => ⟨⟨r_40, S_41, rfl, ⟨hIS_41, X_44⟩, ⟨by rw [ht]; exact hP, va_K.moved hW.alike hK, hD⟩⟩, hS.F ht⟩) hS.2.2 dX10_sign_48
  · refine W.eq (g2 := F0 m 5 ls [.ref b_5]) rfl ?_
    have tb_5 : oty Z b_5 6 := hk_4 b_5 rfl
    refine lv_astore (lv' := [(6, .ref b_5), (0, .ref o), (1, .int x1), (2, .int x2), (3, .int x3), (4, .int x4), (5, .int x5)]) hx hb dX10_sign_5 hl (by decide) rfl (fun ls hl => ?_)
    refine lv_aload_n hx hb dX10_sign_7 rfl (lv_at hl 1 rfl) ?_
    refine lv_iload_n hx hb dX10_sign_8 rfl (lv_at hl 3 rfl) ?_
    have hFc : ∀ q, va_A [] H.size q → A q := pu_free hS hA
    refine va_callq (va_runV (As := [.int x2]) (rest := []) ⟨hx, hb, hml, hown, hts⟩ (c_X10_voyageAt l dC dI H.size cq Z gI o to x2) (cwV 1 hts gX10_sign_X10_voyageAt rfl rfl rfl (by decide +kernel) ⟨(Nat.le_of_ble_eq_true rfl), (Nat.le_of_ble_eq_true rfl)⟩) (pr_V (r := (RX10, TX10, 16)) hP hK hD q_1 10 rfl hq_1) rfl rfl hl.1 rfl (lv_room (Nat.le_of_ble_eq_true rfl)) dX10_sign_9 ⟨(Nat.le_of_ble_eq_true rfl), (Nat.le_of_ble_eq_true rfl)⟩) hS (fun q _ h => hFc q h) hFc (fun r_47 u t H locs ht hvm w_46 hB hz1 hk1 hS => ?_)
    have hP := pu_keep hP hk1
    clear hk1 hz1 hvm hB ht hFc
    have hk_48 := w_46
    rcases r_47 with _ | b_49
    · refine W.eq (g2 := F0 m 12 ls [.null]) rfl ?_
      refine lv_astoreN (lv' := [(7, .null), (6, .ref b_5), (0, .ref o), (1, .int x1), (2, .int x2), (3, .int x3), (4, .int x4), (5, .int x5)]) hx hb dX10_sign_12 hl (by decide) rfl (fun ls hl => ?_)
      refine lv_aload_n hx hb dX10_sign_14 rfl (lv_at hl 2 rfl) ?_
      refine lv_iload hx hb dX10_sign_15 (lv_at hl 7 rfl) ?_
      have hFc : ∀ q, va_A [] H.size q → A q := pu_free hS hA
      refine va_callq (va_runV (As := [.int x5]) (rest := []) ⟨hx, hb, hml, hown, hts⟩ (c_X10_agreementAt l dC dI H.size cq Z gI o to x5) (cwV 1 hts gX10_sign_X10_agreementAt rfl rfl rfl (by decide +kernel) ⟨(Nat.le_of_ble_eq_true rfl), (Nat.le_of_ble_eq_true rfl)⟩) (pr_V (r := (RX10, TX10, 16)) hP hK hD q_1 10 rfl hq_1) rfl rfl hl.1 rfl (lv_room (Nat.le_of_ble_eq_true rfl)) dX10_sign_17 ⟨(Nat.le_of_ble_eq_true rfl), (Nat.le_of_ble_eq_true rfl)⟩) hS (fun q _ h => hFc q h) hFc (fun r_51 u t H locs ht hvm w_50 hB hz1 hk1 hS => ?_)
      have hP := pu_keep hP hk1
      clear hk1 hz1 hvm hB ht hFc
      have hk_52 := w_50
      rcases r_51 with _ | b_53
      · refine W.eq (g2 := F0 m 20 ls [.null]) rfl ?_
        refine lv_astoreN (lv' := [(8, .null), (7, .null), (6, .ref b_5), (0, .ref o), (1, .int x1), (2, .int x2), (3, .int x3), (4, .int x4), (5, .int x5)]) hx hb dX10_sign_20 hl (by decide) rfl (fun ls hl => ?_)
        refine lv_aload hx hb dX10_sign_22 (lv_at hl 2 rfl) ?_
        refine lv_ifnull hx hb dX10_sign_24 ?_
        refine lv_aloadN hx hb dX10_sign_27 (lv_at hl 1 rfl) ?_
        refine lv_ifnullN (tgt := 43) hx hb dX10_sign_29 (by decide) ?_
        refine lv_aload_n hx hb dX10_sign_43 rfl (lv_at hl 3 rfl) ?_
        refine lv_iconst (v := (-1)) hx hb dX10_sign_44 (by decide) ?_
        have hFc := o_free hD hS hA
        refine va_calli (va_runV (As := [.int (-1)]) (rest := []) ⟨hx, hb, hml, hown, hts⟩ (c_X10_refuse l dC dI H.size cq Z gI o to (-1) (by decide)) (cwV 1 hts gX10_sign_X10_refuse rfl rfl rfl (by decide +kernel) ⟨(Nat.le_of_ble_eq_true rfl), (Nat.le_of_ble_eq_true rfl)⟩) (pr_V (r := (RX10, TX10, 16)) hP hK hD q_1 10 rfl hq_1) rfl rfl hl.1 rfl (lv_room (Nat.le_of_ble_eq_true rfl)) dX10_sign_45 ⟨(Nat.le_of_ble_eq_true rfl), (Nat.le_of_ble_eq_true rfl)⟩) hS (fun q _ h => hFc q h) hFc (fun r_55 u t H locs ht hvm w_54 hB hz1 hk1 hS => ?_)
        obtain ⟨S_56, rfl⟩ : ∃ z, z = u := ⟨_, rfl⟩
        obtain ⟨hP1, hK1, hD1⟩ := hB
        rw [ht] at hP1
        have hP : va_P (dC, dI) vwCl (oW cq S_56) H := hP1
        have hD : va_D A (oW cq S_56) := hD1.weaken (fun _ _ _ h => hFc _ h)
        clear hP1 hK1 hD1 hk1 hz1 hvm ht hFc
        obtain ⟨hIS_56, XS_56, hb_57, hx_58⟩ := w_54
        have X_59 : oX Z S_56 := XS_56
        have rf_60 : r_55.toInt = -1 := by rw [hx_58]; decide
        refine W.widen (k := 4) (n := 64) (Nat.le_of_ble_eq_true rfl) (Nat.le_of_ble_eq_true rfl) ?_
        exact W.iret (v := r_55) hx hb hr (fun t ht hW => ⟨⟨r_55, S_56, rfl, ⟨hIS_56, X_59⟩, ⟨by rw [ht]; exact hP, va_K.moved hW.alike hK, hD⟩⟩, hS.F ht⟩) hS.2.2 dX10_sign_48
      · refine W.eq (g2 := F0 m 20 ls [.ref b_53]) rfl ?_
        have tb_53 : oty Z b_53 1 := hk_52 b_53 rfl
        refine lv_astore (lv' := [(8, .ref b_53), (7, .null), (6, .ref b_5), (0, .ref o), (1, .int x1), (2, .int x2), (3, .int x3), (4, .int x4), (5, .int x5)]) hx hb dX10_sign_20 hl (by decide) rfl (fun ls hl => ?_)
        refine lv_aload hx hb dX10_sign_22 (lv_at hl 2 rfl) ?_
        refine lv_ifnull hx hb dX10_sign_24 ?_
        refine lv_aloadN hx hb dX10_sign_27 (lv_at hl 1 rfl) ?_
        refine lv_ifnullN (tgt := 43) hx hb dX10_sign_29 (by decide) ?_
        refine lv_aload_n hx hb dX10_sign_43 rfl (lv_at hl 3 rfl) ?_
        refine lv_iconst (v := (-1)) hx hb dX10_sign_44 (by decide) ?_
        have hFc := o_free hD hS hA
        refine va_calli (va_runV (As := [.int (-1)]) (rest := []) ⟨hx, hb, hml, hown, hts⟩ (c_X10_refuse l dC dI H.size cq Z gI o to (-1) (by decide)) (cwV 1 hts gX10_sign_X10_refuse rfl rfl rfl (by decide +kernel) ⟨(Nat.le_of_ble_eq_true rfl), (Nat.le_of_ble_eq_true rfl)⟩) (pr_V (r := (RX10, TX10, 16)) hP hK hD q_1 10 rfl hq_1) rfl rfl hl.1 rfl (lv_room (Nat.le_of_ble_eq_true rfl)) dX10_sign_45 ⟨(Nat.le_of_ble_eq_true rfl), (Nat.le_of_ble_eq_true rfl)⟩) hS (fun q _ h => hFc q h) hFc (fun r_62 u t H locs ht hvm w_61 hB hz1 hk1 hS => ?_)
        obtain ⟨S_63, rfl⟩ : ∃ z, z = u := ⟨_, rfl⟩
        obtain ⟨hP1, hK1, hD1⟩ := hB
        rw [ht] at hP1
        have hP : va_P (dC, dI) vwCl (oW cq S_63) H := hP1
        have hD : va_D A (oW cq S_63) := hD1.weaken (fun _ _ _ h => hFc _ h)
        clear hP1 hK1 hD1 hk1 hz1 hvm ht hFc
        obtain ⟨hIS_63, XS_63, hb_64, hx_65⟩ := w_61
        have X_66 : oX Z S_63 := XS_63
        have rf_67 : r_62.toInt = -1 := by rw [hx_65]; decide
        refine W.widen (k := 4) (n := 64) (Nat.le_of_ble_eq_true rfl) (Nat.le_of_ble_eq_true rfl) ?_
        exact W.iret (v := r_62) hx hb hr (fun t ht hW => ⟨⟨r_62, S_63, rfl, ⟨hIS_63, X_66⟩, ⟨by rw [ht]; exact hP, va_K.moved hW.alike hK, hD⟩⟩, hS.F ht⟩) hS.2.2 dX10_sign_48
    · refine W.eq (g2 := F0 m 12 ls [.ref b_49]) rfl ?_
      have tb_49 : oty Z b_49 9 := hk_48 b_49 rfl
      refine lv_astore (lv' := [(7, .ref b_49), (6, .ref b_5), (0, .ref o), (1, .int x1), (2, .int x2), (3, .int x3), (4, .int x4), (5, .int x5)]) hx hb dX10_sign_12 hl (by decide) rfl (fun ls hl => ?_)
      refine lv_aload_n hx hb dX10_sign_14 rfl (lv_at hl 2 rfl) ?_
      refine lv_iload hx hb dX10_sign_15 (lv_at hl 7 rfl) ?_
      have hFc : ∀ q, va_A [] H.size q → A q := pu_free hS hA
      refine va_callq (va_runV (As := [.int x5]) (rest := []) ⟨hx, hb, hml, hown, hts⟩ (c_X10_agreementAt l dC dI H.size cq Z gI o to x5) (cwV 1 hts gX10_sign_X10_agreementAt rfl rfl rfl (by decide +kernel) ⟨(Nat.le_of_ble_eq_true rfl), (Nat.le_of_ble_eq_true rfl)⟩) (pr_V (r := (RX10, TX10, 16)) hP hK hD q_1 10 rfl hq_1) rfl rfl hl.1 rfl (lv_room (Nat.le_of_ble_eq_true rfl)) dX10_sign_17 ⟨(Nat.le_of_ble_eq_true rfl), (Nat.le_of_ble_eq_true rfl)⟩) hS (fun q _ h => hFc q h) hFc (fun r_69 u t H locs ht hvm w_68 hB hz1 hk1 hS => ?_)
      have hP := pu_keep hP hk1
      clear hk1 hz1 hvm hB ht hFc
      have hk_70 := w_68
      rcases r_69 with _ | b_71
      · refine W.eq (g2 := F0 m 20 ls [.null]) rfl ?_
        refine lv_astoreN (lv' := [(8, .null), (7, .ref b_49), (6, .ref b_5), (0, .ref o), (1, .int x1), (2, .int x2), (3, .int x3), (4, .int x4), (5, .int x5)]) hx hb dX10_sign_20 hl (by decide) rfl (fun ls hl => ?_)
        refine lv_aload hx hb dX10_sign_22 (lv_at hl 2 rfl) ?_
        refine lv_ifnull hx hb dX10_sign_24 ?_
        refine lv_aload hx hb dX10_sign_27 (lv_at hl 1 rfl) ?_
        refine lv_ifnull hx hb dX10_sign_29 ?_
        refine lv_aloadN hx hb dX10_sign_32 (lv_at hl 0 rfl) ?_
        refine lv_ifnonnullN hx hb dX10_sign_34 ?_
        refine lv_iload hx hb dX10_sign_37 (lv_at hl 8 rfl) ?_
        refine lv_iconst (v := (-1)) hx hb dX10_sign_39 (by decide) ?_
        refine lv_icmp_eq (tgt := 49) hx hb dX10_sign_40 (by decide) (fun c_72 => ?_) (fun c_72 => ?_)
        · have dc_72 := c_eq (a := x5.toInt) (b := (-1)) rfl (by decide) c_72
          refine lv_iload_n hx hb dX10_sign_49 rfl (lv_at hl 6 rfl) ?_
          refine lv_iconst (v := 1) hx hb dX10_sign_50 (by decide) ?_
          refine lv_icmp_lt (tgt := 59) hx hb dX10_sign_51 (by decide) (fun c_73 => ?_) (fun c_73 => ?_)
          · have dc_73 := c_lt (a := x3.toInt) (b := 1) rfl (by decide) c_73
            refine lv_aload_n hx hb dX10_sign_59 rfl (lv_at hl 3 rfl) ?_
            refine lv_bipush (v := (-4)) hx hb dX10_sign_60 (by decide) ?_
            have hFc := o_free hD hS hA
            refine va_calli (va_runV (As := [.int (-4)]) (rest := []) ⟨hx, hb, hml, hown, hts⟩ (c_X10_refuse l dC dI H.size cq Z gI o to (-4) (by decide)) (cwV 1 hts gX10_sign_X10_refuse rfl rfl rfl (by decide +kernel) ⟨(Nat.le_of_ble_eq_true rfl), (Nat.le_of_ble_eq_true rfl)⟩) (pr_V (r := (RX10, TX10, 16)) hP hK hD q_1 10 rfl hq_1) rfl rfl hl.1 rfl (lv_room (Nat.le_of_ble_eq_true rfl)) dX10_sign_62 ⟨(Nat.le_of_ble_eq_true rfl), (Nat.le_of_ble_eq_true rfl)⟩) hS (fun q _ h => hFc q h) hFc (fun r_75 u t H locs ht hvm w_74 hB hz1 hk1 hS => ?_)
            obtain ⟨S_76, rfl⟩ : ∃ z, z = u := ⟨_, rfl⟩
            obtain ⟨hP1, hK1, hD1⟩ := hB
            rw [ht] at hP1
            have hP : va_P (dC, dI) vwCl (oW cq S_76) H := hP1
            have hD : va_D A (oW cq S_76) := hD1.weaken (fun _ _ _ h => hFc _ h)
            clear hP1 hK1 hD1 hk1 hz1 hvm ht hFc
            obtain ⟨hIS_76, XS_76, hb_77, hx_78⟩ := w_74
            have X_79 : oX Z S_76 := XS_76
            have rf_80 : r_75.toInt = -4 := by rw [hx_78]; decide
            refine W.widen (k := 4) (n := 64) (Nat.le_of_ble_eq_true rfl) (Nat.le_of_ble_eq_true rfl) ?_
            exact W.iret (v := r_75) hx hb hr (fun t ht hW => ⟨⟨r_75, S_76, rfl, ⟨hIS_76, X_79⟩, ⟨by rw [ht]; exact hP, va_K.moved hW.alike hK, hD⟩⟩, hS.F ht⟩) hS.2.2 dX10_sign_65
          · have dc_73 := c_nlt (a := x3.toInt) (b := 1) rfl (by decide) c_73
            refine lv_iload hx hb dX10_sign_54 (lv_at hl 7 rfl) ?_
            refine lv_if_ge (tgt := 66) hx hb dX10_sign_56 (by decide) (fun c_81 => ?_) (fun c_81 => ?_)
            · have dc_81 := c_le (a := 0) (b := x4.toInt) (by decide) rfl c_81
              refine lv_iload_n hx hb dX10_sign_66 rfl (lv_at hl 6 rfl) ?_
              refine lv_sipush (v := 9999) hx hb dX10_sign_67 (by decide) ?_
              refine lv_icmp_gt (tgt := 88) hx hb dX10_sign_70 (by decide) (fun c_82 => ?_) (fun c_82 => ?_)
              · have dc_82 := c_lt (a := 9999) (b := x3.toInt) (by decide) rfl c_82
                refine lv_aload_n hx hb dX10_sign_88 rfl (lv_at hl 3 rfl) ?_
                refine lv_bipush (v := (-6)) hx hb dX10_sign_89 (by decide) ?_
                have hFc := o_free hD hS hA
                refine va_calli (va_runV (As := [.int (-6)]) (rest := []) ⟨hx, hb, hml, hown, hts⟩ (c_X10_refuse l dC dI H.size cq Z gI o to (-6) (by decide)) (cwV 1 hts gX10_sign_X10_refuse rfl rfl rfl (by decide +kernel) ⟨(Nat.le_of_ble_eq_true rfl), (Nat.le_of_ble_eq_true rfl)⟩) (pr_V (r := (RX10, TX10, 16)) hP hK hD q_1 10 rfl hq_1) rfl rfl hl.1 rfl (lv_room (Nat.le_of_ble_eq_true rfl)) dX10_sign_91 ⟨(Nat.le_of_ble_eq_true rfl), (Nat.le_of_ble_eq_true rfl)⟩) hS (fun q _ h => hFc q h) hFc (fun r_84 u t H locs ht hvm w_83 hB hz1 hk1 hS => ?_)
                obtain ⟨S_85, rfl⟩ : ∃ z, z = u := ⟨_, rfl⟩
                obtain ⟨hP1, hK1, hD1⟩ := hB
                rw [ht] at hP1
                have hP : va_P (dC, dI) vwCl (oW cq S_85) H := hP1
                have hD : va_D A (oW cq S_85) := hD1.weaken (fun _ _ _ h => hFc _ h)
                clear hP1 hK1 hD1 hk1 hz1 hvm ht hFc
                obtain ⟨hIS_85, XS_85, hb_86, hx_87⟩ := w_83
                have X_88 : oX Z S_85 := XS_85
                have rf_89 : r_84.toInt = -6 := by rw [hx_87]; decide
                refine W.widen (k := 4) (n := 64) (Nat.le_of_ble_eq_true rfl) (Nat.le_of_ble_eq_true rfl) ?_
                exact W.iret (v := r_84) hx hb hr (fun t ht hW => ⟨⟨r_84, S_85, rfl, ⟨hIS_85, X_88⟩, ⟨by rw [ht]; exact hP, va_K.moved hW.alike hK, hD⟩⟩, hS.F ht⟩) hS.2.2 dX10_sign_94
              · have dc_82 := c_nlt (a := 9999) (b := x3.toInt) (by decide) rfl c_82
                refine lv_iload hx hb dX10_sign_73 (lv_at hl 7 rfl) ?_
                refine lv_iconst (v := 4) hx hb dX10_sign_75 (by decide) ?_
                refine lv_icmp_ge (tgt := 88) hx hb dX10_sign_76 (by decide) (fun c_90 => ?_) (fun c_90 => ?_)
                · have dc_90 := c_le (a := 4) (b := x4.toInt) (by decide) rfl c_90
                  refine lv_aload_n hx hb dX10_sign_88 rfl (lv_at hl 3 rfl) ?_
                  refine lv_bipush (v := (-6)) hx hb dX10_sign_89 (by decide) ?_
                  have hFc := o_free hD hS hA
                  refine va_calli (va_runV (As := [.int (-6)]) (rest := []) ⟨hx, hb, hml, hown, hts⟩ (c_X10_refuse l dC dI H.size cq Z gI o to (-6) (by decide)) (cwV 1 hts gX10_sign_X10_refuse rfl rfl rfl (by decide +kernel) ⟨(Nat.le_of_ble_eq_true rfl), (Nat.le_of_ble_eq_true rfl)⟩) (pr_V (r := (RX10, TX10, 16)) hP hK hD q_1 10 rfl hq_1) rfl rfl hl.1 rfl (lv_room (Nat.le_of_ble_eq_true rfl)) dX10_sign_91 ⟨(Nat.le_of_ble_eq_true rfl), (Nat.le_of_ble_eq_true rfl)⟩) hS (fun q _ h => hFc q h) hFc (fun r_92 u t H locs ht hvm w_91 hB hz1 hk1 hS => ?_)
                  obtain ⟨S_93, rfl⟩ : ∃ z, z = u := ⟨_, rfl⟩
                  obtain ⟨hP1, hK1, hD1⟩ := hB
                  rw [ht] at hP1
                  have hP : va_P (dC, dI) vwCl (oW cq S_93) H := hP1
                  have hD : va_D A (oW cq S_93) := hD1.weaken (fun _ _ _ h => hFc _ h)
                  clear hP1 hK1 hD1 hk1 hz1 hvm ht hFc
                  obtain ⟨hIS_93, XS_93, hb_94, hx_95⟩ := w_91
                  have X_96 : oX Z S_93 := XS_93
                  have rf_97 : r_92.toInt = -6 := by rw [hx_95]; decide
                  refine W.widen (k := 4) (n := 64) (Nat.le_of_ble_eq_true rfl) (Nat.le_of_ble_eq_true rfl) ?_
                  exact W.iret (v := r_92) hx hb hr (fun t ht hW => ⟨⟨r_92, S_93, rfl, ⟨hIS_93, X_96⟩, ⟨by rw [ht]; exact hP, va_K.moved hW.alike hK, hD⟩⟩, hS.F ht⟩) hS.2.2 dX10_sign_94
                · have dc_90 := c_nle (a := 4) (b := x4.toInt) (by decide) rfl c_90
                  refine lv_aload_n hx hb dX10_sign_79 rfl (lv_at hl 3 rfl) ?_
                  refine va_get (D := (dC, dI)) (ci := 10) (v := .int (oI Z o 6)) (C := RX10) (T := TX10) (N := 16) hx hb hts in_wsX10_sign_X10 hown hK hP q_1 hq_1 rfl 6 (by decide) (hts (.fieldLink RX10 115 "ShipOffice" "agreementCount" "I") (by decide +kernel)) (fun _ h9 => h9) rfl dX10_sign_80 ?_
                  refine lv_topi (fun x_98 ex_98 => ?_)
                  have hx_98 : 0 ≤ x_98.toInt ∧ x_98.toInt ≤ 60 := iv_of ex_98 (oInv.iv gI to.2 rfl rfl)
                  have gx_98 : x_98.toInt = (oI Z o 6).toInt := iv_to ex_98
                  clear ex_98
                  refine lv_bipush (v := 60) hx hb dX10_sign_83 (by decide) ?_
                  refine lv_icmp_lt (tgt := 95) hx hb dX10_sign_85 (by decide) (fun c_99 => ?_) (fun c_99 => ?_)
                  · have dc_99 := c_lt (a := x_98.toInt) (b := 60) rfl (by decide) c_99
                    refine lv_aloadN hx hb dX10_sign_95 (lv_at hl 0 rfl) ?_
                    refine lv_ifnullN (tgt := 110) hx hb dX10_sign_97 (by decide) ?_
                    refine lv_iconst (v := 1) hx hb dX10_sign_110 (by decide) ?_
                    refine lv_goto (tgt := 115) hx hb dX10_sign_111 (by decide) ?_
                    refine lv_istore (lv' := [(9, .int 1), (8, .null), (7, .ref b_49), (6, .ref b_5), (0, .ref o), (1, .int x1), (2, .int x2), (3, .int x3), (4, .int x4), (5, .int x5)]) hx hb dX10_sign_115 hl (by decide) rfl (fun ls hl => ?_)
                    refine lv_aload hx hb dX10_sign_117 (lv_at hl 2 rfl) ?_
                    have hFc : ∀ q, va_A [] H.size q → A q := pu_free hS hA
                    obtain ⟨q_100, hq_100⟩ := og (cq := cq) tb_49.1 (oE_9 tb_49.2)
                    refine va_calli (va_runV (As := []) (rest := []) ⟨hx, hb, hml, hown, hts⟩ (c_X9_takesHands l dC dI H.size cq Z gI b_49 tb_49) (cwV 0 hts gX10_sign_X9_takesHands rfl rfl rfl (by decide +kernel) ⟨(Nat.le_of_ble_eq_true rfl), (Nat.le_of_ble_eq_true rfl)⟩) (pr_V (r := (RX9, TX9, 10)) hP hK hD q_100 9 rfl hq_100) rfl rfl hl.1 rfl (lv_room (Nat.le_of_ble_eq_true rfl)) dX10_sign_119 ⟨(Nat.le_of_ble_eq_true rfl), (Nat.le_of_ble_eq_true rfl)⟩) hS (fun q _ h => hFc q h) hFc (fun r_102 u t H locs ht hvm w_101 hB hz1 hk1 hS => ?_)
                    have hP := pu_keep hP hk1
                    clear hk1 hz1 hvm hB ht hFc
                    have hb_103 := w_101
                    refine lv_if_eq (tgt := 151) hx hb dX10_sign_122 (by decide) (fun c_104 => ?_) (fun c_104 => ?_)
                    · have dc_104 := c_eq (a := r_102.toInt) (b := 0) rfl (by decide) c_104
                      refine lv_aload_n hx hb dX10_sign_151 rfl (lv_at hl 4 rfl) ?_
                      refine lv_bipush (v := (-3)) hx hb dX10_sign_152 (by decide) ?_
                      have hFc := o_free hD hS hA
                      refine va_calli (va_runV (As := [.int (-3)]) (rest := []) ⟨hx, hb, hml, hown, hts⟩ (c_X10_refuse l dC dI H.size cq Z gI o to (-3) (by decide)) (cwV 1 hts gX10_sign_X10_refuse rfl rfl rfl (by decide +kernel) ⟨(Nat.le_of_ble_eq_true rfl), (Nat.le_of_ble_eq_true rfl)⟩) (pr_V (r := (RX10, TX10, 16)) hP hK hD q_1 10 rfl hq_1) rfl rfl hl.1 rfl (lv_room (Nat.le_of_ble_eq_true rfl)) dX10_sign_154 ⟨(Nat.le_of_ble_eq_true rfl), (Nat.le_of_ble_eq_true rfl)⟩) hS (fun q _ h => hFc q h) hFc (fun r_106 u t H locs ht hvm w_105 hB hz1 hk1 hS => ?_)
                      obtain ⟨S_107, rfl⟩ : ∃ z, z = u := ⟨_, rfl⟩
                      obtain ⟨hP1, hK1, hD1⟩ := hB
                      rw [ht] at hP1
                      have hP : va_P (dC, dI) vwCl (oW cq S_107) H := hP1
                      have hD : va_D A (oW cq S_107) := hD1.weaken (fun _ _ _ h => hFc _ h)
                      clear hP1 hK1 hD1 hk1 hz1 hvm ht hFc
                      obtain ⟨hIS_107, XS_107, hb_108, hx_109⟩ := w_105
                      have X_110 : oX Z S_107 := XS_107
                      have rf_111 : r_106.toInt = -3 := by rw [hx_109]; decide
                      refine W.widen (k := 4) (n := 64) (Nat.le_of_ble_eq_true rfl) (Nat.le_of_ble_eq_true rfl) ?_
                      exact W.iret (v := r_106) hx hb hr (fun t ht hW => ⟨⟨r_106, S_107, rfl, ⟨hIS_107, X_110⟩, ⟨by rw [ht]; exact hP, va_K.moved hW.alike hK, hD⟩⟩, hS.F ht⟩) hS.2.2 dX10_sign_157
                    · have dc_104 := c_ne (a := r_102.toInt) (b := 0) rfl (by decide) c_104
                      refine lv_aload_n hx hb dX10_sign_125 rfl (lv_at hl 4 rfl) ?_
                      refine lv_aload hx hb dX10_sign_126 (lv_at hl 3 rfl) ?_
                      have hFc : ∀ q, va_A [] H.size q → A q := pu_free hS hA
                      refine va_calli (va_runV (As := [.ref b_5]) (rest := []) ⟨hx, hb, hml, hown, hts⟩ (c_X10_isFree l dC dI H.size cq Z gI o to b_5 tb_5) (cwV 1 hts gX10_sign_X10_isFree rfl rfl rfl (by decide +kernel) ⟨(Nat.le_of_ble_eq_true rfl), (Nat.le_of_ble_eq_true rfl)⟩) (pr_V (r := (RX10, TX10, 16)) hP hK hD q_1 10 rfl hq_1) rfl rfl hl.1 rfl (lv_room (Nat.le_of_ble_eq_true rfl)) dX10_sign_128 ⟨(Nat.le_of_ble_eq_true rfl), (Nat.le_of_ble_eq_true rfl)⟩) hS (fun q _ h => hFc q h) hFc (fun r_113 u t H locs ht hvm w_112 hB hz1 hk1 hS => ?_)
                      have hP := pu_keep hP hk1
                      clear hk1 hz1 hvm hB ht hFc
                      have hb_114 := w_112
                      refine lv_if_eq (tgt := 151) hx hb dX10_sign_131 (by decide) (fun c_115 => ?_) (fun c_115 => ?_)
                      · have dc_115 := c_eq (a := r_113.toInt) (b := 0) rfl (by decide) c_115
                        refine lv_aload_n hx hb dX10_sign_151 rfl (lv_at hl 4 rfl) ?_
                        refine lv_bipush (v := (-3)) hx hb dX10_sign_152 (by decide) ?_
                        have hFc := o_free hD hS hA
                        refine va_calli (va_runV (As := [.int (-3)]) (rest := []) ⟨hx, hb, hml, hown, hts⟩ (c_X10_refuse l dC dI H.size cq Z gI o to (-3) (by decide)) (cwV 1 hts gX10_sign_X10_refuse rfl rfl rfl (by decide +kernel) ⟨(Nat.le_of_ble_eq_true rfl), (Nat.le_of_ble_eq_true rfl)⟩) (pr_V (r := (RX10, TX10, 16)) hP hK hD q_1 10 rfl hq_1) rfl rfl hl.1 rfl (lv_room (Nat.le_of_ble_eq_true rfl)) dX10_sign_154 ⟨(Nat.le_of_ble_eq_true rfl), (Nat.le_of_ble_eq_true rfl)⟩) hS (fun q _ h => hFc q h) hFc (fun r_117 u t H locs ht hvm w_116 hB hz1 hk1 hS => ?_)
                        obtain ⟨S_118, rfl⟩ : ∃ z, z = u := ⟨_, rfl⟩
                        obtain ⟨hP1, hK1, hD1⟩ := hB
                        rw [ht] at hP1
                        have hP : va_P (dC, dI) vwCl (oW cq S_118) H := hP1
                        have hD : va_D A (oW cq S_118) := hD1.weaken (fun _ _ _ h => hFc _ h)
                        clear hP1 hK1 hD1 hk1 hz1 hvm ht hFc
                        obtain ⟨hIS_118, XS_118, hb_119, hx_120⟩ := w_116
                        have X_121 : oX Z S_118 := XS_118
                        have rf_122 : r_117.toInt = -3 := by rw [hx_120]; decide
                        refine W.widen (k := 4) (n := 64) (Nat.le_of_ble_eq_true rfl) (Nat.le_of_ble_eq_true rfl) ?_
                        exact W.iret (v := r_117) hx hb hr (fun t ht hW => ⟨⟨r_117, S_118, rfl, ⟨hIS_118, X_121⟩, ⟨by rw [ht]; exact hP, va_K.moved hW.alike hK, hD⟩⟩, hS.F ht⟩) hS.2.2 dX10_sign_157
                      · have dc_115 := c_ne (a := r_113.toInt) (b := 0) rfl (by decide) c_115
                        refine lv_iload hx hb dX10_sign_134 (lv_at hl 0 rfl) ?_
                        refine lv_if_eq (tgt := 151) hx hb dX10_sign_136 (by decide) (fun c_123 => absurd c_123 (by decide)) (fun _ => ?_)
                        refine lv_aload_n hx hb dX10_sign_139 rfl (lv_at hl 4 rfl) ?_
                        refine lv_aload hx hb dX10_sign_140 (lv_at hl 3 rfl) ?_
                        refine lv_iload_n hx hb dX10_sign_142 rfl (lv_at hl 7 rfl) ?_
                        refine lv_iload hx hb dX10_sign_143 (lv_at hl 8 rfl) ?_
                        have hFc := o_free hD hS hA
                        refine va_calli (va_runV (As := [.ref b_5, .int x3, .int x4]) (rest := []) ⟨hx, hb, hml, hown, hts⟩ (c_X10_signWorth_w l dC dI H.size cq Z gI o to b_5 tb_5 x3 x4) (cwV 3 hts gX10_sign_X10_signWorth rfl rfl rfl (by decide +kernel) ⟨(Nat.le_of_ble_eq_true rfl), (Nat.le_of_ble_eq_true rfl)⟩) (pr_V (r := (RX10, TX10, 16)) hP hK hD q_1 10 rfl hq_1) rfl rfl hl.1 rfl (lv_room (Nat.le_of_ble_eq_true rfl)) dX10_sign_145 ⟨(Nat.le_of_ble_eq_true rfl), (Nat.le_of_ble_eq_true rfl)⟩) hS (fun q _ h => hFc q h) hFc (fun r_125 u t H locs ht hvm w_124 hB hz1 hk1 hS => ?_)
                        obtain ⟨S_126, rfl⟩ : ∃ z, z = u := ⟨_, rfl⟩
                        obtain ⟨hP1, hK1, hD1⟩ := hB
                        rw [ht] at hP1
                        have hP : va_P (dC, dI) vwCl (oW cq S_126) H := hP1
                        have hD : va_D A (oW cq S_126) := hD1.weaken (fun _ _ _ h => hFc _ h)
                        clear hP1 hK1 hD1 hk1 hz1 hvm ht hFc
                        obtain ⟨hIS_126, XS_126, hx_127⟩ := w_124
                        have X_128 : oX Z S_126 := XS_126
                        have g_129 : (oI S_126 o 6).toInt = (oI Z o 6).toInt := hx_127
                        refine lv_if_gt (tgt := 158) hx hb dX10_sign_148 (by decide) (fun c_130 => ?_) (fun c_130 => ?_)
                        · have dc_130 := c_lt (a := 0) (b := r_125.toInt) (by decide) rfl c_130
                          refine va_new (ci := 1) (fs := [.null, .null, .int 0, .null, .int 0, .int 0, .int 0, .int 0, .null, .int 0, .int 0, .int 0, .null, .int 0, .null, .null, .int 0, .int 0]) (C := RX1) (T := TX1) (N := 18) hx hb hts in_wsX10_sign_X1 tyX1 tyX1_ok hown (hts (.classLink RX10 21 RX1) (by decide +kernel)) (hts (.instantiable RX1 18) (by decide +kernel)) (hts (.initialized RX1) (by decide +kernel)) hK hP hD hS hA rfl (fun j hj => by rcases (show j = 0 ∨ j = 1 ∨ j = 2 ∨ j = 3 ∨ j = 4 ∨ j = 5 ∨ j = 6 ∨ j = 7 ∨ j = 8 ∨ j = 9 ∨ j = 10 ∨ j = 11 ∨ j = 12 ∨ j = 13 ∨ j = 14 ∨ j = 15 ∨ j = 16 ∨ j = 17 by omega) with rfl | rfl | rfl | rfl | rfl | rfl | rfl | rfl | rfl | rfl | rfl | rfl | rfl | rfl | rfl | rfl | rfl | rfl <;> rfl) (Nat.le_of_ble_eq_true rfl) (Nat.le_of_ble_eq_true rfl) dX10_sign_158 (fun q_131 H hP1 hD1 hS => ?_)
                          have hnq_131 := add_q hD1
                          obtain ⟨S_132, eS_132⟩ : ∃ zq, zq = addO S_126 q_131 31 := ⟨_, rfl⟩
                          have hP : va_P (dC, dI) vwCl (oW cq S_132) H := by rw [eS_132]; exact cP (onew hD1 (by rw [oE_31 add_K, add_I, add_P]; rfl)) hP1
                          have hD : va_D A (oW cq S_132) := by rw [eS_132]; exact cD (onew hD1 (by rw [oE_31 add_K, add_I, add_P]; rfl)) hD1
                          clear hP1 hD1
                          have hIS_132 : oInv S_132 := by rw [eS_132]; exact oInv.add hIS_126 hnq_131 (by decide)
                          have XS_132 : oX S_126 S_132 := by rw [eS_132]; exact oX.add hnq_131
                          have g_133 : (oI S_132 o 6).toInt = (oI S_126 o 6).toInt := by rw [eS_132, add_In hnq_131 (oX.ty XS_126 to).1]
                          have X_134 : oX Z S_132 := oX.tr X_128 XS_132
                          have tq_131 : oty S_132 q_131 31 := by rw [eS_132]; exact add_ty
                          refine W.widen (k := 1) (n := 18) (Nat.le_of_ble_eq_true rfl) (Nat.le_of_ble_eq_true rfl) ?_
                          refine lv_dup hx hb dX10_sign_161 rfl ?_
                          refine lv_aload hx hb dX10_sign_162 (lv_at hl 3 rfl) ?_
                          refine lv_aload hx hb dX10_sign_164 (lv_at hl 2 rfl) ?_
                          refine lv_aload_n hx hb dX10_sign_166 rfl (lv_at hl 4 rfl) ?_
                          have t_135 : oty S_132 o 10 := (oX.ty XS_132 (oX.ty XS_126 to))
                          obtain ⟨q_136, hq_136⟩ := og (cq := cq) t_135.1 (oE_10 t_135.2)
                          refine va_get (D := (dC, dI)) (ci := 10) (v := .int (oI S_132 o 0)) (C := RX10) (T := TX10) (N := 16) hx hb hts in_wsX10_sign_X10 hown hK hP q_136 hq_136 rfl 0 (by decide) (hts (.fieldLink RX10 73 "ShipOffice" "now" "I") (by decide +kernel)) (fun _ h9 => h9) rfl dX10_sign_167 ?_
                          refine lv_topi (fun x_137 ex_137 => ?_)
                          have hx_137 : 0 ≤ x_137.toInt ∧ x_137.toInt ≤ 3000 := iv_of ex_137 (oInv.iv hIS_132 t_135.2 rfl rfl)
                          have gx_137 : x_137.toInt = (oI S_132 o 0).toInt := iv_to ex_137
                          clear ex_137
                          refine lv_aloadN hx hb dX10_sign_170 (lv_at hl 1 rfl) ?_
                          have t_138 : oty S_132 b_5 6 := (oX.ty XS_132 (oX.ty XS_126 tb_5))
                          have t_139 : oty S_132 b_49 9 := (oX.ty XS_132 (oX.ty XS_126 tb_49))
                          have hFc := o_free hD hS hA
                          refine va_callv (va_runI (As := [.ref b_5, .ref b_49, .int x_137, .null]) (rest := [.ref q_131]) ⟨hx, hb, hml, hown, hts⟩ (c_X1_init l dC dI H.size tL tS tG cq S_132 hIS_132 q_131 tq_131 b_5 t_138 b_49 t_139 x_137 none (fun b h => by cases h) (fun j => by rw [eS_132, add_I])) (cwI 4 hts gX10_sign_X1_init rfl rfl rfl (hts (.initialized RX1) (by decide +kernel)) (hts (.methodLink RX10 220 yX1_init) (by decide +kernel)) (hts (.instanceMethod yX1_init) (by decide +kernel)) rfl (by decide +kernel) ⟨(Nat.le_of_ble_eq_true rfl), (Nat.le_of_ble_eq_true rfl)⟩) (pr_SO hP hK hD (hZ.go hS hFc)) rfl rfl hl.1 rfl (lv_room (Nat.le_of_ble_eq_true rfl)) dX10_sign_172 ⟨(Nat.le_of_ble_eq_true rfl), (Nat.le_of_ble_eq_true rfl)⟩) hS (fun q _ h => hFc q h) hFc (fun u t H locs ht hvm w_140 hB hz1 hk1 hS => ?_)
                          obtain ⟨S_142, rfl⟩ : ∃ z, z = u := ⟨_, rfl⟩
                          obtain ⟨hP1, hK1, hD1⟩ := hB
                          rw [ht] at hP1
                          have hP : va_P (dC, dI) vwCl (oW cq S_142) H := hP1
                          have hD : va_D A (oW cq S_142) := hD1.weaken (fun _ _ _ h => hFc _ h)
                          clear hP1 hK1 hD1 hk1 hz1 hvm ht hFc
                          refine W.widen (k := 4) (n := 64) (Nat.le_of_ble_eq_true rfl) (Nat.le_of_ble_eq_true rfl) ?_
                          obtain ⟨hIS_142, XS_142, hx_143⟩ := w_140
                          obtain ⟨hxS_142, FS_142⟩ := hx_143
                          have X_144 : oX Z S_142 := oX.c X_134 XS_142 (oX.nin X_128 hnq_131)
                          have g_145 : (oI S_142 o 0).toInt = (oI S_132 o 0).toInt := by rw [(FS_142 o t_135.1 (ty_ne t_135 tq_131 (by decide))).1 (by rw [t_135.2]; decide)]
                          have g_146 : (oI S_142 o 6).toInt = (oI S_132 o 6).toInt := by rw [(FS_142 o t_135.1 (ty_ne t_135 tq_131 (by decide))).1 (by rw [t_135.2]; decide)]
                          refine lv_astore (lv' := [(10, .ref q_131), (9, .int 1), (8, .null), (7, .ref b_49), (6, .ref b_5), (0, .ref o), (1, .int x1), (2, .int x2), (3, .int x3), (4, .int x4), (5, .int x5)]) hx hb dX10_sign_175 hl (by decide) rfl (fun ls hl => ?_)
                          refine lv_aload hx hb dX10_sign_177 (lv_at hl 0 rfl) ?_
                          refine lv_iload_n hx hb dX10_sign_179 rfl (lv_at hl 8 rfl) ?_
                          obtain ⟨q_147, hq_147⟩ := og (cq := cq) hxS_142.1 (oE_1 hxS_142.2)
                          refine va_put (D := (dC, dI)) (ci := 1) (v := .int x3) (ty := .int) (C := RX1) (T := TX1) (N := 18) hx hb hts in_wsX10_sign_X1 tyX1 tyX1_ok nmX1 hown hK hP hD hS q_147 hq_147 rfl 4 (by decide) (hts (.fieldLink RX10 223 "ShipOffice$Agreement" "wage" "I") (by decide +kernel)) (fun _ h9 => h9) rfl (by decide +kernel) rfl rfl (Nat.le_of_ble_eq_true rfl) dX10_sign_180 (fun H locs hP1 hD1 hS => ?_)
                          obtain ⟨S_148, eS_148⟩ : ∃ zq, zq = setI S_142 q_131 4 x3 := ⟨_, rfl⟩
                          have hP : va_P (dC, dI) vwCl (oW cq S_148) H := by rw [eS_148]; exact cP (oset hxS_142.1 hq_147 hD rfl (he_1_4 hxS_142.2) neI) hP1
                          have hD : va_D A (oW cq S_148) := by rw [eS_148]; exact cD (oset hxS_142.1 hq_147 hD rfl (he_1_4 hxS_142.2) neI) hD1
                          clear hP1 hD1
                          have hIS_148 : oInv S_148 := by rw [eS_148]; exact oInv.I0 (k := 1) (lo := -2147483648) (hi := 2147483647) hIS_142 hxS_142.2 (by decide) rfl rfl rfl (iv_all _)
                          have XS_148 : oX S_142 S_148 := by rw [eS_148]; exact oX.I (k := 1) hxS_142.2 (by decide)
                          have X_149 : oX Z S_148 := oX.tr X_144 XS_148
                          have g_150 : (oI S_148 o 0).toInt = (oI S_142 o 0).toInt := by rw [eS_148, setI_oth (ty_ne (oXc.ty XS_142 (ty_ne t_135 tq_131 (by decide)) t_135) hxS_142 (by decide))]
                          have g_151 : (oI S_148 o 6).toInt = (oI S_142 o 6).toInt := by rw [eS_148, setI_oth (ty_ne (oXc.ty XS_142 (ty_ne t_135 tq_131 (by decide)) t_135) hxS_142 (by decide))]
                          refine lv_aload hx hb dX10_sign_183 (lv_at hl 0 rfl) ?_
                          refine lv_iload hx hb dX10_sign_185 (lv_at hl 9 rfl) ?_
                          have t_152 : oty S_148 q_131 1 := (oX.ty XS_148 hxS_142)
                          obtain ⟨q_153, hq_153⟩ := og (cq := cq) t_152.1 (oE_1 t_152.2)
                          refine va_put (D := (dC, dI)) (ci := 1) (v := .int x4) (ty := .int) (C := RX1) (T := TX1) (N := 18) hx hb hts in_wsX10_sign_X1 tyX1 tyX1_ok nmX1 hown hK hP hD hS q_153 hq_153 rfl 5 (by decide) (hts (.fieldLink RX10 226 "ShipOffice$Agreement" "rank" "I") (by decide +kernel)) (fun _ h9 => h9) rfl (by decide +kernel) rfl rfl (Nat.le_of_ble_eq_true rfl) dX10_sign_187 (fun H locs hP1 hD1 hS => ?_)
                          obtain ⟨S_154, eS_154⟩ : ∃ zq, zq = setI S_148 q_131 5 x4 := ⟨_, rfl⟩
                          have hP : va_P (dC, dI) vwCl (oW cq S_154) H := by rw [eS_154]; exact cP (oset t_152.1 hq_153 hD rfl (he_1_5 t_152.2) neI) hP1
                          have hD : va_D A (oW cq S_154) := by rw [eS_154]; exact cD (oset t_152.1 hq_153 hD rfl (he_1_5 t_152.2) neI) hD1
                          clear hP1 hD1
                          have hIS_154 : oInv S_154 := by rw [eS_154]; exact oInv.I0 (k := 1) (lo := -2147483648) (hi := 2147483647) hIS_148 t_152.2 (by decide) rfl rfl rfl (iv_all _)
                          have XS_154 : oX S_148 S_154 := by rw [eS_154]; exact oX.I (k := 1) t_152.2 (by decide)
                          have X_155 : oX Z S_154 := oX.tr X_149 XS_154
                          have g_156 : (oI S_154 o 0).toInt = (oI S_148 o 0).toInt := by rw [eS_154, setI_oth (ty_ne (oX.ty XS_148 (oXc.ty XS_142 (ty_ne t_135 tq_131 (by decide)) t_135)) t_152 (by decide))]
                          have g_157 : (oI S_154 o 6).toInt = (oI S_148 o 6).toInt := by rw [eS_154, setI_oth (ty_ne (oX.ty XS_148 (oXc.ty XS_142 (ty_ne t_135 tq_131 (by decide)) t_135)) t_152 (by decide))]
                          refine lv_aload_n hx hb dX10_sign_190 rfl (lv_at hl 5 rfl) ?_
                          have t_158 : oty S_154 o 10 := (oX.ty XS_154 (oX.ty XS_148 (oXc.ty XS_142 (ty_ne t_135 tq_131 (by decide)) t_135)))
                          obtain ⟨q_159, hq_159⟩ := og (cq := cq) t_158.1 (oE_10 t_158.2)
                          obtain ⟨b_160, hb_160⟩ := oInv.nn (i := 5) hIS_154 t_158 rfl
                          refine va_get (D := (dC, dI)) (ci := 10) (v := .ref b_160) (C := RX10) (T := TX10) (N := 16) hx hb hts in_wsX10_sign_X10 hown hK hP q_159 hq_159 rfl 5 (by decide) (hts (.fieldLink RX10 23 "ShipOffice" "agreements" "[LShipOffice$Agreement;") (by decide +kernel)) (fun _ h9 => h9) (o_rd hb_160) dX10_sign_191 ?_
                          have tb_160 : oty S_154 b_160 16 := oInv.rd hIS_154 t_158.2 hb_160 rfl rfl
                          refine lv_aload_n hx hb dX10_sign_194 rfl (lv_at hl 5 rfl) ?_
                          refine va_get (D := (dC, dI)) (ci := 10) (v := .int (oI S_154 o 6)) (C := RX10) (T := TX10) (N := 16) hx hb hts in_wsX10_sign_X10 hown hK hP q_159 hq_159 rfl 6 (by decide) (hts (.fieldLink RX10 115 "ShipOffice" "agreementCount" "I") (by decide +kernel)) (fun _ h9 => h9) rfl dX10_sign_195 ?_
                          refine lv_topi (fun x_161 ex_161 => ?_)
                          have hx_161 : 0 ≤ x_161.toInt ∧ x_161.toInt ≤ 60 := iv_of ex_161 (oInv.iv hIS_154 t_158.2 rfl rfl)
                          have gx_161 : x_161.toInt = (oI S_154 o 6).toInt := iv_to ex_161
                          clear ex_161
                          refine lv_aload hx hb dX10_sign_198 (lv_at hl 0 rfl) ?_
                          obtain ⟨q_162, hq_162⟩ := og (cq := cq) tb_160.1 (oE_16 tb_160.2)
                          have t_163 : oty S_154 q_131 1 := (oX.ty XS_154 t_152)
                          obtain ⟨q_164, hq_164⟩ := og (cq := cq) t_163.1 (oE_1 t_163.2)
                          refine va_astq (r := (RX1, TX1, 18)) hx hb hK hP hD hS q_162 5 q_164 1 hq_162 rfl hq_164 rfl (vp_in_iff.mpr (by omega)) dX10_sign_200 (fun H locs hP1 hD1 hS => ?_)
                          obtain ⟨S_165, eS_165⟩ : ∃ zq, zq = setP S_154 b_160 (x_161 : Int32).toNatClampNeg (some q_131) := ⟨_, rfl⟩
                          have hP : va_P (dC, dI) vwCl (oW cq S_165) H := by rw [eS_165]; exact cP (oset tb_160.1 hq_162 hD rfl (he_16 tb_160.2) neP) hP1
                          have hD : va_D A (oW cq S_165) := by rw [eS_165]; exact cD (oset tb_160.1 hq_162 hD rfl (he_16 tb_160.2) neP) hD1
                          clear hP1 hD1
                          have hIS_165 : oInv S_165 := by rw [eS_165]; exact oInv.P (k := 16) hIS_154 tb_160.2 (by decide) rfl (fun h => absurd h.1 (by decide)) t_163 (show 1 ≤ 1 ∧ 1 ≤ 1 from ⟨Nat.le_refl _, Nat.le_refl _⟩)
                          have XS_165 : oX S_154 S_165 := by rw [eS_165]; exact oX.P
                          have X_166 : oX Z S_165 := oX.tr X_155 XS_165
                          have g_167 : (oI S_165 o 0).toInt = (oI S_154 o 0).toInt := by rw [eS_165]; rfl
                          have g_168 : (oI S_165 o 6).toInt = (oI S_154 o 6).toInt := by rw [eS_165]; rfl
                          have helS_165 : oP S_165 b_160 (x_161 : Int32).toNatClampNeg = some q_131 := by rw [eS_165, setP_same]
                          have hsrS_165 : oP S_165 o 5 = some b_160 := by rw [eS_165, setP_oth (ty_ne t_158 tb_160 (by decide))]; exact hb_160
                          refine lv_aload_n hx hb dX10_sign_201 rfl (lv_at hl 5 rfl) ?_
                          refine lv_dup hx hb dX10_sign_202 rfl ?_
                          have t_169 : oty S_165 o 10 := (oX.ty XS_165 t_158)
                          obtain ⟨q_170, hq_170⟩ := og (cq := cq) t_169.1 (oE_10 t_169.2)
                          refine va_get (D := (dC, dI)) (ci := 10) (v := .int (oI S_165 o 6)) (C := RX10) (T := TX10) (N := 16) hx hb hts in_wsX10_sign_X10 hown hK hP q_170 hq_170 rfl 6 (by decide) (hts (.fieldLink RX10 115 "ShipOffice" "agreementCount" "I") (by decide +kernel)) (fun _ h9 => h9) rfl dX10_sign_203 ?_
                          refine lv_topi (fun x_171 ex_171 => ?_)
                          have hx_171 : 0 ≤ x_171.toInt ∧ x_171.toInt ≤ 60 := iv_of ex_171 (oInv.iv hIS_165 t_169.2 rfl rfl)
                          have gx_171 : x_171.toInt = (oI S_165 o 6).toInt := iv_to ex_171
                          clear ex_171
                          refine lv_iconst (v := 1) hx hb dX10_sign_206 (by decide) ?_
                          refine lv_iadd hx hb dX10_sign_207 ?_
                          refine lv_topi (fun x_172 ex_172 => ?_)
                          have hx_172 : x_172.toInt = x_171.toInt + 1 := (iv_to ex_172).trans (ad_i rfl (by decide) (by omega) (by omega))
                          clear ex_172
                          refine va_put (D := (dC, dI)) (ci := 10) (v := .int x_172) (ty := .int) (C := RX10) (T := TX10) (N := 16) hx hb hts in_wsX10_sign_X10 tyX10 tyX10_ok nmX10 hown hK hP hD hS q_170 hq_170 rfl 6 (by decide) (hts (.fieldLink RX10 115 "ShipOffice" "agreementCount" "I") (by decide +kernel)) (fun _ h9 => h9) rfl (by decide +kernel) rfl rfl (Nat.le_of_ble_eq_true rfl) dX10_sign_208 (fun H locs hP1 hD1 hS => ?_)
                          obtain ⟨S_173, eS_173⟩ : ∃ zq, zq = setI S_165 o 6 x_172 := ⟨_, rfl⟩
                          have hP : va_P (dC, dI) vwCl (oW cq S_173) H := by rw [eS_173]; exact cP (oset t_169.1 hq_170 hD rfl (he_10_6 t_169.2) neI) hP1
                          have hD : va_D A (oW cq S_173) := by rw [eS_173]; exact cD (oset t_169.1 hq_170 hD rfl (he_10_6 t_169.2) neI) hD1
                          clear hP1 hD1
                          have hIS_173 : oInv S_173 := by rw [eS_173]; exact oInv.I (k := 10) (lo := 0) (hi := 60) hIS_165 t_169.2 (by decide) rfl rfl (by omega) (inv_cnt hIS_165 t_169 rfl hsrS_165 (by omega) (by omega) ⟨_, by rw [← cnt_at (x := x_161) (S := S_165) (a := o) (i := 6) (by omega)]; exact helS_165⟩)
                          have XS_173 : oX S_165 S_173 := by rw [eS_173]; exact oX.I (k := 10) t_169.2 (by decide)
                          have X_174 : oX Z S_173 := oX.tr X_166 XS_173
                          have g_175 : (oI S_173 o 0).toInt = (oI S_165 o 0).toInt := by rw [eS_173, setI_ne (by decide)]
                          have g_176 : (oI S_173 o 6).toInt = x_172.toInt := by rw [eS_173, setI_same]
                          refine lv_aload_n hx hb dX10_sign_211 rfl (lv_at hl 5 rfl) ?_
                          have t_177 : oty S_173 o 10 := (oX.ty XS_173 t_169)
                          obtain ⟨q_178, hq_178⟩ := og (cq := cq) t_177.1 (oE_10 t_177.2)
                          refine va_get (D := (dC, dI)) (ci := 10) (v := .int (oI S_173 o 6)) (C := RX10) (T := TX10) (N := 16) hx hb hts in_wsX10_sign_X10 hown hK hP q_178 hq_178 rfl 6 (by decide) (hts (.fieldLink RX10 115 "ShipOffice" "agreementCount" "I") (by decide +kernel)) (fun _ h9 => h9) rfl dX10_sign_212 ?_
                          refine lv_topi (fun x_179 ex_179 => ?_)
                          have hx_179 : 0 ≤ x_179.toInt ∧ x_179.toInt ≤ 60 := iv_of ex_179 (oInv.iv hIS_173 t_177.2 rfl rfl)
                          have gx_179 : x_179.toInt = (oI S_173 o 6).toInt := iv_to ex_179
                          clear ex_179
                          refine lv_iconst (v := 1) hx hb dX10_sign_215 (by decide) ?_
                          refine lv_isub hx hb dX10_sign_216 ?_
                          refine lv_topi (fun x_180 ex_180 => ?_)
                          have hx_180 : x_180.toInt = x_179.toInt - 1 := (iv_to ex_180).trans (sb_i rfl (by decide) (by omega) (by omega))
                          clear ex_180
                          exact W.iret (v := x_180) hx hb hr (fun t ht hW => ⟨⟨x_180, S_173, rfl, ⟨hIS_173, X_174⟩, ⟨by rw [ht]; exact hP, va_K.moved hW.alike hK, hD⟩⟩, hS.F ht⟩) hS.2.2 dX10_sign_217
                        · have dc_130 := c_nlt (a := 0) (b := r_125.toInt) (by decide) rfl c_130
                          refine lv_aload_n hx hb dX10_sign_151 rfl (lv_at hl 4 rfl) ?_
                          refine lv_bipush (v := (-3)) hx hb dX10_sign_152 (by decide) ?_
                          have t_181 : oty S_126 o 10 := (oX.ty XS_126 to)
                          have hFc := o_free hD hS hA
                          obtain ⟨q_182, hq_182⟩ := og (cq := cq) t_181.1 (oE_10 t_181.2)
                          refine va_calli (va_runV (As := [.int (-3)]) (rest := []) ⟨hx, hb, hml, hown, hts⟩ (c_X10_refuse l dC dI H.size cq S_126 hIS_126 o t_181 (-3) (by decide)) (cwV 1 hts gX10_sign_X10_refuse rfl rfl rfl (by decide +kernel) ⟨(Nat.le_of_ble_eq_true rfl), (Nat.le_of_ble_eq_true rfl)⟩) (pr_V (r := (RX10, TX10, 16)) hP hK hD q_182 10 rfl hq_182) rfl rfl hl.1 rfl (lv_room (Nat.le_of_ble_eq_true rfl)) dX10_sign_154 ⟨(Nat.le_of_ble_eq_true rfl), (Nat.le_of_ble_eq_true rfl)⟩) hS (fun q _ h => hFc q h) hFc (fun r_184 u t H locs ht hvm w_183 hB hz1 hk1 hS => ?_)
                          obtain ⟨S_185, rfl⟩ : ∃ z, z = u := ⟨_, rfl⟩
                          obtain ⟨hP1, hK1, hD1⟩ := hB
                          rw [ht] at hP1
                          have hP : va_P (dC, dI) vwCl (oW cq S_185) H := hP1
                          have hD : va_D A (oW cq S_185) := hD1.weaken (fun _ _ _ h => hFc _ h)
                          clear hP1 hK1 hD1 hk1 hz1 hvm ht hFc
                          obtain ⟨hIS_185, XS_185, hb_186, hx_187⟩ := w_183
                          have X_188 : oX Z S_185 := oX.tr X_128 XS_185
                          have rf_189 : r_184.toInt = -3 := by rw [hx_187]; decide
                          refine W.widen (k := 4) (n := 64) (Nat.le_of_ble_eq_true rfl) (Nat.le_of_ble_eq_true rfl) ?_
                          exact W.iret (v := r_184) hx hb hr (fun t ht hW => ⟨⟨r_184, S_185, rfl, ⟨hIS_185, X_188⟩, ⟨by rw [ht]; exact hP, va_K.moved hW.alike hK, hD⟩⟩, hS.F ht⟩) hS.2.2 dX10_sign_157
                  · have dc_99 := c_nlt (a := x_98.toInt) (b := 60) rfl (by decide) c_99
                    refine lv_aload_n hx hb dX10_sign_88 rfl (lv_at hl 3 rfl) ?_
                    refine lv_bipush (v := (-6)) hx hb dX10_sign_89 (by decide) ?_
                    have hFc := o_free hD hS hA
                    refine va_calli (va_runV (As := [.int (-6)]) (rest := []) ⟨hx, hb, hml, hown, hts⟩ (c_X10_refuse l dC dI H.size cq Z gI o to (-6) (by decide)) (cwV 1 hts gX10_sign_X10_refuse rfl rfl rfl (by decide +kernel) ⟨(Nat.le_of_ble_eq_true rfl), (Nat.le_of_ble_eq_true rfl)⟩) (pr_V (r := (RX10, TX10, 16)) hP hK hD q_1 10 rfl hq_1) rfl rfl hl.1 rfl (lv_room (Nat.le_of_ble_eq_true rfl)) dX10_sign_91 ⟨(Nat.le_of_ble_eq_true rfl), (Nat.le_of_ble_eq_true rfl)⟩) hS (fun q _ h => hFc q h) hFc (fun r_191 u t H locs ht hvm w_190 hB hz1 hk1 hS => ?_)
                    obtain ⟨S_192, rfl⟩ : ∃ z, z = u := ⟨_, rfl⟩
                    obtain ⟨hP1, hK1, hD1⟩ := hB
                    rw [ht] at hP1
                    have hP : va_P (dC, dI) vwCl (oW cq S_192) H := hP1
                    have hD : va_D A (oW cq S_192) := hD1.weaken (fun _ _ _ h => hFc _ h)
                    clear hP1 hK1 hD1 hk1 hz1 hvm ht hFc
                    obtain ⟨hIS_192, XS_192, hb_193, hx_194⟩ := w_190
                    have X_195 : oX Z S_192 := XS_192
                    have rf_196 : r_191.toInt = -6 := by rw [hx_194]; decide
                    refine W.widen (k := 4) (n := 64) (Nat.le_of_ble_eq_true rfl) (Nat.le_of_ble_eq_true rfl) ?_
                    exact W.iret (v := r_191) hx hb hr (fun t ht hW => ⟨⟨r_191, S_192, rfl, ⟨hIS_192, X_195⟩, ⟨by rw [ht]; exact hP, va_K.moved hW.alike hK, hD⟩⟩, hS.F ht⟩) hS.2.2 dX10_sign_94
            · have dc_81 := c_nle (a := 0) (b := x4.toInt) (by decide) rfl c_81
              refine lv_aload_n hx hb dX10_sign_59 rfl (lv_at hl 3 rfl) ?_
              refine lv_bipush (v := (-4)) hx hb dX10_sign_60 (by decide) ?_
              have hFc := o_free hD hS hA
              refine va_calli (va_runV (As := [.int (-4)]) (rest := []) ⟨hx, hb, hml, hown, hts⟩ (c_X10_refuse l dC dI H.size cq Z gI o to (-4) (by decide)) (cwV 1 hts gX10_sign_X10_refuse rfl rfl rfl (by decide +kernel) ⟨(Nat.le_of_ble_eq_true rfl), (Nat.le_of_ble_eq_true rfl)⟩) (pr_V (r := (RX10, TX10, 16)) hP hK hD q_1 10 rfl hq_1) rfl rfl hl.1 rfl (lv_room (Nat.le_of_ble_eq_true rfl)) dX10_sign_62 ⟨(Nat.le_of_ble_eq_true rfl), (Nat.le_of_ble_eq_true rfl)⟩) hS (fun q _ h => hFc q h) hFc (fun r_198 u t H locs ht hvm w_197 hB hz1 hk1 hS => ?_)
              obtain ⟨S_199, rfl⟩ : ∃ z, z = u := ⟨_, rfl⟩
              obtain ⟨hP1, hK1, hD1⟩ := hB
              rw [ht] at hP1
              have hP : va_P (dC, dI) vwCl (oW cq S_199) H := hP1
              have hD : va_D A (oW cq S_199) := hD1.weaken (fun _ _ _ h => hFc _ h)
              clear hP1 hK1 hD1 hk1 hz1 hvm ht hFc
              obtain ⟨hIS_199, XS_199, hb_200, hx_201⟩ := w_197
              have X_202 : oX Z S_199 := XS_199
              have rf_203 : r_198.toInt = -4 := by rw [hx_201]; decide
              refine W.widen (k := 4) (n := 64) (Nat.le_of_ble_eq_true rfl) (Nat.le_of_ble_eq_true rfl) ?_
              exact W.iret (v := r_198) hx hb hr (fun t ht hW => ⟨⟨r_198, S_199, rfl, ⟨hIS_199, X_202⟩, ⟨by rw [ht]; exact hP, va_K.moved hW.alike hK, hD⟩⟩, hS.F ht⟩) hS.2.2 dX10_sign_65
        · have dc_72 := c_ne (a := x5.toInt) (b := (-1)) rfl (by decide) c_72
          refine lv_aload_n hx hb dX10_sign_43 rfl (lv_at hl 3 rfl) ?_
          refine lv_iconst (v := (-1)) hx hb dX10_sign_44 (by decide) ?_
          have hFc := o_free hD hS hA
          refine va_calli (va_runV (As := [.int (-1)]) (rest := []) ⟨hx, hb, hml, hown, hts⟩ (c_X10_refuse l dC dI H.size cq Z gI o to (-1) (by decide)) (cwV 1 hts gX10_sign_X10_refuse rfl rfl rfl (by decide +kernel) ⟨(Nat.le_of_ble_eq_true rfl), (Nat.le_of_ble_eq_true rfl)⟩) (pr_V (r := (RX10, TX10, 16)) hP hK hD q_1 10 rfl hq_1) rfl rfl hl.1 rfl (lv_room (Nat.le_of_ble_eq_true rfl)) dX10_sign_45 ⟨(Nat.le_of_ble_eq_true rfl), (Nat.le_of_ble_eq_true rfl)⟩) hS (fun q _ h => hFc q h) hFc (fun r_205 u t H locs ht hvm w_204 hB hz1 hk1 hS => ?_)
          obtain ⟨S_206, rfl⟩ : ∃ z, z = u := ⟨_, rfl⟩
          obtain ⟨hP1, hK1, hD1⟩ := hB
          rw [ht] at hP1
          have hP : va_P (dC, dI) vwCl (oW cq S_206) H := hP1
          have hD : va_D A (oW cq S_206) := hD1.weaken (fun _ _ _ h => hFc _ h)
          clear hP1 hK1 hD1 hk1 hz1 hvm ht hFc
          obtain ⟨hIS_206, XS_206, hb_207, hx_208⟩ := w_204
          have X_209 : oX Z S_206 := XS_206
          have rf_210 : r_205.toInt = -1 := by rw [hx_208]; decide
          refine W.widen (k := 4) (n := 64) (Nat.le_of_ble_eq_true rfl) (Nat.le_of_ble_eq_true rfl) ?_
          exact W.iret (v := r_205) hx hb hr (fun t ht hW => ⟨⟨r_205, S_206, rfl, ⟨hIS_206, X_209⟩, ⟨by rw [ht]; exact hP, va_K.moved hW.alike hK, hD⟩⟩, hS.F ht⟩) hS.2.2 dX10_sign_48
      · refine W.eq (g2 := F0 m 20 ls [.ref b_71]) rfl ?_
        have tb_71 : oty Z b_71 1 := hk_70 b_71 rfl
        refine lv_astore (lv' := [(8, .ref b_71), (7, .ref b_49), (6, .ref b_5), (0, .ref o), (1, .int x1), (2, .int x2), (3, .int x3), (4, .int x4), (5, .int x5)]) hx hb dX10_sign_20 hl (by decide) rfl (fun ls hl => ?_)
        refine lv_aload hx hb dX10_sign_22 (lv_at hl 2 rfl) ?_
        refine lv_ifnull hx hb dX10_sign_24 ?_
        refine lv_aload hx hb dX10_sign_27 (lv_at hl 1 rfl) ?_
        refine lv_ifnull hx hb dX10_sign_29 ?_
        refine lv_aload hx hb dX10_sign_32 (lv_at hl 0 rfl) ?_
        refine lv_ifnonnull (tgt := 49) hx hb dX10_sign_34 (by decide) ?_
        refine lv_iload_n hx hb dX10_sign_49 rfl (lv_at hl 6 rfl) ?_
        refine lv_iconst (v := 1) hx hb dX10_sign_50 (by decide) ?_
        refine lv_icmp_lt (tgt := 59) hx hb dX10_sign_51 (by decide) (fun c_211 => ?_) (fun c_211 => ?_)
        · have dc_211 := c_lt (a := x3.toInt) (b := 1) rfl (by decide) c_211
          refine lv_aload_n hx hb dX10_sign_59 rfl (lv_at hl 3 rfl) ?_
          refine lv_bipush (v := (-4)) hx hb dX10_sign_60 (by decide) ?_
          have hFc := o_free hD hS hA
          refine va_calli (va_runV (As := [.int (-4)]) (rest := []) ⟨hx, hb, hml, hown, hts⟩ (c_X10_refuse l dC dI H.size cq Z gI o to (-4) (by decide)) (cwV 1 hts gX10_sign_X10_refuse rfl rfl rfl (by decide +kernel) ⟨(Nat.le_of_ble_eq_true rfl), (Nat.le_of_ble_eq_true rfl)⟩) (pr_V (r := (RX10, TX10, 16)) hP hK hD q_1 10 rfl hq_1) rfl rfl hl.1 rfl (lv_room (Nat.le_of_ble_eq_true rfl)) dX10_sign_62 ⟨(Nat.le_of_ble_eq_true rfl), (Nat.le_of_ble_eq_true rfl)⟩) hS (fun q _ h => hFc q h) hFc (fun r_213 u t H locs ht hvm w_212 hB hz1 hk1 hS => ?_)
          obtain ⟨S_214, rfl⟩ : ∃ z, z = u := ⟨_, rfl⟩
          obtain ⟨hP1, hK1, hD1⟩ := hB
          rw [ht] at hP1
          have hP : va_P (dC, dI) vwCl (oW cq S_214) H := hP1
          have hD : va_D A (oW cq S_214) := hD1.weaken (fun _ _ _ h => hFc _ h)
          clear hP1 hK1 hD1 hk1 hz1 hvm ht hFc
          obtain ⟨hIS_214, XS_214, hb_215, hx_216⟩ := w_212
          have X_217 : oX Z S_214 := XS_214
          have rf_218 : r_213.toInt = -4 := by rw [hx_216]; decide
          refine W.widen (k := 4) (n := 64) (Nat.le_of_ble_eq_true rfl) (Nat.le_of_ble_eq_true rfl) ?_
          exact W.iret (v := r_213) hx hb hr (fun t ht hW => ⟨⟨r_213, S_214, rfl, ⟨hIS_214, X_217⟩, ⟨by rw [ht]; exact hP, va_K.moved hW.alike hK, hD⟩⟩, hS.F ht⟩) hS.2.2 dX10_sign_65
        · have dc_211 := c_nlt (a := x3.toInt) (b := 1) rfl (by decide) c_211
          refine lv_iload hx hb dX10_sign_54 (lv_at hl 7 rfl) ?_
          refine lv_if_ge (tgt := 66) hx hb dX10_sign_56 (by decide) (fun c_219 => ?_) (fun c_219 => ?_)
          · have dc_219 := c_le (a := 0) (b := x4.toInt) (by decide) rfl c_219
            refine lv_iload_n hx hb dX10_sign_66 rfl (lv_at hl 6 rfl) ?_
            refine lv_sipush (v := 9999) hx hb dX10_sign_67 (by decide) ?_
            refine lv_icmp_gt (tgt := 88) hx hb dX10_sign_70 (by decide) (fun c_220 => ?_) (fun c_220 => ?_)
            · have dc_220 := c_lt (a := 9999) (b := x3.toInt) (by decide) rfl c_220
              refine lv_aload_n hx hb dX10_sign_88 rfl (lv_at hl 3 rfl) ?_
              refine lv_bipush (v := (-6)) hx hb dX10_sign_89 (by decide) ?_
              have hFc := o_free hD hS hA
              refine va_calli (va_runV (As := [.int (-6)]) (rest := []) ⟨hx, hb, hml, hown, hts⟩ (c_X10_refuse l dC dI H.size cq Z gI o to (-6) (by decide)) (cwV 1 hts gX10_sign_X10_refuse rfl rfl rfl (by decide +kernel) ⟨(Nat.le_of_ble_eq_true rfl), (Nat.le_of_ble_eq_true rfl)⟩) (pr_V (r := (RX10, TX10, 16)) hP hK hD q_1 10 rfl hq_1) rfl rfl hl.1 rfl (lv_room (Nat.le_of_ble_eq_true rfl)) dX10_sign_91 ⟨(Nat.le_of_ble_eq_true rfl), (Nat.le_of_ble_eq_true rfl)⟩) hS (fun q _ h => hFc q h) hFc (fun r_222 u t H locs ht hvm w_221 hB hz1 hk1 hS => ?_)
              obtain ⟨S_223, rfl⟩ : ∃ z, z = u := ⟨_, rfl⟩
              obtain ⟨hP1, hK1, hD1⟩ := hB
              rw [ht] at hP1
              have hP : va_P (dC, dI) vwCl (oW cq S_223) H := hP1
              have hD : va_D A (oW cq S_223) := hD1.weaken (fun _ _ _ h => hFc _ h)
              clear hP1 hK1 hD1 hk1 hz1 hvm ht hFc
              obtain ⟨hIS_223, XS_223, hb_224, hx_225⟩ := w_221
              have X_226 : oX Z S_223 := XS_223
              have rf_227 : r_222.toInt = -6 := by rw [hx_225]; decide
              refine W.widen (k := 4) (n := 64) (Nat.le_of_ble_eq_true rfl) (Nat.le_of_ble_eq_true rfl) ?_
              exact W.iret (v := r_222) hx hb hr (fun t ht hW => ⟨⟨r_222, S_223, rfl, ⟨hIS_223, X_226⟩, ⟨by rw [ht]; exact hP, va_K.moved hW.alike hK, hD⟩⟩, hS.F ht⟩) hS.2.2 dX10_sign_94
            · have dc_220 := c_nlt (a := 9999) (b := x3.toInt) (by decide) rfl c_220
              refine lv_iload hx hb dX10_sign_73 (lv_at hl 7 rfl) ?_
              refine lv_iconst (v := 4) hx hb dX10_sign_75 (by decide) ?_
              refine lv_icmp_ge (tgt := 88) hx hb dX10_sign_76 (by decide) (fun c_228 => ?_) (fun c_228 => ?_)
              · have dc_228 := c_le (a := 4) (b := x4.toInt) (by decide) rfl c_228
                refine lv_aload_n hx hb dX10_sign_88 rfl (lv_at hl 3 rfl) ?_
                refine lv_bipush (v := (-6)) hx hb dX10_sign_89 (by decide) ?_
                have hFc := o_free hD hS hA
                refine va_calli (va_runV (As := [.int (-6)]) (rest := []) ⟨hx, hb, hml, hown, hts⟩ (c_X10_refuse l dC dI H.size cq Z gI o to (-6) (by decide)) (cwV 1 hts gX10_sign_X10_refuse rfl rfl rfl (by decide +kernel) ⟨(Nat.le_of_ble_eq_true rfl), (Nat.le_of_ble_eq_true rfl)⟩) (pr_V (r := (RX10, TX10, 16)) hP hK hD q_1 10 rfl hq_1) rfl rfl hl.1 rfl (lv_room (Nat.le_of_ble_eq_true rfl)) dX10_sign_91 ⟨(Nat.le_of_ble_eq_true rfl), (Nat.le_of_ble_eq_true rfl)⟩) hS (fun q _ h => hFc q h) hFc (fun r_230 u t H locs ht hvm w_229 hB hz1 hk1 hS => ?_)
                obtain ⟨S_231, rfl⟩ : ∃ z, z = u := ⟨_, rfl⟩
                obtain ⟨hP1, hK1, hD1⟩ := hB
                rw [ht] at hP1
                have hP : va_P (dC, dI) vwCl (oW cq S_231) H := hP1
                have hD : va_D A (oW cq S_231) := hD1.weaken (fun _ _ _ h => hFc _ h)
                clear hP1 hK1 hD1 hk1 hz1 hvm ht hFc
                obtain ⟨hIS_231, XS_231, hb_232, hx_233⟩ := w_229
                have X_234 : oX Z S_231 := XS_231
                have rf_235 : r_230.toInt = -6 := by rw [hx_233]; decide
                refine W.widen (k := 4) (n := 64) (Nat.le_of_ble_eq_true rfl) (Nat.le_of_ble_eq_true rfl) ?_
                exact W.iret (v := r_230) hx hb hr (fun t ht hW => ⟨⟨r_230, S_231, rfl, ⟨hIS_231, X_234⟩, ⟨by rw [ht]; exact hP, va_K.moved hW.alike hK, hD⟩⟩, hS.F ht⟩) hS.2.2 dX10_sign_94
              · have dc_228 := c_nle (a := 4) (b := x4.toInt) (by decide) rfl c_228
                refine lv_aload_n hx hb dX10_sign_79 rfl (lv_at hl 3 rfl) ?_
                refine va_get (D := (dC, dI)) (ci := 10) (v := .int (oI Z o 6)) (C := RX10) (T := TX10) (N := 16) hx hb hts in_wsX10_sign_X10 hown hK hP q_1 hq_1 rfl 6 (by decide) (hts (.fieldLink RX10 115 "ShipOffice" "agreementCount" "I") (by decide +kernel)) (fun _ h9 => h9) rfl dX10_sign_80 ?_
                refine lv_topi (fun x_236 ex_236 => ?_)
                have hx_236 : 0 ≤ x_236.toInt ∧ x_236.toInt ≤ 60 := iv_of ex_236 (oInv.iv gI to.2 rfl rfl)
                have gx_236 : x_236.toInt = (oI Z o 6).toInt := iv_to ex_236
                clear ex_236
                refine lv_bipush (v := 60) hx hb dX10_sign_83 (by decide) ?_
                refine lv_icmp_lt (tgt := 95) hx hb dX10_sign_85 (by decide) (fun c_237 => ?_) (fun c_237 => ?_)
                · have dc_237 := c_lt (a := x_236.toInt) (b := 60) rfl (by decide) c_237
                  refine lv_aload hx hb dX10_sign_95 (lv_at hl 0 rfl) ?_
                  refine lv_ifnull hx hb dX10_sign_97 ?_
                  refine lv_aload hx hb dX10_sign_100 (lv_at hl 0 rfl) ?_
                  obtain ⟨q_238, hq_238⟩ := og (cq := cq) tb_71.1 (oE_1 tb_71.2)
                  refine va_get (D := (dC, dI)) (ci := 1) (v := .int (oI Z b_71 6)) (C := RX1) (T := TX1) (N := 18) hx hb hts in_wsX10_sign_X1 hown hK hP q_238 hq_238 rfl 6 (by decide) (hts (.fieldLink RX10 126 "ShipOffice$Agreement" "offDay" "I") (by decide +kernel)) (fun _ h9 => h9) rfl dX10_sign_102 ?_
                  refine lv_topi (fun x_239 ex_239 => ?_)
                  have gx_239 : x_239.toInt = (oI Z b_71 6).toInt := iv_to ex_239
                  clear ex_239
                  refine lv_ldc (v := 1000000) hx hb hown (hts (.constant RX10 114 (1000000)) (by decide +kernel)) dX10_sign_105 ?_
                  refine lv_icmp_eq (tgt := 114) hx hb dX10_sign_107 (by decide) (fun c_240 => ?_) (fun c_240 => ?_)
                  · have dc_240 := c_eq (a := x_239.toInt) (b := 1000000) rfl (by decide) c_240
                    refine lv_iconst (v := 0) hx hb dX10_sign_114 (by decide) ?_
                    refine lv_istore (lv' := [(9, .int 0), (8, .ref b_71), (7, .ref b_49), (6, .ref b_5), (0, .ref o), (1, .int x1), (2, .int x2), (3, .int x3), (4, .int x4), (5, .int x5)]) hx hb dX10_sign_115 hl (by decide) rfl (fun ls hl => ?_)
                    refine lv_aload hx hb dX10_sign_117 (lv_at hl 2 rfl) ?_
                    have hFc : ∀ q, va_A [] H.size q → A q := pu_free hS hA
                    obtain ⟨q_241, hq_241⟩ := og (cq := cq) tb_49.1 (oE_9 tb_49.2)
                    refine va_calli (va_runV (As := []) (rest := []) ⟨hx, hb, hml, hown, hts⟩ (c_X9_takesHands l dC dI H.size cq Z gI b_49 tb_49) (cwV 0 hts gX10_sign_X9_takesHands rfl rfl rfl (by decide +kernel) ⟨(Nat.le_of_ble_eq_true rfl), (Nat.le_of_ble_eq_true rfl)⟩) (pr_V (r := (RX9, TX9, 10)) hP hK hD q_241 9 rfl hq_241) rfl rfl hl.1 rfl (lv_room (Nat.le_of_ble_eq_true rfl)) dX10_sign_119 ⟨(Nat.le_of_ble_eq_true rfl), (Nat.le_of_ble_eq_true rfl)⟩) hS (fun q _ h => hFc q h) hFc (fun r_243 u t H locs ht hvm w_242 hB hz1 hk1 hS => ?_)
                    have hP := pu_keep hP hk1
                    clear hk1 hz1 hvm hB ht hFc
                    have hb_244 := w_242
                    refine lv_if_eq (tgt := 151) hx hb dX10_sign_122 (by decide) (fun c_245 => ?_) (fun c_245 => ?_)
                    · have dc_245 := c_eq (a := r_243.toInt) (b := 0) rfl (by decide) c_245
                      refine lv_aload_n hx hb dX10_sign_151 rfl (lv_at hl 4 rfl) ?_
                      refine lv_bipush (v := (-3)) hx hb dX10_sign_152 (by decide) ?_
                      have hFc := o_free hD hS hA
                      refine va_calli (va_runV (As := [.int (-3)]) (rest := []) ⟨hx, hb, hml, hown, hts⟩ (c_X10_refuse l dC dI H.size cq Z gI o to (-3) (by decide)) (cwV 1 hts gX10_sign_X10_refuse rfl rfl rfl (by decide +kernel) ⟨(Nat.le_of_ble_eq_true rfl), (Nat.le_of_ble_eq_true rfl)⟩) (pr_V (r := (RX10, TX10, 16)) hP hK hD q_1 10 rfl hq_1) rfl rfl hl.1 rfl (lv_room (Nat.le_of_ble_eq_true rfl)) dX10_sign_154 ⟨(Nat.le_of_ble_eq_true rfl), (Nat.le_of_ble_eq_true rfl)⟩) hS (fun q _ h => hFc q h) hFc (fun r_247 u t H locs ht hvm w_246 hB hz1 hk1 hS => ?_)
                      obtain ⟨S_248, rfl⟩ : ∃ z, z = u := ⟨_, rfl⟩
                      obtain ⟨hP1, hK1, hD1⟩ := hB
                      rw [ht] at hP1
                      have hP : va_P (dC, dI) vwCl (oW cq S_248) H := hP1
                      have hD : va_D A (oW cq S_248) := hD1.weaken (fun _ _ _ h => hFc _ h)
                      clear hP1 hK1 hD1 hk1 hz1 hvm ht hFc
                      obtain ⟨hIS_248, XS_248, hb_249, hx_250⟩ := w_246
                      have X_251 : oX Z S_248 := XS_248
                      have rf_252 : r_247.toInt = -3 := by rw [hx_250]; decide
                      refine W.widen (k := 4) (n := 64) (Nat.le_of_ble_eq_true rfl) (Nat.le_of_ble_eq_true rfl) ?_
                      exact W.iret (v := r_247) hx hb hr (fun t ht hW => ⟨⟨r_247, S_248, rfl, ⟨hIS_248, X_251⟩, ⟨by rw [ht]; exact hP, va_K.moved hW.alike hK, hD⟩⟩, hS.F ht⟩) hS.2.2 dX10_sign_157
                    · have dc_245 := c_ne (a := r_243.toInt) (b := 0) rfl (by decide) c_245
                      refine lv_aload_n hx hb dX10_sign_125 rfl (lv_at hl 4 rfl) ?_
                      refine lv_aload hx hb dX10_sign_126 (lv_at hl 3 rfl) ?_
                      have hFc : ∀ q, va_A [] H.size q → A q := pu_free hS hA
                      refine va_calli (va_runV (As := [.ref b_5]) (rest := []) ⟨hx, hb, hml, hown, hts⟩ (c_X10_isFree l dC dI H.size cq Z gI o to b_5 tb_5) (cwV 1 hts gX10_sign_X10_isFree rfl rfl rfl (by decide +kernel) ⟨(Nat.le_of_ble_eq_true rfl), (Nat.le_of_ble_eq_true rfl)⟩) (pr_V (r := (RX10, TX10, 16)) hP hK hD q_1 10 rfl hq_1) rfl rfl hl.1 rfl (lv_room (Nat.le_of_ble_eq_true rfl)) dX10_sign_128 ⟨(Nat.le_of_ble_eq_true rfl), (Nat.le_of_ble_eq_true rfl)⟩) hS (fun q _ h => hFc q h) hFc (fun r_254 u t H locs ht hvm w_253 hB hz1 hk1 hS => ?_)
                      have hP := pu_keep hP hk1
                      clear hk1 hz1 hvm hB ht hFc
                      have hb_255 := w_253
                      refine lv_if_eq (tgt := 151) hx hb dX10_sign_131 (by decide) (fun c_256 => ?_) (fun c_256 => ?_)
                      · have dc_256 := c_eq (a := r_254.toInt) (b := 0) rfl (by decide) c_256
                        refine lv_aload_n hx hb dX10_sign_151 rfl (lv_at hl 4 rfl) ?_
                        refine lv_bipush (v := (-3)) hx hb dX10_sign_152 (by decide) ?_
                        have hFc := o_free hD hS hA
                        refine va_calli (va_runV (As := [.int (-3)]) (rest := []) ⟨hx, hb, hml, hown, hts⟩ (c_X10_refuse l dC dI H.size cq Z gI o to (-3) (by decide)) (cwV 1 hts gX10_sign_X10_refuse rfl rfl rfl (by decide +kernel) ⟨(Nat.le_of_ble_eq_true rfl), (Nat.le_of_ble_eq_true rfl)⟩) (pr_V (r := (RX10, TX10, 16)) hP hK hD q_1 10 rfl hq_1) rfl rfl hl.1 rfl (lv_room (Nat.le_of_ble_eq_true rfl)) dX10_sign_154 ⟨(Nat.le_of_ble_eq_true rfl), (Nat.le_of_ble_eq_true rfl)⟩) hS (fun q _ h => hFc q h) hFc (fun r_258 u t H locs ht hvm w_257 hB hz1 hk1 hS => ?_)
                        obtain ⟨S_259, rfl⟩ : ∃ z, z = u := ⟨_, rfl⟩
                        obtain ⟨hP1, hK1, hD1⟩ := hB
                        rw [ht] at hP1
                        have hP : va_P (dC, dI) vwCl (oW cq S_259) H := hP1
                        have hD : va_D A (oW cq S_259) := hD1.weaken (fun _ _ _ h => hFc _ h)
                        clear hP1 hK1 hD1 hk1 hz1 hvm ht hFc
                        obtain ⟨hIS_259, XS_259, hb_260, hx_261⟩ := w_257
                        have X_262 : oX Z S_259 := XS_259
                        have rf_263 : r_258.toInt = -3 := by rw [hx_261]; decide
                        refine W.widen (k := 4) (n := 64) (Nat.le_of_ble_eq_true rfl) (Nat.le_of_ble_eq_true rfl) ?_
                        exact W.iret (v := r_258) hx hb hr (fun t ht hW => ⟨⟨r_258, S_259, rfl, ⟨hIS_259, X_262⟩, ⟨by rw [ht]; exact hP, va_K.moved hW.alike hK, hD⟩⟩, hS.F ht⟩) hS.2.2 dX10_sign_157
                      · have dc_256 := c_ne (a := r_254.toInt) (b := 0) rfl (by decide) c_256
                        refine lv_iload hx hb dX10_sign_134 (lv_at hl 0 rfl) ?_
                        refine lv_if_eq (tgt := 151) hx hb dX10_sign_136 (by decide) (fun _ => ?_) (fun c_264 => absurd c_264 (by decide))
                        refine lv_aload_n hx hb dX10_sign_151 rfl (lv_at hl 4 rfl) ?_
                        refine lv_bipush (v := (-3)) hx hb dX10_sign_152 (by decide) ?_
                        have hFc := o_free hD hS hA
                        refine va_calli (va_runV (As := [.int (-3)]) (rest := []) ⟨hx, hb, hml, hown, hts⟩ (c_X10_refuse l dC dI H.size cq Z gI o to (-3) (by decide)) (cwV 1 hts gX10_sign_X10_refuse rfl rfl rfl (by decide +kernel) ⟨(Nat.le_of_ble_eq_true rfl), (Nat.le_of_ble_eq_true rfl)⟩) (pr_V (r := (RX10, TX10, 16)) hP hK hD q_1 10 rfl hq_1) rfl rfl hl.1 rfl (lv_room (Nat.le_of_ble_eq_true rfl)) dX10_sign_154 ⟨(Nat.le_of_ble_eq_true rfl), (Nat.le_of_ble_eq_true rfl)⟩) hS (fun q _ h => hFc q h) hFc (fun r_266 u t H locs ht hvm w_265 hB hz1 hk1 hS => ?_)
                        obtain ⟨S_267, rfl⟩ : ∃ z, z = u := ⟨_, rfl⟩
                        obtain ⟨hP1, hK1, hD1⟩ := hB
                        rw [ht] at hP1
                        have hP : va_P (dC, dI) vwCl (oW cq S_267) H := hP1
                        have hD : va_D A (oW cq S_267) := hD1.weaken (fun _ _ _ h => hFc _ h)
                        clear hP1 hK1 hD1 hk1 hz1 hvm ht hFc
                        obtain ⟨hIS_267, XS_267, hb_268, hx_269⟩ := w_265
                        have X_270 : oX Z S_267 := XS_267
                        have rf_271 : r_266.toInt = -3 := by rw [hx_269]; decide
                        refine W.widen (k := 4) (n := 64) (Nat.le_of_ble_eq_true rfl) (Nat.le_of_ble_eq_true rfl) ?_
                        exact W.iret (v := r_266) hx hb hr (fun t ht hW => ⟨⟨r_266, S_267, rfl, ⟨hIS_267, X_270⟩, ⟨by rw [ht]; exact hP, va_K.moved hW.alike hK, hD⟩⟩, hS.F ht⟩) hS.2.2 dX10_sign_157
                  · have dc_240 := c_ne (a := x_239.toInt) (b := 1000000) rfl (by decide) c_240
                    refine lv_iconst (v := 1) hx hb dX10_sign_110 (by decide) ?_
                    refine lv_goto (tgt := 115) hx hb dX10_sign_111 (by decide) ?_
                    refine lv_istore (lv' := [(9, .int 1), (8, .ref b_71), (7, .ref b_49), (6, .ref b_5), (0, .ref o), (1, .int x1), (2, .int x2), (3, .int x3), (4, .int x4), (5, .int x5)]) hx hb dX10_sign_115 hl (by decide) rfl (fun ls hl => ?_)
                    refine lv_aload hx hb dX10_sign_117 (lv_at hl 2 rfl) ?_
                    have hFc : ∀ q, va_A [] H.size q → A q := pu_free hS hA
                    obtain ⟨q_272, hq_272⟩ := og (cq := cq) tb_49.1 (oE_9 tb_49.2)
                    refine va_calli (va_runV (As := []) (rest := []) ⟨hx, hb, hml, hown, hts⟩ (c_X9_takesHands l dC dI H.size cq Z gI b_49 tb_49) (cwV 0 hts gX10_sign_X9_takesHands rfl rfl rfl (by decide +kernel) ⟨(Nat.le_of_ble_eq_true rfl), (Nat.le_of_ble_eq_true rfl)⟩) (pr_V (r := (RX9, TX9, 10)) hP hK hD q_272 9 rfl hq_272) rfl rfl hl.1 rfl (lv_room (Nat.le_of_ble_eq_true rfl)) dX10_sign_119 ⟨(Nat.le_of_ble_eq_true rfl), (Nat.le_of_ble_eq_true rfl)⟩) hS (fun q _ h => hFc q h) hFc (fun r_274 u t H locs ht hvm w_273 hB hz1 hk1 hS => ?_)
                    have hP := pu_keep hP hk1
                    clear hk1 hz1 hvm hB ht hFc
                    have hb_275 := w_273
                    refine lv_if_eq (tgt := 151) hx hb dX10_sign_122 (by decide) (fun c_276 => ?_) (fun c_276 => ?_)
                    · have dc_276 := c_eq (a := r_274.toInt) (b := 0) rfl (by decide) c_276
                      refine lv_aload_n hx hb dX10_sign_151 rfl (lv_at hl 4 rfl) ?_
                      refine lv_bipush (v := (-3)) hx hb dX10_sign_152 (by decide) ?_
                      have hFc := o_free hD hS hA
                      refine va_calli (va_runV (As := [.int (-3)]) (rest := []) ⟨hx, hb, hml, hown, hts⟩ (c_X10_refuse l dC dI H.size cq Z gI o to (-3) (by decide)) (cwV 1 hts gX10_sign_X10_refuse rfl rfl rfl (by decide +kernel) ⟨(Nat.le_of_ble_eq_true rfl), (Nat.le_of_ble_eq_true rfl)⟩) (pr_V (r := (RX10, TX10, 16)) hP hK hD q_1 10 rfl hq_1) rfl rfl hl.1 rfl (lv_room (Nat.le_of_ble_eq_true rfl)) dX10_sign_154 ⟨(Nat.le_of_ble_eq_true rfl), (Nat.le_of_ble_eq_true rfl)⟩) hS (fun q _ h => hFc q h) hFc (fun r_278 u t H locs ht hvm w_277 hB hz1 hk1 hS => ?_)
                      obtain ⟨S_279, rfl⟩ : ∃ z, z = u := ⟨_, rfl⟩
                      obtain ⟨hP1, hK1, hD1⟩ := hB
                      rw [ht] at hP1
                      have hP : va_P (dC, dI) vwCl (oW cq S_279) H := hP1
                      have hD : va_D A (oW cq S_279) := hD1.weaken (fun _ _ _ h => hFc _ h)
                      clear hP1 hK1 hD1 hk1 hz1 hvm ht hFc
                      obtain ⟨hIS_279, XS_279, hb_280, hx_281⟩ := w_277
                      have X_282 : oX Z S_279 := XS_279
                      have rf_283 : r_278.toInt = -3 := by rw [hx_281]; decide
                      refine W.widen (k := 4) (n := 64) (Nat.le_of_ble_eq_true rfl) (Nat.le_of_ble_eq_true rfl) ?_
                      exact W.iret (v := r_278) hx hb hr (fun t ht hW => ⟨⟨r_278, S_279, rfl, ⟨hIS_279, X_282⟩, ⟨by rw [ht]; exact hP, va_K.moved hW.alike hK, hD⟩⟩, hS.F ht⟩) hS.2.2 dX10_sign_157
                    · have dc_276 := c_ne (a := r_274.toInt) (b := 0) rfl (by decide) c_276
                      refine lv_aload_n hx hb dX10_sign_125 rfl (lv_at hl 4 rfl) ?_
                      refine lv_aload hx hb dX10_sign_126 (lv_at hl 3 rfl) ?_
                      have hFc : ∀ q, va_A [] H.size q → A q := pu_free hS hA
                      refine va_calli (va_runV (As := [.ref b_5]) (rest := []) ⟨hx, hb, hml, hown, hts⟩ (c_X10_isFree l dC dI H.size cq Z gI o to b_5 tb_5) (cwV 1 hts gX10_sign_X10_isFree rfl rfl rfl (by decide +kernel) ⟨(Nat.le_of_ble_eq_true rfl), (Nat.le_of_ble_eq_true rfl)⟩) (pr_V (r := (RX10, TX10, 16)) hP hK hD q_1 10 rfl hq_1) rfl rfl hl.1 rfl (lv_room (Nat.le_of_ble_eq_true rfl)) dX10_sign_128 ⟨(Nat.le_of_ble_eq_true rfl), (Nat.le_of_ble_eq_true rfl)⟩) hS (fun q _ h => hFc q h) hFc (fun r_285 u t H locs ht hvm w_284 hB hz1 hk1 hS => ?_)
                      have hP := pu_keep hP hk1
                      clear hk1 hz1 hvm hB ht hFc
                      have hb_286 := w_284
                      refine lv_if_eq (tgt := 151) hx hb dX10_sign_131 (by decide) (fun c_287 => ?_) (fun c_287 => ?_)
                      · have dc_287 := c_eq (a := r_285.toInt) (b := 0) rfl (by decide) c_287
                        refine lv_aload_n hx hb dX10_sign_151 rfl (lv_at hl 4 rfl) ?_
                        refine lv_bipush (v := (-3)) hx hb dX10_sign_152 (by decide) ?_
                        have hFc := o_free hD hS hA
                        refine va_calli (va_runV (As := [.int (-3)]) (rest := []) ⟨hx, hb, hml, hown, hts⟩ (c_X10_refuse l dC dI H.size cq Z gI o to (-3) (by decide)) (cwV 1 hts gX10_sign_X10_refuse rfl rfl rfl (by decide +kernel) ⟨(Nat.le_of_ble_eq_true rfl), (Nat.le_of_ble_eq_true rfl)⟩) (pr_V (r := (RX10, TX10, 16)) hP hK hD q_1 10 rfl hq_1) rfl rfl hl.1 rfl (lv_room (Nat.le_of_ble_eq_true rfl)) dX10_sign_154 ⟨(Nat.le_of_ble_eq_true rfl), (Nat.le_of_ble_eq_true rfl)⟩) hS (fun q _ h => hFc q h) hFc (fun r_289 u t H locs ht hvm w_288 hB hz1 hk1 hS => ?_)
                        obtain ⟨S_290, rfl⟩ : ∃ z, z = u := ⟨_, rfl⟩
                        obtain ⟨hP1, hK1, hD1⟩ := hB
                        rw [ht] at hP1
                        have hP : va_P (dC, dI) vwCl (oW cq S_290) H := hP1
                        have hD : va_D A (oW cq S_290) := hD1.weaken (fun _ _ _ h => hFc _ h)
                        clear hP1 hK1 hD1 hk1 hz1 hvm ht hFc
                        obtain ⟨hIS_290, XS_290, hb_291, hx_292⟩ := w_288
                        have X_293 : oX Z S_290 := XS_290
                        have rf_294 : r_289.toInt = -3 := by rw [hx_292]; decide
                        refine W.widen (k := 4) (n := 64) (Nat.le_of_ble_eq_true rfl) (Nat.le_of_ble_eq_true rfl) ?_
                        exact W.iret (v := r_289) hx hb hr (fun t ht hW => ⟨⟨r_289, S_290, rfl, ⟨hIS_290, X_293⟩, ⟨by rw [ht]; exact hP, va_K.moved hW.alike hK, hD⟩⟩, hS.F ht⟩) hS.2.2 dX10_sign_157
                      · have dc_287 := c_ne (a := r_285.toInt) (b := 0) rfl (by decide) c_287
                        refine lv_iload hx hb dX10_sign_134 (lv_at hl 0 rfl) ?_
                        refine lv_if_eq (tgt := 151) hx hb dX10_sign_136 (by decide) (fun c_295 => absurd c_295 (by decide)) (fun _ => ?_)
                        refine lv_aload_n hx hb dX10_sign_139 rfl (lv_at hl 4 rfl) ?_
                        refine lv_aload hx hb dX10_sign_140 (lv_at hl 3 rfl) ?_
                        refine lv_iload_n hx hb dX10_sign_142 rfl (lv_at hl 7 rfl) ?_
                        refine lv_iload hx hb dX10_sign_143 (lv_at hl 8 rfl) ?_
                        have hFc := o_free hD hS hA
                        refine va_calli (va_runV (As := [.ref b_5, .int x3, .int x4]) (rest := []) ⟨hx, hb, hml, hown, hts⟩ (c_X10_signWorth_w l dC dI H.size cq Z gI o to b_5 tb_5 x3 x4) (cwV 3 hts gX10_sign_X10_signWorth rfl rfl rfl (by decide +kernel) ⟨(Nat.le_of_ble_eq_true rfl), (Nat.le_of_ble_eq_true rfl)⟩) (pr_V (r := (RX10, TX10, 16)) hP hK hD q_1 10 rfl hq_1) rfl rfl hl.1 rfl (lv_room (Nat.le_of_ble_eq_true rfl)) dX10_sign_145 ⟨(Nat.le_of_ble_eq_true rfl), (Nat.le_of_ble_eq_true rfl)⟩) hS (fun q _ h => hFc q h) hFc (fun r_297 u t H locs ht hvm w_296 hB hz1 hk1 hS => ?_)
                        obtain ⟨S_298, rfl⟩ : ∃ z, z = u := ⟨_, rfl⟩
                        obtain ⟨hP1, hK1, hD1⟩ := hB
                        rw [ht] at hP1
                        have hP : va_P (dC, dI) vwCl (oW cq S_298) H := hP1
                        have hD : va_D A (oW cq S_298) := hD1.weaken (fun _ _ _ h => hFc _ h)
                        clear hP1 hK1 hD1 hk1 hz1 hvm ht hFc
                        obtain ⟨hIS_298, XS_298, hx_299⟩ := w_296
                        have X_300 : oX Z S_298 := XS_298
                        have g_301 : (oI S_298 o 6).toInt = (oI Z o 6).toInt := hx_299
                        refine lv_if_gt (tgt := 158) hx hb dX10_sign_148 (by decide) (fun c_302 => ?_) (fun c_302 => ?_)
                        · have dc_302 := c_lt (a := 0) (b := r_297.toInt) (by decide) rfl c_302
                          refine va_new (ci := 1) (fs := [.null, .null, .int 0, .null, .int 0, .int 0, .int 0, .int 0, .null, .int 0, .int 0, .int 0, .null, .int 0, .null, .null, .int 0, .int 0]) (C := RX1) (T := TX1) (N := 18) hx hb hts in_wsX10_sign_X1 tyX1 tyX1_ok hown (hts (.classLink RX10 21 RX1) (by decide +kernel)) (hts (.instantiable RX1 18) (by decide +kernel)) (hts (.initialized RX1) (by decide +kernel)) hK hP hD hS hA rfl (fun j hj => by rcases (show j = 0 ∨ j = 1 ∨ j = 2 ∨ j = 3 ∨ j = 4 ∨ j = 5 ∨ j = 6 ∨ j = 7 ∨ j = 8 ∨ j = 9 ∨ j = 10 ∨ j = 11 ∨ j = 12 ∨ j = 13 ∨ j = 14 ∨ j = 15 ∨ j = 16 ∨ j = 17 by omega) with rfl | rfl | rfl | rfl | rfl | rfl | rfl | rfl | rfl | rfl | rfl | rfl | rfl | rfl | rfl | rfl | rfl | rfl <;> rfl) (Nat.le_of_ble_eq_true rfl) (Nat.le_of_ble_eq_true rfl) dX10_sign_158 (fun q_303 H hP1 hD1 hS => ?_)
                          have hnq_303 := add_q hD1
                          obtain ⟨S_304, eS_304⟩ : ∃ zq, zq = addO S_298 q_303 31 := ⟨_, rfl⟩
                          have hP : va_P (dC, dI) vwCl (oW cq S_304) H := by rw [eS_304]; exact cP (onew hD1 (by rw [oE_31 add_K, add_I, add_P]; rfl)) hP1
                          have hD : va_D A (oW cq S_304) := by rw [eS_304]; exact cD (onew hD1 (by rw [oE_31 add_K, add_I, add_P]; rfl)) hD1
                          clear hP1 hD1
                          have hIS_304 : oInv S_304 := by rw [eS_304]; exact oInv.add hIS_298 hnq_303 (by decide)
                          have XS_304 : oX S_298 S_304 := by rw [eS_304]; exact oX.add hnq_303
                          have g_305 : (oI S_304 o 6).toInt = (oI S_298 o 6).toInt := by rw [eS_304, add_In hnq_303 (oX.ty XS_298 to).1]
                          have X_306 : oX Z S_304 := oX.tr X_300 XS_304
                          have tq_303 : oty S_304 q_303 31 := by rw [eS_304]; exact add_ty
                          refine W.widen (k := 1) (n := 18) (Nat.le_of_ble_eq_true rfl) (Nat.le_of_ble_eq_true rfl) ?_
                          refine lv_dup hx hb dX10_sign_161 rfl ?_
                          refine lv_aload hx hb dX10_sign_162 (lv_at hl 3 rfl) ?_
                          refine lv_aload hx hb dX10_sign_164 (lv_at hl 2 rfl) ?_
                          refine lv_aload_n hx hb dX10_sign_166 rfl (lv_at hl 4 rfl) ?_
                          have t_307 : oty S_304 o 10 := (oX.ty XS_304 (oX.ty XS_298 to))
                          obtain ⟨q_308, hq_308⟩ := og (cq := cq) t_307.1 (oE_10 t_307.2)
                          refine va_get (D := (dC, dI)) (ci := 10) (v := .int (oI S_304 o 0)) (C := RX10) (T := TX10) (N := 16) hx hb hts in_wsX10_sign_X10 hown hK hP q_308 hq_308 rfl 0 (by decide) (hts (.fieldLink RX10 73 "ShipOffice" "now" "I") (by decide +kernel)) (fun _ h9 => h9) rfl dX10_sign_167 ?_
                          refine lv_topi (fun x_309 ex_309 => ?_)
                          have hx_309 : 0 ≤ x_309.toInt ∧ x_309.toInt ≤ 3000 := iv_of ex_309 (oInv.iv hIS_304 t_307.2 rfl rfl)
                          have gx_309 : x_309.toInt = (oI S_304 o 0).toInt := iv_to ex_309
                          clear ex_309
                          refine lv_aload hx hb dX10_sign_170 (lv_at hl 1 rfl) ?_
                          have t_310 : oty S_304 b_5 6 := (oX.ty XS_304 (oX.ty XS_298 tb_5))
                          have t_311 : oty S_304 b_49 9 := (oX.ty XS_304 (oX.ty XS_298 tb_49))
                          have t_312 : oty S_304 b_71 1 := (oX.ty XS_304 (oX.ty XS_298 tb_71))
                          have hFc := o_free hD hS hA
                          refine va_callv (va_runI (As := [.ref b_5, .ref b_49, .int x_309, .ref b_71]) (rest := [.ref q_303]) ⟨hx, hb, hml, hown, hts⟩ (c_X1_init l dC dI H.size tL tS tG cq S_304 hIS_304 q_303 tq_303 b_5 t_310 b_49 t_311 x_309 (some b_71) (fun b h => by cases h; exact t_312) (fun j => by rw [eS_304, add_I])) (cwI 4 hts gX10_sign_X1_init rfl rfl rfl (hts (.initialized RX1) (by decide +kernel)) (hts (.methodLink RX10 220 yX1_init) (by decide +kernel)) (hts (.instanceMethod yX1_init) (by decide +kernel)) rfl (by decide +kernel) ⟨(Nat.le_of_ble_eq_true rfl), (Nat.le_of_ble_eq_true rfl)⟩) (pr_SO hP hK hD (hZ.go hS hFc)) rfl rfl hl.1 rfl (lv_room (Nat.le_of_ble_eq_true rfl)) dX10_sign_172 ⟨(Nat.le_of_ble_eq_true rfl), (Nat.le_of_ble_eq_true rfl)⟩) hS (fun q _ h => hFc q h) hFc (fun u t H locs ht hvm w_313 hB hz1 hk1 hS => ?_)
                          obtain ⟨S_315, rfl⟩ : ∃ z, z = u := ⟨_, rfl⟩
                          obtain ⟨hP1, hK1, hD1⟩ := hB
                          rw [ht] at hP1
                          have hP : va_P (dC, dI) vwCl (oW cq S_315) H := hP1
                          have hD : va_D A (oW cq S_315) := hD1.weaken (fun _ _ _ h => hFc _ h)
                          clear hP1 hK1 hD1 hk1 hz1 hvm ht hFc
                          refine W.widen (k := 4) (n := 64) (Nat.le_of_ble_eq_true rfl) (Nat.le_of_ble_eq_true rfl) ?_
                          obtain ⟨hIS_315, XS_315, hx_316⟩ := w_313
                          obtain ⟨hxS_315, FS_315⟩ := hx_316
                          have X_317 : oX Z S_315 := oX.c X_306 XS_315 (oX.nin X_300 hnq_303)
                          have g_318 : (oI S_315 o 0).toInt = (oI S_304 o 0).toInt := by rw [(FS_315 o t_307.1 (ty_ne t_307 tq_303 (by decide))).1 (by rw [t_307.2]; decide)]
                          have g_319 : (oI S_315 o 6).toInt = (oI S_304 o 6).toInt := by rw [(FS_315 o t_307.1 (ty_ne t_307 tq_303 (by decide))).1 (by rw [t_307.2]; decide)]
                          refine lv_astore (lv' := [(10, .ref q_303), (9, .int 1), (8, .ref b_71), (7, .ref b_49), (6, .ref b_5), (0, .ref o), (1, .int x1), (2, .int x2), (3, .int x3), (4, .int x4), (5, .int x5)]) hx hb dX10_sign_175 hl (by decide) rfl (fun ls hl => ?_)
                          refine lv_aload hx hb dX10_sign_177 (lv_at hl 0 rfl) ?_
                          refine lv_iload_n hx hb dX10_sign_179 rfl (lv_at hl 8 rfl) ?_
                          obtain ⟨q_320, hq_320⟩ := og (cq := cq) hxS_315.1 (oE_1 hxS_315.2)
                          refine va_put (D := (dC, dI)) (ci := 1) (v := .int x3) (ty := .int) (C := RX1) (T := TX1) (N := 18) hx hb hts in_wsX10_sign_X1 tyX1 tyX1_ok nmX1 hown hK hP hD hS q_320 hq_320 rfl 4 (by decide) (hts (.fieldLink RX10 223 "ShipOffice$Agreement" "wage" "I") (by decide +kernel)) (fun _ h9 => h9) rfl (by decide +kernel) rfl rfl (Nat.le_of_ble_eq_true rfl) dX10_sign_180 (fun H locs hP1 hD1 hS => ?_)
                          obtain ⟨S_321, eS_321⟩ : ∃ zq, zq = setI S_315 q_303 4 x3 := ⟨_, rfl⟩
                          have hP : va_P (dC, dI) vwCl (oW cq S_321) H := by rw [eS_321]; exact cP (oset hxS_315.1 hq_320 hD rfl (he_1_4 hxS_315.2) neI) hP1
                          have hD : va_D A (oW cq S_321) := by rw [eS_321]; exact cD (oset hxS_315.1 hq_320 hD rfl (he_1_4 hxS_315.2) neI) hD1
                          clear hP1 hD1
                          have hIS_321 : oInv S_321 := by rw [eS_321]; exact oInv.I0 (k := 1) (lo := -2147483648) (hi := 2147483647) hIS_315 hxS_315.2 (by decide) rfl rfl rfl (iv_all _)
                          have XS_321 : oX S_315 S_321 := by rw [eS_321]; exact oX.I (k := 1) hxS_315.2 (by decide)
                          have X_322 : oX Z S_321 := oX.tr X_317 XS_321
                          have g_323 : (oI S_321 o 0).toInt = (oI S_315 o 0).toInt := by rw [eS_321, setI_oth (ty_ne (oXc.ty XS_315 (ty_ne t_307 tq_303 (by decide)) t_307) hxS_315 (by decide))]
                          have g_324 : (oI S_321 o 6).toInt = (oI S_315 o 6).toInt := by rw [eS_321, setI_oth (ty_ne (oXc.ty XS_315 (ty_ne t_307 tq_303 (by decide)) t_307) hxS_315 (by decide))]
                          refine lv_aload hx hb dX10_sign_183 (lv_at hl 0 rfl) ?_
                          refine lv_iload hx hb dX10_sign_185 (lv_at hl 9 rfl) ?_
                          have t_325 : oty S_321 q_303 1 := (oX.ty XS_321 hxS_315)
                          obtain ⟨q_326, hq_326⟩ := og (cq := cq) t_325.1 (oE_1 t_325.2)
                          refine va_put (D := (dC, dI)) (ci := 1) (v := .int x4) (ty := .int) (C := RX1) (T := TX1) (N := 18) hx hb hts in_wsX10_sign_X1 tyX1 tyX1_ok nmX1 hown hK hP hD hS q_326 hq_326 rfl 5 (by decide) (hts (.fieldLink RX10 226 "ShipOffice$Agreement" "rank" "I") (by decide +kernel)) (fun _ h9 => h9) rfl (by decide +kernel) rfl rfl (Nat.le_of_ble_eq_true rfl) dX10_sign_187 (fun H locs hP1 hD1 hS => ?_)
                          obtain ⟨S_327, eS_327⟩ : ∃ zq, zq = setI S_321 q_303 5 x4 := ⟨_, rfl⟩
                          have hP : va_P (dC, dI) vwCl (oW cq S_327) H := by rw [eS_327]; exact cP (oset t_325.1 hq_326 hD rfl (he_1_5 t_325.2) neI) hP1
                          have hD : va_D A (oW cq S_327) := by rw [eS_327]; exact cD (oset t_325.1 hq_326 hD rfl (he_1_5 t_325.2) neI) hD1
                          clear hP1 hD1
                          have hIS_327 : oInv S_327 := by rw [eS_327]; exact oInv.I0 (k := 1) (lo := -2147483648) (hi := 2147483647) hIS_321 t_325.2 (by decide) rfl rfl rfl (iv_all _)
                          have XS_327 : oX S_321 S_327 := by rw [eS_327]; exact oX.I (k := 1) t_325.2 (by decide)
                          have X_328 : oX Z S_327 := oX.tr X_322 XS_327
                          have g_329 : (oI S_327 o 0).toInt = (oI S_321 o 0).toInt := by rw [eS_327, setI_oth (ty_ne (oX.ty XS_321 (oXc.ty XS_315 (ty_ne t_307 tq_303 (by decide)) t_307)) t_325 (by decide))]
                          have g_330 : (oI S_327 o 6).toInt = (oI S_321 o 6).toInt := by rw [eS_327, setI_oth (ty_ne (oX.ty XS_321 (oXc.ty XS_315 (ty_ne t_307 tq_303 (by decide)) t_307)) t_325 (by decide))]
                          refine lv_aload_n hx hb dX10_sign_190 rfl (lv_at hl 5 rfl) ?_
                          have t_331 : oty S_327 o 10 := (oX.ty XS_327 (oX.ty XS_321 (oXc.ty XS_315 (ty_ne t_307 tq_303 (by decide)) t_307)))
                          obtain ⟨q_332, hq_332⟩ := og (cq := cq) t_331.1 (oE_10 t_331.2)
                          obtain ⟨b_333, hb_333⟩ := oInv.nn (i := 5) hIS_327 t_331 rfl
                          refine va_get (D := (dC, dI)) (ci := 10) (v := .ref b_333) (C := RX10) (T := TX10) (N := 16) hx hb hts in_wsX10_sign_X10 hown hK hP q_332 hq_332 rfl 5 (by decide) (hts (.fieldLink RX10 23 "ShipOffice" "agreements" "[LShipOffice$Agreement;") (by decide +kernel)) (fun _ h9 => h9) (o_rd hb_333) dX10_sign_191 ?_
                          have tb_333 : oty S_327 b_333 16 := oInv.rd hIS_327 t_331.2 hb_333 rfl rfl
                          refine lv_aload_n hx hb dX10_sign_194 rfl (lv_at hl 5 rfl) ?_
                          refine va_get (D := (dC, dI)) (ci := 10) (v := .int (oI S_327 o 6)) (C := RX10) (T := TX10) (N := 16) hx hb hts in_wsX10_sign_X10 hown hK hP q_332 hq_332 rfl 6 (by decide) (hts (.fieldLink RX10 115 "ShipOffice" "agreementCount" "I") (by decide +kernel)) (fun _ h9 => h9) rfl dX10_sign_195 ?_
                          refine lv_topi (fun x_334 ex_334 => ?_)
                          have hx_334 : 0 ≤ x_334.toInt ∧ x_334.toInt ≤ 60 := iv_of ex_334 (oInv.iv hIS_327 t_331.2 rfl rfl)
                          have gx_334 : x_334.toInt = (oI S_327 o 6).toInt := iv_to ex_334
                          clear ex_334
                          refine lv_aload hx hb dX10_sign_198 (lv_at hl 0 rfl) ?_
                          obtain ⟨q_335, hq_335⟩ := og (cq := cq) tb_333.1 (oE_16 tb_333.2)
                          have t_336 : oty S_327 q_303 1 := (oX.ty XS_327 t_325)
                          obtain ⟨q_337, hq_337⟩ := og (cq := cq) t_336.1 (oE_1 t_336.2)
                          refine va_astq (r := (RX1, TX1, 18)) hx hb hK hP hD hS q_335 5 q_337 1 hq_335 rfl hq_337 rfl (vp_in_iff.mpr (by omega)) dX10_sign_200 (fun H locs hP1 hD1 hS => ?_)
                          obtain ⟨S_338, eS_338⟩ : ∃ zq, zq = setP S_327 b_333 (x_334 : Int32).toNatClampNeg (some q_303) := ⟨_, rfl⟩
                          have hP : va_P (dC, dI) vwCl (oW cq S_338) H := by rw [eS_338]; exact cP (oset tb_333.1 hq_335 hD rfl (he_16 tb_333.2) neP) hP1
                          have hD : va_D A (oW cq S_338) := by rw [eS_338]; exact cD (oset tb_333.1 hq_335 hD rfl (he_16 tb_333.2) neP) hD1
                          clear hP1 hD1
                          have hIS_338 : oInv S_338 := by rw [eS_338]; exact oInv.P (k := 16) hIS_327 tb_333.2 (by decide) rfl (fun h => absurd h.1 (by decide)) t_336 (show 1 ≤ 1 ∧ 1 ≤ 1 from ⟨Nat.le_refl _, Nat.le_refl _⟩)
                          have XS_338 : oX S_327 S_338 := by rw [eS_338]; exact oX.P
                          have X_339 : oX Z S_338 := oX.tr X_328 XS_338
                          have g_340 : (oI S_338 o 0).toInt = (oI S_327 o 0).toInt := by rw [eS_338]; rfl
                          have g_341 : (oI S_338 o 6).toInt = (oI S_327 o 6).toInt := by rw [eS_338]; rfl
                          have helS_338 : oP S_338 b_333 (x_334 : Int32).toNatClampNeg = some q_303 := by rw [eS_338, setP_same]
                          have hsrS_338 : oP S_338 o 5 = some b_333 := by rw [eS_338, setP_oth (ty_ne t_331 tb_333 (by decide))]; exact hb_333
                          refine lv_aload_n hx hb dX10_sign_201 rfl (lv_at hl 5 rfl) ?_
                          refine lv_dup hx hb dX10_sign_202 rfl ?_
                          have t_342 : oty S_338 o 10 := (oX.ty XS_338 t_331)
                          obtain ⟨q_343, hq_343⟩ := og (cq := cq) t_342.1 (oE_10 t_342.2)
                          refine va_get (D := (dC, dI)) (ci := 10) (v := .int (oI S_338 o 6)) (C := RX10) (T := TX10) (N := 16) hx hb hts in_wsX10_sign_X10 hown hK hP q_343 hq_343 rfl 6 (by decide) (hts (.fieldLink RX10 115 "ShipOffice" "agreementCount" "I") (by decide +kernel)) (fun _ h9 => h9) rfl dX10_sign_203 ?_
                          refine lv_topi (fun x_344 ex_344 => ?_)
                          have hx_344 : 0 ≤ x_344.toInt ∧ x_344.toInt ≤ 60 := iv_of ex_344 (oInv.iv hIS_338 t_342.2 rfl rfl)
                          have gx_344 : x_344.toInt = (oI S_338 o 6).toInt := iv_to ex_344
                          clear ex_344
                          refine lv_iconst (v := 1) hx hb dX10_sign_206 (by decide) ?_
                          refine lv_iadd hx hb dX10_sign_207 ?_
                          refine lv_topi (fun x_345 ex_345 => ?_)
                          have hx_345 : x_345.toInt = x_344.toInt + 1 := (iv_to ex_345).trans (ad_i rfl (by decide) (by omega) (by omega))
                          clear ex_345
                          refine va_put (D := (dC, dI)) (ci := 10) (v := .int x_345) (ty := .int) (C := RX10) (T := TX10) (N := 16) hx hb hts in_wsX10_sign_X10 tyX10 tyX10_ok nmX10 hown hK hP hD hS q_343 hq_343 rfl 6 (by decide) (hts (.fieldLink RX10 115 "ShipOffice" "agreementCount" "I") (by decide +kernel)) (fun _ h9 => h9) rfl (by decide +kernel) rfl rfl (Nat.le_of_ble_eq_true rfl) dX10_sign_208 (fun H locs hP1 hD1 hS => ?_)
                          obtain ⟨S_346, eS_346⟩ : ∃ zq, zq = setI S_338 o 6 x_345 := ⟨_, rfl⟩
                          have hP : va_P (dC, dI) vwCl (oW cq S_346) H := by rw [eS_346]; exact cP (oset t_342.1 hq_343 hD rfl (he_10_6 t_342.2) neI) hP1
                          have hD : va_D A (oW cq S_346) := by rw [eS_346]; exact cD (oset t_342.1 hq_343 hD rfl (he_10_6 t_342.2) neI) hD1
                          clear hP1 hD1
                          have hIS_346 : oInv S_346 := by rw [eS_346]; exact oInv.I (k := 10) (lo := 0) (hi := 60) hIS_338 t_342.2 (by decide) rfl rfl (by omega) (inv_cnt hIS_338 t_342 rfl hsrS_338 (by omega) (by omega) ⟨_, by rw [← cnt_at (x := x_334) (S := S_338) (a := o) (i := 6) (by omega)]; exact helS_338⟩)
                          have XS_346 : oX S_338 S_346 := by rw [eS_346]; exact oX.I (k := 10) t_342.2 (by decide)
                          have X_347 : oX Z S_346 := oX.tr X_339 XS_346
                          have g_348 : (oI S_346 o 0).toInt = (oI S_338 o 0).toInt := by rw [eS_346, setI_ne (by decide)]
                          have g_349 : (oI S_346 o 6).toInt = x_345.toInt := by rw [eS_346, setI_same]
                          refine lv_aload_n hx hb dX10_sign_211 rfl (lv_at hl 5 rfl) ?_
                          have t_350 : oty S_346 o 10 := (oX.ty XS_346 t_342)
                          obtain ⟨q_351, hq_351⟩ := og (cq := cq) t_350.1 (oE_10 t_350.2)
                          refine va_get (D := (dC, dI)) (ci := 10) (v := .int (oI S_346 o 6)) (C := RX10) (T := TX10) (N := 16) hx hb hts in_wsX10_sign_X10 hown hK hP q_351 hq_351 rfl 6 (by decide) (hts (.fieldLink RX10 115 "ShipOffice" "agreementCount" "I") (by decide +kernel)) (fun _ h9 => h9) rfl dX10_sign_212 ?_
                          refine lv_topi (fun x_352 ex_352 => ?_)
                          have hx_352 : 0 ≤ x_352.toInt ∧ x_352.toInt ≤ 60 := iv_of ex_352 (oInv.iv hIS_346 t_350.2 rfl rfl)
                          have gx_352 : x_352.toInt = (oI S_346 o 6).toInt := iv_to ex_352
                          clear ex_352
                          refine lv_iconst (v := 1) hx hb dX10_sign_215 (by decide) ?_
                          refine lv_isub hx hb dX10_sign_216 ?_
                          refine lv_topi (fun x_353 ex_353 => ?_)
                          have hx_353 : x_353.toInt = x_352.toInt - 1 := (iv_to ex_353).trans (sb_i rfl (by decide) (by omega) (by omega))
                          clear ex_353
                          exact W.iret (v := x_353) hx hb hr (fun t ht hW => ⟨⟨x_353, S_346, rfl, ⟨hIS_346, X_347⟩, ⟨by rw [ht]; exact hP, va_K.moved hW.alike hK, hD⟩⟩, hS.F ht⟩) hS.2.2 dX10_sign_217
                        · have dc_302 := c_nlt (a := 0) (b := r_297.toInt) (by decide) rfl c_302
                          refine lv_aload_n hx hb dX10_sign_151 rfl (lv_at hl 4 rfl) ?_
                          refine lv_bipush (v := (-3)) hx hb dX10_sign_152 (by decide) ?_
                          have t_354 : oty S_298 o 10 := (oX.ty XS_298 to)
                          have hFc := o_free hD hS hA
                          obtain ⟨q_355, hq_355⟩ := og (cq := cq) t_354.1 (oE_10 t_354.2)
                          refine va_calli (va_runV (As := [.int (-3)]) (rest := []) ⟨hx, hb, hml, hown, hts⟩ (c_X10_refuse l dC dI H.size cq S_298 hIS_298 o t_354 (-3) (by decide)) (cwV 1 hts gX10_sign_X10_refuse rfl rfl rfl (by decide +kernel) ⟨(Nat.le_of_ble_eq_true rfl), (Nat.le_of_ble_eq_true rfl)⟩) (pr_V (r := (RX10, TX10, 16)) hP hK hD q_355 10 rfl hq_355) rfl rfl hl.1 rfl (lv_room (Nat.le_of_ble_eq_true rfl)) dX10_sign_154 ⟨(Nat.le_of_ble_eq_true rfl), (Nat.le_of_ble_eq_true rfl)⟩) hS (fun q _ h => hFc q h) hFc (fun r_357 u t H locs ht hvm w_356 hB hz1 hk1 hS => ?_)
                          obtain ⟨S_358, rfl⟩ : ∃ z, z = u := ⟨_, rfl⟩
                          obtain ⟨hP1, hK1, hD1⟩ := hB
                          rw [ht] at hP1
                          have hP : va_P (dC, dI) vwCl (oW cq S_358) H := hP1
                          have hD : va_D A (oW cq S_358) := hD1.weaken (fun _ _ _ h => hFc _ h)
                          clear hP1 hK1 hD1 hk1 hz1 hvm ht hFc
                          obtain ⟨hIS_358, XS_358, hb_359, hx_360⟩ := w_356
                          have X_361 : oX Z S_358 := oX.tr X_300 XS_358
                          have rf_362 : r_357.toInt = -3 := by rw [hx_360]; decide
                          refine W.widen (k := 4) (n := 64) (Nat.le_of_ble_eq_true rfl) (Nat.le_of_ble_eq_true rfl) ?_
                          exact W.iret (v := r_357) hx hb hr (fun t ht hW => ⟨⟨r_357, S_358, rfl, ⟨hIS_358, X_361⟩, ⟨by rw [ht]; exact hP, va_K.moved hW.alike hK, hD⟩⟩, hS.F ht⟩) hS.2.2 dX10_sign_157
                · have dc_237 := c_nlt (a := x_236.toInt) (b := 60) rfl (by decide) c_237
                  refine lv_aload_n hx hb dX10_sign_88 rfl (lv_at hl 3 rfl) ?_
                  refine lv_bipush (v := (-6)) hx hb dX10_sign_89 (by decide) ?_
                  have hFc := o_free hD hS hA
                  refine va_calli (va_runV (As := [.int (-6)]) (rest := []) ⟨hx, hb, hml, hown, hts⟩ (c_X10_refuse l dC dI H.size cq Z gI o to (-6) (by decide)) (cwV 1 hts gX10_sign_X10_refuse rfl rfl rfl (by decide +kernel) ⟨(Nat.le_of_ble_eq_true rfl), (Nat.le_of_ble_eq_true rfl)⟩) (pr_V (r := (RX10, TX10, 16)) hP hK hD q_1 10 rfl hq_1) rfl rfl hl.1 rfl (lv_room (Nat.le_of_ble_eq_true rfl)) dX10_sign_91 ⟨(Nat.le_of_ble_eq_true rfl), (Nat.le_of_ble_eq_true rfl)⟩) hS (fun q _ h => hFc q h) hFc (fun r_364 u t H locs ht hvm w_363 hB hz1 hk1 hS => ?_)
                  obtain ⟨S_365, rfl⟩ : ∃ z, z = u := ⟨_, rfl⟩
                  obtain ⟨hP1, hK1, hD1⟩ := hB
                  rw [ht] at hP1
                  have hP : va_P (dC, dI) vwCl (oW cq S_365) H := hP1
                  have hD : va_D A (oW cq S_365) := hD1.weaken (fun _ _ _ h => hFc _ h)
                  clear hP1 hK1 hD1 hk1 hz1 hvm ht hFc
                  obtain ⟨hIS_365, XS_365, hb_366, hx_367⟩ := w_363
                  have X_368 : oX Z S_365 := XS_365
                  have rf_369 : r_364.toInt = -6 := by rw [hx_367]; decide
                  refine W.widen (k := 4) (n := 64) (Nat.le_of_ble_eq_true rfl) (Nat.le_of_ble_eq_true rfl) ?_
                  exact W.iret (v := r_364) hx hb hr (fun t ht hW => ⟨⟨r_364, S_365, rfl, ⟨hIS_365, X_368⟩, ⟨by rw [ht]; exact hP, va_K.moved hW.alike hK, hD⟩⟩, hS.F ht⟩) hS.2.2 dX10_sign_94
          · have dc_219 := c_nle (a := 0) (b := x4.toInt) (by decide) rfl c_219
            refine lv_aload_n hx hb dX10_sign_59 rfl (lv_at hl 3 rfl) ?_
            refine lv_bipush (v := (-4)) hx hb dX10_sign_60 (by decide) ?_
            have hFc := o_free hD hS hA
            refine va_calli (va_runV (As := [.int (-4)]) (rest := []) ⟨hx, hb, hml, hown, hts⟩ (c_X10_refuse l dC dI H.size cq Z gI o to (-4) (by decide)) (cwV 1 hts gX10_sign_X10_refuse rfl rfl rfl (by decide +kernel) ⟨(Nat.le_of_ble_eq_true rfl), (Nat.le_of_ble_eq_true rfl)⟩) (pr_V (r := (RX10, TX10, 16)) hP hK hD q_1 10 rfl hq_1) rfl rfl hl.1 rfl (lv_room (Nat.le_of_ble_eq_true rfl)) dX10_sign_62 ⟨(Nat.le_of_ble_eq_true rfl), (Nat.le_of_ble_eq_true rfl)⟩) hS (fun q _ h => hFc q h) hFc (fun r_371 u t H locs ht hvm w_370 hB hz1 hk1 hS => ?_)
            obtain ⟨S_372, rfl⟩ : ∃ z, z = u := ⟨_, rfl⟩
            obtain ⟨hP1, hK1, hD1⟩ := hB
            rw [ht] at hP1
            have hP : va_P (dC, dI) vwCl (oW cq S_372) H := hP1
            have hD : va_D A (oW cq S_372) := hD1.weaken (fun _ _ _ h => hFc _ h)
            clear hP1 hK1 hD1 hk1 hz1 hvm ht hFc
            obtain ⟨hIS_372, XS_372, hb_373, hx_374⟩ := w_370
            have X_375 : oX Z S_372 := XS_372
            have rf_376 : r_371.toInt = -4 := by rw [hx_374]; decide
            refine W.widen (k := 4) (n := 64) (Nat.le_of_ble_eq_true rfl) (Nat.le_of_ble_eq_true rfl) ?_
            exact W.iret (v := r_371) hx hb hr (fun t ht hW => ⟨⟨r_371, S_372, rfl, ⟨hIS_372, X_375⟩, ⟨by rw [ht]; exact hP, va_K.moved hW.alike hK, hD⟩⟩, hS.F ht⟩) hS.2.2 dX10_sign_65
