theorem goodIn_r {big : List Cond} (ws : List Cond) (ps : List Nat) (hp : ws = ps.filterMap (fun i => big[i]?)) (h : ws.all goodWord = true) : GoodIn big ws := by
  intro w hw
  have h1 := List.all_eq_true.mp h w hw
  rw [hp] at hw
  obtain ⟨i, -, hi⟩ := List.mem_filterMap.mp hw
  have hm : w ∈ big := by first | exact List.mem_of_getElem? hi | exact List.getElem?_mem hi
  exact ⟨hm, good_of_word h1⟩
theorem goodIn_app {big a b : List Cond} (ha : GoodIn big a) (hb : GoodIn big b) : GoodIn big (a ++ b) := fun w h => (List.mem_append.mp h).elim (ha w) (hb w)
abbrev wsX00 : List Cond := u_ws RX0 TX0 5
abbrev cX0_uses : ByteArray := prog_2_method_2_code
def yX0_uses : MethodName := ⟨RX0, "uses", "(I)Z"⟩
abbrev cX0_worth : ByteArray := prog_2_method_3_code
def yX0_worth : MethodName := ⟨RX0, "worth", "([I)I"⟩
abbrev cX0_joined : ByteArray := prog_2_method_4_code
def yX0_joined : MethodName := ⟨RX0, "joined", "(JJI)I"⟩
abbrev cX0_held : ByteArray := prog_2_method_5_code
def yX0_held : MethodName := ⟨RX0, "held", "(J)I"⟩
abbrev wsX10 : List Cond := u_ws RX1 TX1 18
abbrev cX1_init : ByteArray := prog_3_method_1_code
def yX1_init : MethodName := ⟨RX1, "<init>", "(LShipOffice$Man;LShipOffice$Voyage;ILShipOffice$Agreement;)V"⟩
abbrev cX1_goesOn : ByteArray := prog_3_method_2_code
def yX1_goesOn : MethodName := ⟨RX1, "goesOn", "()Z"⟩
abbrev cX1_stateOn : ByteArray := prog_3_method_3_code
def yX1_stateOn : MethodName := ⟨RX1, "stateOn", "(IILShipOffice$Law;)I"⟩
abbrev cX1_diedBy : ByteArray := prog_3_method_4_code
def yX1_diedBy : MethodName := ⟨RX1, "diedBy", "(II)Z"⟩
abbrev cX1_lastMove : ByteArray := prog_3_method_5_code
def yX1_lastMove : MethodName := ⟨RX1, "lastMove", "(II)LShipOffice$Happening;"⟩
abbrev cX1_leavingOn : ByteArray := prog_3_method_6_code
def yX1_leavingOn : MethodName := ⟨RX1, "leavingOn", "(IILShipOffice$Law;)LShipOffice$Happening;"⟩
abbrev cX1_earningDays : ByteArray := prog_3_method_7_code
def yX1_earningDays : MethodName := ⟨RX1, "earningDays", "(IILShipOffice$Law;)I"⟩
abbrev cX1_daysIn : ByteArray := prog_3_method_8_code
def yX1_daysIn : MethodName := ⟨RX1, "daysIn", "(IIILShipOffice$Law;)I"⟩
abbrev cX1_nextChange : ByteArray := prog_3_method_9_code
def yX1_nextChange : MethodName := ⟨RX1, "nextChange", "(IILShipOffice$Law;)I"⟩
abbrev cX1_nearer : ByteArray := prog_3_method_10_code
def yX1_nearer : MethodName := ⟨RX1, "nearer", "(III)I"⟩
abbrev cX1_notePaid : ByteArray := prog_3_method_11_code
def yX1_notePaid : MethodName := ⟨RX1, "notePaid", "(IILShipOffice$Law;)I"⟩
abbrev cX1_allotmentsPaid : ByteArray := prog_3_method_12_code
def yX1_allotmentsPaid : MethodName := ⟨RX1, "allotmentsPaid", "(IILShipOffice$Law;)I"⟩
abbrev cX1_addShort : ByteArray := prog_3_method_13_code
def yX1_addShort : MethodName := ⟨RX1, "addShort", "(III)V"⟩
abbrev cX1_shortPence : ByteArray := prog_3_method_14_code
def yX1_shortPence : MethodName := ⟨RX1, "shortPence", "(I)I"⟩
abbrev wsX20 : List Cond := u_ws RX2 TX2 3
abbrev cX2_init : ByteArray := prog_4_method_1_code
def yX2_init : MethodName := ⟨RX2, "<init>", "(IIZ)V"⟩
abbrev wsX30 : List Cond := u_ws RX3 TX3 6
abbrev cX3_init : ByteArray := prog_5_method_1_code
def yX3_init : MethodName := ⟨RX3, "<init>", "(IIIIILShipOffice$Happening;)V"⟩
abbrev wsX50 : List Cond := u_ws RX5 TX5 3
abbrev cX5_inForce : ByteArray := prog_7_method_3_code
def yX5_inForce : MethodName := ⟨RX5, "inForce", "(II)LShipOffice$Act;"⟩
abbrev cX5_nextPresume : ByteArray := prog_7_method_4_code
def yX5_nextPresume : MethodName := ⟨RX5, "nextPresume", "(I)I"⟩
abbrev wsX60 : List Cond := u_ws RX6 TX6 6
abbrev cX6_yearsOn : ByteArray := prog_8_method_2_code
def yX6_yearsOn : MethodName := ⟨RX6, "yearsOn", "(I)I"⟩
abbrev wsX70 : List Cond := u_ws RX7 TX7 2
abbrev cX7_way : ByteArray := prog_9_method_3_code
def yX7_way : MethodName := ⟨RX7, "way", "(II)I"⟩
abbrev cX7_shorten : ByteArray := prog_9_method_4_code
def yX7_shorten : MethodName := ⟨RX7, "shorten", "()V"⟩
abbrev wsX90 : List Cond := u_ws RX9 TX9 10
abbrev cX9_takesHands : ByteArray := prog_11_method_2_code
def yX9_takesHands : MethodName := ⟨RX9, "takesHands", "()Z"⟩
abbrev cX9_sailedBy : ByteArray := prog_11_method_3_code
def yX9_sailedBy : MethodName := ⟨RX9, "sailedBy", "(II)Z"⟩
abbrev cX9_lostBy : ByteArray := prog_11_method_4_code
def yX9_lostBy : MethodName := ⟨RX9, "lostBy", "(II)Z"⟩
abbrev cX9_lastHeard : ByteArray := prog_11_method_5_code
def yX9_lastHeard : MethodName := ⟨RX9, "lastHeard", "(II)I"⟩
abbrev cX9_daysUnheard : ByteArray := prog_11_method_6_code
def yX9_daysUnheard : MethodName := ⟨RX9, "daysUnheard", "(II)I"⟩
abbrev cX9_nextTold : ByteArray := prog_11_method_7_code
def yX9_nextTold : MethodName := ⟨RX9, "nextTold", "(II)I"⟩
abbrev wsX100 : List Cond := u_ws RX10 TX10 16
abbrev cX10_ended : ByteArray := prog_1_method_6_code
def yX10_ended : MethodName := ⟨RX10, "ended", "(II)I"⟩
abbrev cX10_sailed : ByteArray := prog_1_method_7_code
def yX10_sailed : MethodName := ⟨RX10, "sailed", "(II)I"⟩
abbrev cX10_heard : ByteArray := prog_1_method_8_code
def yX10_heard : MethodName := ⟨RX10, "heard", "(II)I"⟩
abbrev cX10_lost : ByteArray := prog_1_method_9_code
def yX10_lost : MethodName := ⟨RX10, "lost", "(II)I"⟩
abbrev cX10_left : ByteArray := prog_1_method_10_code
def yX10_left : MethodName := ⟨RX10, "left", "(IIII)I"⟩
abbrev cX10_died : ByteArray := prog_1_method_11_code
def yX10_died : MethodName := ⟨RX10, "died", "(II)I"⟩
abbrev cX10_back : ByteArray := prog_1_method_12_code
def yX10_back : MethodName := ⟨RX10, "back", "(II)I"⟩
abbrev cX10_sign : ByteArray := prog_1_method_15_code
def yX10_sign : MethodName := ⟨RX10, "sign", "(IIIII)I"⟩
abbrev cX10_off : ByteArray := prog_1_method_16_code
def yX10_off : MethodName := ⟨RX10, "off", "(II)I"⟩
abbrev cX10_state : ByteArray := prog_1_method_17_code
def yX10_state : MethodName := ⟨RX10, "state", "(III)I"⟩
abbrev cX10_earns : ByteArray := prog_1_method_18_code
def yX10_earns : MethodName := ⟨RX10, "earns", "(III)I"⟩
abbrev cX10_advance : ByteArray := prog_1_method_19_code
def yX10_advance : MethodName := ⟨RX10, "advance", "(II)I"⟩
abbrev cX10_sold : ByteArray := prog_1_method_20_code
def yX10_sold : MethodName := ⟨RX10, "sold", "(II)I"⟩
abbrev cX10_allot : ByteArray := prog_1_method_21_code
def yX10_allot : MethodName := ⟨RX10, "allot", "(II)I"⟩
abbrev cX10_fine : ByteArray := prog_1_method_22_code
def yX10_fine : MethodName := ⟨RX10, "fine", "(IIIZ)I"⟩
abbrev cX10_read : ByteArray := prog_1_method_23_code
def yX10_read : MethodName := ⟨RX10, "read", "(II)I"⟩
abbrev cX10_stands : ByteArray := prog_1_method_24_code
def yX10_stands : MethodName := ⟨RX10, "stands", "(III)I"⟩
abbrev cX10_rations : ByteArray := prog_1_method_25_code
def yX10_rations : MethodName := ⟨RX10, "rations", "(III)I"⟩
abbrev cX10_owed : ByteArray := prog_1_method_26_code
def yX10_owed : MethodName := ⟨RX10, "owed", "(III)I"⟩
abbrev cX10_agreementOf : ByteArray := prog_1_method_27_code
def yX10_agreementOf : MethodName := ⟨RX10, "agreementOf", "(II)I"⟩
abbrev cX10_aboard : ByteArray := prog_1_method_28_code
def yX10_aboard : MethodName := ⟨RX10, "aboard", "(III)I"⟩
abbrev cX10_group : ByteArray := prog_1_method_29_code
def yX10_group : MethodName := ⟨RX10, "group", "(I)I"⟩
abbrev cX10_borrowed : ByteArray := prog_1_method_30_code
def yX10_borrowed : MethodName := ⟨RX10, "borrowed", "(I)I"⟩
abbrev cX10_home : ByteArray := prog_1_method_31_code
def yX10_home : MethodName := ⟨RX10, "home", "(I)I"⟩
abbrev cX10_ask : ByteArray := prog_1_method_32_code
def yX10_ask : MethodName := ⟨RX10, "ask", "(III)I"⟩
abbrev cX10_check : ByteArray := prog_1_method_35_code
def yX10_check : MethodName := ⟨RX10, "check", "(III)I"⟩
abbrev cX10_refuse : ByteArray := prog_1_method_37_code
def yX10_refuse : MethodName := ⟨RX10, "refuse", "(I)I"⟩
abbrev cX10_isPort : ByteArray := prog_1_method_38_code
def yX10_isPort : MethodName := ⟨RX10, "isPort", "(I)Z"⟩
abbrev cX10_manAt : ByteArray := prog_1_method_39_code
def yX10_manAt : MethodName := ⟨RX10, "manAt", "(I)LShipOffice$Man;"⟩
abbrev cX10_voyageAt : ByteArray := prog_1_method_40_code
def yX10_voyageAt : MethodName := ⟨RX10, "voyageAt", "(I)LShipOffice$Voyage;"⟩
abbrev cX10_agreementAt : ByteArray := prog_1_method_41_code
def yX10_agreementAt : MethodName := ⟨RX10, "agreementAt", "(I)LShipOffice$Agreement;"⟩
abbrev cX10_fineAt : ByteArray := prog_1_method_42_code
def yX10_fineAt : MethodName := ⟨RX10, "fineAt", "(LShipOffice$Agreement;I)LShipOffice$Fine;"⟩
abbrev cX10_voyageRefusal : ByteArray := prog_1_method_43_code
def yX10_voyageRefusal : MethodName := ⟨RX10, "voyageRefusal", "(LShipOffice$Voyage;IZ)I"⟩
abbrev cX10_tidingRefusal : ByteArray := prog_1_method_44_code
def yX10_tidingRefusal : MethodName := ⟨RX10, "tidingRefusal", "(LShipOffice$Agreement;I)I"⟩
abbrev cX10_askRefusal : ByteArray := prog_1_method_45_code
def yX10_askRefusal : MethodName := ⟨RX10, "askRefusal", "(II)I"⟩
abbrev cX10_addTiding : ByteArray := prog_1_method_46_code
def yX10_addTiding : MethodName := ⟨RX10, "addTiding", "(LShipOffice$Agreement;IIII)I"⟩
abbrev cX10_isFree : ByteArray := prog_1_method_50_code
def yX10_isFree : MethodName := ⟨RX10, "isFree", "(LShipOffice$Man;)Z"⟩
abbrev cX10_menAboard : ByteArray := prog_1_method_54_code
def yX10_menAboard : MethodName := ⟨RX10, "menAboard", "(LShipOffice$Voyage;II)I"⟩
abbrev cX10_isShownTwice : ByteArray := prog_1_method_55_code
def yX10_isShownTwice : MethodName := ⟨RX10, "isShownTwice", "(LShipOffice$Agreement;)Z"⟩
abbrev cX10_lastDay : ByteArray := prog_1_method_56_code
def yX10_lastDay : MethodName := ⟨RX10, "lastDay", "(LShipOffice$Agreement;)I"⟩
abbrev cX10_signWorth : ByteArray := prog_1_method_57_code
def yX10_signWorth : MethodName := ⟨RX10, "signWorth", "(LShipOffice$Man;II)I"⟩
abbrev cX10_worthFor : ByteArray := prog_1_method_58_code
def yX10_worthFor : MethodName := ⟨RX10, "worthFor", "(ILShipOffice$Agreement;IIII)I"⟩
abbrev cX10_standing : ByteArray := prog_1_method_59_code
def yX10_standing : MethodName := ⟨RX10, "standing", "(LShipOffice$Agreement;LShipOffice$Fine;I)I"⟩
abbrev cX10_owedOn : ByteArray := prog_1_method_60_code
def yX10_owedOn : MethodName := ⟨RX10, "owedOn", "(LShipOffice$Agreement;II)I"⟩
def RJ7 : String := "java/util/Arrays"
abbrev cJ7_fill_53178 : ByteArray := prog_17_method_103_code
def yJ7_fill_53178 : MethodName := ⟨RJ7, "fill", "([II)V"⟩
def wsX10_refuse : List Cond := .code yX10_refuse cX10_refuse 2 (some .int) :: ([.fieldLink RX10 66 "ShipOffice" "refusals" "[I"] ++ wsX100)
def wsX10_voyageAt : List Cond := .code yX10_voyageAt cX10_voyageAt 2 (some (.object "ShipOffice$Voyage")) :: ([.fieldLink RX10 99 "ShipOffice" "voyageCount" "I", .fieldLink RX10 17 "ShipOffice" "voyages" "[LShipOffice$Voyage;"] ++ wsX100)
def wsX10_ended_r1 : List Cond := [Cond.fieldLink RX10 107 "ShipOffice$Voyage" "isOver" "Z", Cond.fieldLink RX10 111 "ShipOffice$Voyage" "lostTold" "I", Cond.constant RX10 114 (1000000), Cond.fieldLink RX10 115 "ShipOffice" "agreementCount" "I", Cond.fieldLink RX10 23 "ShipOffice" "agreements" "[LShipOffice$Agreement;", Cond.fieldLink RX10 118 "ShipOffice$Agreement" "voyage" "LShipOffice$Voyage;", Cond.fieldLink RX10 73 "ShipOffice" "now" "I", Cond.fieldLink RX10 126 "ShipOffice$Agreement" "offDay" "I", Cond.methodLink RX10 103 yX10_voyageAt, Cond.instanceMethod yX10_voyageAt, Cond.selects RX10 yX10_voyageAt yX10_voyageAt, Cond.initialized RX10, Cond.code yX10_voyageAt cX10_voyageAt 2 (some (.object "ShipOffice$Voyage")), Cond.fieldLink RX10 99 "ShipOffice" "voyageCount" "I", Cond.fieldLink RX10 17 "ShipOffice" "voyages" "[LShipOffice$Voyage;", Cond.methodLink RX10 77 yX10_isPort, Cond.static yX10_isPort, Cond.code yX10_isPort cX10_isPort 1 (some .boolean), Cond.methodLink RX10 69 yX10_refuse, Cond.instanceMethod yX10_refuse, Cond.selects RX10 yX10_refuse yX10_refuse, Cond.code yX10_refuse cX10_refuse 2 (some .int), Cond.fieldLink RX10 66 "ShipOffice" "refusals" "[I", Cond.methodLink RX10 122 yX1_goesOn]
def wsX10_ended_r2 : List Cond := [Cond.instanceMethod yX1_goesOn, Cond.selects RX1 yX1_goesOn yX1_goesOn, Cond.initialized RX1, Cond.code yX1_goesOn cX1_goesOn 1 (some .boolean), Cond.fieldLink RX1 10 "ShipOffice$Agreement" "offDay" "I", Cond.constant RX1 9 (1000000), Cond.fieldLink RX1 44 "ShipOffice$Agreement" "isDead" "Z", Cond.fieldLink RX1 33 "ShipOffice$Agreement" "voyage" "LShipOffice$Voyage;", Cond.fieldLink RX1 48 "ShipOffice$Voyage" "lostTold" "I"]
def wsX10_ended : List Cond := .code yX10_ended cX10_ended 7 (some .int) :: ((wsX10_ended_r1 ++ wsX10_ended_r2) ++ wsX90 ++ wsX100 ++ wsX10)
def wsX10_sailed : List Cond := .code yX10_sailed cX10_sailed 5 (some .int) :: ([.fieldLink RX10 129 "ShipOffice$Voyage" "sailedTold" "I", .constant RX10 114 (1000000), .fieldLink RX10 136 "ShipOffice$Voyage" "sailedDay" "I", .fieldLink RX10 73 "ShipOffice" "now" "I", .fieldLink RX10 139 "ShipOffice" "happeningCount" "I", .methodLink RX10 103 yX10_voyageAt, .instanceMethod yX10_voyageAt, .selects RX10 yX10_voyageAt yX10_voyageAt, .initialized RX10, .code yX10_voyageAt cX10_voyageAt 2 (some (.object "ShipOffice$Voyage")), .fieldLink RX10 99 "ShipOffice" "voyageCount" "I", .fieldLink RX10 17 "ShipOffice" "voyages" "[LShipOffice$Voyage;", .methodLink RX10 69 yX10_refuse, .instanceMethod yX10_refuse, .selects RX10 yX10_refuse yX10_refuse, .code yX10_refuse cX10_refuse 2 (some .int), .fieldLink RX10 66 "ShipOffice" "refusals" "[I", .methodLink RX10 132 yX10_voyageRefusal, .instanceMethod yX10_voyageRefusal, .selects RX10 yX10_voyageRefusal yX10_voyageRefusal, .code yX10_voyageRefusal cX10_voyageRefusal 4 (some .int), .fieldLink RX10 107 "ShipOffice$Voyage" "isOver" "Z", .fieldLink RX10 365 "ShipOffice$Voyage" "openedOn" "I"] ++ wsX90 ++ wsX100)
def wsX10_heard_r1 : List Cond := [Cond.classLink RX10 142 RX3, Cond.instantiable RX3 6, Cond.initialized RX3, Cond.fieldLink RX10 73 "ShipOffice" "now" "I", Cond.fieldLink RX10 144 "ShipOffice$Voyage" "heardOf" "LShipOffice$Happening;", Cond.fieldLink RX10 139 "ShipOffice" "happeningCount" "I", Cond.methodLink RX10 103 yX10_voyageAt, Cond.instanceMethod yX10_voyageAt, Cond.selects RX10 yX10_voyageAt yX10_voyageAt, Cond.initialized RX10, Cond.code yX10_voyageAt cX10_voyageAt 2 (some (.object "ShipOffice$Voyage")), Cond.fieldLink RX10 99 "ShipOffice" "voyageCount" "I", Cond.fieldLink RX10 17 "ShipOffice" "voyages" "[LShipOffice$Voyage;", Cond.methodLink RX10 69 yX10_refuse, Cond.instanceMethod yX10_refuse, Cond.selects RX10 yX10_refuse yX10_refuse, Cond.code yX10_refuse cX10_refuse 2 (some .int), Cond.fieldLink RX10 66 "ShipOffice" "refusals" "[I", Cond.methodLink RX10 132 yX10_voyageRefusal, Cond.instanceMethod yX10_voyageRefusal, Cond.selects RX10 yX10_voyageRefusal yX10_voyageRefusal, Cond.code yX10_voyageRefusal cX10_voyageRefusal 4 (some .int), Cond.fieldLink RX10 107 "ShipOffice$Voyage" "isOver" "Z", Cond.fieldLink RX10 365 "ShipOffice$Voyage" "openedOn" "I"]
def wsX10_heard_r2 : List Cond := [Cond.methodLink RX10 148 yX3_init, Cond.instanceMethod yX3_init, Cond.code yX3_init cX3_init 7 none, Cond.methodLink RX3 1 objectInit, Cond.instanceMethod objectInit, Cond.code objectInit ⟨#[0xb1]⟩ 1 none, Cond.fieldLink RX3 7 "ShipOffice$Happening" "kind" "I", Cond.fieldLink RX3 13 "ShipOffice$Happening" "day" "I", Cond.fieldLink RX3 16 "ShipOffice$Happening" "told" "I", Cond.fieldLink RX3 19 "ShipOffice$Happening" "way" "I", Cond.fieldLink RX3 22 "ShipOffice$Happening" "port" "I", Cond.fieldLink RX3 25 "ShipOffice$Happening" "before" "LShipOffice$Happening;"]
def wsX10_heard : List Cond := .code yX10_heard cX10_heard 5 (some .int) :: ((wsX10_heard_r1 ++ wsX10_heard_r2) ++ wsX30 ++ wsX100 ++ wsX90)
def wsX10_lost : List Cond := .code yX10_lost cX10_lost 5 (some .int) :: ([.fieldLink RX10 111 "ShipOffice$Voyage" "lostTold" "I", .constant RX10 114 (1000000), .fieldLink RX10 151 "ShipOffice$Voyage" "lostDay" "I", .fieldLink RX10 73 "ShipOffice" "now" "I", .fieldLink RX10 139 "ShipOffice" "happeningCount" "I", .methodLink RX10 103 yX10_voyageAt, .instanceMethod yX10_voyageAt, .selects RX10 yX10_voyageAt yX10_voyageAt, .initialized RX10, .code yX10_voyageAt cX10_voyageAt 2 (some (.object "ShipOffice$Voyage")), .fieldLink RX10 99 "ShipOffice" "voyageCount" "I", .fieldLink RX10 17 "ShipOffice" "voyages" "[LShipOffice$Voyage;", .methodLink RX10 69 yX10_refuse, .instanceMethod yX10_refuse, .selects RX10 yX10_refuse yX10_refuse, .code yX10_refuse cX10_refuse 2 (some .int), .fieldLink RX10 66 "ShipOffice" "refusals" "[I", .methodLink RX10 132 yX10_voyageRefusal, .instanceMethod yX10_voyageRefusal, .selects RX10 yX10_voyageRefusal yX10_voyageRefusal, .code yX10_voyageRefusal cX10_voyageRefusal 4 (some .int), .fieldLink RX10 107 "ShipOffice$Voyage" "isOver" "Z", .fieldLink RX10 365 "ShipOffice$Voyage" "openedOn" "I"] ++ wsX90 ++ wsX100)
def wsX10_agreementAt : List Cond := .code yX10_agreementAt cX10_agreementAt 2 (some (.object "ShipOffice$Agreement")) :: ([.fieldLink RX10 115 "ShipOffice" "agreementCount" "I", .fieldLink RX10 23 "ShipOffice" "agreements" "[LShipOffice$Agreement;"] ++ wsX100)
def wsX10_left_r1 : List Cond := [Cond.methodLink RX10 154 yX10_agreementAt, Cond.instanceMethod yX10_agreementAt, Cond.selects RX10 yX10_agreementAt yX10_agreementAt, Cond.initialized RX10, Cond.code yX10_agreementAt cX10_agreementAt 2 (some (.object "ShipOffice$Agreement")), Cond.fieldLink RX10 115 "ShipOffice" "agreementCount" "I", Cond.fieldLink RX10 23 "ShipOffice" "agreements" "[LShipOffice$Agreement;", Cond.methodLink RX10 77 yX10_isPort, Cond.static yX10_isPort, Cond.code yX10_isPort cX10_isPort 1 (some .boolean), Cond.methodLink RX10 69 yX10_refuse, Cond.instanceMethod yX10_refuse, Cond.selects RX10 yX10_refuse yX10_refuse, Cond.code yX10_refuse cX10_refuse 2 (some .int), Cond.fieldLink RX10 66 "ShipOffice" "refusals" "[I", Cond.methodLink RX10 158 yX10_tidingRefusal, Cond.instanceMethod yX10_tidingRefusal, Cond.selects RX10 yX10_tidingRefusal yX10_tidingRefusal, Cond.code yX10_tidingRefusal cX10_tidingRefusal 3 (some .int), Cond.fieldLink RX10 126 "ShipOffice$Agreement" "offDay" "I", Cond.constant RX10 114 (1000000), Cond.fieldLink RX10 255 "ShipOffice$Agreement" "signedOn" "I", Cond.fieldLink RX10 73 "ShipOffice" "now" "I", Cond.fieldLink RX10 139 "ShipOffice" "happeningCount" "I"]
def wsX10_left_r2 : List Cond := [Cond.methodLink RX10 162 yX10_addTiding, Cond.instanceMethod yX10_addTiding, Cond.selects RX10 yX10_addTiding yX10_addTiding, Cond.code yX10_addTiding cX10_addTiding 6 (some .int), Cond.classLink RX10 142 RX3, Cond.instantiable RX3 6, Cond.initialized RX3, Cond.fieldLink RX10 368 "ShipOffice$Agreement" "tidings" "LShipOffice$Happening;", Cond.methodLink RX10 148 yX3_init, Cond.instanceMethod yX3_init, Cond.code yX3_init cX3_init 7 none, Cond.methodLink RX3 1 objectInit, Cond.instanceMethod objectInit, Cond.code objectInit ⟨#[0xb1]⟩ 1 none, Cond.fieldLink RX3 7 "ShipOffice$Happening" "kind" "I", Cond.fieldLink RX3 13 "ShipOffice$Happening" "day" "I", Cond.fieldLink RX3 16 "ShipOffice$Happening" "told" "I", Cond.fieldLink RX3 19 "ShipOffice$Happening" "way" "I", Cond.fieldLink RX3 22 "ShipOffice$Happening" "port" "I", Cond.fieldLink RX3 25 "ShipOffice$Happening" "before" "LShipOffice$Happening;"]
def wsX10_left : List Cond := .code yX10_left cX10_left 7 (some .int) :: ((wsX10_left_r1 ++ wsX10_left_r2) ++ wsX100 ++ wsX10 ++ wsX30)
def wsX10_died_r1 : List Cond := [Cond.fieldLink RX10 166 "ShipOffice$Agreement" "isDead" "Z", Cond.methodLink RX10 154 yX10_agreementAt, Cond.instanceMethod yX10_agreementAt, Cond.selects RX10 yX10_agreementAt yX10_agreementAt, Cond.initialized RX10, Cond.code yX10_agreementAt cX10_agreementAt 2 (some (.object "ShipOffice$Agreement")), Cond.fieldLink RX10 115 "ShipOffice" "agreementCount" "I", Cond.fieldLink RX10 23 "ShipOffice" "agreements" "[LShipOffice$Agreement;", Cond.methodLink RX10 69 yX10_refuse, Cond.instanceMethod yX10_refuse, Cond.selects RX10 yX10_refuse yX10_refuse, Cond.code yX10_refuse cX10_refuse 2 (some .int), Cond.fieldLink RX10 66 "ShipOffice" "refusals" "[I", Cond.methodLink RX10 158 yX10_tidingRefusal, Cond.instanceMethod yX10_tidingRefusal, Cond.selects RX10 yX10_tidingRefusal yX10_tidingRefusal, Cond.code yX10_tidingRefusal cX10_tidingRefusal 3 (some .int), Cond.fieldLink RX10 126 "ShipOffice$Agreement" "offDay" "I", Cond.constant RX10 114 (1000000), Cond.fieldLink RX10 255 "ShipOffice$Agreement" "signedOn" "I", Cond.fieldLink RX10 73 "ShipOffice" "now" "I", Cond.fieldLink RX10 139 "ShipOffice" "happeningCount" "I", Cond.methodLink RX10 162 yX10_addTiding, Cond.instanceMethod yX10_addTiding]
def wsX10_died_r2 : List Cond := [Cond.selects RX10 yX10_addTiding yX10_addTiding, Cond.code yX10_addTiding cX10_addTiding 6 (some .int), Cond.classLink RX10 142 RX3, Cond.instantiable RX3 6, Cond.initialized RX3, Cond.fieldLink RX10 368 "ShipOffice$Agreement" "tidings" "LShipOffice$Happening;", Cond.methodLink RX10 148 yX3_init, Cond.instanceMethod yX3_init, Cond.code yX3_init cX3_init 7 none, Cond.methodLink RX3 1 objectInit, Cond.instanceMethod objectInit, Cond.code objectInit ⟨#[0xb1]⟩ 1 none, Cond.fieldLink RX3 7 "ShipOffice$Happening" "kind" "I", Cond.fieldLink RX3 13 "ShipOffice$Happening" "day" "I", Cond.fieldLink RX3 16 "ShipOffice$Happening" "told" "I", Cond.fieldLink RX3 19 "ShipOffice$Happening" "way" "I", Cond.fieldLink RX3 22 "ShipOffice$Happening" "port" "I", Cond.fieldLink RX3 25 "ShipOffice$Happening" "before" "LShipOffice$Happening;"]
def wsX10_died : List Cond := .code yX10_died cX10_died 5 (some .int) :: ((wsX10_died_r1 ++ wsX10_died_r2) ++ wsX10 ++ wsX100 ++ wsX30)
def wsX10_back_r1 : List Cond := [Cond.methodLink RX10 154 yX10_agreementAt, Cond.instanceMethod yX10_agreementAt, Cond.selects RX10 yX10_agreementAt yX10_agreementAt, Cond.initialized RX10, Cond.code yX10_agreementAt cX10_agreementAt 2 (some (.object "ShipOffice$Agreement")), Cond.fieldLink RX10 115 "ShipOffice" "agreementCount" "I", Cond.fieldLink RX10 23 "ShipOffice" "agreements" "[LShipOffice$Agreement;", Cond.methodLink RX10 69 yX10_refuse, Cond.instanceMethod yX10_refuse, Cond.selects RX10 yX10_refuse yX10_refuse, Cond.code yX10_refuse cX10_refuse 2 (some .int), Cond.fieldLink RX10 66 "ShipOffice" "refusals" "[I", Cond.methodLink RX10 158 yX10_tidingRefusal, Cond.instanceMethod yX10_tidingRefusal, Cond.selects RX10 yX10_tidingRefusal yX10_tidingRefusal, Cond.code yX10_tidingRefusal cX10_tidingRefusal 3 (some .int), Cond.fieldLink RX10 126 "ShipOffice$Agreement" "offDay" "I", Cond.constant RX10 114 (1000000), Cond.fieldLink RX10 255 "ShipOffice$Agreement" "signedOn" "I", Cond.fieldLink RX10 73 "ShipOffice" "now" "I", Cond.fieldLink RX10 139 "ShipOffice" "happeningCount" "I", Cond.methodLink RX10 162 yX10_addTiding, Cond.instanceMethod yX10_addTiding, Cond.selects RX10 yX10_addTiding yX10_addTiding]
def wsX10_back_r2 : List Cond := [Cond.code yX10_addTiding cX10_addTiding 6 (some .int), Cond.classLink RX10 142 RX3, Cond.instantiable RX3 6, Cond.initialized RX3, Cond.fieldLink RX10 368 "ShipOffice$Agreement" "tidings" "LShipOffice$Happening;", Cond.methodLink RX10 148 yX3_init, Cond.instanceMethod yX3_init, Cond.code yX3_init cX3_init 7 none, Cond.methodLink RX3 1 objectInit, Cond.instanceMethod objectInit, Cond.code objectInit ⟨#[0xb1]⟩ 1 none, Cond.fieldLink RX3 7 "ShipOffice$Happening" "kind" "I", Cond.fieldLink RX3 13 "ShipOffice$Happening" "day" "I", Cond.fieldLink RX3 16 "ShipOffice$Happening" "told" "I", Cond.fieldLink RX3 19 "ShipOffice$Happening" "way" "I", Cond.fieldLink RX3 22 "ShipOffice$Happening" "port" "I", Cond.fieldLink RX3 25 "ShipOffice$Happening" "before" "LShipOffice$Happening;"]
def wsX10_back : List Cond := .code yX10_back cX10_back 5 (some .int) :: ((wsX10_back_r1 ++ wsX10_back_r2) ++ wsX100 ++ wsX10 ++ wsX30)
def wsX10_manAt : List Cond := .code yX10_manAt cX10_manAt 2 (some (.object "ShipOffice$Man")) :: ([.fieldLink RX10 86 "ShipOffice" "manCount" "I", .fieldLink RX10 11 "ShipOffice" "men" "[LShipOffice$Man;"] ++ wsX100)
def wsX10_sign_r1 : List Cond := [Cond.fieldLink RX10 115 "ShipOffice" "agreementCount" "I", Cond.fieldLink RX10 126 "ShipOffice$Agreement" "offDay" "I", Cond.constant RX10 114 (1000000), Cond.classLink RX10 21 RX1, Cond.instantiable RX1 18, Cond.initialized RX1, Cond.fieldLink RX10 73 "ShipOffice" "now" "I", Cond.fieldLink RX10 223 "ShipOffice$Agreement" "wage" "I", Cond.fieldLink RX10 226 "ShipOffice$Agreement" "rank" "I", Cond.fieldLink RX10 23 "ShipOffice" "agreements" "[LShipOffice$Agreement;", Cond.methodLink RX10 205 yX10_manAt, Cond.instanceMethod yX10_manAt, Cond.selects RX10 yX10_manAt yX10_manAt, Cond.initialized RX10, Cond.code yX10_manAt cX10_manAt 2 (some (.object "ShipOffice$Man")), Cond.fieldLink RX10 86 "ShipOffice" "manCount" "I", Cond.fieldLink RX10 11 "ShipOffice" "men" "[LShipOffice$Man;", Cond.methodLink RX10 103 yX10_voyageAt, Cond.instanceMethod yX10_voyageAt, Cond.selects RX10 yX10_voyageAt yX10_voyageAt, Cond.code yX10_voyageAt cX10_voyageAt 2 (some (.object "ShipOffice$Voyage")), Cond.fieldLink RX10 99 "ShipOffice" "voyageCount" "I", Cond.fieldLink RX10 17 "ShipOffice" "voyages" "[LShipOffice$Voyage;", Cond.methodLink RX10 154 yX10_agreementAt]
def wsX10_sign_r2 : List Cond := [Cond.instanceMethod yX10_agreementAt, Cond.selects RX10 yX10_agreementAt yX10_agreementAt, Cond.code yX10_agreementAt cX10_agreementAt 2 (some (.object "ShipOffice$Agreement")), Cond.methodLink RX10 69 yX10_refuse, Cond.instanceMethod yX10_refuse, Cond.selects RX10 yX10_refuse yX10_refuse, Cond.code yX10_refuse cX10_refuse 2 (some .int), Cond.fieldLink RX10 66 "ShipOffice" "refusals" "[I", Cond.methodLink RX10 209 yX9_takesHands, Cond.instanceMethod yX9_takesHands, Cond.selects RX9 yX9_takesHands yX9_takesHands, Cond.initialized RX9, Cond.code yX9_takesHands cX9_takesHands 1 (some .boolean), Cond.fieldLink RX9 37 "ShipOffice$Voyage" "isOver" "Z", Cond.fieldLink RX9 16 "ShipOffice$Voyage" "sailedTold" "I", Cond.constant RX9 9 (1000000), Cond.fieldLink RX9 22 "ShipOffice$Voyage" "lostTold" "I", Cond.methodLink RX10 212 yX10_isFree, Cond.instanceMethod yX10_isFree, Cond.selects RX10 yX10_isFree yX10_isFree, Cond.code yX10_isFree cX10_isFree 3 (some .boolean), Cond.fieldLink RX10 299 "ShipOffice$Agreement" "man" "LShipOffice$Man;", Cond.methodLink RX10 122 yX1_goesOn, Cond.instanceMethod yX1_goesOn]
def wsX10_sign_r3 : List Cond := [Cond.selects RX1 yX1_goesOn yX1_goesOn, Cond.code yX1_goesOn cX1_goesOn 1 (some .boolean), Cond.fieldLink RX1 10 "ShipOffice$Agreement" "offDay" "I", Cond.constant RX1 9 (1000000), Cond.fieldLink RX1 44 "ShipOffice$Agreement" "isDead" "Z", Cond.fieldLink RX1 33 "ShipOffice$Agreement" "voyage" "LShipOffice$Voyage;", Cond.fieldLink RX1 48 "ShipOffice$Voyage" "lostTold" "I", Cond.methodLink RX10 216 yX10_signWorth, Cond.instanceMethod yX10_signWorth, Cond.selects RX10 yX10_signWorth yX10_signWorth, Cond.code yX10_signWorth cX10_signWorth 4 (some .int), Cond.fieldLink RX10 59 "ShipOffice" "letters" "[I", Cond.fieldLink RX10 30 "ShipOffice" "law" "LShipOffice$Law;", Cond.methodLink RX10 393 yJ7_fill_53178, Cond.static yJ7_fill_53178, Cond.initialized RJ7, Cond.code yJ7_fill_53178 cJ7_fill_53178 4 none, Cond.methodLink RX10 397 yX6_yearsOn, Cond.instanceMethod yX6_yearsOn, Cond.selects RX6 yX6_yearsOn yX6_yearsOn, Cond.initialized RX6, Cond.code yX6_yearsOn cX6_yearsOn 2 (some .int), Cond.fieldLink RX6 25 "ShipOffice$Man" "born" "I", Cond.methodLink RX10 400 yX5_inForce]
def wsX10_sign_r4 : List Cond := [Cond.instanceMethod yX5_inForce, Cond.selects RX5 yX5_inForce yX5_inForce, Cond.initialized RX5, Cond.code yX5_inForce cX5_inForce 6 (some (.object "ShipOffice$Act")), Cond.fieldLink RX5 17 "ShipOffice$Law" "customs" "[LShipOffice$Act;", Cond.fieldLink RX5 23 "ShipOffice$Law" "actCount" "I", Cond.fieldLink RX5 11 "ShipOffice$Law" "acts" "[LShipOffice$Act;", Cond.fieldLink RX5 27 "ShipOffice$Act" "purpose" "I", Cond.fieldLink RX5 30 "ShipOffice$Act" "day" "I", Cond.methodLink RX10 404 yX0_worth, Cond.instanceMethod yX0_worth, Cond.selects RX0 yX0_worth yX0_worth, Cond.initialized RX0, Cond.code yX0_worth cX0_worth 8 (some .int), Cond.fieldLink RX0 16 "ShipOffice$Act" "code" "[I", Cond.fieldLink RX0 20 "ShipOffice$Act" "stack" "[I", Cond.methodLink RX0 36 yX0_joined, Cond.static yX0_joined, Cond.code yX0_joined cX0_joined 5 (some .int), Cond.methodLink RX0 40 yX0_held, Cond.static yX0_held, Cond.code yX0_held cX0_held 2 (some .int), Cond.constantLong RX0 44 (1000000000), Cond.constant RX0 46 (1000000000)]
def wsX10_sign_r5 : List Cond := [Cond.constantLong RX0 47 (-1000000000), Cond.constant RX0 49 (-1000000000), Cond.methodLink RX10 220 yX1_init, Cond.instanceMethod yX1_init, Cond.code yX1_init cX1_init 5 none, Cond.methodLink RX1 3 objectInit, Cond.instanceMethod objectInit, Cond.code objectInit ⟨#[0xb1]⟩ 1 none, Cond.classLink RX1 16 RX2, Cond.fieldLink RX1 18 "ShipOffice$Agreement" "fines" "[LShipOffice$Fine;", Cond.arrayClass .int, Cond.fieldLink RX1 22 "ShipOffice$Agreement" "shortTold" "[I", Cond.fieldLink RX1 26 "ShipOffice$Agreement" "shortSum" "[I", Cond.fieldLink RX1 29 "ShipOffice$Agreement" "man" "LShipOffice$Man;", Cond.fieldLink RX1 37 "ShipOffice$Agreement" "signedOn" "I", Cond.fieldLink RX1 40 "ShipOffice$Agreement" "paper" "LShipOffice$Agreement;"]
def wsX10_sign : List Cond := .code yX10_sign cX10_sign 11 (some .int) :: ((wsX10_sign_r1 ++ (wsX10_sign_r2 ++ (wsX10_sign_r3 ++ (wsX10_sign_r4 ++ wsX10_sign_r5)))) ++ wsX100 ++ wsX10 ++ wsX90 ++ wsX60 ++ wsX50 ++ wsX00)
def wsX10_off_r1 : List Cond := [Cond.fieldLink RX10 73 "ShipOffice" "now" "I", Cond.fieldLink RX10 126 "ShipOffice$Agreement" "offDay" "I", Cond.methodLink RX10 154 yX10_agreementAt, Cond.instanceMethod yX10_agreementAt, Cond.selects RX10 yX10_agreementAt yX10_agreementAt, Cond.initialized RX10, Cond.code yX10_agreementAt cX10_agreementAt 2 (some (.object "ShipOffice$Agreement")), Cond.fieldLink RX10 115 "ShipOffice" "agreementCount" "I", Cond.fieldLink RX10 23 "ShipOffice" "agreements" "[LShipOffice$Agreement;", Cond.methodLink RX10 77 yX10_isPort, Cond.static yX10_isPort, Cond.code yX10_isPort cX10_isPort 1 (some .boolean), Cond.methodLink RX10 69 yX10_refuse, Cond.instanceMethod yX10_refuse, Cond.selects RX10 yX10_refuse yX10_refuse, Cond.code yX10_refuse cX10_refuse 2 (some .int), Cond.fieldLink RX10 66 "ShipOffice" "refusals" "[I", Cond.methodLink RX10 122 yX1_goesOn, Cond.instanceMethod yX1_goesOn, Cond.selects RX1 yX1_goesOn yX1_goesOn, Cond.initialized RX1, Cond.code yX1_goesOn cX1_goesOn 1 (some .boolean), Cond.fieldLink RX1 10 "ShipOffice$Agreement" "offDay" "I", Cond.constant RX1 9 (1000000)]
def wsX10_off_r2 : List Cond := [Cond.fieldLink RX1 44 "ShipOffice$Agreement" "isDead" "Z", Cond.fieldLink RX1 33 "ShipOffice$Agreement" "voyage" "LShipOffice$Voyage;", Cond.fieldLink RX1 48 "ShipOffice$Voyage" "lostTold" "I"]
def wsX10_off : List Cond := .code yX10_off cX10_off 4 (some .int) :: ((wsX10_off_r1 ++ wsX10_off_r2) ++ wsX100 ++ wsX10 ++ wsX90)
def wsX10_state_r1 : List Cond := [Cond.fieldLink RX10 30 "ShipOffice" "law" "LShipOffice$Law;", Cond.methodLink RX10 154 yX10_agreementAt, Cond.instanceMethod yX10_agreementAt, Cond.selects RX10 yX10_agreementAt yX10_agreementAt, Cond.initialized RX10, Cond.code yX10_agreementAt cX10_agreementAt 2 (some (.object "ShipOffice$Agreement")), Cond.fieldLink RX10 115 "ShipOffice" "agreementCount" "I", Cond.fieldLink RX10 23 "ShipOffice" "agreements" "[LShipOffice$Agreement;", Cond.methodLink RX10 69 yX10_refuse, Cond.instanceMethod yX10_refuse, Cond.selects RX10 yX10_refuse yX10_refuse, Cond.code yX10_refuse cX10_refuse 2 (some .int), Cond.fieldLink RX10 66 "ShipOffice" "refusals" "[I", Cond.methodLink RX10 229 yX10_askRefusal, Cond.instanceMethod yX10_askRefusal, Cond.selects RX10 yX10_askRefusal yX10_askRefusal, Cond.code yX10_askRefusal cX10_askRefusal 3 (some .int), Cond.fieldLink RX10 73 "ShipOffice" "now" "I", Cond.methodLink RX10 233 yX1_stateOn, Cond.instanceMethod yX1_stateOn, Cond.selects RX1 yX1_stateOn yX1_stateOn, Cond.initialized RX1, Cond.code yX1_stateOn cX1_stateOn 5 (some .int), Cond.fieldLink RX1 37 "ShipOffice$Agreement" "signedOn" "I"]
def wsX10_state_r2 : List Cond := [Cond.fieldLink RX1 33 "ShipOffice$Agreement" "voyage" "LShipOffice$Voyage;", Cond.fieldLink RX1 44 "ShipOffice$Agreement" "isDead" "Z", Cond.fieldLink RX1 10 "ShipOffice$Agreement" "offDay" "I", Cond.fieldLink RX1 64 "ShipOffice$Happening" "kind" "I", Cond.fieldLink RX1 82 "ShipOffice$Act" "plainWorth" "I", Cond.methodLink RX1 53 yX9_lostBy, Cond.instanceMethod yX9_lostBy, Cond.selects RX9 yX9_lostBy yX9_lostBy, Cond.initialized RX9, Cond.code yX9_lostBy cX9_lostBy 3 (some .boolean), Cond.fieldLink RX9 22 "ShipOffice$Voyage" "lostTold" "I", Cond.fieldLink RX9 19 "ShipOffice$Voyage" "lostDay" "I", Cond.methodLink RX1 57 yX1_diedBy, Cond.instanceMethod yX1_diedBy, Cond.selects RX1 yX1_diedBy yX1_diedBy, Cond.code yX1_diedBy cX1_diedBy 4 (some .boolean), Cond.fieldLink RX1 87 "ShipOffice$Agreement" "tidings" "LShipOffice$Happening;", Cond.fieldLink RX1 91 "ShipOffice$Happening" "told" "I", Cond.fieldLink RX1 94 "ShipOffice$Happening" "day" "I", Cond.fieldLink RX1 97 "ShipOffice$Happening" "before" "LShipOffice$Happening;", Cond.methodLink RX1 60 yX1_lastMove, Cond.instanceMethod yX1_lastMove, Cond.selects RX1 yX1_lastMove yX1_lastMove, Cond.code yX1_lastMove cX1_lastMove 6 (some (.object "ShipOffice$Happening"))]
def wsX10_state_r3 : List Cond := [Cond.methodLink RX1 69 yX9_sailedBy, Cond.instanceMethod yX9_sailedBy, Cond.selects RX9 yX9_sailedBy yX9_sailedBy, Cond.code yX9_sailedBy cX9_sailedBy 3 (some .boolean), Cond.fieldLink RX9 16 "ShipOffice$Voyage" "sailedTold" "I", Cond.fieldLink RX9 10 "ShipOffice$Voyage" "sailedDay" "I", Cond.methodLink RX1 72 yX9_lastHeard, Cond.instanceMethod yX9_lastHeard, Cond.selects RX9 yX9_lastHeard yX9_lastHeard, Cond.code yX9_lastHeard cX9_lastHeard 5 (some .int), Cond.fieldLink RX9 41 "ShipOffice$Voyage" "heardOf" "LShipOffice$Happening;", Cond.fieldLink RX9 45 "ShipOffice$Happening" "told" "I", Cond.fieldLink RX9 50 "ShipOffice$Happening" "day" "I", Cond.fieldLink RX9 53 "ShipOffice$Happening" "before" "LShipOffice$Happening;", Cond.methodLink RX1 76 yX5_inForce, Cond.instanceMethod yX5_inForce, Cond.selects RX5 yX5_inForce yX5_inForce, Cond.initialized RX5, Cond.code yX5_inForce cX5_inForce 6 (some (.object "ShipOffice$Act")), Cond.fieldLink RX5 17 "ShipOffice$Law" "customs" "[LShipOffice$Act;", Cond.fieldLink RX5 23 "ShipOffice$Law" "actCount" "I", Cond.fieldLink RX5 11 "ShipOffice$Law" "acts" "[LShipOffice$Act;", Cond.fieldLink RX5 27 "ShipOffice$Act" "purpose" "I", Cond.fieldLink RX5 30 "ShipOffice$Act" "day" "I"]
def wsX10_state : List Cond := .code yX10_state cX10_state 6 (some .int) :: ((wsX10_state_r1 ++ (wsX10_state_r2 ++ wsX10_state_r3)) ++ wsX100 ++ wsX10 ++ wsX30 ++ wsX00 ++ wsX90 ++ wsX50)
def wsX10_earns_r1 : List Cond := [Cond.fieldLink RX10 30 "ShipOffice" "law" "LShipOffice$Law;", Cond.methodLink RX10 154 yX10_agreementAt, Cond.instanceMethod yX10_agreementAt, Cond.selects RX10 yX10_agreementAt yX10_agreementAt, Cond.initialized RX10, Cond.code yX10_agreementAt cX10_agreementAt 2 (some (.object "ShipOffice$Agreement")), Cond.fieldLink RX10 115 "ShipOffice" "agreementCount" "I", Cond.fieldLink RX10 23 "ShipOffice" "agreements" "[LShipOffice$Agreement;", Cond.methodLink RX10 69 yX10_refuse, Cond.instanceMethod yX10_refuse, Cond.selects RX10 yX10_refuse yX10_refuse, Cond.code yX10_refuse cX10_refuse 2 (some .int), Cond.fieldLink RX10 66 "ShipOffice" "refusals" "[I", Cond.methodLink RX10 229 yX10_askRefusal, Cond.instanceMethod yX10_askRefusal, Cond.selects RX10 yX10_askRefusal yX10_askRefusal, Cond.code yX10_askRefusal cX10_askRefusal 3 (some .int), Cond.fieldLink RX10 73 "ShipOffice" "now" "I", Cond.methodLink RX10 237 yX1_earningDays, Cond.instanceMethod yX1_earningDays, Cond.selects RX1 yX1_earningDays yX1_earningDays, Cond.initialized RX1, Cond.code yX1_earningDays cX1_earningDays 5 (some .int), Cond.fieldLink RX1 33 "ShipOffice$Agreement" "voyage" "LShipOffice$Voyage;"]
def wsX10_earns_r2 : List Cond := [Cond.methodLink RX1 100 yX1_stateOn, Cond.instanceMethod yX1_stateOn, Cond.selects RX1 yX1_stateOn yX1_stateOn, Cond.code yX1_stateOn cX1_stateOn 5 (some .int), Cond.fieldLink RX1 37 "ShipOffice$Agreement" "signedOn" "I", Cond.fieldLink RX1 44 "ShipOffice$Agreement" "isDead" "Z", Cond.fieldLink RX1 10 "ShipOffice$Agreement" "offDay" "I", Cond.fieldLink RX1 64 "ShipOffice$Happening" "kind" "I", Cond.fieldLink RX1 82 "ShipOffice$Act" "plainWorth" "I", Cond.methodLink RX1 53 yX9_lostBy, Cond.instanceMethod yX9_lostBy, Cond.selects RX9 yX9_lostBy yX9_lostBy, Cond.initialized RX9, Cond.code yX9_lostBy cX9_lostBy 3 (some .boolean), Cond.fieldLink RX9 22 "ShipOffice$Voyage" "lostTold" "I", Cond.fieldLink RX9 19 "ShipOffice$Voyage" "lostDay" "I", Cond.methodLink RX1 57 yX1_diedBy, Cond.instanceMethod yX1_diedBy, Cond.selects RX1 yX1_diedBy yX1_diedBy, Cond.code yX1_diedBy cX1_diedBy 4 (some .boolean), Cond.fieldLink RX1 87 "ShipOffice$Agreement" "tidings" "LShipOffice$Happening;", Cond.fieldLink RX1 91 "ShipOffice$Happening" "told" "I", Cond.fieldLink RX1 94 "ShipOffice$Happening" "day" "I", Cond.fieldLink RX1 97 "ShipOffice$Happening" "before" "LShipOffice$Happening;"]
def wsX10_earns_r3 : List Cond := [Cond.methodLink RX1 60 yX1_lastMove, Cond.instanceMethod yX1_lastMove, Cond.selects RX1 yX1_lastMove yX1_lastMove, Cond.code yX1_lastMove cX1_lastMove 6 (some (.object "ShipOffice$Happening")), Cond.methodLink RX1 69 yX9_sailedBy, Cond.instanceMethod yX9_sailedBy, Cond.selects RX9 yX9_sailedBy yX9_sailedBy, Cond.code yX9_sailedBy cX9_sailedBy 3 (some .boolean), Cond.fieldLink RX9 16 "ShipOffice$Voyage" "sailedTold" "I", Cond.fieldLink RX9 10 "ShipOffice$Voyage" "sailedDay" "I", Cond.methodLink RX1 72 yX9_lastHeard, Cond.instanceMethod yX9_lastHeard, Cond.selects RX9 yX9_lastHeard yX9_lastHeard, Cond.code yX9_lastHeard cX9_lastHeard 5 (some .int), Cond.fieldLink RX9 41 "ShipOffice$Voyage" "heardOf" "LShipOffice$Happening;", Cond.fieldLink RX9 45 "ShipOffice$Happening" "told" "I", Cond.fieldLink RX9 50 "ShipOffice$Happening" "day" "I", Cond.fieldLink RX9 53 "ShipOffice$Happening" "before" "LShipOffice$Happening;", Cond.methodLink RX1 76 yX5_inForce, Cond.instanceMethod yX5_inForce, Cond.selects RX5 yX5_inForce yX5_inForce, Cond.initialized RX5, Cond.code yX5_inForce cX5_inForce 6 (some (.object "ShipOffice$Act")), Cond.fieldLink RX5 17 "ShipOffice$Law" "customs" "[LShipOffice$Act;"]
def wsX10_earns_r4 : List Cond := [Cond.fieldLink RX5 23 "ShipOffice$Law" "actCount" "I", Cond.fieldLink RX5 11 "ShipOffice$Law" "acts" "[LShipOffice$Act;", Cond.fieldLink RX5 27 "ShipOffice$Act" "purpose" "I", Cond.fieldLink RX5 30 "ShipOffice$Act" "day" "I", Cond.methodLink RX1 104 yX1_daysIn, Cond.instanceMethod yX1_daysIn, Cond.selects RX1 yX1_daysIn yX1_daysIn, Cond.code yX1_daysIn cX1_daysIn 10 (some .int), Cond.methodLink RX1 111 Lib.Math.min.name, Cond.static Lib.Math.min.name, Cond.initialized "java/lang/Math", Cond.code Lib.Math.min.name Lib.Math.min.code 2 (some .int), Cond.methodLink RX1 108 yX1_nextChange, Cond.instanceMethod yX1_nextChange, Cond.selects RX1 yX1_nextChange yX1_nextChange, Cond.code yX1_nextChange cX1_nextChange 6 (some .int), Cond.constant RX1 9 (1000000), Cond.methodLink RX1 116 yX1_nearer, Cond.static yX1_nearer, Cond.code yX1_nearer cX1_nearer 3 (some .int), Cond.methodLink RX1 120 yX9_nextTold, Cond.instanceMethod yX9_nextTold, Cond.selects RX9 yX9_nextTold yX9_nextTold, Cond.code yX9_nextTold cX9_nextTold 5 (some .int)]
def wsX10_earns_r5 : List Cond := [Cond.constant RX9 9 (1000000), Cond.methodLink RX1 123 yX5_nextPresume, Cond.instanceMethod yX5_nextPresume, Cond.selects RX5 yX5_nextPresume yX5_nextPresume, Cond.code yX5_nextPresume cX5_nextPresume 4 (some .int), Cond.constant RX5 33 (1000000)]
def wsX10_earns : List Cond := .code yX10_earns cX10_earns 6 (some .int) :: ((wsX10_earns_r1 ++ (wsX10_earns_r2 ++ (wsX10_earns_r3 ++ (wsX10_earns_r4 ++ wsX10_earns_r5)))) ++ wsX100 ++ wsX10 ++ wsX30 ++ wsX00 ++ wsX90 ++ wsX50)
def wsX10_advance_r1 : List Cond := [Cond.fieldLink RX10 240 "ShipOffice$Agreement" "note" "I", Cond.fieldLink RX10 73 "ShipOffice" "now" "I", Cond.fieldLink RX10 30 "ShipOffice" "law" "LShipOffice$Law;", Cond.constant RX10 85 (99999), Cond.methodLink RX10 154 yX10_agreementAt, Cond.instanceMethod yX10_agreementAt, Cond.selects RX10 yX10_agreementAt yX10_agreementAt, Cond.initialized RX10, Cond.code yX10_agreementAt cX10_agreementAt 2 (some (.object "ShipOffice$Agreement")), Cond.fieldLink RX10 115 "ShipOffice" "agreementCount" "I", Cond.fieldLink RX10 23 "ShipOffice" "agreements" "[LShipOffice$Agreement;", Cond.methodLink RX10 69 yX10_refuse, Cond.instanceMethod yX10_refuse, Cond.selects RX10 yX10_refuse yX10_refuse, Cond.code yX10_refuse cX10_refuse 2 (some .int), Cond.fieldLink RX10 66 "ShipOffice" "refusals" "[I", Cond.methodLink RX10 233 yX1_stateOn, Cond.instanceMethod yX1_stateOn, Cond.selects RX1 yX1_stateOn yX1_stateOn, Cond.initialized RX1, Cond.code yX1_stateOn cX1_stateOn 5 (some .int), Cond.fieldLink RX1 37 "ShipOffice$Agreement" "signedOn" "I", Cond.fieldLink RX1 33 "ShipOffice$Agreement" "voyage" "LShipOffice$Voyage;", Cond.fieldLink RX1 44 "ShipOffice$Agreement" "isDead" "Z"]
def wsX10_advance_r2 : List Cond := [Cond.fieldLink RX1 10 "ShipOffice$Agreement" "offDay" "I", Cond.fieldLink RX1 64 "ShipOffice$Happening" "kind" "I", Cond.fieldLink RX1 82 "ShipOffice$Act" "plainWorth" "I", Cond.methodLink RX1 53 yX9_lostBy, Cond.instanceMethod yX9_lostBy, Cond.selects RX9 yX9_lostBy yX9_lostBy, Cond.initialized RX9, Cond.code yX9_lostBy cX9_lostBy 3 (some .boolean), Cond.fieldLink RX9 22 "ShipOffice$Voyage" "lostTold" "I", Cond.fieldLink RX9 19 "ShipOffice$Voyage" "lostDay" "I", Cond.methodLink RX1 57 yX1_diedBy, Cond.instanceMethod yX1_diedBy, Cond.selects RX1 yX1_diedBy yX1_diedBy, Cond.code yX1_diedBy cX1_diedBy 4 (some .boolean), Cond.fieldLink RX1 87 "ShipOffice$Agreement" "tidings" "LShipOffice$Happening;", Cond.fieldLink RX1 91 "ShipOffice$Happening" "told" "I", Cond.fieldLink RX1 94 "ShipOffice$Happening" "day" "I", Cond.fieldLink RX1 97 "ShipOffice$Happening" "before" "LShipOffice$Happening;", Cond.methodLink RX1 60 yX1_lastMove, Cond.instanceMethod yX1_lastMove, Cond.selects RX1 yX1_lastMove yX1_lastMove, Cond.code yX1_lastMove cX1_lastMove 6 (some (.object "ShipOffice$Happening")), Cond.methodLink RX1 69 yX9_sailedBy, Cond.instanceMethod yX9_sailedBy]
def wsX10_advance_r3 : List Cond := [Cond.selects RX9 yX9_sailedBy yX9_sailedBy, Cond.code yX9_sailedBy cX9_sailedBy 3 (some .boolean), Cond.fieldLink RX9 16 "ShipOffice$Voyage" "sailedTold" "I", Cond.fieldLink RX9 10 "ShipOffice$Voyage" "sailedDay" "I", Cond.methodLink RX1 72 yX9_lastHeard, Cond.instanceMethod yX9_lastHeard, Cond.selects RX9 yX9_lastHeard yX9_lastHeard, Cond.code yX9_lastHeard cX9_lastHeard 5 (some .int), Cond.fieldLink RX9 41 "ShipOffice$Voyage" "heardOf" "LShipOffice$Happening;", Cond.fieldLink RX9 45 "ShipOffice$Happening" "told" "I", Cond.fieldLink RX9 50 "ShipOffice$Happening" "day" "I", Cond.fieldLink RX9 53 "ShipOffice$Happening" "before" "LShipOffice$Happening;", Cond.methodLink RX1 76 yX5_inForce, Cond.instanceMethod yX5_inForce, Cond.selects RX5 yX5_inForce yX5_inForce, Cond.initialized RX5, Cond.code yX5_inForce cX5_inForce 6 (some (.object "ShipOffice$Act")), Cond.fieldLink RX5 17 "ShipOffice$Law" "customs" "[LShipOffice$Act;", Cond.fieldLink RX5 23 "ShipOffice$Law" "actCount" "I", Cond.fieldLink RX5 11 "ShipOffice$Law" "acts" "[LShipOffice$Act;", Cond.fieldLink RX5 27 "ShipOffice$Act" "purpose" "I", Cond.fieldLink RX5 30 "ShipOffice$Act" "day" "I"]
def wsX10_advance : List Cond := .code yX10_advance cX10_advance 4 (some .int) :: ((wsX10_advance_r1 ++ (wsX10_advance_r2 ++ wsX10_advance_r3)) ++ wsX10 ++ wsX100 ++ wsX30 ++ wsX00 ++ wsX90 ++ wsX50)
def wsX10_sold : List Cond := .code yX10_sold cX10_sold 4 (some .int) :: ([.fieldLink RX10 240 "ShipOffice$Agreement" "note" "I", .fieldLink RX10 243 "ShipOffice$Agreement" "given" "I", .methodLink RX10 154 yX10_agreementAt, .instanceMethod yX10_agreementAt, .selects RX10 yX10_agreementAt yX10_agreementAt, .initialized RX10, .code yX10_agreementAt cX10_agreementAt 2 (some (.object "ShipOffice$Agreement")), .fieldLink RX10 115 "ShipOffice" "agreementCount" "I", .fieldLink RX10 23 "ShipOffice" "agreements" "[LShipOffice$Agreement;", .methodLink RX10 69 yX10_refuse, .instanceMethod yX10_refuse, .selects RX10 yX10_refuse yX10_refuse, .code yX10_refuse cX10_refuse 2 (some .int), .fieldLink RX10 66 "ShipOffice" "refusals" "[I"] ++ wsX10 ++ wsX100)
def wsX10_allot_r1 : List Cond := [Cond.fieldLink RX10 246 "ShipOffice$Agreement" "allotment" "I", Cond.fieldLink RX10 73 "ShipOffice" "now" "I", Cond.fieldLink RX10 223 "ShipOffice$Agreement" "wage" "I", Cond.constantLong RX10 253 (100), Cond.methodLink RX10 154 yX10_agreementAt, Cond.instanceMethod yX10_agreementAt, Cond.selects RX10 yX10_agreementAt yX10_agreementAt, Cond.initialized RX10, Cond.code yX10_agreementAt cX10_agreementAt 2 (some (.object "ShipOffice$Agreement")), Cond.fieldLink RX10 115 "ShipOffice" "agreementCount" "I", Cond.fieldLink RX10 23 "ShipOffice" "agreements" "[LShipOffice$Agreement;", Cond.methodLink RX10 69 yX10_refuse, Cond.instanceMethod yX10_refuse, Cond.selects RX10 yX10_refuse yX10_refuse, Cond.code yX10_refuse cX10_refuse 2 (some .int), Cond.fieldLink RX10 66 "ShipOffice" "refusals" "[I", Cond.methodLink RX10 122 yX1_goesOn, Cond.instanceMethod yX1_goesOn, Cond.selects RX1 yX1_goesOn yX1_goesOn, Cond.initialized RX1, Cond.code yX1_goesOn cX1_goesOn 1 (some .boolean), Cond.fieldLink RX1 10 "ShipOffice$Agreement" "offDay" "I", Cond.constant RX1 9 (1000000), Cond.fieldLink RX1 44 "ShipOffice$Agreement" "isDead" "Z"]
def wsX10_allot_r2 : List Cond := [Cond.fieldLink RX1 33 "ShipOffice$Agreement" "voyage" "LShipOffice$Voyage;", Cond.fieldLink RX1 48 "ShipOffice$Voyage" "lostTold" "I", Cond.methodLink RX10 249 yX10_worthFor, Cond.instanceMethod yX10_worthFor, Cond.selects RX10 yX10_worthFor yX10_worthFor, Cond.code yX10_worthFor cX10_worthFor 8 (some .int), Cond.fieldLink RX10 30 "ShipOffice" "law" "LShipOffice$Law;", Cond.fieldLink RX10 59 "ShipOffice" "letters" "[I", Cond.fieldLink RX10 226 "ShipOffice$Agreement" "rank" "I", Cond.fieldLink RX10 299 "ShipOffice$Agreement" "man" "LShipOffice$Man;", Cond.fieldLink RX10 118 "ShipOffice$Agreement" "voyage" "LShipOffice$Voyage;", Cond.methodLink RX10 400 yX5_inForce, Cond.instanceMethod yX5_inForce, Cond.selects RX5 yX5_inForce yX5_inForce, Cond.initialized RX5, Cond.code yX5_inForce cX5_inForce 6 (some (.object "ShipOffice$Act")), Cond.fieldLink RX5 17 "ShipOffice$Law" "customs" "[LShipOffice$Act;", Cond.fieldLink RX5 23 "ShipOffice$Law" "actCount" "I", Cond.fieldLink RX5 11 "ShipOffice$Law" "acts" "[LShipOffice$Act;", Cond.fieldLink RX5 27 "ShipOffice$Act" "purpose" "I", Cond.fieldLink RX5 30 "ShipOffice$Act" "day" "I", Cond.methodLink RX10 397 yX6_yearsOn, Cond.instanceMethod yX6_yearsOn, Cond.selects RX6 yX6_yearsOn yX6_yearsOn]
def wsX10_allot_r3 : List Cond := [Cond.initialized RX6, Cond.code yX6_yearsOn cX6_yearsOn 2 (some .int), Cond.fieldLink RX6 25 "ShipOffice$Man" "born" "I", Cond.methodLink RX10 408 yX0_uses, Cond.instanceMethod yX0_uses, Cond.selects RX0 yX0_uses yX0_uses, Cond.initialized RX0, Cond.code yX0_uses cX0_uses 6 (some .boolean), Cond.fieldLink RX0 16 "ShipOffice$Act" "code" "[I", Cond.methodLink RX10 411 yX1_daysIn, Cond.instanceMethod yX1_daysIn, Cond.selects RX1 yX1_daysIn yX1_daysIn, Cond.code yX1_daysIn cX1_daysIn 10 (some .int), Cond.fieldLink RX1 37 "ShipOffice$Agreement" "signedOn" "I", Cond.methodLink RX1 111 Lib.Math.min.name, Cond.static Lib.Math.min.name, Cond.initialized "java/lang/Math", Cond.code Lib.Math.min.name Lib.Math.min.code 2 (some .int), Cond.methodLink RX1 100 yX1_stateOn, Cond.instanceMethod yX1_stateOn, Cond.selects RX1 yX1_stateOn yX1_stateOn, Cond.code yX1_stateOn cX1_stateOn 5 (some .int), Cond.fieldLink RX1 64 "ShipOffice$Happening" "kind" "I", Cond.fieldLink RX1 82 "ShipOffice$Act" "plainWorth" "I"]
def wsX10_allot_r4 : List Cond := [Cond.methodLink RX1 53 yX9_lostBy, Cond.instanceMethod yX9_lostBy, Cond.selects RX9 yX9_lostBy yX9_lostBy, Cond.initialized RX9, Cond.code yX9_lostBy cX9_lostBy 3 (some .boolean), Cond.fieldLink RX9 22 "ShipOffice$Voyage" "lostTold" "I", Cond.fieldLink RX9 19 "ShipOffice$Voyage" "lostDay" "I", Cond.methodLink RX1 57 yX1_diedBy, Cond.instanceMethod yX1_diedBy, Cond.selects RX1 yX1_diedBy yX1_diedBy, Cond.code yX1_diedBy cX1_diedBy 4 (some .boolean), Cond.fieldLink RX1 87 "ShipOffice$Agreement" "tidings" "LShipOffice$Happening;", Cond.fieldLink RX1 91 "ShipOffice$Happening" "told" "I", Cond.fieldLink RX1 94 "ShipOffice$Happening" "day" "I", Cond.fieldLink RX1 97 "ShipOffice$Happening" "before" "LShipOffice$Happening;", Cond.methodLink RX1 60 yX1_lastMove, Cond.instanceMethod yX1_lastMove, Cond.selects RX1 yX1_lastMove yX1_lastMove, Cond.code yX1_lastMove cX1_lastMove 6 (some (.object "ShipOffice$Happening")), Cond.methodLink RX1 69 yX9_sailedBy, Cond.instanceMethod yX9_sailedBy, Cond.selects RX9 yX9_sailedBy yX9_sailedBy, Cond.code yX9_sailedBy cX9_sailedBy 3 (some .boolean), Cond.fieldLink RX9 16 "ShipOffice$Voyage" "sailedTold" "I"]
def wsX10_allot_r5 : List Cond := [Cond.fieldLink RX9 10 "ShipOffice$Voyage" "sailedDay" "I", Cond.methodLink RX1 72 yX9_lastHeard, Cond.instanceMethod yX9_lastHeard, Cond.selects RX9 yX9_lastHeard yX9_lastHeard, Cond.code yX9_lastHeard cX9_lastHeard 5 (some .int), Cond.fieldLink RX9 41 "ShipOffice$Voyage" "heardOf" "LShipOffice$Happening;", Cond.fieldLink RX9 45 "ShipOffice$Happening" "told" "I", Cond.fieldLink RX9 50 "ShipOffice$Happening" "day" "I", Cond.fieldLink RX9 53 "ShipOffice$Happening" "before" "LShipOffice$Happening;", Cond.methodLink RX1 76 yX5_inForce, Cond.methodLink RX1 108 yX1_nextChange, Cond.instanceMethod yX1_nextChange, Cond.selects RX1 yX1_nextChange yX1_nextChange, Cond.code yX1_nextChange cX1_nextChange 6 (some .int), Cond.methodLink RX1 116 yX1_nearer, Cond.static yX1_nearer, Cond.code yX1_nearer cX1_nearer 3 (some .int), Cond.methodLink RX1 120 yX9_nextTold, Cond.instanceMethod yX9_nextTold, Cond.selects RX9 yX9_nextTold yX9_nextTold, Cond.code yX9_nextTold cX9_nextTold 5 (some .int), Cond.constant RX9 9 (1000000), Cond.methodLink RX1 123 yX5_nextPresume, Cond.instanceMethod yX5_nextPresume]
def wsX10_allot_r6 : List Cond := [Cond.selects RX5 yX5_nextPresume yX5_nextPresume, Cond.code yX5_nextPresume cX5_nextPresume 4 (some .int), Cond.constant RX5 33 (1000000), Cond.methodLink RX10 307 yX10_menAboard, Cond.instanceMethod yX10_menAboard, Cond.selects RX10 yX10_menAboard yX10_menAboard, Cond.code yX10_menAboard cX10_menAboard 6 (some .int), Cond.methodLink RX10 233 yX1_stateOn, Cond.methodLink RX10 415 yX9_daysUnheard, Cond.instanceMethod yX9_daysUnheard, Cond.selects RX9 yX9_daysUnheard yX9_daysUnheard, Cond.code yX9_daysUnheard cX9_daysUnheard 4 (some .int), Cond.methodLink RX9 56 yX9_lastHeard, Cond.methodLink RX10 404 yX0_worth, Cond.instanceMethod yX0_worth, Cond.selects RX0 yX0_worth yX0_worth, Cond.code yX0_worth cX0_worth 8 (some .int), Cond.fieldLink RX0 20 "ShipOffice$Act" "stack" "[I", Cond.methodLink RX0 36 yX0_joined, Cond.static yX0_joined, Cond.code yX0_joined cX0_joined 5 (some .int), Cond.methodLink RX0 40 yX0_held, Cond.static yX0_held, Cond.code yX0_held cX0_held 2 (some .int)]
def wsX10_allot_r7 : List Cond := [Cond.constantLong RX0 44 (1000000000), Cond.constant RX0 46 (1000000000), Cond.constantLong RX0 47 (-1000000000), Cond.constant RX0 49 (-1000000000)]
def wsX10_allot : List Cond := .code yX10_allot cX10_allot 6 (some .int) :: ((wsX10_allot_r1 ++ (wsX10_allot_r2 ++ (wsX10_allot_r3 ++ (wsX10_allot_r4 ++ (wsX10_allot_r5 ++ (wsX10_allot_r6 ++ wsX10_allot_r7)))))) ++ wsX10 ++ wsX100 ++ wsX90 ++ wsX50 ++ wsX00 ++ wsX60 ++ wsX30)
def wsX10_fine_r1 : List Cond := [Cond.fieldLink RX10 126 "ShipOffice$Agreement" "offDay" "I", Cond.constant RX10 114 (1000000), Cond.fieldLink RX10 255 "ShipOffice$Agreement" "signedOn" "I", Cond.fieldLink RX10 73 "ShipOffice" "now" "I", Cond.fieldLink RX10 258 "ShipOffice$Agreement" "fineCount" "I", Cond.fieldLink RX10 261 "ShipOffice$Agreement" "fines" "[LShipOffice$Fine;", Cond.classLink RX10 265 RX2, Cond.instantiable RX2 3, Cond.initialized RX2, Cond.methodLink RX10 154 yX10_agreementAt, Cond.instanceMethod yX10_agreementAt, Cond.selects RX10 yX10_agreementAt yX10_agreementAt, Cond.initialized RX10, Cond.code yX10_agreementAt cX10_agreementAt 2 (some (.object "ShipOffice$Agreement")), Cond.fieldLink RX10 115 "ShipOffice" "agreementCount" "I", Cond.fieldLink RX10 23 "ShipOffice" "agreements" "[LShipOffice$Agreement;", Cond.methodLink RX10 69 yX10_refuse, Cond.instanceMethod yX10_refuse, Cond.selects RX10 yX10_refuse yX10_refuse, Cond.code yX10_refuse cX10_refuse 2 (some .int), Cond.fieldLink RX10 66 "ShipOffice" "refusals" "[I", Cond.methodLink RX10 267 yX2_init, Cond.instanceMethod yX2_init, Cond.code yX2_init cX2_init 4 none]
def wsX10_fine_r2 : List Cond := [Cond.methodLink RX2 1 objectInit, Cond.instanceMethod objectInit, Cond.code objectInit ⟨#[0xb1]⟩ 1 none, Cond.fieldLink RX2 7 "ShipOffice$Fine" "day" "I", Cond.fieldLink RX2 13 "ShipOffice$Fine" "sum" "I", Cond.fieldLink RX2 16 "ShipOffice$Fine" "isRead" "Z"]
def wsX10_fine : List Cond := .code yX10_fine cX10_fine 6 (some .int) :: ((wsX10_fine_r1 ++ wsX10_fine_r2) ++ wsX10 ++ wsX100 ++ wsX20)
def wsX10_fineAt : List Cond := .code yX10_fineAt cX10_fineAt 2 (some (.object "ShipOffice$Fine")) :: ([.fieldLink RX10 258 "ShipOffice$Agreement" "fineCount" "I", .fieldLink RX10 261 "ShipOffice$Agreement" "fines" "[LShipOffice$Fine;"] ++ wsX10)
def wsX10_read : List Cond := .code yX10_read cX10_read 4 (some .int) :: ([.fieldLink RX10 274 "ShipOffice$Fine" "isRead" "Z", .fieldLink RX10 277 "ShipOffice$Fine" "day" "I", .fieldLink RX10 73 "ShipOffice" "now" "I", .methodLink RX10 154 yX10_agreementAt, .instanceMethod yX10_agreementAt, .selects RX10 yX10_agreementAt yX10_agreementAt, .initialized RX10, .code yX10_agreementAt cX10_agreementAt 2 (some (.object "ShipOffice$Agreement")), .fieldLink RX10 115 "ShipOffice" "agreementCount" "I", .fieldLink RX10 23 "ShipOffice" "agreements" "[LShipOffice$Agreement;", .methodLink RX10 270 yX10_fineAt, .static yX10_fineAt, .code yX10_fineAt cX10_fineAt 2 (some (.object "ShipOffice$Fine")), .fieldLink RX10 258 "ShipOffice$Agreement" "fineCount" "I", .fieldLink RX10 261 "ShipOffice$Agreement" "fines" "[LShipOffice$Fine;", .methodLink RX10 69 yX10_refuse, .instanceMethod yX10_refuse, .selects RX10 yX10_refuse yX10_refuse, .code yX10_refuse cX10_refuse 2 (some .int), .fieldLink RX10 66 "ShipOffice" "refusals" "[I"] ++ wsX20 ++ wsX100 ++ wsX10)
def wsX10_stands_r1 : List Cond := [Cond.fieldLink RX10 73 "ShipOffice" "now" "I", Cond.methodLink RX10 154 yX10_agreementAt, Cond.instanceMethod yX10_agreementAt, Cond.selects RX10 yX10_agreementAt yX10_agreementAt, Cond.initialized RX10, Cond.code yX10_agreementAt cX10_agreementAt 2 (some (.object "ShipOffice$Agreement")), Cond.fieldLink RX10 115 "ShipOffice" "agreementCount" "I", Cond.fieldLink RX10 23 "ShipOffice" "agreements" "[LShipOffice$Agreement;", Cond.methodLink RX10 270 yX10_fineAt, Cond.static yX10_fineAt, Cond.code yX10_fineAt cX10_fineAt 2 (some (.object "ShipOffice$Fine")), Cond.fieldLink RX10 258 "ShipOffice$Agreement" "fineCount" "I", Cond.fieldLink RX10 261 "ShipOffice$Agreement" "fines" "[LShipOffice$Fine;", Cond.methodLink RX10 69 yX10_refuse, Cond.instanceMethod yX10_refuse, Cond.selects RX10 yX10_refuse yX10_refuse, Cond.code yX10_refuse cX10_refuse 2 (some .int), Cond.fieldLink RX10 66 "ShipOffice" "refusals" "[I", Cond.methodLink RX10 280 yX10_standing, Cond.instanceMethod yX10_standing, Cond.selects RX10 yX10_standing yX10_standing, Cond.code yX10_standing cX10_standing 5 (some .int), Cond.fieldLink RX10 277 "ShipOffice$Fine" "day" "I", Cond.fieldLink RX10 418 "ShipOffice$Fine" "sum" "I"]
def wsX10_stands_r2 : List Cond := [Cond.fieldLink RX10 274 "ShipOffice$Fine" "isRead" "Z", Cond.methodLink RX10 378 Lib.Math.min.name, Cond.static Lib.Math.min.name, Cond.initialized "java/lang/Math", Cond.code Lib.Math.min.name Lib.Math.min.code 2 (some .int), Cond.methodLink RX10 383 Lib.Math.max.name, Cond.static Lib.Math.max.name, Cond.code Lib.Math.max.name Lib.Math.max.code 2 (some .int), Cond.methodLink RX10 249 yX10_worthFor, Cond.instanceMethod yX10_worthFor, Cond.selects RX10 yX10_worthFor yX10_worthFor, Cond.code yX10_worthFor cX10_worthFor 8 (some .int), Cond.fieldLink RX10 30 "ShipOffice" "law" "LShipOffice$Law;", Cond.fieldLink RX10 59 "ShipOffice" "letters" "[I", Cond.fieldLink RX10 223 "ShipOffice$Agreement" "wage" "I", Cond.fieldLink RX10 226 "ShipOffice$Agreement" "rank" "I", Cond.fieldLink RX10 299 "ShipOffice$Agreement" "man" "LShipOffice$Man;", Cond.fieldLink RX10 118 "ShipOffice$Agreement" "voyage" "LShipOffice$Voyage;", Cond.methodLink RX10 400 yX5_inForce, Cond.instanceMethod yX5_inForce, Cond.selects RX5 yX5_inForce yX5_inForce, Cond.initialized RX5, Cond.code yX5_inForce cX5_inForce 6 (some (.object "ShipOffice$Act")), Cond.fieldLink RX5 17 "ShipOffice$Law" "customs" "[LShipOffice$Act;"]
def wsX10_stands_r3 : List Cond := [Cond.fieldLink RX5 23 "ShipOffice$Law" "actCount" "I", Cond.fieldLink RX5 11 "ShipOffice$Law" "acts" "[LShipOffice$Act;", Cond.fieldLink RX5 27 "ShipOffice$Act" "purpose" "I", Cond.fieldLink RX5 30 "ShipOffice$Act" "day" "I", Cond.methodLink RX10 397 yX6_yearsOn, Cond.instanceMethod yX6_yearsOn, Cond.selects RX6 yX6_yearsOn yX6_yearsOn, Cond.initialized RX6, Cond.code yX6_yearsOn cX6_yearsOn 2 (some .int), Cond.fieldLink RX6 25 "ShipOffice$Man" "born" "I", Cond.methodLink RX10 408 yX0_uses, Cond.instanceMethod yX0_uses, Cond.selects RX0 yX0_uses yX0_uses, Cond.initialized RX0, Cond.code yX0_uses cX0_uses 6 (some .boolean), Cond.fieldLink RX0 16 "ShipOffice$Act" "code" "[I", Cond.methodLink RX10 411 yX1_daysIn, Cond.instanceMethod yX1_daysIn, Cond.selects RX1 yX1_daysIn yX1_daysIn, Cond.initialized RX1, Cond.code yX1_daysIn cX1_daysIn 10 (some .int), Cond.fieldLink RX1 37 "ShipOffice$Agreement" "signedOn" "I", Cond.methodLink RX1 111 Lib.Math.min.name, Cond.methodLink RX1 100 yX1_stateOn]
def wsX10_stands_r4 : List Cond := [Cond.instanceMethod yX1_stateOn, Cond.selects RX1 yX1_stateOn yX1_stateOn, Cond.code yX1_stateOn cX1_stateOn 5 (some .int), Cond.fieldLink RX1 33 "ShipOffice$Agreement" "voyage" "LShipOffice$Voyage;", Cond.fieldLink RX1 44 "ShipOffice$Agreement" "isDead" "Z", Cond.fieldLink RX1 10 "ShipOffice$Agreement" "offDay" "I", Cond.fieldLink RX1 64 "ShipOffice$Happening" "kind" "I", Cond.fieldLink RX1 82 "ShipOffice$Act" "plainWorth" "I", Cond.methodLink RX1 53 yX9_lostBy, Cond.instanceMethod yX9_lostBy, Cond.selects RX9 yX9_lostBy yX9_lostBy, Cond.initialized RX9, Cond.code yX9_lostBy cX9_lostBy 3 (some .boolean), Cond.fieldLink RX9 22 "ShipOffice$Voyage" "lostTold" "I", Cond.fieldLink RX9 19 "ShipOffice$Voyage" "lostDay" "I", Cond.methodLink RX1 57 yX1_diedBy, Cond.instanceMethod yX1_diedBy, Cond.selects RX1 yX1_diedBy yX1_diedBy, Cond.code yX1_diedBy cX1_diedBy 4 (some .boolean), Cond.fieldLink RX1 87 "ShipOffice$Agreement" "tidings" "LShipOffice$Happening;", Cond.fieldLink RX1 91 "ShipOffice$Happening" "told" "I", Cond.fieldLink RX1 94 "ShipOffice$Happening" "day" "I", Cond.fieldLink RX1 97 "ShipOffice$Happening" "before" "LShipOffice$Happening;", Cond.methodLink RX1 60 yX1_lastMove]
def wsX10_stands_r5 : List Cond := [Cond.instanceMethod yX1_lastMove, Cond.selects RX1 yX1_lastMove yX1_lastMove, Cond.code yX1_lastMove cX1_lastMove 6 (some (.object "ShipOffice$Happening")), Cond.methodLink RX1 69 yX9_sailedBy, Cond.instanceMethod yX9_sailedBy, Cond.selects RX9 yX9_sailedBy yX9_sailedBy, Cond.code yX9_sailedBy cX9_sailedBy 3 (some .boolean), Cond.fieldLink RX9 16 "ShipOffice$Voyage" "sailedTold" "I", Cond.fieldLink RX9 10 "ShipOffice$Voyage" "sailedDay" "I", Cond.methodLink RX1 72 yX9_lastHeard, Cond.instanceMethod yX9_lastHeard, Cond.selects RX9 yX9_lastHeard yX9_lastHeard, Cond.code yX9_lastHeard cX9_lastHeard 5 (some .int), Cond.fieldLink RX9 41 "ShipOffice$Voyage" "heardOf" "LShipOffice$Happening;", Cond.fieldLink RX9 45 "ShipOffice$Happening" "told" "I", Cond.fieldLink RX9 50 "ShipOffice$Happening" "day" "I", Cond.fieldLink RX9 53 "ShipOffice$Happening" "before" "LShipOffice$Happening;", Cond.methodLink RX1 76 yX5_inForce, Cond.methodLink RX1 108 yX1_nextChange, Cond.instanceMethod yX1_nextChange, Cond.selects RX1 yX1_nextChange yX1_nextChange, Cond.code yX1_nextChange cX1_nextChange 6 (some .int), Cond.constant RX1 9 (1000000), Cond.methodLink RX1 116 yX1_nearer]
def wsX10_stands_r6 : List Cond := [Cond.static yX1_nearer, Cond.code yX1_nearer cX1_nearer 3 (some .int), Cond.methodLink RX1 120 yX9_nextTold, Cond.instanceMethod yX9_nextTold, Cond.selects RX9 yX9_nextTold yX9_nextTold, Cond.code yX9_nextTold cX9_nextTold 5 (some .int), Cond.constant RX9 9 (1000000), Cond.methodLink RX1 123 yX5_nextPresume, Cond.instanceMethod yX5_nextPresume, Cond.selects RX5 yX5_nextPresume yX5_nextPresume, Cond.code yX5_nextPresume cX5_nextPresume 4 (some .int), Cond.constant RX5 33 (1000000), Cond.methodLink RX10 307 yX10_menAboard, Cond.instanceMethod yX10_menAboard, Cond.selects RX10 yX10_menAboard yX10_menAboard, Cond.code yX10_menAboard cX10_menAboard 6 (some .int), Cond.methodLink RX10 233 yX1_stateOn, Cond.methodLink RX10 415 yX9_daysUnheard, Cond.instanceMethod yX9_daysUnheard, Cond.selects RX9 yX9_daysUnheard yX9_daysUnheard, Cond.code yX9_daysUnheard cX9_daysUnheard 4 (some .int), Cond.methodLink RX9 56 yX9_lastHeard, Cond.methodLink RX10 404 yX0_worth, Cond.instanceMethod yX0_worth]
def wsX10_stands_r7 : List Cond := [Cond.selects RX0 yX0_worth yX0_worth, Cond.code yX0_worth cX0_worth 8 (some .int), Cond.fieldLink RX0 20 "ShipOffice$Act" "stack" "[I", Cond.methodLink RX0 36 yX0_joined, Cond.static yX0_joined, Cond.code yX0_joined cX0_joined 5 (some .int), Cond.methodLink RX0 40 yX0_held, Cond.static yX0_held, Cond.code yX0_held cX0_held 2 (some .int), Cond.constantLong RX0 44 (1000000000), Cond.constant RX0 46 (1000000000), Cond.constantLong RX0 47 (-1000000000), Cond.constant RX0 49 (-1000000000)]
def wsX10_stands : List Cond := .code yX10_stands cX10_stands 6 (some .int) :: ((wsX10_stands_r1 ++ (wsX10_stands_r2 ++ (wsX10_stands_r3 ++ (wsX10_stands_r4 ++ (wsX10_stands_r5 ++ (wsX10_stands_r6 ++ wsX10_stands_r7)))))) ++ wsX100 ++ wsX10 ++ wsX20 ++ wsX50 ++ wsX00 ++ wsX60 ++ wsX30 ++ wsX90)
def wsX10_rations : List Cond := .code yX10_rations cX10_rations 5 (some .int) :: ([.fieldLink RX10 284 "ShipOffice$Agreement" "shortDays" "I", .fieldLink RX10 287 "ShipOffice$Agreement" "shortCount" "I", .fieldLink RX10 73 "ShipOffice" "now" "I", .methodLink RX10 154 yX10_agreementAt, .instanceMethod yX10_agreementAt, .selects RX10 yX10_agreementAt yX10_agreementAt, .initialized RX10, .code yX10_agreementAt cX10_agreementAt 2 (some (.object "ShipOffice$Agreement")), .fieldLink RX10 115 "ShipOffice" "agreementCount" "I", .fieldLink RX10 23 "ShipOffice" "agreements" "[LShipOffice$Agreement;", .methodLink RX10 69 yX10_refuse, .instanceMethod yX10_refuse, .selects RX10 yX10_refuse yX10_refuse, .code yX10_refuse cX10_refuse 2 (some .int), .fieldLink RX10 66 "ShipOffice" "refusals" "[I", .methodLink RX10 290 yX1_addShort, .instanceMethod yX1_addShort, .selects RX1 yX1_addShort yX1_addShort, .initialized RX1, .code yX1_addShort cX1_addShort 4 none, .fieldLink RX1 136 "ShipOffice$Agreement" "shortCount" "I", .fieldLink RX1 22 "ShipOffice$Agreement" "shortTold" "[I", .fieldLink RX1 26 "ShipOffice$Agreement" "shortSum" "[I", .fieldLink RX1 139 "ShipOffice$Agreement" "shortDays" "I"] ++ wsX10 ++ wsX100)
def wsX10_owed_r1 : List Cond := [Cond.constant RX10 294 (1000000000), Cond.methodLink RX10 154 yX10_agreementAt, Cond.instanceMethod yX10_agreementAt, Cond.selects RX10 yX10_agreementAt yX10_agreementAt, Cond.initialized RX10, Cond.code yX10_agreementAt cX10_agreementAt 2 (some (.object "ShipOffice$Agreement")), Cond.fieldLink RX10 115 "ShipOffice" "agreementCount" "I", Cond.fieldLink RX10 23 "ShipOffice" "agreements" "[LShipOffice$Agreement;", Cond.methodLink RX10 69 yX10_refuse, Cond.instanceMethod yX10_refuse, Cond.selects RX10 yX10_refuse yX10_refuse, Cond.code yX10_refuse cX10_refuse 2 (some .int), Cond.fieldLink RX10 66 "ShipOffice" "refusals" "[I", Cond.methodLink RX10 229 yX10_askRefusal, Cond.instanceMethod yX10_askRefusal, Cond.selects RX10 yX10_askRefusal yX10_askRefusal, Cond.code yX10_askRefusal cX10_askRefusal 3 (some .int), Cond.fieldLink RX10 73 "ShipOffice" "now" "I", Cond.methodLink RX10 295 yX10_owedOn, Cond.instanceMethod yX10_owedOn, Cond.selects RX10 yX10_owedOn yX10_owedOn, Cond.code yX10_owedOn cX10_owedOn 9 (some .int), Cond.fieldLink RX10 255 "ShipOffice$Agreement" "signedOn" "I", Cond.fieldLink RX10 223 "ShipOffice$Agreement" "wage" "I"]
def wsX10_owed_r2 : List Cond := [Cond.fieldLink RX10 30 "ShipOffice" "law" "LShipOffice$Law;", Cond.fieldLink RX10 258 "ShipOffice$Agreement" "fineCount" "I", Cond.fieldLink RX10 261 "ShipOffice$Agreement" "fines" "[LShipOffice$Fine;", Cond.fieldLink RX10 277 "ShipOffice$Fine" "day" "I", Cond.fieldLink RX10 326 "ShipOffice$Happening" "way" "I", Cond.methodLink RX10 378 Lib.Math.min.name, Cond.static Lib.Math.min.name, Cond.initialized "java/lang/Math", Cond.code Lib.Math.min.name Lib.Math.min.code 2 (some .int), Cond.methodLink RX10 383 Lib.Math.max.name, Cond.static Lib.Math.max.name, Cond.code Lib.Math.max.name Lib.Math.max.code 2 (some .int), Cond.constantLong RX10 253 (100), Cond.methodLink RX10 237 yX1_earningDays, Cond.instanceMethod yX1_earningDays, Cond.selects RX1 yX1_earningDays yX1_earningDays, Cond.initialized RX1, Cond.code yX1_earningDays cX1_earningDays 5 (some .int), Cond.fieldLink RX1 33 "ShipOffice$Agreement" "voyage" "LShipOffice$Voyage;", Cond.methodLink RX1 100 yX1_stateOn, Cond.instanceMethod yX1_stateOn, Cond.selects RX1 yX1_stateOn yX1_stateOn, Cond.code yX1_stateOn cX1_stateOn 5 (some .int), Cond.fieldLink RX1 37 "ShipOffice$Agreement" "signedOn" "I"]
def wsX10_owed_r3 : List Cond := [Cond.fieldLink RX1 44 "ShipOffice$Agreement" "isDead" "Z", Cond.fieldLink RX1 10 "ShipOffice$Agreement" "offDay" "I", Cond.fieldLink RX1 64 "ShipOffice$Happening" "kind" "I", Cond.fieldLink RX1 82 "ShipOffice$Act" "plainWorth" "I", Cond.methodLink RX1 53 yX9_lostBy, Cond.instanceMethod yX9_lostBy, Cond.selects RX9 yX9_lostBy yX9_lostBy, Cond.initialized RX9, Cond.code yX9_lostBy cX9_lostBy 3 (some .boolean), Cond.fieldLink RX9 22 "ShipOffice$Voyage" "lostTold" "I", Cond.fieldLink RX9 19 "ShipOffice$Voyage" "lostDay" "I", Cond.methodLink RX1 57 yX1_diedBy, Cond.instanceMethod yX1_diedBy, Cond.selects RX1 yX1_diedBy yX1_diedBy, Cond.code yX1_diedBy cX1_diedBy 4 (some .boolean), Cond.fieldLink RX1 87 "ShipOffice$Agreement" "tidings" "LShipOffice$Happening;", Cond.fieldLink RX1 91 "ShipOffice$Happening" "told" "I", Cond.fieldLink RX1 94 "ShipOffice$Happening" "day" "I", Cond.fieldLink RX1 97 "ShipOffice$Happening" "before" "LShipOffice$Happening;", Cond.methodLink RX1 60 yX1_lastMove, Cond.instanceMethod yX1_lastMove, Cond.selects RX1 yX1_lastMove yX1_lastMove, Cond.code yX1_lastMove cX1_lastMove 6 (some (.object "ShipOffice$Happening")), Cond.methodLink RX1 69 yX9_sailedBy]
def wsX10_owed_r4 : List Cond := [Cond.instanceMethod yX9_sailedBy, Cond.selects RX9 yX9_sailedBy yX9_sailedBy, Cond.code yX9_sailedBy cX9_sailedBy 3 (some .boolean), Cond.fieldLink RX9 16 "ShipOffice$Voyage" "sailedTold" "I", Cond.fieldLink RX9 10 "ShipOffice$Voyage" "sailedDay" "I", Cond.methodLink RX1 72 yX9_lastHeard, Cond.instanceMethod yX9_lastHeard, Cond.selects RX9 yX9_lastHeard yX9_lastHeard, Cond.code yX9_lastHeard cX9_lastHeard 5 (some .int), Cond.fieldLink RX9 41 "ShipOffice$Voyage" "heardOf" "LShipOffice$Happening;", Cond.fieldLink RX9 45 "ShipOffice$Happening" "told" "I", Cond.fieldLink RX9 50 "ShipOffice$Happening" "day" "I", Cond.fieldLink RX9 53 "ShipOffice$Happening" "before" "LShipOffice$Happening;", Cond.methodLink RX1 76 yX5_inForce, Cond.instanceMethod yX5_inForce, Cond.selects RX5 yX5_inForce yX5_inForce, Cond.initialized RX5, Cond.code yX5_inForce cX5_inForce 6 (some (.object "ShipOffice$Act")), Cond.fieldLink RX5 17 "ShipOffice$Law" "customs" "[LShipOffice$Act;", Cond.fieldLink RX5 23 "ShipOffice$Law" "actCount" "I", Cond.fieldLink RX5 11 "ShipOffice$Law" "acts" "[LShipOffice$Act;", Cond.fieldLink RX5 27 "ShipOffice$Act" "purpose" "I", Cond.fieldLink RX5 30 "ShipOffice$Act" "day" "I", Cond.methodLink RX1 104 yX1_daysIn]
def wsX10_owed_r5 : List Cond := [Cond.instanceMethod yX1_daysIn, Cond.selects RX1 yX1_daysIn yX1_daysIn, Cond.code yX1_daysIn cX1_daysIn 10 (some .int), Cond.methodLink RX1 111 Lib.Math.min.name, Cond.methodLink RX1 108 yX1_nextChange, Cond.instanceMethod yX1_nextChange, Cond.selects RX1 yX1_nextChange yX1_nextChange, Cond.code yX1_nextChange cX1_nextChange 6 (some .int), Cond.constant RX1 9 (1000000), Cond.methodLink RX1 116 yX1_nearer, Cond.static yX1_nearer, Cond.code yX1_nearer cX1_nearer 3 (some .int), Cond.methodLink RX1 120 yX9_nextTold, Cond.instanceMethod yX9_nextTold, Cond.selects RX9 yX9_nextTold yX9_nextTold, Cond.code yX9_nextTold cX9_nextTold 5 (some .int), Cond.constant RX9 9 (1000000), Cond.methodLink RX1 123 yX5_nextPresume, Cond.instanceMethod yX5_nextPresume, Cond.selects RX5 yX5_nextPresume yX5_nextPresume, Cond.code yX5_nextPresume cX5_nextPresume 4 (some .int), Cond.constant RX5 33 (1000000), Cond.methodLink RX10 421 yX1_notePaid, Cond.instanceMethod yX1_notePaid]
def wsX10_owed_r6 : List Cond := [Cond.selects RX1 yX1_notePaid yX1_notePaid, Cond.code yX1_notePaid cX1_notePaid 4 (some .int), Cond.fieldLink RX1 127 "ShipOffice$Agreement" "note" "I", Cond.fieldLink RX1 130 "ShipOffice$Voyage" "sailedDay" "I", Cond.methodLink RX10 424 yX1_allotmentsPaid, Cond.instanceMethod yX1_allotmentsPaid, Cond.selects RX1 yX1_allotmentsPaid yX1_allotmentsPaid, Cond.code yX1_allotmentsPaid cX1_allotmentsPaid 6 (some .int), Cond.fieldLink RX1 133 "ShipOffice$Agreement" "allotment" "I", Cond.methodLink RX10 280 yX10_standing, Cond.instanceMethod yX10_standing, Cond.selects RX10 yX10_standing yX10_standing, Cond.code yX10_standing cX10_standing 5 (some .int), Cond.fieldLink RX10 418 "ShipOffice$Fine" "sum" "I", Cond.fieldLink RX10 274 "ShipOffice$Fine" "isRead" "Z", Cond.methodLink RX10 249 yX10_worthFor, Cond.instanceMethod yX10_worthFor, Cond.selects RX10 yX10_worthFor yX10_worthFor, Cond.code yX10_worthFor cX10_worthFor 8 (some .int), Cond.fieldLink RX10 59 "ShipOffice" "letters" "[I", Cond.fieldLink RX10 226 "ShipOffice$Agreement" "rank" "I", Cond.fieldLink RX10 299 "ShipOffice$Agreement" "man" "LShipOffice$Man;", Cond.fieldLink RX10 118 "ShipOffice$Agreement" "voyage" "LShipOffice$Voyage;", Cond.methodLink RX10 400 yX5_inForce]
def wsX10_owed_r7 : List Cond := [Cond.methodLink RX10 397 yX6_yearsOn, Cond.instanceMethod yX6_yearsOn, Cond.selects RX6 yX6_yearsOn yX6_yearsOn, Cond.initialized RX6, Cond.code yX6_yearsOn cX6_yearsOn 2 (some .int), Cond.fieldLink RX6 25 "ShipOffice$Man" "born" "I", Cond.methodLink RX10 408 yX0_uses, Cond.instanceMethod yX0_uses, Cond.selects RX0 yX0_uses yX0_uses, Cond.initialized RX0, Cond.code yX0_uses cX0_uses 6 (some .boolean), Cond.fieldLink RX0 16 "ShipOffice$Act" "code" "[I", Cond.methodLink RX10 411 yX1_daysIn, Cond.methodLink RX10 307 yX10_menAboard, Cond.instanceMethod yX10_menAboard, Cond.selects RX10 yX10_menAboard yX10_menAboard, Cond.code yX10_menAboard cX10_menAboard 6 (some .int), Cond.methodLink RX10 233 yX1_stateOn, Cond.methodLink RX10 415 yX9_daysUnheard, Cond.instanceMethod yX9_daysUnheard, Cond.selects RX9 yX9_daysUnheard yX9_daysUnheard, Cond.code yX9_daysUnheard cX9_daysUnheard 4 (some .int), Cond.methodLink RX9 56 yX9_lastHeard, Cond.methodLink RX10 404 yX0_worth]
def wsX10_owed_r8 : List Cond := [Cond.instanceMethod yX0_worth, Cond.selects RX0 yX0_worth yX0_worth, Cond.code yX0_worth cX0_worth 8 (some .int), Cond.fieldLink RX0 20 "ShipOffice$Act" "stack" "[I", Cond.methodLink RX0 36 yX0_joined, Cond.static yX0_joined, Cond.code yX0_joined cX0_joined 5 (some .int), Cond.methodLink RX0 40 yX0_held, Cond.static yX0_held, Cond.code yX0_held cX0_held 2 (some .int), Cond.constantLong RX0 44 (1000000000), Cond.constant RX0 46 (1000000000), Cond.constantLong RX0 47 (-1000000000), Cond.constant RX0 49 (-1000000000), Cond.methodLink RX10 427 yX1_shortPence, Cond.instanceMethod yX1_shortPence, Cond.selects RX1 yX1_shortPence yX1_shortPence, Cond.code yX1_shortPence cX1_shortPence 4 (some .int), Cond.fieldLink RX1 136 "ShipOffice$Agreement" "shortCount" "I", Cond.fieldLink RX1 22 "ShipOffice$Agreement" "shortTold" "[I", Cond.fieldLink RX1 26 "ShipOffice$Agreement" "shortSum" "[I", Cond.methodLink RX10 322 yX1_leavingOn, Cond.instanceMethod yX1_leavingOn, Cond.selects RX1 yX1_leavingOn yX1_leavingOn]
def wsX10_owed_r9 : List Cond := [Cond.code yX1_leavingOn cX1_leavingOn 4 (some (.object "ShipOffice$Happening"))]
def wsX10_owed : List Cond := .code yX10_owed cX10_owed 6 (some .int) :: ((wsX10_owed_r1 ++ (wsX10_owed_r2 ++ (wsX10_owed_r3 ++ (wsX10_owed_r4 ++ (wsX10_owed_r5 ++ (wsX10_owed_r6 ++ (wsX10_owed_r7 ++ (wsX10_owed_r8 ++ wsX10_owed_r9)))))))) ++ wsX100 ++ wsX10 ++ wsX20 ++ wsX30 ++ wsX00 ++ wsX90 ++ wsX50 ++ wsX60)
def wsX10_agreementOf_r1 : List Cond := [Cond.fieldLink RX10 299 "ShipOffice$Agreement" "man" "LShipOffice$Man;", Cond.fieldLink RX10 303 "ShipOffice$Man" "number" "I", Cond.fieldLink RX10 118 "ShipOffice$Agreement" "voyage" "LShipOffice$Voyage;", Cond.fieldLink RX10 306 "ShipOffice$Voyage" "number" "I", Cond.fieldLink RX10 223 "ShipOffice$Agreement" "wage" "I", Cond.fieldLink RX10 226 "ShipOffice$Agreement" "rank" "I", Cond.fieldLink RX10 255 "ShipOffice$Agreement" "signedOn" "I", Cond.fieldLink RX10 126 "ShipOffice$Agreement" "offDay" "I", Cond.constant RX10 114 (1000000), Cond.fieldLink RX10 240 "ShipOffice$Agreement" "note" "I", Cond.fieldLink RX10 243 "ShipOffice$Agreement" "given" "I", Cond.fieldLink RX10 246 "ShipOffice$Agreement" "allotment" "I", Cond.methodLink RX10 154 yX10_agreementAt, Cond.instanceMethod yX10_agreementAt, Cond.selects RX10 yX10_agreementAt yX10_agreementAt, Cond.initialized RX10, Cond.code yX10_agreementAt cX10_agreementAt 2 (some (.object "ShipOffice$Agreement")), Cond.fieldLink RX10 115 "ShipOffice" "agreementCount" "I", Cond.fieldLink RX10 23 "ShipOffice" "agreements" "[LShipOffice$Agreement;", Cond.methodLink RX10 69 yX10_refuse, Cond.instanceMethod yX10_refuse, Cond.selects RX10 yX10_refuse yX10_refuse, Cond.code yX10_refuse cX10_refuse 2 (some .int), Cond.fieldLink RX10 66 "ShipOffice" "refusals" "[I"]
def wsX10_agreementOf_r2 : List Cond := [Cond.methodLink RX10 122 yX1_goesOn, Cond.instanceMethod yX1_goesOn, Cond.selects RX1 yX1_goesOn yX1_goesOn, Cond.initialized RX1, Cond.code yX1_goesOn cX1_goesOn 1 (some .boolean), Cond.fieldLink RX1 10 "ShipOffice$Agreement" "offDay" "I", Cond.constant RX1 9 (1000000), Cond.fieldLink RX1 44 "ShipOffice$Agreement" "isDead" "Z", Cond.fieldLink RX1 33 "ShipOffice$Agreement" "voyage" "LShipOffice$Voyage;", Cond.fieldLink RX1 48 "ShipOffice$Voyage" "lostTold" "I"]
def wsX10_agreementOf : List Cond := .code yX10_agreementOf cX10_agreementOf 4 (some .int) :: ((wsX10_agreementOf_r1 ++ wsX10_agreementOf_r2) ++ wsX10 ++ wsX60 ++ wsX90 ++ wsX100)
def wsX10_aboard_r1 : List Cond := [Cond.methodLink RX10 103 yX10_voyageAt, Cond.instanceMethod yX10_voyageAt, Cond.selects RX10 yX10_voyageAt yX10_voyageAt, Cond.initialized RX10, Cond.code yX10_voyageAt cX10_voyageAt 2 (some (.object "ShipOffice$Voyage")), Cond.fieldLink RX10 99 "ShipOffice" "voyageCount" "I", Cond.fieldLink RX10 17 "ShipOffice" "voyages" "[LShipOffice$Voyage;", Cond.methodLink RX10 69 yX10_refuse, Cond.instanceMethod yX10_refuse, Cond.selects RX10 yX10_refuse yX10_refuse, Cond.code yX10_refuse cX10_refuse 2 (some .int), Cond.fieldLink RX10 66 "ShipOffice" "refusals" "[I", Cond.methodLink RX10 229 yX10_askRefusal, Cond.instanceMethod yX10_askRefusal, Cond.selects RX10 yX10_askRefusal yX10_askRefusal, Cond.code yX10_askRefusal cX10_askRefusal 3 (some .int), Cond.fieldLink RX10 73 "ShipOffice" "now" "I", Cond.methodLink RX10 307 yX10_menAboard, Cond.instanceMethod yX10_menAboard, Cond.selects RX10 yX10_menAboard yX10_menAboard, Cond.code yX10_menAboard cX10_menAboard 6 (some .int), Cond.fieldLink RX10 115 "ShipOffice" "agreementCount" "I", Cond.fieldLink RX10 23 "ShipOffice" "agreements" "[LShipOffice$Agreement;", Cond.fieldLink RX10 118 "ShipOffice$Agreement" "voyage" "LShipOffice$Voyage;"]
def wsX10_aboard_r2 : List Cond := [Cond.fieldLink RX10 30 "ShipOffice" "law" "LShipOffice$Law;", Cond.methodLink RX10 233 yX1_stateOn, Cond.instanceMethod yX1_stateOn, Cond.selects RX1 yX1_stateOn yX1_stateOn, Cond.initialized RX1, Cond.code yX1_stateOn cX1_stateOn 5 (some .int), Cond.fieldLink RX1 37 "ShipOffice$Agreement" "signedOn" "I", Cond.fieldLink RX1 33 "ShipOffice$Agreement" "voyage" "LShipOffice$Voyage;", Cond.fieldLink RX1 44 "ShipOffice$Agreement" "isDead" "Z", Cond.fieldLink RX1 10 "ShipOffice$Agreement" "offDay" "I", Cond.fieldLink RX1 64 "ShipOffice$Happening" "kind" "I", Cond.fieldLink RX1 82 "ShipOffice$Act" "plainWorth" "I", Cond.methodLink RX1 53 yX9_lostBy, Cond.instanceMethod yX9_lostBy, Cond.selects RX9 yX9_lostBy yX9_lostBy, Cond.initialized RX9, Cond.code yX9_lostBy cX9_lostBy 3 (some .boolean), Cond.fieldLink RX9 22 "ShipOffice$Voyage" "lostTold" "I", Cond.fieldLink RX9 19 "ShipOffice$Voyage" "lostDay" "I", Cond.methodLink RX1 57 yX1_diedBy, Cond.instanceMethod yX1_diedBy, Cond.selects RX1 yX1_diedBy yX1_diedBy, Cond.code yX1_diedBy cX1_diedBy 4 (some .boolean), Cond.fieldLink RX1 87 "ShipOffice$Agreement" "tidings" "LShipOffice$Happening;"]
def wsX10_aboard_r3 : List Cond := [Cond.fieldLink RX1 91 "ShipOffice$Happening" "told" "I", Cond.fieldLink RX1 94 "ShipOffice$Happening" "day" "I", Cond.fieldLink RX1 97 "ShipOffice$Happening" "before" "LShipOffice$Happening;", Cond.methodLink RX1 60 yX1_lastMove, Cond.instanceMethod yX1_lastMove, Cond.selects RX1 yX1_lastMove yX1_lastMove, Cond.code yX1_lastMove cX1_lastMove 6 (some (.object "ShipOffice$Happening")), Cond.methodLink RX1 69 yX9_sailedBy, Cond.instanceMethod yX9_sailedBy, Cond.selects RX9 yX9_sailedBy yX9_sailedBy, Cond.code yX9_sailedBy cX9_sailedBy 3 (some .boolean), Cond.fieldLink RX9 16 "ShipOffice$Voyage" "sailedTold" "I", Cond.fieldLink RX9 10 "ShipOffice$Voyage" "sailedDay" "I", Cond.methodLink RX1 72 yX9_lastHeard, Cond.instanceMethod yX9_lastHeard, Cond.selects RX9 yX9_lastHeard yX9_lastHeard, Cond.code yX9_lastHeard cX9_lastHeard 5 (some .int), Cond.fieldLink RX9 41 "ShipOffice$Voyage" "heardOf" "LShipOffice$Happening;", Cond.fieldLink RX9 45 "ShipOffice$Happening" "told" "I", Cond.fieldLink RX9 50 "ShipOffice$Happening" "day" "I", Cond.fieldLink RX9 53 "ShipOffice$Happening" "before" "LShipOffice$Happening;", Cond.methodLink RX1 76 yX5_inForce, Cond.instanceMethod yX5_inForce, Cond.selects RX5 yX5_inForce yX5_inForce]
def wsX10_aboard_r4 : List Cond := [Cond.initialized RX5, Cond.code yX5_inForce cX5_inForce 6 (some (.object "ShipOffice$Act")), Cond.fieldLink RX5 17 "ShipOffice$Law" "customs" "[LShipOffice$Act;", Cond.fieldLink RX5 23 "ShipOffice$Law" "actCount" "I", Cond.fieldLink RX5 11 "ShipOffice$Law" "acts" "[LShipOffice$Act;", Cond.fieldLink RX5 27 "ShipOffice$Act" "purpose" "I", Cond.fieldLink RX5 30 "ShipOffice$Act" "day" "I"]
def wsX10_aboard : List Cond := .code yX10_aboard cX10_aboard 6 (some .int) :: ((wsX10_aboard_r1 ++ (wsX10_aboard_r2 ++ (wsX10_aboard_r3 ++ wsX10_aboard_r4))) ++ wsX100 ++ wsX10 ++ wsX30 ++ wsX00 ++ wsX90 ++ wsX50)
def wsX10_group : List Cond := .code yX10_group cX10_group 3 (some .int) :: ([.fieldLink RX10 311 "ShipOffice$Man" "leastAlike" "I", .methodLink RX10 205 yX10_manAt, .instanceMethod yX10_manAt, .selects RX10 yX10_manAt yX10_manAt, .initialized RX10, .code yX10_manAt cX10_manAt 2 (some (.object "ShipOffice$Man")), .fieldLink RX10 86 "ShipOffice" "manCount" "I", .fieldLink RX10 11 "ShipOffice" "men" "[LShipOffice$Man;", .methodLink RX10 69 yX10_refuse, .instanceMethod yX10_refuse, .selects RX10 yX10_refuse yX10_refuse, .code yX10_refuse cX10_refuse 2 (some .int), .fieldLink RX10 66 "ShipOffice" "refusals" "[I"] ++ wsX60 ++ wsX100)
def wsX10_borrowed_r1 : List Cond := [Cond.fieldLink RX10 314 "ShipOffice$Agreement" "paper" "LShipOffice$Agreement;", Cond.fieldLink RX10 299 "ShipOffice$Agreement" "man" "LShipOffice$Man;", Cond.fieldLink RX10 311 "ShipOffice$Man" "leastAlike" "I", Cond.methodLink RX10 154 yX10_agreementAt, Cond.instanceMethod yX10_agreementAt, Cond.selects RX10 yX10_agreementAt yX10_agreementAt, Cond.initialized RX10, Cond.code yX10_agreementAt cX10_agreementAt 2 (some (.object "ShipOffice$Agreement")), Cond.fieldLink RX10 115 "ShipOffice" "agreementCount" "I", Cond.fieldLink RX10 23 "ShipOffice" "agreements" "[LShipOffice$Agreement;", Cond.methodLink RX10 69 yX10_refuse, Cond.instanceMethod yX10_refuse, Cond.selects RX10 yX10_refuse yX10_refuse, Cond.code yX10_refuse cX10_refuse 2 (some .int), Cond.fieldLink RX10 66 "ShipOffice" "refusals" "[I", Cond.methodLink RX10 318 yX10_isShownTwice, Cond.instanceMethod yX10_isShownTwice, Cond.selects RX10 yX10_isShownTwice yX10_isShownTwice, Cond.code yX10_isShownTwice cX10_isShownTwice 4 (some .boolean), Cond.fieldLink RX10 255 "ShipOffice$Agreement" "signedOn" "I", Cond.methodLink RX10 389 yX10_lastDay, Cond.instanceMethod yX10_lastDay, Cond.selects RX10 yX10_lastDay yX10_lastDay, Cond.code yX10_lastDay cX10_lastDay 2 (some .int)]
def wsX10_borrowed_r2 : List Cond := [Cond.fieldLink RX10 126 "ShipOffice$Agreement" "offDay" "I", Cond.constant RX10 114 (1000000), Cond.fieldLink RX10 73 "ShipOffice" "now" "I"]
def wsX10_borrowed : List Cond := .code yX10_borrowed cX10_borrowed 3 (some .int) :: ((wsX10_borrowed_r1 ++ wsX10_borrowed_r2) ++ wsX10 ++ wsX60 ++ wsX100)
def wsX10_home_r1 : List Cond := [Cond.fieldLink RX10 115 "ShipOffice" "agreementCount" "I", Cond.fieldLink RX10 23 "ShipOffice" "agreements" "[LShipOffice$Agreement;", Cond.fieldLink RX10 299 "ShipOffice$Agreement" "man" "LShipOffice$Man;", Cond.fieldLink RX10 73 "ShipOffice" "now" "I", Cond.fieldLink RX10 30 "ShipOffice" "law" "LShipOffice$Law;", Cond.fieldLink RX10 326 "ShipOffice$Happening" "way" "I", Cond.fieldLink RX10 44 "ShipOffice" "sea" "LShipOffice$Sea;", Cond.fieldLink RX10 329 "ShipOffice$Happening" "port" "I", Cond.fieldLink RX10 118 "ShipOffice$Agreement" "voyage" "LShipOffice$Voyage;", Cond.fieldLink RX10 332 "ShipOffice$Voyage" "port" "I", Cond.methodLink RX10 205 yX10_manAt, Cond.instanceMethod yX10_manAt, Cond.selects RX10 yX10_manAt yX10_manAt, Cond.initialized RX10, Cond.code yX10_manAt cX10_manAt 2 (some (.object "ShipOffice$Man")), Cond.fieldLink RX10 86 "ShipOffice" "manCount" "I", Cond.fieldLink RX10 11 "ShipOffice" "men" "[LShipOffice$Man;", Cond.methodLink RX10 69 yX10_refuse, Cond.instanceMethod yX10_refuse, Cond.selects RX10 yX10_refuse yX10_refuse, Cond.code yX10_refuse cX10_refuse 2 (some .int), Cond.fieldLink RX10 66 "ShipOffice" "refusals" "[I", Cond.methodLink RX10 322 yX1_leavingOn, Cond.instanceMethod yX1_leavingOn]
def wsX10_home_r2 : List Cond := [Cond.selects RX1 yX1_leavingOn yX1_leavingOn, Cond.initialized RX1, Cond.code yX1_leavingOn cX1_leavingOn 4 (some (.object "ShipOffice$Happening")), Cond.methodLink RX1 100 yX1_stateOn, Cond.instanceMethod yX1_stateOn, Cond.selects RX1 yX1_stateOn yX1_stateOn, Cond.code yX1_stateOn cX1_stateOn 5 (some .int), Cond.fieldLink RX1 37 "ShipOffice$Agreement" "signedOn" "I", Cond.fieldLink RX1 33 "ShipOffice$Agreement" "voyage" "LShipOffice$Voyage;", Cond.fieldLink RX1 44 "ShipOffice$Agreement" "isDead" "Z", Cond.fieldLink RX1 10 "ShipOffice$Agreement" "offDay" "I", Cond.fieldLink RX1 64 "ShipOffice$Happening" "kind" "I", Cond.fieldLink RX1 82 "ShipOffice$Act" "plainWorth" "I", Cond.methodLink RX1 53 yX9_lostBy, Cond.instanceMethod yX9_lostBy, Cond.selects RX9 yX9_lostBy yX9_lostBy, Cond.initialized RX9, Cond.code yX9_lostBy cX9_lostBy 3 (some .boolean), Cond.fieldLink RX9 22 "ShipOffice$Voyage" "lostTold" "I", Cond.fieldLink RX9 19 "ShipOffice$Voyage" "lostDay" "I", Cond.methodLink RX1 57 yX1_diedBy, Cond.instanceMethod yX1_diedBy, Cond.selects RX1 yX1_diedBy yX1_diedBy, Cond.code yX1_diedBy cX1_diedBy 4 (some .boolean)]
def wsX10_home_r3 : List Cond := [Cond.fieldLink RX1 87 "ShipOffice$Agreement" "tidings" "LShipOffice$Happening;", Cond.fieldLink RX1 91 "ShipOffice$Happening" "told" "I", Cond.fieldLink RX1 94 "ShipOffice$Happening" "day" "I", Cond.fieldLink RX1 97 "ShipOffice$Happening" "before" "LShipOffice$Happening;", Cond.methodLink RX1 60 yX1_lastMove, Cond.instanceMethod yX1_lastMove, Cond.selects RX1 yX1_lastMove yX1_lastMove, Cond.code yX1_lastMove cX1_lastMove 6 (some (.object "ShipOffice$Happening")), Cond.methodLink RX1 69 yX9_sailedBy, Cond.instanceMethod yX9_sailedBy, Cond.selects RX9 yX9_sailedBy yX9_sailedBy, Cond.code yX9_sailedBy cX9_sailedBy 3 (some .boolean), Cond.fieldLink RX9 16 "ShipOffice$Voyage" "sailedTold" "I", Cond.fieldLink RX9 10 "ShipOffice$Voyage" "sailedDay" "I", Cond.methodLink RX1 72 yX9_lastHeard, Cond.instanceMethod yX9_lastHeard, Cond.selects RX9 yX9_lastHeard yX9_lastHeard, Cond.code yX9_lastHeard cX9_lastHeard 5 (some .int), Cond.fieldLink RX9 41 "ShipOffice$Voyage" "heardOf" "LShipOffice$Happening;", Cond.fieldLink RX9 45 "ShipOffice$Happening" "told" "I", Cond.fieldLink RX9 50 "ShipOffice$Happening" "day" "I", Cond.fieldLink RX9 53 "ShipOffice$Happening" "before" "LShipOffice$Happening;", Cond.methodLink RX1 76 yX5_inForce, Cond.instanceMethod yX5_inForce]
def wsX10_home_r4 : List Cond := [Cond.selects RX5 yX5_inForce yX5_inForce, Cond.initialized RX5, Cond.code yX5_inForce cX5_inForce 6 (some (.object "ShipOffice$Act")), Cond.fieldLink RX5 17 "ShipOffice$Law" "customs" "[LShipOffice$Act;", Cond.fieldLink RX5 23 "ShipOffice$Law" "actCount" "I", Cond.fieldLink RX5 11 "ShipOffice$Law" "acts" "[LShipOffice$Act;", Cond.fieldLink RX5 27 "ShipOffice$Act" "purpose" "I", Cond.fieldLink RX5 30 "ShipOffice$Act" "day" "I", Cond.methodLink RX10 333 yX7_way, Cond.instanceMethod yX7_way, Cond.selects RX7 yX7_way yX7_way, Cond.initialized RX7, Cond.code yX7_way cX7_way 4 (some .int), Cond.fieldLink RX7 15 "ShipOffice$Sea" "least" "[I", Cond.constant RX7 18 (1000000), Cond.methodLink RX7 19 yJ7_fill_53178, Cond.static yJ7_fill_53178, Cond.initialized RJ7, Cond.code yJ7_fill_53178 cJ7_fill_53178 4 none, Cond.methodLink RX7 25 yX7_shorten, Cond.instanceMethod yX7_shorten, Cond.selects RX7 yX7_shorten yX7_shorten, Cond.code yX7_shorten cX7_shorten 4 none, Cond.fieldLink RX7 9 "ShipOffice$Sea" "miles" "[I"]
def wsX10_home : List Cond := .code yX10_home cX10_home 6 (some .int) :: ((wsX10_home_r1 ++ (wsX10_home_r2 ++ (wsX10_home_r3 ++ wsX10_home_r4))) ++ wsX100 ++ wsX10 ++ wsX30 ++ wsX90 ++ wsX00 ++ wsX50 ++ wsX70)
def wsX10_ask : List Cond := .code yX10_ask cX10_ask 6 (some .int) :: ([.fieldLink RX10 335 "ShipOffice$Man" "wages" "[I", .methodLink RX10 205 yX10_manAt, .instanceMethod yX10_manAt, .selects RX10 yX10_manAt yX10_manAt, .initialized RX10, .code yX10_manAt cX10_manAt 2 (some (.object "ShipOffice$Man")), .fieldLink RX10 86 "ShipOffice" "manCount" "I", .fieldLink RX10 11 "ShipOffice" "men" "[LShipOffice$Man;", .methodLink RX10 69 yX10_refuse, .instanceMethod yX10_refuse, .selects RX10 yX10_refuse yX10_refuse, .code yX10_refuse cX10_refuse 2 (some .int), .fieldLink RX10 66 "ShipOffice" "refusals" "[I"] ++ wsX60 ++ wsX100)
def wsX10_check_r1 : List Cond := [Cond.fieldLink RX10 353 "ShipOffice" "rowCount" "I", Cond.fieldLink RX10 115 "ShipOffice" "agreementCount" "I", Cond.fieldLink RX10 23 "ShipOffice" "agreements" "[LShipOffice$Agreement;", Cond.fieldLink RX10 118 "ShipOffice$Agreement" "voyage" "LShipOffice$Voyage;", Cond.fieldLink RX10 63 "ShipOffice" "row" "[I", Cond.methodLink RX10 103 yX10_voyageAt, Cond.instanceMethod yX10_voyageAt, Cond.selects RX10 yX10_voyageAt yX10_voyageAt, Cond.initialized RX10, Cond.code yX10_voyageAt cX10_voyageAt 2 (some (.object "ShipOffice$Voyage")), Cond.fieldLink RX10 99 "ShipOffice" "voyageCount" "I", Cond.fieldLink RX10 17 "ShipOffice" "voyages" "[LShipOffice$Voyage;", Cond.methodLink RX10 69 yX10_refuse, Cond.instanceMethod yX10_refuse, Cond.selects RX10 yX10_refuse yX10_refuse, Cond.code yX10_refuse cX10_refuse 2 (some .int), Cond.fieldLink RX10 66 "ShipOffice" "refusals" "[I", Cond.methodLink RX10 229 yX10_askRefusal, Cond.instanceMethod yX10_askRefusal, Cond.selects RX10 yX10_askRefusal yX10_askRefusal, Cond.code yX10_askRefusal cX10_askRefusal 3 (some .int), Cond.fieldLink RX10 73 "ShipOffice" "now" "I", Cond.methodLink RX10 295 yX10_owedOn, Cond.instanceMethod yX10_owedOn]
def wsX10_check_r2 : List Cond := [Cond.selects RX10 yX10_owedOn yX10_owedOn, Cond.code yX10_owedOn cX10_owedOn 9 (some .int), Cond.fieldLink RX10 255 "ShipOffice$Agreement" "signedOn" "I", Cond.fieldLink RX10 223 "ShipOffice$Agreement" "wage" "I", Cond.fieldLink RX10 30 "ShipOffice" "law" "LShipOffice$Law;", Cond.fieldLink RX10 258 "ShipOffice$Agreement" "fineCount" "I", Cond.fieldLink RX10 261 "ShipOffice$Agreement" "fines" "[LShipOffice$Fine;", Cond.fieldLink RX10 277 "ShipOffice$Fine" "day" "I", Cond.fieldLink RX10 326 "ShipOffice$Happening" "way" "I", Cond.methodLink RX10 378 Lib.Math.min.name, Cond.static Lib.Math.min.name, Cond.initialized "java/lang/Math", Cond.code Lib.Math.min.name Lib.Math.min.code 2 (some .int), Cond.methodLink RX10 383 Lib.Math.max.name, Cond.static Lib.Math.max.name, Cond.code Lib.Math.max.name Lib.Math.max.code 2 (some .int), Cond.constantLong RX10 253 (100), Cond.methodLink RX10 237 yX1_earningDays, Cond.instanceMethod yX1_earningDays, Cond.selects RX1 yX1_earningDays yX1_earningDays, Cond.initialized RX1, Cond.code yX1_earningDays cX1_earningDays 5 (some .int), Cond.fieldLink RX1 33 "ShipOffice$Agreement" "voyage" "LShipOffice$Voyage;", Cond.methodLink RX1 100 yX1_stateOn]
def wsX10_check_r3 : List Cond := [Cond.instanceMethod yX1_stateOn, Cond.selects RX1 yX1_stateOn yX1_stateOn, Cond.code yX1_stateOn cX1_stateOn 5 (some .int), Cond.fieldLink RX1 37 "ShipOffice$Agreement" "signedOn" "I", Cond.fieldLink RX1 44 "ShipOffice$Agreement" "isDead" "Z", Cond.fieldLink RX1 10 "ShipOffice$Agreement" "offDay" "I", Cond.fieldLink RX1 64 "ShipOffice$Happening" "kind" "I", Cond.fieldLink RX1 82 "ShipOffice$Act" "plainWorth" "I", Cond.methodLink RX1 53 yX9_lostBy, Cond.instanceMethod yX9_lostBy, Cond.selects RX9 yX9_lostBy yX9_lostBy, Cond.initialized RX9, Cond.code yX9_lostBy cX9_lostBy 3 (some .boolean), Cond.fieldLink RX9 22 "ShipOffice$Voyage" "lostTold" "I", Cond.fieldLink RX9 19 "ShipOffice$Voyage" "lostDay" "I", Cond.methodLink RX1 57 yX1_diedBy, Cond.instanceMethod yX1_diedBy, Cond.selects RX1 yX1_diedBy yX1_diedBy, Cond.code yX1_diedBy cX1_diedBy 4 (some .boolean), Cond.fieldLink RX1 87 "ShipOffice$Agreement" "tidings" "LShipOffice$Happening;", Cond.fieldLink RX1 91 "ShipOffice$Happening" "told" "I", Cond.fieldLink RX1 94 "ShipOffice$Happening" "day" "I", Cond.fieldLink RX1 97 "ShipOffice$Happening" "before" "LShipOffice$Happening;", Cond.methodLink RX1 60 yX1_lastMove]
def wsX10_check_r4 : List Cond := [Cond.instanceMethod yX1_lastMove, Cond.selects RX1 yX1_lastMove yX1_lastMove, Cond.code yX1_lastMove cX1_lastMove 6 (some (.object "ShipOffice$Happening")), Cond.methodLink RX1 69 yX9_sailedBy, Cond.instanceMethod yX9_sailedBy, Cond.selects RX9 yX9_sailedBy yX9_sailedBy, Cond.code yX9_sailedBy cX9_sailedBy 3 (some .boolean), Cond.fieldLink RX9 16 "ShipOffice$Voyage" "sailedTold" "I", Cond.fieldLink RX9 10 "ShipOffice$Voyage" "sailedDay" "I", Cond.methodLink RX1 72 yX9_lastHeard, Cond.instanceMethod yX9_lastHeard, Cond.selects RX9 yX9_lastHeard yX9_lastHeard, Cond.code yX9_lastHeard cX9_lastHeard 5 (some .int), Cond.fieldLink RX9 41 "ShipOffice$Voyage" "heardOf" "LShipOffice$Happening;", Cond.fieldLink RX9 45 "ShipOffice$Happening" "told" "I", Cond.fieldLink RX9 50 "ShipOffice$Happening" "day" "I", Cond.fieldLink RX9 53 "ShipOffice$Happening" "before" "LShipOffice$Happening;", Cond.methodLink RX1 76 yX5_inForce, Cond.instanceMethod yX5_inForce, Cond.selects RX5 yX5_inForce yX5_inForce, Cond.initialized RX5, Cond.code yX5_inForce cX5_inForce 6 (some (.object "ShipOffice$Act")), Cond.fieldLink RX5 17 "ShipOffice$Law" "customs" "[LShipOffice$Act;", Cond.fieldLink RX5 23 "ShipOffice$Law" "actCount" "I"]
def wsX10_check_r5 : List Cond := [Cond.fieldLink RX5 11 "ShipOffice$Law" "acts" "[LShipOffice$Act;", Cond.fieldLink RX5 27 "ShipOffice$Act" "purpose" "I", Cond.fieldLink RX5 30 "ShipOffice$Act" "day" "I", Cond.methodLink RX1 104 yX1_daysIn, Cond.instanceMethod yX1_daysIn, Cond.selects RX1 yX1_daysIn yX1_daysIn, Cond.code yX1_daysIn cX1_daysIn 10 (some .int), Cond.methodLink RX1 111 Lib.Math.min.name, Cond.methodLink RX1 108 yX1_nextChange, Cond.instanceMethod yX1_nextChange, Cond.selects RX1 yX1_nextChange yX1_nextChange, Cond.code yX1_nextChange cX1_nextChange 6 (some .int), Cond.constant RX1 9 (1000000), Cond.methodLink RX1 116 yX1_nearer, Cond.static yX1_nearer, Cond.code yX1_nearer cX1_nearer 3 (some .int), Cond.methodLink RX1 120 yX9_nextTold, Cond.instanceMethod yX9_nextTold, Cond.selects RX9 yX9_nextTold yX9_nextTold, Cond.code yX9_nextTold cX9_nextTold 5 (some .int), Cond.constant RX9 9 (1000000), Cond.methodLink RX1 123 yX5_nextPresume, Cond.instanceMethod yX5_nextPresume, Cond.selects RX5 yX5_nextPresume yX5_nextPresume]
def wsX10_check_r6 : List Cond := [Cond.code yX5_nextPresume cX5_nextPresume 4 (some .int), Cond.constant RX5 33 (1000000), Cond.methodLink RX10 421 yX1_notePaid, Cond.instanceMethod yX1_notePaid, Cond.selects RX1 yX1_notePaid yX1_notePaid, Cond.code yX1_notePaid cX1_notePaid 4 (some .int), Cond.fieldLink RX1 127 "ShipOffice$Agreement" "note" "I", Cond.fieldLink RX1 130 "ShipOffice$Voyage" "sailedDay" "I", Cond.methodLink RX10 424 yX1_allotmentsPaid, Cond.instanceMethod yX1_allotmentsPaid, Cond.selects RX1 yX1_allotmentsPaid yX1_allotmentsPaid, Cond.code yX1_allotmentsPaid cX1_allotmentsPaid 6 (some .int), Cond.fieldLink RX1 133 "ShipOffice$Agreement" "allotment" "I", Cond.methodLink RX10 280 yX10_standing, Cond.instanceMethod yX10_standing, Cond.selects RX10 yX10_standing yX10_standing, Cond.code yX10_standing cX10_standing 5 (some .int), Cond.fieldLink RX10 418 "ShipOffice$Fine" "sum" "I", Cond.fieldLink RX10 274 "ShipOffice$Fine" "isRead" "Z", Cond.methodLink RX10 249 yX10_worthFor, Cond.instanceMethod yX10_worthFor, Cond.selects RX10 yX10_worthFor yX10_worthFor, Cond.code yX10_worthFor cX10_worthFor 8 (some .int), Cond.fieldLink RX10 59 "ShipOffice" "letters" "[I"]
def wsX10_check_r7 : List Cond := [Cond.fieldLink RX10 226 "ShipOffice$Agreement" "rank" "I", Cond.fieldLink RX10 299 "ShipOffice$Agreement" "man" "LShipOffice$Man;", Cond.methodLink RX10 400 yX5_inForce, Cond.methodLink RX10 397 yX6_yearsOn, Cond.instanceMethod yX6_yearsOn, Cond.selects RX6 yX6_yearsOn yX6_yearsOn, Cond.initialized RX6, Cond.code yX6_yearsOn cX6_yearsOn 2 (some .int), Cond.fieldLink RX6 25 "ShipOffice$Man" "born" "I", Cond.methodLink RX10 408 yX0_uses, Cond.instanceMethod yX0_uses, Cond.selects RX0 yX0_uses yX0_uses, Cond.initialized RX0, Cond.code yX0_uses cX0_uses 6 (some .boolean), Cond.fieldLink RX0 16 "ShipOffice$Act" "code" "[I", Cond.methodLink RX10 411 yX1_daysIn, Cond.methodLink RX10 307 yX10_menAboard, Cond.instanceMethod yX10_menAboard, Cond.selects RX10 yX10_menAboard yX10_menAboard, Cond.code yX10_menAboard cX10_menAboard 6 (some .int), Cond.methodLink RX10 233 yX1_stateOn, Cond.methodLink RX10 415 yX9_daysUnheard, Cond.instanceMethod yX9_daysUnheard, Cond.selects RX9 yX9_daysUnheard yX9_daysUnheard]
def wsX10_check_r8 : List Cond := [Cond.code yX9_daysUnheard cX9_daysUnheard 4 (some .int), Cond.methodLink RX9 56 yX9_lastHeard, Cond.methodLink RX10 404 yX0_worth, Cond.instanceMethod yX0_worth, Cond.selects RX0 yX0_worth yX0_worth, Cond.code yX0_worth cX0_worth 8 (some .int), Cond.fieldLink RX0 20 "ShipOffice$Act" "stack" "[I", Cond.methodLink RX0 36 yX0_joined, Cond.static yX0_joined, Cond.code yX0_joined cX0_joined 5 (some .int), Cond.methodLink RX0 40 yX0_held, Cond.static yX0_held, Cond.code yX0_held cX0_held 2 (some .int), Cond.constantLong RX0 44 (1000000000), Cond.constant RX0 46 (1000000000), Cond.constantLong RX0 47 (-1000000000), Cond.constant RX0 49 (-1000000000), Cond.methodLink RX10 427 yX1_shortPence, Cond.instanceMethod yX1_shortPence, Cond.selects RX1 yX1_shortPence yX1_shortPence, Cond.code yX1_shortPence cX1_shortPence 4 (some .int), Cond.fieldLink RX1 136 "ShipOffice$Agreement" "shortCount" "I", Cond.fieldLink RX1 22 "ShipOffice$Agreement" "shortTold" "[I", Cond.fieldLink RX1 26 "ShipOffice$Agreement" "shortSum" "[I"]
def wsX10_check_r9 : List Cond := [Cond.methodLink RX10 322 yX1_leavingOn, Cond.instanceMethod yX1_leavingOn, Cond.selects RX1 yX1_leavingOn yX1_leavingOn, Cond.code yX1_leavingOn cX1_leavingOn 4 (some (.object "ShipOffice$Happening"))]
def wsX10_check : List Cond := .code yX10_check cX10_check 9 (some .int) :: ((wsX10_check_r1 ++ (wsX10_check_r2 ++ (wsX10_check_r3 ++ (wsX10_check_r4 ++ (wsX10_check_r5 ++ (wsX10_check_r6 ++ (wsX10_check_r7 ++ (wsX10_check_r8 ++ wsX10_check_r9)))))))) ++ wsX100 ++ wsX10 ++ wsX20 ++ wsX30 ++ wsX00 ++ wsX90 ++ wsX50 ++ wsX60)
set_option maxRecDepth 20000 in
theorem ggX10_ended_X10_voyageAt : GoodIn wsX10_ended wsX10_voyageAt := goodIn_r _ [13, 14, 15, 44, 45, 46, 47, 48, 49, 50, 51, 52, 53, 54, 55, 56, 57, 58, 59] (by decide +kernel) (by decide +kernel)
set_option maxRecDepth 20000 in
theorem gX10_ended_X10_voyageAt : GoodIn wsX10_ended (wsV RX10 103 RX10 yX10_voyageAt wsX10_voyageAt) := goodIn_app (goodIn_of _ (by decide +kernel)) ggX10_ended_X10_voyageAt
set_option maxRecDepth 20000 in
theorem ggX10_ended_X10_refuse : GoodIn wsX10_ended wsX10_refuse := goodIn_r _ [22, 23, 44, 45, 46, 47, 48, 49, 50, 51, 52, 53, 54, 55, 56, 57, 58, 59] (by decide +kernel) (by decide +kernel)
set_option maxRecDepth 20000 in
theorem gX10_ended_X10_refuse : GoodIn wsX10_ended (wsV RX10 69 RX10 yX10_refuse wsX10_refuse) := goodIn_app (goodIn_of _ (by decide +kernel)) ggX10_ended_X10_refuse
theorem dX10_ended_0 : decode cX10_ended 0 = .ok (.aload_n 0, 1) := by decide +kernel
theorem dX10_ended_1 : decode cX10_ended 1 = .ok (.iload_n 1, 1) := by decide +kernel
theorem dX10_ended_2 : decode cX10_ended 2 = .ok (.invokevirtual 103, 3) := by decide +kernel
theorem dX10_ended_5 : decode cX10_ended 5 = .ok (.astore_n 3, 1) := by decide +kernel
theorem dX10_ended_6 : decode cX10_ended 6 = .ok (.aload_n 3, 1) := by decide +kernel
theorem dX10_ended_7 : decode cX10_ended 7 = .ok (.ifnull 10, 3) := by decide +kernel
theorem dX10_ended_17 : decode cX10_ended 17 = .ok (.aload_n 0, 1) := by decide +kernel
theorem dX10_ended_18 : decode cX10_ended 18 = .ok (.iconst (-1), 1) := by decide +kernel
theorem dX10_ended_19 : decode cX10_ended 19 = .ok (.invokevirtual 69, 3) := by decide +kernel
theorem dX10_ended_22 : decode cX10_ended 22 = .ok (.ireturn, 1) := by decide +kernel
set_option maxRecDepth 20000 in
theorem ggX10_sailed_X10_voyageAt : GoodIn wsX10_sailed wsX10_voyageAt := goodIn_r _ [10, 11, 12, 34, 35, 36, 37, 38, 39, 40, 41, 42, 43, 44, 45, 46, 47, 48, 49] (by decide +kernel) (by decide +kernel)
set_option maxRecDepth 20000 in
theorem gX10_sailed_X10_voyageAt : GoodIn wsX10_sailed (wsV RX10 103 RX10 yX10_voyageAt wsX10_voyageAt) := goodIn_app (goodIn_of _ (by decide +kernel)) ggX10_sailed_X10_voyageAt
set_option maxRecDepth 20000 in
theorem ggX10_sailed_X10_refuse : GoodIn wsX10_sailed wsX10_refuse := goodIn_r _ [16, 17, 34, 35, 36, 37, 38, 39, 40, 41, 42, 43, 44, 45, 46, 47, 48, 49] (by decide +kernel) (by decide +kernel)
set_option maxRecDepth 20000 in
theorem gX10_sailed_X10_refuse : GoodIn wsX10_sailed (wsV RX10 69 RX10 yX10_refuse wsX10_refuse) := goodIn_app (goodIn_of _ (by decide +kernel)) ggX10_sailed_X10_refuse
theorem dX10_sailed_0 : decode cX10_sailed 0 = .ok (.aload_n 0, 1) := by decide +kernel
theorem dX10_sailed_1 : decode cX10_sailed 1 = .ok (.iload_n 1, 1) := by decide +kernel
theorem dX10_sailed_2 : decode cX10_sailed 2 = .ok (.invokevirtual 103, 3) := by decide +kernel
theorem dX10_sailed_5 : decode cX10_sailed 5 = .ok (.astore_n 3, 1) := by decide +kernel
theorem dX10_sailed_6 : decode cX10_sailed 6 = .ok (.aload_n 3, 1) := by decide +kernel
theorem dX10_sailed_7 : decode cX10_sailed 7 = .ok (.ifnonnull 9, 3) := by decide +kernel
theorem dX10_sailed_10 : decode cX10_sailed 10 = .ok (.aload_n 0, 1) := by decide +kernel
theorem dX10_sailed_11 : decode cX10_sailed 11 = .ok (.iconst (-1), 1) := by decide +kernel
theorem dX10_sailed_12 : decode cX10_sailed 12 = .ok (.invokevirtual 69, 3) := by decide +kernel
theorem dX10_sailed_15 : decode cX10_sailed 15 = .ok (.ireturn, 1) := by decide +kernel
set_option maxRecDepth 20000 in
theorem ggX10_heard_X10_voyageAt : GoodIn wsX10_heard wsX10_voyageAt := goodIn_r _ [11, 12, 13, 43, 44, 45, 46, 47, 48, 49, 50, 51, 52, 53, 54, 55, 56, 57, 58] (by decide +kernel) (by decide +kernel)
set_option maxRecDepth 20000 in
theorem gX10_heard_X10_voyageAt : GoodIn wsX10_heard (wsV RX10 103 RX10 yX10_voyageAt wsX10_voyageAt) := goodIn_app (goodIn_of _ (by decide +kernel)) ggX10_heard_X10_voyageAt
set_option maxRecDepth 20000 in
theorem ggX10_heard_X10_refuse : GoodIn wsX10_heard wsX10_refuse := goodIn_r _ [17, 18, 43, 44, 45, 46, 47, 48, 49, 50, 51, 52, 53, 54, 55, 56, 57, 58] (by decide +kernel) (by decide +kernel)
set_option maxRecDepth 20000 in
theorem gX10_heard_X10_refuse : GoodIn wsX10_heard (wsV RX10 69 RX10 yX10_refuse wsX10_refuse) := goodIn_app (goodIn_of _ (by decide +kernel)) ggX10_heard_X10_refuse
theorem dX10_heard_0 : decode cX10_heard 0 = .ok (.aload_n 0, 1) := by decide +kernel
theorem dX10_heard_1 : decode cX10_heard 1 = .ok (.iload_n 1, 1) := by decide +kernel
theorem dX10_heard_2 : decode cX10_heard 2 = .ok (.invokevirtual 103, 3) := by decide +kernel
theorem dX10_heard_5 : decode cX10_heard 5 = .ok (.astore_n 3, 1) := by decide +kernel
theorem dX10_heard_6 : decode cX10_heard 6 = .ok (.aload_n 3, 1) := by decide +kernel
theorem dX10_heard_7 : decode cX10_heard 7 = .ok (.ifnonnull 9, 3) := by decide +kernel
theorem dX10_heard_10 : decode cX10_heard 10 = .ok (.aload_n 0, 1) := by decide +kernel
theorem dX10_heard_11 : decode cX10_heard 11 = .ok (.iconst (-1), 1) := by decide +kernel
theorem dX10_heard_12 : decode cX10_heard 12 = .ok (.invokevirtual 69, 3) := by decide +kernel
theorem dX10_heard_15 : decode cX10_heard 15 = .ok (.ireturn, 1) := by decide +kernel
set_option maxRecDepth 20000 in
theorem ggX10_lost_X10_voyageAt : GoodIn wsX10_lost wsX10_voyageAt := goodIn_r _ [10, 11, 12, 34, 35, 36, 37, 38, 39, 40, 41, 42, 43, 44, 45, 46, 47, 48, 49] (by decide +kernel) (by decide +kernel)
set_option maxRecDepth 20000 in
theorem gX10_lost_X10_voyageAt : GoodIn wsX10_lost (wsV RX10 103 RX10 yX10_voyageAt wsX10_voyageAt) := goodIn_app (goodIn_of _ (by decide +kernel)) ggX10_lost_X10_voyageAt
set_option maxRecDepth 20000 in
theorem ggX10_lost_X10_refuse : GoodIn wsX10_lost wsX10_refuse := goodIn_r _ [16, 17, 34, 35, 36, 37, 38, 39, 40, 41, 42, 43, 44, 45, 46, 47, 48, 49] (by decide +kernel) (by decide +kernel)
set_option maxRecDepth 20000 in
theorem gX10_lost_X10_refuse : GoodIn wsX10_lost (wsV RX10 69 RX10 yX10_refuse wsX10_refuse) := goodIn_app (goodIn_of _ (by decide +kernel)) ggX10_lost_X10_refuse
theorem dX10_lost_0 : decode cX10_lost 0 = .ok (.aload_n 0, 1) := by decide +kernel
theorem dX10_lost_1 : decode cX10_lost 1 = .ok (.iload_n 1, 1) := by decide +kernel
theorem dX10_lost_2 : decode cX10_lost 2 = .ok (.invokevirtual 103, 3) := by decide +kernel
theorem dX10_lost_5 : decode cX10_lost 5 = .ok (.astore_n 3, 1) := by decide +kernel
theorem dX10_lost_6 : decode cX10_lost 6 = .ok (.aload_n 3, 1) := by decide +kernel
theorem dX10_lost_7 : decode cX10_lost 7 = .ok (.ifnonnull 9, 3) := by decide +kernel
theorem dX10_lost_10 : decode cX10_lost 10 = .ok (.aload_n 0, 1) := by decide +kernel
theorem dX10_lost_11 : decode cX10_lost 11 = .ok (.iconst (-1), 1) := by decide +kernel
theorem dX10_lost_12 : decode cX10_lost 12 = .ok (.invokevirtual 69, 3) := by decide +kernel
theorem dX10_lost_15 : decode cX10_lost 15 = .ok (.ireturn, 1) := by decide +kernel
set_option maxRecDepth 20000 in
theorem ggX10_left_X10_agreementAt : GoodIn wsX10_left wsX10_agreementAt := goodIn_r _ [5, 6, 7, 45, 46, 47, 48, 49, 50, 51, 52, 53, 54, 55, 56, 57, 58, 59, 60] (by decide +kernel) (by decide +kernel)
set_option maxRecDepth 20000 in
theorem gX10_left_X10_agreementAt : GoodIn wsX10_left (wsV RX10 154 RX10 yX10_agreementAt wsX10_agreementAt) := goodIn_app (goodIn_of _ (by decide +kernel)) ggX10_left_X10_agreementAt
set_option maxRecDepth 20000 in
theorem ggX10_left_X10_refuse : GoodIn wsX10_left wsX10_refuse := goodIn_r _ [14, 15, 45, 46, 47, 48, 49, 50, 51, 52, 53, 54, 55, 56, 57, 58, 59, 60] (by decide +kernel) (by decide +kernel)
set_option maxRecDepth 20000 in
theorem gX10_left_X10_refuse : GoodIn wsX10_left (wsV RX10 69 RX10 yX10_refuse wsX10_refuse) := goodIn_app (goodIn_of _ (by decide +kernel)) ggX10_left_X10_refuse
theorem dX10_left_0 : decode cX10_left 0 = .ok (.aload_n 0, 1) := by decide +kernel
theorem dX10_left_1 : decode cX10_left 1 = .ok (.iload_n 1, 1) := by decide +kernel
theorem dX10_left_2 : decode cX10_left 2 = .ok (.invokevirtual 154, 3) := by decide +kernel
theorem dX10_left_5 : decode cX10_left 5 = .ok (.astore 5, 2) := by decide +kernel
theorem dX10_left_7 : decode cX10_left 7 = .ok (.aload 5, 2) := by decide +kernel
theorem dX10_left_9 : decode cX10_left 9 = .ok (.ifnull 11, 3) := by decide +kernel
theorem dX10_left_20 : decode cX10_left 20 = .ok (.aload_n 0, 1) := by decide +kernel
theorem dX10_left_21 : decode cX10_left 21 = .ok (.iconst (-1), 1) := by decide +kernel
theorem dX10_left_22 : decode cX10_left 22 = .ok (.invokevirtual 69, 3) := by decide +kernel
theorem dX10_left_25 : decode cX10_left 25 = .ok (.ireturn, 1) := by decide +kernel
set_option maxRecDepth 20000 in
theorem ggX10_died_X10_agreementAt : GoodIn wsX10_died wsX10_agreementAt := goodIn_r _ [6, 7, 8, 61, 62, 63, 64, 65, 66, 67, 68, 69, 70, 71, 72, 73, 74, 75, 76] (by decide +kernel) (by decide +kernel)
set_option maxRecDepth 20000 in
theorem gX10_died_X10_agreementAt : GoodIn wsX10_died (wsV RX10 154 RX10 yX10_agreementAt wsX10_agreementAt) := goodIn_app (goodIn_of _ (by decide +kernel)) ggX10_died_X10_agreementAt
set_option maxRecDepth 20000 in
theorem ggX10_died_X10_refuse : GoodIn wsX10_died wsX10_refuse := goodIn_r _ [12, 13, 61, 62, 63, 64, 65, 66, 67, 68, 69, 70, 71, 72, 73, 74, 75, 76] (by decide +kernel) (by decide +kernel)
set_option maxRecDepth 20000 in
theorem gX10_died_X10_refuse : GoodIn wsX10_died (wsV RX10 69 RX10 yX10_refuse wsX10_refuse) := goodIn_app (goodIn_of _ (by decide +kernel)) ggX10_died_X10_refuse
theorem dX10_died_0 : decode cX10_died 0 = .ok (.aload_n 0, 1) := by decide +kernel
theorem dX10_died_1 : decode cX10_died 1 = .ok (.iload_n 1, 1) := by decide +kernel
theorem dX10_died_2 : decode cX10_died 2 = .ok (.invokevirtual 154, 3) := by decide +kernel
theorem dX10_died_5 : decode cX10_died 5 = .ok (.astore_n 3, 1) := by decide +kernel
theorem dX10_died_6 : decode cX10_died 6 = .ok (.aload_n 3, 1) := by decide +kernel
theorem dX10_died_7 : decode cX10_died 7 = .ok (.ifnonnull 9, 3) := by decide +kernel
theorem dX10_died_10 : decode cX10_died 10 = .ok (.aload_n 0, 1) := by decide +kernel
theorem dX10_died_11 : decode cX10_died 11 = .ok (.iconst (-1), 1) := by decide +kernel
theorem dX10_died_12 : decode cX10_died 12 = .ok (.invokevirtual 69, 3) := by decide +kernel
theorem dX10_died_15 : decode cX10_died 15 = .ok (.ireturn, 1) := by decide +kernel
set_option maxRecDepth 20000 in
theorem ggX10_back_X10_agreementAt : GoodIn wsX10_back wsX10_agreementAt := goodIn_r _ [5, 6, 7, 42, 43, 44, 45, 46, 47, 48, 49, 50, 51, 52, 53, 54, 55, 56, 57] (by decide +kernel) (by decide +kernel)
set_option maxRecDepth 20000 in
theorem gX10_back_X10_agreementAt : GoodIn wsX10_back (wsV RX10 154 RX10 yX10_agreementAt wsX10_agreementAt) := goodIn_app (goodIn_of _ (by decide +kernel)) ggX10_back_X10_agreementAt
set_option maxRecDepth 20000 in
theorem ggX10_back_X10_refuse : GoodIn wsX10_back wsX10_refuse := goodIn_r _ [11, 12, 42, 43, 44, 45, 46, 47, 48, 49, 50, 51, 52, 53, 54, 55, 56, 57] (by decide +kernel) (by decide +kernel)
set_option maxRecDepth 20000 in
theorem gX10_back_X10_refuse : GoodIn wsX10_back (wsV RX10 69 RX10 yX10_refuse wsX10_refuse) := goodIn_app (goodIn_of _ (by decide +kernel)) ggX10_back_X10_refuse
theorem dX10_back_0 : decode cX10_back 0 = .ok (.aload_n 0, 1) := by decide +kernel
theorem dX10_back_1 : decode cX10_back 1 = .ok (.iload_n 1, 1) := by decide +kernel
theorem dX10_back_2 : decode cX10_back 2 = .ok (.invokevirtual 154, 3) := by decide +kernel
theorem dX10_back_5 : decode cX10_back 5 = .ok (.astore_n 3, 1) := by decide +kernel
theorem dX10_back_6 : decode cX10_back 6 = .ok (.aload_n 3, 1) := by decide +kernel
theorem dX10_back_7 : decode cX10_back 7 = .ok (.ifnonnull 9, 3) := by decide +kernel
theorem dX10_back_10 : decode cX10_back 10 = .ok (.aload_n 0, 1) := by decide +kernel
theorem dX10_back_11 : decode cX10_back 11 = .ok (.iconst (-1), 1) := by decide +kernel
theorem dX10_back_12 : decode cX10_back 12 = .ok (.invokevirtual 69, 3) := by decide +kernel
theorem dX10_back_15 : decode cX10_back 15 = .ok (.ireturn, 1) := by decide +kernel
set_option maxRecDepth 20000 in
theorem ggX10_sign_X10_manAt : GoodIn wsX10_sign wsX10_manAt := goodIn_r _ [15, 16, 17, 113, 114, 115, 116, 117, 118, 119, 120, 121, 122, 123, 124, 125, 126, 127, 128] (by decide +kernel) (by decide +kernel)
set_option maxRecDepth 20000 in
theorem gX10_sign_X10_manAt : GoodIn wsX10_sign (wsV RX10 205 RX10 yX10_manAt wsX10_manAt) := goodIn_app (goodIn_of _ (by decide +kernel)) ggX10_sign_X10_manAt
set_option maxRecDepth 20000 in
theorem ggX10_sign_X10_voyageAt : GoodIn wsX10_sign wsX10_voyageAt := goodIn_r _ [21, 22, 23, 113, 114, 115, 116, 117, 118, 119, 120, 121, 122, 123, 124, 125, 126, 127, 128] (by decide +kernel) (by decide +kernel)
set_option maxRecDepth 20000 in
theorem gX10_sign_X10_voyageAt : GoodIn wsX10_sign (wsV RX10 103 RX10 yX10_voyageAt wsX10_voyageAt) := goodIn_app (goodIn_of _ (by decide +kernel)) ggX10_sign_X10_voyageAt
set_option maxRecDepth 20000 in
theorem ggX10_sign_X10_agreementAt : GoodIn wsX10_sign wsX10_agreementAt := goodIn_r _ [27, 1, 10, 113, 114, 115, 116, 117, 118, 119, 120, 121, 122, 123, 124, 125, 126, 127, 128] (by decide +kernel) (by decide +kernel)
set_option maxRecDepth 20000 in
theorem gX10_sign_X10_agreementAt : GoodIn wsX10_sign (wsV RX10 154 RX10 yX10_agreementAt wsX10_agreementAt) := goodIn_app (goodIn_of _ (by decide +kernel)) ggX10_sign_X10_agreementAt
set_option maxRecDepth 20000 in
theorem ggX10_sign_X10_refuse : GoodIn wsX10_sign wsX10_refuse := goodIn_r _ [31, 32, 113, 114, 115, 116, 117, 118, 119, 120, 121, 122, 123, 124, 125, 126, 127, 128] (by decide +kernel) (by decide +kernel)
set_option maxRecDepth 20000 in
theorem gX10_sign_X10_refuse : GoodIn wsX10_sign (wsV RX10 69 RX10 yX10_refuse wsX10_refuse) := goodIn_app (goodIn_of _ (by decide +kernel)) ggX10_sign_X10_refuse
theorem dX10_sign_0 : decode cX10_sign 0 = .ok (.aload_n 0, 1) := by decide +kernel
theorem dX10_sign_1 : decode cX10_sign 1 = .ok (.iload_n 1, 1) := by decide +kernel
theorem dX10_sign_2 : decode cX10_sign 2 = .ok (.invokevirtual 205, 3) := by decide +kernel
theorem dX10_sign_5 : decode cX10_sign 5 = .ok (.astore 6, 2) := by decide +kernel
theorem dX10_sign_7 : decode cX10_sign 7 = .ok (.aload_n 0, 1) := by decide +kernel
theorem dX10_sign_8 : decode cX10_sign 8 = .ok (.iload_n 2, 1) := by decide +kernel
theorem dX10_sign_9 : decode cX10_sign 9 = .ok (.invokevirtual 103, 3) := by decide +kernel
theorem dX10_sign_12 : decode cX10_sign 12 = .ok (.astore 7, 2) := by decide +kernel
theorem dX10_sign_14 : decode cX10_sign 14 = .ok (.aload_n 0, 1) := by decide +kernel
theorem dX10_sign_15 : decode cX10_sign 15 = .ok (.iload 5, 2) := by decide +kernel
theorem dX10_sign_17 : decode cX10_sign 17 = .ok (.invokevirtual 154, 3) := by decide +kernel
theorem dX10_sign_20 : decode cX10_sign 20 = .ok (.astore 8, 2) := by decide +kernel
theorem dX10_sign_22 : decode cX10_sign 22 = .ok (.aload 6, 2) := by decide +kernel
theorem dX10_sign_24 : decode cX10_sign 24 = .ok (.ifnull 19, 3) := by decide +kernel
theorem dX10_sign_43 : decode cX10_sign 43 = .ok (.aload_n 0, 1) := by decide +kernel
theorem dX10_sign_44 : decode cX10_sign 44 = .ok (.iconst (-1), 1) := by decide +kernel
theorem dX10_sign_45 : decode cX10_sign 45 = .ok (.invokevirtual 69, 3) := by decide +kernel
theorem dX10_sign_48 : decode cX10_sign 48 = .ok (.ireturn, 1) := by decide +kernel
set_option maxRecDepth 20000 in
theorem ggX10_off_X10_agreementAt : GoodIn wsX10_off wsX10_agreementAt := goodIn_r _ [7, 8, 9, 28, 29, 30, 31, 32, 33, 34, 35, 36, 37, 38, 39, 40, 41, 42, 43] (by decide +kernel) (by decide +kernel)
set_option maxRecDepth 20000 in
theorem gX10_off_X10_agreementAt : GoodIn wsX10_off (wsV RX10 154 RX10 yX10_agreementAt wsX10_agreementAt) := goodIn_app (goodIn_of _ (by decide +kernel)) ggX10_off_X10_agreementAt
set_option maxRecDepth 20000 in
theorem ggX10_off_X10_refuse : GoodIn wsX10_off wsX10_refuse := goodIn_r _ [16, 17, 28, 29, 30, 31, 32, 33, 34, 35, 36, 37, 38, 39, 40, 41, 42, 43] (by decide +kernel) (by decide +kernel)
set_option maxRecDepth 20000 in
theorem gX10_off_X10_refuse : GoodIn wsX10_off (wsV RX10 69 RX10 yX10_refuse wsX10_refuse) := goodIn_app (goodIn_of _ (by decide +kernel)) ggX10_off_X10_refuse
theorem dX10_off_0 : decode cX10_off 0 = .ok (.aload_n 0, 1) := by decide +kernel
theorem dX10_off_1 : decode cX10_off 1 = .ok (.iload_n 1, 1) := by decide +kernel
theorem dX10_off_2 : decode cX10_off 2 = .ok (.invokevirtual 154, 3) := by decide +kernel
theorem dX10_off_5 : decode cX10_off 5 = .ok (.astore_n 3, 1) := by decide +kernel
theorem dX10_off_6 : decode cX10_off 6 = .ok (.aload_n 3, 1) := by decide +kernel
theorem dX10_off_7 : decode cX10_off 7 = .ok (.ifnull 10, 3) := by decide +kernel
theorem dX10_off_17 : decode cX10_off 17 = .ok (.aload_n 0, 1) := by decide +kernel
theorem dX10_off_18 : decode cX10_off 18 = .ok (.iconst (-1), 1) := by decide +kernel
theorem dX10_off_19 : decode cX10_off 19 = .ok (.invokevirtual 69, 3) := by decide +kernel
theorem dX10_off_22 : decode cX10_off 22 = .ok (.ireturn, 1) := by decide +kernel
set_option maxRecDepth 20000 in
theorem ggX10_state_X10_agreementAt : GoodIn wsX10_state wsX10_agreementAt := goodIn_r _ [6, 7, 8, 73, 74, 75, 76, 77, 78, 79, 80, 81, 82, 83, 84, 85, 86, 87, 88] (by decide +kernel) (by decide +kernel)
set_option maxRecDepth 20000 in
theorem gX10_state_X10_agreementAt : GoodIn wsX10_state (wsV RX10 154 RX10 yX10_agreementAt wsX10_agreementAt) := goodIn_app (goodIn_of _ (by decide +kernel)) ggX10_state_X10_agreementAt
set_option maxRecDepth 20000 in
theorem ggX10_state_X10_refuse : GoodIn wsX10_state wsX10_refuse := goodIn_r _ [12, 13, 73, 74, 75, 76, 77, 78, 79, 80, 81, 82, 83, 84, 85, 86, 87, 88] (by decide +kernel) (by decide +kernel)
set_option maxRecDepth 20000 in
theorem gX10_state_X10_refuse : GoodIn wsX10_state (wsV RX10 69 RX10 yX10_refuse wsX10_refuse) := goodIn_app (goodIn_of _ (by decide +kernel)) ggX10_state_X10_refuse
theorem dX10_state_0 : decode cX10_state 0 = .ok (.aload_n 0, 1) := by decide +kernel
theorem dX10_state_1 : decode cX10_state 1 = .ok (.iload_n 1, 1) := by decide +kernel
theorem dX10_state_2 : decode cX10_state 2 = .ok (.invokevirtual 154, 3) := by decide +kernel
theorem dX10_state_5 : decode cX10_state 5 = .ok (.astore 4, 2) := by decide +kernel
theorem dX10_state_7 : decode cX10_state 7 = .ok (.aload 4, 2) := by decide +kernel
theorem dX10_state_9 : decode cX10_state 9 = .ok (.ifnonnull 9, 3) := by decide +kernel
theorem dX10_state_12 : decode cX10_state 12 = .ok (.aload_n 0, 1) := by decide +kernel
theorem dX10_state_13 : decode cX10_state 13 = .ok (.iconst (-1), 1) := by decide +kernel
theorem dX10_state_14 : decode cX10_state 14 = .ok (.invokevirtual 69, 3) := by decide +kernel
theorem dX10_state_17 : decode cX10_state 17 = .ok (.ireturn, 1) := by decide +kernel
set_option maxRecDepth 20000 in
theorem ggX10_earns_X10_agreementAt : GoodIn wsX10_earns wsX10_agreementAt := goodIn_r _ [6, 7, 8, 103, 104, 105, 106, 107, 108, 109, 110, 111, 112, 113, 114, 115, 116, 117, 118] (by decide +kernel) (by decide +kernel)
set_option maxRecDepth 20000 in
theorem gX10_earns_X10_agreementAt : GoodIn wsX10_earns (wsV RX10 154 RX10 yX10_agreementAt wsX10_agreementAt) := goodIn_app (goodIn_of _ (by decide +kernel)) ggX10_earns_X10_agreementAt
set_option maxRecDepth 20000 in
theorem ggX10_earns_X10_refuse : GoodIn wsX10_earns wsX10_refuse := goodIn_r _ [12, 13, 103, 104, 105, 106, 107, 108, 109, 110, 111, 112, 113, 114, 115, 116, 117, 118] (by decide +kernel) (by decide +kernel)
set_option maxRecDepth 20000 in
theorem gX10_earns_X10_refuse : GoodIn wsX10_earns (wsV RX10 69 RX10 yX10_refuse wsX10_refuse) := goodIn_app (goodIn_of _ (by decide +kernel)) ggX10_earns_X10_refuse
theorem dX10_earns_0 : decode cX10_earns 0 = .ok (.aload_n 0, 1) := by decide +kernel
theorem dX10_earns_1 : decode cX10_earns 1 = .ok (.iload_n 1, 1) := by decide +kernel
theorem dX10_earns_2 : decode cX10_earns 2 = .ok (.invokevirtual 154, 3) := by decide +kernel
theorem dX10_earns_5 : decode cX10_earns 5 = .ok (.astore 4, 2) := by decide +kernel
theorem dX10_earns_7 : decode cX10_earns 7 = .ok (.aload 4, 2) := by decide +kernel
theorem dX10_earns_9 : decode cX10_earns 9 = .ok (.ifnonnull 9, 3) := by decide +kernel
theorem dX10_earns_12 : decode cX10_earns 12 = .ok (.aload_n 0, 1) := by decide +kernel
theorem dX10_earns_13 : decode cX10_earns 13 = .ok (.iconst (-1), 1) := by decide +kernel
theorem dX10_earns_14 : decode cX10_earns 14 = .ok (.invokevirtual 69, 3) := by decide +kernel
theorem dX10_earns_17 : decode cX10_earns 17 = .ok (.ireturn, 1) := by decide +kernel
set_option maxRecDepth 20000 in
theorem ggX10_advance_X10_agreementAt : GoodIn wsX10_advance wsX10_agreementAt := goodIn_r _ [9, 10, 11, 89, 90, 91, 92, 93, 94, 95, 96, 97, 98, 99, 100, 101, 102, 103, 104] (by decide +kernel) (by decide +kernel)
set_option maxRecDepth 20000 in
theorem gX10_advance_X10_agreementAt : GoodIn wsX10_advance (wsV RX10 154 RX10 yX10_agreementAt wsX10_agreementAt) := goodIn_app (goodIn_of _ (by decide +kernel)) ggX10_advance_X10_agreementAt
set_option maxRecDepth 20000 in
theorem ggX10_advance_X10_refuse : GoodIn wsX10_advance wsX10_refuse := goodIn_r _ [15, 16, 89, 90, 91, 92, 93, 94, 95, 96, 97, 98, 99, 100, 101, 102, 103, 104] (by decide +kernel) (by decide +kernel)
set_option maxRecDepth 20000 in
theorem gX10_advance_X10_refuse : GoodIn wsX10_advance (wsV RX10 69 RX10 yX10_refuse wsX10_refuse) := goodIn_app (goodIn_of _ (by decide +kernel)) ggX10_advance_X10_refuse
theorem dX10_advance_0 : decode cX10_advance 0 = .ok (.aload_n 0, 1) := by decide +kernel
theorem dX10_advance_1 : decode cX10_advance 1 = .ok (.iload_n 1, 1) := by decide +kernel
theorem dX10_advance_2 : decode cX10_advance 2 = .ok (.invokevirtual 154, 3) := by decide +kernel
theorem dX10_advance_5 : decode cX10_advance 5 = .ok (.astore_n 3, 1) := by decide +kernel
theorem dX10_advance_6 : decode cX10_advance 6 = .ok (.aload_n 3, 1) := by decide +kernel
theorem dX10_advance_7 : decode cX10_advance 7 = .ok (.ifnonnull 9, 3) := by decide +kernel
theorem dX10_advance_10 : decode cX10_advance 10 = .ok (.aload_n 0, 1) := by decide +kernel
theorem dX10_advance_11 : decode cX10_advance 11 = .ok (.iconst (-1), 1) := by decide +kernel
theorem dX10_advance_12 : decode cX10_advance 12 = .ok (.invokevirtual 69, 3) := by decide +kernel
theorem dX10_advance_15 : decode cX10_advance 15 = .ok (.ireturn, 1) := by decide +kernel
set_option maxRecDepth 20000 in
theorem ggX10_sold_X10_agreementAt : GoodIn wsX10_sold wsX10_agreementAt := goodIn_r _ [7, 8, 9, 33, 34, 35, 36, 37, 38, 39, 40, 41, 42, 43, 44, 45, 46, 47, 48] (by decide +kernel) (by decide +kernel)
set_option maxRecDepth 20000 in
theorem gX10_sold_X10_agreementAt : GoodIn wsX10_sold (wsV RX10 154 RX10 yX10_agreementAt wsX10_agreementAt) := goodIn_app (goodIn_of _ (by decide +kernel)) ggX10_sold_X10_agreementAt
set_option maxRecDepth 20000 in
theorem ggX10_sold_X10_refuse : GoodIn wsX10_sold wsX10_refuse := goodIn_r _ [13, 14, 33, 34, 35, 36, 37, 38, 39, 40, 41, 42, 43, 44, 45, 46, 47, 48] (by decide +kernel) (by decide +kernel)
set_option maxRecDepth 20000 in
theorem gX10_sold_X10_refuse : GoodIn wsX10_sold (wsV RX10 69 RX10 yX10_refuse wsX10_refuse) := goodIn_app (goodIn_of _ (by decide +kernel)) ggX10_sold_X10_refuse
theorem dX10_sold_0 : decode cX10_sold 0 = .ok (.aload_n 0, 1) := by decide +kernel
theorem dX10_sold_1 : decode cX10_sold 1 = .ok (.iload_n 1, 1) := by decide +kernel
theorem dX10_sold_2 : decode cX10_sold 2 = .ok (.invokevirtual 154, 3) := by decide +kernel
theorem dX10_sold_5 : decode cX10_sold 5 = .ok (.astore_n 3, 1) := by decide +kernel
theorem dX10_sold_6 : decode cX10_sold 6 = .ok (.aload_n 3, 1) := by decide +kernel
theorem dX10_sold_7 : decode cX10_sold 7 = .ok (.ifnonnull 9, 3) := by decide +kernel
theorem dX10_sold_10 : decode cX10_sold 10 = .ok (.aload_n 0, 1) := by decide +kernel
theorem dX10_sold_11 : decode cX10_sold 11 = .ok (.iconst (-1), 1) := by decide +kernel
theorem dX10_sold_12 : decode cX10_sold 12 = .ok (.invokevirtual 69, 3) := by decide +kernel
theorem dX10_sold_15 : decode cX10_sold 15 = .ok (.ireturn, 1) := by decide +kernel
set_option maxRecDepth 20000 in
theorem ggX10_allot_X10_agreementAt : GoodIn wsX10_allot wsX10_agreementAt := goodIn_r _ [9, 10, 11, 167, 168, 169, 170, 171, 172, 173, 174, 175, 176, 177, 178, 179, 180, 181, 182] (by decide +kernel) (by decide +kernel)
set_option maxRecDepth 20000 in
theorem gX10_allot_X10_agreementAt : GoodIn wsX10_allot (wsV RX10 154 RX10 yX10_agreementAt wsX10_agreementAt) := goodIn_app (goodIn_of _ (by decide +kernel)) ggX10_allot_X10_agreementAt
set_option maxRecDepth 20000 in
theorem ggX10_allot_X10_refuse : GoodIn wsX10_allot wsX10_refuse := goodIn_r _ [15, 16, 167, 168, 169, 170, 171, 172, 173, 174, 175, 176, 177, 178, 179, 180, 181, 182] (by decide +kernel) (by decide +kernel)
set_option maxRecDepth 20000 in
theorem gX10_allot_X10_refuse : GoodIn wsX10_allot (wsV RX10 69 RX10 yX10_refuse wsX10_refuse) := goodIn_app (goodIn_of _ (by decide +kernel)) ggX10_allot_X10_refuse
theorem dX10_allot_0 : decode cX10_allot 0 = .ok (.aload_n 0, 1) := by decide +kernel
theorem dX10_allot_1 : decode cX10_allot 1 = .ok (.iload_n 1, 1) := by decide +kernel
theorem dX10_allot_2 : decode cX10_allot 2 = .ok (.invokevirtual 154, 3) := by decide +kernel
theorem dX10_allot_5 : decode cX10_allot 5 = .ok (.astore_n 3, 1) := by decide +kernel
theorem dX10_allot_6 : decode cX10_allot 6 = .ok (.aload_n 3, 1) := by decide +kernel
theorem dX10_allot_7 : decode cX10_allot 7 = .ok (.ifnonnull 9, 3) := by decide +kernel
theorem dX10_allot_10 : decode cX10_allot 10 = .ok (.aload_n 0, 1) := by decide +kernel
theorem dX10_allot_11 : decode cX10_allot 11 = .ok (.iconst (-1), 1) := by decide +kernel
theorem dX10_allot_12 : decode cX10_allot 12 = .ok (.invokevirtual 69, 3) := by decide +kernel
theorem dX10_allot_15 : decode cX10_allot 15 = .ok (.ireturn, 1) := by decide +kernel
set_option maxRecDepth 20000 in
theorem ggX10_fine_X10_agreementAt : GoodIn wsX10_fine wsX10_agreementAt := goodIn_r _ [14, 15, 16, 49, 50, 51, 52, 53, 54, 55, 56, 57, 58, 59, 60, 61, 62, 63, 64] (by decide +kernel) (by decide +kernel)
set_option maxRecDepth 20000 in
theorem gX10_fine_X10_agreementAt : GoodIn wsX10_fine (wsV RX10 154 RX10 yX10_agreementAt wsX10_agreementAt) := goodIn_app (goodIn_of _ (by decide +kernel)) ggX10_fine_X10_agreementAt
set_option maxRecDepth 20000 in
theorem ggX10_fine_X10_refuse : GoodIn wsX10_fine wsX10_refuse := goodIn_r _ [20, 21, 49, 50, 51, 52, 53, 54, 55, 56, 57, 58, 59, 60, 61, 62, 63, 64] (by decide +kernel) (by decide +kernel)
set_option maxRecDepth 20000 in
theorem gX10_fine_X10_refuse : GoodIn wsX10_fine (wsV RX10 69 RX10 yX10_refuse wsX10_refuse) := goodIn_app (goodIn_of _ (by decide +kernel)) ggX10_fine_X10_refuse
theorem dX10_fine_0 : decode cX10_fine 0 = .ok (.aload_n 0, 1) := by decide +kernel
theorem dX10_fine_1 : decode cX10_fine 1 = .ok (.iload_n 1, 1) := by decide +kernel
theorem dX10_fine_2 : decode cX10_fine 2 = .ok (.invokevirtual 154, 3) := by decide +kernel
theorem dX10_fine_5 : decode cX10_fine 5 = .ok (.astore 5, 2) := by decide +kernel
theorem dX10_fine_7 : decode cX10_fine 7 = .ok (.aload 5, 2) := by decide +kernel
theorem dX10_fine_9 : decode cX10_fine 9 = .ok (.ifnonnull 9, 3) := by decide +kernel
theorem dX10_fine_12 : decode cX10_fine 12 = .ok (.aload_n 0, 1) := by decide +kernel
theorem dX10_fine_13 : decode cX10_fine 13 = .ok (.iconst (-1), 1) := by decide +kernel
theorem dX10_fine_14 : decode cX10_fine 14 = .ok (.invokevirtual 69, 3) := by decide +kernel
theorem dX10_fine_17 : decode cX10_fine 17 = .ok (.ireturn, 1) := by decide +kernel
set_option maxRecDepth 20000 in
theorem ggX10_read_X10_agreementAt : GoodIn wsX10_read wsX10_agreementAt := goodIn_r _ [8, 9, 10, 24, 25, 26, 27, 28, 29, 30, 31, 32, 33, 34, 35, 36, 37, 38, 39] (by decide +kernel) (by decide +kernel)
set_option maxRecDepth 20000 in
theorem gX10_read_X10_agreementAt : GoodIn wsX10_read (wsV RX10 154 RX10 yX10_agreementAt wsX10_agreementAt) := goodIn_app (goodIn_of _ (by decide +kernel)) ggX10_read_X10_agreementAt
set_option maxRecDepth 20000 in
theorem ggX10_read_X10_fineAt : GoodIn wsX10_read wsX10_fineAt := goodIn_r _ [13, 14, 15, 40, 41, 42, 43, 44, 45, 46, 47, 48, 49, 50, 51, 52, 53, 54, 55, 56, 57] (by decide +kernel) (by decide +kernel)
set_option maxRecDepth 20000 in
theorem gX10_read_X10_fineAt : GoodIn wsX10_read (va_wsS RX10 270 yX10_fineAt wsX10_fineAt) := goodIn_app (goodIn_of _ (by decide +kernel)) ggX10_read_X10_fineAt
set_option maxRecDepth 20000 in
theorem ggX10_read_X10_refuse : GoodIn wsX10_read wsX10_refuse := goodIn_r _ [19, 20, 24, 25, 26, 27, 28, 29, 30, 31, 32, 33, 34, 35, 36, 37, 38, 39] (by decide +kernel) (by decide +kernel)
set_option maxRecDepth 20000 in
theorem gX10_read_X10_refuse : GoodIn wsX10_read (wsV RX10 69 RX10 yX10_refuse wsX10_refuse) := goodIn_app (goodIn_of _ (by decide +kernel)) ggX10_read_X10_refuse
theorem dX10_read_0 : decode cX10_read 0 = .ok (.aload_n 0, 1) := by decide +kernel
theorem dX10_read_1 : decode cX10_read 1 = .ok (.iload_n 1, 1) := by decide +kernel
theorem dX10_read_2 : decode cX10_read 2 = .ok (.invokevirtual 154, 3) := by decide +kernel
theorem dX10_read_5 : decode cX10_read 5 = .ok (.iload_n 2, 1) := by decide +kernel
theorem dX10_read_6 : decode cX10_read 6 = .ok (.invokestatic 270, 3) := by decide +kernel
theorem dX10_read_9 : decode cX10_read 9 = .ok (.astore_n 3, 1) := by decide +kernel
theorem dX10_read_10 : decode cX10_read 10 = .ok (.aload_n 3, 1) := by decide +kernel
theorem dX10_read_11 : decode cX10_read 11 = .ok (.ifnonnull 9, 3) := by decide +kernel
theorem dX10_read_14 : decode cX10_read 14 = .ok (.aload_n 0, 1) := by decide +kernel
theorem dX10_read_15 : decode cX10_read 15 = .ok (.iconst (-1), 1) := by decide +kernel
theorem dX10_read_16 : decode cX10_read 16 = .ok (.invokevirtual 69, 3) := by decide +kernel
theorem dX10_read_19 : decode cX10_read 19 = .ok (.ireturn, 1) := by decide +kernel
set_option maxRecDepth 20000 in
theorem ggX10_stands_X10_agreementAt : GoodIn wsX10_stands wsX10_agreementAt := goodIn_r _ [6, 7, 8, 158, 159, 160, 161, 162, 163, 164, 165, 166, 167, 168, 169, 170, 171, 172, 173] (by decide +kernel) (by decide +kernel)
set_option maxRecDepth 20000 in
theorem gX10_stands_X10_agreementAt : GoodIn wsX10_stands (wsV RX10 154 RX10 yX10_agreementAt wsX10_agreementAt) := goodIn_app (goodIn_of _ (by decide +kernel)) ggX10_stands_X10_agreementAt
set_option maxRecDepth 20000 in
theorem ggX10_stands_X10_fineAt : GoodIn wsX10_stands wsX10_fineAt := goodIn_r _ [11, 12, 13, 174, 175, 176, 177, 178, 179, 180, 181, 182, 183, 184, 185, 186, 187, 188, 189, 190, 191] (by decide +kernel) (by decide +kernel)
set_option maxRecDepth 20000 in
theorem gX10_stands_X10_fineAt : GoodIn wsX10_stands (va_wsS RX10 270 yX10_fineAt wsX10_fineAt) := goodIn_app (goodIn_of _ (by decide +kernel)) ggX10_stands_X10_fineAt
set_option maxRecDepth 20000 in
theorem ggX10_stands_X10_refuse : GoodIn wsX10_stands wsX10_refuse := goodIn_r _ [17, 18, 158, 159, 160, 161, 162, 163, 164, 165, 166, 167, 168, 169, 170, 171, 172, 173] (by decide +kernel) (by decide +kernel)
set_option maxRecDepth 20000 in
theorem gX10_stands_X10_refuse : GoodIn wsX10_stands (wsV RX10 69 RX10 yX10_refuse wsX10_refuse) := goodIn_app (goodIn_of _ (by decide +kernel)) ggX10_stands_X10_refuse
theorem dX10_stands_0 : decode cX10_stands 0 = .ok (.aload_n 0, 1) := by decide +kernel
theorem dX10_stands_1 : decode cX10_stands 1 = .ok (.iload_n 1, 1) := by decide +kernel
theorem dX10_stands_2 : decode cX10_stands 2 = .ok (.invokevirtual 154, 3) := by decide +kernel
theorem dX10_stands_5 : decode cX10_stands 5 = .ok (.astore 4, 2) := by decide +kernel
theorem dX10_stands_7 : decode cX10_stands 7 = .ok (.aload 4, 2) := by decide +kernel
theorem dX10_stands_9 : decode cX10_stands 9 = .ok (.iload_n 2, 1) := by decide +kernel
theorem dX10_stands_10 : decode cX10_stands 10 = .ok (.invokestatic 270, 3) := by decide +kernel
theorem dX10_stands_13 : decode cX10_stands 13 = .ok (.astore 5, 2) := by decide +kernel
theorem dX10_stands_15 : decode cX10_stands 15 = .ok (.aload 4, 2) := by decide +kernel
theorem dX10_stands_17 : decode cX10_stands 17 = .ok (.ifnull 8, 3) := by decide +kernel
theorem dX10_stands_25 : decode cX10_stands 25 = .ok (.aload_n 0, 1) := by decide +kernel
theorem dX10_stands_26 : decode cX10_stands 26 = .ok (.iconst (-1), 1) := by decide +kernel
theorem dX10_stands_27 : decode cX10_stands 27 = .ok (.invokevirtual 69, 3) := by decide +kernel
theorem dX10_stands_30 : decode cX10_stands 30 = .ok (.ireturn, 1) := by decide +kernel
set_option maxRecDepth 20000 in
theorem ggX10_rations_X10_agreementAt : GoodIn wsX10_rations wsX10_agreementAt := goodIn_r _ [8, 9, 10, 43, 44, 45, 46, 47, 48, 49, 50, 51, 52, 53, 54, 55, 56, 57, 58] (by decide +kernel) (by decide +kernel)
set_option maxRecDepth 20000 in
theorem gX10_rations_X10_agreementAt : GoodIn wsX10_rations (wsV RX10 154 RX10 yX10_agreementAt wsX10_agreementAt) := goodIn_app (goodIn_of _ (by decide +kernel)) ggX10_rations_X10_agreementAt
set_option maxRecDepth 20000 in
theorem ggX10_rations_X10_refuse : GoodIn wsX10_rations wsX10_refuse := goodIn_r _ [14, 15, 43, 44, 45, 46, 47, 48, 49, 50, 51, 52, 53, 54, 55, 56, 57, 58] (by decide +kernel) (by decide +kernel)
set_option maxRecDepth 20000 in
theorem gX10_rations_X10_refuse : GoodIn wsX10_rations (wsV RX10 69 RX10 yX10_refuse wsX10_refuse) := goodIn_app (goodIn_of _ (by decide +kernel)) ggX10_rations_X10_refuse
theorem dX10_rations_0 : decode cX10_rations 0 = .ok (.aload_n 0, 1) := by decide +kernel
theorem dX10_rations_1 : decode cX10_rations 1 = .ok (.iload_n 1, 1) := by decide +kernel
theorem dX10_rations_2 : decode cX10_rations 2 = .ok (.invokevirtual 154, 3) := by decide +kernel
theorem dX10_rations_5 : decode cX10_rations 5 = .ok (.astore 4, 2) := by decide +kernel
theorem dX10_rations_7 : decode cX10_rations 7 = .ok (.aload 4, 2) := by decide +kernel
theorem dX10_rations_9 : decode cX10_rations 9 = .ok (.ifnonnull 9, 3) := by decide +kernel
theorem dX10_rations_12 : decode cX10_rations 12 = .ok (.aload_n 0, 1) := by decide +kernel
theorem dX10_rations_13 : decode cX10_rations 13 = .ok (.iconst (-1), 1) := by decide +kernel
theorem dX10_rations_14 : decode cX10_rations 14 = .ok (.invokevirtual 69, 3) := by decide +kernel
theorem dX10_rations_17 : decode cX10_rations 17 = .ok (.ireturn, 1) := by decide +kernel
set_option maxRecDepth 20000 in
theorem ggX10_owed_X10_agreementAt : GoodIn wsX10_owed wsX10_agreementAt := goodIn_r _ [6, 7, 8, 194, 195, 196, 197, 198, 199, 200, 201, 202, 203, 204, 205, 206, 207, 208, 209] (by decide +kernel) (by decide +kernel)
set_option maxRecDepth 20000 in
theorem gX10_owed_X10_agreementAt : GoodIn wsX10_owed (wsV RX10 154 RX10 yX10_agreementAt wsX10_agreementAt) := goodIn_app (goodIn_of _ (by decide +kernel)) ggX10_owed_X10_agreementAt
set_option maxRecDepth 20000 in
theorem ggX10_owed_X10_refuse : GoodIn wsX10_owed wsX10_refuse := goodIn_r _ [12, 13, 194, 195, 196, 197, 198, 199, 200, 201, 202, 203, 204, 205, 206, 207, 208, 209] (by decide +kernel) (by decide +kernel)
set_option maxRecDepth 20000 in
theorem gX10_owed_X10_refuse : GoodIn wsX10_owed (wsV RX10 69 RX10 yX10_refuse wsX10_refuse) := goodIn_app (goodIn_of _ (by decide +kernel)) ggX10_owed_X10_refuse
theorem dX10_owed_0 : decode cX10_owed 0 = .ok (.aload_n 0, 1) := by decide +kernel
theorem dX10_owed_1 : decode cX10_owed 1 = .ok (.iload_n 1, 1) := by decide +kernel
theorem dX10_owed_2 : decode cX10_owed 2 = .ok (.invokevirtual 154, 3) := by decide +kernel
theorem dX10_owed_5 : decode cX10_owed 5 = .ok (.astore 4, 2) := by decide +kernel
theorem dX10_owed_7 : decode cX10_owed 7 = .ok (.aload 4, 2) := by decide +kernel
theorem dX10_owed_9 : decode cX10_owed 9 = .ok (.ifnonnull 13, 3) := by decide +kernel
theorem dX10_owed_12 : decode cX10_owed 12 = .ok (.ldc_w 294, 3) := by decide +kernel
theorem dX10_owed_15 : decode cX10_owed 15 = .ok (.aload_n 0, 1) := by decide +kernel
theorem dX10_owed_16 : decode cX10_owed 16 = .ok (.iconst (-1), 1) := by decide +kernel
theorem dX10_owed_17 : decode cX10_owed 17 = .ok (.invokevirtual 69, 3) := by decide +kernel
theorem dX10_owed_20 : decode cX10_owed 20 = .ok (.isub, 1) := by decide +kernel
theorem dX10_owed_21 : decode cX10_owed 21 = .ok (.ireturn, 1) := by decide +kernel
set_option maxRecDepth 20000 in
theorem ggX10_agreementOf_X10_agreementAt : GoodIn wsX10_agreementOf wsX10_agreementAt := goodIn_r _ [17, 18, 19, 69, 70, 71, 72, 73, 74, 75, 76, 77, 78, 79, 80, 81, 82, 83, 84] (by decide +kernel) (by decide +kernel)
set_option maxRecDepth 20000 in
theorem gX10_agreementOf_X10_agreementAt : GoodIn wsX10_agreementOf (wsV RX10 154 RX10 yX10_agreementAt wsX10_agreementAt) := goodIn_app (goodIn_of _ (by decide +kernel)) ggX10_agreementOf_X10_agreementAt
set_option maxRecDepth 20000 in
theorem ggX10_agreementOf_X10_refuse : GoodIn wsX10_agreementOf wsX10_refuse := goodIn_r _ [23, 24, 69, 70, 71, 72, 73, 74, 75, 76, 77, 78, 79, 80, 81, 82, 83, 84] (by decide +kernel) (by decide +kernel)
set_option maxRecDepth 20000 in
theorem gX10_agreementOf_X10_refuse : GoodIn wsX10_agreementOf (wsV RX10 69 RX10 yX10_refuse wsX10_refuse) := goodIn_app (goodIn_of _ (by decide +kernel)) ggX10_agreementOf_X10_refuse
theorem dX10_agreementOf_0 : decode cX10_agreementOf 0 = .ok (.aload_n 0, 1) := by decide +kernel
theorem dX10_agreementOf_1 : decode cX10_agreementOf 1 = .ok (.iload_n 1, 1) := by decide +kernel
theorem dX10_agreementOf_2 : decode cX10_agreementOf 2 = .ok (.invokevirtual 154, 3) := by decide +kernel
theorem dX10_agreementOf_5 : decode cX10_agreementOf 5 = .ok (.astore_n 3, 1) := by decide +kernel
theorem dX10_agreementOf_6 : decode cX10_agreementOf 6 = .ok (.aload_n 3, 1) := by decide +kernel
theorem dX10_agreementOf_7 : decode cX10_agreementOf 7 = .ok (.ifnonnull 9, 3) := by decide +kernel
theorem dX10_agreementOf_10 : decode cX10_agreementOf 10 = .ok (.aload_n 0, 1) := by decide +kernel
theorem dX10_agreementOf_11 : decode cX10_agreementOf 11 = .ok (.iconst (-1), 1) := by decide +kernel
theorem dX10_agreementOf_12 : decode cX10_agreementOf 12 = .ok (.invokevirtual 69, 3) := by decide +kernel
theorem dX10_agreementOf_15 : decode cX10_agreementOf 15 = .ok (.ireturn, 1) := by decide +kernel
set_option maxRecDepth 20000 in
theorem ggX10_aboard_X10_voyageAt : GoodIn wsX10_aboard wsX10_voyageAt := goodIn_r _ [5, 6, 7, 80, 81, 82, 83, 84, 85, 86, 87, 88, 89, 90, 91, 92, 93, 94, 95] (by decide +kernel) (by decide +kernel)
set_option maxRecDepth 20000 in
theorem gX10_aboard_X10_voyageAt : GoodIn wsX10_aboard (wsV RX10 103 RX10 yX10_voyageAt wsX10_voyageAt) := goodIn_app (goodIn_of _ (by decide +kernel)) ggX10_aboard_X10_voyageAt
set_option maxRecDepth 20000 in
theorem ggX10_aboard_X10_refuse : GoodIn wsX10_aboard wsX10_refuse := goodIn_r _ [11, 12, 80, 81, 82, 83, 84, 85, 86, 87, 88, 89, 90, 91, 92, 93, 94, 95] (by decide +kernel) (by decide +kernel)
set_option maxRecDepth 20000 in
theorem gX10_aboard_X10_refuse : GoodIn wsX10_aboard (wsV RX10 69 RX10 yX10_refuse wsX10_refuse) := goodIn_app (goodIn_of _ (by decide +kernel)) ggX10_aboard_X10_refuse
theorem dX10_aboard_0 : decode cX10_aboard 0 = .ok (.aload_n 0, 1) := by decide +kernel
theorem dX10_aboard_1 : decode cX10_aboard 1 = .ok (.iload_n 1, 1) := by decide +kernel
theorem dX10_aboard_2 : decode cX10_aboard 2 = .ok (.invokevirtual 103, 3) := by decide +kernel
theorem dX10_aboard_5 : decode cX10_aboard 5 = .ok (.astore 4, 2) := by decide +kernel
theorem dX10_aboard_7 : decode cX10_aboard 7 = .ok (.aload 4, 2) := by decide +kernel
theorem dX10_aboard_9 : decode cX10_aboard 9 = .ok (.ifnonnull 9, 3) := by decide +kernel
theorem dX10_aboard_12 : decode cX10_aboard 12 = .ok (.aload_n 0, 1) := by decide +kernel
theorem dX10_aboard_13 : decode cX10_aboard 13 = .ok (.iconst (-1), 1) := by decide +kernel
theorem dX10_aboard_14 : decode cX10_aboard 14 = .ok (.invokevirtual 69, 3) := by decide +kernel
theorem dX10_aboard_17 : decode cX10_aboard 17 = .ok (.ireturn, 1) := by decide +kernel
set_option maxRecDepth 20000 in
theorem ggX10_group_X10_manAt : GoodIn wsX10_group wsX10_manAt := goodIn_r _ [6, 7, 8, 20, 21, 22, 23, 24, 25, 26, 27, 28, 29, 30, 31, 32, 33, 34, 35] (by decide +kernel) (by decide +kernel)
set_option maxRecDepth 20000 in
theorem gX10_group_X10_manAt : GoodIn wsX10_group (wsV RX10 205 RX10 yX10_manAt wsX10_manAt) := goodIn_app (goodIn_of _ (by decide +kernel)) ggX10_group_X10_manAt
set_option maxRecDepth 20000 in
theorem ggX10_group_X10_refuse : GoodIn wsX10_group wsX10_refuse := goodIn_r _ [12, 13, 20, 21, 22, 23, 24, 25, 26, 27, 28, 29, 30, 31, 32, 33, 34, 35] (by decide +kernel) (by decide +kernel)
set_option maxRecDepth 20000 in
theorem gX10_group_X10_refuse : GoodIn wsX10_group (wsV RX10 69 RX10 yX10_refuse wsX10_refuse) := goodIn_app (goodIn_of _ (by decide +kernel)) ggX10_group_X10_refuse
theorem dX10_group_0 : decode cX10_group 0 = .ok (.aload_n 0, 1) := by decide +kernel
theorem dX10_group_1 : decode cX10_group 1 = .ok (.iload_n 1, 1) := by decide +kernel
theorem dX10_group_2 : decode cX10_group 2 = .ok (.invokevirtual 205, 3) := by decide +kernel
theorem dX10_group_5 : decode cX10_group 5 = .ok (.astore_n 2, 1) := by decide +kernel
theorem dX10_group_6 : decode cX10_group 6 = .ok (.aload_n 2, 1) := by decide +kernel
theorem dX10_group_7 : decode cX10_group 7 = .ok (.ifnonnull 11, 3) := by decide +kernel
theorem dX10_group_10 : decode cX10_group 10 = .ok (.aload_n 0, 1) := by decide +kernel
theorem dX10_group_11 : decode cX10_group 11 = .ok (.iconst (-1), 1) := by decide +kernel
theorem dX10_group_12 : decode cX10_group 12 = .ok (.invokevirtual 69, 3) := by decide +kernel
theorem dX10_group_15 : decode cX10_group 15 = .ok (.goto 7, 3) := by decide +kernel
theorem dX10_group_22 : decode cX10_group 22 = .ok (.ireturn, 1) := by decide +kernel
set_option maxRecDepth 20000 in
theorem ggX10_borrowed_X10_agreementAt : GoodIn wsX10_borrowed wsX10_agreementAt := goodIn_r _ [8, 9, 10, 52, 53, 54, 55, 56, 57, 58, 59, 60, 61, 62, 63, 64, 65, 66, 67] (by decide +kernel) (by decide +kernel)
set_option maxRecDepth 20000 in
theorem gX10_borrowed_X10_agreementAt : GoodIn wsX10_borrowed (wsV RX10 154 RX10 yX10_agreementAt wsX10_agreementAt) := goodIn_app (goodIn_of _ (by decide +kernel)) ggX10_borrowed_X10_agreementAt
set_option maxRecDepth 20000 in
theorem ggX10_borrowed_X10_refuse : GoodIn wsX10_borrowed wsX10_refuse := goodIn_r _ [14, 15, 52, 53, 54, 55, 56, 57, 58, 59, 60, 61, 62, 63, 64, 65, 66, 67] (by decide +kernel) (by decide +kernel)
set_option maxRecDepth 20000 in
theorem gX10_borrowed_X10_refuse : GoodIn wsX10_borrowed (wsV RX10 69 RX10 yX10_refuse wsX10_refuse) := goodIn_app (goodIn_of _ (by decide +kernel)) ggX10_borrowed_X10_refuse
theorem dX10_borrowed_0 : decode cX10_borrowed 0 = .ok (.aload_n 0, 1) := by decide +kernel
theorem dX10_borrowed_1 : decode cX10_borrowed 1 = .ok (.iload_n 1, 1) := by decide +kernel
theorem dX10_borrowed_2 : decode cX10_borrowed 2 = .ok (.invokevirtual 154, 3) := by decide +kernel
theorem dX10_borrowed_5 : decode cX10_borrowed 5 = .ok (.astore_n 2, 1) := by decide +kernel
theorem dX10_borrowed_6 : decode cX10_borrowed 6 = .ok (.aload_n 2, 1) := by decide +kernel
theorem dX10_borrowed_7 : decode cX10_borrowed 7 = .ok (.ifnonnull 9, 3) := by decide +kernel
theorem dX10_borrowed_10 : decode cX10_borrowed 10 = .ok (.aload_n 0, 1) := by decide +kernel
theorem dX10_borrowed_11 : decode cX10_borrowed 11 = .ok (.iconst (-1), 1) := by decide +kernel
theorem dX10_borrowed_12 : decode cX10_borrowed 12 = .ok (.invokevirtual 69, 3) := by decide +kernel
theorem dX10_borrowed_15 : decode cX10_borrowed 15 = .ok (.ireturn, 1) := by decide +kernel
set_option maxRecDepth 20000 in
theorem ggX10_home_X10_manAt : GoodIn wsX10_home wsX10_manAt := goodIn_r _ [15, 16, 17, 97, 98, 99, 100, 101, 102, 103, 104, 105, 106, 107, 108, 109, 110, 111, 112] (by decide +kernel) (by decide +kernel)
set_option maxRecDepth 20000 in
theorem gX10_home_X10_manAt : GoodIn wsX10_home (wsV RX10 205 RX10 yX10_manAt wsX10_manAt) := goodIn_app (goodIn_of _ (by decide +kernel)) ggX10_home_X10_manAt
set_option maxRecDepth 20000 in
theorem ggX10_home_X10_refuse : GoodIn wsX10_home wsX10_refuse := goodIn_r _ [21, 22, 97, 98, 99, 100, 101, 102, 103, 104, 105, 106, 107, 108, 109, 110, 111, 112] (by decide +kernel) (by decide +kernel)
set_option maxRecDepth 20000 in
theorem gX10_home_X10_refuse : GoodIn wsX10_home (wsV RX10 69 RX10 yX10_refuse wsX10_refuse) := goodIn_app (goodIn_of _ (by decide +kernel)) ggX10_home_X10_refuse
theorem dX10_home_0 : decode cX10_home 0 = .ok (.aload_n 0, 1) := by decide +kernel
theorem dX10_home_1 : decode cX10_home 1 = .ok (.iload_n 1, 1) := by decide +kernel
theorem dX10_home_2 : decode cX10_home 2 = .ok (.invokevirtual 205, 3) := by decide +kernel
theorem dX10_home_5 : decode cX10_home 5 = .ok (.astore_n 2, 1) := by decide +kernel
theorem dX10_home_6 : decode cX10_home 6 = .ok (.aload_n 2, 1) := by decide +kernel
theorem dX10_home_7 : decode cX10_home 7 = .ok (.ifnonnull 9, 3) := by decide +kernel
theorem dX10_home_10 : decode cX10_home 10 = .ok (.aload_n 0, 1) := by decide +kernel
theorem dX10_home_11 : decode cX10_home 11 = .ok (.iconst (-1), 1) := by decide +kernel
theorem dX10_home_12 : decode cX10_home 12 = .ok (.invokevirtual 69, 3) := by decide +kernel
theorem dX10_home_15 : decode cX10_home 15 = .ok (.ireturn, 1) := by decide +kernel
set_option maxRecDepth 20000 in
theorem ggX10_ask_X10_manAt : GoodIn wsX10_ask wsX10_manAt := goodIn_r _ [6, 7, 8, 20, 21, 22, 23, 24, 25, 26, 27, 28, 29, 30, 31, 32, 33, 34, 35] (by decide +kernel) (by decide +kernel)
set_option maxRecDepth 20000 in
theorem gX10_ask_X10_manAt : GoodIn wsX10_ask (wsV RX10 205 RX10 yX10_manAt wsX10_manAt) := goodIn_app (goodIn_of _ (by decide +kernel)) ggX10_ask_X10_manAt
set_option maxRecDepth 20000 in
theorem ggX10_ask_X10_refuse : GoodIn wsX10_ask wsX10_refuse := goodIn_r _ [12, 13, 20, 21, 22, 23, 24, 25, 26, 27, 28, 29, 30, 31, 32, 33, 34, 35] (by decide +kernel) (by decide +kernel)
set_option maxRecDepth 20000 in
theorem gX10_ask_X10_refuse : GoodIn wsX10_ask (wsV RX10 69 RX10 yX10_refuse wsX10_refuse) := goodIn_app (goodIn_of _ (by decide +kernel)) ggX10_ask_X10_refuse
theorem dX10_ask_0 : decode cX10_ask 0 = .ok (.aload_n 0, 1) := by decide +kernel
theorem dX10_ask_1 : decode cX10_ask 1 = .ok (.iload_n 1, 1) := by decide +kernel
theorem dX10_ask_2 : decode cX10_ask 2 = .ok (.invokevirtual 205, 3) := by decide +kernel
theorem dX10_ask_5 : decode cX10_ask 5 = .ok (.astore 4, 2) := by decide +kernel
theorem dX10_ask_7 : decode cX10_ask 7 = .ok (.aload 4, 2) := by decide +kernel
theorem dX10_ask_9 : decode cX10_ask 9 = .ok (.ifnonnull 9, 3) := by decide +kernel
theorem dX10_ask_12 : decode cX10_ask 12 = .ok (.aload_n 0, 1) := by decide +kernel
theorem dX10_ask_13 : decode cX10_ask 13 = .ok (.iconst (-1), 1) := by decide +kernel
theorem dX10_ask_14 : decode cX10_ask 14 = .ok (.invokevirtual 69, 3) := by decide +kernel
theorem dX10_ask_17 : decode cX10_ask 17 = .ok (.ireturn, 1) := by decide +kernel
set_option maxRecDepth 20000 in
theorem ggX10_check_X10_voyageAt : GoodIn wsX10_check wsX10_voyageAt := goodIn_r _ [10, 11, 12, 197, 198, 199, 200, 201, 202, 203, 204, 205, 206, 207, 208, 209, 210, 211, 212] (by decide +kernel) (by decide +kernel)
set_option maxRecDepth 20000 in
theorem gX10_check_X10_voyageAt : GoodIn wsX10_check (wsV RX10 103 RX10 yX10_voyageAt wsX10_voyageAt) := goodIn_app (goodIn_of _ (by decide +kernel)) ggX10_check_X10_voyageAt
set_option maxRecDepth 20000 in
theorem ggX10_check_X10_refuse : GoodIn wsX10_check wsX10_refuse := goodIn_r _ [16, 17, 197, 198, 199, 200, 201, 202, 203, 204, 205, 206, 207, 208, 209, 210, 211, 212] (by decide +kernel) (by decide +kernel)
set_option maxRecDepth 20000 in
theorem gX10_check_X10_refuse : GoodIn wsX10_check (wsV RX10 69 RX10 yX10_refuse wsX10_refuse) := goodIn_app (goodIn_of _ (by decide +kernel)) ggX10_check_X10_refuse
theorem dX10_check_0 : decode cX10_check 0 = .ok (.aload_n 0, 1) := by decide +kernel
theorem dX10_check_1 : decode cX10_check 1 = .ok (.iload_n 1, 1) := by decide +kernel
theorem dX10_check_2 : decode cX10_check 2 = .ok (.invokevirtual 103, 3) := by decide +kernel
theorem dX10_check_5 : decode cX10_check 5 = .ok (.astore 4, 2) := by decide +kernel
theorem dX10_check_7 : decode cX10_check 7 = .ok (.aload 4, 2) := by decide +kernel
theorem dX10_check_9 : decode cX10_check 9 = .ok (.ifnonnull 9, 3) := by decide +kernel
theorem dX10_check_12 : decode cX10_check 12 = .ok (.aload_n 0, 1) := by decide +kernel
theorem dX10_check_13 : decode cX10_check 13 = .ok (.iconst (-1), 1) := by decide +kernel
theorem dX10_check_14 : decode cX10_check 14 = .ok (.invokevirtual 69, 3) := by decide +kernel
theorem dX10_check_17 : decode cX10_check 17 = .ok (.ireturn, 1) := by decide +kernel
theorem dX10_refuse_0 : decode cX10_refuse 0 = .ok (.aload_n 0, 1) := by decide +kernel
theorem dX10_refuse_1 : decode cX10_refuse 1 = .ok (.getfield 66, 3) := by decide +kernel
theorem dX10_refuse_4 : decode cX10_refuse 4 = .ok (.iload_n 1, 1) := by decide +kernel
theorem dX10_refuse_5 : decode cX10_refuse 5 = .ok (.ineg, 1) := by decide +kernel
theorem dX10_refuse_6 : decode cX10_refuse 6 = .ok (.dup2, 1) := by decide +kernel
theorem dX10_refuse_7 : decode cX10_refuse 7 = .ok (.iaload, 1) := by decide +kernel
theorem dX10_refuse_8 : decode cX10_refuse 8 = .ok (.iconst 1, 1) := by decide +kernel
theorem dX10_refuse_9 : decode cX10_refuse 9 = .ok (.iadd, 1) := by decide +kernel
theorem dX10_refuse_10 : decode cX10_refuse 10 = .ok (.iastore, 1) := by decide +kernel
theorem dX10_refuse_11 : decode cX10_refuse 11 = .ok (.iload_n 1, 1) := by decide +kernel
theorem dX10_refuse_12 : decode cX10_refuse 12 = .ok (.ireturn, 1) := by decide +kernel
theorem dX10_manAt_0 : decode cX10_manAt 0 = .ok (.iload_n 1, 1) := by decide +kernel
theorem dX10_manAt_1 : decode cX10_manAt 1 = .ok (.ifCond .lt 11, 3) := by decide +kernel
theorem dX10_manAt_4 : decode cX10_manAt 4 = .ok (.iload_n 1, 1) := by decide +kernel
theorem dX10_manAt_5 : decode cX10_manAt 5 = .ok (.aload_n 0, 1) := by decide +kernel
theorem dX10_manAt_6 : decode cX10_manAt 6 = .ok (.getfield 86, 3) := by decide +kernel
theorem dX10_manAt_9 : decode cX10_manAt 9 = .ok (.if_icmp .lt 7, 3) := by decide +kernel
theorem dX10_manAt_12 : decode cX10_manAt 12 = .ok (.aconst_null, 1) := by decide +kernel
theorem dX10_manAt_13 : decode cX10_manAt 13 = .ok (.goto 9, 3) := by decide +kernel
theorem dX10_manAt_22 : decode cX10_manAt 22 = .ok (.areturn, 1) := by decide +kernel
theorem dX10_voyageAt_0 : decode cX10_voyageAt 0 = .ok (.iload_n 1, 1) := by decide +kernel
theorem dX10_voyageAt_1 : decode cX10_voyageAt 1 = .ok (.ifCond .lt 11, 3) := by decide +kernel
theorem dX10_voyageAt_4 : decode cX10_voyageAt 4 = .ok (.iload_n 1, 1) := by decide +kernel
theorem dX10_voyageAt_5 : decode cX10_voyageAt 5 = .ok (.aload_n 0, 1) := by decide +kernel
theorem dX10_voyageAt_6 : decode cX10_voyageAt 6 = .ok (.getfield 99, 3) := by decide +kernel
theorem dX10_voyageAt_9 : decode cX10_voyageAt 9 = .ok (.if_icmp .lt 7, 3) := by decide +kernel
theorem dX10_voyageAt_12 : decode cX10_voyageAt 12 = .ok (.aconst_null, 1) := by decide +kernel
theorem dX10_voyageAt_13 : decode cX10_voyageAt 13 = .ok (.goto 9, 3) := by decide +kernel
theorem dX10_voyageAt_22 : decode cX10_voyageAt 22 = .ok (.areturn, 1) := by decide +kernel
theorem dX10_agreementAt_0 : decode cX10_agreementAt 0 = .ok (.iload_n 1, 1) := by decide +kernel
theorem dX10_agreementAt_1 : decode cX10_agreementAt 1 = .ok (.ifCond .lt 11, 3) := by decide +kernel
theorem dX10_agreementAt_4 : decode cX10_agreementAt 4 = .ok (.iload_n 1, 1) := by decide +kernel
theorem dX10_agreementAt_5 : decode cX10_agreementAt 5 = .ok (.aload_n 0, 1) := by decide +kernel
theorem dX10_agreementAt_6 : decode cX10_agreementAt 6 = .ok (.getfield 115, 3) := by decide +kernel
theorem dX10_agreementAt_9 : decode cX10_agreementAt 9 = .ok (.if_icmp .lt 7, 3) := by decide +kernel
theorem dX10_agreementAt_12 : decode cX10_agreementAt 12 = .ok (.aconst_null, 1) := by decide +kernel
theorem dX10_agreementAt_13 : decode cX10_agreementAt 13 = .ok (.goto 9, 3) := by decide +kernel
theorem dX10_agreementAt_22 : decode cX10_agreementAt 22 = .ok (.areturn, 1) := by decide +kernel
theorem dX10_fineAt_0 : decode cX10_fineAt 0 = .ok (.aload_n 0, 1) := by decide +kernel
theorem dX10_fineAt_1 : decode cX10_fineAt 1 = .ok (.ifnull 15, 3) := by decide +kernel
theorem dX10_fineAt_16 : decode cX10_fineAt 16 = .ok (.aconst_null, 1) := by decide +kernel
theorem dX10_fineAt_17 : decode cX10_fineAt 17 = .ok (.goto 9, 3) := by decide +kernel
theorem dX10_fineAt_26 : decode cX10_fineAt 26 = .ok (.areturn, 1) := by decide +kernel
theorem in_wsX10_refuse_X10 : ∀ w ∈ wsX100, w ∈ wsX10_refuse := fun w h => List.mem_cons_of_mem _ (List.mem_append_right _ h)
theorem in_wsX10_agreementAt_X10 : ∀ w ∈ wsX100, w ∈ wsX10_agreementAt := fun w h => List.mem_cons_of_mem _ (List.mem_append_right _ h)
theorem in_wsX10_manAt_X10 : ∀ w ∈ wsX100, w ∈ wsX10_manAt := fun w h => List.mem_cons_of_mem _ (List.mem_append_right _ h)
theorem in_wsX10_voyageAt_X10 : ∀ w ∈ wsX100, w ∈ wsX10_voyageAt := fun w h => List.mem_cons_of_mem _ (List.mem_append_right _ h)
set_option maxHeartbeats 4000000 in
set_option maxRecDepth 100000 in
/-- refuse(c): the answer is c -/
theorem c_X10_refuse (l : Launch) (dC : Nat → ClassId) (dI : Nat → Nat → Nat) (sz : Nat) (h0 : Nat) (q : Nat → Nat) (cq : Nat → ClassId) (co : Int32) (hc : vp_in (-co) 7) : Met l yX10_refuse wsX10_refuse ({ frames := 0, cells := 0, slots := 0, locals := 0 }) (va_Pc [.ref h0, .int co] (pcW (dC, dI) [((cq 15), .int)] [(h0, .inr (10, oF q)), ((q 15), .inl ((cq 15), 7, .inl (fun _ => 0)))] sz)) (va_Qi (fun (r : Int32) (u : Unit) => r = co) (fun _ _ => True) (va_A [(h0, .inr (10, oF q)), ((q 15), .inl ((cq 15), 7, .inl (fun _ => 0)))] sz)) 0 0 (va_A [(h0, .inr (10, oF q)), ((q 15), .inl ((cq 15), 7, .inl (fun _ => 0)))] sz) := by
  refine Met.ofW (cc := cX10_refuse) (maxL := 2) (ret := (some .int)) (by decide) rfl ?_
  intro p e s m args below meth c s₁ B hml hv
  obtain ⟨rfl, hsz, hP, hK, hD0⟩ := hv
  have hx := B.exec
  have hb := B.bytes
  have hr := B.returns
  have hts := atoms_spec (ws := wsX10_refuse) B.pre
  have hown : s.vm.findClass RX10 = some m.cls := findClass_of_methodNamed B.named
  have hlocks := B.notSynchronized
  subst hsz
  have hD := hD0.self (sz := s.heap.size)
  generalize hAe : va_A [(h0, .inr (10, oF q)), ((q 15), .inl ((cq 15), 7, .inl (fun _ => 0)))] s.heap.size = A at hD ⊢
  have hA : ∀ q : Nat, s.heap.size ≤ q → A q := fun q h => by rw [← hAe]; exact Or.inr h
  have hS : va_S A s.heap s.heap [] := va_S.rf
  have hP : va_P (dC, dI) vwCl [(h0, .inr (10, oF q)), ((q 15), .inl ((cq 15), 7, .inl (fun _ => 0)))] s.heap := hP
  have hl := lv_entry ([.ref h0, .int co]) (n := 2) (Nat.le_of_ble_eq_true rfl)
  rw [lg_entry_eq]
  generalize (lg_sl ([.ref h0, .int co]) ++ List.replicate (2 - (lg_sl ([.ref h0, .int co])).length) Slot.unset).toArray = ls at hl ⊢
  have hl : lv_has ls 2 [(0, .ref h0), (1, .int co)] := hl
  refine lv_aload_n hx hb dX10_refuse_0 rfl (lv_at hl 0 rfl) ?_
  refine va_get (D := (dC, dI)) (ci := 10) (v := .ref (q 15)) (C := RX10) (T := TX10) (N := 16) hx hb hts in_wsX10_refuse_X10 hown hK hP 0 rfl rfl 15 (by decide) (hts (.fieldLink RX10 66 "ShipOffice" "refusals" "[I") (by decide +kernel)) (fun _ h9 => h9) rfl dX10_refuse_1 ?_
  refine lv_iload_n hx hb dX10_refuse_4 rfl (lv_at hl 1 rfl) ?_
  refine lv_ineg hx hb dX10_refuse_5 ?_
  refine lv_dup2_11 hx hb dX10_refuse_6 rfl rfl ?_
  refine va_iald hx hb hK hP 1 0 rfl rfl hc dX10_refuse_7 ?_
  refine W.eq (g2 := F0 m 8 ls [.int 0, .int (-co), .ref (q 15)]) rfl ?_
  refine lv_iconst (v := 1) hx hb dX10_refuse_8 (by decide) ?_
  refine lv_iadd hx hb dX10_refuse_9 ?_
  refine lv_topi (fun y ey => ?_)
  obtain rfl : y = 1 := ey.trans (by decide)
  refine va_iast hx hb hK hP hD hS 1 0 rfl rfl hc dX10_refuse_10 (fun H locs hP hD hS => ?_)
  have hP : va_P (dC, dI) vwCl [(h0, .inr (10, oF q)), ((q 15), .inl ((cq 15), 7, .inl (upd (fun _ => 0) (-co : Int32).toNatClampNeg 1)))] H := hP
  have hD : va_D A [(h0, .inr (10, oF q)), ((q 15), .inl ((cq 15), 7, .inl (upd (fun _ => 0) (-co : Int32).toNatClampNeg 1)))] := hD
  refine lv_iload_n hx hb dX10_refuse_11 rfl (lv_at hl 1 rfl) ?_
  exact W.iret (v := co) hx hb hr (fun t ht hW => ⟨⟨co, (), rfl, rfl, trivial⟩, hS.F ht⟩) hS.2.2 dX10_refuse_12
set_option maxHeartbeats 4000000 in
set_option maxRecDepth 100000 in
/-- none is there yet -/
theorem c_X10_agreementAt (l : Launch) (dC : Nat → ClassId) (dI : Nat → Nat → Nat) (sz : Nat) (h0 : Nat) (q : Nat → Nat) (cq : Nat → ClassId) (n : Int32) : Met l yX10_agreementAt wsX10_agreementAt ({ frames := 0, cells := 0, slots := 0, locals := 0 }) (va_Pc [.ref h0, .int n] (pcW (dC, dI) [] [(h0, .inr (10, oF q))] sz)) (va_Qq (fun (r : Option Nat) (u : Unit) => r = none) (fun _ _ => True) (va_A [] sz)) 0 0 (va_A [] sz) := by
  refine Met.ofW (cc := cX10_agreementAt) (maxL := 2) (ret := (some (.object "ShipOffice$Agreement"))) (by decide) rfl ?_
  intro p e s m args below meth c s₁ B hml hv
  obtain ⟨rfl, hsz, hP, hK, hD0⟩ := hv
  have hx := B.exec
  have hb := B.bytes
  have hr := B.returns
  have hts := atoms_spec (ws := wsX10_agreementAt) B.pre
  have hown : s.vm.findClass RX10 = some m.cls := findClass_of_methodNamed B.named
  have hlocks := B.notSynchronized
  subst hsz
  have hD := hD0
  generalize hAe : va_A [] s.heap.size = A at ⊢
  have hA : ∀ q : Nat, s.heap.size ≤ q → A q := fun q h => by rw [← hAe]; exact Or.inr h
  have hS : va_S A s.heap s.heap [] := va_S.rf
  have hP : va_P (dC, dI) vwCl [(h0, .inr (10, oF q))] s.heap := hP
  have hl := lv_entry ([.ref h0, .int n]) (n := 2) (Nat.le_of_ble_eq_true rfl)
  rw [lg_entry_eq]
  generalize (lg_sl ([.ref h0, .int n]) ++ List.replicate (2 - (lg_sl ([.ref h0, .int n])).length) Slot.unset).toArray = ls at hl ⊢
  have hl : lv_has ls 2 [(0, .ref h0), (1, .int n)] := hl
  refine lv_iload_n hx hb dX10_agreementAt_0 rfl (lv_at hl 1 rfl) ?_
  refine lv_if_lt (tgt := 12) hx hb dX10_agreementAt_1 (by decide) (fun c_1 => ?_) (fun c_1 => ?_)
  · refine lv_null hx hb dX10_agreementAt_12 ?_
    refine lv_goto (tgt := 22) hx hb dX10_agreementAt_13 (by decide) ?_
    exact W.aret (v := .null) hx hb hr (Or.inl ⟨_, rfl⟩) (Or.inl rfl) (fun t ht hW => ⟨⟨none, (), rfl, rfl, trivial⟩, hS.F ht⟩) hS.2.2 dX10_agreementAt_22
  · refine lv_iload_n hx hb dX10_agreementAt_4 rfl (lv_at hl 1 rfl) ?_
    refine lv_aload_n hx hb dX10_agreementAt_5 rfl (lv_at hl 0 rfl) ?_
    refine va_get (D := (dC, dI)) (ci := 10) (v := .int 0) (C := RX10) (T := TX10) (N := 16) hx hb hts in_wsX10_agreementAt_X10 hown hK hP 0 rfl rfl 6 (by decide) (hts (.fieldLink RX10 115 "ShipOffice" "agreementCount" "I") (by decide +kernel)) (fun _ h9 => h9) rfl dX10_agreementAt_6 ?_
    refine lv_icmp_lt (tgt := 16) hx hb dX10_agreementAt_9 (by decide) (fun c_2 => absurd c_2 c_1) (fun c_2 => ?_)
    refine lv_null hx hb dX10_agreementAt_12 ?_
    refine lv_goto (tgt := 22) hx hb dX10_agreementAt_13 (by decide) ?_
    exact W.aret (v := .null) hx hb hr (Or.inl ⟨_, rfl⟩) (Or.inl rfl) (fun t ht hW => ⟨⟨none, (), rfl, rfl, trivial⟩, hS.F ht⟩) hS.2.2 dX10_agreementAt_22
set_option maxHeartbeats 4000000 in
set_option maxRecDepth 100000 in
/-- none is there yet -/
theorem c_X10_manAt (l : Launch) (dC : Nat → ClassId) (dI : Nat → Nat → Nat) (sz : Nat) (h0 : Nat) (q : Nat → Nat) (cq : Nat → ClassId) (n : Int32) : Met l yX10_manAt wsX10_manAt ({ frames := 0, cells := 0, slots := 0, locals := 0 }) (va_Pc [.ref h0, .int n] (pcW (dC, dI) [] [(h0, .inr (10, oF q))] sz)) (va_Qq (fun (r : Option Nat) (u : Unit) => r = none) (fun _ _ => True) (va_A [] sz)) 0 0 (va_A [] sz) := by
  refine Met.ofW (cc := cX10_manAt) (maxL := 2) (ret := (some (.object "ShipOffice$Man"))) (by decide) rfl ?_
  intro p e s m args below meth c s₁ B hml hv
  obtain ⟨rfl, hsz, hP, hK, hD0⟩ := hv
  have hx := B.exec
  have hb := B.bytes
  have hr := B.returns
  have hts := atoms_spec (ws := wsX10_manAt) B.pre
  have hown : s.vm.findClass RX10 = some m.cls := findClass_of_methodNamed B.named
  have hlocks := B.notSynchronized
  subst hsz
  have hD := hD0
  generalize hAe : va_A [] s.heap.size = A at ⊢
  have hA : ∀ q : Nat, s.heap.size ≤ q → A q := fun q h => by rw [← hAe]; exact Or.inr h
  have hS : va_S A s.heap s.heap [] := va_S.rf
  have hP : va_P (dC, dI) vwCl [(h0, .inr (10, oF q))] s.heap := hP
  have hl := lv_entry ([.ref h0, .int n]) (n := 2) (Nat.le_of_ble_eq_true rfl)
  rw [lg_entry_eq]
  generalize (lg_sl ([.ref h0, .int n]) ++ List.replicate (2 - (lg_sl ([.ref h0, .int n])).length) Slot.unset).toArray = ls at hl ⊢
  have hl : lv_has ls 2 [(0, .ref h0), (1, .int n)] := hl
  refine lv_iload_n hx hb dX10_manAt_0 rfl (lv_at hl 1 rfl) ?_
  refine lv_if_lt (tgt := 12) hx hb dX10_manAt_1 (by decide) (fun c_1 => ?_) (fun c_1 => ?_)
  · refine lv_null hx hb dX10_manAt_12 ?_
    refine lv_goto (tgt := 22) hx hb dX10_manAt_13 (by decide) ?_
    exact W.aret (v := .null) hx hb hr (Or.inl ⟨_, rfl⟩) (Or.inl rfl) (fun t ht hW => ⟨⟨none, (), rfl, rfl, trivial⟩, hS.F ht⟩) hS.2.2 dX10_manAt_22
  · refine lv_iload_n hx hb dX10_manAt_4 rfl (lv_at hl 1 rfl) ?_
    refine lv_aload_n hx hb dX10_manAt_5 rfl (lv_at hl 0 rfl) ?_
    refine va_get (D := (dC, dI)) (ci := 10) (v := .int 0) (C := RX10) (T := TX10) (N := 16) hx hb hts in_wsX10_manAt_X10 hown hK hP 0 rfl rfl 2 (by decide) (hts (.fieldLink RX10 86 "ShipOffice" "manCount" "I") (by decide +kernel)) (fun _ h9 => h9) rfl dX10_manAt_6 ?_
    refine lv_icmp_lt (tgt := 16) hx hb dX10_manAt_9 (by decide) (fun c_2 => absurd c_2 c_1) (fun c_2 => ?_)
    refine lv_null hx hb dX10_manAt_12 ?_
    refine lv_goto (tgt := 22) hx hb dX10_manAt_13 (by decide) ?_
    exact W.aret (v := .null) hx hb hr (Or.inl ⟨_, rfl⟩) (Or.inl rfl) (fun t ht hW => ⟨⟨none, (), rfl, rfl, trivial⟩, hS.F ht⟩) hS.2.2 dX10_manAt_22
set_option maxHeartbeats 4000000 in
set_option maxRecDepth 100000 in
/-- none is there yet -/
theorem c_X10_voyageAt (l : Launch) (dC : Nat → ClassId) (dI : Nat → Nat → Nat) (sz : Nat) (h0 : Nat) (q : Nat → Nat) (cq : Nat → ClassId) (n : Int32) : Met l yX10_voyageAt wsX10_voyageAt ({ frames := 0, cells := 0, slots := 0, locals := 0 }) (va_Pc [.ref h0, .int n] (pcW (dC, dI) [] [(h0, .inr (10, oF q))] sz)) (va_Qq (fun (r : Option Nat) (u : Unit) => r = none) (fun _ _ => True) (va_A [] sz)) 0 0 (va_A [] sz) := by
  refine Met.ofW (cc := cX10_voyageAt) (maxL := 2) (ret := (some (.object "ShipOffice$Voyage"))) (by decide) rfl ?_
  intro p e s m args below meth c s₁ B hml hv
  obtain ⟨rfl, hsz, hP, hK, hD0⟩ := hv
  have hx := B.exec
  have hb := B.bytes
  have hr := B.returns
  have hts := atoms_spec (ws := wsX10_voyageAt) B.pre
  have hown : s.vm.findClass RX10 = some m.cls := findClass_of_methodNamed B.named
  have hlocks := B.notSynchronized
  subst hsz
  have hD := hD0
  generalize hAe : va_A [] s.heap.size = A at ⊢
  have hA : ∀ q : Nat, s.heap.size ≤ q → A q := fun q h => by rw [← hAe]; exact Or.inr h
  have hS : va_S A s.heap s.heap [] := va_S.rf
  have hP : va_P (dC, dI) vwCl [(h0, .inr (10, oF q))] s.heap := hP
  have hl := lv_entry ([.ref h0, .int n]) (n := 2) (Nat.le_of_ble_eq_true rfl)
  rw [lg_entry_eq]
  generalize (lg_sl ([.ref h0, .int n]) ++ List.replicate (2 - (lg_sl ([.ref h0, .int n])).length) Slot.unset).toArray = ls at hl ⊢
  have hl : lv_has ls 2 [(0, .ref h0), (1, .int n)] := hl
  refine lv_iload_n hx hb dX10_voyageAt_0 rfl (lv_at hl 1 rfl) ?_
  refine lv_if_lt (tgt := 12) hx hb dX10_voyageAt_1 (by decide) (fun c_1 => ?_) (fun c_1 => ?_)
  · refine lv_null hx hb dX10_voyageAt_12 ?_
    refine lv_goto (tgt := 22) hx hb dX10_voyageAt_13 (by decide) ?_
    exact W.aret (v := .null) hx hb hr (Or.inl ⟨_, rfl⟩) (Or.inl rfl) (fun t ht hW => ⟨⟨none, (), rfl, rfl, trivial⟩, hS.F ht⟩) hS.2.2 dX10_voyageAt_22
  · refine lv_iload_n hx hb dX10_voyageAt_4 rfl (lv_at hl 1 rfl) ?_
    refine lv_aload_n hx hb dX10_voyageAt_5 rfl (lv_at hl 0 rfl) ?_
    refine va_get (D := (dC, dI)) (ci := 10) (v := .int 0) (C := RX10) (T := TX10) (N := 16) hx hb hts in_wsX10_voyageAt_X10 hown hK hP 0 rfl rfl 4 (by decide) (hts (.fieldLink RX10 99 "ShipOffice" "voyageCount" "I") (by decide +kernel)) (fun _ h9 => h9) rfl dX10_voyageAt_6 ?_
    refine lv_icmp_lt (tgt := 16) hx hb dX10_voyageAt_9 (by decide) (fun c_2 => absurd c_2 c_1) (fun c_2 => ?_)
    refine lv_null hx hb dX10_voyageAt_12 ?_
    refine lv_goto (tgt := 22) hx hb dX10_voyageAt_13 (by decide) ?_
    exact W.aret (v := .null) hx hb hr (Or.inl ⟨_, rfl⟩) (Or.inl rfl) (fun t ht hW => ⟨⟨none, (), rfl, rfl, trivial⟩, hS.F ht⟩) hS.2.2 dX10_voyageAt_22
set_option maxHeartbeats 4000000 in
set_option maxRecDepth 100000 in
theorem c_X10_fineAt (l : Launch) (dC : Nat → ClassId) (dI : Nat → Nat → Nat) (sz : Nat) (n : Int32) : Met l yX10_fineAt wsX10_fineAt ({ frames := 0, cells := 0, slots := 0, locals := 0 }) (va_Pc [.null, .int n] (pcW (dC, dI) [] [] sz)) (va_Qq (fun (r : Option Nat) (u : Unit) => r = none) (fun _ _ => True) (va_A [] sz)) 0 0 (va_A [] sz) := by
  refine Met.ofW (cc := cX10_fineAt) (maxL := 2) (ret := (some (.object "ShipOffice$Fine"))) (by decide) rfl ?_
  intro p e s m args below meth c s₁ B hml hv
  obtain ⟨rfl, hsz, hP, hK, hD0⟩ := hv
  have hx := B.exec
  have hb := B.bytes
  have hr := B.returns
  have hts := atoms_spec (ws := wsX10_fineAt) B.pre
  have hown : s.vm.findClass RX10 = some m.cls := findClass_of_methodNamed B.named
  have hlocks := B.notSynchronized
  subst hsz
  have hD := hD0
  generalize hAe : va_A [] s.heap.size = A at ⊢
  have hA : ∀ q : Nat, s.heap.size ≤ q → A q := fun q h => by rw [← hAe]; exact Or.inr h
  have hS : va_S A s.heap s.heap [] := va_S.rf
  have hP : va_P (dC, dI) vwCl [] s.heap := hP
  have hl := lv_entry ([.null, .int n]) (n := 2) (Nat.le_of_ble_eq_true rfl)
  rw [lg_entry_eq]
  generalize (lg_sl ([.null, .int n]) ++ List.replicate (2 - (lg_sl ([.null, .int n])).length) Slot.unset).toArray = ls at hl ⊢
  have hl : lv_has ls 2 [(0, .null), (1, .int n)] := hl
  refine lv_aload_nN hx hb dX10_fineAt_0 rfl (lv_at hl 0 rfl) ?_
  refine lv_ifnullN (tgt := 16) hx hb dX10_fineAt_1 (by decide) ?_
  refine lv_null hx hb dX10_fineAt_16 ?_
  refine lv_goto (tgt := 26) hx hb dX10_fineAt_17 (by decide) ?_
  exact W.aret (v := .null) hx hb hr (Or.inl ⟨_, rfl⟩) (Or.inl rfl) (fun t ht hW => ⟨⟨none, (), rfl, rfl, trivial⟩, hS.F ht⟩) hS.2.2 dX10_fineAt_26
set_option maxHeartbeats 4000000 in
set_option maxRecDepth 100000 in
theorem c_X10_ended (l : Launch) (dC : Nat → ClassId) (dI : Nat → Nat → Nat) (sz : Nat) (h0 : Nat) (q : Nat → Nat) (cq : Nat → ClassId) (a1 : Int32) (a2 : Int32) : Met l yX10_ended wsX10_ended ({ frames := 1, cells := 0, slots := 0, locals := 21 }) (va_Pc [.ref h0, .int a1, .int a2] (pcW (dC, dI) [((cq 15), .int)] [(h0, .inr (10, oF q)), ((q 15), .inl ((cq 15), 7, .inl (fun _ => 0)))] sz)) (va_Qi (fun (r : Int32) (u : Unit) => r = (-1)) (fun _ _ => True) (va_A [(h0, .inr (10, oF q)), ((q 15), .inl ((cq 15), 7, .inl (fun _ => 0)))] sz)) 0 0 (va_A [(h0, .inr (10, oF q)), ((q 15), .inl ((cq 15), 7, .inl (fun _ => 0)))] sz) := by
  refine Met.ofW (cc := cX10_ended) (maxL := 7) (ret := (some .int)) (by decide) rfl ?_
  intro p e s m args below meth c s₁ B hml hv
  obtain ⟨rfl, hsz, hP, hK, hD0⟩ := hv
  have hx := B.exec
  have hb := B.bytes
  have hr := B.returns
  have hts := atoms_spec (ws := wsX10_ended) B.pre
  have hown : s.vm.findClass RX10 = some m.cls := findClass_of_methodNamed B.named
  have hlocks := B.notSynchronized
  subst hsz
  have hD := hD0.self (sz := s.heap.size)
  generalize hAe : va_A [(h0, .inr (10, oF q)), ((q 15), .inl ((cq 15), 7, .inl (fun _ => 0)))] s.heap.size = A at hD ⊢
  have hA : ∀ q : Nat, s.heap.size ≤ q → A q := fun q h => by rw [← hAe]; exact Or.inr h
  have hS : va_S A s.heap s.heap [] := va_S.rf
  have hP : va_P (dC, dI) vwCl [(h0, .inr (10, oF q)), ((q 15), .inl ((cq 15), 7, .inl (fun _ => 0)))] s.heap := hP
  have hl := lv_entry ([.ref h0, .int a1, .int a2]) (n := 7) (Nat.le_of_ble_eq_true rfl)
  rw [lg_entry_eq]
  generalize (lg_sl ([.ref h0, .int a1, .int a2]) ++ List.replicate (7 - (lg_sl ([.ref h0, .int a1, .int a2])).length) Slot.unset).toArray = ls at hl ⊢
  have hl : lv_has ls 7 [(0, .ref h0), (1, .int a1), (2, .int a2)] := hl
  refine lv_aload_n hx hb dX10_ended_0 rfl (lv_at hl 0 rfl) ?_
  refine lv_iload_n hx hb dX10_ended_1 rfl (lv_at hl 1 rfl) ?_
  have hPc := hP.sub (ws' := [(h0, .inr (10, oF q))]) [0] rfl
  have hDc := hD.sub (ws' := [(h0, .inr (10, oF q))]) [0] (by decide) rfl
  have hKc := hK.sub (tys' := []) [] rfl
  have hFc : ∀ q, va_A [] s.heap.size q → A q := pu_free hS hA
  refine va_callq (va_runV (As := [.int a1]) (rest := []) ⟨hx, hb, hml, hown, hts⟩ (c_X10_voyageAt l dC dI s.heap.size h0 q cq a1) (cwV 1 hts gX10_ended_X10_voyageAt rfl rfl rfl (by decide +kernel) ⟨(Nat.le_of_ble_eq_true rfl), (Nat.le_of_ble_eq_true rfl)⟩) (pr_V (r := (RX10, TX10, 16)) hPc hKc hDc 0 10 rfl rfl) rfl rfl hl.1 rfl (lv_room (Nat.le_of_ble_eq_true rfl)) dX10_ended_2 ⟨(Nat.le_of_ble_eq_true rfl), (Nat.le_of_ble_eq_true rfl)⟩) hS (fun q _ h => hFc q h) hFc (fun r_2 u t H locs ht hvm w_1 hB hz1 hk1 hS => ?_)
  have hP := pu_keep hP hk1
  clear hk1 hz1 hvm hB hPc hDc hKc hFc ht
  subst w_1
  refine W.eq (g2 := F0 m 5 ls [.null]) rfl ?_
  refine lv_astore_nN (lv' := [(3, .null), (0, .ref h0), (1, .int a1), (2, .int a2)]) hx hb dX10_ended_5 rfl hl (by decide) rfl (fun ls hl => ?_)
  refine lv_aload_nN hx hb dX10_ended_6 rfl (lv_at hl 0 rfl) ?_
  refine lv_ifnullN (tgt := 17) hx hb dX10_ended_7 (by decide) ?_
  refine lv_aload_n hx hb dX10_ended_17 rfl (lv_at hl 1 rfl) ?_
  refine lv_iconst (v := (-1)) hx hb dX10_ended_18 (by decide) ?_
  have hPc := hP.sub (ws' := [(h0, .inr (10, oF q)), ((q 15), .inl ((cq 15), 7, .inl (fun _ => 0)))]) [0, 1] rfl
  have hDc := hD.sub (ws' := [(h0, .inr (10, oF q)), ((q 15), .inl ((cq 15), 7, .inl (fun _ => 0)))]) [0, 1] (by decide) rfl
  have hKc := hK.sub (tys' := [((cq 15), .int)]) [0] rfl
  have hFc := va_free (wc := [(h0, .inr (10, oF q)), ((q 15), .inl ((cq 15), 7, .inl (fun _ => 0)))]) hD hS hA [0, 1] rfl
  refine va_calli (va_runV (As := [.int (-1)]) (rest := []) ⟨hx, hb, hml, hown, hts⟩ (c_X10_refuse l dC dI H.size h0 q cq (-1) (by unfold vp_in; decide)) (cwV 1 hts gX10_ended_X10_refuse rfl rfl rfl (by decide +kernel) ⟨(Nat.le_of_ble_eq_true rfl), (Nat.le_of_ble_eq_true rfl)⟩) (pr_V (r := (RX10, TX10, 16)) hPc hKc hDc 0 10 rfl rfl) rfl rfl hl.1 rfl (lv_room (Nat.le_of_ble_eq_true rfl)) dX10_ended_19 ⟨(Nat.le_of_ble_eq_true rfl), (Nat.le_of_ble_eq_true rfl)⟩) hS (fun q _ h => hFc q h) hFc (fun r_4 u t H locs ht hvm w_3 hB hz1 hk1 hS => ?_)
  subst w_3
  exact W.iret (v := (-1)) hx hb hr (fun t ht hW => ⟨⟨(-1), (), rfl, rfl, trivial⟩, hS.F ht⟩) hS.2.2 dX10_ended_22
set_option maxHeartbeats 4000000 in
set_option maxRecDepth 100000 in
theorem c_X10_sailed (l : Launch) (dC : Nat → ClassId) (dI : Nat → Nat → Nat) (sz : Nat) (h0 : Nat) (q : Nat → Nat) (cq : Nat → ClassId) (a1 : Int32) (a2 : Int32) : Met l yX10_sailed wsX10_sailed ({ frames := 1, cells := 0, slots := 0, locals := 21 }) (va_Pc [.ref h0, .int a1, .int a2] (pcW (dC, dI) [((cq 15), .int)] [(h0, .inr (10, oF q)), ((q 15), .inl ((cq 15), 7, .inl (fun _ => 0)))] sz)) (va_Qi (fun (r : Int32) (u : Unit) => r = (-1)) (fun _ _ => True) (va_A [(h0, .inr (10, oF q)), ((q 15), .inl ((cq 15), 7, .inl (fun _ => 0)))] sz)) 0 0 (va_A [(h0, .inr (10, oF q)), ((q 15), .inl ((cq 15), 7, .inl (fun _ => 0)))] sz) := by
  refine Met.ofW (cc := cX10_sailed) (maxL := 5) (ret := (some .int)) (by decide) rfl ?_
  intro p e s m args below meth c s₁ B hml hv
  obtain ⟨rfl, hsz, hP, hK, hD0⟩ := hv
  have hx := B.exec
  have hb := B.bytes
  have hr := B.returns
  have hts := atoms_spec (ws := wsX10_sailed) B.pre
  have hown : s.vm.findClass RX10 = some m.cls := findClass_of_methodNamed B.named
  have hlocks := B.notSynchronized
  subst hsz
  have hD := hD0.self (sz := s.heap.size)
  generalize hAe : va_A [(h0, .inr (10, oF q)), ((q 15), .inl ((cq 15), 7, .inl (fun _ => 0)))] s.heap.size = A at hD ⊢
  have hA : ∀ q : Nat, s.heap.size ≤ q → A q := fun q h => by rw [← hAe]; exact Or.inr h
  have hS : va_S A s.heap s.heap [] := va_S.rf
  have hP : va_P (dC, dI) vwCl [(h0, .inr (10, oF q)), ((q 15), .inl ((cq 15), 7, .inl (fun _ => 0)))] s.heap := hP
  have hl := lv_entry ([.ref h0, .int a1, .int a2]) (n := 5) (Nat.le_of_ble_eq_true rfl)
  rw [lg_entry_eq]
  generalize (lg_sl ([.ref h0, .int a1, .int a2]) ++ List.replicate (5 - (lg_sl ([.ref h0, .int a1, .int a2])).length) Slot.unset).toArray = ls at hl ⊢
  have hl : lv_has ls 5 [(0, .ref h0), (1, .int a1), (2, .int a2)] := hl
  refine lv_aload_n hx hb dX10_sailed_0 rfl (lv_at hl 0 rfl) ?_
  refine lv_iload_n hx hb dX10_sailed_1 rfl (lv_at hl 1 rfl) ?_
  have hPc := hP.sub (ws' := [(h0, .inr (10, oF q))]) [0] rfl
  have hDc := hD.sub (ws' := [(h0, .inr (10, oF q))]) [0] (by decide) rfl
  have hKc := hK.sub (tys' := []) [] rfl
  have hFc : ∀ q, va_A [] s.heap.size q → A q := pu_free hS hA
  refine va_callq (va_runV (As := [.int a1]) (rest := []) ⟨hx, hb, hml, hown, hts⟩ (c_X10_voyageAt l dC dI s.heap.size h0 q cq a1) (cwV 1 hts gX10_sailed_X10_voyageAt rfl rfl rfl (by decide +kernel) ⟨(Nat.le_of_ble_eq_true rfl), (Nat.le_of_ble_eq_true rfl)⟩) (pr_V (r := (RX10, TX10, 16)) hPc hKc hDc 0 10 rfl rfl) rfl rfl hl.1 rfl (lv_room (Nat.le_of_ble_eq_true rfl)) dX10_sailed_2 ⟨(Nat.le_of_ble_eq_true rfl), (Nat.le_of_ble_eq_true rfl)⟩) hS (fun q _ h => hFc q h) hFc (fun r_2 u t H locs ht hvm w_1 hB hz1 hk1 hS => ?_)
  have hP := pu_keep hP hk1
  clear hk1 hz1 hvm hB hPc hDc hKc hFc ht
  subst w_1
  refine W.eq (g2 := F0 m 5 ls [.null]) rfl ?_
  refine lv_astore_nN (lv' := [(3, .null), (0, .ref h0), (1, .int a1), (2, .int a2)]) hx hb dX10_sailed_5 rfl hl (by decide) rfl (fun ls hl => ?_)
  refine lv_aload_nN hx hb dX10_sailed_6 rfl (lv_at hl 0 rfl) ?_
  refine lv_ifnonnullN hx hb dX10_sailed_7 ?_
  refine lv_aload_n hx hb dX10_sailed_10 rfl (lv_at hl 1 rfl) ?_
  refine lv_iconst (v := (-1)) hx hb dX10_sailed_11 (by decide) ?_
  have hPc := hP.sub (ws' := [(h0, .inr (10, oF q)), ((q 15), .inl ((cq 15), 7, .inl (fun _ => 0)))]) [0, 1] rfl
  have hDc := hD.sub (ws' := [(h0, .inr (10, oF q)), ((q 15), .inl ((cq 15), 7, .inl (fun _ => 0)))]) [0, 1] (by decide) rfl
  have hKc := hK.sub (tys' := [((cq 15), .int)]) [0] rfl
  have hFc := va_free (wc := [(h0, .inr (10, oF q)), ((q 15), .inl ((cq 15), 7, .inl (fun _ => 0)))]) hD hS hA [0, 1] rfl
  refine va_calli (va_runV (As := [.int (-1)]) (rest := []) ⟨hx, hb, hml, hown, hts⟩ (c_X10_refuse l dC dI H.size h0 q cq (-1) (by unfold vp_in; decide)) (cwV 1 hts gX10_sailed_X10_refuse rfl rfl rfl (by decide +kernel) ⟨(Nat.le_of_ble_eq_true rfl), (Nat.le_of_ble_eq_true rfl)⟩) (pr_V (r := (RX10, TX10, 16)) hPc hKc hDc 0 10 rfl rfl) rfl rfl hl.1 rfl (lv_room (Nat.le_of_ble_eq_true rfl)) dX10_sailed_12 ⟨(Nat.le_of_ble_eq_true rfl), (Nat.le_of_ble_eq_true rfl)⟩) hS (fun q _ h => hFc q h) hFc (fun r_4 u t H locs ht hvm w_3 hB hz1 hk1 hS => ?_)
  subst w_3
  exact W.iret (v := (-1)) hx hb hr (fun t ht hW => ⟨⟨(-1), (), rfl, rfl, trivial⟩, hS.F ht⟩) hS.2.2 dX10_sailed_15
set_option maxHeartbeats 4000000 in
set_option maxRecDepth 100000 in
theorem c_X10_heard (l : Launch) (dC : Nat → ClassId) (dI : Nat → Nat → Nat) (sz : Nat) (h0 : Nat) (q : Nat → Nat) (cq : Nat → ClassId) (a1 : Int32) (a2 : Int32) : Met l yX10_heard wsX10_heard ({ frames := 1, cells := 0, slots := 0, locals := 21 }) (va_Pc [.ref h0, .int a1, .int a2] (pcW (dC, dI) [((cq 15), .int)] [(h0, .inr (10, oF q)), ((q 15), .inl ((cq 15), 7, .inl (fun _ => 0)))] sz)) (va_Qi (fun (r : Int32) (u : Unit) => r = (-1)) (fun _ _ => True) (va_A [(h0, .inr (10, oF q)), ((q 15), .inl ((cq 15), 7, .inl (fun _ => 0)))] sz)) 0 0 (va_A [(h0, .inr (10, oF q)), ((q 15), .inl ((cq 15), 7, .inl (fun _ => 0)))] sz) := by
  refine Met.ofW (cc := cX10_heard) (maxL := 5) (ret := (some .int)) (by decide) rfl ?_
  intro p e s m args below meth c s₁ B hml hv
  obtain ⟨rfl, hsz, hP, hK, hD0⟩ := hv
  have hx := B.exec
  have hb := B.bytes
  have hr := B.returns
  have hts := atoms_spec (ws := wsX10_heard) B.pre
  have hown : s.vm.findClass RX10 = some m.cls := findClass_of_methodNamed B.named
  have hlocks := B.notSynchronized
  subst hsz
  have hD := hD0.self (sz := s.heap.size)
  generalize hAe : va_A [(h0, .inr (10, oF q)), ((q 15), .inl ((cq 15), 7, .inl (fun _ => 0)))] s.heap.size = A at hD ⊢
  have hA : ∀ q : Nat, s.heap.size ≤ q → A q := fun q h => by rw [← hAe]; exact Or.inr h
  have hS : va_S A s.heap s.heap [] := va_S.rf
  have hP : va_P (dC, dI) vwCl [(h0, .inr (10, oF q)), ((q 15), .inl ((cq 15), 7, .inl (fun _ => 0)))] s.heap := hP
  have hl := lv_entry ([.ref h0, .int a1, .int a2]) (n := 5) (Nat.le_of_ble_eq_true rfl)
  rw [lg_entry_eq]
  generalize (lg_sl ([.ref h0, .int a1, .int a2]) ++ List.replicate (5 - (lg_sl ([.ref h0, .int a1, .int a2])).length) Slot.unset).toArray = ls at hl ⊢
  have hl : lv_has ls 5 [(0, .ref h0), (1, .int a1), (2, .int a2)] := hl
  refine lv_aload_n hx hb dX10_heard_0 rfl (lv_at hl 0 rfl) ?_
  refine lv_iload_n hx hb dX10_heard_1 rfl (lv_at hl 1 rfl) ?_
  have hPc := hP.sub (ws' := [(h0, .inr (10, oF q))]) [0] rfl
  have hDc := hD.sub (ws' := [(h0, .inr (10, oF q))]) [0] (by decide) rfl
  have hKc := hK.sub (tys' := []) [] rfl
  have hFc : ∀ q, va_A [] s.heap.size q → A q := pu_free hS hA
  refine va_callq (va_runV (As := [.int a1]) (rest := []) ⟨hx, hb, hml, hown, hts⟩ (c_X10_voyageAt l dC dI s.heap.size h0 q cq a1) (cwV 1 hts gX10_heard_X10_voyageAt rfl rfl rfl (by decide +kernel) ⟨(Nat.le_of_ble_eq_true rfl), (Nat.le_of_ble_eq_true rfl)⟩) (pr_V (r := (RX10, TX10, 16)) hPc hKc hDc 0 10 rfl rfl) rfl rfl hl.1 rfl (lv_room (Nat.le_of_ble_eq_true rfl)) dX10_heard_2 ⟨(Nat.le_of_ble_eq_true rfl), (Nat.le_of_ble_eq_true rfl)⟩) hS (fun q _ h => hFc q h) hFc (fun r_2 u t H locs ht hvm w_1 hB hz1 hk1 hS => ?_)
  have hP := pu_keep hP hk1
  clear hk1 hz1 hvm hB hPc hDc hKc hFc ht
  subst w_1
  refine W.eq (g2 := F0 m 5 ls [.null]) rfl ?_
  refine lv_astore_nN (lv' := [(3, .null), (0, .ref h0), (1, .int a1), (2, .int a2)]) hx hb dX10_heard_5 rfl hl (by decide) rfl (fun ls hl => ?_)
  refine lv_aload_nN hx hb dX10_heard_6 rfl (lv_at hl 0 rfl) ?_
  refine lv_ifnonnullN hx hb dX10_heard_7 ?_
  refine lv_aload_n hx hb dX10_heard_10 rfl (lv_at hl 1 rfl) ?_
  refine lv_iconst (v := (-1)) hx hb dX10_heard_11 (by decide) ?_
  have hPc := hP.sub (ws' := [(h0, .inr (10, oF q)), ((q 15), .inl ((cq 15), 7, .inl (fun _ => 0)))]) [0, 1] rfl
  have hDc := hD.sub (ws' := [(h0, .inr (10, oF q)), ((q 15), .inl ((cq 15), 7, .inl (fun _ => 0)))]) [0, 1] (by decide) rfl
  have hKc := hK.sub (tys' := [((cq 15), .int)]) [0] rfl
  have hFc := va_free (wc := [(h0, .inr (10, oF q)), ((q 15), .inl ((cq 15), 7, .inl (fun _ => 0)))]) hD hS hA [0, 1] rfl
  refine va_calli (va_runV (As := [.int (-1)]) (rest := []) ⟨hx, hb, hml, hown, hts⟩ (c_X10_refuse l dC dI H.size h0 q cq (-1) (by unfold vp_in; decide)) (cwV 1 hts gX10_heard_X10_refuse rfl rfl rfl (by decide +kernel) ⟨(Nat.le_of_ble_eq_true rfl), (Nat.le_of_ble_eq_true rfl)⟩) (pr_V (r := (RX10, TX10, 16)) hPc hKc hDc 0 10 rfl rfl) rfl rfl hl.1 rfl (lv_room (Nat.le_of_ble_eq_true rfl)) dX10_heard_12 ⟨(Nat.le_of_ble_eq_true rfl), (Nat.le_of_ble_eq_true rfl)⟩) hS (fun q _ h => hFc q h) hFc (fun r_4 u t H locs ht hvm w_3 hB hz1 hk1 hS => ?_)
  subst w_3
  exact W.iret (v := (-1)) hx hb hr (fun t ht hW => ⟨⟨(-1), (), rfl, rfl, trivial⟩, hS.F ht⟩) hS.2.2 dX10_heard_15
set_option maxHeartbeats 4000000 in
set_option maxRecDepth 100000 in
theorem c_X10_lost (l : Launch) (dC : Nat → ClassId) (dI : Nat → Nat → Nat) (sz : Nat) (h0 : Nat) (q : Nat → Nat) (cq : Nat → ClassId) (a1 : Int32) (a2 : Int32) : Met l yX10_lost wsX10_lost ({ frames := 1, cells := 0, slots := 0, locals := 21 }) (va_Pc [.ref h0, .int a1, .int a2] (pcW (dC, dI) [((cq 15), .int)] [(h0, .inr (10, oF q)), ((q 15), .inl ((cq 15), 7, .inl (fun _ => 0)))] sz)) (va_Qi (fun (r : Int32) (u : Unit) => r = (-1)) (fun _ _ => True) (va_A [(h0, .inr (10, oF q)), ((q 15), .inl ((cq 15), 7, .inl (fun _ => 0)))] sz)) 0 0 (va_A [(h0, .inr (10, oF q)), ((q 15), .inl ((cq 15), 7, .inl (fun _ => 0)))] sz) := by
  refine Met.ofW (cc := cX10_lost) (maxL := 5) (ret := (some .int)) (by decide) rfl ?_
  intro p e s m args below meth c s₁ B hml hv
  obtain ⟨rfl, hsz, hP, hK, hD0⟩ := hv
  have hx := B.exec
  have hb := B.bytes
  have hr := B.returns
  have hts := atoms_spec (ws := wsX10_lost) B.pre
  have hown : s.vm.findClass RX10 = some m.cls := findClass_of_methodNamed B.named
  have hlocks := B.notSynchronized
  subst hsz
  have hD := hD0.self (sz := s.heap.size)
  generalize hAe : va_A [(h0, .inr (10, oF q)), ((q 15), .inl ((cq 15), 7, .inl (fun _ => 0)))] s.heap.size = A at hD ⊢
  have hA : ∀ q : Nat, s.heap.size ≤ q → A q := fun q h => by rw [← hAe]; exact Or.inr h
  have hS : va_S A s.heap s.heap [] := va_S.rf
  have hP : va_P (dC, dI) vwCl [(h0, .inr (10, oF q)), ((q 15), .inl ((cq 15), 7, .inl (fun _ => 0)))] s.heap := hP
  have hl := lv_entry ([.ref h0, .int a1, .int a2]) (n := 5) (Nat.le_of_ble_eq_true rfl)
  rw [lg_entry_eq]
  generalize (lg_sl ([.ref h0, .int a1, .int a2]) ++ List.replicate (5 - (lg_sl ([.ref h0, .int a1, .int a2])).length) Slot.unset).toArray = ls at hl ⊢
  have hl : lv_has ls 5 [(0, .ref h0), (1, .int a1), (2, .int a2)] := hl
  refine lv_aload_n hx hb dX10_lost_0 rfl (lv_at hl 0 rfl) ?_
  refine lv_iload_n hx hb dX10_lost_1 rfl (lv_at hl 1 rfl) ?_
  have hPc := hP.sub (ws' := [(h0, .inr (10, oF q))]) [0] rfl
  have hDc := hD.sub (ws' := [(h0, .inr (10, oF q))]) [0] (by decide) rfl
  have hKc := hK.sub (tys' := []) [] rfl
  have hFc : ∀ q, va_A [] s.heap.size q → A q := pu_free hS hA
  refine va_callq (va_runV (As := [.int a1]) (rest := []) ⟨hx, hb, hml, hown, hts⟩ (c_X10_voyageAt l dC dI s.heap.size h0 q cq a1) (cwV 1 hts gX10_lost_X10_voyageAt rfl rfl rfl (by decide +kernel) ⟨(Nat.le_of_ble_eq_true rfl), (Nat.le_of_ble_eq_true rfl)⟩) (pr_V (r := (RX10, TX10, 16)) hPc hKc hDc 0 10 rfl rfl) rfl rfl hl.1 rfl (lv_room (Nat.le_of_ble_eq_true rfl)) dX10_lost_2 ⟨(Nat.le_of_ble_eq_true rfl), (Nat.le_of_ble_eq_true rfl)⟩) hS (fun q _ h => hFc q h) hFc (fun r_2 u t H locs ht hvm w_1 hB hz1 hk1 hS => ?_)
  have hP := pu_keep hP hk1
  clear hk1 hz1 hvm hB hPc hDc hKc hFc ht
  subst w_1
  refine W.eq (g2 := F0 m 5 ls [.null]) rfl ?_
  refine lv_astore_nN (lv' := [(3, .null), (0, .ref h0), (1, .int a1), (2, .int a2)]) hx hb dX10_lost_5 rfl hl (by decide) rfl (fun ls hl => ?_)
  refine lv_aload_nN hx hb dX10_lost_6 rfl (lv_at hl 0 rfl) ?_
  refine lv_ifnonnullN hx hb dX10_lost_7 ?_
  refine lv_aload_n hx hb dX10_lost_10 rfl (lv_at hl 1 rfl) ?_
  refine lv_iconst (v := (-1)) hx hb dX10_lost_11 (by decide) ?_
  have hPc := hP.sub (ws' := [(h0, .inr (10, oF q)), ((q 15), .inl ((cq 15), 7, .inl (fun _ => 0)))]) [0, 1] rfl
  have hDc := hD.sub (ws' := [(h0, .inr (10, oF q)), ((q 15), .inl ((cq 15), 7, .inl (fun _ => 0)))]) [0, 1] (by decide) rfl
  have hKc := hK.sub (tys' := [((cq 15), .int)]) [0] rfl
  have hFc := va_free (wc := [(h0, .inr (10, oF q)), ((q 15), .inl ((cq 15), 7, .inl (fun _ => 0)))]) hD hS hA [0, 1] rfl
  refine va_calli (va_runV (As := [.int (-1)]) (rest := []) ⟨hx, hb, hml, hown, hts⟩ (c_X10_refuse l dC dI H.size h0 q cq (-1) (by unfold vp_in; decide)) (cwV 1 hts gX10_lost_X10_refuse rfl rfl rfl (by decide +kernel) ⟨(Nat.le_of_ble_eq_true rfl), (Nat.le_of_ble_eq_true rfl)⟩) (pr_V (r := (RX10, TX10, 16)) hPc hKc hDc 0 10 rfl rfl) rfl rfl hl.1 rfl (lv_room (Nat.le_of_ble_eq_true rfl)) dX10_lost_12 ⟨(Nat.le_of_ble_eq_true rfl), (Nat.le_of_ble_eq_true rfl)⟩) hS (fun q _ h => hFc q h) hFc (fun r_4 u t H locs ht hvm w_3 hB hz1 hk1 hS => ?_)
  subst w_3
  exact W.iret (v := (-1)) hx hb hr (fun t ht hW => ⟨⟨(-1), (), rfl, rfl, trivial⟩, hS.F ht⟩) hS.2.2 dX10_lost_15
set_option maxHeartbeats 4000000 in
set_option maxRecDepth 100000 in
theorem c_X10_left (l : Launch) (dC : Nat → ClassId) (dI : Nat → Nat → Nat) (sz : Nat) (h0 : Nat) (q : Nat → Nat) (cq : Nat → ClassId) (a1 : Int32) (a2 : Int32) (a3 : Int32) (a4 : Int32) : Met l yX10_left wsX10_left ({ frames := 1, cells := 0, slots := 0, locals := 21 }) (va_Pc [.ref h0, .int a1, .int a2, .int a3, .int a4] (pcW (dC, dI) [((cq 15), .int)] [(h0, .inr (10, oF q)), ((q 15), .inl ((cq 15), 7, .inl (fun _ => 0)))] sz)) (va_Qi (fun (r : Int32) (u : Unit) => r = (-1)) (fun _ _ => True) (va_A [(h0, .inr (10, oF q)), ((q 15), .inl ((cq 15), 7, .inl (fun _ => 0)))] sz)) 0 0 (va_A [(h0, .inr (10, oF q)), ((q 15), .inl ((cq 15), 7, .inl (fun _ => 0)))] sz) := by
  refine Met.ofW (cc := cX10_left) (maxL := 7) (ret := (some .int)) (by decide) rfl ?_
  intro p e s m args below meth c s₁ B hml hv
  obtain ⟨rfl, hsz, hP, hK, hD0⟩ := hv
  have hx := B.exec
  have hb := B.bytes
  have hr := B.returns
  have hts := atoms_spec (ws := wsX10_left) B.pre
  have hown : s.vm.findClass RX10 = some m.cls := findClass_of_methodNamed B.named
  have hlocks := B.notSynchronized
  subst hsz
  have hD := hD0.self (sz := s.heap.size)
  generalize hAe : va_A [(h0, .inr (10, oF q)), ((q 15), .inl ((cq 15), 7, .inl (fun _ => 0)))] s.heap.size = A at hD ⊢
  have hA : ∀ q : Nat, s.heap.size ≤ q → A q := fun q h => by rw [← hAe]; exact Or.inr h
  have hS : va_S A s.heap s.heap [] := va_S.rf
  have hP : va_P (dC, dI) vwCl [(h0, .inr (10, oF q)), ((q 15), .inl ((cq 15), 7, .inl (fun _ => 0)))] s.heap := hP
  have hl := lv_entry ([.ref h0, .int a1, .int a2, .int a3, .int a4]) (n := 7) (Nat.le_of_ble_eq_true rfl)
  rw [lg_entry_eq]
  generalize (lg_sl ([.ref h0, .int a1, .int a2, .int a3, .int a4]) ++ List.replicate (7 - (lg_sl ([.ref h0, .int a1, .int a2, .int a3, .int a4])).length) Slot.unset).toArray = ls at hl ⊢
  have hl : lv_has ls 7 [(0, .ref h0), (1, .int a1), (2, .int a2), (3, .int a3), (4, .int a4)] := hl
  refine lv_aload_n hx hb dX10_left_0 rfl (lv_at hl 0 rfl) ?_
  refine lv_iload_n hx hb dX10_left_1 rfl (lv_at hl 1 rfl) ?_
  have hPc := hP.sub (ws' := [(h0, .inr (10, oF q))]) [0] rfl
  have hDc := hD.sub (ws' := [(h0, .inr (10, oF q))]) [0] (by decide) rfl
  have hKc := hK.sub (tys' := []) [] rfl
  have hFc : ∀ q, va_A [] s.heap.size q → A q := pu_free hS hA
  refine va_callq (va_runV (As := [.int a1]) (rest := []) ⟨hx, hb, hml, hown, hts⟩ (c_X10_agreementAt l dC dI s.heap.size h0 q cq a1) (cwV 1 hts gX10_left_X10_agreementAt rfl rfl rfl (by decide +kernel) ⟨(Nat.le_of_ble_eq_true rfl), (Nat.le_of_ble_eq_true rfl)⟩) (pr_V (r := (RX10, TX10, 16)) hPc hKc hDc 0 10 rfl rfl) rfl rfl hl.1 rfl (lv_room (Nat.le_of_ble_eq_true rfl)) dX10_left_2 ⟨(Nat.le_of_ble_eq_true rfl), (Nat.le_of_ble_eq_true rfl)⟩) hS (fun q _ h => hFc q h) hFc (fun r_2 u t H locs ht hvm w_1 hB hz1 hk1 hS => ?_)
  have hP := pu_keep hP hk1
  clear hk1 hz1 hvm hB hPc hDc hKc hFc ht
  subst w_1
  refine W.eq (g2 := F0 m 5 ls [.null]) rfl ?_
  refine lv_astoreN (lv' := [(5, .null), (0, .ref h0), (1, .int a1), (2, .int a2), (3, .int a3), (4, .int a4)]) hx hb dX10_left_5 hl (by decide) rfl (fun ls hl => ?_)
  refine lv_aloadN hx hb dX10_left_7 (lv_at hl 0 rfl) ?_
  refine lv_ifnullN (tgt := 20) hx hb dX10_left_9 (by decide) ?_
  refine lv_aload_n hx hb dX10_left_20 rfl (lv_at hl 1 rfl) ?_
  refine lv_iconst (v := (-1)) hx hb dX10_left_21 (by decide) ?_
  have hPc := hP.sub (ws' := [(h0, .inr (10, oF q)), ((q 15), .inl ((cq 15), 7, .inl (fun _ => 0)))]) [0, 1] rfl
  have hDc := hD.sub (ws' := [(h0, .inr (10, oF q)), ((q 15), .inl ((cq 15), 7, .inl (fun _ => 0)))]) [0, 1] (by decide) rfl
  have hKc := hK.sub (tys' := [((cq 15), .int)]) [0] rfl
  have hFc := va_free (wc := [(h0, .inr (10, oF q)), ((q 15), .inl ((cq 15), 7, .inl (fun _ => 0)))]) hD hS hA [0, 1] rfl
  refine va_calli (va_runV (As := [.int (-1)]) (rest := []) ⟨hx, hb, hml, hown, hts⟩ (c_X10_refuse l dC dI H.size h0 q cq (-1) (by unfold vp_in; decide)) (cwV 1 hts gX10_left_X10_refuse rfl rfl rfl (by decide +kernel) ⟨(Nat.le_of_ble_eq_true rfl), (Nat.le_of_ble_eq_true rfl)⟩) (pr_V (r := (RX10, TX10, 16)) hPc hKc hDc 0 10 rfl rfl) rfl rfl hl.1 rfl (lv_room (Nat.le_of_ble_eq_true rfl)) dX10_left_22 ⟨(Nat.le_of_ble_eq_true rfl), (Nat.le_of_ble_eq_true rfl)⟩) hS (fun q _ h => hFc q h) hFc (fun r_4 u t H locs ht hvm w_3 hB hz1 hk1 hS => ?_)
  subst w_3
  exact W.iret (v := (-1)) hx hb hr (fun t ht hW => ⟨⟨(-1), (), rfl, rfl, trivial⟩, hS.F ht⟩) hS.2.2 dX10_left_25
set_option maxHeartbeats 4000000 in
set_option maxRecDepth 100000 in
theorem c_X10_died (l : Launch) (dC : Nat → ClassId) (dI : Nat → Nat → Nat) (sz : Nat) (h0 : Nat) (q : Nat → Nat) (cq : Nat → ClassId) (a1 : Int32) (a2 : Int32) : Met l yX10_died wsX10_died ({ frames := 1, cells := 0, slots := 0, locals := 21 }) (va_Pc [.ref h0, .int a1, .int a2] (pcW (dC, dI) [((cq 15), .int)] [(h0, .inr (10, oF q)), ((q 15), .inl ((cq 15), 7, .inl (fun _ => 0)))] sz)) (va_Qi (fun (r : Int32) (u : Unit) => r = (-1)) (fun _ _ => True) (va_A [(h0, .inr (10, oF q)), ((q 15), .inl ((cq 15), 7, .inl (fun _ => 0)))] sz)) 0 0 (va_A [(h0, .inr (10, oF q)), ((q 15), .inl ((cq 15), 7, .inl (fun _ => 0)))] sz) := by
  refine Met.ofW (cc := cX10_died) (maxL := 5) (ret := (some .int)) (by decide) rfl ?_
  intro p e s m args below meth c s₁ B hml hv
  obtain ⟨rfl, hsz, hP, hK, hD0⟩ := hv
  have hx := B.exec
  have hb := B.bytes
  have hr := B.returns
  have hts := atoms_spec (ws := wsX10_died) B.pre
  have hown : s.vm.findClass RX10 = some m.cls := findClass_of_methodNamed B.named
  have hlocks := B.notSynchronized
  subst hsz
  have hD := hD0.self (sz := s.heap.size)
  generalize hAe : va_A [(h0, .inr (10, oF q)), ((q 15), .inl ((cq 15), 7, .inl (fun _ => 0)))] s.heap.size = A at hD ⊢
  have hA : ∀ q : Nat, s.heap.size ≤ q → A q := fun q h => by rw [← hAe]; exact Or.inr h
  have hS : va_S A s.heap s.heap [] := va_S.rf
  have hP : va_P (dC, dI) vwCl [(h0, .inr (10, oF q)), ((q 15), .inl ((cq 15), 7, .inl (fun _ => 0)))] s.heap := hP
  have hl := lv_entry ([.ref h0, .int a1, .int a2]) (n := 5) (Nat.le_of_ble_eq_true rfl)
  rw [lg_entry_eq]
  generalize (lg_sl ([.ref h0, .int a1, .int a2]) ++ List.replicate (5 - (lg_sl ([.ref h0, .int a1, .int a2])).length) Slot.unset).toArray = ls at hl ⊢
  have hl : lv_has ls 5 [(0, .ref h0), (1, .int a1), (2, .int a2)] := hl
  refine lv_aload_n hx hb dX10_died_0 rfl (lv_at hl 0 rfl) ?_
  refine lv_iload_n hx hb dX10_died_1 rfl (lv_at hl 1 rfl) ?_
  have hPc := hP.sub (ws' := [(h0, .inr (10, oF q))]) [0] rfl
  have hDc := hD.sub (ws' := [(h0, .inr (10, oF q))]) [0] (by decide) rfl
  have hKc := hK.sub (tys' := []) [] rfl
  have hFc : ∀ q, va_A [] s.heap.size q → A q := pu_free hS hA
  refine va_callq (va_runV (As := [.int a1]) (rest := []) ⟨hx, hb, hml, hown, hts⟩ (c_X10_agreementAt l dC dI s.heap.size h0 q cq a1) (cwV 1 hts gX10_died_X10_agreementAt rfl rfl rfl (by decide +kernel) ⟨(Nat.le_of_ble_eq_true rfl), (Nat.le_of_ble_eq_true rfl)⟩) (pr_V (r := (RX10, TX10, 16)) hPc hKc hDc 0 10 rfl rfl) rfl rfl hl.1 rfl (lv_room (Nat.le_of_ble_eq_true rfl)) dX10_died_2 ⟨(Nat.le_of_ble_eq_true rfl), (Nat.le_of_ble_eq_true rfl)⟩) hS (fun q _ h => hFc q h) hFc (fun r_2 u t H locs ht hvm w_1 hB hz1 hk1 hS => ?_)
  have hP := pu_keep hP hk1
  clear hk1 hz1 hvm hB hPc hDc hKc hFc ht
  subst w_1
  refine W.eq (g2 := F0 m 5 ls [.null]) rfl ?_
  refine lv_astore_nN (lv' := [(3, .null), (0, .ref h0), (1, .int a1), (2, .int a2)]) hx hb dX10_died_5 rfl hl (by decide) rfl (fun ls hl => ?_)
  refine lv_aload_nN hx hb dX10_died_6 rfl (lv_at hl 0 rfl) ?_
  refine lv_ifnonnullN hx hb dX10_died_7 ?_
  refine lv_aload_n hx hb dX10_died_10 rfl (lv_at hl 1 rfl) ?_
  refine lv_iconst (v := (-1)) hx hb dX10_died_11 (by decide) ?_
  have hPc := hP.sub (ws' := [(h0, .inr (10, oF q)), ((q 15), .inl ((cq 15), 7, .inl (fun _ => 0)))]) [0, 1] rfl
  have hDc := hD.sub (ws' := [(h0, .inr (10, oF q)), ((q 15), .inl ((cq 15), 7, .inl (fun _ => 0)))]) [0, 1] (by decide) rfl
  have hKc := hK.sub (tys' := [((cq 15), .int)]) [0] rfl
  have hFc := va_free (wc := [(h0, .inr (10, oF q)), ((q 15), .inl ((cq 15), 7, .inl (fun _ => 0)))]) hD hS hA [0, 1] rfl
  refine va_calli (va_runV (As := [.int (-1)]) (rest := []) ⟨hx, hb, hml, hown, hts⟩ (c_X10_refuse l dC dI H.size h0 q cq (-1) (by unfold vp_in; decide)) (cwV 1 hts gX10_died_X10_refuse rfl rfl rfl (by decide +kernel) ⟨(Nat.le_of_ble_eq_true rfl), (Nat.le_of_ble_eq_true rfl)⟩) (pr_V (r := (RX10, TX10, 16)) hPc hKc hDc 0 10 rfl rfl) rfl rfl hl.1 rfl (lv_room (Nat.le_of_ble_eq_true rfl)) dX10_died_12 ⟨(Nat.le_of_ble_eq_true rfl), (Nat.le_of_ble_eq_true rfl)⟩) hS (fun q _ h => hFc q h) hFc (fun r_4 u t H locs ht hvm w_3 hB hz1 hk1 hS => ?_)
  subst w_3
  exact W.iret (v := (-1)) hx hb hr (fun t ht hW => ⟨⟨(-1), (), rfl, rfl, trivial⟩, hS.F ht⟩) hS.2.2 dX10_died_15
set_option maxHeartbeats 4000000 in
set_option maxRecDepth 100000 in
theorem c_X10_back (l : Launch) (dC : Nat → ClassId) (dI : Nat → Nat → Nat) (sz : Nat) (h0 : Nat) (q : Nat → Nat) (cq : Nat → ClassId) (a1 : Int32) (a2 : Int32) : Met l yX10_back wsX10_back ({ frames := 1, cells := 0, slots := 0, locals := 21 }) (va_Pc [.ref h0, .int a1, .int a2] (pcW (dC, dI) [((cq 15), .int)] [(h0, .inr (10, oF q)), ((q 15), .inl ((cq 15), 7, .inl (fun _ => 0)))] sz)) (va_Qi (fun (r : Int32) (u : Unit) => r = (-1)) (fun _ _ => True) (va_A [(h0, .inr (10, oF q)), ((q 15), .inl ((cq 15), 7, .inl (fun _ => 0)))] sz)) 0 0 (va_A [(h0, .inr (10, oF q)), ((q 15), .inl ((cq 15), 7, .inl (fun _ => 0)))] sz) := by
  refine Met.ofW (cc := cX10_back) (maxL := 5) (ret := (some .int)) (by decide) rfl ?_
  intro p e s m args below meth c s₁ B hml hv
  obtain ⟨rfl, hsz, hP, hK, hD0⟩ := hv
  have hx := B.exec
  have hb := B.bytes
  have hr := B.returns
  have hts := atoms_spec (ws := wsX10_back) B.pre
  have hown : s.vm.findClass RX10 = some m.cls := findClass_of_methodNamed B.named
  have hlocks := B.notSynchronized
  subst hsz
  have hD := hD0.self (sz := s.heap.size)
  generalize hAe : va_A [(h0, .inr (10, oF q)), ((q 15), .inl ((cq 15), 7, .inl (fun _ => 0)))] s.heap.size = A at hD ⊢
  have hA : ∀ q : Nat, s.heap.size ≤ q → A q := fun q h => by rw [← hAe]; exact Or.inr h
  have hS : va_S A s.heap s.heap [] := va_S.rf
  have hP : va_P (dC, dI) vwCl [(h0, .inr (10, oF q)), ((q 15), .inl ((cq 15), 7, .inl (fun _ => 0)))] s.heap := hP
  have hl := lv_entry ([.ref h0, .int a1, .int a2]) (n := 5) (Nat.le_of_ble_eq_true rfl)
  rw [lg_entry_eq]
  generalize (lg_sl ([.ref h0, .int a1, .int a2]) ++ List.replicate (5 - (lg_sl ([.ref h0, .int a1, .int a2])).length) Slot.unset).toArray = ls at hl ⊢
  have hl : lv_has ls 5 [(0, .ref h0), (1, .int a1), (2, .int a2)] := hl
  refine lv_aload_n hx hb dX10_back_0 rfl (lv_at hl 0 rfl) ?_
  refine lv_iload_n hx hb dX10_back_1 rfl (lv_at hl 1 rfl) ?_
  have hPc := hP.sub (ws' := [(h0, .inr (10, oF q))]) [0] rfl
  have hDc := hD.sub (ws' := [(h0, .inr (10, oF q))]) [0] (by decide) rfl
  have hKc := hK.sub (tys' := []) [] rfl
  have hFc : ∀ q, va_A [] s.heap.size q → A q := pu_free hS hA
  refine va_callq (va_runV (As := [.int a1]) (rest := []) ⟨hx, hb, hml, hown, hts⟩ (c_X10_agreementAt l dC dI s.heap.size h0 q cq a1) (cwV 1 hts gX10_back_X10_agreementAt rfl rfl rfl (by decide +kernel) ⟨(Nat.le_of_ble_eq_true rfl), (Nat.le_of_ble_eq_true rfl)⟩) (pr_V (r := (RX10, TX10, 16)) hPc hKc hDc 0 10 rfl rfl) rfl rfl hl.1 rfl (lv_room (Nat.le_of_ble_eq_true rfl)) dX10_back_2 ⟨(Nat.le_of_ble_eq_true rfl), (Nat.le_of_ble_eq_true rfl)⟩) hS (fun q _ h => hFc q h) hFc (fun r_2 u t H locs ht hvm w_1 hB hz1 hk1 hS => ?_)
  have hP := pu_keep hP hk1
  clear hk1 hz1 hvm hB hPc hDc hKc hFc ht
  subst w_1
  refine W.eq (g2 := F0 m 5 ls [.null]) rfl ?_
  refine lv_astore_nN (lv' := [(3, .null), (0, .ref h0), (1, .int a1), (2, .int a2)]) hx hb dX10_back_5 rfl hl (by decide) rfl (fun ls hl => ?_)
  refine lv_aload_nN hx hb dX10_back_6 rfl (lv_at hl 0 rfl) ?_
  refine lv_ifnonnullN hx hb dX10_back_7 ?_
  refine lv_aload_n hx hb dX10_back_10 rfl (lv_at hl 1 rfl) ?_
  refine lv_iconst (v := (-1)) hx hb dX10_back_11 (by decide) ?_
  have hPc := hP.sub (ws' := [(h0, .inr (10, oF q)), ((q 15), .inl ((cq 15), 7, .inl (fun _ => 0)))]) [0, 1] rfl
  have hDc := hD.sub (ws' := [(h0, .inr (10, oF q)), ((q 15), .inl ((cq 15), 7, .inl (fun _ => 0)))]) [0, 1] (by decide) rfl
  have hKc := hK.sub (tys' := [((cq 15), .int)]) [0] rfl
  have hFc := va_free (wc := [(h0, .inr (10, oF q)), ((q 15), .inl ((cq 15), 7, .inl (fun _ => 0)))]) hD hS hA [0, 1] rfl
  refine va_calli (va_runV (As := [.int (-1)]) (rest := []) ⟨hx, hb, hml, hown, hts⟩ (c_X10_refuse l dC dI H.size h0 q cq (-1) (by unfold vp_in; decide)) (cwV 1 hts gX10_back_X10_refuse rfl rfl rfl (by decide +kernel) ⟨(Nat.le_of_ble_eq_true rfl), (Nat.le_of_ble_eq_true rfl)⟩) (pr_V (r := (RX10, TX10, 16)) hPc hKc hDc 0 10 rfl rfl) rfl rfl hl.1 rfl (lv_room (Nat.le_of_ble_eq_true rfl)) dX10_back_12 ⟨(Nat.le_of_ble_eq_true rfl), (Nat.le_of_ble_eq_true rfl)⟩) hS (fun q _ h => hFc q h) hFc (fun r_4 u t H locs ht hvm w_3 hB hz1 hk1 hS => ?_)
  subst w_3
  exact W.iret (v := (-1)) hx hb hr (fun t ht hW => ⟨⟨(-1), (), rfl, rfl, trivial⟩, hS.F ht⟩) hS.2.2 dX10_back_15
set_option maxHeartbeats 4000000 in
set_option maxRecDepth 100000 in
theorem c_X10_sign (l : Launch) (dC : Nat → ClassId) (dI : Nat → Nat → Nat) (sz : Nat) (h0 : Nat) (q : Nat → Nat) (cq : Nat → ClassId) (a1 : Int32) (a2 : Int32) (a3 : Int32) (a4 : Int32) (a5 : Int32) : Met l yX10_sign wsX10_sign ({ frames := 1, cells := 0, slots := 0, locals := 21 }) (va_Pc [.ref h0, .int a1, .int a2, .int a3, .int a4, .int a5] (pcW (dC, dI) [((cq 15), .int)] [(h0, .inr (10, oF q)), ((q 15), .inl ((cq 15), 7, .inl (fun _ => 0)))] sz)) (va_Qi (fun (r : Int32) (u : Unit) => r = (-1)) (fun _ _ => True) (va_A [(h0, .inr (10, oF q)), ((q 15), .inl ((cq 15), 7, .inl (fun _ => 0)))] sz)) 0 0 (va_A [(h0, .inr (10, oF q)), ((q 15), .inl ((cq 15), 7, .inl (fun _ => 0)))] sz) := by
  refine Met.ofW (cc := cX10_sign) (maxL := 11) (ret := (some .int)) (by decide) rfl ?_
  intro p e s m args below meth c s₁ B hml hv
  obtain ⟨rfl, hsz, hP, hK, hD0⟩ := hv
  have hx := B.exec
  have hb := B.bytes
  have hr := B.returns
  have hts := atoms_spec (ws := wsX10_sign) B.pre
  have hown : s.vm.findClass RX10 = some m.cls := findClass_of_methodNamed B.named
  have hlocks := B.notSynchronized
  subst hsz
  have hD := hD0.self (sz := s.heap.size)
  generalize hAe : va_A [(h0, .inr (10, oF q)), ((q 15), .inl ((cq 15), 7, .inl (fun _ => 0)))] s.heap.size = A at hD ⊢
  have hA : ∀ q : Nat, s.heap.size ≤ q → A q := fun q h => by rw [← hAe]; exact Or.inr h
  have hS : va_S A s.heap s.heap [] := va_S.rf
  have hP : va_P (dC, dI) vwCl [(h0, .inr (10, oF q)), ((q 15), .inl ((cq 15), 7, .inl (fun _ => 0)))] s.heap := hP
  have hl := lv_entry ([.ref h0, .int a1, .int a2, .int a3, .int a4, .int a5]) (n := 11) (Nat.le_of_ble_eq_true rfl)
  rw [lg_entry_eq]
  generalize (lg_sl ([.ref h0, .int a1, .int a2, .int a3, .int a4, .int a5]) ++ List.replicate (11 - (lg_sl ([.ref h0, .int a1, .int a2, .int a3, .int a4, .int a5])).length) Slot.unset).toArray = ls at hl ⊢
  have hl : lv_has ls 11 [(0, .ref h0), (1, .int a1), (2, .int a2), (3, .int a3), (4, .int a4), (5, .int a5)] := hl
  refine lv_aload_n hx hb dX10_sign_0 rfl (lv_at hl 0 rfl) ?_
  refine lv_iload_n hx hb dX10_sign_1 rfl (lv_at hl 1 rfl) ?_
  have hPc := hP.sub (ws' := [(h0, .inr (10, oF q))]) [0] rfl
  have hDc := hD.sub (ws' := [(h0, .inr (10, oF q))]) [0] (by decide) rfl
  have hKc := hK.sub (tys' := []) [] rfl
  have hFc : ∀ q, va_A [] s.heap.size q → A q := pu_free hS hA
  refine va_callq (va_runV (As := [.int a1]) (rest := []) ⟨hx, hb, hml, hown, hts⟩ (c_X10_manAt l dC dI s.heap.size h0 q cq a1) (cwV 1 hts gX10_sign_X10_manAt rfl rfl rfl (by decide +kernel) ⟨(Nat.le_of_ble_eq_true rfl), (Nat.le_of_ble_eq_true rfl)⟩) (pr_V (r := (RX10, TX10, 16)) hPc hKc hDc 0 10 rfl rfl) rfl rfl hl.1 rfl (lv_room (Nat.le_of_ble_eq_true rfl)) dX10_sign_2 ⟨(Nat.le_of_ble_eq_true rfl), (Nat.le_of_ble_eq_true rfl)⟩) hS (fun q _ h => hFc q h) hFc (fun r_2 u t H locs ht hvm w_1 hB hz1 hk1 hS => ?_)
  have hP := pu_keep hP hk1
  clear hk1 hz1 hvm hB hPc hDc hKc hFc ht
  subst w_1
  refine W.eq (g2 := F0 m 5 ls [.null]) rfl ?_
  refine lv_astoreN (lv' := [(6, .null), (0, .ref h0), (1, .int a1), (2, .int a2), (3, .int a3), (4, .int a4), (5, .int a5)]) hx hb dX10_sign_5 hl (by decide) rfl (fun ls hl => ?_)
  refine lv_aload_n hx hb dX10_sign_7 rfl (lv_at hl 1 rfl) ?_
  refine lv_iload_n hx hb dX10_sign_8 rfl (lv_at hl 3 rfl) ?_
  have hPc := hP.sub (ws' := [(h0, .inr (10, oF q))]) [0] rfl
  have hDc := hD.sub (ws' := [(h0, .inr (10, oF q))]) [0] (by decide) rfl
  have hKc := hK.sub (tys' := []) [] rfl
  have hFc : ∀ q, va_A [] H.size q → A q := pu_free hS hA
  refine va_callq (va_runV (As := [.int a2]) (rest := []) ⟨hx, hb, hml, hown, hts⟩ (c_X10_voyageAt l dC dI H.size h0 q cq a2) (cwV 1 hts gX10_sign_X10_voyageAt rfl rfl rfl (by decide +kernel) ⟨(Nat.le_of_ble_eq_true rfl), (Nat.le_of_ble_eq_true rfl)⟩) (pr_V (r := (RX10, TX10, 16)) hPc hKc hDc 0 10 rfl rfl) rfl rfl hl.1 rfl (lv_room (Nat.le_of_ble_eq_true rfl)) dX10_sign_9 ⟨(Nat.le_of_ble_eq_true rfl), (Nat.le_of_ble_eq_true rfl)⟩) hS (fun q _ h => hFc q h) hFc (fun r_4 u t H locs ht hvm w_3 hB hz1 hk1 hS => ?_)
  have hP := pu_keep hP hk1
  clear hk1 hz1 hvm hB hPc hDc hKc hFc ht
  subst w_3
  refine W.eq (g2 := F0 m 12 ls [.null]) rfl ?_
  refine lv_astoreN (lv' := [(7, .null), (6, .null), (0, .ref h0), (1, .int a1), (2, .int a2), (3, .int a3), (4, .int a4), (5, .int a5)]) hx hb dX10_sign_12 hl (by decide) rfl (fun ls hl => ?_)
  refine lv_aload_n hx hb dX10_sign_14 rfl (lv_at hl 2 rfl) ?_
  refine lv_iload hx hb dX10_sign_15 (lv_at hl 7 rfl) ?_
  have hPc := hP.sub (ws' := [(h0, .inr (10, oF q))]) [0] rfl
  have hDc := hD.sub (ws' := [(h0, .inr (10, oF q))]) [0] (by decide) rfl
  have hKc := hK.sub (tys' := []) [] rfl
  have hFc : ∀ q, va_A [] H.size q → A q := pu_free hS hA
  refine va_callq (va_runV (As := [.int a5]) (rest := []) ⟨hx, hb, hml, hown, hts⟩ (c_X10_agreementAt l dC dI H.size h0 q cq a5) (cwV 1 hts gX10_sign_X10_agreementAt rfl rfl rfl (by decide +kernel) ⟨(Nat.le_of_ble_eq_true rfl), (Nat.le_of_ble_eq_true rfl)⟩) (pr_V (r := (RX10, TX10, 16)) hPc hKc hDc 0 10 rfl rfl) rfl rfl hl.1 rfl (lv_room (Nat.le_of_ble_eq_true rfl)) dX10_sign_17 ⟨(Nat.le_of_ble_eq_true rfl), (Nat.le_of_ble_eq_true rfl)⟩) hS (fun q _ h => hFc q h) hFc (fun r_6 u t H locs ht hvm w_5 hB hz1 hk1 hS => ?_)
  have hP := pu_keep hP hk1
  clear hk1 hz1 hvm hB hPc hDc hKc hFc ht
  subst w_5
  refine W.eq (g2 := F0 m 20 ls [.null]) rfl ?_
  refine lv_astoreN (lv' := [(8, .null), (7, .null), (6, .null), (0, .ref h0), (1, .int a1), (2, .int a2), (3, .int a3), (4, .int a4), (5, .int a5)]) hx hb dX10_sign_20 hl (by decide) rfl (fun ls hl => ?_)
  refine lv_aloadN hx hb dX10_sign_22 (lv_at hl 2 rfl) ?_
  refine lv_ifnullN (tgt := 43) hx hb dX10_sign_24 (by decide) ?_
  refine lv_aload_n hx hb dX10_sign_43 rfl (lv_at hl 3 rfl) ?_
  refine lv_iconst (v := (-1)) hx hb dX10_sign_44 (by decide) ?_
  have hPc := hP.sub (ws' := [(h0, .inr (10, oF q)), ((q 15), .inl ((cq 15), 7, .inl (fun _ => 0)))]) [0, 1] rfl
  have hDc := hD.sub (ws' := [(h0, .inr (10, oF q)), ((q 15), .inl ((cq 15), 7, .inl (fun _ => 0)))]) [0, 1] (by decide) rfl
  have hKc := hK.sub (tys' := [((cq 15), .int)]) [0] rfl
  have hFc := va_free (wc := [(h0, .inr (10, oF q)), ((q 15), .inl ((cq 15), 7, .inl (fun _ => 0)))]) hD hS hA [0, 1] rfl
  refine va_calli (va_runV (As := [.int (-1)]) (rest := []) ⟨hx, hb, hml, hown, hts⟩ (c_X10_refuse l dC dI H.size h0 q cq (-1) (by unfold vp_in; decide)) (cwV 1 hts gX10_sign_X10_refuse rfl rfl rfl (by decide +kernel) ⟨(Nat.le_of_ble_eq_true rfl), (Nat.le_of_ble_eq_true rfl)⟩) (pr_V (r := (RX10, TX10, 16)) hPc hKc hDc 0 10 rfl rfl) rfl rfl hl.1 rfl (lv_room (Nat.le_of_ble_eq_true rfl)) dX10_sign_45 ⟨(Nat.le_of_ble_eq_true rfl), (Nat.le_of_ble_eq_true rfl)⟩) hS (fun q _ h => hFc q h) hFc (fun r_8 u t H locs ht hvm w_7 hB hz1 hk1 hS => ?_)
  subst w_7
  exact W.iret (v := (-1)) hx hb hr (fun t ht hW => ⟨⟨(-1), (), rfl, rfl, trivial⟩, hS.F ht⟩) hS.2.2 dX10_sign_48
set_option maxHeartbeats 4000000 in
set_option maxRecDepth 100000 in
theorem c_X10_off (l : Launch) (dC : Nat → ClassId) (dI : Nat → Nat → Nat) (sz : Nat) (h0 : Nat) (q : Nat → Nat) (cq : Nat → ClassId) (a1 : Int32) (a2 : Int32) : Met l yX10_off wsX10_off ({ frames := 1, cells := 0, slots := 0, locals := 21 }) (va_Pc [.ref h0, .int a1, .int a2] (pcW (dC, dI) [((cq 15), .int)] [(h0, .inr (10, oF q)), ((q 15), .inl ((cq 15), 7, .inl (fun _ => 0)))] sz)) (va_Qi (fun (r : Int32) (u : Unit) => r = (-1)) (fun _ _ => True) (va_A [(h0, .inr (10, oF q)), ((q 15), .inl ((cq 15), 7, .inl (fun _ => 0)))] sz)) 0 0 (va_A [(h0, .inr (10, oF q)), ((q 15), .inl ((cq 15), 7, .inl (fun _ => 0)))] sz) := by
  refine Met.ofW (cc := cX10_off) (maxL := 4) (ret := (some .int)) (by decide) rfl ?_
  intro p e s m args below meth c s₁ B hml hv
  obtain ⟨rfl, hsz, hP, hK, hD0⟩ := hv
  have hx := B.exec
  have hb := B.bytes
  have hr := B.returns
  have hts := atoms_spec (ws := wsX10_off) B.pre
  have hown : s.vm.findClass RX10 = some m.cls := findClass_of_methodNamed B.named
  have hlocks := B.notSynchronized
  subst hsz
  have hD := hD0.self (sz := s.heap.size)
  generalize hAe : va_A [(h0, .inr (10, oF q)), ((q 15), .inl ((cq 15), 7, .inl (fun _ => 0)))] s.heap.size = A at hD ⊢
  have hA : ∀ q : Nat, s.heap.size ≤ q → A q := fun q h => by rw [← hAe]; exact Or.inr h
  have hS : va_S A s.heap s.heap [] := va_S.rf
  have hP : va_P (dC, dI) vwCl [(h0, .inr (10, oF q)), ((q 15), .inl ((cq 15), 7, .inl (fun _ => 0)))] s.heap := hP
  have hl := lv_entry ([.ref h0, .int a1, .int a2]) (n := 4) (Nat.le_of_ble_eq_true rfl)
  rw [lg_entry_eq]
  generalize (lg_sl ([.ref h0, .int a1, .int a2]) ++ List.replicate (4 - (lg_sl ([.ref h0, .int a1, .int a2])).length) Slot.unset).toArray = ls at hl ⊢
  have hl : lv_has ls 4 [(0, .ref h0), (1, .int a1), (2, .int a2)] := hl
  refine lv_aload_n hx hb dX10_off_0 rfl (lv_at hl 0 rfl) ?_
  refine lv_iload_n hx hb dX10_off_1 rfl (lv_at hl 1 rfl) ?_
  have hPc := hP.sub (ws' := [(h0, .inr (10, oF q))]) [0] rfl
  have hDc := hD.sub (ws' := [(h0, .inr (10, oF q))]) [0] (by decide) rfl
  have hKc := hK.sub (tys' := []) [] rfl
  have hFc : ∀ q, va_A [] s.heap.size q → A q := pu_free hS hA
  refine va_callq (va_runV (As := [.int a1]) (rest := []) ⟨hx, hb, hml, hown, hts⟩ (c_X10_agreementAt l dC dI s.heap.size h0 q cq a1) (cwV 1 hts gX10_off_X10_agreementAt rfl rfl rfl (by decide +kernel) ⟨(Nat.le_of_ble_eq_true rfl), (Nat.le_of_ble_eq_true rfl)⟩) (pr_V (r := (RX10, TX10, 16)) hPc hKc hDc 0 10 rfl rfl) rfl rfl hl.1 rfl (lv_room (Nat.le_of_ble_eq_true rfl)) dX10_off_2 ⟨(Nat.le_of_ble_eq_true rfl), (Nat.le_of_ble_eq_true rfl)⟩) hS (fun q _ h => hFc q h) hFc (fun r_2 u t H locs ht hvm w_1 hB hz1 hk1 hS => ?_)
  have hP := pu_keep hP hk1
  clear hk1 hz1 hvm hB hPc hDc hKc hFc ht
  subst w_1
  refine W.eq (g2 := F0 m 5 ls [.null]) rfl ?_
  refine lv_astore_nN (lv' := [(3, .null), (0, .ref h0), (1, .int a1), (2, .int a2)]) hx hb dX10_off_5 rfl hl (by decide) rfl (fun ls hl => ?_)
  refine lv_aload_nN hx hb dX10_off_6 rfl (lv_at hl 0 rfl) ?_
  refine lv_ifnullN (tgt := 17) hx hb dX10_off_7 (by decide) ?_
  refine lv_aload_n hx hb dX10_off_17 rfl (lv_at hl 1 rfl) ?_
  refine lv_iconst (v := (-1)) hx hb dX10_off_18 (by decide) ?_
  have hPc := hP.sub (ws' := [(h0, .inr (10, oF q)), ((q 15), .inl ((cq 15), 7, .inl (fun _ => 0)))]) [0, 1] rfl
  have hDc := hD.sub (ws' := [(h0, .inr (10, oF q)), ((q 15), .inl ((cq 15), 7, .inl (fun _ => 0)))]) [0, 1] (by decide) rfl
  have hKc := hK.sub (tys' := [((cq 15), .int)]) [0] rfl
  have hFc := va_free (wc := [(h0, .inr (10, oF q)), ((q 15), .inl ((cq 15), 7, .inl (fun _ => 0)))]) hD hS hA [0, 1] rfl
  refine va_calli (va_runV (As := [.int (-1)]) (rest := []) ⟨hx, hb, hml, hown, hts⟩ (c_X10_refuse l dC dI H.size h0 q cq (-1) (by unfold vp_in; decide)) (cwV 1 hts gX10_off_X10_refuse rfl rfl rfl (by decide +kernel) ⟨(Nat.le_of_ble_eq_true rfl), (Nat.le_of_ble_eq_true rfl)⟩) (pr_V (r := (RX10, TX10, 16)) hPc hKc hDc 0 10 rfl rfl) rfl rfl hl.1 rfl (lv_room (Nat.le_of_ble_eq_true rfl)) dX10_off_19 ⟨(Nat.le_of_ble_eq_true rfl), (Nat.le_of_ble_eq_true rfl)⟩) hS (fun q _ h => hFc q h) hFc (fun r_4 u t H locs ht hvm w_3 hB hz1 hk1 hS => ?_)
  subst w_3
  exact W.iret (v := (-1)) hx hb hr (fun t ht hW => ⟨⟨(-1), (), rfl, rfl, trivial⟩, hS.F ht⟩) hS.2.2 dX10_off_22
set_option maxHeartbeats 4000000 in
set_option maxRecDepth 100000 in
theorem c_X10_state (l : Launch) (dC : Nat → ClassId) (dI : Nat → Nat → Nat) (sz : Nat) (h0 : Nat) (q : Nat → Nat) (cq : Nat → ClassId) (a1 : Int32) (a2 : Int32) (a3 : Int32) : Met l yX10_state wsX10_state ({ frames := 1, cells := 0, slots := 0, locals := 21 }) (va_Pc [.ref h0, .int a1, .int a2, .int a3] (pcW (dC, dI) [((cq 15), .int)] [(h0, .inr (10, oF q)), ((q 15), .inl ((cq 15), 7, .inl (fun _ => 0)))] sz)) (va_Qi (fun (r : Int32) (u : Unit) => r = (-1)) (fun _ _ => True) (va_A [(h0, .inr (10, oF q)), ((q 15), .inl ((cq 15), 7, .inl (fun _ => 0)))] sz)) 0 0 (va_A [(h0, .inr (10, oF q)), ((q 15), .inl ((cq 15), 7, .inl (fun _ => 0)))] sz) := by
  refine Met.ofW (cc := cX10_state) (maxL := 6) (ret := (some .int)) (by decide) rfl ?_
  intro p e s m args below meth c s₁ B hml hv
  obtain ⟨rfl, hsz, hP, hK, hD0⟩ := hv
  have hx := B.exec
  have hb := B.bytes
  have hr := B.returns
  have hts := atoms_spec (ws := wsX10_state) B.pre
  have hown : s.vm.findClass RX10 = some m.cls := findClass_of_methodNamed B.named
  have hlocks := B.notSynchronized
  subst hsz
  have hD := hD0.self (sz := s.heap.size)
  generalize hAe : va_A [(h0, .inr (10, oF q)), ((q 15), .inl ((cq 15), 7, .inl (fun _ => 0)))] s.heap.size = A at hD ⊢
  have hA : ∀ q : Nat, s.heap.size ≤ q → A q := fun q h => by rw [← hAe]; exact Or.inr h
  have hS : va_S A s.heap s.heap [] := va_S.rf
  have hP : va_P (dC, dI) vwCl [(h0, .inr (10, oF q)), ((q 15), .inl ((cq 15), 7, .inl (fun _ => 0)))] s.heap := hP
  have hl := lv_entry ([.ref h0, .int a1, .int a2, .int a3]) (n := 6) (Nat.le_of_ble_eq_true rfl)
  rw [lg_entry_eq]
  generalize (lg_sl ([.ref h0, .int a1, .int a2, .int a3]) ++ List.replicate (6 - (lg_sl ([.ref h0, .int a1, .int a2, .int a3])).length) Slot.unset).toArray = ls at hl ⊢
  have hl : lv_has ls 6 [(0, .ref h0), (1, .int a1), (2, .int a2), (3, .int a3)] := hl
  refine lv_aload_n hx hb dX10_state_0 rfl (lv_at hl 0 rfl) ?_
  refine lv_iload_n hx hb dX10_state_1 rfl (lv_at hl 1 rfl) ?_
  have hPc := hP.sub (ws' := [(h0, .inr (10, oF q))]) [0] rfl
  have hDc := hD.sub (ws' := [(h0, .inr (10, oF q))]) [0] (by decide) rfl
  have hKc := hK.sub (tys' := []) [] rfl
  have hFc : ∀ q, va_A [] s.heap.size q → A q := pu_free hS hA
  refine va_callq (va_runV (As := [.int a1]) (rest := []) ⟨hx, hb, hml, hown, hts⟩ (c_X10_agreementAt l dC dI s.heap.size h0 q cq a1) (cwV 1 hts gX10_state_X10_agreementAt rfl rfl rfl (by decide +kernel) ⟨(Nat.le_of_ble_eq_true rfl), (Nat.le_of_ble_eq_true rfl)⟩) (pr_V (r := (RX10, TX10, 16)) hPc hKc hDc 0 10 rfl rfl) rfl rfl hl.1 rfl (lv_room (Nat.le_of_ble_eq_true rfl)) dX10_state_2 ⟨(Nat.le_of_ble_eq_true rfl), (Nat.le_of_ble_eq_true rfl)⟩) hS (fun q _ h => hFc q h) hFc (fun r_2 u t H locs ht hvm w_1 hB hz1 hk1 hS => ?_)
  have hP := pu_keep hP hk1
  clear hk1 hz1 hvm hB hPc hDc hKc hFc ht
  subst w_1
  refine W.eq (g2 := F0 m 5 ls [.null]) rfl ?_
  refine lv_astoreN (lv' := [(4, .null), (0, .ref h0), (1, .int a1), (2, .int a2), (3, .int a3)]) hx hb dX10_state_5 hl (by decide) rfl (fun ls hl => ?_)
  refine lv_aloadN hx hb dX10_state_7 (lv_at hl 0 rfl) ?_
  refine lv_ifnonnullN hx hb dX10_state_9 ?_
  refine lv_aload_n hx hb dX10_state_12 rfl (lv_at hl 1 rfl) ?_
  refine lv_iconst (v := (-1)) hx hb dX10_state_13 (by decide) ?_
  have hPc := hP.sub (ws' := [(h0, .inr (10, oF q)), ((q 15), .inl ((cq 15), 7, .inl (fun _ => 0)))]) [0, 1] rfl
  have hDc := hD.sub (ws' := [(h0, .inr (10, oF q)), ((q 15), .inl ((cq 15), 7, .inl (fun _ => 0)))]) [0, 1] (by decide) rfl
  have hKc := hK.sub (tys' := [((cq 15), .int)]) [0] rfl
  have hFc := va_free (wc := [(h0, .inr (10, oF q)), ((q 15), .inl ((cq 15), 7, .inl (fun _ => 0)))]) hD hS hA [0, 1] rfl
  refine va_calli (va_runV (As := [.int (-1)]) (rest := []) ⟨hx, hb, hml, hown, hts⟩ (c_X10_refuse l dC dI H.size h0 q cq (-1) (by unfold vp_in; decide)) (cwV 1 hts gX10_state_X10_refuse rfl rfl rfl (by decide +kernel) ⟨(Nat.le_of_ble_eq_true rfl), (Nat.le_of_ble_eq_true rfl)⟩) (pr_V (r := (RX10, TX10, 16)) hPc hKc hDc 0 10 rfl rfl) rfl rfl hl.1 rfl (lv_room (Nat.le_of_ble_eq_true rfl)) dX10_state_14 ⟨(Nat.le_of_ble_eq_true rfl), (Nat.le_of_ble_eq_true rfl)⟩) hS (fun q _ h => hFc q h) hFc (fun r_4 u t H locs ht hvm w_3 hB hz1 hk1 hS => ?_)
  subst w_3
  exact W.iret (v := (-1)) hx hb hr (fun t ht hW => ⟨⟨(-1), (), rfl, rfl, trivial⟩, hS.F ht⟩) hS.2.2 dX10_state_17
set_option maxHeartbeats 4000000 in
set_option maxRecDepth 100000 in
theorem c_X10_earns (l : Launch) (dC : Nat → ClassId) (dI : Nat → Nat → Nat) (sz : Nat) (h0 : Nat) (q : Nat → Nat) (cq : Nat → ClassId) (a1 : Int32) (a2 : Int32) (a3 : Int32) : Met l yX10_earns wsX10_earns ({ frames := 1, cells := 0, slots := 0, locals := 21 }) (va_Pc [.ref h0, .int a1, .int a2, .int a3] (pcW (dC, dI) [((cq 15), .int)] [(h0, .inr (10, oF q)), ((q 15), .inl ((cq 15), 7, .inl (fun _ => 0)))] sz)) (va_Qi (fun (r : Int32) (u : Unit) => r = (-1)) (fun _ _ => True) (va_A [(h0, .inr (10, oF q)), ((q 15), .inl ((cq 15), 7, .inl (fun _ => 0)))] sz)) 0 0 (va_A [(h0, .inr (10, oF q)), ((q 15), .inl ((cq 15), 7, .inl (fun _ => 0)))] sz) := by
  refine Met.ofW (cc := cX10_earns) (maxL := 6) (ret := (some .int)) (by decide) rfl ?_
  intro p e s m args below meth c s₁ B hml hv
  obtain ⟨rfl, hsz, hP, hK, hD0⟩ := hv
  have hx := B.exec
  have hb := B.bytes
  have hr := B.returns
  have hts := atoms_spec (ws := wsX10_earns) B.pre
  have hown : s.vm.findClass RX10 = some m.cls := findClass_of_methodNamed B.named
  have hlocks := B.notSynchronized
  subst hsz
  have hD := hD0.self (sz := s.heap.size)
  generalize hAe : va_A [(h0, .inr (10, oF q)), ((q 15), .inl ((cq 15), 7, .inl (fun _ => 0)))] s.heap.size = A at hD ⊢
  have hA : ∀ q : Nat, s.heap.size ≤ q → A q := fun q h => by rw [← hAe]; exact Or.inr h
  have hS : va_S A s.heap s.heap [] := va_S.rf
  have hP : va_P (dC, dI) vwCl [(h0, .inr (10, oF q)), ((q 15), .inl ((cq 15), 7, .inl (fun _ => 0)))] s.heap := hP
  have hl := lv_entry ([.ref h0, .int a1, .int a2, .int a3]) (n := 6) (Nat.le_of_ble_eq_true rfl)
  rw [lg_entry_eq]
  generalize (lg_sl ([.ref h0, .int a1, .int a2, .int a3]) ++ List.replicate (6 - (lg_sl ([.ref h0, .int a1, .int a2, .int a3])).length) Slot.unset).toArray = ls at hl ⊢
  have hl : lv_has ls 6 [(0, .ref h0), (1, .int a1), (2, .int a2), (3, .int a3)] := hl
  refine lv_aload_n hx hb dX10_earns_0 rfl (lv_at hl 0 rfl) ?_
  refine lv_iload_n hx hb dX10_earns_1 rfl (lv_at hl 1 rfl) ?_
  have hPc := hP.sub (ws' := [(h0, .inr (10, oF q))]) [0] rfl
  have hDc := hD.sub (ws' := [(h0, .inr (10, oF q))]) [0] (by decide) rfl
  have hKc := hK.sub (tys' := []) [] rfl
  have hFc : ∀ q, va_A [] s.heap.size q → A q := pu_free hS hA
  refine va_callq (va_runV (As := [.int a1]) (rest := []) ⟨hx, hb, hml, hown, hts⟩ (c_X10_agreementAt l dC dI s.heap.size h0 q cq a1) (cwV 1 hts gX10_earns_X10_agreementAt rfl rfl rfl (by decide +kernel) ⟨(Nat.le_of_ble_eq_true rfl), (Nat.le_of_ble_eq_true rfl)⟩) (pr_V (r := (RX10, TX10, 16)) hPc hKc hDc 0 10 rfl rfl) rfl rfl hl.1 rfl (lv_room (Nat.le_of_ble_eq_true rfl)) dX10_earns_2 ⟨(Nat.le_of_ble_eq_true rfl), (Nat.le_of_ble_eq_true rfl)⟩) hS (fun q _ h => hFc q h) hFc (fun r_2 u t H locs ht hvm w_1 hB hz1 hk1 hS => ?_)
  have hP := pu_keep hP hk1
  clear hk1 hz1 hvm hB hPc hDc hKc hFc ht
  subst w_1
  refine W.eq (g2 := F0 m 5 ls [.null]) rfl ?_
  refine lv_astoreN (lv' := [(4, .null), (0, .ref h0), (1, .int a1), (2, .int a2), (3, .int a3)]) hx hb dX10_earns_5 hl (by decide) rfl (fun ls hl => ?_)
  refine lv_aloadN hx hb dX10_earns_7 (lv_at hl 0 rfl) ?_
  refine lv_ifnonnullN hx hb dX10_earns_9 ?_
  refine lv_aload_n hx hb dX10_earns_12 rfl (lv_at hl 1 rfl) ?_
  refine lv_iconst (v := (-1)) hx hb dX10_earns_13 (by decide) ?_
  have hPc := hP.sub (ws' := [(h0, .inr (10, oF q)), ((q 15), .inl ((cq 15), 7, .inl (fun _ => 0)))]) [0, 1] rfl
  have hDc := hD.sub (ws' := [(h0, .inr (10, oF q)), ((q 15), .inl ((cq 15), 7, .inl (fun _ => 0)))]) [0, 1] (by decide) rfl
  have hKc := hK.sub (tys' := [((cq 15), .int)]) [0] rfl
  have hFc := va_free (wc := [(h0, .inr (10, oF q)), ((q 15), .inl ((cq 15), 7, .inl (fun _ => 0)))]) hD hS hA [0, 1] rfl
  refine va_calli (va_runV (As := [.int (-1)]) (rest := []) ⟨hx, hb, hml, hown, hts⟩ (c_X10_refuse l dC dI H.size h0 q cq (-1) (by unfold vp_in; decide)) (cwV 1 hts gX10_earns_X10_refuse rfl rfl rfl (by decide +kernel) ⟨(Nat.le_of_ble_eq_true rfl), (Nat.le_of_ble_eq_true rfl)⟩) (pr_V (r := (RX10, TX10, 16)) hPc hKc hDc 0 10 rfl rfl) rfl rfl hl.1 rfl (lv_room (Nat.le_of_ble_eq_true rfl)) dX10_earns_14 ⟨(Nat.le_of_ble_eq_true rfl), (Nat.le_of_ble_eq_true rfl)⟩) hS (fun q _ h => hFc q h) hFc (fun r_4 u t H locs ht hvm w_3 hB hz1 hk1 hS => ?_)
  subst w_3
  exact W.iret (v := (-1)) hx hb hr (fun t ht hW => ⟨⟨(-1), (), rfl, rfl, trivial⟩, hS.F ht⟩) hS.2.2 dX10_earns_17
set_option maxHeartbeats 4000000 in
set_option maxRecDepth 100000 in
theorem c_X10_advance (l : Launch) (dC : Nat → ClassId) (dI : Nat → Nat → Nat) (sz : Nat) (h0 : Nat) (q : Nat → Nat) (cq : Nat → ClassId) (a1 : Int32) (a2 : Int32) : Met l yX10_advance wsX10_advance ({ frames := 1, cells := 0, slots := 0, locals := 21 }) (va_Pc [.ref h0, .int a1, .int a2] (pcW (dC, dI) [((cq 15), .int)] [(h0, .inr (10, oF q)), ((q 15), .inl ((cq 15), 7, .inl (fun _ => 0)))] sz)) (va_Qi (fun (r : Int32) (u : Unit) => r = (-1)) (fun _ _ => True) (va_A [(h0, .inr (10, oF q)), ((q 15), .inl ((cq 15), 7, .inl (fun _ => 0)))] sz)) 0 0 (va_A [(h0, .inr (10, oF q)), ((q 15), .inl ((cq 15), 7, .inl (fun _ => 0)))] sz) := by
  refine Met.ofW (cc := cX10_advance) (maxL := 4) (ret := (some .int)) (by decide) rfl ?_
  intro p e s m args below meth c s₁ B hml hv
  obtain ⟨rfl, hsz, hP, hK, hD0⟩ := hv
  have hx := B.exec
  have hb := B.bytes
  have hr := B.returns
  have hts := atoms_spec (ws := wsX10_advance) B.pre
  have hown : s.vm.findClass RX10 = some m.cls := findClass_of_methodNamed B.named
  have hlocks := B.notSynchronized
  subst hsz
  have hD := hD0.self (sz := s.heap.size)
  generalize hAe : va_A [(h0, .inr (10, oF q)), ((q 15), .inl ((cq 15), 7, .inl (fun _ => 0)))] s.heap.size = A at hD ⊢
  have hA : ∀ q : Nat, s.heap.size ≤ q → A q := fun q h => by rw [← hAe]; exact Or.inr h
  have hS : va_S A s.heap s.heap [] := va_S.rf
  have hP : va_P (dC, dI) vwCl [(h0, .inr (10, oF q)), ((q 15), .inl ((cq 15), 7, .inl (fun _ => 0)))] s.heap := hP
  have hl := lv_entry ([.ref h0, .int a1, .int a2]) (n := 4) (Nat.le_of_ble_eq_true rfl)
  rw [lg_entry_eq]
  generalize (lg_sl ([.ref h0, .int a1, .int a2]) ++ List.replicate (4 - (lg_sl ([.ref h0, .int a1, .int a2])).length) Slot.unset).toArray = ls at hl ⊢
  have hl : lv_has ls 4 [(0, .ref h0), (1, .int a1), (2, .int a2)] := hl
  refine lv_aload_n hx hb dX10_advance_0 rfl (lv_at hl 0 rfl) ?_
  refine lv_iload_n hx hb dX10_advance_1 rfl (lv_at hl 1 rfl) ?_
  have hPc := hP.sub (ws' := [(h0, .inr (10, oF q))]) [0] rfl
  have hDc := hD.sub (ws' := [(h0, .inr (10, oF q))]) [0] (by decide) rfl
  have hKc := hK.sub (tys' := []) [] rfl
  have hFc : ∀ q, va_A [] s.heap.size q → A q := pu_free hS hA
  refine va_callq (va_runV (As := [.int a1]) (rest := []) ⟨hx, hb, hml, hown, hts⟩ (c_X10_agreementAt l dC dI s.heap.size h0 q cq a1) (cwV 1 hts gX10_advance_X10_agreementAt rfl rfl rfl (by decide +kernel) ⟨(Nat.le_of_ble_eq_true rfl), (Nat.le_of_ble_eq_true rfl)⟩) (pr_V (r := (RX10, TX10, 16)) hPc hKc hDc 0 10 rfl rfl) rfl rfl hl.1 rfl (lv_room (Nat.le_of_ble_eq_true rfl)) dX10_advance_2 ⟨(Nat.le_of_ble_eq_true rfl), (Nat.le_of_ble_eq_true rfl)⟩) hS (fun q _ h => hFc q h) hFc (fun r_2 u t H locs ht hvm w_1 hB hz1 hk1 hS => ?_)
  have hP := pu_keep hP hk1
  clear hk1 hz1 hvm hB hPc hDc hKc hFc ht
  subst w_1
  refine W.eq (g2 := F0 m 5 ls [.null]) rfl ?_
  refine lv_astore_nN (lv' := [(3, .null), (0, .ref h0), (1, .int a1), (2, .int a2)]) hx hb dX10_advance_5 rfl hl (by decide) rfl (fun ls hl => ?_)
  refine lv_aload_nN hx hb dX10_advance_6 rfl (lv_at hl 0 rfl) ?_
  refine lv_ifnonnullN hx hb dX10_advance_7 ?_
  refine lv_aload_n hx hb dX10_advance_10 rfl (lv_at hl 1 rfl) ?_
  refine lv_iconst (v := (-1)) hx hb dX10_advance_11 (by decide) ?_
  have hPc := hP.sub (ws' := [(h0, .inr (10, oF q)), ((q 15), .inl ((cq 15), 7, .inl (fun _ => 0)))]) [0, 1] rfl
  have hDc := hD.sub (ws' := [(h0, .inr (10, oF q)), ((q 15), .inl ((cq 15), 7, .inl (fun _ => 0)))]) [0, 1] (by decide) rfl
  have hKc := hK.sub (tys' := [((cq 15), .int)]) [0] rfl
  have hFc := va_free (wc := [(h0, .inr (10, oF q)), ((q 15), .inl ((cq 15), 7, .inl (fun _ => 0)))]) hD hS hA [0, 1] rfl
  refine va_calli (va_runV (As := [.int (-1)]) (rest := []) ⟨hx, hb, hml, hown, hts⟩ (c_X10_refuse l dC dI H.size h0 q cq (-1) (by unfold vp_in; decide)) (cwV 1 hts gX10_advance_X10_refuse rfl rfl rfl (by decide +kernel) ⟨(Nat.le_of_ble_eq_true rfl), (Nat.le_of_ble_eq_true rfl)⟩) (pr_V (r := (RX10, TX10, 16)) hPc hKc hDc 0 10 rfl rfl) rfl rfl hl.1 rfl (lv_room (Nat.le_of_ble_eq_true rfl)) dX10_advance_12 ⟨(Nat.le_of_ble_eq_true rfl), (Nat.le_of_ble_eq_true rfl)⟩) hS (fun q _ h => hFc q h) hFc (fun r_4 u t H locs ht hvm w_3 hB hz1 hk1 hS => ?_)
  subst w_3
  exact W.iret (v := (-1)) hx hb hr (fun t ht hW => ⟨⟨(-1), (), rfl, rfl, trivial⟩, hS.F ht⟩) hS.2.2 dX10_advance_15
set_option maxHeartbeats 4000000 in
set_option maxRecDepth 100000 in
theorem c_X10_sold (l : Launch) (dC : Nat → ClassId) (dI : Nat → Nat → Nat) (sz : Nat) (h0 : Nat) (q : Nat → Nat) (cq : Nat → ClassId) (a1 : Int32) (a2 : Int32) : Met l yX10_sold wsX10_sold ({ frames := 1, cells := 0, slots := 0, locals := 21 }) (va_Pc [.ref h0, .int a1, .int a2] (pcW (dC, dI) [((cq 15), .int)] [(h0, .inr (10, oF q)), ((q 15), .inl ((cq 15), 7, .inl (fun _ => 0)))] sz)) (va_Qi (fun (r : Int32) (u : Unit) => r = (-1)) (fun _ _ => True) (va_A [(h0, .inr (10, oF q)), ((q 15), .inl ((cq 15), 7, .inl (fun _ => 0)))] sz)) 0 0 (va_A [(h0, .inr (10, oF q)), ((q 15), .inl ((cq 15), 7, .inl (fun _ => 0)))] sz) := by
  refine Met.ofW (cc := cX10_sold) (maxL := 4) (ret := (some .int)) (by decide) rfl ?_
  intro p e s m args below meth c s₁ B hml hv
  obtain ⟨rfl, hsz, hP, hK, hD0⟩ := hv
  have hx := B.exec
  have hb := B.bytes
  have hr := B.returns
  have hts := atoms_spec (ws := wsX10_sold) B.pre
  have hown : s.vm.findClass RX10 = some m.cls := findClass_of_methodNamed B.named
  have hlocks := B.notSynchronized
  subst hsz
  have hD := hD0.self (sz := s.heap.size)
  generalize hAe : va_A [(h0, .inr (10, oF q)), ((q 15), .inl ((cq 15), 7, .inl (fun _ => 0)))] s.heap.size = A at hD ⊢
  have hA : ∀ q : Nat, s.heap.size ≤ q → A q := fun q h => by rw [← hAe]; exact Or.inr h
  have hS : va_S A s.heap s.heap [] := va_S.rf
  have hP : va_P (dC, dI) vwCl [(h0, .inr (10, oF q)), ((q 15), .inl ((cq 15), 7, .inl (fun _ => 0)))] s.heap := hP
  have hl := lv_entry ([.ref h0, .int a1, .int a2]) (n := 4) (Nat.le_of_ble_eq_true rfl)
  rw [lg_entry_eq]
  generalize (lg_sl ([.ref h0, .int a1, .int a2]) ++ List.replicate (4 - (lg_sl ([.ref h0, .int a1, .int a2])).length) Slot.unset).toArray = ls at hl ⊢
  have hl : lv_has ls 4 [(0, .ref h0), (1, .int a1), (2, .int a2)] := hl
  refine lv_aload_n hx hb dX10_sold_0 rfl (lv_at hl 0 rfl) ?_
  refine lv_iload_n hx hb dX10_sold_1 rfl (lv_at hl 1 rfl) ?_
  have hPc := hP.sub (ws' := [(h0, .inr (10, oF q))]) [0] rfl
  have hDc := hD.sub (ws' := [(h0, .inr (10, oF q))]) [0] (by decide) rfl
  have hKc := hK.sub (tys' := []) [] rfl
  have hFc : ∀ q, va_A [] s.heap.size q → A q := pu_free hS hA
  refine va_callq (va_runV (As := [.int a1]) (rest := []) ⟨hx, hb, hml, hown, hts⟩ (c_X10_agreementAt l dC dI s.heap.size h0 q cq a1) (cwV 1 hts gX10_sold_X10_agreementAt rfl rfl rfl (by decide +kernel) ⟨(Nat.le_of_ble_eq_true rfl), (Nat.le_of_ble_eq_true rfl)⟩) (pr_V (r := (RX10, TX10, 16)) hPc hKc hDc 0 10 rfl rfl) rfl rfl hl.1 rfl (lv_room (Nat.le_of_ble_eq_true rfl)) dX10_sold_2 ⟨(Nat.le_of_ble_eq_true rfl), (Nat.le_of_ble_eq_true rfl)⟩) hS (fun q _ h => hFc q h) hFc (fun r_2 u t H locs ht hvm w_1 hB hz1 hk1 hS => ?_)
  have hP := pu_keep hP hk1
  clear hk1 hz1 hvm hB hPc hDc hKc hFc ht
  subst w_1
  refine W.eq (g2 := F0 m 5 ls [.null]) rfl ?_
  refine lv_astore_nN (lv' := [(3, .null), (0, .ref h0), (1, .int a1), (2, .int a2)]) hx hb dX10_sold_5 rfl hl (by decide) rfl (fun ls hl => ?_)
  refine lv_aload_nN hx hb dX10_sold_6 rfl (lv_at hl 0 rfl) ?_
  refine lv_ifnonnullN hx hb dX10_sold_7 ?_
  refine lv_aload_n hx hb dX10_sold_10 rfl (lv_at hl 1 rfl) ?_
  refine lv_iconst (v := (-1)) hx hb dX10_sold_11 (by decide) ?_
  have hPc := hP.sub (ws' := [(h0, .inr (10, oF q)), ((q 15), .inl ((cq 15), 7, .inl (fun _ => 0)))]) [0, 1] rfl
  have hDc := hD.sub (ws' := [(h0, .inr (10, oF q)), ((q 15), .inl ((cq 15), 7, .inl (fun _ => 0)))]) [0, 1] (by decide) rfl
  have hKc := hK.sub (tys' := [((cq 15), .int)]) [0] rfl
  have hFc := va_free (wc := [(h0, .inr (10, oF q)), ((q 15), .inl ((cq 15), 7, .inl (fun _ => 0)))]) hD hS hA [0, 1] rfl
  refine va_calli (va_runV (As := [.int (-1)]) (rest := []) ⟨hx, hb, hml, hown, hts⟩ (c_X10_refuse l dC dI H.size h0 q cq (-1) (by unfold vp_in; decide)) (cwV 1 hts gX10_sold_X10_refuse rfl rfl rfl (by decide +kernel) ⟨(Nat.le_of_ble_eq_true rfl), (Nat.le_of_ble_eq_true rfl)⟩) (pr_V (r := (RX10, TX10, 16)) hPc hKc hDc 0 10 rfl rfl) rfl rfl hl.1 rfl (lv_room (Nat.le_of_ble_eq_true rfl)) dX10_sold_12 ⟨(Nat.le_of_ble_eq_true rfl), (Nat.le_of_ble_eq_true rfl)⟩) hS (fun q _ h => hFc q h) hFc (fun r_4 u t H locs ht hvm w_3 hB hz1 hk1 hS => ?_)
  subst w_3
  exact W.iret (v := (-1)) hx hb hr (fun t ht hW => ⟨⟨(-1), (), rfl, rfl, trivial⟩, hS.F ht⟩) hS.2.2 dX10_sold_15
set_option maxHeartbeats 4000000 in
set_option maxRecDepth 100000 in
theorem c_X10_allot (l : Launch) (dC : Nat → ClassId) (dI : Nat → Nat → Nat) (sz : Nat) (h0 : Nat) (q : Nat → Nat) (cq : Nat → ClassId) (a1 : Int32) (a2 : Int32) : Met l yX10_allot wsX10_allot ({ frames := 1, cells := 0, slots := 0, locals := 21 }) (va_Pc [.ref h0, .int a1, .int a2] (pcW (dC, dI) [((cq 15), .int)] [(h0, .inr (10, oF q)), ((q 15), .inl ((cq 15), 7, .inl (fun _ => 0)))] sz)) (va_Qi (fun (r : Int32) (u : Unit) => r = (-1)) (fun _ _ => True) (va_A [(h0, .inr (10, oF q)), ((q 15), .inl ((cq 15), 7, .inl (fun _ => 0)))] sz)) 0 0 (va_A [(h0, .inr (10, oF q)), ((q 15), .inl ((cq 15), 7, .inl (fun _ => 0)))] sz) := by
  refine Met.ofW (cc := cX10_allot) (maxL := 6) (ret := (some .int)) (by decide) rfl ?_
  intro p e s m args below meth c s₁ B hml hv
  obtain ⟨rfl, hsz, hP, hK, hD0⟩ := hv
  have hx := B.exec
  have hb := B.bytes
  have hr := B.returns
  have hts := atoms_spec (ws := wsX10_allot) B.pre
  have hown : s.vm.findClass RX10 = some m.cls := findClass_of_methodNamed B.named
  have hlocks := B.notSynchronized
  subst hsz
  have hD := hD0.self (sz := s.heap.size)
  generalize hAe : va_A [(h0, .inr (10, oF q)), ((q 15), .inl ((cq 15), 7, .inl (fun _ => 0)))] s.heap.size = A at hD ⊢
  have hA : ∀ q : Nat, s.heap.size ≤ q → A q := fun q h => by rw [← hAe]; exact Or.inr h
  have hS : va_S A s.heap s.heap [] := va_S.rf
  have hP : va_P (dC, dI) vwCl [(h0, .inr (10, oF q)), ((q 15), .inl ((cq 15), 7, .inl (fun _ => 0)))] s.heap := hP
  have hl := lv_entry ([.ref h0, .int a1, .int a2]) (n := 6) (Nat.le_of_ble_eq_true rfl)
  rw [lg_entry_eq]
  generalize (lg_sl ([.ref h0, .int a1, .int a2]) ++ List.replicate (6 - (lg_sl ([.ref h0, .int a1, .int a2])).length) Slot.unset).toArray = ls at hl ⊢
  have hl : lv_has ls 6 [(0, .ref h0), (1, .int a1), (2, .int a2)] := hl
  refine lv_aload_n hx hb dX10_allot_0 rfl (lv_at hl 0 rfl) ?_
  refine lv_iload_n hx hb dX10_allot_1 rfl (lv_at hl 1 rfl) ?_
  have hPc := hP.sub (ws' := [(h0, .inr (10, oF q))]) [0] rfl
  have hDc := hD.sub (ws' := [(h0, .inr (10, oF q))]) [0] (by decide) rfl
  have hKc := hK.sub (tys' := []) [] rfl
  have hFc : ∀ q, va_A [] s.heap.size q → A q := pu_free hS hA
  refine va_callq (va_runV (As := [.int a1]) (rest := []) ⟨hx, hb, hml, hown, hts⟩ (c_X10_agreementAt l dC dI s.heap.size h0 q cq a1) (cwV 1 hts gX10_allot_X10_agreementAt rfl rfl rfl (by decide +kernel) ⟨(Nat.le_of_ble_eq_true rfl), (Nat.le_of_ble_eq_true rfl)⟩) (pr_V (r := (RX10, TX10, 16)) hPc hKc hDc 0 10 rfl rfl) rfl rfl hl.1 rfl (lv_room (Nat.le_of_ble_eq_true rfl)) dX10_allot_2 ⟨(Nat.le_of_ble_eq_true rfl), (Nat.le_of_ble_eq_true rfl)⟩) hS (fun q _ h => hFc q h) hFc (fun r_2 u t H locs ht hvm w_1 hB hz1 hk1 hS => ?_)
  have hP := pu_keep hP hk1
  clear hk1 hz1 hvm hB hPc hDc hKc hFc ht
  subst w_1
  refine W.eq (g2 := F0 m 5 ls [.null]) rfl ?_
  refine lv_astore_nN (lv' := [(3, .null), (0, .ref h0), (1, .int a1), (2, .int a2)]) hx hb dX10_allot_5 rfl hl (by decide) rfl (fun ls hl => ?_)
  refine lv_aload_nN hx hb dX10_allot_6 rfl (lv_at hl 0 rfl) ?_
  refine lv_ifnonnullN hx hb dX10_allot_7 ?_
  refine lv_aload_n hx hb dX10_allot_10 rfl (lv_at hl 1 rfl) ?_
  refine lv_iconst (v := (-1)) hx hb dX10_allot_11 (by decide) ?_
  have hPc := hP.sub (ws' := [(h0, .inr (10, oF q)), ((q 15), .inl ((cq 15), 7, .inl (fun _ => 0)))]) [0, 1] rfl
  have hDc := hD.sub (ws' := [(h0, .inr (10, oF q)), ((q 15), .inl ((cq 15), 7, .inl (fun _ => 0)))]) [0, 1] (by decide) rfl
  have hKc := hK.sub (tys' := [((cq 15), .int)]) [0] rfl
  have hFc := va_free (wc := [(h0, .inr (10, oF q)), ((q 15), .inl ((cq 15), 7, .inl (fun _ => 0)))]) hD hS hA [0, 1] rfl
  refine va_calli (va_runV (As := [.int (-1)]) (rest := []) ⟨hx, hb, hml, hown, hts⟩ (c_X10_refuse l dC dI H.size h0 q cq (-1) (by unfold vp_in; decide)) (cwV 1 hts gX10_allot_X10_refuse rfl rfl rfl (by decide +kernel) ⟨(Nat.le_of_ble_eq_true rfl), (Nat.le_of_ble_eq_true rfl)⟩) (pr_V (r := (RX10, TX10, 16)) hPc hKc hDc 0 10 rfl rfl) rfl rfl hl.1 rfl (lv_room (Nat.le_of_ble_eq_true rfl)) dX10_allot_12 ⟨(Nat.le_of_ble_eq_true rfl), (Nat.le_of_ble_eq_true rfl)⟩) hS (fun q _ h => hFc q h) hFc (fun r_4 u t H locs ht hvm w_3 hB hz1 hk1 hS => ?_)
  subst w_3
  exact W.iret (v := (-1)) hx hb hr (fun t ht hW => ⟨⟨(-1), (), rfl, rfl, trivial⟩, hS.F ht⟩) hS.2.2 dX10_allot_15
set_option maxHeartbeats 4000000 in
set_option maxRecDepth 100000 in
theorem c_X10_fine (l : Launch) (dC : Nat → ClassId) (dI : Nat → Nat → Nat) (sz : Nat) (h0 : Nat) (q : Nat → Nat) (cq : Nat → ClassId) (a1 : Int32) (a2 : Int32) (a3 : Int32) (a4 : Int32) : Met l yX10_fine wsX10_fine ({ frames := 1, cells := 0, slots := 0, locals := 21 }) (va_Pc [.ref h0, .int a1, .int a2, .int a3, .int a4] (pcW (dC, dI) [((cq 15), .int)] [(h0, .inr (10, oF q)), ((q 15), .inl ((cq 15), 7, .inl (fun _ => 0)))] sz)) (va_Qi (fun (r : Int32) (u : Unit) => r = (-1)) (fun _ _ => True) (va_A [(h0, .inr (10, oF q)), ((q 15), .inl ((cq 15), 7, .inl (fun _ => 0)))] sz)) 0 0 (va_A [(h0, .inr (10, oF q)), ((q 15), .inl ((cq 15), 7, .inl (fun _ => 0)))] sz) := by
  refine Met.ofW (cc := cX10_fine) (maxL := 6) (ret := (some .int)) (by decide) rfl ?_
  intro p e s m args below meth c s₁ B hml hv
  obtain ⟨rfl, hsz, hP, hK, hD0⟩ := hv
  have hx := B.exec
  have hb := B.bytes
  have hr := B.returns
  have hts := atoms_spec (ws := wsX10_fine) B.pre
  have hown : s.vm.findClass RX10 = some m.cls := findClass_of_methodNamed B.named
  have hlocks := B.notSynchronized
  subst hsz
  have hD := hD0.self (sz := s.heap.size)
  generalize hAe : va_A [(h0, .inr (10, oF q)), ((q 15), .inl ((cq 15), 7, .inl (fun _ => 0)))] s.heap.size = A at hD ⊢
  have hA : ∀ q : Nat, s.heap.size ≤ q → A q := fun q h => by rw [← hAe]; exact Or.inr h
  have hS : va_S A s.heap s.heap [] := va_S.rf
  have hP : va_P (dC, dI) vwCl [(h0, .inr (10, oF q)), ((q 15), .inl ((cq 15), 7, .inl (fun _ => 0)))] s.heap := hP
  have hl := lv_entry ([.ref h0, .int a1, .int a2, .int a3, .int a4]) (n := 6) (Nat.le_of_ble_eq_true rfl)
  rw [lg_entry_eq]
  generalize (lg_sl ([.ref h0, .int a1, .int a2, .int a3, .int a4]) ++ List.replicate (6 - (lg_sl ([.ref h0, .int a1, .int a2, .int a3, .int a4])).length) Slot.unset).toArray = ls at hl ⊢
  have hl : lv_has ls 6 [(0, .ref h0), (1, .int a1), (2, .int a2), (3, .int a3), (4, .int a4)] := hl
  refine lv_aload_n hx hb dX10_fine_0 rfl (lv_at hl 0 rfl) ?_
  refine lv_iload_n hx hb dX10_fine_1 rfl (lv_at hl 1 rfl) ?_
  have hPc := hP.sub (ws' := [(h0, .inr (10, oF q))]) [0] rfl
  have hDc := hD.sub (ws' := [(h0, .inr (10, oF q))]) [0] (by decide) rfl
  have hKc := hK.sub (tys' := []) [] rfl
  have hFc : ∀ q, va_A [] s.heap.size q → A q := pu_free hS hA
  refine va_callq (va_runV (As := [.int a1]) (rest := []) ⟨hx, hb, hml, hown, hts⟩ (c_X10_agreementAt l dC dI s.heap.size h0 q cq a1) (cwV 1 hts gX10_fine_X10_agreementAt rfl rfl rfl (by decide +kernel) ⟨(Nat.le_of_ble_eq_true rfl), (Nat.le_of_ble_eq_true rfl)⟩) (pr_V (r := (RX10, TX10, 16)) hPc hKc hDc 0 10 rfl rfl) rfl rfl hl.1 rfl (lv_room (Nat.le_of_ble_eq_true rfl)) dX10_fine_2 ⟨(Nat.le_of_ble_eq_true rfl), (Nat.le_of_ble_eq_true rfl)⟩) hS (fun q _ h => hFc q h) hFc (fun r_2 u t H locs ht hvm w_1 hB hz1 hk1 hS => ?_)
  have hP := pu_keep hP hk1
  clear hk1 hz1 hvm hB hPc hDc hKc hFc ht
  subst w_1
  refine W.eq (g2 := F0 m 5 ls [.null]) rfl ?_
  refine lv_astoreN (lv' := [(5, .null), (0, .ref h0), (1, .int a1), (2, .int a2), (3, .int a3), (4, .int a4)]) hx hb dX10_fine_5 hl (by decide) rfl (fun ls hl => ?_)
  refine lv_aloadN hx hb dX10_fine_7 (lv_at hl 0 rfl) ?_
  refine lv_ifnonnullN hx hb dX10_fine_9 ?_
  refine lv_aload_n hx hb dX10_fine_12 rfl (lv_at hl 1 rfl) ?_
  refine lv_iconst (v := (-1)) hx hb dX10_fine_13 (by decide) ?_
  have hPc := hP.sub (ws' := [(h0, .inr (10, oF q)), ((q 15), .inl ((cq 15), 7, .inl (fun _ => 0)))]) [0, 1] rfl
  have hDc := hD.sub (ws' := [(h0, .inr (10, oF q)), ((q 15), .inl ((cq 15), 7, .inl (fun _ => 0)))]) [0, 1] (by decide) rfl
  have hKc := hK.sub (tys' := [((cq 15), .int)]) [0] rfl
  have hFc := va_free (wc := [(h0, .inr (10, oF q)), ((q 15), .inl ((cq 15), 7, .inl (fun _ => 0)))]) hD hS hA [0, 1] rfl
  refine va_calli (va_runV (As := [.int (-1)]) (rest := []) ⟨hx, hb, hml, hown, hts⟩ (c_X10_refuse l dC dI H.size h0 q cq (-1) (by unfold vp_in; decide)) (cwV 1 hts gX10_fine_X10_refuse rfl rfl rfl (by decide +kernel) ⟨(Nat.le_of_ble_eq_true rfl), (Nat.le_of_ble_eq_true rfl)⟩) (pr_V (r := (RX10, TX10, 16)) hPc hKc hDc 0 10 rfl rfl) rfl rfl hl.1 rfl (lv_room (Nat.le_of_ble_eq_true rfl)) dX10_fine_14 ⟨(Nat.le_of_ble_eq_true rfl), (Nat.le_of_ble_eq_true rfl)⟩) hS (fun q _ h => hFc q h) hFc (fun r_4 u t H locs ht hvm w_3 hB hz1 hk1 hS => ?_)
  subst w_3
  exact W.iret (v := (-1)) hx hb hr (fun t ht hW => ⟨⟨(-1), (), rfl, rfl, trivial⟩, hS.F ht⟩) hS.2.2 dX10_fine_17
set_option maxHeartbeats 4000000 in
set_option maxRecDepth 100000 in
theorem c_X10_read (l : Launch) (dC : Nat → ClassId) (dI : Nat → Nat → Nat) (sz : Nat) (h0 : Nat) (q : Nat → Nat) (cq : Nat → ClassId) (a1 : Int32) (a2 : Int32) : Met l yX10_read wsX10_read ({ frames := 1, cells := 0, slots := 0, locals := 21 }) (va_Pc [.ref h0, .int a1, .int a2] (pcW (dC, dI) [((cq 15), .int)] [(h0, .inr (10, oF q)), ((q 15), .inl ((cq 15), 7, .inl (fun _ => 0)))] sz)) (va_Qi (fun (r : Int32) (u : Unit) => r = (-1)) (fun _ _ => True) (va_A [(h0, .inr (10, oF q)), ((q 15), .inl ((cq 15), 7, .inl (fun _ => 0)))] sz)) 0 0 (va_A [(h0, .inr (10, oF q)), ((q 15), .inl ((cq 15), 7, .inl (fun _ => 0)))] sz) := by
  refine Met.ofW (cc := cX10_read) (maxL := 4) (ret := (some .int)) (by decide) rfl ?_
  intro p e s m args below meth c s₁ B hml hv
  obtain ⟨rfl, hsz, hP, hK, hD0⟩ := hv
  have hx := B.exec
  have hb := B.bytes
  have hr := B.returns
  have hts := atoms_spec (ws := wsX10_read) B.pre
  have hown : s.vm.findClass RX10 = some m.cls := findClass_of_methodNamed B.named
  have hlocks := B.notSynchronized
  subst hsz
  have hD := hD0.self (sz := s.heap.size)
  generalize hAe : va_A [(h0, .inr (10, oF q)), ((q 15), .inl ((cq 15), 7, .inl (fun _ => 0)))] s.heap.size = A at hD ⊢
  have hA : ∀ q : Nat, s.heap.size ≤ q → A q := fun q h => by rw [← hAe]; exact Or.inr h
  have hS : va_S A s.heap s.heap [] := va_S.rf
  have hP : va_P (dC, dI) vwCl [(h0, .inr (10, oF q)), ((q 15), .inl ((cq 15), 7, .inl (fun _ => 0)))] s.heap := hP
  have hl := lv_entry ([.ref h0, .int a1, .int a2]) (n := 4) (Nat.le_of_ble_eq_true rfl)
  rw [lg_entry_eq]
  generalize (lg_sl ([.ref h0, .int a1, .int a2]) ++ List.replicate (4 - (lg_sl ([.ref h0, .int a1, .int a2])).length) Slot.unset).toArray = ls at hl ⊢
  have hl : lv_has ls 4 [(0, .ref h0), (1, .int a1), (2, .int a2)] := hl
  refine lv_aload_n hx hb dX10_read_0 rfl (lv_at hl 0 rfl) ?_
  refine lv_iload_n hx hb dX10_read_1 rfl (lv_at hl 1 rfl) ?_
  have hPc := hP.sub (ws' := [(h0, .inr (10, oF q))]) [0] rfl
  have hDc := hD.sub (ws' := [(h0, .inr (10, oF q))]) [0] (by decide) rfl
  have hKc := hK.sub (tys' := []) [] rfl
  have hFc : ∀ q, va_A [] s.heap.size q → A q := pu_free hS hA
  refine va_callq (va_runV (As := [.int a1]) (rest := []) ⟨hx, hb, hml, hown, hts⟩ (c_X10_agreementAt l dC dI s.heap.size h0 q cq a1) (cwV 1 hts gX10_read_X10_agreementAt rfl rfl rfl (by decide +kernel) ⟨(Nat.le_of_ble_eq_true rfl), (Nat.le_of_ble_eq_true rfl)⟩) (pr_V (r := (RX10, TX10, 16)) hPc hKc hDc 0 10 rfl rfl) rfl rfl hl.1 rfl (lv_room (Nat.le_of_ble_eq_true rfl)) dX10_read_2 ⟨(Nat.le_of_ble_eq_true rfl), (Nat.le_of_ble_eq_true rfl)⟩) hS (fun q _ h => hFc q h) hFc (fun r_2 u t H locs ht hvm w_1 hB hz1 hk1 hS => ?_)
  have hP := pu_keep hP hk1
  clear hk1 hz1 hvm hB hPc hDc hKc hFc ht
  subst w_1
  refine W.eq (g2 := F0 m 5 ls [.null]) rfl ?_
  refine lv_iload_n hx hb dX10_read_5 rfl (lv_at hl 2 rfl) ?_
  have hPc := hP.sub (ws' := []) [] rfl
  have hDc := hD.sub (ws' := []) [] (by decide) rfl
  have hKc := hK.sub (tys' := []) [] rfl
  have hFc : ∀ q, va_A [] H.size q → A q := pu_free hS hA
  refine va_callq (va_runS (As := [.null, .int a2]) (rest := []) ⟨hx, hb, hml, hown, hts⟩ (c_X10_fineAt l dC dI H.size a2) (va_cwS 2 hts gX10_read_X10_fineAt rfl rfl rfl (by decide +kernel) ⟨(Nat.le_of_ble_eq_true rfl), (Nat.le_of_ble_eq_true rfl)⟩) (pr_S hPc hKc hDc) rfl rfl hl.1 rfl (lv_room (Nat.le_of_ble_eq_true rfl)) dX10_read_6 ⟨(Nat.le_of_ble_eq_true rfl), (Nat.le_of_ble_eq_true rfl)⟩) hS (fun q _ h => hFc q h) hFc (fun r_4 u t H locs ht hvm w_3 hB hz1 hk1 hS => ?_)
  have hP := pu_keep hP hk1
  clear hk1 hz1 hvm hB hPc hDc hKc hFc ht
  subst w_3
  refine W.eq (g2 := F0 m 9 ls [.null]) rfl ?_
  refine lv_astore_nN (lv' := [(3, .null), (0, .ref h0), (1, .int a1), (2, .int a2)]) hx hb dX10_read_9 rfl hl (by decide) rfl (fun ls hl => ?_)
  refine lv_aload_nN hx hb dX10_read_10 rfl (lv_at hl 0 rfl) ?_
  refine lv_ifnonnullN hx hb dX10_read_11 ?_
  refine lv_aload_n hx hb dX10_read_14 rfl (lv_at hl 1 rfl) ?_
  refine lv_iconst (v := (-1)) hx hb dX10_read_15 (by decide) ?_
  have hPc := hP.sub (ws' := [(h0, .inr (10, oF q)), ((q 15), .inl ((cq 15), 7, .inl (fun _ => 0)))]) [0, 1] rfl
  have hDc := hD.sub (ws' := [(h0, .inr (10, oF q)), ((q 15), .inl ((cq 15), 7, .inl (fun _ => 0)))]) [0, 1] (by decide) rfl
  have hKc := hK.sub (tys' := [((cq 15), .int)]) [0] rfl
  have hFc := va_free (wc := [(h0, .inr (10, oF q)), ((q 15), .inl ((cq 15), 7, .inl (fun _ => 0)))]) hD hS hA [0, 1] rfl
  refine va_calli (va_runV (As := [.int (-1)]) (rest := []) ⟨hx, hb, hml, hown, hts⟩ (c_X10_refuse l dC dI H.size h0 q cq (-1) (by unfold vp_in; decide)) (cwV 1 hts gX10_read_X10_refuse rfl rfl rfl (by decide +kernel) ⟨(Nat.le_of_ble_eq_true rfl), (Nat.le_of_ble_eq_true rfl)⟩) (pr_V (r := (RX10, TX10, 16)) hPc hKc hDc 0 10 rfl rfl) rfl rfl hl.1 rfl (lv_room (Nat.le_of_ble_eq_true rfl)) dX10_read_16 ⟨(Nat.le_of_ble_eq_true rfl), (Nat.le_of_ble_eq_true rfl)⟩) hS (fun q _ h => hFc q h) hFc (fun r_6 u t H locs ht hvm w_5 hB hz1 hk1 hS => ?_)
  subst w_5
  exact W.iret (v := (-1)) hx hb hr (fun t ht hW => ⟨⟨(-1), (), rfl, rfl, trivial⟩, hS.F ht⟩) hS.2.2 dX10_read_19
set_option maxHeartbeats 4000000 in
set_option maxRecDepth 100000 in
theorem c_X10_stands (l : Launch) (dC : Nat → ClassId) (dI : Nat → Nat → Nat) (sz : Nat) (h0 : Nat) (q : Nat → Nat) (cq : Nat → ClassId) (a1 : Int32) (a2 : Int32) (a3 : Int32) : Met l yX10_stands wsX10_stands ({ frames := 1, cells := 0, slots := 0, locals := 21 }) (va_Pc [.ref h0, .int a1, .int a2, .int a3] (pcW (dC, dI) [((cq 15), .int)] [(h0, .inr (10, oF q)), ((q 15), .inl ((cq 15), 7, .inl (fun _ => 0)))] sz)) (va_Qi (fun (r : Int32) (u : Unit) => r = (-1)) (fun _ _ => True) (va_A [(h0, .inr (10, oF q)), ((q 15), .inl ((cq 15), 7, .inl (fun _ => 0)))] sz)) 0 0 (va_A [(h0, .inr (10, oF q)), ((q 15), .inl ((cq 15), 7, .inl (fun _ => 0)))] sz) := by
  refine Met.ofW (cc := cX10_stands) (maxL := 6) (ret := (some .int)) (by decide) rfl ?_
  intro p e s m args below meth c s₁ B hml hv
  obtain ⟨rfl, hsz, hP, hK, hD0⟩ := hv
  have hx := B.exec
  have hb := B.bytes
  have hr := B.returns
  have hts := atoms_spec (ws := wsX10_stands) B.pre
  have hown : s.vm.findClass RX10 = some m.cls := findClass_of_methodNamed B.named
  have hlocks := B.notSynchronized
  subst hsz
  have hD := hD0.self (sz := s.heap.size)
  generalize hAe : va_A [(h0, .inr (10, oF q)), ((q 15), .inl ((cq 15), 7, .inl (fun _ => 0)))] s.heap.size = A at hD ⊢
  have hA : ∀ q : Nat, s.heap.size ≤ q → A q := fun q h => by rw [← hAe]; exact Or.inr h
  have hS : va_S A s.heap s.heap [] := va_S.rf
  have hP : va_P (dC, dI) vwCl [(h0, .inr (10, oF q)), ((q 15), .inl ((cq 15), 7, .inl (fun _ => 0)))] s.heap := hP
  have hl := lv_entry ([.ref h0, .int a1, .int a2, .int a3]) (n := 6) (Nat.le_of_ble_eq_true rfl)
  rw [lg_entry_eq]
  generalize (lg_sl ([.ref h0, .int a1, .int a2, .int a3]) ++ List.replicate (6 - (lg_sl ([.ref h0, .int a1, .int a2, .int a3])).length) Slot.unset).toArray = ls at hl ⊢
  have hl : lv_has ls 6 [(0, .ref h0), (1, .int a1), (2, .int a2), (3, .int a3)] := hl
  refine lv_aload_n hx hb dX10_stands_0 rfl (lv_at hl 0 rfl) ?_
  refine lv_iload_n hx hb dX10_stands_1 rfl (lv_at hl 1 rfl) ?_
  have hPc := hP.sub (ws' := [(h0, .inr (10, oF q))]) [0] rfl
  have hDc := hD.sub (ws' := [(h0, .inr (10, oF q))]) [0] (by decide) rfl
  have hKc := hK.sub (tys' := []) [] rfl
  have hFc : ∀ q, va_A [] s.heap.size q → A q := pu_free hS hA
  refine va_callq (va_runV (As := [.int a1]) (rest := []) ⟨hx, hb, hml, hown, hts⟩ (c_X10_agreementAt l dC dI s.heap.size h0 q cq a1) (cwV 1 hts gX10_stands_X10_agreementAt rfl rfl rfl (by decide +kernel) ⟨(Nat.le_of_ble_eq_true rfl), (Nat.le_of_ble_eq_true rfl)⟩) (pr_V (r := (RX10, TX10, 16)) hPc hKc hDc 0 10 rfl rfl) rfl rfl hl.1 rfl (lv_room (Nat.le_of_ble_eq_true rfl)) dX10_stands_2 ⟨(Nat.le_of_ble_eq_true rfl), (Nat.le_of_ble_eq_true rfl)⟩) hS (fun q _ h => hFc q h) hFc (fun r_2 u t H locs ht hvm w_1 hB hz1 hk1 hS => ?_)
  have hP := pu_keep hP hk1
  clear hk1 hz1 hvm hB hPc hDc hKc hFc ht
  subst w_1
  refine W.eq (g2 := F0 m 5 ls [.null]) rfl ?_
  refine lv_astoreN (lv' := [(4, .null), (0, .ref h0), (1, .int a1), (2, .int a2), (3, .int a3)]) hx hb dX10_stands_5 hl (by decide) rfl (fun ls hl => ?_)
  refine lv_aloadN hx hb dX10_stands_7 (lv_at hl 0 rfl) ?_
  refine lv_iload_n hx hb dX10_stands_9 rfl (lv_at hl 3 rfl) ?_
  have hPc := hP.sub (ws' := []) [] rfl
  have hDc := hD.sub (ws' := []) [] (by decide) rfl
  have hKc := hK.sub (tys' := []) [] rfl
  have hFc : ∀ q, va_A [] H.size q → A q := pu_free hS hA
  refine va_callq (va_runS (As := [.null, .int a2]) (rest := []) ⟨hx, hb, hml, hown, hts⟩ (c_X10_fineAt l dC dI H.size a2) (va_cwS 2 hts gX10_stands_X10_fineAt rfl rfl rfl (by decide +kernel) ⟨(Nat.le_of_ble_eq_true rfl), (Nat.le_of_ble_eq_true rfl)⟩) (pr_S hPc hKc hDc) rfl rfl hl.1 rfl (lv_room (Nat.le_of_ble_eq_true rfl)) dX10_stands_10 ⟨(Nat.le_of_ble_eq_true rfl), (Nat.le_of_ble_eq_true rfl)⟩) hS (fun q _ h => hFc q h) hFc (fun r_4 u t H locs ht hvm w_3 hB hz1 hk1 hS => ?_)
  have hP := pu_keep hP hk1
  clear hk1 hz1 hvm hB hPc hDc hKc hFc ht
  subst w_3
  refine W.eq (g2 := F0 m 13 ls [.null]) rfl ?_
  refine lv_astoreN (lv' := [(5, .null), (4, .null), (0, .ref h0), (1, .int a1), (2, .int a2), (3, .int a3)]) hx hb dX10_stands_13 hl (by decide) rfl (fun ls hl => ?_)
  refine lv_aloadN hx hb dX10_stands_15 (lv_at hl 1 rfl) ?_
  refine lv_ifnullN (tgt := 25) hx hb dX10_stands_17 (by decide) ?_
  refine lv_aload_n hx hb dX10_stands_25 rfl (lv_at hl 2 rfl) ?_
  refine lv_iconst (v := (-1)) hx hb dX10_stands_26 (by decide) ?_
  have hPc := hP.sub (ws' := [(h0, .inr (10, oF q)), ((q 15), .inl ((cq 15), 7, .inl (fun _ => 0)))]) [0, 1] rfl
  have hDc := hD.sub (ws' := [(h0, .inr (10, oF q)), ((q 15), .inl ((cq 15), 7, .inl (fun _ => 0)))]) [0, 1] (by decide) rfl
  have hKc := hK.sub (tys' := [((cq 15), .int)]) [0] rfl
  have hFc := va_free (wc := [(h0, .inr (10, oF q)), ((q 15), .inl ((cq 15), 7, .inl (fun _ => 0)))]) hD hS hA [0, 1] rfl
  refine va_calli (va_runV (As := [.int (-1)]) (rest := []) ⟨hx, hb, hml, hown, hts⟩ (c_X10_refuse l dC dI H.size h0 q cq (-1) (by unfold vp_in; decide)) (cwV 1 hts gX10_stands_X10_refuse rfl rfl rfl (by decide +kernel) ⟨(Nat.le_of_ble_eq_true rfl), (Nat.le_of_ble_eq_true rfl)⟩) (pr_V (r := (RX10, TX10, 16)) hPc hKc hDc 0 10 rfl rfl) rfl rfl hl.1 rfl (lv_room (Nat.le_of_ble_eq_true rfl)) dX10_stands_27 ⟨(Nat.le_of_ble_eq_true rfl), (Nat.le_of_ble_eq_true rfl)⟩) hS (fun q _ h => hFc q h) hFc (fun r_6 u t H locs ht hvm w_5 hB hz1 hk1 hS => ?_)
  subst w_5
  exact W.iret (v := (-1)) hx hb hr (fun t ht hW => ⟨⟨(-1), (), rfl, rfl, trivial⟩, hS.F ht⟩) hS.2.2 dX10_stands_30
set_option maxHeartbeats 4000000 in
set_option maxRecDepth 100000 in
theorem c_X10_rations (l : Launch) (dC : Nat → ClassId) (dI : Nat → Nat → Nat) (sz : Nat) (h0 : Nat) (q : Nat → Nat) (cq : Nat → ClassId) (a1 : Int32) (a2 : Int32) (a3 : Int32) : Met l yX10_rations wsX10_rations ({ frames := 1, cells := 0, slots := 0, locals := 21 }) (va_Pc [.ref h0, .int a1, .int a2, .int a3] (pcW (dC, dI) [((cq 15), .int)] [(h0, .inr (10, oF q)), ((q 15), .inl ((cq 15), 7, .inl (fun _ => 0)))] sz)) (va_Qi (fun (r : Int32) (u : Unit) => r = (-1)) (fun _ _ => True) (va_A [(h0, .inr (10, oF q)), ((q 15), .inl ((cq 15), 7, .inl (fun _ => 0)))] sz)) 0 0 (va_A [(h0, .inr (10, oF q)), ((q 15), .inl ((cq 15), 7, .inl (fun _ => 0)))] sz) := by
  refine Met.ofW (cc := cX10_rations) (maxL := 5) (ret := (some .int)) (by decide) rfl ?_
  intro p e s m args below meth c s₁ B hml hv
  obtain ⟨rfl, hsz, hP, hK, hD0⟩ := hv
  have hx := B.exec
  have hb := B.bytes
  have hr := B.returns
  have hts := atoms_spec (ws := wsX10_rations) B.pre
  have hown : s.vm.findClass RX10 = some m.cls := findClass_of_methodNamed B.named
  have hlocks := B.notSynchronized
  subst hsz
  have hD := hD0.self (sz := s.heap.size)
  generalize hAe : va_A [(h0, .inr (10, oF q)), ((q 15), .inl ((cq 15), 7, .inl (fun _ => 0)))] s.heap.size = A at hD ⊢
  have hA : ∀ q : Nat, s.heap.size ≤ q → A q := fun q h => by rw [← hAe]; exact Or.inr h
  have hS : va_S A s.heap s.heap [] := va_S.rf
  have hP : va_P (dC, dI) vwCl [(h0, .inr (10, oF q)), ((q 15), .inl ((cq 15), 7, .inl (fun _ => 0)))] s.heap := hP
  have hl := lv_entry ([.ref h0, .int a1, .int a2, .int a3]) (n := 5) (Nat.le_of_ble_eq_true rfl)
  rw [lg_entry_eq]
  generalize (lg_sl ([.ref h0, .int a1, .int a2, .int a3]) ++ List.replicate (5 - (lg_sl ([.ref h0, .int a1, .int a2, .int a3])).length) Slot.unset).toArray = ls at hl ⊢
  have hl : lv_has ls 5 [(0, .ref h0), (1, .int a1), (2, .int a2), (3, .int a3)] := hl
  refine lv_aload_n hx hb dX10_rations_0 rfl (lv_at hl 0 rfl) ?_
  refine lv_iload_n hx hb dX10_rations_1 rfl (lv_at hl 1 rfl) ?_
  have hPc := hP.sub (ws' := [(h0, .inr (10, oF q))]) [0] rfl
  have hDc := hD.sub (ws' := [(h0, .inr (10, oF q))]) [0] (by decide) rfl
  have hKc := hK.sub (tys' := []) [] rfl
  have hFc : ∀ q, va_A [] s.heap.size q → A q := pu_free hS hA
  refine va_callq (va_runV (As := [.int a1]) (rest := []) ⟨hx, hb, hml, hown, hts⟩ (c_X10_agreementAt l dC dI s.heap.size h0 q cq a1) (cwV 1 hts gX10_rations_X10_agreementAt rfl rfl rfl (by decide +kernel) ⟨(Nat.le_of_ble_eq_true rfl), (Nat.le_of_ble_eq_true rfl)⟩) (pr_V (r := (RX10, TX10, 16)) hPc hKc hDc 0 10 rfl rfl) rfl rfl hl.1 rfl (lv_room (Nat.le_of_ble_eq_true rfl)) dX10_rations_2 ⟨(Nat.le_of_ble_eq_true rfl), (Nat.le_of_ble_eq_true rfl)⟩) hS (fun q _ h => hFc q h) hFc (fun r_2 u t H locs ht hvm w_1 hB hz1 hk1 hS => ?_)
  have hP := pu_keep hP hk1
  clear hk1 hz1 hvm hB hPc hDc hKc hFc ht
  subst w_1
  refine W.eq (g2 := F0 m 5 ls [.null]) rfl ?_
  refine lv_astoreN (lv' := [(4, .null), (0, .ref h0), (1, .int a1), (2, .int a2), (3, .int a3)]) hx hb dX10_rations_5 hl (by decide) rfl (fun ls hl => ?_)
  refine lv_aloadN hx hb dX10_rations_7 (lv_at hl 0 rfl) ?_
  refine lv_ifnonnullN hx hb dX10_rations_9 ?_
  refine lv_aload_n hx hb dX10_rations_12 rfl (lv_at hl 1 rfl) ?_
  refine lv_iconst (v := (-1)) hx hb dX10_rations_13 (by decide) ?_
  have hPc := hP.sub (ws' := [(h0, .inr (10, oF q)), ((q 15), .inl ((cq 15), 7, .inl (fun _ => 0)))]) [0, 1] rfl
  have hDc := hD.sub (ws' := [(h0, .inr (10, oF q)), ((q 15), .inl ((cq 15), 7, .inl (fun _ => 0)))]) [0, 1] (by decide) rfl
  have hKc := hK.sub (tys' := [((cq 15), .int)]) [0] rfl
  have hFc := va_free (wc := [(h0, .inr (10, oF q)), ((q 15), .inl ((cq 15), 7, .inl (fun _ => 0)))]) hD hS hA [0, 1] rfl
  refine va_calli (va_runV (As := [.int (-1)]) (rest := []) ⟨hx, hb, hml, hown, hts⟩ (c_X10_refuse l dC dI H.size h0 q cq (-1) (by unfold vp_in; decide)) (cwV 1 hts gX10_rations_X10_refuse rfl rfl rfl (by decide +kernel) ⟨(Nat.le_of_ble_eq_true rfl), (Nat.le_of_ble_eq_true rfl)⟩) (pr_V (r := (RX10, TX10, 16)) hPc hKc hDc 0 10 rfl rfl) rfl rfl hl.1 rfl (lv_room (Nat.le_of_ble_eq_true rfl)) dX10_rations_14 ⟨(Nat.le_of_ble_eq_true rfl), (Nat.le_of_ble_eq_true rfl)⟩) hS (fun q _ h => hFc q h) hFc (fun r_4 u t H locs ht hvm w_3 hB hz1 hk1 hS => ?_)
  subst w_3
  exact W.iret (v := (-1)) hx hb hr (fun t ht hW => ⟨⟨(-1), (), rfl, rfl, trivial⟩, hS.F ht⟩) hS.2.2 dX10_rations_17
set_option maxHeartbeats 4000000 in
set_option maxRecDepth 100000 in
theorem c_X10_agreementOf (l : Launch) (dC : Nat → ClassId) (dI : Nat → Nat → Nat) (sz : Nat) (h0 : Nat) (q : Nat → Nat) (cq : Nat → ClassId) (a1 : Int32) (a2 : Int32) : Met l yX10_agreementOf wsX10_agreementOf ({ frames := 1, cells := 0, slots := 0, locals := 21 }) (va_Pc [.ref h0, .int a1, .int a2] (pcW (dC, dI) [((cq 15), .int)] [(h0, .inr (10, oF q)), ((q 15), .inl ((cq 15), 7, .inl (fun _ => 0)))] sz)) (va_Qi (fun (r : Int32) (u : Unit) => r = (-1)) (fun _ _ => True) (va_A [(h0, .inr (10, oF q)), ((q 15), .inl ((cq 15), 7, .inl (fun _ => 0)))] sz)) 0 0 (va_A [(h0, .inr (10, oF q)), ((q 15), .inl ((cq 15), 7, .inl (fun _ => 0)))] sz) := by
  refine Met.ofW (cc := cX10_agreementOf) (maxL := 4) (ret := (some .int)) (by decide) rfl ?_
  intro p e s m args below meth c s₁ B hml hv
  obtain ⟨rfl, hsz, hP, hK, hD0⟩ := hv
  have hx := B.exec
  have hb := B.bytes
  have hr := B.returns
  have hts := atoms_spec (ws := wsX10_agreementOf) B.pre
  have hown : s.vm.findClass RX10 = some m.cls := findClass_of_methodNamed B.named
  have hlocks := B.notSynchronized
  subst hsz
  have hD := hD0.self (sz := s.heap.size)
  generalize hAe : va_A [(h0, .inr (10, oF q)), ((q 15), .inl ((cq 15), 7, .inl (fun _ => 0)))] s.heap.size = A at hD ⊢
  have hA : ∀ q : Nat, s.heap.size ≤ q → A q := fun q h => by rw [← hAe]; exact Or.inr h
  have hS : va_S A s.heap s.heap [] := va_S.rf
  have hP : va_P (dC, dI) vwCl [(h0, .inr (10, oF q)), ((q 15), .inl ((cq 15), 7, .inl (fun _ => 0)))] s.heap := hP
  have hl := lv_entry ([.ref h0, .int a1, .int a2]) (n := 4) (Nat.le_of_ble_eq_true rfl)
  rw [lg_entry_eq]
  generalize (lg_sl ([.ref h0, .int a1, .int a2]) ++ List.replicate (4 - (lg_sl ([.ref h0, .int a1, .int a2])).length) Slot.unset).toArray = ls at hl ⊢
  have hl : lv_has ls 4 [(0, .ref h0), (1, .int a1), (2, .int a2)] := hl
  refine lv_aload_n hx hb dX10_agreementOf_0 rfl (lv_at hl 0 rfl) ?_
  refine lv_iload_n hx hb dX10_agreementOf_1 rfl (lv_at hl 1 rfl) ?_
  have hPc := hP.sub (ws' := [(h0, .inr (10, oF q))]) [0] rfl
  have hDc := hD.sub (ws' := [(h0, .inr (10, oF q))]) [0] (by decide) rfl
  have hKc := hK.sub (tys' := []) [] rfl
  have hFc : ∀ q, va_A [] s.heap.size q → A q := pu_free hS hA
  refine va_callq (va_runV (As := [.int a1]) (rest := []) ⟨hx, hb, hml, hown, hts⟩ (c_X10_agreementAt l dC dI s.heap.size h0 q cq a1) (cwV 1 hts gX10_agreementOf_X10_agreementAt rfl rfl rfl (by decide +kernel) ⟨(Nat.le_of_ble_eq_true rfl), (Nat.le_of_ble_eq_true rfl)⟩) (pr_V (r := (RX10, TX10, 16)) hPc hKc hDc 0 10 rfl rfl) rfl rfl hl.1 rfl (lv_room (Nat.le_of_ble_eq_true rfl)) dX10_agreementOf_2 ⟨(Nat.le_of_ble_eq_true rfl), (Nat.le_of_ble_eq_true rfl)⟩) hS (fun q _ h => hFc q h) hFc (fun r_2 u t H locs ht hvm w_1 hB hz1 hk1 hS => ?_)
  have hP := pu_keep hP hk1
  clear hk1 hz1 hvm hB hPc hDc hKc hFc ht
  subst w_1
  refine W.eq (g2 := F0 m 5 ls [.null]) rfl ?_
  refine lv_astore_nN (lv' := [(3, .null), (0, .ref h0), (1, .int a1), (2, .int a2)]) hx hb dX10_agreementOf_5 rfl hl (by decide) rfl (fun ls hl => ?_)
  refine lv_aload_nN hx hb dX10_agreementOf_6 rfl (lv_at hl 0 rfl) ?_
  refine lv_ifnonnullN hx hb dX10_agreementOf_7 ?_
  refine lv_aload_n hx hb dX10_agreementOf_10 rfl (lv_at hl 1 rfl) ?_
  refine lv_iconst (v := (-1)) hx hb dX10_agreementOf_11 (by decide) ?_
  have hPc := hP.sub (ws' := [(h0, .inr (10, oF q)), ((q 15), .inl ((cq 15), 7, .inl (fun _ => 0)))]) [0, 1] rfl
  have hDc := hD.sub (ws' := [(h0, .inr (10, oF q)), ((q 15), .inl ((cq 15), 7, .inl (fun _ => 0)))]) [0, 1] (by decide) rfl
  have hKc := hK.sub (tys' := [((cq 15), .int)]) [0] rfl
  have hFc := va_free (wc := [(h0, .inr (10, oF q)), ((q 15), .inl ((cq 15), 7, .inl (fun _ => 0)))]) hD hS hA [0, 1] rfl
  refine va_calli (va_runV (As := [.int (-1)]) (rest := []) ⟨hx, hb, hml, hown, hts⟩ (c_X10_refuse l dC dI H.size h0 q cq (-1) (by unfold vp_in; decide)) (cwV 1 hts gX10_agreementOf_X10_refuse rfl rfl rfl (by decide +kernel) ⟨(Nat.le_of_ble_eq_true rfl), (Nat.le_of_ble_eq_true rfl)⟩) (pr_V (r := (RX10, TX10, 16)) hPc hKc hDc 0 10 rfl rfl) rfl rfl hl.1 rfl (lv_room (Nat.le_of_ble_eq_true rfl)) dX10_agreementOf_12 ⟨(Nat.le_of_ble_eq_true rfl), (Nat.le_of_ble_eq_true rfl)⟩) hS (fun q _ h => hFc q h) hFc (fun r_4 u t H locs ht hvm w_3 hB hz1 hk1 hS => ?_)
  subst w_3
  exact W.iret (v := (-1)) hx hb hr (fun t ht hW => ⟨⟨(-1), (), rfl, rfl, trivial⟩, hS.F ht⟩) hS.2.2 dX10_agreementOf_15
set_option maxHeartbeats 4000000 in
set_option maxRecDepth 100000 in
theorem c_X10_aboard (l : Launch) (dC : Nat → ClassId) (dI : Nat → Nat → Nat) (sz : Nat) (h0 : Nat) (q : Nat → Nat) (cq : Nat → ClassId) (a1 : Int32) (a2 : Int32) (a3 : Int32) : Met l yX10_aboard wsX10_aboard ({ frames := 1, cells := 0, slots := 0, locals := 21 }) (va_Pc [.ref h0, .int a1, .int a2, .int a3] (pcW (dC, dI) [((cq 15), .int)] [(h0, .inr (10, oF q)), ((q 15), .inl ((cq 15), 7, .inl (fun _ => 0)))] sz)) (va_Qi (fun (r : Int32) (u : Unit) => r = (-1)) (fun _ _ => True) (va_A [(h0, .inr (10, oF q)), ((q 15), .inl ((cq 15), 7, .inl (fun _ => 0)))] sz)) 0 0 (va_A [(h0, .inr (10, oF q)), ((q 15), .inl ((cq 15), 7, .inl (fun _ => 0)))] sz) := by
  refine Met.ofW (cc := cX10_aboard) (maxL := 6) (ret := (some .int)) (by decide) rfl ?_
  intro p e s m args below meth c s₁ B hml hv
  obtain ⟨rfl, hsz, hP, hK, hD0⟩ := hv
  have hx := B.exec
  have hb := B.bytes
  have hr := B.returns
  have hts := atoms_spec (ws := wsX10_aboard) B.pre
  have hown : s.vm.findClass RX10 = some m.cls := findClass_of_methodNamed B.named
  have hlocks := B.notSynchronized
  subst hsz
  have hD := hD0.self (sz := s.heap.size)
  generalize hAe : va_A [(h0, .inr (10, oF q)), ((q 15), .inl ((cq 15), 7, .inl (fun _ => 0)))] s.heap.size = A at hD ⊢
  have hA : ∀ q : Nat, s.heap.size ≤ q → A q := fun q h => by rw [← hAe]; exact Or.inr h
  have hS : va_S A s.heap s.heap [] := va_S.rf
  have hP : va_P (dC, dI) vwCl [(h0, .inr (10, oF q)), ((q 15), .inl ((cq 15), 7, .inl (fun _ => 0)))] s.heap := hP
  have hl := lv_entry ([.ref h0, .int a1, .int a2, .int a3]) (n := 6) (Nat.le_of_ble_eq_true rfl)
  rw [lg_entry_eq]
  generalize (lg_sl ([.ref h0, .int a1, .int a2, .int a3]) ++ List.replicate (6 - (lg_sl ([.ref h0, .int a1, .int a2, .int a3])).length) Slot.unset).toArray = ls at hl ⊢
  have hl : lv_has ls 6 [(0, .ref h0), (1, .int a1), (2, .int a2), (3, .int a3)] := hl
  refine lv_aload_n hx hb dX10_aboard_0 rfl (lv_at hl 0 rfl) ?_
  refine lv_iload_n hx hb dX10_aboard_1 rfl (lv_at hl 1 rfl) ?_
  have hPc := hP.sub (ws' := [(h0, .inr (10, oF q))]) [0] rfl
  have hDc := hD.sub (ws' := [(h0, .inr (10, oF q))]) [0] (by decide) rfl
  have hKc := hK.sub (tys' := []) [] rfl
  have hFc : ∀ q, va_A [] s.heap.size q → A q := pu_free hS hA
  refine va_callq (va_runV (As := [.int a1]) (rest := []) ⟨hx, hb, hml, hown, hts⟩ (c_X10_voyageAt l dC dI s.heap.size h0 q cq a1) (cwV 1 hts gX10_aboard_X10_voyageAt rfl rfl rfl (by decide +kernel) ⟨(Nat.le_of_ble_eq_true rfl), (Nat.le_of_ble_eq_true rfl)⟩) (pr_V (r := (RX10, TX10, 16)) hPc hKc hDc 0 10 rfl rfl) rfl rfl hl.1 rfl (lv_room (Nat.le_of_ble_eq_true rfl)) dX10_aboard_2 ⟨(Nat.le_of_ble_eq_true rfl), (Nat.le_of_ble_eq_true rfl)⟩) hS (fun q _ h => hFc q h) hFc (fun r_2 u t H locs ht hvm w_1 hB hz1 hk1 hS => ?_)
  have hP := pu_keep hP hk1
  clear hk1 hz1 hvm hB hPc hDc hKc hFc ht
  subst w_1
  refine W.eq (g2 := F0 m 5 ls [.null]) rfl ?_
  refine lv_astoreN (lv' := [(4, .null), (0, .ref h0), (1, .int a1), (2, .int a2), (3, .int a3)]) hx hb dX10_aboard_5 hl (by decide) rfl (fun ls hl => ?_)
  refine lv_aloadN hx hb dX10_aboard_7 (lv_at hl 0 rfl) ?_
  refine lv_ifnonnullN hx hb dX10_aboard_9 ?_
  refine lv_aload_n hx hb dX10_aboard_12 rfl (lv_at hl 1 rfl) ?_
  refine lv_iconst (v := (-1)) hx hb dX10_aboard_13 (by decide) ?_
  have hPc := hP.sub (ws' := [(h0, .inr (10, oF q)), ((q 15), .inl ((cq 15), 7, .inl (fun _ => 0)))]) [0, 1] rfl
  have hDc := hD.sub (ws' := [(h0, .inr (10, oF q)), ((q 15), .inl ((cq 15), 7, .inl (fun _ => 0)))]) [0, 1] (by decide) rfl
  have hKc := hK.sub (tys' := [((cq 15), .int)]) [0] rfl
  have hFc := va_free (wc := [(h0, .inr (10, oF q)), ((q 15), .inl ((cq 15), 7, .inl (fun _ => 0)))]) hD hS hA [0, 1] rfl
  refine va_calli (va_runV (As := [.int (-1)]) (rest := []) ⟨hx, hb, hml, hown, hts⟩ (c_X10_refuse l dC dI H.size h0 q cq (-1) (by unfold vp_in; decide)) (cwV 1 hts gX10_aboard_X10_refuse rfl rfl rfl (by decide +kernel) ⟨(Nat.le_of_ble_eq_true rfl), (Nat.le_of_ble_eq_true rfl)⟩) (pr_V (r := (RX10, TX10, 16)) hPc hKc hDc 0 10 rfl rfl) rfl rfl hl.1 rfl (lv_room (Nat.le_of_ble_eq_true rfl)) dX10_aboard_14 ⟨(Nat.le_of_ble_eq_true rfl), (Nat.le_of_ble_eq_true rfl)⟩) hS (fun q _ h => hFc q h) hFc (fun r_4 u t H locs ht hvm w_3 hB hz1 hk1 hS => ?_)
  subst w_3
  exact W.iret (v := (-1)) hx hb hr (fun t ht hW => ⟨⟨(-1), (), rfl, rfl, trivial⟩, hS.F ht⟩) hS.2.2 dX10_aboard_17
set_option maxHeartbeats 4000000 in
set_option maxRecDepth 100000 in
theorem c_X10_group (l : Launch) (dC : Nat → ClassId) (dI : Nat → Nat → Nat) (sz : Nat) (h0 : Nat) (q : Nat → Nat) (cq : Nat → ClassId) (a1 : Int32) : Met l yX10_group wsX10_group ({ frames := 1, cells := 0, slots := 0, locals := 21 }) (va_Pc [.ref h0, .int a1] (pcW (dC, dI) [((cq 15), .int)] [(h0, .inr (10, oF q)), ((q 15), .inl ((cq 15), 7, .inl (fun _ => 0)))] sz)) (va_Qi (fun (r : Int32) (u : Unit) => r = (-1)) (fun _ _ => True) (va_A [(h0, .inr (10, oF q)), ((q 15), .inl ((cq 15), 7, .inl (fun _ => 0)))] sz)) 0 0 (va_A [(h0, .inr (10, oF q)), ((q 15), .inl ((cq 15), 7, .inl (fun _ => 0)))] sz) := by
  refine Met.ofW (cc := cX10_group) (maxL := 3) (ret := (some .int)) (by decide) rfl ?_
  intro p e s m args below meth c s₁ B hml hv
  obtain ⟨rfl, hsz, hP, hK, hD0⟩ := hv
  have hx := B.exec
  have hb := B.bytes
  have hr := B.returns
  have hts := atoms_spec (ws := wsX10_group) B.pre
  have hown : s.vm.findClass RX10 = some m.cls := findClass_of_methodNamed B.named
  have hlocks := B.notSynchronized
  subst hsz
  have hD := hD0.self (sz := s.heap.size)
  generalize hAe : va_A [(h0, .inr (10, oF q)), ((q 15), .inl ((cq 15), 7, .inl (fun _ => 0)))] s.heap.size = A at hD ⊢
  have hA : ∀ q : Nat, s.heap.size ≤ q → A q := fun q h => by rw [← hAe]; exact Or.inr h
  have hS : va_S A s.heap s.heap [] := va_S.rf
  have hP : va_P (dC, dI) vwCl [(h0, .inr (10, oF q)), ((q 15), .inl ((cq 15), 7, .inl (fun _ => 0)))] s.heap := hP
  have hl := lv_entry ([.ref h0, .int a1]) (n := 3) (Nat.le_of_ble_eq_true rfl)
  rw [lg_entry_eq]
  generalize (lg_sl ([.ref h0, .int a1]) ++ List.replicate (3 - (lg_sl ([.ref h0, .int a1])).length) Slot.unset).toArray = ls at hl ⊢
  have hl : lv_has ls 3 [(0, .ref h0), (1, .int a1)] := hl
  refine lv_aload_n hx hb dX10_group_0 rfl (lv_at hl 0 rfl) ?_
  refine lv_iload_n hx hb dX10_group_1 rfl (lv_at hl 1 rfl) ?_
  have hPc := hP.sub (ws' := [(h0, .inr (10, oF q))]) [0] rfl
  have hDc := hD.sub (ws' := [(h0, .inr (10, oF q))]) [0] (by decide) rfl
  have hKc := hK.sub (tys' := []) [] rfl
  have hFc : ∀ q, va_A [] s.heap.size q → A q := pu_free hS hA
  refine va_callq (va_runV (As := [.int a1]) (rest := []) ⟨hx, hb, hml, hown, hts⟩ (c_X10_manAt l dC dI s.heap.size h0 q cq a1) (cwV 1 hts gX10_group_X10_manAt rfl rfl rfl (by decide +kernel) ⟨(Nat.le_of_ble_eq_true rfl), (Nat.le_of_ble_eq_true rfl)⟩) (pr_V (r := (RX10, TX10, 16)) hPc hKc hDc 0 10 rfl rfl) rfl rfl hl.1 rfl (lv_room (Nat.le_of_ble_eq_true rfl)) dX10_group_2 ⟨(Nat.le_of_ble_eq_true rfl), (Nat.le_of_ble_eq_true rfl)⟩) hS (fun q _ h => hFc q h) hFc (fun r_2 u t H locs ht hvm w_1 hB hz1 hk1 hS => ?_)
  have hP := pu_keep hP hk1
  clear hk1 hz1 hvm hB hPc hDc hKc hFc ht
  subst w_1
  refine W.eq (g2 := F0 m 5 ls [.null]) rfl ?_
  refine lv_astore_nN (lv' := [(2, .null), (0, .ref h0), (1, .int a1)]) hx hb dX10_group_5 rfl hl (by decide) rfl (fun ls hl => ?_)
  refine lv_aload_nN hx hb dX10_group_6 rfl (lv_at hl 0 rfl) ?_
  refine lv_ifnonnullN hx hb dX10_group_7 ?_
  refine lv_aload_n hx hb dX10_group_10 rfl (lv_at hl 1 rfl) ?_
  refine lv_iconst (v := (-1)) hx hb dX10_group_11 (by decide) ?_
  have hPc := hP.sub (ws' := [(h0, .inr (10, oF q)), ((q 15), .inl ((cq 15), 7, .inl (fun _ => 0)))]) [0, 1] rfl
  have hDc := hD.sub (ws' := [(h0, .inr (10, oF q)), ((q 15), .inl ((cq 15), 7, .inl (fun _ => 0)))]) [0, 1] (by decide) rfl
  have hKc := hK.sub (tys' := [((cq 15), .int)]) [0] rfl
  have hFc := va_free (wc := [(h0, .inr (10, oF q)), ((q 15), .inl ((cq 15), 7, .inl (fun _ => 0)))]) hD hS hA [0, 1] rfl
  refine va_calli (va_runV (As := [.int (-1)]) (rest := []) ⟨hx, hb, hml, hown, hts⟩ (c_X10_refuse l dC dI H.size h0 q cq (-1) (by unfold vp_in; decide)) (cwV 1 hts gX10_group_X10_refuse rfl rfl rfl (by decide +kernel) ⟨(Nat.le_of_ble_eq_true rfl), (Nat.le_of_ble_eq_true rfl)⟩) (pr_V (r := (RX10, TX10, 16)) hPc hKc hDc 0 10 rfl rfl) rfl rfl hl.1 rfl (lv_room (Nat.le_of_ble_eq_true rfl)) dX10_group_12 ⟨(Nat.le_of_ble_eq_true rfl), (Nat.le_of_ble_eq_true rfl)⟩) hS (fun q _ h => hFc q h) hFc (fun r_4 u t H locs ht hvm w_3 hB hz1 hk1 hS => ?_)
  subst w_3
  refine lv_goto (tgt := 22) hx hb dX10_group_15 (by decide) ?_
  exact W.iret (v := (-1)) hx hb hr (fun t ht hW => ⟨⟨(-1), (), rfl, rfl, trivial⟩, hS.F ht⟩) hS.2.2 dX10_group_22
set_option maxHeartbeats 4000000 in
set_option maxRecDepth 100000 in
theorem c_X10_borrowed (l : Launch) (dC : Nat → ClassId) (dI : Nat → Nat → Nat) (sz : Nat) (h0 : Nat) (q : Nat → Nat) (cq : Nat → ClassId) (a1 : Int32) : Met l yX10_borrowed wsX10_borrowed ({ frames := 1, cells := 0, slots := 0, locals := 21 }) (va_Pc [.ref h0, .int a1] (pcW (dC, dI) [((cq 15), .int)] [(h0, .inr (10, oF q)), ((q 15), .inl ((cq 15), 7, .inl (fun _ => 0)))] sz)) (va_Qi (fun (r : Int32) (u : Unit) => r = (-1)) (fun _ _ => True) (va_A [(h0, .inr (10, oF q)), ((q 15), .inl ((cq 15), 7, .inl (fun _ => 0)))] sz)) 0 0 (va_A [(h0, .inr (10, oF q)), ((q 15), .inl ((cq 15), 7, .inl (fun _ => 0)))] sz) := by
  refine Met.ofW (cc := cX10_borrowed) (maxL := 3) (ret := (some .int)) (by decide) rfl ?_
  intro p e s m args below meth c s₁ B hml hv
  obtain ⟨rfl, hsz, hP, hK, hD0⟩ := hv
  have hx := B.exec
  have hb := B.bytes
  have hr := B.returns
  have hts := atoms_spec (ws := wsX10_borrowed) B.pre
  have hown : s.vm.findClass RX10 = some m.cls := findClass_of_methodNamed B.named
  have hlocks := B.notSynchronized
  subst hsz
  have hD := hD0.self (sz := s.heap.size)
  generalize hAe : va_A [(h0, .inr (10, oF q)), ((q 15), .inl ((cq 15), 7, .inl (fun _ => 0)))] s.heap.size = A at hD ⊢
  have hA : ∀ q : Nat, s.heap.size ≤ q → A q := fun q h => by rw [← hAe]; exact Or.inr h
  have hS : va_S A s.heap s.heap [] := va_S.rf
  have hP : va_P (dC, dI) vwCl [(h0, .inr (10, oF q)), ((q 15), .inl ((cq 15), 7, .inl (fun _ => 0)))] s.heap := hP
  have hl := lv_entry ([.ref h0, .int a1]) (n := 3) (Nat.le_of_ble_eq_true rfl)
  rw [lg_entry_eq]
  generalize (lg_sl ([.ref h0, .int a1]) ++ List.replicate (3 - (lg_sl ([.ref h0, .int a1])).length) Slot.unset).toArray = ls at hl ⊢
  have hl : lv_has ls 3 [(0, .ref h0), (1, .int a1)] := hl
  refine lv_aload_n hx hb dX10_borrowed_0 rfl (lv_at hl 0 rfl) ?_
  refine lv_iload_n hx hb dX10_borrowed_1 rfl (lv_at hl 1 rfl) ?_
  have hPc := hP.sub (ws' := [(h0, .inr (10, oF q))]) [0] rfl
  have hDc := hD.sub (ws' := [(h0, .inr (10, oF q))]) [0] (by decide) rfl
  have hKc := hK.sub (tys' := []) [] rfl
  have hFc : ∀ q, va_A [] s.heap.size q → A q := pu_free hS hA
  refine va_callq (va_runV (As := [.int a1]) (rest := []) ⟨hx, hb, hml, hown, hts⟩ (c_X10_agreementAt l dC dI s.heap.size h0 q cq a1) (cwV 1 hts gX10_borrowed_X10_agreementAt rfl rfl rfl (by decide +kernel) ⟨(Nat.le_of_ble_eq_true rfl), (Nat.le_of_ble_eq_true rfl)⟩) (pr_V (r := (RX10, TX10, 16)) hPc hKc hDc 0 10 rfl rfl) rfl rfl hl.1 rfl (lv_room (Nat.le_of_ble_eq_true rfl)) dX10_borrowed_2 ⟨(Nat.le_of_ble_eq_true rfl), (Nat.le_of_ble_eq_true rfl)⟩) hS (fun q _ h => hFc q h) hFc (fun r_2 u t H locs ht hvm w_1 hB hz1 hk1 hS => ?_)
  have hP := pu_keep hP hk1
  clear hk1 hz1 hvm hB hPc hDc hKc hFc ht
  subst w_1
  refine W.eq (g2 := F0 m 5 ls [.null]) rfl ?_
  refine lv_astore_nN (lv' := [(2, .null), (0, .ref h0), (1, .int a1)]) hx hb dX10_borrowed_5 rfl hl (by decide) rfl (fun ls hl => ?_)
  refine lv_aload_nN hx hb dX10_borrowed_6 rfl (lv_at hl 0 rfl) ?_
  refine lv_ifnonnullN hx hb dX10_borrowed_7 ?_
  refine lv_aload_n hx hb dX10_borrowed_10 rfl (lv_at hl 1 rfl) ?_
  refine lv_iconst (v := (-1)) hx hb dX10_borrowed_11 (by decide) ?_
  have hPc := hP.sub (ws' := [(h0, .inr (10, oF q)), ((q 15), .inl ((cq 15), 7, .inl (fun _ => 0)))]) [0, 1] rfl
  have hDc := hD.sub (ws' := [(h0, .inr (10, oF q)), ((q 15), .inl ((cq 15), 7, .inl (fun _ => 0)))]) [0, 1] (by decide) rfl
  have hKc := hK.sub (tys' := [((cq 15), .int)]) [0] rfl
  have hFc := va_free (wc := [(h0, .inr (10, oF q)), ((q 15), .inl ((cq 15), 7, .inl (fun _ => 0)))]) hD hS hA [0, 1] rfl
  refine va_calli (va_runV (As := [.int (-1)]) (rest := []) ⟨hx, hb, hml, hown, hts⟩ (c_X10_refuse l dC dI H.size h0 q cq (-1) (by unfold vp_in; decide)) (cwV 1 hts gX10_borrowed_X10_refuse rfl rfl rfl (by decide +kernel) ⟨(Nat.le_of_ble_eq_true rfl), (Nat.le_of_ble_eq_true rfl)⟩) (pr_V (r := (RX10, TX10, 16)) hPc hKc hDc 0 10 rfl rfl) rfl rfl hl.1 rfl (lv_room (Nat.le_of_ble_eq_true rfl)) dX10_borrowed_12 ⟨(Nat.le_of_ble_eq_true rfl), (Nat.le_of_ble_eq_true rfl)⟩) hS (fun q _ h => hFc q h) hFc (fun r_4 u t H locs ht hvm w_3 hB hz1 hk1 hS => ?_)
  subst w_3
  exact W.iret (v := (-1)) hx hb hr (fun t ht hW => ⟨⟨(-1), (), rfl, rfl, trivial⟩, hS.F ht⟩) hS.2.2 dX10_borrowed_15
set_option maxHeartbeats 4000000 in
set_option maxRecDepth 100000 in
theorem c_X10_home (l : Launch) (dC : Nat → ClassId) (dI : Nat → Nat → Nat) (sz : Nat) (h0 : Nat) (q : Nat → Nat) (cq : Nat → ClassId) (a1 : Int32) : Met l yX10_home wsX10_home ({ frames := 1, cells := 0, slots := 0, locals := 21 }) (va_Pc [.ref h0, .int a1] (pcW (dC, dI) [((cq 15), .int)] [(h0, .inr (10, oF q)), ((q 15), .inl ((cq 15), 7, .inl (fun _ => 0)))] sz)) (va_Qi (fun (r : Int32) (u : Unit) => r = (-1)) (fun _ _ => True) (va_A [(h0, .inr (10, oF q)), ((q 15), .inl ((cq 15), 7, .inl (fun _ => 0)))] sz)) 0 0 (va_A [(h0, .inr (10, oF q)), ((q 15), .inl ((cq 15), 7, .inl (fun _ => 0)))] sz) := by
  refine Met.ofW (cc := cX10_home) (maxL := 6) (ret := (some .int)) (by decide) rfl ?_
  intro p e s m args below meth c s₁ B hml hv
  obtain ⟨rfl, hsz, hP, hK, hD0⟩ := hv
  have hx := B.exec
  have hb := B.bytes
  have hr := B.returns
  have hts := atoms_spec (ws := wsX10_home) B.pre
  have hown : s.vm.findClass RX10 = some m.cls := findClass_of_methodNamed B.named
  have hlocks := B.notSynchronized
  subst hsz
  have hD := hD0.self (sz := s.heap.size)
  generalize hAe : va_A [(h0, .inr (10, oF q)), ((q 15), .inl ((cq 15), 7, .inl (fun _ => 0)))] s.heap.size = A at hD ⊢
  have hA : ∀ q : Nat, s.heap.size ≤ q → A q := fun q h => by rw [← hAe]; exact Or.inr h
  have hS : va_S A s.heap s.heap [] := va_S.rf
  have hP : va_P (dC, dI) vwCl [(h0, .inr (10, oF q)), ((q 15), .inl ((cq 15), 7, .inl (fun _ => 0)))] s.heap := hP
  have hl := lv_entry ([.ref h0, .int a1]) (n := 6) (Nat.le_of_ble_eq_true rfl)
  rw [lg_entry_eq]
  generalize (lg_sl ([.ref h0, .int a1]) ++ List.replicate (6 - (lg_sl ([.ref h0, .int a1])).length) Slot.unset).toArray = ls at hl ⊢
  have hl : lv_has ls 6 [(0, .ref h0), (1, .int a1)] := hl
  refine lv_aload_n hx hb dX10_home_0 rfl (lv_at hl 0 rfl) ?_
  refine lv_iload_n hx hb dX10_home_1 rfl (lv_at hl 1 rfl) ?_
  have hPc := hP.sub (ws' := [(h0, .inr (10, oF q))]) [0] rfl
  have hDc := hD.sub (ws' := [(h0, .inr (10, oF q))]) [0] (by decide) rfl
  have hKc := hK.sub (tys' := []) [] rfl
  have hFc : ∀ q, va_A [] s.heap.size q → A q := pu_free hS hA
  refine va_callq (va_runV (As := [.int a1]) (rest := []) ⟨hx, hb, hml, hown, hts⟩ (c_X10_manAt l dC dI s.heap.size h0 q cq a1) (cwV 1 hts gX10_home_X10_manAt rfl rfl rfl (by decide +kernel) ⟨(Nat.le_of_ble_eq_true rfl), (Nat.le_of_ble_eq_true rfl)⟩) (pr_V (r := (RX10, TX10, 16)) hPc hKc hDc 0 10 rfl rfl) rfl rfl hl.1 rfl (lv_room (Nat.le_of_ble_eq_true rfl)) dX10_home_2 ⟨(Nat.le_of_ble_eq_true rfl), (Nat.le_of_ble_eq_true rfl)⟩) hS (fun q _ h => hFc q h) hFc (fun r_2 u t H locs ht hvm w_1 hB hz1 hk1 hS => ?_)
  have hP := pu_keep hP hk1
  clear hk1 hz1 hvm hB hPc hDc hKc hFc ht
  subst w_1
  refine W.eq (g2 := F0 m 5 ls [.null]) rfl ?_
  refine lv_astore_nN (lv' := [(2, .null), (0, .ref h0), (1, .int a1)]) hx hb dX10_home_5 rfl hl (by decide) rfl (fun ls hl => ?_)
  refine lv_aload_nN hx hb dX10_home_6 rfl (lv_at hl 0 rfl) ?_
  refine lv_ifnonnullN hx hb dX10_home_7 ?_
  refine lv_aload_n hx hb dX10_home_10 rfl (lv_at hl 1 rfl) ?_
  refine lv_iconst (v := (-1)) hx hb dX10_home_11 (by decide) ?_
  have hPc := hP.sub (ws' := [(h0, .inr (10, oF q)), ((q 15), .inl ((cq 15), 7, .inl (fun _ => 0)))]) [0, 1] rfl
  have hDc := hD.sub (ws' := [(h0, .inr (10, oF q)), ((q 15), .inl ((cq 15), 7, .inl (fun _ => 0)))]) [0, 1] (by decide) rfl
  have hKc := hK.sub (tys' := [((cq 15), .int)]) [0] rfl
  have hFc := va_free (wc := [(h0, .inr (10, oF q)), ((q 15), .inl ((cq 15), 7, .inl (fun _ => 0)))]) hD hS hA [0, 1] rfl
  refine va_calli (va_runV (As := [.int (-1)]) (rest := []) ⟨hx, hb, hml, hown, hts⟩ (c_X10_refuse l dC dI H.size h0 q cq (-1) (by unfold vp_in; decide)) (cwV 1 hts gX10_home_X10_refuse rfl rfl rfl (by decide +kernel) ⟨(Nat.le_of_ble_eq_true rfl), (Nat.le_of_ble_eq_true rfl)⟩) (pr_V (r := (RX10, TX10, 16)) hPc hKc hDc 0 10 rfl rfl) rfl rfl hl.1 rfl (lv_room (Nat.le_of_ble_eq_true rfl)) dX10_home_12 ⟨(Nat.le_of_ble_eq_true rfl), (Nat.le_of_ble_eq_true rfl)⟩) hS (fun q _ h => hFc q h) hFc (fun r_4 u t H locs ht hvm w_3 hB hz1 hk1 hS => ?_)
  subst w_3
  exact W.iret (v := (-1)) hx hb hr (fun t ht hW => ⟨⟨(-1), (), rfl, rfl, trivial⟩, hS.F ht⟩) hS.2.2 dX10_home_15
set_option maxHeartbeats 4000000 in
set_option maxRecDepth 100000 in
theorem c_X10_ask (l : Launch) (dC : Nat → ClassId) (dI : Nat → Nat → Nat) (sz : Nat) (h0 : Nat) (q : Nat → Nat) (cq : Nat → ClassId) (a1 : Int32) (a2 : Int32) (a3 : Int32) : Met l yX10_ask wsX10_ask ({ frames := 1, cells := 0, slots := 0, locals := 21 }) (va_Pc [.ref h0, .int a1, .int a2, .int a3] (pcW (dC, dI) [((cq 15), .int)] [(h0, .inr (10, oF q)), ((q 15), .inl ((cq 15), 7, .inl (fun _ => 0)))] sz)) (va_Qi (fun (r : Int32) (u : Unit) => r = (-1)) (fun _ _ => True) (va_A [(h0, .inr (10, oF q)), ((q 15), .inl ((cq 15), 7, .inl (fun _ => 0)))] sz)) 0 0 (va_A [(h0, .inr (10, oF q)), ((q 15), .inl ((cq 15), 7, .inl (fun _ => 0)))] sz) := by
  refine Met.ofW (cc := cX10_ask) (maxL := 6) (ret := (some .int)) (by decide) rfl ?_
  intro p e s m args below meth c s₁ B hml hv
  obtain ⟨rfl, hsz, hP, hK, hD0⟩ := hv
  have hx := B.exec
  have hb := B.bytes
  have hr := B.returns
  have hts := atoms_spec (ws := wsX10_ask) B.pre
  have hown : s.vm.findClass RX10 = some m.cls := findClass_of_methodNamed B.named
  have hlocks := B.notSynchronized
  subst hsz
  have hD := hD0.self (sz := s.heap.size)
  generalize hAe : va_A [(h0, .inr (10, oF q)), ((q 15), .inl ((cq 15), 7, .inl (fun _ => 0)))] s.heap.size = A at hD ⊢
  have hA : ∀ q : Nat, s.heap.size ≤ q → A q := fun q h => by rw [← hAe]; exact Or.inr h
  have hS : va_S A s.heap s.heap [] := va_S.rf
  have hP : va_P (dC, dI) vwCl [(h0, .inr (10, oF q)), ((q 15), .inl ((cq 15), 7, .inl (fun _ => 0)))] s.heap := hP
  have hl := lv_entry ([.ref h0, .int a1, .int a2, .int a3]) (n := 6) (Nat.le_of_ble_eq_true rfl)
  rw [lg_entry_eq]
  generalize (lg_sl ([.ref h0, .int a1, .int a2, .int a3]) ++ List.replicate (6 - (lg_sl ([.ref h0, .int a1, .int a2, .int a3])).length) Slot.unset).toArray = ls at hl ⊢
  have hl : lv_has ls 6 [(0, .ref h0), (1, .int a1), (2, .int a2), (3, .int a3)] := hl
  refine lv_aload_n hx hb dX10_ask_0 rfl (lv_at hl 0 rfl) ?_
  refine lv_iload_n hx hb dX10_ask_1 rfl (lv_at hl 1 rfl) ?_
  have hPc := hP.sub (ws' := [(h0, .inr (10, oF q))]) [0] rfl
  have hDc := hD.sub (ws' := [(h0, .inr (10, oF q))]) [0] (by decide) rfl
  have hKc := hK.sub (tys' := []) [] rfl
  have hFc : ∀ q, va_A [] s.heap.size q → A q := pu_free hS hA
  refine va_callq (va_runV (As := [.int a1]) (rest := []) ⟨hx, hb, hml, hown, hts⟩ (c_X10_manAt l dC dI s.heap.size h0 q cq a1) (cwV 1 hts gX10_ask_X10_manAt rfl rfl rfl (by decide +kernel) ⟨(Nat.le_of_ble_eq_true rfl), (Nat.le_of_ble_eq_true rfl)⟩) (pr_V (r := (RX10, TX10, 16)) hPc hKc hDc 0 10 rfl rfl) rfl rfl hl.1 rfl (lv_room (Nat.le_of_ble_eq_true rfl)) dX10_ask_2 ⟨(Nat.le_of_ble_eq_true rfl), (Nat.le_of_ble_eq_true rfl)⟩) hS (fun q _ h => hFc q h) hFc (fun r_2 u t H locs ht hvm w_1 hB hz1 hk1 hS => ?_)
  have hP := pu_keep hP hk1
  clear hk1 hz1 hvm hB hPc hDc hKc hFc ht
  subst w_1
  refine W.eq (g2 := F0 m 5 ls [.null]) rfl ?_
  refine lv_astoreN (lv' := [(4, .null), (0, .ref h0), (1, .int a1), (2, .int a2), (3, .int a3)]) hx hb dX10_ask_5 hl (by decide) rfl (fun ls hl => ?_)
  refine lv_aloadN hx hb dX10_ask_7 (lv_at hl 0 rfl) ?_
  refine lv_ifnonnullN hx hb dX10_ask_9 ?_
  refine lv_aload_n hx hb dX10_ask_12 rfl (lv_at hl 1 rfl) ?_
  refine lv_iconst (v := (-1)) hx hb dX10_ask_13 (by decide) ?_
  have hPc := hP.sub (ws' := [(h0, .inr (10, oF q)), ((q 15), .inl ((cq 15), 7, .inl (fun _ => 0)))]) [0, 1] rfl
  have hDc := hD.sub (ws' := [(h0, .inr (10, oF q)), ((q 15), .inl ((cq 15), 7, .inl (fun _ => 0)))]) [0, 1] (by decide) rfl
  have hKc := hK.sub (tys' := [((cq 15), .int)]) [0] rfl
  have hFc := va_free (wc := [(h0, .inr (10, oF q)), ((q 15), .inl ((cq 15), 7, .inl (fun _ => 0)))]) hD hS hA [0, 1] rfl
  refine va_calli (va_runV (As := [.int (-1)]) (rest := []) ⟨hx, hb, hml, hown, hts⟩ (c_X10_refuse l dC dI H.size h0 q cq (-1) (by unfold vp_in; decide)) (cwV 1 hts gX10_ask_X10_refuse rfl rfl rfl (by decide +kernel) ⟨(Nat.le_of_ble_eq_true rfl), (Nat.le_of_ble_eq_true rfl)⟩) (pr_V (r := (RX10, TX10, 16)) hPc hKc hDc 0 10 rfl rfl) rfl rfl hl.1 rfl (lv_room (Nat.le_of_ble_eq_true rfl)) dX10_ask_14 ⟨(Nat.le_of_ble_eq_true rfl), (Nat.le_of_ble_eq_true rfl)⟩) hS (fun q _ h => hFc q h) hFc (fun r_4 u t H locs ht hvm w_3 hB hz1 hk1 hS => ?_)
  subst w_3
  exact W.iret (v := (-1)) hx hb hr (fun t ht hW => ⟨⟨(-1), (), rfl, rfl, trivial⟩, hS.F ht⟩) hS.2.2 dX10_ask_17
set_option maxHeartbeats 4000000 in
set_option maxRecDepth 100000 in
theorem c_X10_check (l : Launch) (dC : Nat → ClassId) (dI : Nat → Nat → Nat) (sz : Nat) (h0 : Nat) (q : Nat → Nat) (cq : Nat → ClassId) (a1 : Int32) (a2 : Int32) (a3 : Int32) : Met l yX10_check wsX10_check ({ frames := 1, cells := 0, slots := 0, locals := 21 }) (va_Pc [.ref h0, .int a1, .int a2, .int a3] (pcW (dC, dI) [((cq 15), .int)] [(h0, .inr (10, oF q)), ((q 15), .inl ((cq 15), 7, .inl (fun _ => 0)))] sz)) (va_Qi (fun (r : Int32) (u : Unit) => r = (-1)) (fun _ _ => True) (va_A [(h0, .inr (10, oF q)), ((q 15), .inl ((cq 15), 7, .inl (fun _ => 0)))] sz)) 0 0 (va_A [(h0, .inr (10, oF q)), ((q 15), .inl ((cq 15), 7, .inl (fun _ => 0)))] sz) := by
  refine Met.ofW (cc := cX10_check) (maxL := 9) (ret := (some .int)) (by decide) rfl ?_
  intro p e s m args below meth c s₁ B hml hv
  obtain ⟨rfl, hsz, hP, hK, hD0⟩ := hv
  have hx := B.exec
  have hb := B.bytes
  have hr := B.returns
  have hts := atoms_spec (ws := wsX10_check) B.pre
  have hown : s.vm.findClass RX10 = some m.cls := findClass_of_methodNamed B.named
  have hlocks := B.notSynchronized
  subst hsz
  have hD := hD0.self (sz := s.heap.size)
  generalize hAe : va_A [(h0, .inr (10, oF q)), ((q 15), .inl ((cq 15), 7, .inl (fun _ => 0)))] s.heap.size = A at hD ⊢
  have hA : ∀ q : Nat, s.heap.size ≤ q → A q := fun q h => by rw [← hAe]; exact Or.inr h
  have hS : va_S A s.heap s.heap [] := va_S.rf
  have hP : va_P (dC, dI) vwCl [(h0, .inr (10, oF q)), ((q 15), .inl ((cq 15), 7, .inl (fun _ => 0)))] s.heap := hP
  have hl := lv_entry ([.ref h0, .int a1, .int a2, .int a3]) (n := 9) (Nat.le_of_ble_eq_true rfl)
  rw [lg_entry_eq]
  generalize (lg_sl ([.ref h0, .int a1, .int a2, .int a3]) ++ List.replicate (9 - (lg_sl ([.ref h0, .int a1, .int a2, .int a3])).length) Slot.unset).toArray = ls at hl ⊢
  have hl : lv_has ls 9 [(0, .ref h0), (1, .int a1), (2, .int a2), (3, .int a3)] := hl
  refine lv_aload_n hx hb dX10_check_0 rfl (lv_at hl 0 rfl) ?_
  refine lv_iload_n hx hb dX10_check_1 rfl (lv_at hl 1 rfl) ?_
  have hPc := hP.sub (ws' := [(h0, .inr (10, oF q))]) [0] rfl
  have hDc := hD.sub (ws' := [(h0, .inr (10, oF q))]) [0] (by decide) rfl
  have hKc := hK.sub (tys' := []) [] rfl
  have hFc : ∀ q, va_A [] s.heap.size q → A q := pu_free hS hA
  refine va_callq (va_runV (As := [.int a1]) (rest := []) ⟨hx, hb, hml, hown, hts⟩ (c_X10_voyageAt l dC dI s.heap.size h0 q cq a1) (cwV 1 hts gX10_check_X10_voyageAt rfl rfl rfl (by decide +kernel) ⟨(Nat.le_of_ble_eq_true rfl), (Nat.le_of_ble_eq_true rfl)⟩) (pr_V (r := (RX10, TX10, 16)) hPc hKc hDc 0 10 rfl rfl) rfl rfl hl.1 rfl (lv_room (Nat.le_of_ble_eq_true rfl)) dX10_check_2 ⟨(Nat.le_of_ble_eq_true rfl), (Nat.le_of_ble_eq_true rfl)⟩) hS (fun q _ h => hFc q h) hFc (fun r_2 u t H locs ht hvm w_1 hB hz1 hk1 hS => ?_)
  have hP := pu_keep hP hk1
  clear hk1 hz1 hvm hB hPc hDc hKc hFc ht
  subst w_1
  refine W.eq (g2 := F0 m 5 ls [.null]) rfl ?_
  refine lv_astoreN (lv' := [(4, .null), (0, .ref h0), (1, .int a1), (2, .int a2), (3, .int a3)]) hx hb dX10_check_5 hl (by decide) rfl (fun ls hl => ?_)
  refine lv_aloadN hx hb dX10_check_7 (lv_at hl 0 rfl) ?_
  refine lv_ifnonnullN hx hb dX10_check_9 ?_
  refine lv_aload_n hx hb dX10_check_12 rfl (lv_at hl 1 rfl) ?_
  refine lv_iconst (v := (-1)) hx hb dX10_check_13 (by decide) ?_
  have hPc := hP.sub (ws' := [(h0, .inr (10, oF q)), ((q 15), .inl ((cq 15), 7, .inl (fun _ => 0)))]) [0, 1] rfl
  have hDc := hD.sub (ws' := [(h0, .inr (10, oF q)), ((q 15), .inl ((cq 15), 7, .inl (fun _ => 0)))]) [0, 1] (by decide) rfl
  have hKc := hK.sub (tys' := [((cq 15), .int)]) [0] rfl
  have hFc := va_free (wc := [(h0, .inr (10, oF q)), ((q 15), .inl ((cq 15), 7, .inl (fun _ => 0)))]) hD hS hA [0, 1] rfl
  refine va_calli (va_runV (As := [.int (-1)]) (rest := []) ⟨hx, hb, hml, hown, hts⟩ (c_X10_refuse l dC dI H.size h0 q cq (-1) (by unfold vp_in; decide)) (cwV 1 hts gX10_check_X10_refuse rfl rfl rfl (by decide +kernel) ⟨(Nat.le_of_ble_eq_true rfl), (Nat.le_of_ble_eq_true rfl)⟩) (pr_V (r := (RX10, TX10, 16)) hPc hKc hDc 0 10 rfl rfl) rfl rfl hl.1 rfl (lv_room (Nat.le_of_ble_eq_true rfl)) dX10_check_14 ⟨(Nat.le_of_ble_eq_true rfl), (Nat.le_of_ble_eq_true rfl)⟩) hS (fun q _ h => hFc q h) hFc (fun r_4 u t H locs ht hvm w_3 hB hz1 hk1 hS => ?_)
  subst w_3
  exact W.iret (v := (-1)) hx hb hr (fun t ht hW => ⟨⟨(-1), (), rfl, rfl, trivial⟩, hS.F ht⟩) hS.2.2 dX10_check_17
set_option maxHeartbeats 4000000 in
set_option maxRecDepth 100000 in
theorem c_X10_owed (l : Launch) (dC : Nat → ClassId) (dI : Nat → Nat → Nat) (sz : Nat) (h0 : Nat) (q : Nat → Nat) (cq : Nat → ClassId) (a1 : Int32) (a2 : Int32) (a3 : Int32) : Met l yX10_owed wsX10_owed ({ frames := 1, cells := 0, slots := 0, locals := 21 }) (va_Pc [.ref h0, .int a1, .int a2, .int a3] (pcW (dC, dI) [((cq 15), .int)] [(h0, .inr (10, oF q)), ((q 15), .inl ((cq 15), 7, .inl (fun _ => 0)))] sz)) (va_Qi (fun (r : Int32) (u : Unit) => r = 1000000001) (fun _ _ => True) (va_A [(h0, .inr (10, oF q)), ((q 15), .inl ((cq 15), 7, .inl (fun _ => 0)))] sz)) 0 0 (va_A [(h0, .inr (10, oF q)), ((q 15), .inl ((cq 15), 7, .inl (fun _ => 0)))] sz) := by
  refine Met.ofW (cc := cX10_owed) (maxL := 6) (ret := (some .int)) (by decide) rfl ?_
  intro p e s m args below meth c s₁ B hml hv
  obtain ⟨rfl, hsz, hP, hK, hD0⟩ := hv
  have hx := B.exec
  have hb := B.bytes
  have hr := B.returns
  have hts := atoms_spec (ws := wsX10_owed) B.pre
  have hown : s.vm.findClass RX10 = some m.cls := findClass_of_methodNamed B.named
  have hlocks := B.notSynchronized
  subst hsz
  have hD := hD0.self (sz := s.heap.size)
  generalize hAe : va_A [(h0, .inr (10, oF q)), ((q 15), .inl ((cq 15), 7, .inl (fun _ => 0)))] s.heap.size = A at hD ⊢
  have hA : ∀ q : Nat, s.heap.size ≤ q → A q := fun q h => by rw [← hAe]; exact Or.inr h
  have hS : va_S A s.heap s.heap [] := va_S.rf
  have hP : va_P (dC, dI) vwCl [(h0, .inr (10, oF q)), ((q 15), .inl ((cq 15), 7, .inl (fun _ => 0)))] s.heap := hP
  have hl := lv_entry ([.ref h0, .int a1, .int a2, .int a3]) (n := 6) (Nat.le_of_ble_eq_true rfl)
  rw [lg_entry_eq]
  generalize (lg_sl ([.ref h0, .int a1, .int a2, .int a3]) ++ List.replicate (6 - (lg_sl ([.ref h0, .int a1, .int a2, .int a3])).length) Slot.unset).toArray = ls at hl ⊢
  have hl : lv_has ls 6 [(0, .ref h0), (1, .int a1), (2, .int a2), (3, .int a3)] := hl
  refine lv_aload_n hx hb dX10_owed_0 rfl (lv_at hl 0 rfl) ?_
  refine lv_iload_n hx hb dX10_owed_1 rfl (lv_at hl 1 rfl) ?_
  have hPc := hP.sub (ws' := [(h0, .inr (10, oF q))]) [0] rfl
  have hDc := hD.sub (ws' := [(h0, .inr (10, oF q))]) [0] (by decide) rfl
  have hKc := hK.sub (tys' := []) [] rfl
  have hFc : ∀ q, va_A [] s.heap.size q → A q := pu_free hS hA
  refine va_callq (va_runV (As := [.int a1]) (rest := []) ⟨hx, hb, hml, hown, hts⟩ (c_X10_agreementAt l dC dI s.heap.size h0 q cq a1) (cwV 1 hts gX10_owed_X10_agreementAt rfl rfl rfl (by decide +kernel) ⟨(Nat.le_of_ble_eq_true rfl), (Nat.le_of_ble_eq_true rfl)⟩) (pr_V (r := (RX10, TX10, 16)) hPc hKc hDc 0 10 rfl rfl) rfl rfl hl.1 rfl (lv_room (Nat.le_of_ble_eq_true rfl)) dX10_owed_2 ⟨(Nat.le_of_ble_eq_true rfl), (Nat.le_of_ble_eq_true rfl)⟩) hS (fun q _ h => hFc q h) hFc (fun r_2 u t H locs ht hvm w_1 hB hz1 hk1 hS => ?_)
  have hP := pu_keep hP hk1
  clear hk1 hz1 hvm hB hPc hDc hKc hFc ht
  subst w_1
  refine W.eq (g2 := F0 m 5 ls [.null]) rfl ?_
  refine lv_astoreN (lv' := [(4, .null), (0, .ref h0), (1, .int a1), (2, .int a2), (3, .int a3)]) hx hb dX10_owed_5 hl (by decide) rfl (fun ls hl => ?_)
  refine lv_aloadN hx hb dX10_owed_7 (lv_at hl 0 rfl) ?_
  refine lv_ifnonnullN hx hb dX10_owed_9 ?_
  refine lv_ldcw (v := 1000000000) hx hb hown (hts (.constant RX10 294 (1000000000)) (by decide +kernel)) dX10_owed_12 ?_
  refine lv_aload_n hx hb dX10_owed_15 rfl (lv_at hl 1 rfl) ?_
  refine lv_iconst (v := (-1)) hx hb dX10_owed_16 (by decide) ?_
  have hPc := hP.sub (ws' := [(h0, .inr (10, oF q)), ((q 15), .inl ((cq 15), 7, .inl (fun _ => 0)))]) [0, 1] rfl
  have hDc := hD.sub (ws' := [(h0, .inr (10, oF q)), ((q 15), .inl ((cq 15), 7, .inl (fun _ => 0)))]) [0, 1] (by decide) rfl
  have hKc := hK.sub (tys' := [((cq 15), .int)]) [0] rfl
  have hFc := va_free (wc := [(h0, .inr (10, oF q)), ((q 15), .inl ((cq 15), 7, .inl (fun _ => 0)))]) hD hS hA [0, 1] rfl
  refine va_calli (va_runV (As := [.int (-1)]) (rest := [.int 1000000000]) ⟨hx, hb, hml, hown, hts⟩ (c_X10_refuse l dC dI H.size h0 q cq (-1) (by unfold vp_in; decide)) (cwV 1 hts gX10_owed_X10_refuse rfl rfl rfl (by decide +kernel) ⟨(Nat.le_of_ble_eq_true rfl), (Nat.le_of_ble_eq_true rfl)⟩) (pr_V (r := (RX10, TX10, 16)) hPc hKc hDc 0 10 rfl rfl) rfl rfl hl.1 rfl (lv_room (Nat.le_of_ble_eq_true rfl)) dX10_owed_17 ⟨(Nat.le_of_ble_eq_true rfl), (Nat.le_of_ble_eq_true rfl)⟩) hS (fun q _ h => hFc q h) hFc (fun r_4 u t H locs ht hvm w_3 hB hz1 hk1 hS => ?_)
  subst w_3
  refine lv_isub hx hb dX10_owed_20 ?_
  refine lv_topi (fun y ey => ?_)
  obtain rfl : y = 1000000001 := ey.trans (by decide)
  exact W.iret (v := 1000000001) hx hb hr (fun t ht hW => ⟨⟨1000000001, (), rfl, rfl, trivial⟩, hS.F ht⟩) hS.2.2 dX10_owed_21
