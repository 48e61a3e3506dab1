abbrev wsX110 : List Cond := u_ws RX11 TX11 63
abbrev cX11_refuse : ByteArray := prog_13_method_2_code
def yX11_refuse : MethodName := ⟨RX11, "refuse", "(I)I"⟩
abbrev cX11_refuseFar : ByteArray := prog_13_method_3_code
def yX11_refuseFar : MethodName := ⟨RX11, "refuseFar", "(I)I"⟩
abbrev cX11_isIn : ByteArray := prog_13_method_4_code
def yX11_isIn : MethodName := ⟨RX11, "isIn", "(II)Z"⟩
abbrev cX11_isMan : ByteArray := prog_13_method_5_code
def yX11_isMan : MethodName := ⟨RX11, "isMan", "(I)Z"⟩
abbrev cX11_isVoyage : ByteArray := prog_13_method_6_code
def yX11_isVoyage : MethodName := ⟨RX11, "isVoyage", "(I)Z"⟩
abbrev cX11_isAgreement : ByteArray := prog_13_method_7_code
def yX11_isAgreement : MethodName := ⟨RX11, "isAgreement", "(I)Z"⟩
abbrev cX11_isPort : ByteArray := prog_13_method_8_code
def yX11_isPort : MethodName := ⟨RX11, "isPort", "(I)Z"⟩
abbrev cX11_wasTold : ByteArray := prog_13_method_13_code
def yX11_wasTold : MethodName := ⟨RX11, "wasTold", "(II)Z"⟩
abbrev cX11_goesOn : ByteArray := prog_13_method_14_code
def yX11_goesOn : MethodName := ⟨RX11, "goesOn", "(I)Z"⟩
abbrev cX11_ended : ByteArray := prog_13_method_15_code
def yX11_ended : MethodName := ⟨RX11, "ended", "(II)I"⟩
abbrev cX11_happens : ByteArray := prog_13_method_16_code
def yX11_happens : MethodName := ⟨RX11, "happens", "(IIIIII)I"⟩
abbrev cX11_happensTo : ByteArray := prog_13_method_17_code
def yX11_happensTo : MethodName := ⟨RX11, "happensTo", "(III)I"⟩
abbrev cX11_sailed : ByteArray := prog_13_method_18_code
def yX11_sailed : MethodName := ⟨RX11, "sailed", "(II)I"⟩
abbrev cX11_heard : ByteArray := prog_13_method_19_code
def yX11_heard : MethodName := ⟨RX11, "heard", "(II)I"⟩
abbrev cX11_lost : ByteArray := prog_13_method_20_code
def yX11_lost : MethodName := ⟨RX11, "lost", "(II)I"⟩
abbrev cX11_left : ByteArray := prog_13_method_21_code
def yX11_left : MethodName := ⟨RX11, "left", "(IIII)I"⟩
abbrev cX11_happensOf : ByteArray := prog_13_method_22_code
def yX11_happensOf : MethodName := ⟨RX11, "happensOf", "(III)I"⟩
abbrev cX11_died : ByteArray := prog_13_method_23_code
def yX11_died : MethodName := ⟨RX11, "died", "(II)I"⟩
abbrev cX11_back : ByteArray := prog_13_method_24_code
def yX11_back : MethodName := ⟨RX11, "back", "(II)I"⟩
abbrev cX11_sign : ByteArray := prog_13_method_26_code
def yX11_sign : MethodName := ⟨RX11, "sign", "()I"⟩
abbrev cX11_held : ByteArray := prog_13_method_27_code
def yX11_held : MethodName := ⟨RX11, "held", "(J)I"⟩
abbrev cX11_takes : ByteArray := prog_13_method_28_code
def yX11_takes : MethodName := ⟨RX11, "takes", "(I)Z"⟩
abbrev cX11_isLetter : ByteArray := prog_13_method_29_code
def yX11_isLetter : MethodName := ⟨RX11, "isLetter", "(I)Z"⟩
abbrev cX11_sum : ByteArray := prog_13_method_30_code
def yX11_sum : MethodName := ⟨RX11, "sum", "()I"⟩
abbrev cX11_term : ByteArray := prog_13_method_31_code
def yX11_term : MethodName := ⟨RX11, "term", "()I"⟩
abbrev cX11_breaks : ByteArray := prog_13_method_32_code
def yX11_breaks : MethodName := ⟨RX11, "breaks", "()I"⟩
abbrev cX11_unit : ByteArray := prog_13_method_33_code
def yX11_unit : MethodName := ⟨RX11, "unit", "()I"⟩
abbrev cX11_goesThrough : ByteArray := prog_13_method_34_code
def yX11_goesThrough : MethodName := ⟨RX11, "goesThrough", "(II)I"⟩
abbrev cX11_actOn : ByteArray := prog_13_method_36_code
def yX11_actOn : MethodName := ⟨RX11, "actOn", "(II)I"⟩
abbrev cX11_worth : ByteArray := prog_13_method_37_code
def yX11_worth : MethodName := ⟨RX11, "worth", "(II)I"⟩
abbrev cX11_bare : ByteArray := prog_13_method_38_code
def yX11_bare : MethodName := ⟨RX11, "bare", "()V"⟩
abbrev cX11_puts : ByteArray := prog_13_method_39_code
def yX11_puts : MethodName := ⟨RX11, "puts", "(IIIIZ)V"⟩
abbrev cX11_sailedOn : ByteArray := prog_13_method_40_code
def yX11_sailedOn : MethodName := ⟨RX11, "sailedOn", "(II)I"⟩
abbrev cX11_lastHeard : ByteArray := prog_13_method_41_code
def yX11_lastHeard : MethodName := ⟨RX11, "lastHeard", "(III)I"⟩
abbrev cX11_whereOf : ByteArray := prog_13_method_42_code
def yX11_whereOf : MethodName := ⟨RX11, "whereOf", "(III)I"⟩
abbrev cX11_isDead : ByteArray := prog_13_method_43_code
def yX11_isDead : MethodName := ⟨RX11, "isDead", "(III)Z"⟩
abbrev cX11_hasSailed : ByteArray := prog_13_method_44_code
def yX11_hasSailed : MethodName := ⟨RX11, "hasSailed", "(III)Z"⟩
abbrev cX11_isUnknown : ByteArray := prog_13_method_45_code
def yX11_isUnknown : MethodName := ⟨RX11, "isUnknown", "(III)Z"⟩
abbrev cX11_stateOf : ByteArray := prog_13_method_46_code
def yX11_stateOf : MethodName := ⟨RX11, "stateOf", "(III)I"⟩
abbrev cX11_aboardOf : ByteArray := prog_13_method_47_code
def yX11_aboardOf : MethodName := ⟨RX11, "aboardOf", "(III)I"⟩
abbrev cX11_earnsOf : ByteArray := prog_13_method_48_code
def yX11_earnsOf : MethodName := ⟨RX11, "earnsOf", "(III)I"⟩
abbrev cX11_sign_ : ByteArray := prog_13_method_49_code
def yX11_sign_ : MethodName := ⟨RX11, "sign", "(IIIII)I"⟩
abbrev cX11_off : ByteArray := prog_13_method_50_code
def yX11_off : MethodName := ⟨RX11, "off", "(II)I"⟩
abbrev cX11_wrongTimes : ByteArray := prog_13_method_51_code
def yX11_wrongTimes : MethodName := ⟨RX11, "wrongTimes", "(II)I"⟩
abbrev cX11_state : ByteArray := prog_13_method_52_code
def yX11_state : MethodName := ⟨RX11, "state", "(III)I"⟩
abbrev cX11_earns : ByteArray := prog_13_method_53_code
def yX11_earns : MethodName := ⟨RX11, "earns", "(III)I"⟩
abbrev cX11_advance : ByteArray := prog_13_method_54_code
def yX11_advance : MethodName := ⟨RX11, "advance", "(II)I"⟩
abbrev cX11_sold : ByteArray := prog_13_method_55_code
def yX11_sold : MethodName := ⟨RX11, "sold", "(II)I"⟩
abbrev cX11_allot : ByteArray := prog_13_method_56_code
def yX11_allot : MethodName := ⟨RX11, "allot", "(II)I"⟩
abbrev cX11_fine : ByteArray := prog_13_method_57_code
def yX11_fine : MethodName := ⟨RX11, "fine", "(IIIZ)I"⟩
abbrev cX11_isFine : ByteArray := prog_13_method_58_code
def yX11_isFine : MethodName := ⟨RX11, "isFine", "(II)Z"⟩
abbrev cX11_read : ByteArray := prog_13_method_59_code
def yX11_read : MethodName := ⟨RX11, "read", "(II)I"⟩
abbrev cX11_standsOf : ByteArray := prog_13_method_60_code
def yX11_standsOf : MethodName := ⟨RX11, "standsOf", "(III)I"⟩
abbrev cX11_stands : ByteArray := prog_13_method_61_code
def yX11_stands : MethodName := ⟨RX11, "stands", "(III)I"⟩
abbrev cX11_rations : ByteArray := prog_13_method_62_code
def yX11_rations : MethodName := ⟨RX11, "rations", "(III)I"⟩
abbrev cX11_owedOf : ByteArray := prog_13_method_63_code
def yX11_owedOf : MethodName := ⟨RX11, "owedOf", "(III)I"⟩
abbrev cX11_owed : ByteArray := prog_13_method_64_code
def yX11_owed : MethodName := ⟨RX11, "owed", "(III)I"⟩
abbrev cX11_agreementOf : ByteArray := prog_13_method_65_code
def yX11_agreementOf : MethodName := ⟨RX11, "agreementOf", "(II)I"⟩
abbrev cX11_aboard : ByteArray := prog_13_method_66_code
def yX11_aboard : MethodName := ⟨RX11, "aboard", "(III)I"⟩
abbrev cX11_isAlike : ByteArray := prog_13_method_67_code
def yX11_isAlike : MethodName := ⟨RX11, "isAlike", "(II)Z"⟩
abbrev cX11_findGroups : ByteArray := prog_13_method_68_code
def yX11_findGroups : MethodName := ⟨RX11, "findGroups", "()V"⟩
abbrev cX11_group : ByteArray := prog_13_method_69_code
def yX11_group : MethodName := ⟨RX11, "group", "(I)I"⟩
abbrev cX11_endOf : ByteArray := prog_13_method_70_code
def yX11_endOf : MethodName := ⟨RX11, "endOf", "(I)I"⟩
abbrev cX11_borrowed : ByteArray := prog_13_method_71_code
def yX11_borrowed : MethodName := ⟨RX11, "borrowed", "(I)I"⟩
abbrev cX11_wayTo : ByteArray := prog_13_method_72_code
def yX11_wayTo : MethodName := ⟨RX11, "wayTo", "(II)I"⟩
abbrev cX11_home : ByteArray := prog_13_method_73_code
def yX11_home : MethodName := ⟨RX11, "home", "(I)I"⟩
abbrev cX11_ask : ByteArray := prog_13_method_74_code
def yX11_ask : MethodName := ⟨RX11, "ask", "(III)I"⟩
abbrev cX11_check : ByteArray := prog_13_method_80_code
def yX11_check : MethodName := ⟨RX11, "check", "(III)I"⟩
def wsX11_refuse : List Cond := .code yX11_refuse cX11_refuse 2 (some .int) :: ([.fieldLink RX11 7 "ShipOfficeModel" "refusals" "[I"] ++ wsX110)
def wsX11_refuseFar : List Cond := .code yX11_refuseFar cX11_refuseFar 2 (some .int) :: ([.constant RX11 152 (1000000000), .methodLink RX11 153 yX11_refuse, .instanceMethod yX11_refuse, .selects RX11 yX11_refuse yX11_refuse, .initialized RX11, .code yX11_refuse cX11_refuse 2 (some .int), .fieldLink RX11 7 "ShipOfficeModel" "refusals" "[I"] ++ wsX110)
def wsX11_isIn : List Cond := .code yX11_isIn cX11_isIn 2 (some .boolean) :: ([])
def wsX11_isMan : List Cond := .code yX11_isMan cX11_isMan 2 (some .boolean) :: ([.fieldLink RX11 157 "ShipOfficeModel" "men" "I", .methodLink RX11 161 yX11_isIn, .static yX11_isIn, .initialized RX11, .code yX11_isIn cX11_isIn 2 (some .boolean)] ++ wsX110)
def wsX11_isVoyage : List Cond := .code yX11_isVoyage cX11_isVoyage 2 (some .boolean) :: ([.fieldLink RX11 165 "ShipOfficeModel" "voyages" "I", .methodLink RX11 161 yX11_isIn, .static yX11_isIn, .initialized RX11, .code yX11_isIn cX11_isIn 2 (some .boolean)] ++ wsX110)
def wsX11_isAgreement : List Cond := .code yX11_isAgreement cX11_isAgreement 2 (some .boolean) :: ([.fieldLink RX11 168 "ShipOfficeModel" "agreements" "I", .methodLink RX11 161 yX11_isIn, .static yX11_isIn, .initialized RX11, .code yX11_isIn cX11_isIn 2 (some .boolean)] ++ wsX110)
def wsX11_isPort : List Cond := .code yX11_isPort cX11_isPort 1 (some .boolean) :: ([.methodLink RX11 161 yX11_isIn, .static yX11_isIn, .initialized RX11, .code yX11_isIn cX11_isIn 2 (some .boolean)])
def wsX11_ended_r1 : List Cond := [Cond.fieldLink RX11 37 "ShipOfficeModel" "endedOn" "[I", Cond.fieldLink RX11 168 "ShipOfficeModel" "agreements" "I", Cond.fieldLink RX11 73 "ShipOfficeModel" "voyage" "[I", Cond.fieldLink RX11 88 "ShipOfficeModel" "offOn" "[I", Cond.fieldLink RX11 171 "ShipOfficeModel" "now" "I", Cond.methodLink RX11 185 yX11_isVoyage, Cond.instanceMethod yX11_isVoyage, Cond.selects RX11 yX11_isVoyage yX11_isVoyage, Cond.initialized RX11, Cond.code yX11_isVoyage cX11_isVoyage 2 (some .boolean), Cond.fieldLink RX11 165 "ShipOfficeModel" "voyages" "I", Cond.methodLink RX11 161 yX11_isIn, Cond.static yX11_isIn, Cond.code yX11_isIn cX11_isIn 2 (some .boolean), Cond.methodLink RX11 174 yX11_isPort, Cond.static yX11_isPort, Cond.code yX11_isPort cX11_isPort 1 (some .boolean), Cond.methodLink RX11 153 yX11_refuse, Cond.instanceMethod yX11_refuse, Cond.selects RX11 yX11_refuse yX11_refuse, Cond.code yX11_refuse cX11_refuse 2 (some .int), Cond.fieldLink RX11 7 "ShipOfficeModel" "refusals" "[I", Cond.methodLink RX11 182 yX11_wasTold, Cond.instanceMethod yX11_wasTold]
def wsX11_ended_r2 : List Cond := [Cond.selects RX11 yX11_wasTold yX11_wasTold, Cond.code yX11_wasTold cX11_wasTold 4 (some .boolean), Cond.fieldLink RX11 179 "ShipOfficeModel" "happened" "I", Cond.fieldLink RX11 40 "ShipOfficeModel" "what" "[I", Cond.fieldLink RX11 43 "ShipOfficeModel" "whose" "[I", Cond.methodLink RX11 188 yX11_goesOn, Cond.instanceMethod yX11_goesOn, Cond.selects RX11 yX11_goesOn yX11_goesOn, Cond.code yX11_goesOn cX11_goesOn 2 (some .boolean)]
def wsX11_ended : List Cond := .code yX11_ended cX11_ended 5 (some .int) :: ((wsX11_ended_r1 ++ wsX11_ended_r2) ++ wsX110)
def wsX11_happensTo_r1 : List Cond := [Cond.fieldLink RX11 37 "ShipOfficeModel" "endedOn" "[I", Cond.fieldLink RX11 31 "ShipOfficeModel" "opened" "[I", Cond.methodLink RX11 185 yX11_isVoyage, Cond.instanceMethod yX11_isVoyage, Cond.selects RX11 yX11_isVoyage yX11_isVoyage, Cond.initialized RX11, Cond.code yX11_isVoyage cX11_isVoyage 2 (some .boolean), Cond.fieldLink RX11 165 "ShipOfficeModel" "voyages" "I", Cond.methodLink RX11 161 yX11_isIn, Cond.static yX11_isIn, Cond.code yX11_isIn cX11_isIn 2 (some .boolean), Cond.methodLink RX11 153 yX11_refuse, Cond.instanceMethod yX11_refuse, Cond.selects RX11 yX11_refuse yX11_refuse, Cond.code yX11_refuse cX11_refuse 2 (some .int), Cond.fieldLink RX11 7 "ShipOfficeModel" "refusals" "[I", Cond.methodLink RX11 182 yX11_wasTold, Cond.instanceMethod yX11_wasTold, Cond.selects RX11 yX11_wasTold yX11_wasTold, Cond.code yX11_wasTold cX11_wasTold 4 (some .boolean), Cond.fieldLink RX11 179 "ShipOfficeModel" "happened" "I", Cond.fieldLink RX11 40 "ShipOfficeModel" "what" "[I", Cond.fieldLink RX11 43 "ShipOfficeModel" "whose" "[I", Cond.methodLink RX11 191 yX11_happens]
def wsX11_happensTo_r2 : List Cond := [Cond.instanceMethod yX11_happens, Cond.selects RX11 yX11_happens yX11_happens, Cond.code yX11_happens cX11_happens 7 (some .int), Cond.fieldLink RX11 171 "ShipOfficeModel" "now" "I", Cond.fieldLink RX11 46 "ShipOfficeModel" "day" "[I", Cond.fieldLink RX11 49 "ShipOfficeModel" "known" "[I", Cond.fieldLink RX11 52 "ShipOfficeModel" "way" "[I", Cond.fieldLink RX11 55 "ShipOfficeModel" "port" "[I"]
def wsX11_happensTo : List Cond := .code yX11_happensTo cX11_happensTo 4 (some .int) :: ((wsX11_happensTo_r1 ++ wsX11_happensTo_r2) ++ wsX110)
def wsX11_sailed_r1 : List Cond := [Cond.methodLink RX11 195 yX11_happensTo, Cond.instanceMethod yX11_happensTo, Cond.selects RX11 yX11_happensTo yX11_happensTo, Cond.initialized RX11, Cond.code yX11_happensTo cX11_happensTo 4 (some .int), Cond.fieldLink RX11 37 "ShipOfficeModel" "endedOn" "[I", Cond.fieldLink RX11 31 "ShipOfficeModel" "opened" "[I", Cond.methodLink RX11 185 yX11_isVoyage, Cond.instanceMethod yX11_isVoyage, Cond.selects RX11 yX11_isVoyage yX11_isVoyage, Cond.code yX11_isVoyage cX11_isVoyage 2 (some .boolean), Cond.fieldLink RX11 165 "ShipOfficeModel" "voyages" "I", Cond.methodLink RX11 161 yX11_isIn, Cond.static yX11_isIn, Cond.code yX11_isIn cX11_isIn 2 (some .boolean), Cond.methodLink RX11 153 yX11_refuse, Cond.instanceMethod yX11_refuse, Cond.selects RX11 yX11_refuse yX11_refuse, Cond.code yX11_refuse cX11_refuse 2 (some .int), Cond.fieldLink RX11 7 "ShipOfficeModel" "refusals" "[I", Cond.methodLink RX11 182 yX11_wasTold, Cond.instanceMethod yX11_wasTold, Cond.selects RX11 yX11_wasTold yX11_wasTold, Cond.code yX11_wasTold cX11_wasTold 4 (some .boolean)]
def wsX11_sailed_r2 : List Cond := [Cond.fieldLink RX11 179 "ShipOfficeModel" "happened" "I", Cond.fieldLink RX11 40 "ShipOfficeModel" "what" "[I", Cond.fieldLink RX11 43 "ShipOfficeModel" "whose" "[I", Cond.methodLink RX11 191 yX11_happens, Cond.instanceMethod yX11_happens, Cond.selects RX11 yX11_happens yX11_happens, Cond.code yX11_happens cX11_happens 7 (some .int), Cond.fieldLink RX11 171 "ShipOfficeModel" "now" "I", Cond.fieldLink RX11 46 "ShipOfficeModel" "day" "[I", Cond.fieldLink RX11 49 "ShipOfficeModel" "known" "[I", Cond.fieldLink RX11 52 "ShipOfficeModel" "way" "[I", Cond.fieldLink RX11 55 "ShipOfficeModel" "port" "[I"]
def wsX11_sailed : List Cond := .code yX11_sailed cX11_sailed 3 (some .int) :: ((wsX11_sailed_r1 ++ wsX11_sailed_r2) ++ wsX110)
def wsX11_heard_r1 : List Cond := [Cond.methodLink RX11 195 yX11_happensTo, Cond.instanceMethod yX11_happensTo, Cond.selects RX11 yX11_happensTo yX11_happensTo, Cond.initialized RX11, Cond.code yX11_happensTo cX11_happensTo 4 (some .int), Cond.fieldLink RX11 37 "ShipOfficeModel" "endedOn" "[I", Cond.fieldLink RX11 31 "ShipOfficeModel" "opened" "[I", Cond.methodLink RX11 185 yX11_isVoyage, Cond.instanceMethod yX11_isVoyage, Cond.selects RX11 yX11_isVoyage yX11_isVoyage, Cond.code yX11_isVoyage cX11_isVoyage 2 (some .boolean), Cond.fieldLink RX11 165 "ShipOfficeModel" "voyages" "I", Cond.methodLink RX11 161 yX11_isIn, Cond.static yX11_isIn, Cond.code yX11_isIn cX11_isIn 2 (some .boolean), Cond.methodLink RX11 153 yX11_refuse, Cond.instanceMethod yX11_refuse, Cond.selects RX11 yX11_refuse yX11_refuse, Cond.code yX11_refuse cX11_refuse 2 (some .int), Cond.fieldLink RX11 7 "ShipOfficeModel" "refusals" "[I", Cond.methodLink RX11 182 yX11_wasTold, Cond.instanceMethod yX11_wasTold, Cond.selects RX11 yX11_wasTold yX11_wasTold, Cond.code yX11_wasTold cX11_wasTold 4 (some .boolean)]
def wsX11_heard_r2 : List Cond := [Cond.fieldLink RX11 179 "ShipOfficeModel" "happened" "I", Cond.fieldLink RX11 40 "ShipOfficeModel" "what" "[I", Cond.fieldLink RX11 43 "ShipOfficeModel" "whose" "[I", Cond.methodLink RX11 191 yX11_happens, Cond.instanceMethod yX11_happens, Cond.selects RX11 yX11_happens yX11_happens, Cond.code yX11_happens cX11_happens 7 (some .int), Cond.fieldLink RX11 171 "ShipOfficeModel" "now" "I", Cond.fieldLink RX11 46 "ShipOfficeModel" "day" "[I", Cond.fieldLink RX11 49 "ShipOfficeModel" "known" "[I", Cond.fieldLink RX11 52 "ShipOfficeModel" "way" "[I", Cond.fieldLink RX11 55 "ShipOfficeModel" "port" "[I"]
def wsX11_heard : List Cond := .code yX11_heard cX11_heard 3 (some .int) :: ((wsX11_heard_r1 ++ wsX11_heard_r2) ++ wsX110)
def wsX11_lost_r1 : List Cond := [Cond.methodLink RX11 195 yX11_happensTo, Cond.instanceMethod yX11_happensTo, Cond.selects RX11 yX11_happensTo yX11_happensTo, Cond.initialized RX11, Cond.code yX11_happensTo cX11_happensTo 4 (some .int), Cond.fieldLink RX11 37 "ShipOfficeModel" "endedOn" "[I", Cond.fieldLink RX11 31 "ShipOfficeModel" "opened" "[I", Cond.methodLink RX11 185 yX11_isVoyage, Cond.instanceMethod yX11_isVoyage, Cond.selects RX11 yX11_isVoyage yX11_isVoyage, Cond.code yX11_isVoyage cX11_isVoyage 2 (some .boolean), Cond.fieldLink RX11 165 "ShipOfficeModel" "voyages" "I", Cond.methodLink RX11 161 yX11_isIn, Cond.static yX11_isIn, Cond.code yX11_isIn cX11_isIn 2 (some .boolean), Cond.methodLink RX11 153 yX11_refuse, Cond.instanceMethod yX11_refuse, Cond.selects RX11 yX11_refuse yX11_refuse, Cond.code yX11_refuse cX11_refuse 2 (some .int), Cond.fieldLink RX11 7 "ShipOfficeModel" "refusals" "[I", Cond.methodLink RX11 182 yX11_wasTold, Cond.instanceMethod yX11_wasTold, Cond.selects RX11 yX11_wasTold yX11_wasTold, Cond.code yX11_wasTold cX11_wasTold 4 (some .boolean)]
def wsX11_lost_r2 : List Cond := [Cond.fieldLink RX11 179 "ShipOfficeModel" "happened" "I", Cond.fieldLink RX11 40 "ShipOfficeModel" "what" "[I", Cond.fieldLink RX11 43 "ShipOfficeModel" "whose" "[I", Cond.methodLink RX11 191 yX11_happens, Cond.instanceMethod yX11_happens, Cond.selects RX11 yX11_happens yX11_happens, Cond.code yX11_happens cX11_happens 7 (some .int), Cond.fieldLink RX11 171 "ShipOfficeModel" "now" "I", Cond.fieldLink RX11 46 "ShipOfficeModel" "day" "[I", Cond.fieldLink RX11 49 "ShipOfficeModel" "known" "[I", Cond.fieldLink RX11 52 "ShipOfficeModel" "way" "[I", Cond.fieldLink RX11 55 "ShipOfficeModel" "port" "[I"]
def wsX11_lost : List Cond := .code yX11_lost cX11_lost 3 (some .int) :: ((wsX11_lost_r1 ++ wsX11_lost_r2) ++ wsX110)
def wsX11_left_r1 : List Cond := [Cond.fieldLink RX11 88 "ShipOfficeModel" "offOn" "[I", Cond.fieldLink RX11 85 "ShipOfficeModel" "signed" "[I", Cond.methodLink RX11 199 yX11_isAgreement, Cond.instanceMethod yX11_isAgreement, Cond.selects RX11 yX11_isAgreement yX11_isAgreement, Cond.initialized RX11, Cond.code yX11_isAgreement cX11_isAgreement 2 (some .boolean), Cond.fieldLink RX11 168 "ShipOfficeModel" "agreements" "I", Cond.methodLink RX11 161 yX11_isIn, Cond.static yX11_isIn, Cond.code yX11_isIn cX11_isIn 2 (some .boolean), Cond.methodLink RX11 174 yX11_isPort, Cond.static yX11_isPort, Cond.code yX11_isPort cX11_isPort 1 (some .boolean), Cond.methodLink RX11 153 yX11_refuse, Cond.instanceMethod yX11_refuse, Cond.selects RX11 yX11_refuse yX11_refuse, Cond.code yX11_refuse cX11_refuse 2 (some .int), Cond.fieldLink RX11 7 "ShipOfficeModel" "refusals" "[I", Cond.methodLink RX11 191 yX11_happens, Cond.instanceMethod yX11_happens, Cond.selects RX11 yX11_happens yX11_happens, Cond.code yX11_happens cX11_happens 7 (some .int), Cond.fieldLink RX11 171 "ShipOfficeModel" "now" "I"]
def wsX11_left_r2 : List Cond := [Cond.fieldLink RX11 179 "ShipOfficeModel" "happened" "I", Cond.fieldLink RX11 40 "ShipOfficeModel" "what" "[I", Cond.fieldLink RX11 43 "ShipOfficeModel" "whose" "[I", Cond.fieldLink RX11 46 "ShipOfficeModel" "day" "[I", Cond.fieldLink RX11 49 "ShipOfficeModel" "known" "[I", Cond.fieldLink RX11 52 "ShipOfficeModel" "way" "[I", Cond.fieldLink RX11 55 "ShipOfficeModel" "port" "[I"]
def wsX11_left : List Cond := .code yX11_left cX11_left 5 (some .int) :: ((wsX11_left_r1 ++ wsX11_left_r2) ++ wsX110)
def wsX11_happensOf_r1 : List Cond := [Cond.fieldLink RX11 88 "ShipOfficeModel" "offOn" "[I", Cond.fieldLink RX11 85 "ShipOfficeModel" "signed" "[I", Cond.methodLink RX11 199 yX11_isAgreement, Cond.instanceMethod yX11_isAgreement, Cond.selects RX11 yX11_isAgreement yX11_isAgreement, Cond.initialized RX11, Cond.code yX11_isAgreement cX11_isAgreement 2 (some .boolean), Cond.fieldLink RX11 168 "ShipOfficeModel" "agreements" "I", Cond.methodLink RX11 161 yX11_isIn, Cond.static yX11_isIn, Cond.code yX11_isIn cX11_isIn 2 (some .boolean), Cond.methodLink RX11 153 yX11_refuse, Cond.instanceMethod yX11_refuse, Cond.selects RX11 yX11_refuse yX11_refuse, Cond.code yX11_refuse cX11_refuse 2 (some .int), Cond.fieldLink RX11 7 "ShipOfficeModel" "refusals" "[I", Cond.methodLink RX11 191 yX11_happens, Cond.instanceMethod yX11_happens, Cond.selects RX11 yX11_happens yX11_happens, Cond.code yX11_happens cX11_happens 7 (some .int), Cond.fieldLink RX11 171 "ShipOfficeModel" "now" "I", Cond.fieldLink RX11 179 "ShipOfficeModel" "happened" "I", Cond.fieldLink RX11 40 "ShipOfficeModel" "what" "[I", Cond.fieldLink RX11 43 "ShipOfficeModel" "whose" "[I"]
def wsX11_happensOf_r2 : List Cond := [Cond.fieldLink RX11 46 "ShipOfficeModel" "day" "[I", Cond.fieldLink RX11 49 "ShipOfficeModel" "known" "[I", Cond.fieldLink RX11 52 "ShipOfficeModel" "way" "[I", Cond.fieldLink RX11 55 "ShipOfficeModel" "port" "[I"]
def wsX11_happensOf : List Cond := .code yX11_happensOf cX11_happensOf 4 (some .int) :: ((wsX11_happensOf_r1 ++ wsX11_happensOf_r2) ++ wsX110)
def wsX11_died_r1 : List Cond := [Cond.methodLink RX11 202 yX11_happensOf, Cond.instanceMethod yX11_happensOf, Cond.selects RX11 yX11_happensOf yX11_happensOf, Cond.initialized RX11, Cond.code yX11_happensOf cX11_happensOf 4 (some .int), Cond.fieldLink RX11 88 "ShipOfficeModel" "offOn" "[I", Cond.fieldLink RX11 85 "ShipOfficeModel" "signed" "[I", Cond.methodLink RX11 199 yX11_isAgreement, Cond.instanceMethod yX11_isAgreement, Cond.selects RX11 yX11_isAgreement yX11_isAgreement, Cond.code yX11_isAgreement cX11_isAgreement 2 (some .boolean), Cond.fieldLink RX11 168 "ShipOfficeModel" "agreements" "I", Cond.methodLink RX11 161 yX11_isIn, Cond.static yX11_isIn, Cond.code yX11_isIn cX11_isIn 2 (some .boolean), Cond.methodLink RX11 153 yX11_refuse, Cond.instanceMethod yX11_refuse, Cond.selects RX11 yX11_refuse yX11_refuse, Cond.code yX11_refuse cX11_refuse 2 (some .int), Cond.fieldLink RX11 7 "ShipOfficeModel" "refusals" "[I", Cond.methodLink RX11 191 yX11_happens, Cond.instanceMethod yX11_happens, Cond.selects RX11 yX11_happens yX11_happens, Cond.code yX11_happens cX11_happens 7 (some .int)]
def wsX11_died_r2 : List Cond := [Cond.fieldLink RX11 171 "ShipOfficeModel" "now" "I", Cond.fieldLink RX11 179 "ShipOfficeModel" "happened" "I", Cond.fieldLink RX11 40 "ShipOfficeModel" "what" "[I", Cond.fieldLink RX11 43 "ShipOfficeModel" "whose" "[I", Cond.fieldLink RX11 46 "ShipOfficeModel" "day" "[I", Cond.fieldLink RX11 49 "ShipOfficeModel" "known" "[I", Cond.fieldLink RX11 52 "ShipOfficeModel" "way" "[I", Cond.fieldLink RX11 55 "ShipOfficeModel" "port" "[I"]
def wsX11_died : List Cond := .code yX11_died cX11_died 3 (some .int) :: ((wsX11_died_r1 ++ wsX11_died_r2) ++ wsX110)
def wsX11_back_r1 : List Cond := [Cond.methodLink RX11 202 yX11_happensOf, Cond.instanceMethod yX11_happensOf, Cond.selects RX11 yX11_happensOf yX11_happensOf, Cond.initialized RX11, Cond.code yX11_happensOf cX11_happensOf 4 (some .int), Cond.fieldLink RX11 88 "ShipOfficeModel" "offOn" "[I", Cond.fieldLink RX11 85 "ShipOfficeModel" "signed" "[I", Cond.methodLink RX11 199 yX11_isAgreement, Cond.instanceMethod yX11_isAgreement, Cond.selects RX11 yX11_isAgreement yX11_isAgreement, Cond.code yX11_isAgreement cX11_isAgreement 2 (some .boolean), Cond.fieldLink RX11 168 "ShipOfficeModel" "agreements" "I", Cond.methodLink RX11 161 yX11_isIn, Cond.static yX11_isIn, Cond.code yX11_isIn cX11_isIn 2 (some .boolean), Cond.methodLink RX11 153 yX11_refuse, Cond.instanceMethod yX11_refuse, Cond.selects RX11 yX11_refuse yX11_refuse, Cond.code yX11_refuse cX11_refuse 2 (some .int), Cond.fieldLink RX11 7 "ShipOfficeModel" "refusals" "[I", Cond.methodLink RX11 191 yX11_happens, Cond.instanceMethod yX11_happens, Cond.selects RX11 yX11_happens yX11_happens, Cond.code yX11_happens cX11_happens 7 (some .int)]
def wsX11_back_r2 : List Cond := [Cond.fieldLink RX11 171 "ShipOfficeModel" "now" "I", Cond.fieldLink RX11 179 "ShipOfficeModel" "happened" "I", Cond.fieldLink RX11 40 "ShipOfficeModel" "what" "[I", Cond.fieldLink RX11 43 "ShipOfficeModel" "whose" "[I", Cond.fieldLink RX11 46 "ShipOfficeModel" "day" "[I", Cond.fieldLink RX11 49 "ShipOfficeModel" "known" "[I", Cond.fieldLink RX11 52 "ShipOfficeModel" "way" "[I", Cond.fieldLink RX11 55 "ShipOfficeModel" "port" "[I"]
def wsX11_back : List Cond := .code yX11_back cX11_back 3 (some .int) :: ((wsX11_back_r1 ++ wsX11_back_r2) ++ wsX110)
def wsX11_sign__r1 : List Cond := [Cond.fieldLink RX11 168 "ShipOfficeModel" "agreements" "I", Cond.fieldLink RX11 37 "ShipOfficeModel" "endedOn" "[I", Cond.fieldLink RX11 88 "ShipOfficeModel" "offOn" "[I", Cond.fieldLink RX11 70 "ShipOfficeModel" "man" "[I", Cond.fieldLink RX11 128 "ShipOfficeModel" "letters" "[I", Cond.fieldLink RX11 171 "ShipOfficeModel" "now" "I", Cond.fieldLink RX11 22 "ShipOfficeModel" "born" "[I", Cond.fieldLink RX11 73 "ShipOfficeModel" "voyage" "[I", Cond.fieldLink RX11 76 "ShipOfficeModel" "wage" "[I", Cond.fieldLink RX11 79 "ShipOfficeModel" "rank" "[I", Cond.fieldLink RX11 82 "ShipOfficeModel" "paper" "[I", Cond.fieldLink RX11 85 "ShipOfficeModel" "signed" "[I", Cond.fieldLink RX11 94 "ShipOfficeModel" "given" "[I", Cond.methodLink RX11 297 yX11_isMan, Cond.instanceMethod yX11_isMan, Cond.selects RX11 yX11_isMan yX11_isMan, Cond.initialized RX11, Cond.code yX11_isMan cX11_isMan 2 (some .boolean), Cond.fieldLink RX11 157 "ShipOfficeModel" "men" "I", Cond.methodLink RX11 161 yX11_isIn, Cond.static yX11_isIn, Cond.code yX11_isIn cX11_isIn 2 (some .boolean), Cond.methodLink RX11 185 yX11_isVoyage, Cond.instanceMethod yX11_isVoyage]
def wsX11_sign__r2 : List Cond := [Cond.selects RX11 yX11_isVoyage yX11_isVoyage, Cond.code yX11_isVoyage cX11_isVoyage 2 (some .boolean), Cond.fieldLink RX11 165 "ShipOfficeModel" "voyages" "I", Cond.methodLink RX11 199 yX11_isAgreement, Cond.instanceMethod yX11_isAgreement, Cond.selects RX11 yX11_isAgreement yX11_isAgreement, Cond.code yX11_isAgreement cX11_isAgreement 2 (some .boolean), Cond.methodLink RX11 153 yX11_refuse, Cond.instanceMethod yX11_refuse, Cond.selects RX11 yX11_refuse yX11_refuse, Cond.code yX11_refuse cX11_refuse 2 (some .int), Cond.fieldLink RX11 7 "ShipOfficeModel" "refusals" "[I", Cond.methodLink RX11 182 yX11_wasTold, Cond.instanceMethod yX11_wasTold, Cond.selects RX11 yX11_wasTold yX11_wasTold, Cond.code yX11_wasTold cX11_wasTold 4 (some .boolean), Cond.fieldLink RX11 179 "ShipOfficeModel" "happened" "I", Cond.fieldLink RX11 40 "ShipOfficeModel" "what" "[I", Cond.fieldLink RX11 43 "ShipOfficeModel" "whose" "[I", Cond.methodLink RX11 188 yX11_goesOn, Cond.instanceMethod yX11_goesOn, Cond.selects RX11 yX11_goesOn yX11_goesOn, Cond.code yX11_goesOn cX11_goesOn 2 (some .boolean), Cond.methodLink RX11 275 yX11_bare]
def wsX11_sign__r3 : List Cond := [Cond.instanceMethod yX11_bare, Cond.selects RX11 yX11_bare yX11_bare, Cond.code yX11_bare cX11_bare 2 none, Cond.methodLink RX11 285 yX11_worth, Cond.instanceMethod yX11_worth, Cond.selects RX11 yX11_worth yX11_worth, Cond.code yX11_worth cX11_worth 4 (some .int), Cond.fieldLink RX11 58 "ShipOfficeModel" "textSize" "[I", Cond.methodLink RX11 263 yX11_actOn, Cond.instanceMethod yX11_actOn, Cond.selects RX11 yX11_actOn yX11_actOn, Cond.code yX11_actOn cX11_actOn 5 (some .int), Cond.fieldLink RX11 256 "ShipOfficeModel" "acts" "I", Cond.fieldLink RX11 61 "ShipOfficeModel" "purpose" "[I", Cond.fieldLink RX11 64 "ShipOfficeModel" "from" "[I", Cond.methodLink RX11 259 yX11_goesThrough, Cond.instanceMethod yX11_goesThrough, Cond.selects RX11 yX11_goesThrough yX11_goesThrough, Cond.code yX11_goesThrough cX11_goesThrough 3 (some .int), Cond.fieldLink RX11 216 "ShipOfficeModel" "base" "I", Cond.fieldLink RX11 213 "ShipOfficeModel" "size" "I", Cond.fieldLink RX11 210 "ShipOfficeModel" "at" "I", Cond.fieldLink RX11 244 "ShipOfficeModel" "deep" "I", Cond.fieldLink RX11 223 "ShipOfficeModel" "isWell" "Z"]
def wsX11_sign__r4 : List Cond := [Cond.methodLink RX11 250 yX11_sum, Cond.instanceMethod yX11_sum, Cond.selects RX11 yX11_sum yX11_sum, Cond.code yX11_sum cX11_sum 4 (some .int), Cond.methodLink RX11 231 yX11_term, Cond.instanceMethod yX11_term, Cond.selects RX11 yX11_term yX11_term, Cond.methodLink RX11 227 yX11_sign, Cond.instanceMethod yX11_sign, Cond.selects RX11 yX11_sign yX11_sign, Cond.code yX11_sign cX11_sign 1 (some .int), Cond.fieldLink RX11 125 "ShipOfficeModel" "tape" "[I", Cond.fieldLink RX11 67 "ShipOfficeModel" "text" "[I", Cond.methodLink RX11 234 yX11_held, Cond.static yX11_held, Cond.code yX11_held cX11_held 2 (some .int), Cond.constantLong RX11 219 (1000000000), Cond.constantLong RX11 221 (-1000000000), Cond.code yX11_term cX11_term 4 (some .int), Cond.methodLink RX11 238 yX11_unit, Cond.instanceMethod yX11_unit, Cond.selects RX11 yX11_unit yX11_unit, Cond.code yX11_unit cX11_unit 5 (some .int), Cond.methodLink RX11 241 yX11_isLetter]
def wsX11_sign__r5 : List Cond := [Cond.static yX11_isLetter, Cond.code yX11_isLetter cX11_isLetter 1 (some .boolean), Cond.methodLink RX11 247 yX11_breaks, Cond.instanceMethod yX11_breaks, Cond.selects RX11 yX11_breaks yX11_breaks, Cond.code yX11_breaks cX11_breaks 1 (some .int), Cond.methodLink RX11 253 yX11_takes, Cond.instanceMethod yX11_takes, Cond.selects RX11 yX11_takes yX11_takes, Cond.code yX11_takes cX11_takes 2 (some .boolean)]
def wsX11_sign_ : List Cond := .code yX11_sign_ cX11_sign_ 8 (some .int) :: ((wsX11_sign__r1 ++ (wsX11_sign__r2 ++ (wsX11_sign__r3 ++ (wsX11_sign__r4 ++ wsX11_sign__r5)))) ++ wsX110)
def wsX11_off_r1 : List Cond := [Cond.fieldLink RX11 88 "ShipOfficeModel" "offOn" "[I", Cond.fieldLink RX11 171 "ShipOfficeModel" "now" "I", Cond.methodLink RX11 199 yX11_isAgreement, Cond.instanceMethod yX11_isAgreement, Cond.selects RX11 yX11_isAgreement yX11_isAgreement, Cond.initialized RX11, Cond.code yX11_isAgreement cX11_isAgreement 2 (some .boolean), Cond.fieldLink RX11 168 "ShipOfficeModel" "agreements" "I", Cond.methodLink RX11 161 yX11_isIn, Cond.static yX11_isIn, Cond.code yX11_isIn cX11_isIn 2 (some .boolean), Cond.methodLink RX11 174 yX11_isPort, Cond.static yX11_isPort, Cond.code yX11_isPort cX11_isPort 1 (some .boolean), Cond.methodLink RX11 153 yX11_refuse, Cond.instanceMethod yX11_refuse, Cond.selects RX11 yX11_refuse yX11_refuse, Cond.code yX11_refuse cX11_refuse 2 (some .int), Cond.fieldLink RX11 7 "ShipOfficeModel" "refusals" "[I", Cond.methodLink RX11 188 yX11_goesOn, Cond.instanceMethod yX11_goesOn, Cond.selects RX11 yX11_goesOn yX11_goesOn, Cond.code yX11_goesOn cX11_goesOn 2 (some .boolean), Cond.fieldLink RX11 73 "ShipOfficeModel" "voyage" "[I"]
def wsX11_off_r2 : List Cond := [Cond.methodLink RX11 182 yX11_wasTold, Cond.instanceMethod yX11_wasTold, Cond.selects RX11 yX11_wasTold yX11_wasTold, Cond.code yX11_wasTold cX11_wasTold 4 (some .boolean), Cond.fieldLink RX11 179 "ShipOfficeModel" "happened" "I", Cond.fieldLink RX11 40 "ShipOfficeModel" "what" "[I", Cond.fieldLink RX11 43 "ShipOfficeModel" "whose" "[I"]
def wsX11_off : List Cond := .code yX11_off cX11_off 3 (some .int) :: ((wsX11_off_r1 ++ wsX11_off_r2) ++ wsX110)
def wsX11_state_r1 : List Cond := [Cond.methodLink RX11 199 yX11_isAgreement, Cond.instanceMethod yX11_isAgreement, Cond.selects RX11 yX11_isAgreement yX11_isAgreement, Cond.initialized RX11, Cond.code yX11_isAgreement cX11_isAgreement 2 (some .boolean), Cond.fieldLink RX11 168 "ShipOfficeModel" "agreements" "I", Cond.methodLink RX11 161 yX11_isIn, Cond.static yX11_isIn, Cond.code yX11_isIn cX11_isIn 2 (some .boolean), Cond.methodLink RX11 300 yX11_wrongTimes, Cond.instanceMethod yX11_wrongTimes, Cond.selects RX11 yX11_wrongTimes yX11_wrongTimes, Cond.code yX11_wrongTimes cX11_wrongTimes 3 (some .int), Cond.fieldLink RX11 171 "ShipOfficeModel" "now" "I", Cond.methodLink RX11 153 yX11_refuse, Cond.instanceMethod yX11_refuse, Cond.selects RX11 yX11_refuse yX11_refuse, Cond.code yX11_refuse cX11_refuse 2 (some .int), Cond.fieldLink RX11 7 "ShipOfficeModel" "refusals" "[I", Cond.methodLink RX11 266 yX11_stateOf, Cond.instanceMethod yX11_stateOf, Cond.selects RX11 yX11_stateOf yX11_stateOf, Cond.code yX11_stateOf cX11_stateOf 5 (some .int), Cond.fieldLink RX11 85 "ShipOfficeModel" "signed" "[I"]
def wsX11_state_r2 : List Cond := [Cond.fieldLink RX11 88 "ShipOfficeModel" "offOn" "[I", Cond.fieldLink RX11 40 "ShipOfficeModel" "what" "[I", Cond.fieldLink RX11 73 "ShipOfficeModel" "voyage" "[I", Cond.methodLink RX11 288 yX11_isDead, Cond.instanceMethod yX11_isDead, Cond.selects RX11 yX11_isDead yX11_isDead, Cond.code yX11_isDead cX11_isDead 5 (some .boolean), Cond.fieldLink RX11 179 "ShipOfficeModel" "happened" "I", Cond.fieldLink RX11 43 "ShipOfficeModel" "whose" "[I", Cond.fieldLink RX11 49 "ShipOfficeModel" "known" "[I", Cond.fieldLink RX11 46 "ShipOfficeModel" "day" "[I", Cond.methodLink RX11 291 yX11_whereOf, Cond.instanceMethod yX11_whereOf, Cond.selects RX11 yX11_whereOf yX11_whereOf, Cond.code yX11_whereOf cX11_whereOf 6 (some .int), Cond.methodLink RX11 281 yX11_hasSailed, Cond.instanceMethod yX11_hasSailed, Cond.selects RX11 yX11_hasSailed yX11_hasSailed, Cond.code yX11_hasSailed cX11_hasSailed 5 (some .boolean), Cond.methodLink RX11 278 yX11_sailedOn, Cond.instanceMethod yX11_sailedOn, Cond.selects RX11 yX11_sailedOn yX11_sailedOn, Cond.code yX11_sailedOn cX11_sailedOn 4 (some .int), Cond.methodLink RX11 294 yX11_isUnknown]
def wsX11_state_r3 : List Cond := [Cond.instanceMethod yX11_isUnknown, Cond.selects RX11 yX11_isUnknown yX11_isUnknown, Cond.code yX11_isUnknown cX11_isUnknown 4 (some .boolean), Cond.methodLink RX11 275 yX11_bare, Cond.instanceMethod yX11_bare, Cond.selects RX11 yX11_bare yX11_bare, Cond.code yX11_bare cX11_bare 2 none, Cond.fieldLink RX11 128 "ShipOfficeModel" "letters" "[I", Cond.methodLink RX11 272 yX11_lastHeard, Cond.instanceMethod yX11_lastHeard, Cond.selects RX11 yX11_lastHeard yX11_lastHeard, Cond.code yX11_lastHeard cX11_lastHeard 6 (some .int), Cond.methodLink RX11 285 yX11_worth, Cond.instanceMethod yX11_worth, Cond.selects RX11 yX11_worth yX11_worth, Cond.code yX11_worth cX11_worth 4 (some .int), Cond.fieldLink RX11 58 "ShipOfficeModel" "textSize" "[I", Cond.methodLink RX11 263 yX11_actOn, Cond.instanceMethod yX11_actOn, Cond.selects RX11 yX11_actOn yX11_actOn, Cond.code yX11_actOn cX11_actOn 5 (some .int), Cond.fieldLink RX11 256 "ShipOfficeModel" "acts" "I", Cond.fieldLink RX11 61 "ShipOfficeModel" "purpose" "[I", Cond.fieldLink RX11 64 "ShipOfficeModel" "from" "[I"]
def wsX11_state_r4 : List Cond := [Cond.methodLink RX11 259 yX11_goesThrough, Cond.instanceMethod yX11_goesThrough, Cond.selects RX11 yX11_goesThrough yX11_goesThrough, Cond.code yX11_goesThrough cX11_goesThrough 3 (some .int), Cond.fieldLink RX11 216 "ShipOfficeModel" "base" "I", Cond.fieldLink RX11 213 "ShipOfficeModel" "size" "I", Cond.fieldLink RX11 210 "ShipOfficeModel" "at" "I", Cond.fieldLink RX11 244 "ShipOfficeModel" "deep" "I", Cond.fieldLink RX11 223 "ShipOfficeModel" "isWell" "Z", Cond.methodLink RX11 250 yX11_sum, Cond.instanceMethod yX11_sum, Cond.selects RX11 yX11_sum yX11_sum, Cond.code yX11_sum cX11_sum 4 (some .int), Cond.methodLink RX11 231 yX11_term, Cond.instanceMethod yX11_term, Cond.selects RX11 yX11_term yX11_term, Cond.methodLink RX11 227 yX11_sign, Cond.instanceMethod yX11_sign, Cond.selects RX11 yX11_sign yX11_sign, Cond.code yX11_sign cX11_sign 1 (some .int), Cond.fieldLink RX11 125 "ShipOfficeModel" "tape" "[I", Cond.fieldLink RX11 67 "ShipOfficeModel" "text" "[I", Cond.methodLink RX11 234 yX11_held, Cond.static yX11_held]
def wsX11_state_r5 : List Cond := [Cond.code yX11_held cX11_held 2 (some .int), Cond.constantLong RX11 219 (1000000000), Cond.constantLong RX11 221 (-1000000000), Cond.code yX11_term cX11_term 4 (some .int), Cond.methodLink RX11 238 yX11_unit, Cond.instanceMethod yX11_unit, Cond.selects RX11 yX11_unit yX11_unit, Cond.code yX11_unit cX11_unit 5 (some .int), Cond.methodLink RX11 241 yX11_isLetter, Cond.static yX11_isLetter, Cond.code yX11_isLetter cX11_isLetter 1 (some .boolean), Cond.methodLink RX11 247 yX11_breaks, Cond.instanceMethod yX11_breaks, Cond.selects RX11 yX11_breaks yX11_breaks, Cond.code yX11_breaks cX11_breaks 1 (some .int), Cond.methodLink RX11 253 yX11_takes, Cond.instanceMethod yX11_takes, Cond.selects RX11 yX11_takes yX11_takes, Cond.code yX11_takes cX11_takes 2 (some .boolean)]
def wsX11_state : List Cond := .code yX11_state cX11_state 5 (some .int) :: ((wsX11_state_r1 ++ (wsX11_state_r2 ++ (wsX11_state_r3 ++ (wsX11_state_r4 ++ wsX11_state_r5)))) ++ wsX110)
def wsX11_earns_r1 : List Cond := [Cond.methodLink RX11 199 yX11_isAgreement, Cond.instanceMethod yX11_isAgreement, Cond.selects RX11 yX11_isAgreement yX11_isAgreement, Cond.initialized RX11, Cond.code yX11_isAgreement cX11_isAgreement 2 (some .boolean), Cond.fieldLink RX11 168 "ShipOfficeModel" "agreements" "I", Cond.methodLink RX11 161 yX11_isIn, Cond.static yX11_isIn, Cond.code yX11_isIn cX11_isIn 2 (some .boolean), Cond.methodLink RX11 300 yX11_wrongTimes, Cond.instanceMethod yX11_wrongTimes, Cond.selects RX11 yX11_wrongTimes yX11_wrongTimes, Cond.code yX11_wrongTimes cX11_wrongTimes 3 (some .int), Cond.fieldLink RX11 171 "ShipOfficeModel" "now" "I", Cond.methodLink RX11 153 yX11_refuse, Cond.instanceMethod yX11_refuse, Cond.selects RX11 yX11_refuse yX11_refuse, Cond.code yX11_refuse cX11_refuse 2 (some .int), Cond.fieldLink RX11 7 "ShipOfficeModel" "refusals" "[I", Cond.methodLink RX11 303 yX11_earnsOf, Cond.instanceMethod yX11_earnsOf, Cond.selects RX11 yX11_earnsOf yX11_earnsOf, Cond.code yX11_earnsOf cX11_earnsOf 7 (some .int), Cond.fieldLink RX11 73 "ShipOfficeModel" "voyage" "[I"]
def wsX11_earns_r2 : List Cond := [Cond.fieldLink RX11 85 "ShipOfficeModel" "signed" "[I", Cond.methodLink RX11 266 yX11_stateOf, Cond.instanceMethod yX11_stateOf, Cond.selects RX11 yX11_stateOf yX11_stateOf, Cond.code yX11_stateOf cX11_stateOf 5 (some .int), Cond.fieldLink RX11 88 "ShipOfficeModel" "offOn" "[I", Cond.fieldLink RX11 40 "ShipOfficeModel" "what" "[I", Cond.methodLink RX11 288 yX11_isDead, Cond.instanceMethod yX11_isDead, Cond.selects RX11 yX11_isDead yX11_isDead, Cond.code yX11_isDead cX11_isDead 5 (some .boolean), Cond.fieldLink RX11 179 "ShipOfficeModel" "happened" "I", Cond.fieldLink RX11 43 "ShipOfficeModel" "whose" "[I", Cond.fieldLink RX11 49 "ShipOfficeModel" "known" "[I", Cond.fieldLink RX11 46 "ShipOfficeModel" "day" "[I", Cond.methodLink RX11 291 yX11_whereOf, Cond.instanceMethod yX11_whereOf, Cond.selects RX11 yX11_whereOf yX11_whereOf, Cond.code yX11_whereOf cX11_whereOf 6 (some .int), Cond.methodLink RX11 281 yX11_hasSailed, Cond.instanceMethod yX11_hasSailed, Cond.selects RX11 yX11_hasSailed yX11_hasSailed, Cond.code yX11_hasSailed cX11_hasSailed 5 (some .boolean), Cond.methodLink RX11 278 yX11_sailedOn]
def wsX11_earns_r3 : List Cond := [Cond.instanceMethod yX11_sailedOn, Cond.selects RX11 yX11_sailedOn yX11_sailedOn, Cond.code yX11_sailedOn cX11_sailedOn 4 (some .int), Cond.methodLink RX11 294 yX11_isUnknown, Cond.instanceMethod yX11_isUnknown, Cond.selects RX11 yX11_isUnknown yX11_isUnknown, Cond.code yX11_isUnknown cX11_isUnknown 4 (some .boolean), Cond.methodLink RX11 275 yX11_bare, Cond.instanceMethod yX11_bare, Cond.selects RX11 yX11_bare yX11_bare, Cond.code yX11_bare cX11_bare 2 none, Cond.fieldLink RX11 128 "ShipOfficeModel" "letters" "[I", Cond.methodLink RX11 272 yX11_lastHeard, Cond.instanceMethod yX11_lastHeard, Cond.selects RX11 yX11_lastHeard yX11_lastHeard, Cond.code yX11_lastHeard cX11_lastHeard 6 (some .int), Cond.methodLink RX11 285 yX11_worth, Cond.instanceMethod yX11_worth, Cond.selects RX11 yX11_worth yX11_worth, Cond.code yX11_worth cX11_worth 4 (some .int), Cond.fieldLink RX11 58 "ShipOfficeModel" "textSize" "[I", Cond.methodLink RX11 263 yX11_actOn, Cond.instanceMethod yX11_actOn, Cond.selects RX11 yX11_actOn yX11_actOn]
def wsX11_earns_r4 : List Cond := [Cond.code yX11_actOn cX11_actOn 5 (some .int), Cond.fieldLink RX11 256 "ShipOfficeModel" "acts" "I", Cond.fieldLink RX11 61 "ShipOfficeModel" "purpose" "[I", Cond.fieldLink RX11 64 "ShipOfficeModel" "from" "[I", Cond.methodLink RX11 259 yX11_goesThrough, Cond.instanceMethod yX11_goesThrough, Cond.selects RX11 yX11_goesThrough yX11_goesThrough, Cond.code yX11_goesThrough cX11_goesThrough 3 (some .int), Cond.fieldLink RX11 216 "ShipOfficeModel" "base" "I", Cond.fieldLink RX11 213 "ShipOfficeModel" "size" "I", Cond.fieldLink RX11 210 "ShipOfficeModel" "at" "I", Cond.fieldLink RX11 244 "ShipOfficeModel" "deep" "I", Cond.fieldLink RX11 223 "ShipOfficeModel" "isWell" "Z", Cond.methodLink RX11 250 yX11_sum, Cond.instanceMethod yX11_sum, Cond.selects RX11 yX11_sum yX11_sum, Cond.code yX11_sum cX11_sum 4 (some .int), Cond.methodLink RX11 231 yX11_term, Cond.instanceMethod yX11_term, Cond.selects RX11 yX11_term yX11_term, Cond.methodLink RX11 227 yX11_sign, Cond.instanceMethod yX11_sign, Cond.selects RX11 yX11_sign yX11_sign, Cond.code yX11_sign cX11_sign 1 (some .int)]
def wsX11_earns_r5 : List Cond := [Cond.fieldLink RX11 125 "ShipOfficeModel" "tape" "[I", Cond.fieldLink RX11 67 "ShipOfficeModel" "text" "[I", Cond.methodLink RX11 234 yX11_held, Cond.static yX11_held, Cond.code yX11_held cX11_held 2 (some .int), Cond.constantLong RX11 219 (1000000000), Cond.constantLong RX11 221 (-1000000000), Cond.code yX11_term cX11_term 4 (some .int), Cond.methodLink RX11 238 yX11_unit, Cond.instanceMethod yX11_unit, Cond.selects RX11 yX11_unit yX11_unit, Cond.code yX11_unit cX11_unit 5 (some .int), Cond.methodLink RX11 241 yX11_isLetter, Cond.static yX11_isLetter, Cond.code yX11_isLetter cX11_isLetter 1 (some .boolean), Cond.methodLink RX11 247 yX11_breaks, Cond.instanceMethod yX11_breaks, Cond.selects RX11 yX11_breaks yX11_breaks, Cond.code yX11_breaks cX11_breaks 1 (some .int), Cond.methodLink RX11 253 yX11_takes, Cond.instanceMethod yX11_takes, Cond.selects RX11 yX11_takes yX11_takes, Cond.code yX11_takes cX11_takes 2 (some .boolean)]
def wsX11_earns : List Cond := .code yX11_earns cX11_earns 5 (some .int) :: ((wsX11_earns_r1 ++ (wsX11_earns_r2 ++ (wsX11_earns_r3 ++ (wsX11_earns_r4 ++ wsX11_earns_r5)))) ++ wsX110)
def wsX11_advance_r1 : List Cond := [Cond.fieldLink RX11 91 "ShipOfficeModel" "note" "[I", Cond.fieldLink RX11 171 "ShipOfficeModel" "now" "I", Cond.constant RX11 178 (99999), Cond.methodLink RX11 199 yX11_isAgreement, Cond.instanceMethod yX11_isAgreement, Cond.selects RX11 yX11_isAgreement yX11_isAgreement, Cond.initialized RX11, Cond.code yX11_isAgreement cX11_isAgreement 2 (some .boolean), Cond.fieldLink RX11 168 "ShipOfficeModel" "agreements" "I", Cond.methodLink RX11 161 yX11_isIn, Cond.static yX11_isIn, Cond.code yX11_isIn cX11_isIn 2 (some .boolean), Cond.methodLink RX11 153 yX11_refuse, Cond.instanceMethod yX11_refuse, Cond.selects RX11 yX11_refuse yX11_refuse, Cond.code yX11_refuse cX11_refuse 2 (some .int), Cond.fieldLink RX11 7 "ShipOfficeModel" "refusals" "[I", Cond.methodLink RX11 266 yX11_stateOf, Cond.instanceMethod yX11_stateOf, Cond.selects RX11 yX11_stateOf yX11_stateOf, Cond.code yX11_stateOf cX11_stateOf 5 (some .int), Cond.fieldLink RX11 85 "ShipOfficeModel" "signed" "[I", Cond.fieldLink RX11 88 "ShipOfficeModel" "offOn" "[I", Cond.fieldLink RX11 40 "ShipOfficeModel" "what" "[I"]
def wsX11_advance_r2 : List Cond := [Cond.fieldLink RX11 73 "ShipOfficeModel" "voyage" "[I", Cond.methodLink RX11 288 yX11_isDead, Cond.instanceMethod yX11_isDead, Cond.selects RX11 yX11_isDead yX11_isDead, Cond.code yX11_isDead cX11_isDead 5 (some .boolean), Cond.fieldLink RX11 179 "ShipOfficeModel" "happened" "I", Cond.fieldLink RX11 43 "ShipOfficeModel" "whose" "[I", Cond.fieldLink RX11 49 "ShipOfficeModel" "known" "[I", Cond.fieldLink RX11 46 "ShipOfficeModel" "day" "[I", Cond.methodLink RX11 291 yX11_whereOf, Cond.instanceMethod yX11_whereOf, Cond.selects RX11 yX11_whereOf yX11_whereOf, Cond.code yX11_whereOf cX11_whereOf 6 (some .int), Cond.methodLink RX11 281 yX11_hasSailed, Cond.instanceMethod yX11_hasSailed, Cond.selects RX11 yX11_hasSailed yX11_hasSailed, Cond.code yX11_hasSailed cX11_hasSailed 5 (some .boolean), Cond.methodLink RX11 278 yX11_sailedOn, Cond.instanceMethod yX11_sailedOn, Cond.selects RX11 yX11_sailedOn yX11_sailedOn, Cond.code yX11_sailedOn cX11_sailedOn 4 (some .int), Cond.methodLink RX11 294 yX11_isUnknown, Cond.instanceMethod yX11_isUnknown, Cond.selects RX11 yX11_isUnknown yX11_isUnknown]
def wsX11_advance_r3 : List Cond := [Cond.code yX11_isUnknown cX11_isUnknown 4 (some .boolean), Cond.methodLink RX11 275 yX11_bare, Cond.instanceMethod yX11_bare, Cond.selects RX11 yX11_bare yX11_bare, Cond.code yX11_bare cX11_bare 2 none, Cond.fieldLink RX11 128 "ShipOfficeModel" "letters" "[I", Cond.methodLink RX11 272 yX11_lastHeard, Cond.instanceMethod yX11_lastHeard, Cond.selects RX11 yX11_lastHeard yX11_lastHeard, Cond.code yX11_lastHeard cX11_lastHeard 6 (some .int), Cond.methodLink RX11 285 yX11_worth, Cond.instanceMethod yX11_worth, Cond.selects RX11 yX11_worth yX11_worth, Cond.code yX11_worth cX11_worth 4 (some .int), Cond.fieldLink RX11 58 "ShipOfficeModel" "textSize" "[I", Cond.methodLink RX11 263 yX11_actOn, Cond.instanceMethod yX11_actOn, Cond.selects RX11 yX11_actOn yX11_actOn, Cond.code yX11_actOn cX11_actOn 5 (some .int), Cond.fieldLink RX11 256 "ShipOfficeModel" "acts" "I", Cond.fieldLink RX11 61 "ShipOfficeModel" "purpose" "[I", Cond.fieldLink RX11 64 "ShipOfficeModel" "from" "[I", Cond.methodLink RX11 259 yX11_goesThrough, Cond.instanceMethod yX11_goesThrough]
def wsX11_advance_r4 : List Cond := [Cond.selects RX11 yX11_goesThrough yX11_goesThrough, Cond.code yX11_goesThrough cX11_goesThrough 3 (some .int), Cond.fieldLink RX11 216 "ShipOfficeModel" "base" "I", Cond.fieldLink RX11 213 "ShipOfficeModel" "size" "I", Cond.fieldLink RX11 210 "ShipOfficeModel" "at" "I", Cond.fieldLink RX11 244 "ShipOfficeModel" "deep" "I", Cond.fieldLink RX11 223 "ShipOfficeModel" "isWell" "Z", Cond.methodLink RX11 250 yX11_sum, Cond.instanceMethod yX11_sum, Cond.selects RX11 yX11_sum yX11_sum, Cond.code yX11_sum cX11_sum 4 (some .int), Cond.methodLink RX11 231 yX11_term, Cond.instanceMethod yX11_term, Cond.selects RX11 yX11_term yX11_term, Cond.methodLink RX11 227 yX11_sign, Cond.instanceMethod yX11_sign, Cond.selects RX11 yX11_sign yX11_sign, Cond.code yX11_sign cX11_sign 1 (some .int), Cond.fieldLink RX11 125 "ShipOfficeModel" "tape" "[I", Cond.fieldLink RX11 67 "ShipOfficeModel" "text" "[I", Cond.methodLink RX11 234 yX11_held, Cond.static yX11_held, Cond.code yX11_held cX11_held 2 (some .int), Cond.constantLong RX11 219 (1000000000)]
def wsX11_advance_r5 : List Cond := [Cond.constantLong RX11 221 (-1000000000), Cond.code yX11_term cX11_term 4 (some .int), Cond.methodLink RX11 238 yX11_unit, Cond.instanceMethod yX11_unit, Cond.selects RX11 yX11_unit yX11_unit, Cond.code yX11_unit cX11_unit 5 (some .int), Cond.methodLink RX11 241 yX11_isLetter, Cond.static yX11_isLetter, Cond.code yX11_isLetter cX11_isLetter 1 (some .boolean), Cond.methodLink RX11 247 yX11_breaks, Cond.instanceMethod yX11_breaks, Cond.selects RX11 yX11_breaks yX11_breaks, Cond.code yX11_breaks cX11_breaks 1 (some .int), Cond.methodLink RX11 253 yX11_takes, Cond.instanceMethod yX11_takes, Cond.selects RX11 yX11_takes yX11_takes, Cond.code yX11_takes cX11_takes 2 (some .boolean)]
def wsX11_advance : List Cond := .code yX11_advance cX11_advance 3 (some .int) :: ((wsX11_advance_r1 ++ (wsX11_advance_r2 ++ (wsX11_advance_r3 ++ (wsX11_advance_r4 ++ wsX11_advance_r5)))) ++ wsX110)
def wsX11_sold : List Cond := .code yX11_sold cX11_sold 3 (some .int) :: ([.fieldLink RX11 91 "ShipOfficeModel" "note" "[I", .fieldLink RX11 94 "ShipOfficeModel" "given" "[I", .methodLink RX11 199 yX11_isAgreement, .instanceMethod yX11_isAgreement, .selects RX11 yX11_isAgreement yX11_isAgreement, .initialized RX11, .code yX11_isAgreement cX11_isAgreement 2 (some .boolean), .fieldLink RX11 168 "ShipOfficeModel" "agreements" "I", .methodLink RX11 161 yX11_isIn, .static yX11_isIn, .code yX11_isIn cX11_isIn 2 (some .boolean), .methodLink RX11 153 yX11_refuse, .instanceMethod yX11_refuse, .selects RX11 yX11_refuse yX11_refuse, .code yX11_refuse cX11_refuse 2 (some .int), .fieldLink RX11 7 "ShipOfficeModel" "refusals" "[I"] ++ wsX110)
def wsX11_allot_r1 : List Cond := [Cond.fieldLink RX11 97 "ShipOfficeModel" "allotted" "[I", Cond.fieldLink RX11 171 "ShipOfficeModel" "now" "I", Cond.fieldLink RX11 76 "ShipOfficeModel" "wage" "[I", Cond.constantLong RX11 310 (100), Cond.methodLink RX11 199 yX11_isAgreement, Cond.instanceMethod yX11_isAgreement, Cond.selects RX11 yX11_isAgreement yX11_isAgreement, Cond.initialized RX11, Cond.code yX11_isAgreement cX11_isAgreement 2 (some .boolean), Cond.fieldLink RX11 168 "ShipOfficeModel" "agreements" "I", Cond.methodLink RX11 161 yX11_isIn, Cond.static yX11_isIn, Cond.code yX11_isIn cX11_isIn 2 (some .boolean), Cond.methodLink RX11 153 yX11_refuse, Cond.instanceMethod yX11_refuse, Cond.selects RX11 yX11_refuse yX11_refuse, Cond.code yX11_refuse cX11_refuse 2 (some .int), Cond.fieldLink RX11 7 "ShipOfficeModel" "refusals" "[I", Cond.methodLink RX11 188 yX11_goesOn, Cond.instanceMethod yX11_goesOn, Cond.selects RX11 yX11_goesOn yX11_goesOn, Cond.code yX11_goesOn cX11_goesOn 2 (some .boolean), Cond.fieldLink RX11 88 "ShipOfficeModel" "offOn" "[I", Cond.fieldLink RX11 73 "ShipOfficeModel" "voyage" "[I"]
def wsX11_allot_r2 : List Cond := [Cond.methodLink RX11 182 yX11_wasTold, Cond.instanceMethod yX11_wasTold, Cond.selects RX11 yX11_wasTold yX11_wasTold, Cond.code yX11_wasTold cX11_wasTold 4 (some .boolean), Cond.fieldLink RX11 179 "ShipOfficeModel" "happened" "I", Cond.fieldLink RX11 40 "ShipOfficeModel" "what" "[I", Cond.fieldLink RX11 43 "ShipOfficeModel" "whose" "[I", Cond.methodLink RX11 306 yX11_puts, Cond.instanceMethod yX11_puts, Cond.selects RX11 yX11_puts yX11_puts, Cond.code yX11_puts cX11_puts 9 none, Cond.fieldLink RX11 85 "ShipOfficeModel" "signed" "[I", Cond.fieldLink RX11 128 "ShipOfficeModel" "letters" "[I", Cond.fieldLink RX11 79 "ShipOfficeModel" "rank" "[I", Cond.fieldLink RX11 22 "ShipOfficeModel" "born" "[I", Cond.fieldLink RX11 70 "ShipOfficeModel" "man" "[I", Cond.methodLink RX11 266 yX11_stateOf, Cond.instanceMethod yX11_stateOf, Cond.selects RX11 yX11_stateOf yX11_stateOf, Cond.code yX11_stateOf cX11_stateOf 5 (some .int), Cond.methodLink RX11 288 yX11_isDead, Cond.instanceMethod yX11_isDead, Cond.selects RX11 yX11_isDead yX11_isDead, Cond.code yX11_isDead cX11_isDead 5 (some .boolean)]
def wsX11_allot_r3 : List Cond := [Cond.fieldLink RX11 49 "ShipOfficeModel" "known" "[I", Cond.fieldLink RX11 46 "ShipOfficeModel" "day" "[I", Cond.methodLink RX11 291 yX11_whereOf, Cond.instanceMethod yX11_whereOf, Cond.selects RX11 yX11_whereOf yX11_whereOf, Cond.code yX11_whereOf cX11_whereOf 6 (some .int), Cond.methodLink RX11 281 yX11_hasSailed, Cond.instanceMethod yX11_hasSailed, Cond.selects RX11 yX11_hasSailed yX11_hasSailed, Cond.code yX11_hasSailed cX11_hasSailed 5 (some .boolean), Cond.methodLink RX11 278 yX11_sailedOn, Cond.instanceMethod yX11_sailedOn, Cond.selects RX11 yX11_sailedOn yX11_sailedOn, Cond.code yX11_sailedOn cX11_sailedOn 4 (some .int), Cond.methodLink RX11 294 yX11_isUnknown, Cond.instanceMethod yX11_isUnknown, Cond.selects RX11 yX11_isUnknown yX11_isUnknown, Cond.code yX11_isUnknown cX11_isUnknown 4 (some .boolean), Cond.methodLink RX11 275 yX11_bare, Cond.instanceMethod yX11_bare, Cond.selects RX11 yX11_bare yX11_bare, Cond.code yX11_bare cX11_bare 2 none, Cond.methodLink RX11 272 yX11_lastHeard, Cond.instanceMethod yX11_lastHeard]
def wsX11_allot_r4 : List Cond := [Cond.selects RX11 yX11_lastHeard yX11_lastHeard, Cond.code yX11_lastHeard cX11_lastHeard 6 (some .int), Cond.methodLink RX11 285 yX11_worth, Cond.instanceMethod yX11_worth, Cond.selects RX11 yX11_worth yX11_worth, Cond.code yX11_worth cX11_worth 4 (some .int), Cond.fieldLink RX11 58 "ShipOfficeModel" "textSize" "[I", Cond.methodLink RX11 263 yX11_actOn, Cond.instanceMethod yX11_actOn, Cond.selects RX11 yX11_actOn yX11_actOn, Cond.code yX11_actOn cX11_actOn 5 (some .int), Cond.fieldLink RX11 256 "ShipOfficeModel" "acts" "I", Cond.fieldLink RX11 61 "ShipOfficeModel" "purpose" "[I", Cond.fieldLink RX11 64 "ShipOfficeModel" "from" "[I", Cond.methodLink RX11 259 yX11_goesThrough, Cond.instanceMethod yX11_goesThrough, Cond.selects RX11 yX11_goesThrough yX11_goesThrough, Cond.code yX11_goesThrough cX11_goesThrough 3 (some .int), Cond.fieldLink RX11 216 "ShipOfficeModel" "base" "I", Cond.fieldLink RX11 213 "ShipOfficeModel" "size" "I", Cond.fieldLink RX11 210 "ShipOfficeModel" "at" "I", Cond.fieldLink RX11 244 "ShipOfficeModel" "deep" "I", Cond.fieldLink RX11 223 "ShipOfficeModel" "isWell" "Z", Cond.methodLink RX11 250 yX11_sum]
def wsX11_allot_r5 : List Cond := [Cond.instanceMethod yX11_sum, Cond.selects RX11 yX11_sum yX11_sum, Cond.code yX11_sum cX11_sum 4 (some .int), Cond.methodLink RX11 231 yX11_term, Cond.instanceMethod yX11_term, Cond.selects RX11 yX11_term yX11_term, Cond.methodLink RX11 227 yX11_sign, Cond.instanceMethod yX11_sign, Cond.selects RX11 yX11_sign yX11_sign, Cond.code yX11_sign cX11_sign 1 (some .int), Cond.fieldLink RX11 125 "ShipOfficeModel" "tape" "[I", Cond.fieldLink RX11 67 "ShipOfficeModel" "text" "[I", Cond.methodLink RX11 234 yX11_held, Cond.static yX11_held, Cond.code yX11_held cX11_held 2 (some .int), Cond.constantLong RX11 219 (1000000000), Cond.constantLong RX11 221 (-1000000000), Cond.code yX11_term cX11_term 4 (some .int), Cond.methodLink RX11 238 yX11_unit, Cond.instanceMethod yX11_unit, Cond.selects RX11 yX11_unit yX11_unit, Cond.code yX11_unit cX11_unit 5 (some .int), Cond.methodLink RX11 241 yX11_isLetter, Cond.static yX11_isLetter]
def wsX11_allot_r6 : List Cond := [Cond.code yX11_isLetter cX11_isLetter 1 (some .boolean), Cond.methodLink RX11 247 yX11_breaks, Cond.instanceMethod yX11_breaks, Cond.selects RX11 yX11_breaks yX11_breaks, Cond.code yX11_breaks cX11_breaks 1 (some .int), Cond.methodLink RX11 253 yX11_takes, Cond.instanceMethod yX11_takes, Cond.selects RX11 yX11_takes yX11_takes, Cond.code yX11_takes cX11_takes 2 (some .boolean), Cond.methodLink RX11 269 yX11_aboardOf, Cond.instanceMethod yX11_aboardOf, Cond.selects RX11 yX11_aboardOf yX11_aboardOf, Cond.code yX11_aboardOf cX11_aboardOf 6 (some .int)]
def wsX11_allot : List Cond := .code yX11_allot cX11_allot 3 (some .int) :: ((wsX11_allot_r1 ++ (wsX11_allot_r2 ++ (wsX11_allot_r3 ++ (wsX11_allot_r4 ++ (wsX11_allot_r5 ++ wsX11_allot_r6))))) ++ wsX110)
def wsX11_fine : List Cond := .code yX11_fine cX11_fine 6 (some .int) :: ([.fieldLink RX11 88 "ShipOfficeModel" "offOn" "[I", .fieldLink RX11 85 "ShipOfficeModel" "signed" "[I", .fieldLink RX11 171 "ShipOfficeModel" "now" "I", .fieldLink RX11 100 "ShipOfficeModel" "fines" "[I", .fieldLink RX11 109 "ShipOfficeModel" "fineDay" "[I", .fieldLink RX11 112 "ShipOfficeModel" "fineSum" "[I", .fieldLink RX11 121 "ShipOfficeModel" "isRead" "[Z", .methodLink RX11 199 yX11_isAgreement, .instanceMethod yX11_isAgreement, .selects RX11 yX11_isAgreement yX11_isAgreement, .initialized RX11, .code yX11_isAgreement cX11_isAgreement 2 (some .boolean), .fieldLink RX11 168 "ShipOfficeModel" "agreements" "I", .methodLink RX11 161 yX11_isIn, .static yX11_isIn, .code yX11_isIn cX11_isIn 2 (some .boolean), .methodLink RX11 153 yX11_refuse, .instanceMethod yX11_refuse, .selects RX11 yX11_refuse yX11_refuse, .code yX11_refuse cX11_refuse 2 (some .int), .fieldLink RX11 7 "ShipOfficeModel" "refusals" "[I"] ++ wsX110)
def wsX11_isFine : List Cond := .code yX11_isFine cX11_isFine 3 (some .boolean) :: ([.fieldLink RX11 100 "ShipOfficeModel" "fines" "[I", .methodLink RX11 199 yX11_isAgreement, .instanceMethod yX11_isAgreement, .selects RX11 yX11_isAgreement yX11_isAgreement, .initialized RX11, .code yX11_isAgreement cX11_isAgreement 2 (some .boolean), .fieldLink RX11 168 "ShipOfficeModel" "agreements" "I", .methodLink RX11 161 yX11_isIn, .static yX11_isIn, .code yX11_isIn cX11_isIn 2 (some .boolean)] ++ wsX110)
def wsX11_read : List Cond := .code yX11_read cX11_read 3 (some .int) :: ([.fieldLink RX11 121 "ShipOfficeModel" "isRead" "[Z", .fieldLink RX11 109 "ShipOfficeModel" "fineDay" "[I", .fieldLink RX11 171 "ShipOfficeModel" "now" "I", .methodLink RX11 312 yX11_isFine, .instanceMethod yX11_isFine, .selects RX11 yX11_isFine yX11_isFine, .initialized RX11, .code yX11_isFine cX11_isFine 3 (some .boolean), .fieldLink RX11 100 "ShipOfficeModel" "fines" "[I", .methodLink RX11 199 yX11_isAgreement, .instanceMethod yX11_isAgreement, .selects RX11 yX11_isAgreement yX11_isAgreement, .code yX11_isAgreement cX11_isAgreement 2 (some .boolean), .fieldLink RX11 168 "ShipOfficeModel" "agreements" "I", .methodLink RX11 161 yX11_isIn, .static yX11_isIn, .code yX11_isIn cX11_isIn 2 (some .boolean), .methodLink RX11 153 yX11_refuse, .instanceMethod yX11_refuse, .selects RX11 yX11_refuse yX11_refuse, .code yX11_refuse cX11_refuse 2 (some .int), .fieldLink RX11 7 "ShipOfficeModel" "refusals" "[I"] ++ wsX110)
def wsX11_stands_r1 : List Cond := [Cond.fieldLink RX11 171 "ShipOfficeModel" "now" "I", Cond.methodLink RX11 312 yX11_isFine, Cond.instanceMethod yX11_isFine, Cond.selects RX11 yX11_isFine yX11_isFine, Cond.initialized RX11, Cond.code yX11_isFine cX11_isFine 3 (some .boolean), Cond.fieldLink RX11 100 "ShipOfficeModel" "fines" "[I", Cond.methodLink RX11 199 yX11_isAgreement, Cond.instanceMethod yX11_isAgreement, Cond.selects RX11 yX11_isAgreement yX11_isAgreement, Cond.code yX11_isAgreement cX11_isAgreement 2 (some .boolean), Cond.fieldLink RX11 168 "ShipOfficeModel" "agreements" "I", Cond.methodLink RX11 161 yX11_isIn, Cond.static yX11_isIn, Cond.code yX11_isIn cX11_isIn 2 (some .boolean), Cond.methodLink RX11 153 yX11_refuse, Cond.instanceMethod yX11_refuse, Cond.selects RX11 yX11_refuse yX11_refuse, Cond.code yX11_refuse cX11_refuse 2 (some .int), Cond.fieldLink RX11 7 "ShipOfficeModel" "refusals" "[I", Cond.methodLink RX11 315 yX11_standsOf, Cond.instanceMethod yX11_standsOf, Cond.selects RX11 yX11_standsOf yX11_standsOf, Cond.code yX11_standsOf cX11_standsOf 6 (some .int)]
def wsX11_stands_r2 : List Cond := [Cond.fieldLink RX11 109 "ShipOfficeModel" "fineDay" "[I", Cond.fieldLink RX11 112 "ShipOfficeModel" "fineSum" "[I", Cond.fieldLink RX11 121 "ShipOfficeModel" "isRead" "[Z", Cond.methodLink RX11 306 yX11_puts, Cond.instanceMethod yX11_puts, Cond.selects RX11 yX11_puts yX11_puts, Cond.code yX11_puts cX11_puts 9 none, Cond.fieldLink RX11 85 "ShipOfficeModel" "signed" "[I", Cond.fieldLink RX11 73 "ShipOfficeModel" "voyage" "[I", Cond.fieldLink RX11 128 "ShipOfficeModel" "letters" "[I", Cond.fieldLink RX11 76 "ShipOfficeModel" "wage" "[I", Cond.fieldLink RX11 79 "ShipOfficeModel" "rank" "[I", Cond.fieldLink RX11 22 "ShipOfficeModel" "born" "[I", Cond.fieldLink RX11 70 "ShipOfficeModel" "man" "[I", Cond.methodLink RX11 266 yX11_stateOf, Cond.instanceMethod yX11_stateOf, Cond.selects RX11 yX11_stateOf yX11_stateOf, Cond.code yX11_stateOf cX11_stateOf 5 (some .int), Cond.fieldLink RX11 88 "ShipOfficeModel" "offOn" "[I", Cond.fieldLink RX11 40 "ShipOfficeModel" "what" "[I", Cond.methodLink RX11 288 yX11_isDead, Cond.instanceMethod yX11_isDead, Cond.selects RX11 yX11_isDead yX11_isDead, Cond.code yX11_isDead cX11_isDead 5 (some .boolean)]
def wsX11_stands_r3 : List Cond := [Cond.fieldLink RX11 179 "ShipOfficeModel" "happened" "I", Cond.fieldLink RX11 43 "ShipOfficeModel" "whose" "[I", Cond.fieldLink RX11 49 "ShipOfficeModel" "known" "[I", Cond.fieldLink RX11 46 "ShipOfficeModel" "day" "[I", Cond.methodLink RX11 291 yX11_whereOf, Cond.instanceMethod yX11_whereOf, Cond.selects RX11 yX11_whereOf yX11_whereOf, Cond.code yX11_whereOf cX11_whereOf 6 (some .int), Cond.methodLink RX11 281 yX11_hasSailed, Cond.instanceMethod yX11_hasSailed, Cond.selects RX11 yX11_hasSailed yX11_hasSailed, Cond.code yX11_hasSailed cX11_hasSailed 5 (some .boolean), Cond.methodLink RX11 278 yX11_sailedOn, Cond.instanceMethod yX11_sailedOn, Cond.selects RX11 yX11_sailedOn yX11_sailedOn, Cond.code yX11_sailedOn cX11_sailedOn 4 (some .int), Cond.methodLink RX11 294 yX11_isUnknown, Cond.instanceMethod yX11_isUnknown, Cond.selects RX11 yX11_isUnknown yX11_isUnknown, Cond.code yX11_isUnknown cX11_isUnknown 4 (some .boolean), Cond.methodLink RX11 275 yX11_bare, Cond.instanceMethod yX11_bare, Cond.selects RX11 yX11_bare yX11_bare, Cond.code yX11_bare cX11_bare 2 none]
def wsX11_stands_r4 : List Cond := [Cond.methodLink RX11 272 yX11_lastHeard, Cond.instanceMethod yX11_lastHeard, Cond.selects RX11 yX11_lastHeard yX11_lastHeard, Cond.code yX11_lastHeard cX11_lastHeard 6 (some .int), Cond.methodLink RX11 285 yX11_worth, Cond.instanceMethod yX11_worth, Cond.selects RX11 yX11_worth yX11_worth, Cond.code yX11_worth cX11_worth 4 (some .int), Cond.fieldLink RX11 58 "ShipOfficeModel" "textSize" "[I", Cond.methodLink RX11 263 yX11_actOn, Cond.instanceMethod yX11_actOn, Cond.selects RX11 yX11_actOn yX11_actOn, Cond.code yX11_actOn cX11_actOn 5 (some .int), Cond.fieldLink RX11 256 "ShipOfficeModel" "acts" "I", Cond.fieldLink RX11 61 "ShipOfficeModel" "purpose" "[I", Cond.fieldLink RX11 64 "ShipOfficeModel" "from" "[I", Cond.methodLink RX11 259 yX11_goesThrough, Cond.instanceMethod yX11_goesThrough, Cond.selects RX11 yX11_goesThrough yX11_goesThrough, Cond.code yX11_goesThrough cX11_goesThrough 3 (some .int), Cond.fieldLink RX11 216 "ShipOfficeModel" "base" "I", Cond.fieldLink RX11 213 "ShipOfficeModel" "size" "I", Cond.fieldLink RX11 210 "ShipOfficeModel" "at" "I", Cond.fieldLink RX11 244 "ShipOfficeModel" "deep" "I"]
def wsX11_stands_r5 : List Cond := [Cond.fieldLink RX11 223 "ShipOfficeModel" "isWell" "Z", Cond.methodLink RX11 250 yX11_sum, Cond.instanceMethod yX11_sum, Cond.selects RX11 yX11_sum yX11_sum, Cond.code yX11_sum cX11_sum 4 (some .int), Cond.methodLink RX11 231 yX11_term, Cond.instanceMethod yX11_term, Cond.selects RX11 yX11_term yX11_term, Cond.methodLink RX11 227 yX11_sign, Cond.instanceMethod yX11_sign, Cond.selects RX11 yX11_sign yX11_sign, Cond.code yX11_sign cX11_sign 1 (some .int), Cond.fieldLink RX11 125 "ShipOfficeModel" "tape" "[I", Cond.fieldLink RX11 67 "ShipOfficeModel" "text" "[I", Cond.methodLink RX11 234 yX11_held, Cond.static yX11_held, Cond.code yX11_held cX11_held 2 (some .int), Cond.constantLong RX11 219 (1000000000), Cond.constantLong RX11 221 (-1000000000), Cond.code yX11_term cX11_term 4 (some .int), Cond.methodLink RX11 238 yX11_unit, Cond.instanceMethod yX11_unit, Cond.selects RX11 yX11_unit yX11_unit, Cond.code yX11_unit cX11_unit 5 (some .int)]
def wsX11_stands_r6 : List Cond := [Cond.methodLink RX11 241 yX11_isLetter, Cond.static yX11_isLetter, Cond.code yX11_isLetter cX11_isLetter 1 (some .boolean), Cond.methodLink RX11 247 yX11_breaks, Cond.instanceMethod yX11_breaks, Cond.selects RX11 yX11_breaks yX11_breaks, Cond.code yX11_breaks cX11_breaks 1 (some .int), Cond.methodLink RX11 253 yX11_takes, Cond.instanceMethod yX11_takes, Cond.selects RX11 yX11_takes yX11_takes, Cond.code yX11_takes cX11_takes 2 (some .boolean), Cond.methodLink RX11 269 yX11_aboardOf, Cond.instanceMethod yX11_aboardOf, Cond.selects RX11 yX11_aboardOf yX11_aboardOf, Cond.code yX11_aboardOf cX11_aboardOf 6 (some .int)]
def wsX11_stands : List Cond := .code yX11_stands cX11_stands 4 (some .int) :: ((wsX11_stands_r1 ++ (wsX11_stands_r2 ++ (wsX11_stands_r3 ++ (wsX11_stands_r4 ++ (wsX11_stands_r5 ++ wsX11_stands_r6))))) ++ wsX110)
def wsX11_rations : List Cond := .code yX11_rations cX11_rations 5 (some .int) :: ([.fieldLink RX11 106 "ShipOfficeModel" "shortDays" "[I", .fieldLink RX11 103 "ShipOfficeModel" "shorts" "[I", .fieldLink RX11 115 "ShipOfficeModel" "shortOn" "[I", .fieldLink RX11 171 "ShipOfficeModel" "now" "I", .fieldLink RX11 118 "ShipOfficeModel" "shortSum" "[I", .methodLink RX11 199 yX11_isAgreement, .instanceMethod yX11_isAgreement, .selects RX11 yX11_isAgreement yX11_isAgreement, .initialized RX11, .code yX11_isAgreement cX11_isAgreement 2 (some .boolean), .fieldLink RX11 168 "ShipOfficeModel" "agreements" "I", .methodLink RX11 161 yX11_isIn, .static yX11_isIn, .code yX11_isIn cX11_isIn 2 (some .boolean), .methodLink RX11 153 yX11_refuse, .instanceMethod yX11_refuse, .selects RX11 yX11_refuse yX11_refuse, .code yX11_refuse cX11_refuse 2 (some .int), .fieldLink RX11 7 "ShipOfficeModel" "refusals" "[I"] ++ wsX110)
def wsX11_owed_r1 : List Cond := [Cond.methodLink RX11 199 yX11_isAgreement, Cond.instanceMethod yX11_isAgreement, Cond.selects RX11 yX11_isAgreement yX11_isAgreement, Cond.initialized RX11, Cond.code yX11_isAgreement cX11_isAgreement 2 (some .boolean), Cond.fieldLink RX11 168 "ShipOfficeModel" "agreements" "I", Cond.methodLink RX11 161 yX11_isIn, Cond.static yX11_isIn, Cond.code yX11_isIn cX11_isIn 2 (some .boolean), Cond.methodLink RX11 300 yX11_wrongTimes, Cond.instanceMethod yX11_wrongTimes, Cond.selects RX11 yX11_wrongTimes yX11_wrongTimes, Cond.code yX11_wrongTimes cX11_wrongTimes 3 (some .int), Cond.fieldLink RX11 171 "ShipOfficeModel" "now" "I", Cond.methodLink RX11 320 yX11_refuseFar, Cond.instanceMethod yX11_refuseFar, Cond.selects RX11 yX11_refuseFar yX11_refuseFar, Cond.code yX11_refuseFar cX11_refuseFar 2 (some .int), Cond.constant RX11 152 (1000000000), Cond.methodLink RX11 153 yX11_refuse, Cond.instanceMethod yX11_refuse, Cond.selects RX11 yX11_refuse yX11_refuse, Cond.code yX11_refuse cX11_refuse 2 (some .int), Cond.fieldLink RX11 7 "ShipOfficeModel" "refusals" "[I"]
def wsX11_owed_r2 : List Cond := [Cond.methodLink RX11 323 yX11_owedOf, Cond.instanceMethod yX11_owedOf, Cond.selects RX11 yX11_owedOf yX11_owedOf, Cond.code yX11_owedOf cX11_owedOf 8 (some .int), Cond.fieldLink RX11 85 "ShipOfficeModel" "signed" "[I", Cond.fieldLink RX11 76 "ShipOfficeModel" "wage" "[I", Cond.constantLong RX11 318 (30), Cond.fieldLink RX11 73 "ShipOfficeModel" "voyage" "[I", Cond.fieldLink RX11 91 "ShipOfficeModel" "note" "[I", Cond.fieldLink RX11 97 "ShipOfficeModel" "allotted" "[I", Cond.fieldLink RX11 100 "ShipOfficeModel" "fines" "[I", Cond.fieldLink RX11 109 "ShipOfficeModel" "fineDay" "[I", Cond.fieldLink RX11 103 "ShipOfficeModel" "shorts" "[I", Cond.fieldLink RX11 115 "ShipOfficeModel" "shortOn" "[I", Cond.fieldLink RX11 118 "ShipOfficeModel" "shortSum" "[I", Cond.fieldLink RX11 52 "ShipOfficeModel" "way" "[I", Cond.constantLong RX11 310 (100), Cond.methodLink RX11 303 yX11_earnsOf, Cond.instanceMethod yX11_earnsOf, Cond.selects RX11 yX11_earnsOf yX11_earnsOf, Cond.code yX11_earnsOf cX11_earnsOf 7 (some .int), Cond.methodLink RX11 266 yX11_stateOf, Cond.instanceMethod yX11_stateOf, Cond.selects RX11 yX11_stateOf yX11_stateOf]
def wsX11_owed_r3 : List Cond := [Cond.code yX11_stateOf cX11_stateOf 5 (some .int), Cond.fieldLink RX11 88 "ShipOfficeModel" "offOn" "[I", Cond.fieldLink RX11 40 "ShipOfficeModel" "what" "[I", Cond.methodLink RX11 288 yX11_isDead, Cond.instanceMethod yX11_isDead, Cond.selects RX11 yX11_isDead yX11_isDead, Cond.code yX11_isDead cX11_isDead 5 (some .boolean), Cond.fieldLink RX11 179 "ShipOfficeModel" "happened" "I", Cond.fieldLink RX11 43 "ShipOfficeModel" "whose" "[I", Cond.fieldLink RX11 49 "ShipOfficeModel" "known" "[I", Cond.fieldLink RX11 46 "ShipOfficeModel" "day" "[I", Cond.methodLink RX11 291 yX11_whereOf, Cond.instanceMethod yX11_whereOf, Cond.selects RX11 yX11_whereOf yX11_whereOf, Cond.code yX11_whereOf cX11_whereOf 6 (some .int), Cond.methodLink RX11 281 yX11_hasSailed, Cond.instanceMethod yX11_hasSailed, Cond.selects RX11 yX11_hasSailed yX11_hasSailed, Cond.code yX11_hasSailed cX11_hasSailed 5 (some .boolean), Cond.methodLink RX11 278 yX11_sailedOn, Cond.instanceMethod yX11_sailedOn, Cond.selects RX11 yX11_sailedOn yX11_sailedOn, Cond.code yX11_sailedOn cX11_sailedOn 4 (some .int), Cond.methodLink RX11 294 yX11_isUnknown]
def wsX11_owed_r4 : List Cond := [Cond.instanceMethod yX11_isUnknown, Cond.selects RX11 yX11_isUnknown yX11_isUnknown, Cond.code yX11_isUnknown cX11_isUnknown 4 (some .boolean), Cond.methodLink RX11 275 yX11_bare, Cond.instanceMethod yX11_bare, Cond.selects RX11 yX11_bare yX11_bare, Cond.code yX11_bare cX11_bare 2 none, Cond.fieldLink RX11 128 "ShipOfficeModel" "letters" "[I", Cond.methodLink RX11 272 yX11_lastHeard, Cond.instanceMethod yX11_lastHeard, Cond.selects RX11 yX11_lastHeard yX11_lastHeard, Cond.code yX11_lastHeard cX11_lastHeard 6 (some .int), Cond.methodLink RX11 285 yX11_worth, Cond.instanceMethod yX11_worth, Cond.selects RX11 yX11_worth yX11_worth, Cond.code yX11_worth cX11_worth 4 (some .int), Cond.fieldLink RX11 58 "ShipOfficeModel" "textSize" "[I", Cond.methodLink RX11 263 yX11_actOn, Cond.instanceMethod yX11_actOn, Cond.selects RX11 yX11_actOn yX11_actOn, Cond.code yX11_actOn cX11_actOn 5 (some .int), Cond.fieldLink RX11 256 "ShipOfficeModel" "acts" "I", Cond.fieldLink RX11 61 "ShipOfficeModel" "purpose" "[I", Cond.fieldLink RX11 64 "ShipOfficeModel" "from" "[I"]
def wsX11_owed_r5 : List Cond := [Cond.methodLink RX11 259 yX11_goesThrough, Cond.instanceMethod yX11_goesThrough, Cond.selects RX11 yX11_goesThrough yX11_goesThrough, Cond.code yX11_goesThrough cX11_goesThrough 3 (some .int), Cond.fieldLink RX11 216 "ShipOfficeModel" "base" "I", Cond.fieldLink RX11 213 "ShipOfficeModel" "size" "I", Cond.fieldLink RX11 210 "ShipOfficeModel" "at" "I", Cond.fieldLink RX11 244 "ShipOfficeModel" "deep" "I", Cond.fieldLink RX11 223 "ShipOfficeModel" "isWell" "Z", Cond.methodLink RX11 250 yX11_sum, Cond.instanceMethod yX11_sum, Cond.selects RX11 yX11_sum yX11_sum, Cond.code yX11_sum cX11_sum 4 (some .int), Cond.methodLink RX11 231 yX11_term, Cond.instanceMethod yX11_term, Cond.selects RX11 yX11_term yX11_term, Cond.methodLink RX11 227 yX11_sign, Cond.instanceMethod yX11_sign, Cond.selects RX11 yX11_sign yX11_sign, Cond.code yX11_sign cX11_sign 1 (some .int), Cond.fieldLink RX11 125 "ShipOfficeModel" "tape" "[I", Cond.fieldLink RX11 67 "ShipOfficeModel" "text" "[I", Cond.methodLink RX11 234 yX11_held, Cond.static yX11_held]
def wsX11_owed_r6 : List Cond := [Cond.code yX11_held cX11_held 2 (some .int), Cond.constantLong RX11 219 (1000000000), Cond.constantLong RX11 221 (-1000000000), Cond.code yX11_term cX11_term 4 (some .int), Cond.methodLink RX11 238 yX11_unit, Cond.instanceMethod yX11_unit, Cond.selects RX11 yX11_unit yX11_unit, Cond.code yX11_unit cX11_unit 5 (some .int), Cond.methodLink RX11 241 yX11_isLetter, Cond.static yX11_isLetter, Cond.code yX11_isLetter cX11_isLetter 1 (some .boolean), Cond.methodLink RX11 247 yX11_breaks, Cond.instanceMethod yX11_breaks, Cond.selects RX11 yX11_breaks yX11_breaks, Cond.code yX11_breaks cX11_breaks 1 (some .int), Cond.methodLink RX11 253 yX11_takes, Cond.instanceMethod yX11_takes, Cond.selects RX11 yX11_takes yX11_takes, Cond.code yX11_takes cX11_takes 2 (some .boolean), Cond.methodLink RX11 315 yX11_standsOf, Cond.instanceMethod yX11_standsOf, Cond.selects RX11 yX11_standsOf yX11_standsOf, Cond.code yX11_standsOf cX11_standsOf 6 (some .int), Cond.fieldLink RX11 112 "ShipOfficeModel" "fineSum" "[I"]
def wsX11_owed_r7 : List Cond := [Cond.fieldLink RX11 121 "ShipOfficeModel" "isRead" "[Z", Cond.methodLink RX11 306 yX11_puts, Cond.instanceMethod yX11_puts, Cond.selects RX11 yX11_puts yX11_puts, Cond.code yX11_puts cX11_puts 9 none, Cond.fieldLink RX11 79 "ShipOfficeModel" "rank" "[I", Cond.fieldLink RX11 22 "ShipOfficeModel" "born" "[I", Cond.fieldLink RX11 70 "ShipOfficeModel" "man" "[I", Cond.methodLink RX11 269 yX11_aboardOf, Cond.instanceMethod yX11_aboardOf, Cond.selects RX11 yX11_aboardOf yX11_aboardOf, Cond.code yX11_aboardOf cX11_aboardOf 6 (some .int)]
def wsX11_owed : List Cond := .code yX11_owed cX11_owed 5 (some .int) :: ((wsX11_owed_r1 ++ (wsX11_owed_r2 ++ (wsX11_owed_r3 ++ (wsX11_owed_r4 ++ (wsX11_owed_r5 ++ (wsX11_owed_r6 ++ wsX11_owed_r7)))))) ++ wsX110)
def wsX11_agreementOf_r1 : List Cond := [Cond.fieldLink RX11 70 "ShipOfficeModel" "man" "[I", Cond.fieldLink RX11 73 "ShipOfficeModel" "voyage" "[I", Cond.fieldLink RX11 76 "ShipOfficeModel" "wage" "[I", Cond.fieldLink RX11 79 "ShipOfficeModel" "rank" "[I", Cond.fieldLink RX11 85 "ShipOfficeModel" "signed" "[I", Cond.fieldLink RX11 88 "ShipOfficeModel" "offOn" "[I", Cond.fieldLink RX11 91 "ShipOfficeModel" "note" "[I", Cond.fieldLink RX11 94 "ShipOfficeModel" "given" "[I", Cond.fieldLink RX11 97 "ShipOfficeModel" "allotted" "[I", Cond.methodLink RX11 199 yX11_isAgreement, Cond.instanceMethod yX11_isAgreement, Cond.selects RX11 yX11_isAgreement yX11_isAgreement, Cond.initialized RX11, Cond.code yX11_isAgreement cX11_isAgreement 2 (some .boolean), Cond.fieldLink RX11 168 "ShipOfficeModel" "agreements" "I", Cond.methodLink RX11 161 yX11_isIn, Cond.static yX11_isIn, Cond.code yX11_isIn cX11_isIn 2 (some .boolean), Cond.methodLink RX11 153 yX11_refuse, Cond.instanceMethod yX11_refuse, Cond.selects RX11 yX11_refuse yX11_refuse, Cond.code yX11_refuse cX11_refuse 2 (some .int), Cond.fieldLink RX11 7 "ShipOfficeModel" "refusals" "[I", Cond.methodLink RX11 188 yX11_goesOn]
def wsX11_agreementOf_r2 : List Cond := [Cond.instanceMethod yX11_goesOn, Cond.selects RX11 yX11_goesOn yX11_goesOn, Cond.code yX11_goesOn cX11_goesOn 2 (some .boolean), Cond.methodLink RX11 182 yX11_wasTold, Cond.instanceMethod yX11_wasTold, Cond.selects RX11 yX11_wasTold yX11_wasTold, Cond.code yX11_wasTold cX11_wasTold 4 (some .boolean), Cond.fieldLink RX11 179 "ShipOfficeModel" "happened" "I", Cond.fieldLink RX11 40 "ShipOfficeModel" "what" "[I", Cond.fieldLink RX11 43 "ShipOfficeModel" "whose" "[I"]
def wsX11_agreementOf : List Cond := .code yX11_agreementOf cX11_agreementOf 3 (some .int) :: ((wsX11_agreementOf_r1 ++ wsX11_agreementOf_r2) ++ wsX110)
def wsX11_aboard_r1 : List Cond := [Cond.methodLink RX11 185 yX11_isVoyage, Cond.instanceMethod yX11_isVoyage, Cond.selects RX11 yX11_isVoyage yX11_isVoyage, Cond.initialized RX11, Cond.code yX11_isVoyage cX11_isVoyage 2 (some .boolean), Cond.fieldLink RX11 165 "ShipOfficeModel" "voyages" "I", Cond.methodLink RX11 161 yX11_isIn, Cond.static yX11_isIn, Cond.code yX11_isIn cX11_isIn 2 (some .boolean), Cond.methodLink RX11 300 yX11_wrongTimes, Cond.instanceMethod yX11_wrongTimes, Cond.selects RX11 yX11_wrongTimes yX11_wrongTimes, Cond.code yX11_wrongTimes cX11_wrongTimes 3 (some .int), Cond.fieldLink RX11 171 "ShipOfficeModel" "now" "I", Cond.methodLink RX11 153 yX11_refuse, Cond.instanceMethod yX11_refuse, Cond.selects RX11 yX11_refuse yX11_refuse, Cond.code yX11_refuse cX11_refuse 2 (some .int), Cond.fieldLink RX11 7 "ShipOfficeModel" "refusals" "[I", Cond.methodLink RX11 269 yX11_aboardOf, Cond.instanceMethod yX11_aboardOf, Cond.selects RX11 yX11_aboardOf yX11_aboardOf, Cond.code yX11_aboardOf cX11_aboardOf 6 (some .int), Cond.fieldLink RX11 168 "ShipOfficeModel" "agreements" "I"]
def wsX11_aboard_r2 : List Cond := [Cond.fieldLink RX11 73 "ShipOfficeModel" "voyage" "[I", Cond.methodLink RX11 266 yX11_stateOf, Cond.instanceMethod yX11_stateOf, Cond.selects RX11 yX11_stateOf yX11_stateOf, Cond.code yX11_stateOf cX11_stateOf 5 (some .int), Cond.fieldLink RX11 85 "ShipOfficeModel" "signed" "[I", Cond.fieldLink RX11 88 "ShipOfficeModel" "offOn" "[I", Cond.fieldLink RX11 40 "ShipOfficeModel" "what" "[I", Cond.methodLink RX11 288 yX11_isDead, Cond.instanceMethod yX11_isDead, Cond.selects RX11 yX11_isDead yX11_isDead, Cond.code yX11_isDead cX11_isDead 5 (some .boolean), Cond.fieldLink RX11 179 "ShipOfficeModel" "happened" "I", Cond.fieldLink RX11 43 "ShipOfficeModel" "whose" "[I", Cond.fieldLink RX11 49 "ShipOfficeModel" "known" "[I", Cond.fieldLink RX11 46 "ShipOfficeModel" "day" "[I", Cond.methodLink RX11 291 yX11_whereOf, Cond.instanceMethod yX11_whereOf, Cond.selects RX11 yX11_whereOf yX11_whereOf, Cond.code yX11_whereOf cX11_whereOf 6 (some .int), Cond.methodLink RX11 281 yX11_hasSailed, Cond.instanceMethod yX11_hasSailed, Cond.selects RX11 yX11_hasSailed yX11_hasSailed, Cond.code yX11_hasSailed cX11_hasSailed 5 (some .boolean)]
def wsX11_aboard_r3 : List Cond := [Cond.methodLink RX11 278 yX11_sailedOn, Cond.instanceMethod yX11_sailedOn, Cond.selects RX11 yX11_sailedOn yX11_sailedOn, Cond.code yX11_sailedOn cX11_sailedOn 4 (some .int), Cond.methodLink RX11 294 yX11_isUnknown, Cond.instanceMethod yX11_isUnknown, Cond.selects RX11 yX11_isUnknown yX11_isUnknown, Cond.code yX11_isUnknown cX11_isUnknown 4 (some .boolean), Cond.methodLink RX11 275 yX11_bare, Cond.instanceMethod yX11_bare, Cond.selects RX11 yX11_bare yX11_bare, Cond.code yX11_bare cX11_bare 2 none, Cond.fieldLink RX11 128 "ShipOfficeModel" "letters" "[I", Cond.methodLink RX11 272 yX11_lastHeard, Cond.instanceMethod yX11_lastHeard, Cond.selects RX11 yX11_lastHeard yX11_lastHeard, Cond.code yX11_lastHeard cX11_lastHeard 6 (some .int), Cond.methodLink RX11 285 yX11_worth, Cond.instanceMethod yX11_worth, Cond.selects RX11 yX11_worth yX11_worth, Cond.code yX11_worth cX11_worth 4 (some .int), Cond.fieldLink RX11 58 "ShipOfficeModel" "textSize" "[I", Cond.methodLink RX11 263 yX11_actOn, Cond.instanceMethod yX11_actOn]
def wsX11_aboard_r4 : List Cond := [Cond.selects RX11 yX11_actOn yX11_actOn, Cond.code yX11_actOn cX11_actOn 5 (some .int), Cond.fieldLink RX11 256 "ShipOfficeModel" "acts" "I", Cond.fieldLink RX11 61 "ShipOfficeModel" "purpose" "[I", Cond.fieldLink RX11 64 "ShipOfficeModel" "from" "[I", Cond.methodLink RX11 259 yX11_goesThrough, Cond.instanceMethod yX11_goesThrough, Cond.selects RX11 yX11_goesThrough yX11_goesThrough, Cond.code yX11_goesThrough cX11_goesThrough 3 (some .int), Cond.fieldLink RX11 216 "ShipOfficeModel" "base" "I", Cond.fieldLink RX11 213 "ShipOfficeModel" "size" "I", Cond.fieldLink RX11 210 "ShipOfficeModel" "at" "I", Cond.fieldLink RX11 244 "ShipOfficeModel" "deep" "I", Cond.fieldLink RX11 223 "ShipOfficeModel" "isWell" "Z", Cond.methodLink RX11 250 yX11_sum, Cond.instanceMethod yX11_sum, Cond.selects RX11 yX11_sum yX11_sum, Cond.code yX11_sum cX11_sum 4 (some .int), Cond.methodLink RX11 231 yX11_term, Cond.instanceMethod yX11_term, Cond.selects RX11 yX11_term yX11_term, Cond.methodLink RX11 227 yX11_sign, Cond.instanceMethod yX11_sign, Cond.selects RX11 yX11_sign yX11_sign]
def wsX11_aboard_r5 : List Cond := [Cond.code yX11_sign cX11_sign 1 (some .int), Cond.fieldLink RX11 125 "ShipOfficeModel" "tape" "[I", Cond.fieldLink RX11 67 "ShipOfficeModel" "text" "[I", Cond.methodLink RX11 234 yX11_held, Cond.static yX11_held, Cond.code yX11_held cX11_held 2 (some .int), Cond.constantLong RX11 219 (1000000000), Cond.constantLong RX11 221 (-1000000000), Cond.code yX11_term cX11_term 4 (some .int), Cond.methodLink RX11 238 yX11_unit, Cond.instanceMethod yX11_unit, Cond.selects RX11 yX11_unit yX11_unit, Cond.code yX11_unit cX11_unit 5 (some .int), Cond.methodLink RX11 241 yX11_isLetter, Cond.static yX11_isLetter, Cond.code yX11_isLetter cX11_isLetter 1 (some .boolean), Cond.methodLink RX11 247 yX11_breaks, Cond.instanceMethod yX11_breaks, Cond.selects RX11 yX11_breaks yX11_breaks, Cond.code yX11_breaks cX11_breaks 1 (some .int), Cond.methodLink RX11 253 yX11_takes, Cond.instanceMethod yX11_takes, Cond.selects RX11 yX11_takes yX11_takes, Cond.code yX11_takes cX11_takes 2 (some .boolean)]
def wsX11_aboard : List Cond := .code yX11_aboard cX11_aboard 5 (some .int) :: ((wsX11_aboard_r1 ++ (wsX11_aboard_r2 ++ (wsX11_aboard_r3 ++ (wsX11_aboard_r4 ++ wsX11_aboard_r5)))) ++ wsX110)
def wsX11_group_r1 : List Cond := [Cond.fieldLink RX11 131 "ShipOfficeModel" "groups" "[I", Cond.methodLink RX11 297 yX11_isMan, Cond.instanceMethod yX11_isMan, Cond.selects RX11 yX11_isMan yX11_isMan, Cond.initialized RX11, Cond.code yX11_isMan cX11_isMan 2 (some .boolean), Cond.fieldLink RX11 157 "ShipOfficeModel" "men" "I", Cond.methodLink RX11 161 yX11_isIn, Cond.static yX11_isIn, Cond.code yX11_isIn cX11_isIn 2 (some .boolean), Cond.methodLink RX11 153 yX11_refuse, Cond.instanceMethod yX11_refuse, Cond.selects RX11 yX11_refuse yX11_refuse, Cond.code yX11_refuse cX11_refuse 2 (some .int), Cond.fieldLink RX11 7 "ShipOfficeModel" "refusals" "[I", Cond.methodLink RX11 329 yX11_findGroups, Cond.instanceMethod yX11_findGroups, Cond.selects RX11 yX11_findGroups yX11_findGroups, Cond.code yX11_findGroups cX11_findGroups 4 none, Cond.methodLink RX11 326 yX11_isAlike, Cond.instanceMethod yX11_isAlike, Cond.selects RX11 yX11_isAlike yX11_isAlike, Cond.code yX11_isAlike cX11_isAlike 7 (some .boolean), Cond.fieldLink RX11 19 "ShipOfficeModel" "marks" "[I"]
def wsX11_group_r2 : List Cond := [Cond.fieldLink RX11 16 "ShipOfficeModel" "name" "[I"]
def wsX11_group : List Cond := .code yX11_group cX11_group 2 (some .int) :: ((wsX11_group_r1 ++ wsX11_group_r2) ++ wsX110)
def wsX11_borrowed_r1 : List Cond := [Cond.fieldLink RX11 82 "ShipOfficeModel" "paper" "[I", Cond.fieldLink RX11 131 "ShipOfficeModel" "groups" "[I", Cond.fieldLink RX11 70 "ShipOfficeModel" "man" "[I", Cond.fieldLink RX11 168 "ShipOfficeModel" "agreements" "I", Cond.fieldLink RX11 85 "ShipOfficeModel" "signed" "[I", Cond.methodLink RX11 199 yX11_isAgreement, Cond.instanceMethod yX11_isAgreement, Cond.selects RX11 yX11_isAgreement yX11_isAgreement, Cond.initialized RX11, Cond.code yX11_isAgreement cX11_isAgreement 2 (some .boolean), Cond.methodLink RX11 161 yX11_isIn, Cond.static yX11_isIn, Cond.code yX11_isIn cX11_isIn 2 (some .boolean), Cond.methodLink RX11 153 yX11_refuse, Cond.instanceMethod yX11_refuse, Cond.selects RX11 yX11_refuse yX11_refuse, Cond.code yX11_refuse cX11_refuse 2 (some .int), Cond.fieldLink RX11 7 "ShipOfficeModel" "refusals" "[I", Cond.methodLink RX11 329 yX11_findGroups, Cond.instanceMethod yX11_findGroups, Cond.selects RX11 yX11_findGroups yX11_findGroups, Cond.code yX11_findGroups cX11_findGroups 4 none, Cond.fieldLink RX11 157 "ShipOfficeModel" "men" "I", Cond.methodLink RX11 326 yX11_isAlike]
def wsX11_borrowed_r2 : List Cond := [Cond.instanceMethod yX11_isAlike, Cond.selects RX11 yX11_isAlike yX11_isAlike, Cond.code yX11_isAlike cX11_isAlike 7 (some .boolean), Cond.fieldLink RX11 19 "ShipOfficeModel" "marks" "[I", Cond.fieldLink RX11 16 "ShipOfficeModel" "name" "[I", Cond.methodLink RX11 332 yX11_endOf, Cond.instanceMethod yX11_endOf, Cond.selects RX11 yX11_endOf yX11_endOf, Cond.code yX11_endOf cX11_endOf 2 (some .int), Cond.fieldLink RX11 88 "ShipOfficeModel" "offOn" "[I", Cond.fieldLink RX11 171 "ShipOfficeModel" "now" "I"]
def wsX11_borrowed : List Cond := .code yX11_borrowed cX11_borrowed 3 (some .int) :: ((wsX11_borrowed_r1 ++ wsX11_borrowed_r2) ++ wsX110)
def wsX11_home_r1 : List Cond := [Cond.fieldLink RX11 168 "ShipOfficeModel" "agreements" "I", Cond.fieldLink RX11 70 "ShipOfficeModel" "man" "[I", Cond.fieldLink RX11 171 "ShipOfficeModel" "now" "I", Cond.fieldLink RX11 52 "ShipOfficeModel" "way" "[I", Cond.fieldLink RX11 55 "ShipOfficeModel" "port" "[I", Cond.fieldLink RX11 34 "ShipOfficeModel" "openPort" "[I", Cond.fieldLink RX11 73 "ShipOfficeModel" "voyage" "[I", Cond.methodLink RX11 297 yX11_isMan, Cond.instanceMethod yX11_isMan, Cond.selects RX11 yX11_isMan yX11_isMan, Cond.initialized RX11, Cond.code yX11_isMan cX11_isMan 2 (some .boolean), Cond.fieldLink RX11 157 "ShipOfficeModel" "men" "I", Cond.methodLink RX11 161 yX11_isIn, Cond.static yX11_isIn, Cond.code yX11_isIn cX11_isIn 2 (some .boolean), Cond.methodLink RX11 153 yX11_refuse, Cond.instanceMethod yX11_refuse, Cond.selects RX11 yX11_refuse yX11_refuse, Cond.code yX11_refuse cX11_refuse 2 (some .int), Cond.fieldLink RX11 7 "ShipOfficeModel" "refusals" "[I", Cond.methodLink RX11 266 yX11_stateOf, Cond.instanceMethod yX11_stateOf, Cond.selects RX11 yX11_stateOf yX11_stateOf]
def wsX11_home_r2 : List Cond := [Cond.code yX11_stateOf cX11_stateOf 5 (some .int), Cond.fieldLink RX11 85 "ShipOfficeModel" "signed" "[I", Cond.fieldLink RX11 88 "ShipOfficeModel" "offOn" "[I", Cond.fieldLink RX11 40 "ShipOfficeModel" "what" "[I", Cond.methodLink RX11 288 yX11_isDead, Cond.instanceMethod yX11_isDead, Cond.selects RX11 yX11_isDead yX11_isDead, Cond.code yX11_isDead cX11_isDead 5 (some .boolean), Cond.fieldLink RX11 179 "ShipOfficeModel" "happened" "I", Cond.fieldLink RX11 43 "ShipOfficeModel" "whose" "[I", Cond.fieldLink RX11 49 "ShipOfficeModel" "known" "[I", Cond.fieldLink RX11 46 "ShipOfficeModel" "day" "[I", Cond.methodLink RX11 291 yX11_whereOf, Cond.instanceMethod yX11_whereOf, Cond.selects RX11 yX11_whereOf yX11_whereOf, Cond.code yX11_whereOf cX11_whereOf 6 (some .int), Cond.methodLink RX11 281 yX11_hasSailed, Cond.instanceMethod yX11_hasSailed, Cond.selects RX11 yX11_hasSailed yX11_hasSailed, Cond.code yX11_hasSailed cX11_hasSailed 5 (some .boolean), Cond.methodLink RX11 278 yX11_sailedOn, Cond.instanceMethod yX11_sailedOn, Cond.selects RX11 yX11_sailedOn yX11_sailedOn, Cond.code yX11_sailedOn cX11_sailedOn 4 (some .int)]
def wsX11_home_r3 : List Cond := [Cond.methodLink RX11 294 yX11_isUnknown, Cond.instanceMethod yX11_isUnknown, Cond.selects RX11 yX11_isUnknown yX11_isUnknown, Cond.code yX11_isUnknown cX11_isUnknown 4 (some .boolean), Cond.methodLink RX11 275 yX11_bare, Cond.instanceMethod yX11_bare, Cond.selects RX11 yX11_bare yX11_bare, Cond.code yX11_bare cX11_bare 2 none, Cond.fieldLink RX11 128 "ShipOfficeModel" "letters" "[I", Cond.methodLink RX11 272 yX11_lastHeard, Cond.instanceMethod yX11_lastHeard, Cond.selects RX11 yX11_lastHeard yX11_lastHeard, Cond.code yX11_lastHeard cX11_lastHeard 6 (some .int), Cond.methodLink RX11 285 yX11_worth, Cond.instanceMethod yX11_worth, Cond.selects RX11 yX11_worth yX11_worth, Cond.code yX11_worth cX11_worth 4 (some .int), Cond.fieldLink RX11 58 "ShipOfficeModel" "textSize" "[I", Cond.methodLink RX11 263 yX11_actOn, Cond.instanceMethod yX11_actOn, Cond.selects RX11 yX11_actOn yX11_actOn, Cond.code yX11_actOn cX11_actOn 5 (some .int), Cond.fieldLink RX11 256 "ShipOfficeModel" "acts" "I", Cond.fieldLink RX11 61 "ShipOfficeModel" "purpose" "[I"]
def wsX11_home_r4 : List Cond := [Cond.fieldLink RX11 64 "ShipOfficeModel" "from" "[I", Cond.methodLink RX11 259 yX11_goesThrough, Cond.instanceMethod yX11_goesThrough, Cond.selects RX11 yX11_goesThrough yX11_goesThrough, Cond.code yX11_goesThrough cX11_goesThrough 3 (some .int), Cond.fieldLink RX11 216 "ShipOfficeModel" "base" "I", Cond.fieldLink RX11 213 "ShipOfficeModel" "size" "I", Cond.fieldLink RX11 210 "ShipOfficeModel" "at" "I", Cond.fieldLink RX11 244 "ShipOfficeModel" "deep" "I", Cond.fieldLink RX11 223 "ShipOfficeModel" "isWell" "Z", Cond.methodLink RX11 250 yX11_sum, Cond.instanceMethod yX11_sum, Cond.selects RX11 yX11_sum yX11_sum, Cond.code yX11_sum cX11_sum 4 (some .int), Cond.methodLink RX11 231 yX11_term, Cond.instanceMethod yX11_term, Cond.selects RX11 yX11_term yX11_term, Cond.methodLink RX11 227 yX11_sign, Cond.instanceMethod yX11_sign, Cond.selects RX11 yX11_sign yX11_sign, Cond.code yX11_sign cX11_sign 1 (some .int), Cond.fieldLink RX11 125 "ShipOfficeModel" "tape" "[I", Cond.fieldLink RX11 67 "ShipOfficeModel" "text" "[I", Cond.methodLink RX11 234 yX11_held]
def wsX11_home_r5 : List Cond := [Cond.static yX11_held, Cond.code yX11_held cX11_held 2 (some .int), Cond.constantLong RX11 219 (1000000000), Cond.constantLong RX11 221 (-1000000000), Cond.code yX11_term cX11_term 4 (some .int), Cond.methodLink RX11 238 yX11_unit, Cond.instanceMethod yX11_unit, Cond.selects RX11 yX11_unit yX11_unit, Cond.code yX11_unit cX11_unit 5 (some .int), Cond.methodLink RX11 241 yX11_isLetter, Cond.static yX11_isLetter, Cond.code yX11_isLetter cX11_isLetter 1 (some .boolean), Cond.methodLink RX11 247 yX11_breaks, Cond.instanceMethod yX11_breaks, Cond.selects RX11 yX11_breaks yX11_breaks, Cond.code yX11_breaks cX11_breaks 1 (some .int), Cond.methodLink RX11 253 yX11_takes, Cond.instanceMethod yX11_takes, Cond.selects RX11 yX11_takes yX11_takes, Cond.code yX11_takes cX11_takes 2 (some .boolean), Cond.methodLink RX11 335 yX11_wayTo, Cond.instanceMethod yX11_wayTo, Cond.selects RX11 yX11_wayTo yX11_wayTo, Cond.code yX11_wayTo cX11_wayTo 6 (some .int)]
def wsX11_home_r6 : List Cond := [Cond.fieldLink RX11 134 "ShipOfficeModel" "far" "[I", Cond.constant RX11 152 (1000000000), Cond.fieldLink RX11 13 "ShipOfficeModel" "mile" "[I"]
def wsX11_home : List Cond := .code yX11_home cX11_home 4 (some .int) :: ((wsX11_home_r1 ++ (wsX11_home_r2 ++ (wsX11_home_r3 ++ (wsX11_home_r4 ++ (wsX11_home_r5 ++ wsX11_home_r6))))) ++ wsX110)
def wsX11_ask : List Cond := .code yX11_ask cX11_ask 5 (some .int) :: ([.fieldLink RX11 25 "ShipOfficeModel" "asks" "[I", .methodLink RX11 297 yX11_isMan, .instanceMethod yX11_isMan, .selects RX11 yX11_isMan yX11_isMan, .initialized RX11, .code yX11_isMan cX11_isMan 2 (some .boolean), .fieldLink RX11 157 "ShipOfficeModel" "men" "I", .methodLink RX11 161 yX11_isIn, .static yX11_isIn, .code yX11_isIn cX11_isIn 2 (some .boolean), .methodLink RX11 153 yX11_refuse, .instanceMethod yX11_refuse, .selects RX11 yX11_refuse yX11_refuse, .code yX11_refuse cX11_refuse 2 (some .int), .fieldLink RX11 7 "ShipOfficeModel" "refusals" "[I"] ++ wsX110)
def wsX11_check_r1 : List Cond := [Cond.fieldLink RX11 357 "ShipOfficeModel" "rowed" "I", Cond.fieldLink RX11 168 "ShipOfficeModel" "agreements" "I", Cond.fieldLink RX11 73 "ShipOfficeModel" "voyage" "[I", Cond.fieldLink RX11 149 "ShipOfficeModel" "row" "[I", Cond.methodLink RX11 185 yX11_isVoyage, Cond.instanceMethod yX11_isVoyage, Cond.selects RX11 yX11_isVoyage yX11_isVoyage, Cond.initialized RX11, Cond.code yX11_isVoyage cX11_isVoyage 2 (some .boolean), Cond.fieldLink RX11 165 "ShipOfficeModel" "voyages" "I", Cond.methodLink RX11 161 yX11_isIn, Cond.static yX11_isIn, Cond.code yX11_isIn cX11_isIn 2 (some .boolean), Cond.methodLink RX11 300 yX11_wrongTimes, Cond.instanceMethod yX11_wrongTimes, Cond.selects RX11 yX11_wrongTimes yX11_wrongTimes, Cond.code yX11_wrongTimes cX11_wrongTimes 3 (some .int), Cond.fieldLink RX11 171 "ShipOfficeModel" "now" "I", Cond.methodLink RX11 153 yX11_refuse, Cond.instanceMethod yX11_refuse, Cond.selects RX11 yX11_refuse yX11_refuse, Cond.code yX11_refuse cX11_refuse 2 (some .int), Cond.fieldLink RX11 7 "ShipOfficeModel" "refusals" "[I", Cond.methodLink RX11 323 yX11_owedOf]
def wsX11_check_r2 : List Cond := [Cond.instanceMethod yX11_owedOf, Cond.selects RX11 yX11_owedOf yX11_owedOf, Cond.code yX11_owedOf cX11_owedOf 8 (some .int), Cond.fieldLink RX11 85 "ShipOfficeModel" "signed" "[I", Cond.fieldLink RX11 76 "ShipOfficeModel" "wage" "[I", Cond.constantLong RX11 318 (30), Cond.fieldLink RX11 91 "ShipOfficeModel" "note" "[I", Cond.fieldLink RX11 97 "ShipOfficeModel" "allotted" "[I", Cond.fieldLink RX11 100 "ShipOfficeModel" "fines" "[I", Cond.fieldLink RX11 109 "ShipOfficeModel" "fineDay" "[I", Cond.fieldLink RX11 103 "ShipOfficeModel" "shorts" "[I", Cond.fieldLink RX11 115 "ShipOfficeModel" "shortOn" "[I", Cond.fieldLink RX11 118 "ShipOfficeModel" "shortSum" "[I", Cond.fieldLink RX11 52 "ShipOfficeModel" "way" "[I", Cond.constantLong RX11 310 (100), Cond.methodLink RX11 303 yX11_earnsOf, Cond.instanceMethod yX11_earnsOf, Cond.selects RX11 yX11_earnsOf yX11_earnsOf, Cond.code yX11_earnsOf cX11_earnsOf 7 (some .int), Cond.methodLink RX11 266 yX11_stateOf, Cond.instanceMethod yX11_stateOf, Cond.selects RX11 yX11_stateOf yX11_stateOf, Cond.code yX11_stateOf cX11_stateOf 5 (some .int), Cond.fieldLink RX11 88 "ShipOfficeModel" "offOn" "[I"]
def wsX11_check_r3 : List Cond := [Cond.fieldLink RX11 40 "ShipOfficeModel" "what" "[I", Cond.methodLink RX11 288 yX11_isDead, Cond.instanceMethod yX11_isDead, Cond.selects RX11 yX11_isDead yX11_isDead, Cond.code yX11_isDead cX11_isDead 5 (some .boolean), Cond.fieldLink RX11 179 "ShipOfficeModel" "happened" "I", Cond.fieldLink RX11 43 "ShipOfficeModel" "whose" "[I", Cond.fieldLink RX11 49 "ShipOfficeModel" "known" "[I", Cond.fieldLink RX11 46 "ShipOfficeModel" "day" "[I", Cond.methodLink RX11 291 yX11_whereOf, Cond.instanceMethod yX11_whereOf, Cond.selects RX11 yX11_whereOf yX11_whereOf, Cond.code yX11_whereOf cX11_whereOf 6 (some .int), Cond.methodLink RX11 281 yX11_hasSailed, Cond.instanceMethod yX11_hasSailed, Cond.selects RX11 yX11_hasSailed yX11_hasSailed, Cond.code yX11_hasSailed cX11_hasSailed 5 (some .boolean), Cond.methodLink RX11 278 yX11_sailedOn, Cond.instanceMethod yX11_sailedOn, Cond.selects RX11 yX11_sailedOn yX11_sailedOn, Cond.code yX11_sailedOn cX11_sailedOn 4 (some .int), Cond.methodLink RX11 294 yX11_isUnknown, Cond.instanceMethod yX11_isUnknown, Cond.selects RX11 yX11_isUnknown yX11_isUnknown]
def wsX11_check_r4 : List Cond := [Cond.code yX11_isUnknown cX11_isUnknown 4 (some .boolean), Cond.methodLink RX11 275 yX11_bare, Cond.instanceMethod yX11_bare, Cond.selects RX11 yX11_bare yX11_bare, Cond.code yX11_bare cX11_bare 2 none, Cond.fieldLink RX11 128 "ShipOfficeModel" "letters" "[I", Cond.methodLink RX11 272 yX11_lastHeard, Cond.instanceMethod yX11_lastHeard, Cond.selects RX11 yX11_lastHeard yX11_lastHeard, Cond.code yX11_lastHeard cX11_lastHeard 6 (some .int), Cond.methodLink RX11 285 yX11_worth, Cond.instanceMethod yX11_worth, Cond.selects RX11 yX11_worth yX11_worth, Cond.code yX11_worth cX11_worth 4 (some .int), Cond.fieldLink RX11 58 "ShipOfficeModel" "textSize" "[I", Cond.methodLink RX11 263 yX11_actOn, Cond.instanceMethod yX11_actOn, Cond.selects RX11 yX11_actOn yX11_actOn, Cond.code yX11_actOn cX11_actOn 5 (some .int), Cond.fieldLink RX11 256 "ShipOfficeModel" "acts" "I", Cond.fieldLink RX11 61 "ShipOfficeModel" "purpose" "[I", Cond.fieldLink RX11 64 "ShipOfficeModel" "from" "[I", Cond.methodLink RX11 259 yX11_goesThrough, Cond.instanceMethod yX11_goesThrough]
def wsX11_check_r5 : List Cond := [Cond.selects RX11 yX11_goesThrough yX11_goesThrough, Cond.code yX11_goesThrough cX11_goesThrough 3 (some .int), Cond.fieldLink RX11 216 "ShipOfficeModel" "base" "I", Cond.fieldLink RX11 213 "ShipOfficeModel" "size" "I", Cond.fieldLink RX11 210 "ShipOfficeModel" "at" "I", Cond.fieldLink RX11 244 "ShipOfficeModel" "deep" "I", Cond.fieldLink RX11 223 "ShipOfficeModel" "isWell" "Z", Cond.methodLink RX11 250 yX11_sum, Cond.instanceMethod yX11_sum, Cond.selects RX11 yX11_sum yX11_sum, Cond.code yX11_sum cX11_sum 4 (some .int), Cond.methodLink RX11 231 yX11_term, Cond.instanceMethod yX11_term, Cond.selects RX11 yX11_term yX11_term, Cond.methodLink RX11 227 yX11_sign, Cond.instanceMethod yX11_sign, Cond.selects RX11 yX11_sign yX11_sign, Cond.code yX11_sign cX11_sign 1 (some .int), Cond.fieldLink RX11 125 "ShipOfficeModel" "tape" "[I", Cond.fieldLink RX11 67 "ShipOfficeModel" "text" "[I", Cond.methodLink RX11 234 yX11_held, Cond.static yX11_held, Cond.code yX11_held cX11_held 2 (some .int), Cond.constantLong RX11 219 (1000000000)]
def wsX11_check_r6 : List Cond := [Cond.constantLong RX11 221 (-1000000000), Cond.code yX11_term cX11_term 4 (some .int), Cond.methodLink RX11 238 yX11_unit, Cond.instanceMethod yX11_unit, Cond.selects RX11 yX11_unit yX11_unit, Cond.code yX11_unit cX11_unit 5 (some .int), Cond.methodLink RX11 241 yX11_isLetter, Cond.static yX11_isLetter, Cond.code yX11_isLetter cX11_isLetter 1 (some .boolean), Cond.methodLink RX11 247 yX11_breaks, Cond.instanceMethod yX11_breaks, Cond.selects RX11 yX11_breaks yX11_breaks, Cond.code yX11_breaks cX11_breaks 1 (some .int), Cond.methodLink RX11 253 yX11_takes, Cond.instanceMethod yX11_takes, Cond.selects RX11 yX11_takes yX11_takes, Cond.code yX11_takes cX11_takes 2 (some .boolean), Cond.methodLink RX11 315 yX11_standsOf, Cond.instanceMethod yX11_standsOf, Cond.selects RX11 yX11_standsOf yX11_standsOf, Cond.code yX11_standsOf cX11_standsOf 6 (some .int), Cond.fieldLink RX11 112 "ShipOfficeModel" "fineSum" "[I", Cond.fieldLink RX11 121 "ShipOfficeModel" "isRead" "[Z", Cond.methodLink RX11 306 yX11_puts]
def wsX11_check_r7 : List Cond := [Cond.instanceMethod yX11_puts, Cond.selects RX11 yX11_puts yX11_puts, Cond.code yX11_puts cX11_puts 9 none, Cond.fieldLink RX11 79 "ShipOfficeModel" "rank" "[I", Cond.fieldLink RX11 22 "ShipOfficeModel" "born" "[I", Cond.fieldLink RX11 70 "ShipOfficeModel" "man" "[I", Cond.methodLink RX11 269 yX11_aboardOf, Cond.instanceMethod yX11_aboardOf, Cond.selects RX11 yX11_aboardOf yX11_aboardOf, Cond.code yX11_aboardOf cX11_aboardOf 6 (some .int)]
def wsX11_check : List Cond := .code yX11_check cX11_check 8 (some .int) :: ((wsX11_check_r1 ++ (wsX11_check_r2 ++ (wsX11_check_r3 ++ (wsX11_check_r4 ++ (wsX11_check_r5 ++ (wsX11_check_r6 ++ wsX11_check_r7)))))) ++ wsX110)
theorem dX11_refuse_0 : decode cX11_refuse 0 = .ok (.aload_n 0, 1) := by decide +kernel
theorem dX11_refuse_1 : decode cX11_refuse 1 = .ok (.getfield 7, 3) := by decide +kernel
theorem dX11_refuse_4 : decode cX11_refuse 4 = .ok (.iload_n 1, 1) := by decide +kernel
theorem dX11_refuse_5 : decode cX11_refuse 5 = .ok (.ineg, 1) := by decide +kernel
theorem dX11_refuse_6 : decode cX11_refuse 6 = .ok (.dup2, 1) := by decide +kernel
theorem dX11_refuse_7 : decode cX11_refuse 7 = .ok (.iaload, 1) := by decide +kernel
theorem dX11_refuse_8 : decode cX11_refuse 8 = .ok (.iconst 1, 1) := by decide +kernel
theorem dX11_refuse_9 : decode cX11_refuse 9 = .ok (.iadd, 1) := by decide +kernel
theorem dX11_refuse_10 : decode cX11_refuse 10 = .ok (.iastore, 1) := by decide +kernel
theorem dX11_refuse_11 : decode cX11_refuse 11 = .ok (.iload_n 1, 1) := by decide +kernel
theorem dX11_refuse_12 : decode cX11_refuse 12 = .ok (.ireturn, 1) := by decide +kernel
set_option maxRecDepth 20000 in
theorem ggX11_refuseFar_X11_refuse : GoodIn wsX11_refuseFar wsX11_refuse := goodIn_r _ [6, 7, 8, 9, 10, 11, 12, 13, 14, 15, 16, 17, 18, 19, 20, 21, 22, 23, 24, 25, 26, 27, 28, 29, 30, 31, 32, 33, 34, 35, 36, 37, 38, 39, 40, 41, 42, 43, 44, 45, 46, 47, 48, 49, 50, 51, 52, 53, 54, 55, 56, 57, 58, 59, 60, 61, 62, 63, 64, 65, 66, 67, 68, 69, 70] (by decide +kernel) (by decide +kernel)
set_option maxRecDepth 20000 in
theorem gX11_refuseFar_X11_refuse : GoodIn wsX11_refuseFar (wsV RX11 153 RX11 yX11_refuse wsX11_refuse) := goodIn_app (goodIn_of _ (by decide +kernel)) ggX11_refuseFar_X11_refuse
theorem dX11_refuseFar_0 : decode cX11_refuseFar 0 = .ok (.ldc 152, 2) := by decide +kernel
theorem dX11_refuseFar_2 : decode cX11_refuseFar 2 = .ok (.aload_n 0, 1) := by decide +kernel
theorem dX11_refuseFar_3 : decode cX11_refuseFar 3 = .ok (.iload_n 1, 1) := by decide +kernel
theorem dX11_refuseFar_4 : decode cX11_refuseFar 4 = .ok (.invokevirtual 153, 3) := by decide +kernel
theorem dX11_refuseFar_7 : decode cX11_refuseFar 7 = .ok (.isub, 1) := by decide +kernel
theorem dX11_refuseFar_8 : decode cX11_refuseFar 8 = .ok (.ireturn, 1) := by decide +kernel
theorem dX11_isIn_0 : decode cX11_isIn 0 = .ok (.iload_n 0, 1) := by decide +kernel
theorem dX11_isIn_1 : decode cX11_isIn 1 = .ok (.ifCond .lt 12, 3) := by decide +kernel
theorem dX11_isIn_4 : decode cX11_isIn 4 = .ok (.iload_n 0, 1) := by decide +kernel
theorem dX11_isIn_5 : decode cX11_isIn 5 = .ok (.iload_n 1, 1) := by decide +kernel
theorem dX11_isIn_6 : decode cX11_isIn 6 = .ok (.if_icmp .ge 7, 3) := by decide +kernel
theorem dX11_isIn_9 : decode cX11_isIn 9 = .ok (.iconst 1, 1) := by decide +kernel
theorem dX11_isIn_10 : decode cX11_isIn 10 = .ok (.goto 4, 3) := by decide +kernel
theorem dX11_isIn_13 : decode cX11_isIn 13 = .ok (.iconst 0, 1) := by decide +kernel
theorem dX11_isIn_14 : decode cX11_isIn 14 = .ok (.ireturn, 1) := by decide +kernel
set_option maxRecDepth 20000 in
theorem ggX11_isMan_X11_isIn : GoodIn wsX11_isMan wsX11_isIn := goodIn_r _ [5] (by decide +kernel) (by decide +kernel)
set_option maxRecDepth 20000 in
theorem gX11_isMan_X11_isIn : GoodIn wsX11_isMan (va_wsS RX11 161 yX11_isIn wsX11_isIn) := goodIn_app (goodIn_of _ (by decide +kernel)) ggX11_isMan_X11_isIn
theorem dX11_isMan_0 : decode cX11_isMan 0 = .ok (.iload_n 1, 1) := by decide +kernel
theorem dX11_isMan_1 : decode cX11_isMan 1 = .ok (.aload_n 0, 1) := by decide +kernel
theorem dX11_isMan_2 : decode cX11_isMan 2 = .ok (.getfield 157, 3) := by decide +kernel
theorem dX11_isMan_5 : decode cX11_isMan 5 = .ok (.invokestatic 161, 3) := by decide +kernel
theorem dX11_isMan_8 : decode cX11_isMan 8 = .ok (.ireturn, 1) := by decide +kernel
set_option maxRecDepth 20000 in
theorem ggX11_isVoyage_X11_isIn : GoodIn wsX11_isVoyage wsX11_isIn := goodIn_r _ [5] (by decide +kernel) (by decide +kernel)
set_option maxRecDepth 20000 in
theorem gX11_isVoyage_X11_isIn : GoodIn wsX11_isVoyage (va_wsS RX11 161 yX11_isIn wsX11_isIn) := goodIn_app (goodIn_of _ (by decide +kernel)) ggX11_isVoyage_X11_isIn
theorem dX11_isVoyage_0 : decode cX11_isVoyage 0 = .ok (.iload_n 1, 1) := by decide +kernel
theorem dX11_isVoyage_1 : decode cX11_isVoyage 1 = .ok (.aload_n 0, 1) := by decide +kernel
theorem dX11_isVoyage_2 : decode cX11_isVoyage 2 = .ok (.getfield 165, 3) := by decide +kernel
theorem dX11_isVoyage_5 : decode cX11_isVoyage 5 = .ok (.invokestatic 161, 3) := by decide +kernel
theorem dX11_isVoyage_8 : decode cX11_isVoyage 8 = .ok (.ireturn, 1) := by decide +kernel
set_option maxRecDepth 20000 in
theorem ggX11_isAgreement_X11_isIn : GoodIn wsX11_isAgreement wsX11_isIn := goodIn_r _ [5] (by decide +kernel) (by decide +kernel)
set_option maxRecDepth 20000 in
theorem gX11_isAgreement_X11_isIn : GoodIn wsX11_isAgreement (va_wsS RX11 161 yX11_isIn wsX11_isIn) := goodIn_app (goodIn_of _ (by decide +kernel)) ggX11_isAgreement_X11_isIn
theorem dX11_isAgreement_0 : decode cX11_isAgreement 0 = .ok (.iload_n 1, 1) := by decide +kernel
theorem dX11_isAgreement_1 : decode cX11_isAgreement 1 = .ok (.aload_n 0, 1) := by decide +kernel
theorem dX11_isAgreement_2 : decode cX11_isAgreement 2 = .ok (.getfield 168, 3) := by decide +kernel
theorem dX11_isAgreement_5 : decode cX11_isAgreement 5 = .ok (.invokestatic 161, 3) := by decide +kernel
theorem dX11_isAgreement_8 : decode cX11_isAgreement 8 = .ok (.ireturn, 1) := by decide +kernel
set_option maxRecDepth 20000 in
theorem ggX11_isPort_X11_isIn : GoodIn wsX11_isPort wsX11_isIn := goodIn_r _ [4] (by decide +kernel) (by decide +kernel)
set_option maxRecDepth 20000 in
theorem gX11_isPort_X11_isIn : GoodIn wsX11_isPort (va_wsS RX11 161 yX11_isIn wsX11_isIn) := goodIn_app (goodIn_of _ (by decide +kernel)) ggX11_isPort_X11_isIn
theorem dX11_isPort_0 : decode cX11_isPort 0 = .ok (.iload_n 0, 1) := by decide +kernel
theorem dX11_isPort_1 : decode cX11_isPort 1 = .ok (.bipush 10, 2) := by decide +kernel
theorem dX11_isPort_3 : decode cX11_isPort 3 = .ok (.invokestatic 161, 3) := by decide +kernel
theorem dX11_isPort_6 : decode cX11_isPort 6 = .ok (.ireturn, 1) := by decide +kernel
set_option maxRecDepth 20000 in
theorem ggX11_ended_X11_isVoyage : GoodIn wsX11_ended wsX11_isVoyage := goodIn_r _ [10, 11, 12, 13, 9, 14, 34, 35, 36, 37, 38, 39, 40, 41, 42, 43, 44, 45, 46, 47, 48, 49, 50, 51, 52, 53, 54, 55, 56, 57, 58, 59, 60, 61, 62, 63, 64, 65, 66, 67, 68, 69, 70, 71, 72, 73, 74, 75, 76, 77, 78, 79, 80, 81, 82, 83, 84, 85, 86, 87, 88, 89, 90, 91, 92, 93, 94, 95, 96] (by decide +kernel) (by decide +kernel)
set_option maxRecDepth 20000 in
theorem gX11_ended_X11_isVoyage : GoodIn wsX11_ended (wsV RX11 185 RX11 yX11_isVoyage wsX11_isVoyage) := goodIn_app (goodIn_of _ (by decide +kernel)) ggX11_ended_X11_isVoyage
set_option maxRecDepth 20000 in
theorem ggX11_ended_X11_refuse : GoodIn wsX11_ended wsX11_refuse := goodIn_r _ [21, 22, 34, 35, 36, 37, 38, 39, 40, 41, 42, 43, 44, 45, 46, 47, 48, 49, 50, 51, 52, 53, 54, 55, 56, 57, 58, 59, 60, 61, 62, 63, 64, 65, 66, 67, 68, 69, 70, 71, 72, 73, 74, 75, 76, 77, 78, 79, 80, 81, 82, 83, 84, 85, 86, 87, 88, 89, 90, 91, 92, 93, 94, 95, 96] (by decide +kernel) (by decide +kernel)
set_option maxRecDepth 20000 in
theorem gX11_ended_X11_refuse : GoodIn wsX11_ended (wsV RX11 153 RX11 yX11_refuse wsX11_refuse) := goodIn_app (goodIn_of _ (by decide +kernel)) ggX11_ended_X11_refuse
theorem dX11_ended_0 : decode cX11_ended 0 = .ok (.aload_n 0, 1) := by decide +kernel
theorem dX11_ended_1 : decode cX11_ended 1 = .ok (.iload_n 1, 1) := by decide +kernel
theorem dX11_ended_2 : decode cX11_ended 2 = .ok (.invokevirtual 185, 3) := by decide +kernel
theorem dX11_ended_5 : decode cX11_ended 5 = .ok (.ifCond .eq 10, 3) := by decide +kernel
theorem dX11_ended_15 : decode cX11_ended 15 = .ok (.aload_n 0, 1) := by decide +kernel
theorem dX11_ended_16 : decode cX11_ended 16 = .ok (.iconst (-1), 1) := by decide +kernel
theorem dX11_ended_17 : decode cX11_ended 17 = .ok (.invokevirtual 153, 3) := by decide +kernel
theorem dX11_ended_20 : decode cX11_ended 20 = .ok (.ireturn, 1) := by decide +kernel
set_option maxRecDepth 20000 in
theorem ggX11_happensTo_X11_isVoyage : GoodIn wsX11_happensTo wsX11_isVoyage := goodIn_r _ [7, 8, 9, 10, 6, 11, 33, 34, 35, 36, 37, 38, 39, 40, 41, 42, 43, 44, 45, 46, 47, 48, 49, 50, 51, 52, 53, 54, 55, 56, 57, 58, 59, 60, 61, 62, 63, 64, 65, 66, 67, 68, 69, 70, 71, 72, 73, 74, 75, 76, 77, 78, 79, 80, 81, 82, 83, 84, 85, 86, 87, 88, 89, 90, 91, 92, 93, 94, 95] (by decide +kernel) (by decide +kernel)
set_option maxRecDepth 20000 in
theorem gX11_happensTo_X11_isVoyage : GoodIn wsX11_happensTo (wsV RX11 185 RX11 yX11_isVoyage wsX11_isVoyage) := goodIn_app (goodIn_of _ (by decide +kernel)) ggX11_happensTo_X11_isVoyage
set_option maxRecDepth 20000 in
theorem ggX11_happensTo_X11_refuse : GoodIn wsX11_happensTo wsX11_refuse := goodIn_r _ [15, 16, 33, 34, 35, 36, 37, 38, 39, 40, 41, 42, 43, 44, 45, 46, 47, 48, 49, 50, 51, 52, 53, 54, 55, 56, 57, 58, 59, 60, 61, 62, 63, 64, 65, 66, 67, 68, 69, 70, 71, 72, 73, 74, 75, 76, 77, 78, 79, 80, 81, 82, 83, 84, 85, 86, 87, 88, 89, 90, 91, 92, 93, 94, 95] (by decide +kernel) (by decide +kernel)
set_option maxRecDepth 20000 in
theorem gX11_happensTo_X11_refuse : GoodIn wsX11_happensTo (wsV RX11 153 RX11 yX11_refuse wsX11_refuse) := goodIn_app (goodIn_of _ (by decide +kernel)) ggX11_happensTo_X11_refuse
theorem dX11_happensTo_0 : decode cX11_happensTo 0 = .ok (.aload_n 0, 1) := by decide +kernel
theorem dX11_happensTo_1 : decode cX11_happensTo 1 = .ok (.iload_n 2, 1) := by decide +kernel
theorem dX11_happensTo_2 : decode cX11_happensTo 2 = .ok (.invokevirtual 185, 3) := by decide +kernel
theorem dX11_happensTo_5 : decode cX11_happensTo 5 = .ok (.ifCond .ne 9, 3) := by decide +kernel
theorem dX11_happensTo_8 : decode cX11_happensTo 8 = .ok (.aload_n 0, 1) := by decide +kernel
theorem dX11_happensTo_9 : decode cX11_happensTo 9 = .ok (.iconst (-1), 1) := by decide +kernel
theorem dX11_happensTo_10 : decode cX11_happensTo 10 = .ok (.invokevirtual 153, 3) := by decide +kernel
theorem dX11_happensTo_13 : decode cX11_happensTo 13 = .ok (.ireturn, 1) := by decide +kernel
set_option maxRecDepth 20000 in
theorem ggX11_sailed_X11_happensTo : GoodIn wsX11_sailed wsX11_happensTo := goodIn_r _ [5, 6, 7, 8, 9, 10, 4, 11, 12, 13, 14, 15, 16, 17, 18, 19, 20, 21, 22, 23, 24, 25, 26, 27, 28, 29, 30, 31, 32, 33, 34, 35, 36, 37, 38, 39, 40, 41, 42, 43, 44, 45, 46, 47, 48, 49, 50, 51, 52, 53, 54, 55, 56, 57, 58, 59, 60, 61, 62, 63, 64, 65, 66, 67, 68, 69, 70, 71, 72, 73, 74, 75, 76, 77, 78, 79, 80, 81, 82, 83, 84, 85, 86, 87, 88, 89, 90, 91, 92, 93, 94, 95, 96, 97, 98, 99] (by decide +kernel) (by decide +kernel)
set_option maxRecDepth 20000 in
theorem gX11_sailed_X11_happensTo : GoodIn wsX11_sailed (wsV RX11 195 RX11 yX11_happensTo wsX11_happensTo) := goodIn_app (goodIn_of _ (by decide +kernel)) ggX11_sailed_X11_happensTo
theorem dX11_sailed_0 : decode cX11_sailed 0 = .ok (.aload_n 0, 1) := by decide +kernel
theorem dX11_sailed_1 : decode cX11_sailed 1 = .ok (.iconst 0, 1) := by decide +kernel
theorem dX11_sailed_2 : decode cX11_sailed 2 = .ok (.iload_n 1, 1) := by decide +kernel
theorem dX11_sailed_3 : decode cX11_sailed 3 = .ok (.iload_n 2, 1) := by decide +kernel
theorem dX11_sailed_4 : decode cX11_sailed 4 = .ok (.invokevirtual 195, 3) := by decide +kernel
theorem dX11_sailed_7 : decode cX11_sailed 7 = .ok (.ireturn, 1) := by decide +kernel
set_option maxRecDepth 20000 in
theorem ggX11_heard_X11_happensTo : GoodIn wsX11_heard wsX11_happensTo := goodIn_r _ [5, 6, 7, 8, 9, 10, 4, 11, 12, 13, 14, 15, 16, 17, 18, 19, 20, 21, 22, 23, 24, 25, 26, 27, 28, 29, 30, 31, 32, 33, 34, 35, 36, 37, 38, 39, 40, 41, 42, 43, 44, 45, 46, 47, 48, 49, 50, 51, 52, 53, 54, 55, 56, 57, 58, 59, 60, 61, 62, 63, 64, 65, 66, 67, 68, 69, 70, 71, 72, 73, 74, 75, 76, 77, 78, 79, 80, 81, 82, 83, 84, 85, 86, 87, 88, 89, 90, 91, 92, 93, 94, 95, 96, 97, 98, 99] (by decide +kernel) (by decide +kernel)
set_option maxRecDepth 20000 in
theorem gX11_heard_X11_happensTo : GoodIn wsX11_heard (wsV RX11 195 RX11 yX11_happensTo wsX11_happensTo) := goodIn_app (goodIn_of _ (by decide +kernel)) ggX11_heard_X11_happensTo
theorem dX11_heard_0 : decode cX11_heard 0 = .ok (.aload_n 0, 1) := by decide +kernel
theorem dX11_heard_1 : decode cX11_heard 1 = .ok (.iconst 1, 1) := by decide +kernel
theorem dX11_heard_2 : decode cX11_heard 2 = .ok (.iload_n 1, 1) := by decide +kernel
theorem dX11_heard_3 : decode cX11_heard 3 = .ok (.iload_n 2, 1) := by decide +kernel
theorem dX11_heard_4 : decode cX11_heard 4 = .ok (.invokevirtual 195, 3) := by decide +kernel
theorem dX11_heard_7 : decode cX11_heard 7 = .ok (.ireturn, 1) := by decide +kernel
set_option maxRecDepth 20000 in
theorem ggX11_lost_X11_happensTo : GoodIn wsX11_lost wsX11_happensTo := goodIn_r _ [5, 6, 7, 8, 9, 10, 4, 11, 12, 13, 14, 15, 16, 17, 18, 19, 20, 21, 22, 23, 24, 25, 26, 27, 28, 29, 30, 31, 32, 33, 34, 35, 36, 37, 38, 39, 40, 41, 42, 43, 44, 45, 46, 47, 48, 49, 50, 51, 52, 53, 54, 55, 56, 57, 58, 59, 60, 61, 62, 63, 64, 65, 66, 67, 68, 69, 70, 71, 72, 73, 74, 75, 76, 77, 78, 79, 80, 81, 82, 83, 84, 85, 86, 87, 88, 89, 90, 91, 92, 93, 94, 95, 96, 97, 98, 99] (by decide +kernel) (by decide +kernel)
set_option maxRecDepth 20000 in
theorem gX11_lost_X11_happensTo : GoodIn wsX11_lost (wsV RX11 195 RX11 yX11_happensTo wsX11_happensTo) := goodIn_app (goodIn_of _ (by decide +kernel)) ggX11_lost_X11_happensTo
theorem dX11_lost_0 : decode cX11_lost 0 = .ok (.aload_n 0, 1) := by decide +kernel
theorem dX11_lost_1 : decode cX11_lost 1 = .ok (.iconst 2, 1) := by decide +kernel
theorem dX11_lost_2 : decode cX11_lost 2 = .ok (.iload_n 1, 1) := by decide +kernel
theorem dX11_lost_3 : decode cX11_lost 3 = .ok (.iload_n 2, 1) := by decide +kernel
theorem dX11_lost_4 : decode cX11_lost 4 = .ok (.invokevirtual 195, 3) := by decide +kernel
theorem dX11_lost_7 : decode cX11_lost 7 = .ok (.ireturn, 1) := by decide +kernel
set_option maxRecDepth 20000 in
theorem ggX11_left_X11_isAgreement : GoodIn wsX11_left wsX11_isAgreement := goodIn_r _ [7, 8, 9, 10, 6, 11, 32, 33, 34, 35, 36, 37, 38, 39, 40, 41, 42, 43, 44, 45, 46, 47, 48, 49, 50, 51, 52, 53, 54, 55, 56, 57, 58, 59, 60, 61, 62, 63, 64, 65, 66, 67, 68, 69, 70, 71, 72, 73, 74, 75, 76, 77, 78, 79, 80, 81, 82, 83, 84, 85, 86, 87, 88, 89, 90, 91, 92, 93, 94] (by decide +kernel) (by decide +kernel)
set_option maxRecDepth 20000 in
theorem gX11_left_X11_isAgreement : GoodIn wsX11_left (wsV RX11 199 RX11 yX11_isAgreement wsX11_isAgreement) := goodIn_app (goodIn_of _ (by decide +kernel)) ggX11_left_X11_isAgreement
set_option maxRecDepth 20000 in
theorem ggX11_left_X11_refuse : GoodIn wsX11_left wsX11_refuse := goodIn_r _ [18, 19, 32, 33, 34, 35, 36, 37, 38, 39, 40, 41, 42, 43, 44, 45, 46, 47, 48, 49, 50, 51, 52, 53, 54, 55, 56, 57, 58, 59, 60, 61, 62, 63, 64, 65, 66, 67, 68, 69, 70, 71, 72, 73, 74, 75, 76, 77, 78, 79, 80, 81, 82, 83, 84, 85, 86, 87, 88, 89, 90, 91, 92, 93, 94] (by decide +kernel) (by decide +kernel)
set_option maxRecDepth 20000 in
theorem gX11_left_X11_refuse : GoodIn wsX11_left (wsV RX11 153 RX11 yX11_refuse wsX11_refuse) := goodIn_app (goodIn_of _ (by decide +kernel)) ggX11_left_X11_refuse
theorem dX11_left_0 : decode cX11_left 0 = .ok (.aload_n 0, 1) := by decide +kernel
theorem dX11_left_1 : decode cX11_left 1 = .ok (.iload_n 1, 1) := by decide +kernel
theorem dX11_left_2 : decode cX11_left 2 = .ok (.invokevirtual 199, 3) := by decide +kernel
theorem dX11_left_5 : decode cX11_left 5 = .ok (.ifCond .eq 11, 3) := by decide +kernel
theorem dX11_left_16 : decode cX11_left 16 = .ok (.aload_n 0, 1) := by decide +kernel
theorem dX11_left_17 : decode cX11_left 17 = .ok (.iconst (-1), 1) := by decide +kernel
theorem dX11_left_18 : decode cX11_left 18 = .ok (.invokevirtual 153, 3) := by decide +kernel
theorem dX11_left_21 : decode cX11_left 21 = .ok (.ireturn, 1) := by decide +kernel
set_option maxRecDepth 20000 in
theorem ggX11_happensOf_X11_isAgreement : GoodIn wsX11_happensOf wsX11_isAgreement := goodIn_r _ [7, 8, 9, 10, 6, 11, 29, 30, 31, 32, 33, 34, 35, 36, 37, 38, 39, 40, 41, 42, 43, 44, 45, 46, 47, 48, 49, 50, 51, 52, 53, 54, 55, 56, 57, 58, 59, 60, 61, 62, 63, 64, 65, 66, 67, 68, 69, 70, 71, 72, 73, 74, 75, 76, 77, 78, 79, 80, 81, 82, 83, 84, 85, 86, 87, 88, 89, 90, 91] (by decide +kernel) (by decide +kernel)
set_option maxRecDepth 20000 in
theorem gX11_happensOf_X11_isAgreement : GoodIn wsX11_happensOf (wsV RX11 199 RX11 yX11_isAgreement wsX11_isAgreement) := goodIn_app (goodIn_of _ (by decide +kernel)) ggX11_happensOf_X11_isAgreement
set_option maxRecDepth 20000 in
theorem ggX11_happensOf_X11_refuse : GoodIn wsX11_happensOf wsX11_refuse := goodIn_r _ [15, 16, 29, 30, 31, 32, 33, 34, 35, 36, 37, 38, 39, 40, 41, 42, 43, 44, 45, 46, 47, 48, 49, 50, 51, 52, 53, 54, 55, 56, 57, 58, 59, 60, 61, 62, 63, 64, 65, 66, 67, 68, 69, 70, 71, 72, 73, 74, 75, 76, 77, 78, 79, 80, 81, 82, 83, 84, 85, 86, 87, 88, 89, 90, 91] (by decide +kernel) (by decide +kernel)
set_option maxRecDepth 20000 in
theorem gX11_happensOf_X11_refuse : GoodIn wsX11_happensOf (wsV RX11 153 RX11 yX11_refuse wsX11_refuse) := goodIn_app (goodIn_of _ (by decide +kernel)) ggX11_happensOf_X11_refuse
theorem dX11_happensOf_0 : decode cX11_happensOf 0 = .ok (.aload_n 0, 1) := by decide +kernel
theorem dX11_happensOf_1 : decode cX11_happensOf 1 = .ok (.iload_n 2, 1) := by decide +kernel
theorem dX11_happensOf_2 : decode cX11_happensOf 2 = .ok (.invokevirtual 199, 3) := by decide +kernel
theorem dX11_happensOf_5 : decode cX11_happensOf 5 = .ok (.ifCond .ne 9, 3) := by decide +kernel
theorem dX11_happensOf_8 : decode cX11_happensOf 8 = .ok (.aload_n 0, 1) := by decide +kernel
theorem dX11_happensOf_9 : decode cX11_happensOf 9 = .ok (.iconst (-1), 1) := by decide +kernel
theorem dX11_happensOf_10 : decode cX11_happensOf 10 = .ok (.invokevirtual 153, 3) := by decide +kernel
theorem dX11_happensOf_13 : decode cX11_happensOf 13 = .ok (.ireturn, 1) := by decide +kernel
set_option maxRecDepth 20000 in
theorem ggX11_died_X11_happensOf : GoodIn wsX11_died wsX11_happensOf := goodIn_r _ [5, 6, 7, 8, 9, 10, 4, 11, 12, 13, 14, 15, 16, 17, 18, 19, 20, 21, 22, 23, 24, 25, 26, 27, 28, 29, 30, 31, 32, 33, 34, 35, 36, 37, 38, 39, 40, 41, 42, 43, 44, 45, 46, 47, 48, 49, 50, 51, 52, 53, 54, 55, 56, 57, 58, 59, 60, 61, 62, 63, 64, 65, 66, 67, 68, 69, 70, 71, 72, 73, 74, 75, 76, 77, 78, 79, 80, 81, 82, 83, 84, 85, 86, 87, 88, 89, 90, 91, 92, 93, 94, 95] (by decide +kernel) (by decide +kernel)
set_option maxRecDepth 20000 in
theorem gX11_died_X11_happensOf : GoodIn wsX11_died (wsV RX11 202 RX11 yX11_happensOf wsX11_happensOf) := goodIn_app (goodIn_of _ (by decide +kernel)) ggX11_died_X11_happensOf
theorem dX11_died_0 : decode cX11_died 0 = .ok (.aload_n 0, 1) := by decide +kernel
theorem dX11_died_1 : decode cX11_died 1 = .ok (.iconst 4, 1) := by decide +kernel
theorem dX11_died_2 : decode cX11_died 2 = .ok (.iload_n 1, 1) := by decide +kernel
theorem dX11_died_3 : decode cX11_died 3 = .ok (.iload_n 2, 1) := by decide +kernel
theorem dX11_died_4 : decode cX11_died 4 = .ok (.invokevirtual 202, 3) := by decide +kernel
theorem dX11_died_7 : decode cX11_died 7 = .ok (.ireturn, 1) := by decide +kernel
set_option maxRecDepth 20000 in
theorem ggX11_back_X11_happensOf : GoodIn wsX11_back wsX11_happensOf := goodIn_r _ [5, 6, 7, 8, 9, 10, 4, 11, 12, 13, 14, 15, 16, 17, 18, 19, 20, 21, 22, 23, 24, 25, 26, 27, 28, 29, 30, 31, 32, 33, 34, 35, 36, 37, 38, 39, 40, 41, 42, 43, 44, 45, 46, 47, 48, 49, 50, 51, 52, 53, 54, 55, 56, 57, 58, 59, 60, 61, 62, 63, 64, 65, 66, 67, 68, 69, 70, 71, 72, 73, 74, 75, 76, 77, 78, 79, 80, 81, 82, 83, 84, 85, 86, 87, 88, 89, 90, 91, 92, 93, 94, 95] (by decide +kernel) (by decide +kernel)
set_option maxRecDepth 20000 in
theorem gX11_back_X11_happensOf : GoodIn wsX11_back (wsV RX11 202 RX11 yX11_happensOf wsX11_happensOf) := goodIn_app (goodIn_of _ (by decide +kernel)) ggX11_back_X11_happensOf
theorem dX11_back_0 : decode cX11_back 0 = .ok (.aload_n 0, 1) := by decide +kernel
theorem dX11_back_1 : decode cX11_back 1 = .ok (.iconst 5, 1) := by decide +kernel
theorem dX11_back_2 : decode cX11_back 2 = .ok (.iload_n 1, 1) := by decide +kernel
theorem dX11_back_3 : decode cX11_back 3 = .ok (.iload_n 2, 1) := by decide +kernel
theorem dX11_back_4 : decode cX11_back 4 = .ok (.invokevirtual 202, 3) := by decide +kernel
theorem dX11_back_7 : decode cX11_back 7 = .ok (.ireturn, 1) := by decide +kernel
set_option maxRecDepth 20000 in
theorem ggX11_sign__X11_isMan : GoodIn wsX11_sign_ wsX11_isMan := goodIn_r _ [18, 19, 20, 21, 17, 22, 107, 108, 109, 110, 111, 112, 113, 114, 115, 116, 117, 118, 119, 120, 121, 122, 123, 124, 125, 126, 127, 128, 129, 130, 131, 132, 133, 134, 135, 136, 137, 138, 139, 140, 141, 142, 143, 144, 145, 146, 147, 148, 149, 150, 151, 152, 153, 154, 155, 156, 157, 158, 159, 160, 161, 162, 163, 164, 165, 166, 167, 168, 169] (by decide +kernel) (by decide +kernel)
set_option maxRecDepth 20000 in
theorem gX11_sign__X11_isMan : GoodIn wsX11_sign_ (wsV RX11 297 RX11 yX11_isMan wsX11_isMan) := goodIn_app (goodIn_of _ (by decide +kernel)) ggX11_sign__X11_isMan
set_option maxRecDepth 20000 in
theorem ggX11_sign__X11_refuse : GoodIn wsX11_sign_ wsX11_refuse := goodIn_r _ [35, 36, 107, 108, 109, 110, 111, 112, 113, 114, 115, 116, 117, 118, 119, 120, 121, 122, 123, 124, 125, 126, 127, 128, 129, 130, 131, 132, 133, 134, 135, 136, 137, 138, 139, 140, 141, 142, 143, 144, 145, 146, 147, 148, 149, 150, 151, 152, 153, 154, 155, 156, 157, 158, 159, 160, 161, 162, 163, 164, 165, 166, 167, 168, 169] (by decide +kernel) (by decide +kernel)
set_option maxRecDepth 20000 in
theorem gX11_sign__X11_refuse : GoodIn wsX11_sign_ (wsV RX11 153 RX11 yX11_refuse wsX11_refuse) := goodIn_app (goodIn_of _ (by decide +kernel)) ggX11_sign__X11_refuse
theorem dX11_sign__0 : decode cX11_sign_ 0 = .ok (.aload_n 0, 1) := by decide +kernel
theorem dX11_sign__1 : decode cX11_sign_ 1 = .ok (.iload_n 1, 1) := by decide +kernel
theorem dX11_sign__2 : decode cX11_sign_ 2 = .ok (.invokevirtual 297, 3) := by decide +kernel
theorem dX11_sign__5 : decode cX11_sign_ 5 = .ok (.ifCond .eq 26, 3) := by decide +kernel
theorem dX11_sign__31 : decode cX11_sign_ 31 = .ok (.aload_n 0, 1) := by decide +kernel
theorem dX11_sign__32 : decode cX11_sign_ 32 = .ok (.iconst (-1), 1) := by decide +kernel
theorem dX11_sign__33 : decode cX11_sign_ 33 = .ok (.invokevirtual 153, 3) := by decide +kernel
theorem dX11_sign__36 : decode cX11_sign_ 36 = .ok (.ireturn, 1) := by decide +kernel
set_option maxRecDepth 20000 in
theorem ggX11_off_X11_isAgreement : GoodIn wsX11_off wsX11_isAgreement := goodIn_r _ [7, 8, 9, 10, 6, 11, 32, 33, 34, 35, 36, 37, 38, 39, 40, 41, 42, 43, 44, 45, 46, 47, 48, 49, 50, 51, 52, 53, 54, 55, 56, 57, 58, 59, 60, 61, 62, 63, 64, 65, 66, 67, 68, 69, 70, 71, 72, 73, 74, 75, 76, 77, 78, 79, 80, 81, 82, 83, 84, 85, 86, 87, 88, 89, 90, 91, 92, 93, 94] (by decide +kernel) (by decide +kernel)
set_option maxRecDepth 20000 in
theorem gX11_off_X11_isAgreement : GoodIn wsX11_off (wsV RX11 199 RX11 yX11_isAgreement wsX11_isAgreement) := goodIn_app (goodIn_of _ (by decide +kernel)) ggX11_off_X11_isAgreement
set_option maxRecDepth 20000 in
theorem ggX11_off_X11_refuse : GoodIn wsX11_off wsX11_refuse := goodIn_r _ [18, 19, 32, 33, 34, 35, 36, 37, 38, 39, 40, 41, 42, 43, 44, 45, 46, 47, 48, 49, 50, 51, 52, 53, 54, 55, 56, 57, 58, 59, 60, 61, 62, 63, 64, 65, 66, 67, 68, 69, 70, 71, 72, 73, 74, 75, 76, 77, 78, 79, 80, 81, 82, 83, 84, 85, 86, 87, 88, 89, 90, 91, 92, 93, 94] (by decide +kernel) (by decide +kernel)
set_option maxRecDepth 20000 in
theorem gX11_off_X11_refuse : GoodIn wsX11_off (wsV RX11 153 RX11 yX11_refuse wsX11_refuse) := goodIn_app (goodIn_of _ (by decide +kernel)) ggX11_off_X11_refuse
theorem dX11_off_0 : decode cX11_off 0 = .ok (.aload_n 0, 1) := by decide +kernel
theorem dX11_off_1 : decode cX11_off 1 = .ok (.iload_n 1, 1) := by decide +kernel
theorem dX11_off_2 : decode cX11_off 2 = .ok (.invokevirtual 199, 3) := by decide +kernel
theorem dX11_off_5 : decode cX11_off 5 = .ok (.ifCond .eq 10, 3) := by decide +kernel
theorem dX11_off_15 : decode cX11_off 15 = .ok (.aload_n 0, 1) := by decide +kernel
theorem dX11_off_16 : decode cX11_off 16 = .ok (.iconst (-1), 1) := by decide +kernel
theorem dX11_off_17 : decode cX11_off 17 = .ok (.invokevirtual 153, 3) := by decide +kernel
theorem dX11_off_20 : decode cX11_off 20 = .ok (.ireturn, 1) := by decide +kernel
set_option maxRecDepth 20000 in
theorem ggX11_state_X11_isAgreement : GoodIn wsX11_state wsX11_isAgreement := goodIn_r _ [5, 6, 7, 8, 4, 9, 116, 117, 118, 119, 120, 121, 122, 123, 124, 125, 126, 127, 128, 129, 130, 131, 132, 133, 134, 135, 136, 137, 138, 139, 140, 141, 142, 143, 144, 145, 146, 147, 148, 149, 150, 151, 152, 153, 154, 155, 156, 157, 158, 159, 160, 161, 162, 163, 164, 165, 166, 167, 168, 169, 170, 171, 172, 173, 174, 175, 176, 177, 178] (by decide +kernel) (by decide +kernel)
set_option maxRecDepth 20000 in
theorem gX11_state_X11_isAgreement : GoodIn wsX11_state (wsV RX11 199 RX11 yX11_isAgreement wsX11_isAgreement) := goodIn_app (goodIn_of _ (by decide +kernel)) ggX11_state_X11_isAgreement
set_option maxRecDepth 20000 in
theorem ggX11_state_X11_refuse : GoodIn wsX11_state wsX11_refuse := goodIn_r _ [18, 19, 116, 117, 118, 119, 120, 121, 122, 123, 124, 125, 126, 127, 128, 129, 130, 131, 132, 133, 134, 135, 136, 137, 138, 139, 140, 141, 142, 143, 144, 145, 146, 147, 148, 149, 150, 151, 152, 153, 154, 155, 156, 157, 158, 159, 160, 161, 162, 163, 164, 165, 166, 167, 168, 169, 170, 171, 172, 173, 174, 175, 176, 177, 178] (by decide +kernel) (by decide +kernel)
set_option maxRecDepth 20000 in
theorem gX11_state_X11_refuse : GoodIn wsX11_state (wsV RX11 153 RX11 yX11_refuse wsX11_refuse) := goodIn_app (goodIn_of _ (by decide +kernel)) ggX11_state_X11_refuse
theorem dX11_state_0 : decode cX11_state 0 = .ok (.aload_n 0, 1) := by decide +kernel
theorem dX11_state_1 : decode cX11_state 1 = .ok (.iload_n 1, 1) := by decide +kernel
theorem dX11_state_2 : decode cX11_state 2 = .ok (.invokevirtual 199, 3) := by decide +kernel
theorem dX11_state_5 : decode cX11_state 5 = .ok (.ifCond .eq 12, 3) := by decide +kernel
theorem dX11_state_17 : decode cX11_state 17 = .ok (.iconst (-1), 1) := by decide +kernel
theorem dX11_state_18 : decode cX11_state 18 = .ok (.istore 4, 2) := by decide +kernel
theorem dX11_state_20 : decode cX11_state 20 = .ok (.iload 4, 2) := by decide +kernel
theorem dX11_state_22 : decode cX11_state 22 = .ok (.ifCond .eq 12, 3) := by decide +kernel
theorem dX11_state_25 : decode cX11_state 25 = .ok (.aload_n 0, 1) := by decide +kernel
theorem dX11_state_26 : decode cX11_state 26 = .ok (.iload 4, 2) := by decide +kernel
theorem dX11_state_28 : decode cX11_state 28 = .ok (.invokevirtual 153, 3) := by decide +kernel
theorem dX11_state_31 : decode cX11_state 31 = .ok (.goto 10, 3) := by decide +kernel
theorem dX11_state_41 : decode cX11_state 41 = .ok (.ireturn, 1) := by decide +kernel
set_option maxRecDepth 20000 in
theorem ggX11_earns_X11_isAgreement : GoodIn wsX11_earns wsX11_isAgreement := goodIn_r _ [5, 6, 7, 8, 4, 9, 120, 121, 122, 123, 124, 125, 126, 127, 128, 129, 130, 131, 132, 133, 134, 135, 136, 137, 138, 139, 140, 141, 142, 143, 144, 145, 146, 147, 148, 149, 150, 151, 152, 153, 154, 155, 156, 157, 158, 159, 160, 161, 162, 163, 164, 165, 166, 167, 168, 169, 170, 171, 172, 173, 174, 175, 176, 177, 178, 179, 180, 181, 182] (by decide +kernel) (by decide +kernel)
set_option maxRecDepth 20000 in
theorem gX11_earns_X11_isAgreement : GoodIn wsX11_earns (wsV RX11 199 RX11 yX11_isAgreement wsX11_isAgreement) := goodIn_app (goodIn_of _ (by decide +kernel)) ggX11_earns_X11_isAgreement
set_option maxRecDepth 20000 in
theorem ggX11_earns_X11_refuse : GoodIn wsX11_earns wsX11_refuse := goodIn_r _ [18, 19, 120, 121, 122, 123, 124, 125, 126, 127, 128, 129, 130, 131, 132, 133, 134, 135, 136, 137, 138, 139, 140, 141, 142, 143, 144, 145, 146, 147, 148, 149, 150, 151, 152, 153, 154, 155, 156, 157, 158, 159, 160, 161, 162, 163, 164, 165, 166, 167, 168, 169, 170, 171, 172, 173, 174, 175, 176, 177, 178, 179, 180, 181, 182] (by decide +kernel) (by decide +kernel)
set_option maxRecDepth 20000 in
theorem gX11_earns_X11_refuse : GoodIn wsX11_earns (wsV RX11 153 RX11 yX11_refuse wsX11_refuse) := goodIn_app (goodIn_of _ (by decide +kernel)) ggX11_earns_X11_refuse
theorem dX11_earns_0 : decode cX11_earns 0 = .ok (.aload_n 0, 1) := by decide +kernel
theorem dX11_earns_1 : decode cX11_earns 1 = .ok (.iload_n 1, 1) := by decide +kernel
theorem dX11_earns_2 : decode cX11_earns 2 = .ok (.invokevirtual 199, 3) := by decide +kernel
theorem dX11_earns_5 : decode cX11_earns 5 = .ok (.ifCond .eq 12, 3) := by decide +kernel
theorem dX11_earns_17 : decode cX11_earns 17 = .ok (.iconst (-1), 1) := by decide +kernel
theorem dX11_earns_18 : decode cX11_earns 18 = .ok (.istore 4, 2) := by decide +kernel
theorem dX11_earns_20 : decode cX11_earns 20 = .ok (.iload 4, 2) := by decide +kernel
theorem dX11_earns_22 : decode cX11_earns 22 = .ok (.ifCond .eq 12, 3) := by decide +kernel
theorem dX11_earns_25 : decode cX11_earns 25 = .ok (.aload_n 0, 1) := by decide +kernel
theorem dX11_earns_26 : decode cX11_earns 26 = .ok (.iload 4, 2) := by decide +kernel
theorem dX11_earns_28 : decode cX11_earns 28 = .ok (.invokevirtual 153, 3) := by decide +kernel
theorem dX11_earns_31 : decode cX11_earns 31 = .ok (.goto 10, 3) := by decide +kernel
theorem dX11_earns_41 : decode cX11_earns 41 = .ok (.ireturn, 1) := by decide +kernel
set_option maxRecDepth 20000 in
theorem ggX11_advance_X11_isAgreement : GoodIn wsX11_advance wsX11_isAgreement := goodIn_r _ [8, 9, 10, 11, 7, 12, 114, 115, 116, 117, 118, 119, 120, 121, 122, 123, 124, 125, 126, 127, 128, 129, 130, 131, 132, 133, 134, 135, 136, 137, 138, 139, 140, 141, 142, 143, 144, 145, 146, 147, 148, 149, 150, 151, 152, 153, 154, 155, 156, 157, 158, 159, 160, 161, 162, 163, 164, 165, 166, 167, 168, 169, 170, 171, 172, 173, 174, 175, 176] (by decide +kernel) (by decide +kernel)
set_option maxRecDepth 20000 in
theorem gX11_advance_X11_isAgreement : GoodIn wsX11_advance (wsV RX11 199 RX11 yX11_isAgreement wsX11_isAgreement) := goodIn_app (goodIn_of _ (by decide +kernel)) ggX11_advance_X11_isAgreement
set_option maxRecDepth 20000 in
theorem ggX11_advance_X11_refuse : GoodIn wsX11_advance wsX11_refuse := goodIn_r _ [16, 17, 114, 115, 116, 117, 118, 119, 120, 121, 122, 123, 124, 125, 126, 127, 128, 129, 130, 131, 132, 133, 134, 135, 136, 137, 138, 139, 140, 141, 142, 143, 144, 145, 146, 147, 148, 149, 150, 151, 152, 153, 154, 155, 156, 157, 158, 159, 160, 161, 162, 163, 164, 165, 166, 167, 168, 169, 170, 171, 172, 173, 174, 175, 176] (by decide +kernel) (by decide +kernel)
set_option maxRecDepth 20000 in
theorem gX11_advance_X11_refuse : GoodIn wsX11_advance (wsV RX11 153 RX11 yX11_refuse wsX11_refuse) := goodIn_app (goodIn_of _ (by decide +kernel)) ggX11_advance_X11_refuse
theorem dX11_advance_0 : decode cX11_advance 0 = .ok (.aload_n 0, 1) := by decide +kernel
theorem dX11_advance_1 : decode cX11_advance 1 = .ok (.iload_n 1, 1) := by decide +kernel
theorem dX11_advance_2 : decode cX11_advance 2 = .ok (.invokevirtual 199, 3) := by decide +kernel
theorem dX11_advance_5 : decode cX11_advance 5 = .ok (.ifCond .ne 9, 3) := by decide +kernel
theorem dX11_advance_8 : decode cX11_advance 8 = .ok (.aload_n 0, 1) := by decide +kernel
theorem dX11_advance_9 : decode cX11_advance 9 = .ok (.iconst (-1), 1) := by decide +kernel
theorem dX11_advance_10 : decode cX11_advance 10 = .ok (.invokevirtual 153, 3) := by decide +kernel
theorem dX11_advance_13 : decode cX11_advance 13 = .ok (.ireturn, 1) := by decide +kernel
set_option maxRecDepth 20000 in
theorem ggX11_sold_X11_isAgreement : GoodIn wsX11_sold wsX11_isAgreement := goodIn_r _ [7, 8, 9, 10, 6, 11, 17, 18, 19, 20, 21, 22, 23, 24, 25, 26, 27, 28, 29, 30, 31, 32, 33, 34, 35, 36, 37, 38, 39, 40, 41, 42, 43, 44, 45, 46, 47, 48, 49, 50, 51, 52, 53, 54, 55, 56, 57, 58, 59, 60, 61, 62, 63, 64, 65, 66, 67, 68, 69, 70, 71, 72, 73, 74, 75, 76, 77, 78, 79] (by decide +kernel) (by decide +kernel)
set_option maxRecDepth 20000 in
theorem gX11_sold_X11_isAgreement : GoodIn wsX11_sold (wsV RX11 199 RX11 yX11_isAgreement wsX11_isAgreement) := goodIn_app (goodIn_of _ (by decide +kernel)) ggX11_sold_X11_isAgreement
set_option maxRecDepth 20000 in
theorem ggX11_sold_X11_refuse : GoodIn wsX11_sold wsX11_refuse := goodIn_r _ [15, 16, 17, 18, 19, 20, 21, 22, 23, 24, 25, 26, 27, 28, 29, 30, 31, 32, 33, 34, 35, 36, 37, 38, 39, 40, 41, 42, 43, 44, 45, 46, 47, 48, 49, 50, 51, 52, 53, 54, 55, 56, 57, 58, 59, 60, 61, 62, 63, 64, 65, 66, 67, 68, 69, 70, 71, 72, 73, 74, 75, 76, 77, 78, 79] (by decide +kernel) (by decide +kernel)
set_option maxRecDepth 20000 in
theorem gX11_sold_X11_refuse : GoodIn wsX11_sold (wsV RX11 153 RX11 yX11_refuse wsX11_refuse) := goodIn_app (goodIn_of _ (by decide +kernel)) ggX11_sold_X11_refuse
theorem dX11_sold_0 : decode cX11_sold 0 = .ok (.aload_n 0, 1) := by decide +kernel
theorem dX11_sold_1 : decode cX11_sold 1 = .ok (.iload_n 1, 1) := by decide +kernel
theorem dX11_sold_2 : decode cX11_sold 2 = .ok (.invokevirtual 199, 3) := by decide +kernel
theorem dX11_sold_5 : decode cX11_sold 5 = .ok (.ifCond .ne 9, 3) := by decide +kernel
theorem dX11_sold_8 : decode cX11_sold 8 = .ok (.aload_n 0, 1) := by decide +kernel
theorem dX11_sold_9 : decode cX11_sold 9 = .ok (.iconst (-1), 1) := by decide +kernel
theorem dX11_sold_10 : decode cX11_sold 10 = .ok (.invokevirtual 153, 3) := by decide +kernel
theorem dX11_sold_13 : decode cX11_sold 13 = .ok (.ireturn, 1) := by decide +kernel
set_option maxRecDepth 20000 in
theorem ggX11_allot_X11_isAgreement : GoodIn wsX11_allot wsX11_isAgreement := goodIn_r _ [9, 10, 11, 12, 8, 13, 134, 135, 136, 137, 138, 139, 140, 141, 142, 143, 144, 145, 146, 147, 148, 149, 150, 151, 152, 153, 154, 155, 156, 157, 158, 159, 160, 161, 162, 163, 164, 165, 166, 167, 168, 169, 170, 171, 172, 173, 174, 175, 176, 177, 178, 179, 180, 181, 182, 183, 184, 185, 186, 187, 188, 189, 190, 191, 192, 193, 194, 195, 196] (by decide +kernel) (by decide +kernel)
set_option maxRecDepth 20000 in
theorem gX11_allot_X11_isAgreement : GoodIn wsX11_allot (wsV RX11 199 RX11 yX11_isAgreement wsX11_isAgreement) := goodIn_app (goodIn_of _ (by decide +kernel)) ggX11_allot_X11_isAgreement
set_option maxRecDepth 20000 in
theorem ggX11_allot_X11_refuse : GoodIn wsX11_allot wsX11_refuse := goodIn_r _ [17, 18, 134, 135, 136, 137, 138, 139, 140, 141, 142, 143, 144, 145, 146, 147, 148, 149, 150, 151, 152, 153, 154, 155, 156, 157, 158, 159, 160, 161, 162, 163, 164, 165, 166, 167, 168, 169, 170, 171, 172, 173, 174, 175, 176, 177, 178, 179, 180, 181, 182, 183, 184, 185, 186, 187, 188, 189, 190, 191, 192, 193, 194, 195, 196] (by decide +kernel) (by decide +kernel)
set_option maxRecDepth 20000 in
theorem gX11_allot_X11_refuse : GoodIn wsX11_allot (wsV RX11 153 RX11 yX11_refuse wsX11_refuse) := goodIn_app (goodIn_of _ (by decide +kernel)) ggX11_allot_X11_refuse
theorem dX11_allot_0 : decode cX11_allot 0 = .ok (.aload_n 0, 1) := by decide +kernel
theorem dX11_allot_1 : decode cX11_allot 1 = .ok (.iload_n 1, 1) := by decide +kernel
theorem dX11_allot_2 : decode cX11_allot 2 = .ok (.invokevirtual 199, 3) := by decide +kernel
theorem dX11_allot_5 : decode cX11_allot 5 = .ok (.ifCond .ne 9, 3) := by decide +kernel
theorem dX11_allot_8 : decode cX11_allot 8 = .ok (.aload_n 0, 1) := by decide +kernel
theorem dX11_allot_9 : decode cX11_allot 9 = .ok (.iconst (-1), 1) := by decide +kernel
theorem dX11_allot_10 : decode cX11_allot 10 = .ok (.invokevirtual 153, 3) := by decide +kernel
theorem dX11_allot_13 : decode cX11_allot 13 = .ok (.ireturn, 1) := by decide +kernel
set_option maxRecDepth 20000 in
theorem ggX11_fine_X11_isAgreement : GoodIn wsX11_fine wsX11_isAgreement := goodIn_r _ [12, 13, 14, 15, 11, 16, 22, 23, 24, 25, 26, 27, 28, 29, 30, 31, 32, 33, 34, 35, 36, 37, 38, 39, 40, 41, 42, 43, 44, 45, 46, 47, 48, 49, 50, 51, 52, 53, 54, 55, 56, 57, 58, 59, 60, 61, 62, 63, 64, 65, 66, 67, 68, 69, 70, 71, 72, 73, 74, 75, 76, 77, 78, 79, 80, 81, 82, 83, 84] (by decide +kernel) (by decide +kernel)
set_option maxRecDepth 20000 in
theorem gX11_fine_X11_isAgreement : GoodIn wsX11_fine (wsV RX11 199 RX11 yX11_isAgreement wsX11_isAgreement) := goodIn_app (goodIn_of _ (by decide +kernel)) ggX11_fine_X11_isAgreement
set_option maxRecDepth 20000 in
theorem ggX11_fine_X11_refuse : GoodIn wsX11_fine wsX11_refuse := goodIn_r _ [20, 21, 22, 23, 24, 25, 26, 27, 28, 29, 30, 31, 32, 33, 34, 35, 36, 37, 38, 39, 40, 41, 42, 43, 44, 45, 46, 47, 48, 49, 50, 51, 52, 53, 54, 55, 56, 57, 58, 59, 60, 61, 62, 63, 64, 65, 66, 67, 68, 69, 70, 71, 72, 73, 74, 75, 76, 77, 78, 79, 80, 81, 82, 83, 84] (by decide +kernel) (by decide +kernel)
set_option maxRecDepth 20000 in
theorem gX11_fine_X11_refuse : GoodIn wsX11_fine (wsV RX11 153 RX11 yX11_refuse wsX11_refuse) := goodIn_app (goodIn_of _ (by decide +kernel)) ggX11_fine_X11_refuse
theorem dX11_fine_0 : decode cX11_fine 0 = .ok (.aload_n 0, 1) := by decide +kernel
theorem dX11_fine_1 : decode cX11_fine 1 = .ok (.iload_n 1, 1) := by decide +kernel
theorem dX11_fine_2 : decode cX11_fine 2 = .ok (.invokevirtual 199, 3) := by decide +kernel
theorem dX11_fine_5 : decode cX11_fine 5 = .ok (.ifCond .ne 9, 3) := by decide +kernel
theorem dX11_fine_8 : decode cX11_fine 8 = .ok (.aload_n 0, 1) := by decide +kernel
theorem dX11_fine_9 : decode cX11_fine 9 = .ok (.iconst (-1), 1) := by decide +kernel
theorem dX11_fine_10 : decode cX11_fine 10 = .ok (.invokevirtual 153, 3) := by decide +kernel
theorem dX11_fine_13 : decode cX11_fine 13 = .ok (.ireturn, 1) := by decide +kernel
set_option maxRecDepth 20000 in
theorem ggX11_isFine_X11_isAgreement : GoodIn wsX11_isFine wsX11_isAgreement := goodIn_r _ [6, 7, 8, 9, 5, 10, 11, 12, 13, 14, 15, 16, 17, 18, 19, 20, 21, 22, 23, 24, 25, 26, 27, 28, 29, 30, 31, 32, 33, 34, 35, 36, 37, 38, 39, 40, 41, 42, 43, 44, 45, 46, 47, 48, 49, 50, 51, 52, 53, 54, 55, 56, 57, 58, 59, 60, 61, 62, 63, 64, 65, 66, 67, 68, 69, 70, 71, 72, 73] (by decide +kernel) (by decide +kernel)
set_option maxRecDepth 20000 in
theorem gX11_isFine_X11_isAgreement : GoodIn wsX11_isFine (wsV RX11 199 RX11 yX11_isAgreement wsX11_isAgreement) := goodIn_app (goodIn_of _ (by decide +kernel)) ggX11_isFine_X11_isAgreement
theorem dX11_isFine_0 : decode cX11_isFine 0 = .ok (.aload_n 0, 1) := by decide +kernel
theorem dX11_isFine_1 : decode cX11_isFine 1 = .ok (.iload_n 1, 1) := by decide +kernel
theorem dX11_isFine_2 : decode cX11_isFine 2 = .ok (.invokevirtual 199, 3) := by decide +kernel
theorem dX11_isFine_5 : decode cX11_isFine 5 = .ok (.ifCond .eq 20, 3) := by decide +kernel
theorem dX11_isFine_25 : decode cX11_isFine 25 = .ok (.iconst 0, 1) := by decide +kernel
theorem dX11_isFine_26 : decode cX11_isFine 26 = .ok (.ireturn, 1) := by decide +kernel
set_option maxRecDepth 20000 in
theorem ggX11_read_X11_isFine : GoodIn wsX11_read wsX11_isFine := goodIn_r _ [8, 9, 10, 11, 12, 7, 13, 14, 15, 16, 17, 23, 24, 25, 26, 27, 28, 29, 30, 31, 32, 33, 34, 35, 36, 37, 38, 39, 40, 41, 42, 43, 44, 45, 46, 47, 48, 49, 50, 51, 52, 53, 54, 55, 56, 57, 58, 59, 60, 61, 62, 63, 64, 65, 66, 67, 68, 69, 70, 71, 72, 73, 74, 75, 76, 77, 78, 79, 80, 81, 82, 83, 84, 85] (by decide +kernel) (by decide +kernel)
set_option maxRecDepth 20000 in
theorem gX11_read_X11_isFine : GoodIn wsX11_read (wsV RX11 312 RX11 yX11_isFine wsX11_isFine) := goodIn_app (goodIn_of _ (by decide +kernel)) ggX11_read_X11_isFine
set_option maxRecDepth 20000 in
theorem ggX11_read_X11_refuse : GoodIn wsX11_read wsX11_refuse := goodIn_r _ [21, 22, 23, 24, 25, 26, 27, 28, 29, 30, 31, 32, 33, 34, 35, 36, 37, 38, 39, 40, 41, 42, 43, 44, 45, 46, 47, 48, 49, 50, 51, 52, 53, 54, 55, 56, 57, 58, 59, 60, 61, 62, 63, 64, 65, 66, 67, 68, 69, 70, 71, 72, 73, 74, 75, 76, 77, 78, 79, 80, 81, 82, 83, 84, 85] (by decide +kernel) (by decide +kernel)
set_option maxRecDepth 20000 in
theorem gX11_read_X11_refuse : GoodIn wsX11_read (wsV RX11 153 RX11 yX11_refuse wsX11_refuse) := goodIn_app (goodIn_of _ (by decide +kernel)) ggX11_read_X11_refuse
theorem dX11_read_0 : decode cX11_read 0 = .ok (.aload_n 0, 1) := by decide +kernel
theorem dX11_read_1 : decode cX11_read 1 = .ok (.iload_n 1, 1) := by decide +kernel
theorem dX11_read_2 : decode cX11_read 2 = .ok (.iload_n 2, 1) := by decide +kernel
theorem dX11_read_3 : decode cX11_read 3 = .ok (.invokevirtual 312, 3) := by decide +kernel
theorem dX11_read_6 : decode cX11_read 6 = .ok (.ifCond .ne 9, 3) := by decide +kernel
theorem dX11_read_9 : decode cX11_read 9 = .ok (.aload_n 0, 1) := by decide +kernel
theorem dX11_read_10 : decode cX11_read 10 = .ok (.iconst (-1), 1) := by decide +kernel
theorem dX11_read_11 : decode cX11_read 11 = .ok (.invokevirtual 153, 3) := by decide +kernel
theorem dX11_read_14 : decode cX11_read 14 = .ok (.ireturn, 1) := by decide +kernel
set_option maxRecDepth 20000 in
theorem ggX11_stands_X11_isFine : GoodIn wsX11_stands wsX11_isFine := goodIn_r _ [6, 7, 8, 9, 10, 5, 11, 12, 13, 14, 15, 136, 137, 138, 139, 140, 141, 142, 143, 144, 145, 146, 147, 148, 149, 150, 151, 152, 153, 154, 155, 156, 157, 158, 159, 160, 161, 162, 163, 164, 165, 166, 167, 168, 169, 170, 171, 172, 173, 174, 175, 176, 177, 178, 179, 180, 181, 182, 183, 184, 185, 186, 187, 188, 189, 190, 191, 192, 193, 194, 195, 196, 197, 198] (by decide +kernel) (by decide +kernel)
set_option maxRecDepth 20000 in
theorem gX11_stands_X11_isFine : GoodIn wsX11_stands (wsV RX11 312 RX11 yX11_isFine wsX11_isFine) := goodIn_app (goodIn_of _ (by decide +kernel)) ggX11_stands_X11_isFine
set_option maxRecDepth 20000 in
theorem ggX11_stands_X11_refuse : GoodIn wsX11_stands wsX11_refuse := goodIn_r _ [19, 20, 136, 137, 138, 139, 140, 141, 142, 143, 144, 145, 146, 147, 148, 149, 150, 151, 152, 153, 154, 155, 156, 157, 158, 159, 160, 161, 162, 163, 164, 165, 166, 167, 168, 169, 170, 171, 172, 173, 174, 175, 176, 177, 178, 179, 180, 181, 182, 183, 184, 185, 186, 187, 188, 189, 190, 191, 192, 193, 194, 195, 196, 197, 198] (by decide +kernel) (by decide +kernel)
set_option maxRecDepth 20000 in
theorem gX11_stands_X11_refuse : GoodIn wsX11_stands (wsV RX11 153 RX11 yX11_refuse wsX11_refuse) := goodIn_app (goodIn_of _ (by decide +kernel)) ggX11_stands_X11_refuse
theorem dX11_stands_0 : decode cX11_stands 0 = .ok (.aload_n 0, 1) := by decide +kernel
theorem dX11_stands_1 : decode cX11_stands 1 = .ok (.iload_n 1, 1) := by decide +kernel
theorem dX11_stands_2 : decode cX11_stands 2 = .ok (.iload_n 2, 1) := by decide +kernel
theorem dX11_stands_3 : decode cX11_stands 3 = .ok (.invokevirtual 312, 3) := by decide +kernel
theorem dX11_stands_6 : decode cX11_stands 6 = .ok (.ifCond .ne 9, 3) := by decide +kernel
theorem dX11_stands_9 : decode cX11_stands 9 = .ok (.aload_n 0, 1) := by decide +kernel
theorem dX11_stands_10 : decode cX11_stands 10 = .ok (.iconst (-1), 1) := by decide +kernel
theorem dX11_stands_11 : decode cX11_stands 11 = .ok (.invokevirtual 153, 3) := by decide +kernel
theorem dX11_stands_14 : decode cX11_stands 14 = .ok (.ireturn, 1) := by decide +kernel
set_option maxRecDepth 20000 in
theorem ggX11_rations_X11_isAgreement : GoodIn wsX11_rations wsX11_isAgreement := goodIn_r _ [10, 11, 12, 13, 9, 14, 20, 21, 22, 23, 24, 25, 26, 27, 28, 29, 30, 31, 32, 33, 34, 35, 36, 37, 38, 39, 40, 41, 42, 43, 44, 45, 46, 47, 48, 49, 50, 51, 52, 53, 54, 55, 56, 57, 58, 59, 60, 61, 62, 63, 64, 65, 66, 67, 68, 69, 70, 71, 72, 73, 74, 75, 76, 77, 78, 79, 80, 81, 82] (by decide +kernel) (by decide +kernel)
set_option maxRecDepth 20000 in
theorem gX11_rations_X11_isAgreement : GoodIn wsX11_rations (wsV RX11 199 RX11 yX11_isAgreement wsX11_isAgreement) := goodIn_app (goodIn_of _ (by decide +kernel)) ggX11_rations_X11_isAgreement
set_option maxRecDepth 20000 in
theorem ggX11_rations_X11_refuse : GoodIn wsX11_rations wsX11_refuse := goodIn_r _ [18, 19, 20, 21, 22, 23, 24, 25, 26, 27, 28, 29, 30, 31, 32, 33, 34, 35, 36, 37, 38, 39, 40, 41, 42, 43, 44, 45, 46, 47, 48, 49, 50, 51, 52, 53, 54, 55, 56, 57, 58, 59, 60, 61, 62, 63, 64, 65, 66, 67, 68, 69, 70, 71, 72, 73, 74, 75, 76, 77, 78, 79, 80, 81, 82] (by decide +kernel) (by decide +kernel)
set_option maxRecDepth 20000 in
theorem gX11_rations_X11_refuse : GoodIn wsX11_rations (wsV RX11 153 RX11 yX11_refuse wsX11_refuse) := goodIn_app (goodIn_of _ (by decide +kernel)) ggX11_rations_X11_refuse
theorem dX11_rations_0 : decode cX11_rations 0 = .ok (.aload_n 0, 1) := by decide +kernel
theorem dX11_rations_1 : decode cX11_rations 1 = .ok (.iload_n 1, 1) := by decide +kernel
theorem dX11_rations_2 : decode cX11_rations 2 = .ok (.invokevirtual 199, 3) := by decide +kernel
theorem dX11_rations_5 : decode cX11_rations 5 = .ok (.ifCond .ne 9, 3) := by decide +kernel
theorem dX11_rations_8 : decode cX11_rations 8 = .ok (.aload_n 0, 1) := by decide +kernel
theorem dX11_rations_9 : decode cX11_rations 9 = .ok (.iconst (-1), 1) := by decide +kernel
theorem dX11_rations_10 : decode cX11_rations 10 = .ok (.invokevirtual 153, 3) := by decide +kernel
theorem dX11_rations_13 : decode cX11_rations 13 = .ok (.ireturn, 1) := by decide +kernel
set_option maxRecDepth 20000 in
theorem ggX11_owed_X11_isAgreement : GoodIn wsX11_owed wsX11_isAgreement := goodIn_r _ [5, 6, 7, 8, 4, 9, 157, 158, 159, 160, 161, 162, 163, 164, 165, 166, 167, 168, 169, 170, 171, 172, 173, 174, 175, 176, 177, 178, 179, 180, 181, 182, 183, 184, 185, 186, 187, 188, 189, 190, 191, 192, 193, 194, 195, 196, 197, 198, 199, 200, 201, 202, 203, 204, 205, 206, 207, 208, 209, 210, 211, 212, 213, 214, 215, 216, 217, 218, 219] (by decide +kernel) (by decide +kernel)
set_option maxRecDepth 20000 in
theorem gX11_owed_X11_isAgreement : GoodIn wsX11_owed (wsV RX11 199 RX11 yX11_isAgreement wsX11_isAgreement) := goodIn_app (goodIn_of _ (by decide +kernel)) ggX11_owed_X11_isAgreement
set_option maxRecDepth 20000 in
theorem ggX11_owed_X11_refuseFar : GoodIn wsX11_owed wsX11_refuseFar := goodIn_r _ [18, 19, 20, 21, 22, 4, 23, 24, 157, 158, 159, 160, 161, 162, 163, 164, 165, 166, 167, 168, 169, 170, 171, 172, 173, 174, 175, 176, 177, 178, 179, 180, 181, 182, 183, 184, 185, 186, 187, 188, 189, 190, 191, 192, 193, 194, 195, 196, 197, 198, 199, 200, 201, 202, 203, 204, 205, 206, 207, 208, 209, 210, 211, 212, 213, 214, 215, 216, 217, 218, 219] (by decide +kernel) (by decide +kernel)
set_option maxRecDepth 20000 in
theorem gX11_owed_X11_refuseFar : GoodIn wsX11_owed (wsV RX11 320 RX11 yX11_refuseFar wsX11_refuseFar) := goodIn_app (goodIn_of _ (by decide +kernel)) ggX11_owed_X11_refuseFar
theorem dX11_owed_0 : decode cX11_owed 0 = .ok (.aload_n 0, 1) := by decide +kernel
theorem dX11_owed_1 : decode cX11_owed 1 = .ok (.iload_n 1, 1) := by decide +kernel
theorem dX11_owed_2 : decode cX11_owed 2 = .ok (.invokevirtual 199, 3) := by decide +kernel
theorem dX11_owed_5 : decode cX11_owed 5 = .ok (.ifCond .eq 12, 3) := by decide +kernel
theorem dX11_owed_17 : decode cX11_owed 17 = .ok (.iconst (-1), 1) := by decide +kernel
theorem dX11_owed_18 : decode cX11_owed 18 = .ok (.istore 4, 2) := by decide +kernel
theorem dX11_owed_20 : decode cX11_owed 20 = .ok (.iload 4, 2) := by decide +kernel
theorem dX11_owed_22 : decode cX11_owed 22 = .ok (.ifCond .eq 12, 3) := by decide +kernel
theorem dX11_owed_25 : decode cX11_owed 25 = .ok (.aload_n 0, 1) := by decide +kernel
theorem dX11_owed_26 : decode cX11_owed 26 = .ok (.iload 4, 2) := by decide +kernel
theorem dX11_owed_28 : decode cX11_owed 28 = .ok (.invokevirtual 320, 3) := by decide +kernel
theorem dX11_owed_31 : decode cX11_owed 31 = .ok (.goto 10, 3) := by decide +kernel
theorem dX11_owed_41 : decode cX11_owed 41 = .ok (.ireturn, 1) := by decide +kernel
set_option maxRecDepth 20000 in
theorem ggX11_agreementOf_X11_isAgreement : GoodIn wsX11_agreementOf wsX11_isAgreement := goodIn_r _ [14, 15, 16, 17, 13, 18, 35, 36, 37, 38, 39, 40, 41, 42, 43, 44, 45, 46, 47, 48, 49, 50, 51, 52, 53, 54, 55, 56, 57, 58, 59, 60, 61, 62, 63, 64, 65, 66, 67, 68, 69, 70, 71, 72, 73, 74, 75, 76, 77, 78, 79, 80, 81, 82, 83, 84, 85, 86, 87, 88, 89, 90, 91, 92, 93, 94, 95, 96, 97] (by decide +kernel) (by decide +kernel)
set_option maxRecDepth 20000 in
theorem gX11_agreementOf_X11_isAgreement : GoodIn wsX11_agreementOf (wsV RX11 199 RX11 yX11_isAgreement wsX11_isAgreement) := goodIn_app (goodIn_of _ (by decide +kernel)) ggX11_agreementOf_X11_isAgreement
set_option maxRecDepth 20000 in
theorem ggX11_agreementOf_X11_refuse : GoodIn wsX11_agreementOf wsX11_refuse := goodIn_r _ [22, 23, 35, 36, 37, 38, 39, 40, 41, 42, 43, 44, 45, 46, 47, 48, 49, 50, 51, 52, 53, 54, 55, 56, 57, 58, 59, 60, 61, 62, 63, 64, 65, 66, 67, 68, 69, 70, 71, 72, 73, 74, 75, 76, 77, 78, 79, 80, 81, 82, 83, 84, 85, 86, 87, 88, 89, 90, 91, 92, 93, 94, 95, 96, 97] (by decide +kernel) (by decide +kernel)
set_option maxRecDepth 20000 in
theorem gX11_agreementOf_X11_refuse : GoodIn wsX11_agreementOf (wsV RX11 153 RX11 yX11_refuse wsX11_refuse) := goodIn_app (goodIn_of _ (by decide +kernel)) ggX11_agreementOf_X11_refuse
theorem dX11_agreementOf_0 : decode cX11_agreementOf 0 = .ok (.aload_n 0, 1) := by decide +kernel
theorem dX11_agreementOf_1 : decode cX11_agreementOf 1 = .ok (.iload_n 1, 1) := by decide +kernel
theorem dX11_agreementOf_2 : decode cX11_agreementOf 2 = .ok (.invokevirtual 199, 3) := by decide +kernel
theorem dX11_agreementOf_5 : decode cX11_agreementOf 5 = .ok (.ifCond .ne 9, 3) := by decide +kernel
theorem dX11_agreementOf_8 : decode cX11_agreementOf 8 = .ok (.aload_n 0, 1) := by decide +kernel
theorem dX11_agreementOf_9 : decode cX11_agreementOf 9 = .ok (.iconst (-1), 1) := by decide +kernel
theorem dX11_agreementOf_10 : decode cX11_agreementOf 10 = .ok (.invokevirtual 153, 3) := by decide +kernel
theorem dX11_agreementOf_13 : decode cX11_agreementOf 13 = .ok (.ireturn, 1) := by decide +kernel
set_option maxRecDepth 20000 in
theorem ggX11_aboard_X11_isVoyage : GoodIn wsX11_aboard wsX11_isVoyage := goodIn_r _ [5, 6, 7, 8, 4, 9, 121, 122, 123, 124, 125, 126, 127, 128, 129, 130, 131, 132, 133, 134, 135, 136, 137, 138, 139, 140, 141, 142, 143, 144, 145, 146, 147, 148, 149, 150, 151, 152, 153, 154, 155, 156, 157, 158, 159, 160, 161, 162, 163, 164, 165, 166, 167, 168, 169, 170, 171, 172, 173, 174, 175, 176, 177, 178, 179, 180, 181, 182, 183] (by decide +kernel) (by decide +kernel)
set_option maxRecDepth 20000 in
theorem gX11_aboard_X11_isVoyage : GoodIn wsX11_aboard (wsV RX11 185 RX11 yX11_isVoyage wsX11_isVoyage) := goodIn_app (goodIn_of _ (by decide +kernel)) ggX11_aboard_X11_isVoyage
set_option maxRecDepth 20000 in
theorem ggX11_aboard_X11_refuse : GoodIn wsX11_aboard wsX11_refuse := goodIn_r _ [18, 19, 121, 122, 123, 124, 125, 126, 127, 128, 129, 130, 131, 132, 133, 134, 135, 136, 137, 138, 139, 140, 141, 142, 143, 144, 145, 146, 147, 148, 149, 150, 151, 152, 153, 154, 155, 156, 157, 158, 159, 160, 161, 162, 163, 164, 165, 166, 167, 168, 169, 170, 171, 172, 173, 174, 175, 176, 177, 178, 179, 180, 181, 182, 183] (by decide +kernel) (by decide +kernel)
set_option maxRecDepth 20000 in
theorem gX11_aboard_X11_refuse : GoodIn wsX11_aboard (wsV RX11 153 RX11 yX11_refuse wsX11_refuse) := goodIn_app (goodIn_of _ (by decide +kernel)) ggX11_aboard_X11_refuse
theorem dX11_aboard_0 : decode cX11_aboard 0 = .ok (.aload_n 0, 1) := by decide +kernel
theorem dX11_aboard_1 : decode cX11_aboard 1 = .ok (.iload_n 1, 1) := by decide +kernel
theorem dX11_aboard_2 : decode cX11_aboard 2 = .ok (.invokevirtual 185, 3) := by decide +kernel
theorem dX11_aboard_5 : decode cX11_aboard 5 = .ok (.ifCond .eq 12, 3) := by decide +kernel
theorem dX11_aboard_17 : decode cX11_aboard 17 = .ok (.iconst (-1), 1) := by decide +kernel
theorem dX11_aboard_18 : decode cX11_aboard 18 = .ok (.istore 4, 2) := by decide +kernel
theorem dX11_aboard_20 : decode cX11_aboard 20 = .ok (.iload 4, 2) := by decide +kernel
theorem dX11_aboard_22 : decode cX11_aboard 22 = .ok (.ifCond .eq 12, 3) := by decide +kernel
theorem dX11_aboard_25 : decode cX11_aboard 25 = .ok (.aload_n 0, 1) := by decide +kernel
theorem dX11_aboard_26 : decode cX11_aboard 26 = .ok (.iload 4, 2) := by decide +kernel
theorem dX11_aboard_28 : decode cX11_aboard 28 = .ok (.invokevirtual 153, 3) := by decide +kernel
theorem dX11_aboard_31 : decode cX11_aboard 31 = .ok (.goto 10, 3) := by decide +kernel
theorem dX11_aboard_41 : decode cX11_aboard 41 = .ok (.ireturn, 1) := by decide +kernel
set_option maxRecDepth 20000 in
theorem ggX11_group_X11_isMan : GoodIn wsX11_group wsX11_isMan := goodIn_r _ [6, 7, 8, 9, 5, 10, 26, 27, 28, 29, 30, 31, 32, 33, 34, 35, 36, 37, 38, 39, 40, 41, 42, 43, 44, 45, 46, 47, 48, 49, 50, 51, 52, 53, 54, 55, 56, 57, 58, 59, 60, 61, 62, 63, 64, 65, 66, 67, 68, 69, 70, 71, 72, 73, 74, 75, 76, 77, 78, 79, 80, 81, 82, 83, 84, 85, 86, 87, 88] (by decide +kernel) (by decide +kernel)
set_option maxRecDepth 20000 in
theorem gX11_group_X11_isMan : GoodIn wsX11_group (wsV RX11 297 RX11 yX11_isMan wsX11_isMan) := goodIn_app (goodIn_of _ (by decide +kernel)) ggX11_group_X11_isMan
set_option maxRecDepth 20000 in
theorem ggX11_group_X11_refuse : GoodIn wsX11_group wsX11_refuse := goodIn_r _ [14, 15, 26, 27, 28, 29, 30, 31, 32, 33, 34, 35, 36, 37, 38, 39, 40, 41, 42, 43, 44, 45, 46, 47, 48, 49, 50, 51, 52, 53, 54, 55, 56, 57, 58, 59, 60, 61, 62, 63, 64, 65, 66, 67, 68, 69, 70, 71, 72, 73, 74, 75, 76, 77, 78, 79, 80, 81, 82, 83, 84, 85, 86, 87, 88] (by decide +kernel) (by decide +kernel)
set_option maxRecDepth 20000 in
theorem gX11_group_X11_refuse : GoodIn wsX11_group (wsV RX11 153 RX11 yX11_refuse wsX11_refuse) := goodIn_app (goodIn_of _ (by decide +kernel)) ggX11_group_X11_refuse
theorem dX11_group_0 : decode cX11_group 0 = .ok (.aload_n 0, 1) := by decide +kernel
theorem dX11_group_1 : decode cX11_group 1 = .ok (.iload_n 1, 1) := by decide +kernel
theorem dX11_group_2 : decode cX11_group 2 = .ok (.invokevirtual 297, 3) := by decide +kernel
theorem dX11_group_5 : decode cX11_group 5 = .ok (.ifCond .ne 9, 3) := by decide +kernel
theorem dX11_group_8 : decode cX11_group 8 = .ok (.aload_n 0, 1) := by decide +kernel
theorem dX11_group_9 : decode cX11_group 9 = .ok (.iconst (-1), 1) := by decide +kernel
theorem dX11_group_10 : decode cX11_group 10 = .ok (.invokevirtual 153, 3) := by decide +kernel
theorem dX11_group_13 : decode cX11_group 13 = .ok (.ireturn, 1) := by decide +kernel
set_option maxRecDepth 20000 in
theorem ggX11_borrowed_X11_isAgreement : GoodIn wsX11_borrowed wsX11_isAgreement := goodIn_r _ [10, 4, 11, 12, 9, 13, 36, 37, 38, 39, 40, 41, 42, 43, 44, 45, 46, 47, 48, 49, 50, 51, 52, 53, 54, 55, 56, 57, 58, 59, 60, 61, 62, 63, 64, 65, 66, 67, 68, 69, 70, 71, 72, 73, 74, 75, 76, 77, 78, 79, 80, 81, 82, 83, 84, 85, 86, 87, 88, 89, 90, 91, 92, 93, 94, 95, 96, 97, 98] (by decide +kernel) (by decide +kernel)
set_option maxRecDepth 20000 in
theorem gX11_borrowed_X11_isAgreement : GoodIn wsX11_borrowed (wsV RX11 199 RX11 yX11_isAgreement wsX11_isAgreement) := goodIn_app (goodIn_of _ (by decide +kernel)) ggX11_borrowed_X11_isAgreement
set_option maxRecDepth 20000 in
theorem ggX11_borrowed_X11_refuse : GoodIn wsX11_borrowed wsX11_refuse := goodIn_r _ [17, 18, 36, 37, 38, 39, 40, 41, 42, 43, 44, 45, 46, 47, 48, 49, 50, 51, 52, 53, 54, 55, 56, 57, 58, 59, 60, 61, 62, 63, 64, 65, 66, 67, 68, 69, 70, 71, 72, 73, 74, 75, 76, 77, 78, 79, 80, 81, 82, 83, 84, 85, 86, 87, 88, 89, 90, 91, 92, 93, 94, 95, 96, 97, 98] (by decide +kernel) (by decide +kernel)
set_option maxRecDepth 20000 in
theorem gX11_borrowed_X11_refuse : GoodIn wsX11_borrowed (wsV RX11 153 RX11 yX11_refuse wsX11_refuse) := goodIn_app (goodIn_of _ (by decide +kernel)) ggX11_borrowed_X11_refuse
theorem dX11_borrowed_0 : decode cX11_borrowed 0 = .ok (.aload_n 0, 1) := by decide +kernel
theorem dX11_borrowed_1 : decode cX11_borrowed 1 = .ok (.iload_n 1, 1) := by decide +kernel
theorem dX11_borrowed_2 : decode cX11_borrowed 2 = .ok (.invokevirtual 199, 3) := by decide +kernel
theorem dX11_borrowed_5 : decode cX11_borrowed 5 = .ok (.ifCond .ne 9, 3) := by decide +kernel
theorem dX11_borrowed_8 : decode cX11_borrowed 8 = .ok (.aload_n 0, 1) := by decide +kernel
theorem dX11_borrowed_9 : decode cX11_borrowed 9 = .ok (.iconst (-1), 1) := by decide +kernel
theorem dX11_borrowed_10 : decode cX11_borrowed 10 = .ok (.invokevirtual 153, 3) := by decide +kernel
theorem dX11_borrowed_13 : decode cX11_borrowed 13 = .ok (.ireturn, 1) := by decide +kernel
set_option maxRecDepth 20000 in
theorem ggX11_home_X11_isMan : GoodIn wsX11_home wsX11_isMan := goodIn_r _ [12, 13, 14, 15, 11, 16, 124, 125, 126, 127, 128, 129, 130, 131, 132, 133, 134, 135, 136, 137, 138, 139, 140, 141, 142, 143, 144, 145, 146, 147, 148, 149, 150, 151, 152, 153, 154, 155, 156, 157, 158, 159, 160, 161, 162, 163, 164, 165, 166, 167, 168, 169, 170, 171, 172, 173, 174, 175, 176, 177, 178, 179, 180, 181, 182, 183, 184, 185, 186] (by decide +kernel) (by decide +kernel)
set_option maxRecDepth 20000 in
theorem gX11_home_X11_isMan : GoodIn wsX11_home (wsV RX11 297 RX11 yX11_isMan wsX11_isMan) := goodIn_app (goodIn_of _ (by decide +kernel)) ggX11_home_X11_isMan
set_option maxRecDepth 20000 in
theorem ggX11_home_X11_refuse : GoodIn wsX11_home wsX11_refuse := goodIn_r _ [20, 21, 124, 125, 126, 127, 128, 129, 130, 131, 132, 133, 134, 135, 136, 137, 138, 139, 140, 141, 142, 143, 144, 145, 146, 147, 148, 149, 150, 151, 152, 153, 154, 155, 156, 157, 158, 159, 160, 161, 162, 163, 164, 165, 166, 167, 168, 169, 170, 171, 172, 173, 174, 175, 176, 177, 178, 179, 180, 181, 182, 183, 184, 185, 186] (by decide +kernel) (by decide +kernel)
set_option maxRecDepth 20000 in
theorem gX11_home_X11_refuse : GoodIn wsX11_home (wsV RX11 153 RX11 yX11_refuse wsX11_refuse) := goodIn_app (goodIn_of _ (by decide +kernel)) ggX11_home_X11_refuse
theorem dX11_home_0 : decode cX11_home 0 = .ok (.aload_n 0, 1) := by decide +kernel
theorem dX11_home_1 : decode cX11_home 1 = .ok (.iload_n 1, 1) := by decide +kernel
theorem dX11_home_2 : decode cX11_home 2 = .ok (.invokevirtual 297, 3) := by decide +kernel
theorem dX11_home_5 : decode cX11_home 5 = .ok (.ifCond .ne 9, 3) := by decide +kernel
theorem dX11_home_8 : decode cX11_home 8 = .ok (.aload_n 0, 1) := by decide +kernel
theorem dX11_home_9 : decode cX11_home 9 = .ok (.iconst (-1), 1) := by decide +kernel
theorem dX11_home_10 : decode cX11_home 10 = .ok (.invokevirtual 153, 3) := by decide +kernel
theorem dX11_home_13 : decode cX11_home 13 = .ok (.ireturn, 1) := by decide +kernel
set_option maxRecDepth 20000 in
theorem ggX11_ask_X11_isMan : GoodIn wsX11_ask wsX11_isMan := goodIn_r _ [6, 7, 8, 9, 5, 10, 16, 17, 18, 19, 20, 21, 22, 23, 24, 25, 26, 27, 28, 29, 30, 31, 32, 33, 34, 35, 36, 37, 38, 39, 40, 41, 42, 43, 44, 45, 46, 47, 48, 49, 50, 51, 52, 53, 54, 55, 56, 57, 58, 59, 60, 61, 62, 63, 64, 65, 66, 67, 68, 69, 70, 71, 72, 73, 74, 75, 76, 77, 78] (by decide +kernel) (by decide +kernel)
set_option maxRecDepth 20000 in
theorem gX11_ask_X11_isMan : GoodIn wsX11_ask (wsV RX11 297 RX11 yX11_isMan wsX11_isMan) := goodIn_app (goodIn_of _ (by decide +kernel)) ggX11_ask_X11_isMan
set_option maxRecDepth 20000 in
theorem ggX11_ask_X11_refuse : GoodIn wsX11_ask wsX11_refuse := goodIn_r _ [14, 15, 16, 17, 18, 19, 20, 21, 22, 23, 24, 25, 26, 27, 28, 29, 30, 31, 32, 33, 34, 35, 36, 37, 38, 39, 40, 41, 42, 43, 44, 45, 46, 47, 48, 49, 50, 51, 52, 53, 54, 55, 56, 57, 58, 59, 60, 61, 62, 63, 64, 65, 66, 67, 68, 69, 70, 71, 72, 73, 74, 75, 76, 77, 78] (by decide +kernel) (by decide +kernel)
set_option maxRecDepth 20000 in
theorem gX11_ask_X11_refuse : GoodIn wsX11_ask (wsV RX11 153 RX11 yX11_refuse wsX11_refuse) := goodIn_app (goodIn_of _ (by decide +kernel)) ggX11_ask_X11_refuse
theorem dX11_ask_0 : decode cX11_ask 0 = .ok (.aload_n 0, 1) := by decide +kernel
theorem dX11_ask_1 : decode cX11_ask 1 = .ok (.iload_n 1, 1) := by decide +kernel
theorem dX11_ask_2 : decode cX11_ask 2 = .ok (.invokevirtual 297, 3) := by decide +kernel
theorem dX11_ask_5 : decode cX11_ask 5 = .ok (.ifCond .ne 9, 3) := by decide +kernel
theorem dX11_ask_8 : decode cX11_ask 8 = .ok (.aload_n 0, 1) := by decide +kernel
theorem dX11_ask_9 : decode cX11_ask 9 = .ok (.iconst (-1), 1) := by decide +kernel
theorem dX11_ask_10 : decode cX11_ask 10 = .ok (.invokevirtual 153, 3) := by decide +kernel
theorem dX11_ask_13 : decode cX11_ask 13 = .ok (.ireturn, 1) := by decide +kernel
set_option maxRecDepth 20000 in
theorem ggX11_check_X11_isVoyage : GoodIn wsX11_check wsX11_isVoyage := goodIn_r _ [9, 10, 11, 12, 8, 13, 155, 156, 157, 158, 159, 160, 161, 162, 163, 164, 165, 166, 167, 168, 169, 170, 171, 172, 173, 174, 175, 176, 177, 178, 179, 180, 181, 182, 183, 184, 185, 186, 187, 188, 189, 190, 191, 192, 193, 194, 195, 196, 197, 198, 199, 200, 201, 202, 203, 204, 205, 206, 207, 208, 209, 210, 211, 212, 213, 214, 215, 216, 217] (by decide +kernel) (by decide +kernel)
set_option maxRecDepth 20000 in
theorem gX11_check_X11_isVoyage : GoodIn wsX11_check (wsV RX11 185 RX11 yX11_isVoyage wsX11_isVoyage) := goodIn_app (goodIn_of _ (by decide +kernel)) ggX11_check_X11_isVoyage
set_option maxRecDepth 20000 in
theorem ggX11_check_X11_refuse : GoodIn wsX11_check wsX11_refuse := goodIn_r _ [22, 23, 155, 156, 157, 158, 159, 160, 161, 162, 163, 164, 165, 166, 167, 168, 169, 170, 171, 172, 173, 174, 175, 176, 177, 178, 179, 180, 181, 182, 183, 184, 185, 186, 187, 188, 189, 190, 191, 192, 193, 194, 195, 196, 197, 198, 199, 200, 201, 202, 203, 204, 205, 206, 207, 208, 209, 210, 211, 212, 213, 214, 215, 216, 217] (by decide +kernel) (by decide +kernel)
set_option maxRecDepth 20000 in
theorem gX11_check_X11_refuse : GoodIn wsX11_check (wsV RX11 153 RX11 yX11_refuse wsX11_refuse) := goodIn_app (goodIn_of _ (by decide +kernel)) ggX11_check_X11_refuse
theorem dX11_check_0 : decode cX11_check 0 = .ok (.aload_n 0, 1) := by decide +kernel
theorem dX11_check_1 : decode cX11_check 1 = .ok (.iload_n 1, 1) := by decide +kernel
theorem dX11_check_2 : decode cX11_check 2 = .ok (.invokevirtual 185, 3) := by decide +kernel
theorem dX11_check_5 : decode cX11_check 5 = .ok (.ifCond .eq 12, 3) := by decide +kernel
theorem dX11_check_17 : decode cX11_check 17 = .ok (.iconst (-1), 1) := by decide +kernel
theorem dX11_check_18 : decode cX11_check 18 = .ok (.istore 4, 2) := by decide +kernel
theorem dX11_check_20 : decode cX11_check 20 = .ok (.iload 4, 2) := by decide +kernel
theorem dX11_check_22 : decode cX11_check 22 = .ok (.ifCond .eq 10, 3) := by decide +kernel
theorem dX11_check_25 : decode cX11_check 25 = .ok (.aload_n 0, 1) := by decide +kernel
theorem dX11_check_26 : decode cX11_check 26 = .ok (.iload 4, 2) := by decide +kernel
theorem dX11_check_28 : decode cX11_check 28 = .ok (.invokevirtual 153, 3) := by decide +kernel
theorem dX11_check_31 : decode cX11_check 31 = .ok (.ireturn, 1) := by decide +kernel
theorem in_wsX11_refuse_X11 : ∀ w ∈ wsX110, w ∈ wsX11_refuse := fun w h => List.mem_cons_of_mem _ (List.mem_append_right _ h)
theorem in_wsX11_isMan_X11 : ∀ w ∈ wsX110, w ∈ wsX11_isMan := fun w h => List.mem_cons_of_mem _ (List.mem_append_right _ h)
theorem in_wsX11_isVoyage_X11 : ∀ w ∈ wsX110, w ∈ wsX11_isVoyage := fun w h => List.mem_cons_of_mem _ (List.mem_append_right _ h)
theorem in_wsX11_isAgreement_X11 : ∀ w ∈ wsX110, w ∈ wsX11_isAgreement := fun w h => List.mem_cons_of_mem _ (List.mem_append_right _ h)
theorem isI_0 (v : Int32) : isI v 0 = 0 := by
  unfold isI
  split
  · rfl
  · rename_i h
    rw [if_pos (Int32.not_lt.mp h)]
theorem isI_z (v n : Int32) : narrow .boolean (.int (isI v n)) = .int (isI v n) := by
  unfold isI
  split
  · rfl
  · split <;> rfl
set_option maxHeartbeats 4000000 in
set_option maxRecDepth 100000 in
theorem c_X11_refuse (l : Launch) (dC : Nat → ClassId) (dI : Nat → Nat → Nat) (sz : Nat) (g0 : Nat) (pq : Nat → Nat) (cp : Nat → ClassId) (co : Int32) (hc : vp_in (-co) 7) : Met l yX11_refuse wsX11_refuse ({ frames := 0, cells := 0, slots := 0, locals := 0 }) (va_Pc [.ref g0, .int co] (pcW (dC, dI) [((cp 0), .int)] [(g0, .inr (11, mF pq)), ((pq 0), .inl ((cp 0), 7, .inl (fun _ => 0)))] sz)) (va_Qi (fun (r : Int32) (u : Unit) => r = co) (fun _ _ => True) (va_A [(g0, .inr (11, mF pq)), ((pq 0), .inl ((cp 0), 7, .inl (fun _ => 0)))] sz)) 0 0 (va_A [(g0, .inr (11, mF pq)), ((pq 0), .inl ((cp 0), 7, .inl (fun _ => 0)))] sz) := by
  refine Met.ofW (cc := cX11_refuse) (maxL := 2) (ret := (some .int)) (by decide) rfl ?_
  intro p e s m args below meth c s₁ B hml hv
  obtain ⟨rfl, hsz, hP, hK, hD0⟩ := hv
  have hx := B.exec
  have hb := B.bytes
  have hr := B.returns
  have hts := atoms_spec (ws := wsX11_refuse) B.pre
  have hown : s.vm.findClass RX11 = some m.cls := findClass_of_methodNamed B.named
  have hlocks := B.notSynchronized
  subst hsz
  have hD := hD0.self (sz := s.heap.size)
  generalize hAe : va_A [(g0, .inr (11, mF pq)), ((pq 0), .inl ((cp 0), 7, .inl (fun _ => 0)))] s.heap.size = A at hD ⊢
  have hA : ∀ q : Nat, s.heap.size ≤ q → A q := fun q h => by rw [← hAe]; exact Or.inr h
  have hS : va_S A s.heap s.heap [] := va_S.rf
  have hP : va_P (dC, dI) vwCl [(g0, .inr (11, mF pq)), ((pq 0), .inl ((cp 0), 7, .inl (fun _ => 0)))] s.heap := hP
  have hl := lv_entry ([.ref g0, .int co]) (n := 2) (Nat.le_of_ble_eq_true rfl)
  rw [lg_entry_eq]
  generalize (lg_sl ([.ref g0, .int co]) ++ List.replicate (2 - (lg_sl ([.ref g0, .int co])).length) Slot.unset).toArray = ls at hl ⊢
  have hl : lv_has ls 2 [(0, .ref g0), (1, .int co)] := hl
  refine lv_aload_n hx hb dX11_refuse_0 rfl (lv_at hl 0 rfl) ?_
  refine va_get (D := (dC, dI)) (ci := 11) (v := .ref (pq 0)) (C := RX11) (T := TX11) (N := 63) hx hb hts in_wsX11_refuse_X11 hown hK hP 0 rfl rfl 0 (by decide) (hts (.fieldLink RX11 7 "ShipOfficeModel" "refusals" "[I") (by decide +kernel)) (fun _ h9 => h9) rfl dX11_refuse_1 ?_
  refine lv_iload_n hx hb dX11_refuse_4 rfl (lv_at hl 1 rfl) ?_
  refine lv_ineg hx hb dX11_refuse_5 ?_
  refine lv_dup2_11 hx hb dX11_refuse_6 rfl rfl ?_
  refine va_iald hx hb hK hP 1 0 rfl rfl hc dX11_refuse_7 ?_
  refine W.eq (g2 := F0 m 8 ls [.int 0, .int (-co), .ref (pq 0)]) rfl ?_
  refine lv_iconst (v := 1) hx hb dX11_refuse_8 (by decide) ?_
  refine lv_iadd hx hb dX11_refuse_9 ?_
  refine lv_topi (fun y ey => ?_)
  obtain rfl : y = 1 := ey.trans (by decide)
  refine va_iast hx hb hK hP hD hS 1 0 rfl rfl hc dX11_refuse_10 (fun H locs hP hD hS => ?_)
  have hP : va_P (dC, dI) vwCl [(g0, .inr (11, mF pq)), ((pq 0), .inl ((cp 0), 7, .inl (upd (fun _ => 0) (-co : Int32).toNatClampNeg 1)))] H := hP
  have hD : va_D A [(g0, .inr (11, mF pq)), ((pq 0), .inl ((cp 0), 7, .inl (upd (fun _ => 0) (-co : Int32).toNatClampNeg 1)))] := hD
  refine lv_iload_n hx hb dX11_refuse_11 rfl (lv_at hl 1 rfl) ?_
  exact W.iret (v := co) hx hb hr (fun t ht hW => ⟨⟨co, (), rfl, rfl, trivial⟩, hS.F ht⟩) hS.2.2 dX11_refuse_12
set_option maxHeartbeats 4000000 in
set_option maxRecDepth 100000 in
theorem c_X11_refuseFar (l : Launch) (dC : Nat → ClassId) (dI : Nat → Nat → Nat) (sz : Nat) (g0 : Nat) (pq : Nat → Nat) (cp : Nat → ClassId) : Met l yX11_refuseFar wsX11_refuseFar ({ frames := 1, cells := 0, slots := 0, locals := 21 }) (va_Pc [.ref g0, .int (-1)] (pcW (dC, dI) [((cp 0), .int)] [(g0, .inr (11, mF pq)), ((pq 0), .inl ((cp 0), 7, .inl (fun _ => 0)))] sz)) (va_Qi (fun (r : Int32) (u : Unit) => r = 1000000001) (fun _ _ => True) (va_A [(g0, .inr (11, mF pq)), ((pq 0), .inl ((cp 0), 7, .inl (fun _ => 0)))] sz)) 0 0 (va_A [(g0, .inr (11, mF pq)), ((pq 0), .inl ((cp 0), 7, .inl (fun _ => 0)))] sz) := by
  refine Met.ofW (cc := cX11_refuseFar) (maxL := 2) (ret := (some .int)) (by decide) rfl ?_
  intro p e s m args below meth c s₁ B hml hv
  obtain ⟨rfl, hsz, hP, hK, hD0⟩ := hv
  have hx := B.exec
  have hb := B.bytes
  have hr := B.returns
  have hts := atoms_spec (ws := wsX11_refuseFar) B.pre
  have hown : s.vm.findClass RX11 = some m.cls := findClass_of_methodNamed B.named
  have hlocks := B.notSynchronized
  subst hsz
  have hD := hD0.self (sz := s.heap.size)
  generalize hAe : va_A [(g0, .inr (11, mF pq)), ((pq 0), .inl ((cp 0), 7, .inl (fun _ => 0)))] s.heap.size = A at hD ⊢
  have hA : ∀ q : Nat, s.heap.size ≤ q → A q := fun q h => by rw [← hAe]; exact Or.inr h
  have hS : va_S A s.heap s.heap [] := va_S.rf
  have hP : va_P (dC, dI) vwCl [(g0, .inr (11, mF pq)), ((pq 0), .inl ((cp 0), 7, .inl (fun _ => 0)))] s.heap := hP
  have hl := lv_entry ([.ref g0, .int (-1)]) (n := 2) (Nat.le_of_ble_eq_true rfl)
  rw [lg_entry_eq]
  generalize (lg_sl ([.ref g0, .int (-1)]) ++ List.replicate (2 - (lg_sl ([.ref g0, .int (-1)])).length) Slot.unset).toArray = ls at hl ⊢
  have hl : lv_has ls 2 [(0, .ref g0), (1, .int (-1))] := hl
  refine lv_ldc (v := 1000000000) hx hb hown (hts (.constant RX11 152 (1000000000)) (by decide +kernel)) dX11_refuseFar_0 ?_
  refine lv_aload_n hx hb dX11_refuseFar_2 rfl (lv_at hl 0 rfl) ?_
  refine lv_iload_n hx hb dX11_refuseFar_3 rfl (lv_at hl 1 rfl) ?_
  have hPc := hP.sub (ws' := [(g0, .inr (11, mF pq)), ((pq 0), .inl ((cp 0), 7, .inl (fun _ => 0)))]) [0, 1] rfl
  have hDc := hD.sub (ws' := [(g0, .inr (11, mF pq)), ((pq 0), .inl ((cp 0), 7, .inl (fun _ => 0)))]) [0, 1] (by decide) rfl
  have hKc := hK.sub (tys' := [((cp 0), .int)]) [0] rfl
  have hFc := va_free (wc := [(g0, .inr (11, mF pq)), ((pq 0), .inl ((cp 0), 7, .inl (fun _ => 0)))]) hD hS hA [0, 1] rfl
  refine va_calli (va_runV (As := [.int (-1)]) (rest := [.int 1000000000]) ⟨hx, hb, hml, hown, hts⟩ (c_X11_refuse l dC dI s.heap.size g0 pq cp (-1) (by unfold vp_in; decide)) (cwV 1 hts gX11_refuseFar_X11_refuse rfl rfl rfl (by decide +kernel) ⟨(Nat.le_of_ble_eq_true rfl), (Nat.le_of_ble_eq_true rfl)⟩) (pr_V (r := (RX11, TX11, 63)) hPc hKc hDc 0 11 rfl rfl) rfl rfl hl.1 rfl (lv_room (Nat.le_of_ble_eq_true rfl)) dX11_refuseFar_4 ⟨(Nat.le_of_ble_eq_true rfl), (Nat.le_of_ble_eq_true rfl)⟩) hS (fun q _ h => hFc q h) hFc (fun r_2 u t H locs ht hvm w_1 hB hz1 hk1 hS => ?_)
  subst w_1
  refine lv_isub hx hb dX11_refuseFar_7 ?_
  refine lv_topi (fun y ey => ?_)
  obtain rfl : y = 1000000001 := ey.trans (by decide)
  exact W.iret (v := 1000000001) hx hb hr (fun t ht hW => ⟨⟨1000000001, (), rfl, rfl, trivial⟩, hS.F ht⟩) hS.2.2 dX11_refuseFar_8
set_option maxHeartbeats 4000000 in
set_option maxRecDepth 100000 in
theorem c_X11_isIn (l : Launch) (dC : Nat → ClassId) (dI : Nat → Nat → Nat) (sz : Nat) (v n : Int32) : Met l yX11_isIn wsX11_isIn ({ frames := 0, cells := 0, slots := 0, locals := 0 }) (va_Pc [.int v, .int n] (pcW (dC, dI) [] [] sz)) (va_Qi (fun (r : Int32) (u : Unit) => r = isI v n) (fun _ _ => True) (va_A [] sz)) 0 0 (va_A [] sz) := by
  refine Met.ofW (cc := cX11_isIn) (maxL := 2) (ret := (some .boolean)) (by decide) rfl ?_
  intro p e s m args below meth c s₁ B hml hv
  obtain ⟨rfl, hsz, hP, hK, hD0⟩ := hv
  have hx := B.exec
  have hb := B.bytes
  have hr := B.returns
  have hts := atoms_spec (ws := wsX11_isIn) B.pre
  have hown : s.vm.findClass RX11 = some m.cls := findClass_of_methodNamed B.named
  have hlocks := B.notSynchronized
  subst hsz
  have hD := hD0
  generalize hAe : va_A [] s.heap.size = A at ⊢
  have hA : ∀ q : Nat, s.heap.size ≤ q → A q := fun q h => by rw [← hAe]; exact Or.inr h
  have hS : va_S A s.heap s.heap [] := va_S.rf
  have hP : va_P (dC, dI) vwCl [] s.heap := hP
  have hl := lv_entry ([.int v, .int n]) (n := 2) (Nat.le_of_ble_eq_true rfl)
  rw [lg_entry_eq]
  generalize (lg_sl ([.int v, .int n]) ++ List.replicate (2 - (lg_sl ([.int v, .int n])).length) Slot.unset).toArray = ls at hl ⊢
  have hl : lv_has ls 2 [(0, .int v), (1, .int n)] := hl
  refine lv_iload_n hx hb dX11_isIn_0 rfl (lv_at hl 0 rfl) ?_
  refine lv_if_lt (tgt := 13) hx hb dX11_isIn_1 (by decide) (fun c_1 => ?_) (fun c_1 => ?_)
  · refine lv_iconst (v := 0) hx hb dX11_isIn_13 (by decide) ?_
    exact W.zret (v := 0) hx hb hr rfl (fun t ht hW => ⟨⟨0, (), rfl, (by simp [isI, c_1]), trivial⟩, hS.F ht⟩) hS.2.2 dX11_isIn_14
  · refine lv_iload_n hx hb dX11_isIn_4 rfl (lv_at hl 0 rfl) ?_
    refine lv_iload_n hx hb dX11_isIn_5 rfl (lv_at hl 1 rfl) ?_
    refine lv_icmp_ge (tgt := 13) hx hb dX11_isIn_6 (by decide) (fun c_2 => ?_) (fun c_2 => ?_)
    · refine lv_iconst (v := 0) hx hb dX11_isIn_13 (by decide) ?_
      exact W.zret (v := 0) hx hb hr rfl (fun t ht hW => ⟨⟨0, (), rfl, (by simp [isI, c_1, c_2]), trivial⟩, hS.F ht⟩) hS.2.2 dX11_isIn_14
    · refine lv_iconst (v := 1) hx hb dX11_isIn_9 (by decide) ?_
      refine lv_goto (tgt := 14) hx hb dX11_isIn_10 (by decide) ?_
      exact W.zret (v := 1) hx hb hr rfl (fun t ht hW => ⟨⟨1, (), rfl, (by simp [isI, c_1, c_2]), trivial⟩, hS.F ht⟩) hS.2.2 dX11_isIn_14
set_option maxHeartbeats 4000000 in
set_option maxRecDepth 100000 in
theorem c_X11_isMan (l : Launch) (dC : Nat → ClassId) (dI : Nat → Nat → Nat) (sz : Nat) (g0 : Nat) (pq : Nat → Nat) (cp : Nat → ClassId) (n : Int32) : Met l yX11_isMan wsX11_isMan ({ frames := 1, cells := 0, slots := 0, locals := 21 }) (va_Pc [.ref g0, .int n] (pcW (dC, dI) [] [(g0, .inr (11, mF pq))] sz)) (va_Qi (fun (r : Int32) (u : Unit) => r = 0) (fun _ _ => True) (va_A [] sz)) 0 0 (va_A [] sz) := by
  refine Met.ofW (cc := cX11_isMan) (maxL := 2) (ret := (some .boolean)) (by decide) rfl ?_
  intro p e s m args below meth c s₁ B hml hv
  obtain ⟨rfl, hsz, hP, hK, hD0⟩ := hv
  have hx := B.exec
  have hb := B.bytes
  have hr := B.returns
  have hts := atoms_spec (ws := wsX11_isMan) B.pre
  have hown : s.vm.findClass RX11 = some m.cls := findClass_of_methodNamed B.named
  have hlocks := B.notSynchronized
  subst hsz
  have hD := hD0
  generalize hAe : va_A [] s.heap.size = A at ⊢
  have hA : ∀ q : Nat, s.heap.size ≤ q → A q := fun q h => by rw [← hAe]; exact Or.inr h
  have hS : va_S A s.heap s.heap [] := va_S.rf
  have hP : va_P (dC, dI) vwCl [(g0, .inr (11, mF pq))] s.heap := hP
  have hl := lv_entry ([.ref g0, .int n]) (n := 2) (Nat.le_of_ble_eq_true rfl)
  rw [lg_entry_eq]
  generalize (lg_sl ([.ref g0, .int n]) ++ List.replicate (2 - (lg_sl ([.ref g0, .int n])).length) Slot.unset).toArray = ls at hl ⊢
  have hl : lv_has ls 2 [(0, .ref g0), (1, .int n)] := hl
  refine lv_iload_n hx hb dX11_isMan_0 rfl (lv_at hl 1 rfl) ?_
  refine lv_aload_n hx hb dX11_isMan_1 rfl (lv_at hl 0 rfl) ?_
  refine va_get (D := (dC, dI)) (ci := 11) (v := .int 0) (C := RX11) (T := TX11) (N := 63) hx hb hts in_wsX11_isMan_X11 hown hK hP 0 rfl rfl 39 (by decide) (hts (.fieldLink RX11 157 "ShipOfficeModel" "men" "I") (by decide +kernel)) (fun _ h9 => h9) rfl dX11_isMan_2 ?_
  have hPc := hP.sub (ws' := []) [] rfl
  have hDc := hD.sub (ws' := []) [] (by decide) rfl
  have hKc := hK.sub (tys' := []) [] rfl
  have hFc : ∀ q, va_A [] s.heap.size q → A q := pu_free hS hA
  refine va_calli (va_runS (As := [.int n, .int 0]) (rest := []) ⟨hx, hb, hml, hown, hts⟩ (c_X11_isIn l dC dI s.heap.size n 0) (va_cwS 2 hts gX11_isMan_X11_isIn rfl rfl rfl (by decide +kernel) ⟨(Nat.le_of_ble_eq_true rfl), (Nat.le_of_ble_eq_true rfl)⟩) (pr_S hPc hKc hDc) rfl rfl hl.1 rfl (lv_room (Nat.le_of_ble_eq_true rfl)) dX11_isMan_5 ⟨(Nat.le_of_ble_eq_true rfl), (Nat.le_of_ble_eq_true rfl)⟩) hS (fun q _ h => hFc q h) hFc (fun r_2 u t H locs ht hvm w_1 hB hz1 hk1 hS => ?_)
  have hP := pu_keep hP hk1
  clear hk1 hz1 hvm hB hPc hDc hKc hFc ht
  obtain rfl : r_2 = 0 := w_1.trans (isI_0 _)
  exact W.zret (v := 0) hx hb hr rfl (fun t ht hW => ⟨⟨0, (), rfl, rfl, trivial⟩, hS.F ht⟩) hS.2.2 dX11_isMan_8
set_option maxHeartbeats 4000000 in
set_option maxRecDepth 100000 in
theorem c_X11_isVoyage (l : Launch) (dC : Nat → ClassId) (dI : Nat → Nat → Nat) (sz : Nat) (g0 : Nat) (pq : Nat → Nat) (cp : Nat → ClassId) (n : Int32) : Met l yX11_isVoyage wsX11_isVoyage ({ frames := 1, cells := 0, slots := 0, locals := 21 }) (va_Pc [.ref g0, .int n] (pcW (dC, dI) [] [(g0, .inr (11, mF pq))] sz)) (va_Qi (fun (r : Int32) (u : Unit) => r = 0) (fun _ _ => True) (va_A [] sz)) 0 0 (va_A [] sz) := by
  refine Met.ofW (cc := cX11_isVoyage) (maxL := 2) (ret := (some .boolean)) (by decide) rfl ?_
  intro p e s m args below meth c s₁ B hml hv
  obtain ⟨rfl, hsz, hP, hK, hD0⟩ := hv
  have hx := B.exec
  have hb := B.bytes
  have hr := B.returns
  have hts := atoms_spec (ws := wsX11_isVoyage) B.pre
  have hown : s.vm.findClass RX11 = some m.cls := findClass_of_methodNamed B.named
  have hlocks := B.notSynchronized
  subst hsz
  have hD := hD0
  generalize hAe : va_A [] s.heap.size = A at ⊢
  have hA : ∀ q : Nat, s.heap.size ≤ q → A q := fun q h => by rw [← hAe]; exact Or.inr h
  have hS : va_S A s.heap s.heap [] := va_S.rf
  have hP : va_P (dC, dI) vwCl [(g0, .inr (11, mF pq))] s.heap := hP
  have hl := lv_entry ([.ref g0, .int n]) (n := 2) (Nat.le_of_ble_eq_true rfl)
  rw [lg_entry_eq]
  generalize (lg_sl ([.ref g0, .int n]) ++ List.replicate (2 - (lg_sl ([.ref g0, .int n])).length) Slot.unset).toArray = ls at hl ⊢
  have hl : lv_has ls 2 [(0, .ref g0), (1, .int n)] := hl
  refine lv_iload_n hx hb dX11_isVoyage_0 rfl (lv_at hl 1 rfl) ?_
  refine lv_aload_n hx hb dX11_isVoyage_1 rfl (lv_at hl 0 rfl) ?_
  refine va_get (D := (dC, dI)) (ci := 11) (v := .int 0) (C := RX11) (T := TX11) (N := 63) hx hb hts in_wsX11_isVoyage_X11 hown hK hP 0 rfl rfl 40 (by decide) (hts (.fieldLink RX11 165 "ShipOfficeModel" "voyages" "I") (by decide +kernel)) (fun _ h9 => h9) rfl dX11_isVoyage_2 ?_
  have hPc := hP.sub (ws' := []) [] rfl
  have hDc := hD.sub (ws' := []) [] (by decide) rfl
  have hKc := hK.sub (tys' := []) [] rfl
  have hFc : ∀ q, va_A [] s.heap.size q → A q := pu_free hS hA
  refine va_calli (va_runS (As := [.int n, .int 0]) (rest := []) ⟨hx, hb, hml, hown, hts⟩ (c_X11_isIn l dC dI s.heap.size n 0) (va_cwS 2 hts gX11_isVoyage_X11_isIn rfl rfl rfl (by decide +kernel) ⟨(Nat.le_of_ble_eq_true rfl), (Nat.le_of_ble_eq_true rfl)⟩) (pr_S hPc hKc hDc) rfl rfl hl.1 rfl (lv_room (Nat.le_of_ble_eq_true rfl)) dX11_isVoyage_5 ⟨(Nat.le_of_ble_eq_true rfl), (Nat.le_of_ble_eq_true rfl)⟩) hS (fun q _ h => hFc q h) hFc (fun r_2 u t H locs ht hvm w_1 hB hz1 hk1 hS => ?_)
  have hP := pu_keep hP hk1
  clear hk1 hz1 hvm hB hPc hDc hKc hFc ht
  obtain rfl : r_2 = 0 := w_1.trans (isI_0 _)
  exact W.zret (v := 0) hx hb hr rfl (fun t ht hW => ⟨⟨0, (), rfl, rfl, trivial⟩, hS.F ht⟩) hS.2.2 dX11_isVoyage_8
set_option maxHeartbeats 4000000 in
set_option maxRecDepth 100000 in
theorem c_X11_isAgreement (l : Launch) (dC : Nat → ClassId) (dI : Nat → Nat → Nat) (sz : Nat) (g0 : Nat) (pq : Nat → Nat) (cp : Nat → ClassId) (n : Int32) : Met l yX11_isAgreement wsX11_isAgreement ({ frames := 1, cells := 0, slots := 0, locals := 21 }) (va_Pc [.ref g0, .int n] (pcW (dC, dI) [] [(g0, .inr (11, mF pq))] sz)) (va_Qi (fun (r : Int32) (u : Unit) => r = 0) (fun _ _ => True) (va_A [] sz)) 0 0 (va_A [] sz) := by
  refine Met.ofW (cc := cX11_isAgreement) (maxL := 2) (ret := (some .boolean)) (by decide) rfl ?_
  intro p e s m args below meth c s₁ B hml hv
  obtain ⟨rfl, hsz, hP, hK, hD0⟩ := hv
  have hx := B.exec
  have hb := B.bytes
  have hr := B.returns
  have hts := atoms_spec (ws := wsX11_isAgreement) B.pre
  have hown : s.vm.findClass RX11 = some m.cls := findClass_of_methodNamed B.named
  have hlocks := B.notSynchronized
  subst hsz
  have hD := hD0
  generalize hAe : va_A [] s.heap.size = A at ⊢
  have hA : ∀ q : Nat, s.heap.size ≤ q → A q := fun q h => by rw [← hAe]; exact Or.inr h
  have hS : va_S A s.heap s.heap [] := va_S.rf
  have hP : va_P (dC, dI) vwCl [(g0, .inr (11, mF pq))] s.heap := hP
  have hl := lv_entry ([.ref g0, .int n]) (n := 2) (Nat.le_of_ble_eq_true rfl)
  rw [lg_entry_eq]
  generalize (lg_sl ([.ref g0, .int n]) ++ List.replicate (2 - (lg_sl ([.ref g0, .int n])).length) Slot.unset).toArray = ls at hl ⊢
  have hl : lv_has ls 2 [(0, .ref g0), (1, .int n)] := hl
  refine lv_iload_n hx hb dX11_isAgreement_0 rfl (lv_at hl 1 rfl) ?_
  refine lv_aload_n hx hb dX11_isAgreement_1 rfl (lv_at hl 0 rfl) ?_
  refine va_get (D := (dC, dI)) (ci := 11) (v := .int 0) (C := RX11) (T := TX11) (N := 63) hx hb hts in_wsX11_isAgreement_X11 hown hK hP 0 rfl rfl 43 (by decide) (hts (.fieldLink RX11 168 "ShipOfficeModel" "agreements" "I") (by decide +kernel)) (fun _ h9 => h9) rfl dX11_isAgreement_2 ?_
  have hPc := hP.sub (ws' := []) [] rfl
  have hDc := hD.sub (ws' := []) [] (by decide) rfl
  have hKc := hK.sub (tys' := []) [] rfl
  have hFc : ∀ q, va_A [] s.heap.size q → A q := pu_free hS hA
  refine va_calli (va_runS (As := [.int n, .int 0]) (rest := []) ⟨hx, hb, hml, hown, hts⟩ (c_X11_isIn l dC dI s.heap.size n 0) (va_cwS 2 hts gX11_isAgreement_X11_isIn rfl rfl rfl (by decide +kernel) ⟨(Nat.le_of_ble_eq_true rfl), (Nat.le_of_ble_eq_true rfl)⟩) (pr_S hPc hKc hDc) rfl rfl hl.1 rfl (lv_room (Nat.le_of_ble_eq_true rfl)) dX11_isAgreement_5 ⟨(Nat.le_of_ble_eq_true rfl), (Nat.le_of_ble_eq_true rfl)⟩) hS (fun q _ h => hFc q h) hFc (fun r_2 u t H locs ht hvm w_1 hB hz1 hk1 hS => ?_)
  have hP := pu_keep hP hk1
  clear hk1 hz1 hvm hB hPc hDc hKc hFc ht
  obtain rfl : r_2 = 0 := w_1.trans (isI_0 _)
  exact W.zret (v := 0) hx hb hr rfl (fun t ht hW => ⟨⟨0, (), rfl, rfl, trivial⟩, hS.F ht⟩) hS.2.2 dX11_isAgreement_8
set_option maxHeartbeats 4000000 in
set_option maxRecDepth 100000 in
theorem c_X11_isPort (l : Launch) (dC : Nat → ClassId) (dI : Nat → Nat → Nat) (sz : Nat) (n : Int32) : Met l yX11_isPort wsX11_isPort ({ frames := 1, cells := 0, slots := 0, locals := 21 }) (va_Pc [.int n] (pcW (dC, dI) [] [] sz)) (va_Qi (fun (r : Int32) (u : Unit) => r = isI n 10) (fun _ _ => True) (va_A [] sz)) 0 0 (va_A [] sz) := by
  refine Met.ofW (cc := cX11_isPort) (maxL := 1) (ret := (some .boolean)) (by decide) rfl ?_
  intro p e s m args below meth c s₁ B hml hv
  obtain ⟨rfl, hsz, hP, hK, hD0⟩ := hv
  have hx := B.exec
  have hb := B.bytes
  have hr := B.returns
  have hts := atoms_spec (ws := wsX11_isPort) B.pre
  have hown : s.vm.findClass RX11 = some m.cls := findClass_of_methodNamed B.named
  have hlocks := B.notSynchronized
  subst hsz
  have hD := hD0
  generalize hAe : va_A [] s.heap.size = A at ⊢
  have hA : ∀ q : Nat, s.heap.size ≤ q → A q := fun q h => by rw [← hAe]; exact Or.inr h
  have hS : va_S A s.heap s.heap [] := va_S.rf
  have hP : va_P (dC, dI) vwCl [] s.heap := hP
  have hl := lv_entry ([.int n]) (n := 1) (Nat.le_of_ble_eq_true rfl)
  rw [lg_entry_eq]
  generalize (lg_sl ([.int n]) ++ List.replicate (1 - (lg_sl ([.int n])).length) Slot.unset).toArray = ls at hl ⊢
  have hl : lv_has ls 1 [(0, .int n)] := hl
  refine lv_iload_n hx hb dX11_isPort_0 rfl (lv_at hl 0 rfl) ?_
  refine lv_bipush (v := 10) hx hb dX11_isPort_1 (by decide) ?_
  have hPc := hP.sub (ws' := []) [] rfl
  have hDc := hD.sub (ws' := []) [] (by decide) rfl
  have hKc := hK.sub (tys' := []) [] rfl
  have hFc : ∀ q, va_A [] s.heap.size q → A q := pu_free hS hA
  refine va_calli (va_runS (As := [.int n, .int 10]) (rest := []) ⟨hx, hb, hml, hown, hts⟩ (c_X11_isIn l dC dI s.heap.size n 10) (va_cwS 2 hts gX11_isPort_X11_isIn rfl rfl rfl (by decide +kernel) ⟨(Nat.le_of_ble_eq_true rfl), (Nat.le_of_ble_eq_true rfl)⟩) (pr_S hPc hKc hDc) rfl rfl hl.1 rfl (lv_room (Nat.le_of_ble_eq_true rfl)) dX11_isPort_3 ⟨(Nat.le_of_ble_eq_true rfl), (Nat.le_of_ble_eq_true rfl)⟩) hS (fun q _ h => hFc q h) hFc (fun r_2 u t H locs ht hvm w_1 hB hz1 hk1 hS => ?_)
  have hP := pu_keep hP hk1
  clear hk1 hz1 hvm hB hPc hDc hKc hFc ht
  subst w_1
  exact W.zret (v := (isI n 10)) hx hb hr (isI_z _ _) (fun t ht hW => ⟨⟨(isI n 10), (), rfl, rfl, trivial⟩, hS.F ht⟩) hS.2.2 dX11_isPort_6
set_option maxHeartbeats 4000000 in
set_option maxRecDepth 100000 in
theorem c_X11_isFine (l : Launch) (dC : Nat → ClassId) (dI : Nat → Nat → Nat) (sz : Nat) (g0 : Nat) (pq : Nat → Nat) (cp : Nat → ClassId) (n i : Int32) : Met l yX11_isFine wsX11_isFine ({ frames := 2, cells := 0, slots := 0, locals := 42 }) (va_Pc [.ref g0, .int n, .int i] (pcW (dC, dI) [] [(g0, .inr (11, mF pq))] sz)) (va_Qi (fun (r : Int32) (u : Unit) => r = 0) (fun _ _ => True) (va_A [] sz)) 0 0 (va_A [] sz) := by
  refine Met.ofW (cc := cX11_isFine) (maxL := 3) (ret := (some .boolean)) (by decide) rfl ?_
  intro p e s m args below meth c s₁ B hml hv
  obtain ⟨rfl, hsz, hP, hK, hD0⟩ := hv
  have hx := B.exec
  have hb := B.bytes
  have hr := B.returns
  have hts := atoms_spec (ws := wsX11_isFine) B.pre
  have hown : s.vm.findClass RX11 = some m.cls := findClass_of_methodNamed B.named
  have hlocks := B.notSynchronized
  subst hsz
  have hD := hD0
  generalize hAe : va_A [] s.heap.size = A at ⊢
  have hA : ∀ q : Nat, s.heap.size ≤ q → A q := fun q h => by rw [← hAe]; exact Or.inr h
  have hS : va_S A s.heap s.heap [] := va_S.rf
  have hP : va_P (dC, dI) vwCl [(g0, .inr (11, mF pq))] s.heap := hP
  have hl := lv_entry ([.ref g0, .int n, .int i]) (n := 3) (Nat.le_of_ble_eq_true rfl)
  rw [lg_entry_eq]
  generalize (lg_sl ([.ref g0, .int n, .int i]) ++ List.replicate (3 - (lg_sl ([.ref g0, .int n, .int i])).length) Slot.unset).toArray = ls at hl ⊢
  have hl : lv_has ls 3 [(0, .ref g0), (1, .int n), (2, .int i)] := hl
  refine lv_aload_n hx hb dX11_isFine_0 rfl (lv_at hl 0 rfl) ?_
  refine lv_iload_n hx hb dX11_isFine_1 rfl (lv_at hl 1 rfl) ?_
  have hPc := hP.sub (ws' := [(g0, .inr (11, mF pq))]) [0] rfl
  have hDc := hD.sub (ws' := [(g0, .inr (11, mF pq))]) [0] (by decide) rfl
  have hKc := hK.sub (tys' := []) [] rfl
  have hFc : ∀ q, va_A [] s.heap.size q → A q := pu_free hS hA
  refine va_calli (va_runV (As := [.int n]) (rest := []) ⟨hx, hb, hml, hown, hts⟩ (c_X11_isAgreement l dC dI s.heap.size g0 pq cp n) (cwV 1 hts gX11_isFine_X11_isAgreement rfl rfl rfl (by decide +kernel) ⟨(Nat.le_of_ble_eq_true rfl), (Nat.le_of_ble_eq_true rfl)⟩) (pr_V (r := (RX11, TX11, 63)) hPc hKc hDc 0 11 rfl rfl) rfl rfl hl.1 rfl (lv_room (Nat.le_of_ble_eq_true rfl)) dX11_isFine_2 ⟨(Nat.le_of_ble_eq_true rfl), (Nat.le_of_ble_eq_true rfl)⟩) hS (fun q _ h => hFc q h) hFc (fun r_2 u t H locs ht hvm w_1 hB hz1 hk1 hS => ?_)
  have hP := pu_keep hP hk1
  clear hk1 hz1 hvm hB hPc hDc hKc hFc ht
  subst w_1
  refine lv_if_eq (tgt := 25) hx hb dX11_isFine_5 (by decide) (fun _ => ?_) (fun c_3 => absurd c_3 (by decide))
  refine lv_iconst (v := 0) hx hb dX11_isFine_25 (by decide) ?_
  exact W.zret (v := 0) hx hb hr rfl (fun t ht hW => ⟨⟨0, (), rfl, rfl, trivial⟩, hS.F ht⟩) hS.2.2 dX11_isFine_26
set_option maxHeartbeats 4000000 in
set_option maxRecDepth 100000 in
theorem c_X11_happensTo (l : Launch) (dC : Nat → ClassId) (dI : Nat → Nat → Nat) (sz : Nat) (g0 : Nat) (pq : Nat → Nat) (cp : Nat → ClassId) (a1 : Int32) (a2 : Int32) (a3 : Int32) : Met l yX11_happensTo wsX11_happensTo ({ frames := 2, cells := 0, slots := 0, locals := 42 }) (va_Pc [.ref g0, .int a1, .int a2, .int a3] (pcW (dC, dI) [((cp 0), .int)] [(g0, .inr (11, mF pq)), ((pq 0), .inl ((cp 0), 7, .inl (fun _ => 0)))] sz)) (va_Qi (fun (r : Int32) (u : Unit) => r = (-1)) (fun _ _ => True) (va_A [(g0, .inr (11, mF pq)), ((pq 0), .inl ((cp 0), 7, .inl (fun _ => 0)))] sz)) 0 0 (va_A [(g0, .inr (11, mF pq)), ((pq 0), .inl ((cp 0), 7, .inl (fun _ => 0)))] sz) := by
  refine Met.ofW (cc := cX11_happensTo) (maxL := 4) (ret := (some .int)) (by decide) rfl ?_
  intro p e s m args below meth c s₁ B hml hv
  obtain ⟨rfl, hsz, hP, hK, hD0⟩ := hv
  have hx := B.exec
  have hb := B.bytes
  have hr := B.returns
  have hts := atoms_spec (ws := wsX11_happensTo) B.pre
  have hown : s.vm.findClass RX11 = some m.cls := findClass_of_methodNamed B.named
  have hlocks := B.notSynchronized
  subst hsz
  have hD := hD0.self (sz := s.heap.size)
  generalize hAe : va_A [(g0, .inr (11, mF pq)), ((pq 0), .inl ((cp 0), 7, .inl (fun _ => 0)))] s.heap.size = A at hD ⊢
  have hA : ∀ q : Nat, s.heap.size ≤ q → A q := fun q h => by rw [← hAe]; exact Or.inr h
  have hS : va_S A s.heap s.heap [] := va_S.rf
  have hP : va_P (dC, dI) vwCl [(g0, .inr (11, mF pq)), ((pq 0), .inl ((cp 0), 7, .inl (fun _ => 0)))] s.heap := hP
  have hl := lv_entry ([.ref g0, .int a1, .int a2, .int a3]) (n := 4) (Nat.le_of_ble_eq_true rfl)
  rw [lg_entry_eq]
  generalize (lg_sl ([.ref g0, .int a1, .int a2, .int a3]) ++ List.replicate (4 - (lg_sl ([.ref g0, .int a1, .int a2, .int a3])).length) Slot.unset).toArray = ls at hl ⊢
  have hl : lv_has ls 4 [(0, .ref g0), (1, .int a1), (2, .int a2), (3, .int a3)] := hl
  refine lv_aload_n hx hb dX11_happensTo_0 rfl (lv_at hl 0 rfl) ?_
  refine lv_iload_n hx hb dX11_happensTo_1 rfl (lv_at hl 2 rfl) ?_
  have hPc := hP.sub (ws' := [(g0, .inr (11, mF pq))]) [0] rfl
  have hDc := hD.sub (ws' := [(g0, .inr (11, mF pq))]) [0] (by decide) rfl
  have hKc := hK.sub (tys' := []) [] rfl
  have hFc : ∀ q, va_A [] s.heap.size q → A q := pu_free hS hA
  refine va_calli (va_runV (As := [.int a2]) (rest := []) ⟨hx, hb, hml, hown, hts⟩ (c_X11_isVoyage l dC dI s.heap.size g0 pq cp a2) (cwV 1 hts gX11_happensTo_X11_isVoyage rfl rfl rfl (by decide +kernel) ⟨(Nat.le_of_ble_eq_true rfl), (Nat.le_of_ble_eq_true rfl)⟩) (pr_V (r := (RX11, TX11, 63)) hPc hKc hDc 0 11 rfl rfl) rfl rfl hl.1 rfl (lv_room (Nat.le_of_ble_eq_true rfl)) dX11_happensTo_2 ⟨(Nat.le_of_ble_eq_true rfl), (Nat.le_of_ble_eq_true rfl)⟩) hS (fun q _ h => hFc q h) hFc (fun r_2 u t H locs ht hvm w_1 hB hz1 hk1 hS => ?_)
  have hP := pu_keep hP hk1
  clear hk1 hz1 hvm hB hPc hDc hKc hFc ht
  subst w_1
  refine lv_if_ne (tgt := 14) hx hb dX11_happensTo_5 (by decide) (fun c_3 => absurd c_3 (by decide)) (fun _ => ?_)
  refine lv_aload_n hx hb dX11_happensTo_8 rfl (lv_at hl 0 rfl) ?_
  refine lv_iconst (v := (-1)) hx hb dX11_happensTo_9 (by decide) ?_
  have hPc := hP.sub (ws' := [(g0, .inr (11, mF pq)), ((pq 0), .inl ((cp 0), 7, .inl (fun _ => 0)))]) [0, 1] rfl
  have hDc := hD.sub (ws' := [(g0, .inr (11, mF pq)), ((pq 0), .inl ((cp 0), 7, .inl (fun _ => 0)))]) [0, 1] (by decide) rfl
  have hKc := hK.sub (tys' := [((cp 0), .int)]) [0] rfl
  have hFc := va_free (wc := [(g0, .inr (11, mF pq)), ((pq 0), .inl ((cp 0), 7, .inl (fun _ => 0)))]) hD hS hA [0, 1] rfl
  refine va_calli (va_runV (As := [.int (-1)]) (rest := []) ⟨hx, hb, hml, hown, hts⟩ (c_X11_refuse l dC dI H.size g0 pq cp (-1) (by unfold vp_in; decide)) (cwV 1 hts gX11_happensTo_X11_refuse rfl rfl rfl (by decide +kernel) ⟨(Nat.le_of_ble_eq_true rfl), (Nat.le_of_ble_eq_true rfl)⟩) (pr_V (r := (RX11, TX11, 63)) hPc hKc hDc 0 11 rfl rfl) rfl rfl hl.1 rfl (lv_room (Nat.le_of_ble_eq_true rfl)) dX11_happensTo_10 ⟨(Nat.le_of_ble_eq_true rfl), (Nat.le_of_ble_eq_true rfl)⟩) hS (fun q _ h => hFc q h) hFc (fun r_5 u t H locs ht hvm w_4 hB hz1 hk1 hS => ?_)
  subst w_4
  exact W.iret (v := (-1)) hx hb hr (fun t ht hW => ⟨⟨(-1), (), rfl, rfl, trivial⟩, hS.F ht⟩) hS.2.2 dX11_happensTo_13
set_option maxHeartbeats 4000000 in
set_option maxRecDepth 100000 in
theorem c_X11_happensOf (l : Launch) (dC : Nat → ClassId) (dI : Nat → Nat → Nat) (sz : Nat) (g0 : Nat) (pq : Nat → Nat) (cp : Nat → ClassId) (a1 : Int32) (a2 : Int32) (a3 : Int32) : Met l yX11_happensOf wsX11_happensOf ({ frames := 2, cells := 0, slots := 0, locals := 42 }) (va_Pc [.ref g0, .int a1, .int a2, .int a3] (pcW (dC, dI) [((cp 0), .int)] [(g0, .inr (11, mF pq)), ((pq 0), .inl ((cp 0), 7, .inl (fun _ => 0)))] sz)) (va_Qi (fun (r : Int32) (u : Unit) => r = (-1)) (fun _ _ => True) (va_A [(g0, .inr (11, mF pq)), ((pq 0), .inl ((cp 0), 7, .inl (fun _ => 0)))] sz)) 0 0 (va_A [(g0, .inr (11, mF pq)), ((pq 0), .inl ((cp 0), 7, .inl (fun _ => 0)))] sz) := by
  refine Met.ofW (cc := cX11_happensOf) (maxL := 4) (ret := (some .int)) (by decide) rfl ?_
  intro p e s m args below meth c s₁ B hml hv
  obtain ⟨rfl, hsz, hP, hK, hD0⟩ := hv
  have hx := B.exec
  have hb := B.bytes
  have hr := B.returns
  have hts := atoms_spec (ws := wsX11_happensOf) B.pre
  have hown : s.vm.findClass RX11 = some m.cls := findClass_of_methodNamed B.named
  have hlocks := B.notSynchronized
  subst hsz
  have hD := hD0.self (sz := s.heap.size)
  generalize hAe : va_A [(g0, .inr (11, mF pq)), ((pq 0), .inl ((cp 0), 7, .inl (fun _ => 0)))] s.heap.size = A at hD ⊢
  have hA : ∀ q : Nat, s.heap.size ≤ q → A q := fun q h => by rw [← hAe]; exact Or.inr h
  have hS : va_S A s.heap s.heap [] := va_S.rf
  have hP : va_P (dC, dI) vwCl [(g0, .inr (11, mF pq)), ((pq 0), .inl ((cp 0), 7, .inl (fun _ => 0)))] s.heap := hP
  have hl := lv_entry ([.ref g0, .int a1, .int a2, .int a3]) (n := 4) (Nat.le_of_ble_eq_true rfl)
  rw [lg_entry_eq]
  generalize (lg_sl ([.ref g0, .int a1, .int a2, .int a3]) ++ List.replicate (4 - (lg_sl ([.ref g0, .int a1, .int a2, .int a3])).length) Slot.unset).toArray = ls at hl ⊢
  have hl : lv_has ls 4 [(0, .ref g0), (1, .int a1), (2, .int a2), (3, .int a3)] := hl
  refine lv_aload_n hx hb dX11_happensOf_0 rfl (lv_at hl 0 rfl) ?_
  refine lv_iload_n hx hb dX11_happensOf_1 rfl (lv_at hl 2 rfl) ?_
  have hPc := hP.sub (ws' := [(g0, .inr (11, mF pq))]) [0] rfl
  have hDc := hD.sub (ws' := [(g0, .inr (11, mF pq))]) [0] (by decide) rfl
  have hKc := hK.sub (tys' := []) [] rfl
  have hFc : ∀ q, va_A [] s.heap.size q → A q := pu_free hS hA
  refine va_calli (va_runV (As := [.int a2]) (rest := []) ⟨hx, hb, hml, hown, hts⟩ (c_X11_isAgreement l dC dI s.heap.size g0 pq cp a2) (cwV 1 hts gX11_happensOf_X11_isAgreement rfl rfl rfl (by decide +kernel) ⟨(Nat.le_of_ble_eq_true rfl), (Nat.le_of_ble_eq_true rfl)⟩) (pr_V (r := (RX11, TX11, 63)) hPc hKc hDc 0 11 rfl rfl) rfl rfl hl.1 rfl (lv_room (Nat.le_of_ble_eq_true rfl)) dX11_happensOf_2 ⟨(Nat.le_of_ble_eq_true rfl), (Nat.le_of_ble_eq_true rfl)⟩) hS (fun q _ h => hFc q h) hFc (fun r_2 u t H locs ht hvm w_1 hB hz1 hk1 hS => ?_)
  have hP := pu_keep hP hk1
  clear hk1 hz1 hvm hB hPc hDc hKc hFc ht
  subst w_1
  refine lv_if_ne (tgt := 14) hx hb dX11_happensOf_5 (by decide) (fun c_3 => absurd c_3 (by decide)) (fun _ => ?_)
  refine lv_aload_n hx hb dX11_happensOf_8 rfl (lv_at hl 0 rfl) ?_
  refine lv_iconst (v := (-1)) hx hb dX11_happensOf_9 (by decide) ?_
  have hPc := hP.sub (ws' := [(g0, .inr (11, mF pq)), ((pq 0), .inl ((cp 0), 7, .inl (fun _ => 0)))]) [0, 1] rfl
  have hDc := hD.sub (ws' := [(g0, .inr (11, mF pq)), ((pq 0), .inl ((cp 0), 7, .inl (fun _ => 0)))]) [0, 1] (by decide) rfl
  have hKc := hK.sub (tys' := [((cp 0), .int)]) [0] rfl
  have hFc := va_free (wc := [(g0, .inr (11, mF pq)), ((pq 0), .inl ((cp 0), 7, .inl (fun _ => 0)))]) hD hS hA [0, 1] rfl
  refine va_calli (va_runV (As := [.int (-1)]) (rest := []) ⟨hx, hb, hml, hown, hts⟩ (c_X11_refuse l dC dI H.size g0 pq cp (-1) (by unfold vp_in; decide)) (cwV 1 hts gX11_happensOf_X11_refuse rfl rfl rfl (by decide +kernel) ⟨(Nat.le_of_ble_eq_true rfl), (Nat.le_of_ble_eq_true rfl)⟩) (pr_V (r := (RX11, TX11, 63)) hPc hKc hDc 0 11 rfl rfl) rfl rfl hl.1 rfl (lv_room (Nat.le_of_ble_eq_true rfl)) dX11_happensOf_10 ⟨(Nat.le_of_ble_eq_true rfl), (Nat.le_of_ble_eq_true rfl)⟩) hS (fun q _ h => hFc q h) hFc (fun r_5 u t H locs ht hvm w_4 hB hz1 hk1 hS => ?_)
  subst w_4
  exact W.iret (v := (-1)) hx hb hr (fun t ht hW => ⟨⟨(-1), (), rfl, rfl, trivial⟩, hS.F ht⟩) hS.2.2 dX11_happensOf_13
set_option maxHeartbeats 4000000 in
set_option maxRecDepth 100000 in
theorem c_X11_ended (l : Launch) (dC : Nat → ClassId) (dI : Nat → Nat → Nat) (sz : Nat) (g0 : Nat) (pq : Nat → Nat) (cp : Nat → ClassId) (a1 : Int32) (a2 : Int32) : Met l yX11_ended wsX11_ended ({ frames := 2, cells := 0, slots := 0, locals := 42 }) (va_Pc [.ref g0, .int a1, .int a2] (pcW (dC, dI) [((cp 0), .int)] [(g0, .inr (11, mF pq)), ((pq 0), .inl ((cp 0), 7, .inl (fun _ => 0)))] sz)) (va_Qi (fun (r : Int32) (u : Unit) => r = (-1)) (fun _ _ => True) (va_A [(g0, .inr (11, mF pq)), ((pq 0), .inl ((cp 0), 7, .inl (fun _ => 0)))] sz)) 0 0 (va_A [(g0, .inr (11, mF pq)), ((pq 0), .inl ((cp 0), 7, .inl (fun _ => 0)))] sz) := by
  refine Met.ofW (cc := cX11_ended) (maxL := 5) (ret := (some .int)) (by decide) rfl ?_
  intro p e s m args below meth c s₁ B hml hv
  obtain ⟨rfl, hsz, hP, hK, hD0⟩ := hv
  have hx := B.exec
  have hb := B.bytes
  have hr := B.returns
  have hts := atoms_spec (ws := wsX11_ended) B.pre
  have hown : s.vm.findClass RX11 = some m.cls := findClass_of_methodNamed B.named
  have hlocks := B.notSynchronized
  subst hsz
  have hD := hD0.self (sz := s.heap.size)
  generalize hAe : va_A [(g0, .inr (11, mF pq)), ((pq 0), .inl ((cp 0), 7, .inl (fun _ => 0)))] s.heap.size = A at hD ⊢
  have hA : ∀ q : Nat, s.heap.size ≤ q → A q := fun q h => by rw [← hAe]; exact Or.inr h
  have hS : va_S A s.heap s.heap [] := va_S.rf
  have hP : va_P (dC, dI) vwCl [(g0, .inr (11, mF pq)), ((pq 0), .inl ((cp 0), 7, .inl (fun _ => 0)))] s.heap := hP
  have hl := lv_entry ([.ref g0, .int a1, .int a2]) (n := 5) (Nat.le_of_ble_eq_true rfl)
  rw [lg_entry_eq]
  generalize (lg_sl ([.ref g0, .int a1, .int a2]) ++ List.replicate (5 - (lg_sl ([.ref g0, .int a1, .int a2])).length) Slot.unset).toArray = ls at hl ⊢
  have hl : lv_has ls 5 [(0, .ref g0), (1, .int a1), (2, .int a2)] := hl
  refine lv_aload_n hx hb dX11_ended_0 rfl (lv_at hl 0 rfl) ?_
  refine lv_iload_n hx hb dX11_ended_1 rfl (lv_at hl 1 rfl) ?_
  have hPc := hP.sub (ws' := [(g0, .inr (11, mF pq))]) [0] rfl
  have hDc := hD.sub (ws' := [(g0, .inr (11, mF pq))]) [0] (by decide) rfl
  have hKc := hK.sub (tys' := []) [] rfl
  have hFc : ∀ q, va_A [] s.heap.size q → A q := pu_free hS hA
  refine va_calli (va_runV (As := [.int a1]) (rest := []) ⟨hx, hb, hml, hown, hts⟩ (c_X11_isVoyage l dC dI s.heap.size g0 pq cp a1) (cwV 1 hts gX11_ended_X11_isVoyage rfl rfl rfl (by decide +kernel) ⟨(Nat.le_of_ble_eq_true rfl), (Nat.le_of_ble_eq_true rfl)⟩) (pr_V (r := (RX11, TX11, 63)) hPc hKc hDc 0 11 rfl rfl) rfl rfl hl.1 rfl (lv_room (Nat.le_of_ble_eq_true rfl)) dX11_ended_2 ⟨(Nat.le_of_ble_eq_true rfl), (Nat.le_of_ble_eq_true rfl)⟩) hS (fun q _ h => hFc q h) hFc (fun r_2 u t H locs ht hvm w_1 hB hz1 hk1 hS => ?_)
  have hP := pu_keep hP hk1
  clear hk1 hz1 hvm hB hPc hDc hKc hFc ht
  subst w_1
  refine lv_if_eq (tgt := 15) hx hb dX11_ended_5 (by decide) (fun _ => ?_) (fun c_3 => absurd c_3 (by decide))
  refine lv_aload_n hx hb dX11_ended_15 rfl (lv_at hl 0 rfl) ?_
  refine lv_iconst (v := (-1)) hx hb dX11_ended_16 (by decide) ?_
  have hPc := hP.sub (ws' := [(g0, .inr (11, mF pq)), ((pq 0), .inl ((cp 0), 7, .inl (fun _ => 0)))]) [0, 1] rfl
  have hDc := hD.sub (ws' := [(g0, .inr (11, mF pq)), ((pq 0), .inl ((cp 0), 7, .inl (fun _ => 0)))]) [0, 1] (by decide) rfl
  have hKc := hK.sub (tys' := [((cp 0), .int)]) [0] rfl
  have hFc := va_free (wc := [(g0, .inr (11, mF pq)), ((pq 0), .inl ((cp 0), 7, .inl (fun _ => 0)))]) hD hS hA [0, 1] rfl
  refine va_calli (va_runV (As := [.int (-1)]) (rest := []) ⟨hx, hb, hml, hown, hts⟩ (c_X11_refuse l dC dI H.size g0 pq cp (-1) (by unfold vp_in; decide)) (cwV 1 hts gX11_ended_X11_refuse rfl rfl rfl (by decide +kernel) ⟨(Nat.le_of_ble_eq_true rfl), (Nat.le_of_ble_eq_true rfl)⟩) (pr_V (r := (RX11, TX11, 63)) hPc hKc hDc 0 11 rfl rfl) rfl rfl hl.1 rfl (lv_room (Nat.le_of_ble_eq_true rfl)) dX11_ended_17 ⟨(Nat.le_of_ble_eq_true rfl), (Nat.le_of_ble_eq_true rfl)⟩) hS (fun q _ h => hFc q h) hFc (fun r_5 u t H locs ht hvm w_4 hB hz1 hk1 hS => ?_)
  subst w_4
  exact W.iret (v := (-1)) hx hb hr (fun t ht hW => ⟨⟨(-1), (), rfl, rfl, trivial⟩, hS.F ht⟩) hS.2.2 dX11_ended_20
set_option maxHeartbeats 4000000 in
set_option maxRecDepth 100000 in
theorem c_X11_sailed (l : Launch) (dC : Nat → ClassId) (dI : Nat → Nat → Nat) (sz : Nat) (g0 : Nat) (pq : Nat → Nat) (cp : Nat → ClassId) (a1 : Int32) (a2 : Int32) : Met l yX11_sailed wsX11_sailed ({ frames := 3, cells := 0, slots := 0, locals := 65 }) (va_Pc [.ref g0, .int a1, .int a2] (pcW (dC, dI) [((cp 0), .int)] [(g0, .inr (11, mF pq)), ((pq 0), .inl ((cp 0), 7, .inl (fun _ => 0)))] sz)) (va_Qi (fun (r : Int32) (u : Unit) => r = (-1)) (fun _ _ => True) (va_A [(g0, .inr (11, mF pq)), ((pq 0), .inl ((cp 0), 7, .inl (fun _ => 0)))] sz)) 0 0 (va_A [(g0, .inr (11, mF pq)), ((pq 0), .inl ((cp 0), 7, .inl (fun _ => 0)))] sz) := by
  refine Met.ofW (cc := cX11_sailed) (maxL := 3) (ret := (some .int)) (by decide) rfl ?_
  intro p e s m args below meth c s₁ B hml hv
  obtain ⟨rfl, hsz, hP, hK, hD0⟩ := hv
  have hx := B.exec
  have hb := B.bytes
  have hr := B.returns
  have hts := atoms_spec (ws := wsX11_sailed) B.pre
  have hown : s.vm.findClass RX11 = some m.cls := findClass_of_methodNamed B.named
  have hlocks := B.notSynchronized
  subst hsz
  have hD := hD0.self (sz := s.heap.size)
  generalize hAe : va_A [(g0, .inr (11, mF pq)), ((pq 0), .inl ((cp 0), 7, .inl (fun _ => 0)))] s.heap.size = A at hD ⊢
  have hA : ∀ q : Nat, s.heap.size ≤ q → A q := fun q h => by rw [← hAe]; exact Or.inr h
  have hS : va_S A s.heap s.heap [] := va_S.rf
  have hP : va_P (dC, dI) vwCl [(g0, .inr (11, mF pq)), ((pq 0), .inl ((cp 0), 7, .inl (fun _ => 0)))] s.heap := hP
  have hl := lv_entry ([.ref g0, .int a1, .int a2]) (n := 3) (Nat.le_of_ble_eq_true rfl)
  rw [lg_entry_eq]
  generalize (lg_sl ([.ref g0, .int a1, .int a2]) ++ List.replicate (3 - (lg_sl ([.ref g0, .int a1, .int a2])).length) Slot.unset).toArray = ls at hl ⊢
  have hl : lv_has ls 3 [(0, .ref g0), (1, .int a1), (2, .int a2)] := hl
  refine lv_aload_n hx hb dX11_sailed_0 rfl (lv_at hl 0 rfl) ?_
  refine lv_iconst (v := 0) hx hb dX11_sailed_1 (by decide) ?_
  refine lv_iload_n hx hb dX11_sailed_2 rfl (lv_at hl 1 rfl) ?_
  refine lv_iload_n hx hb dX11_sailed_3 rfl (lv_at hl 2 rfl) ?_
  have hPc := hP.sub (ws' := [(g0, .inr (11, mF pq)), ((pq 0), .inl ((cp 0), 7, .inl (fun _ => 0)))]) [0, 1] rfl
  have hDc := hD.sub (ws' := [(g0, .inr (11, mF pq)), ((pq 0), .inl ((cp 0), 7, .inl (fun _ => 0)))]) [0, 1] (by decide) rfl
  have hKc := hK.sub (tys' := [((cp 0), .int)]) [0] rfl
  have hFc := va_free (wc := [(g0, .inr (11, mF pq)), ((pq 0), .inl ((cp 0), 7, .inl (fun _ => 0)))]) hD hS hA [0, 1] rfl
  refine va_calli (va_runV (As := [.int 0, .int a1, .int a2]) (rest := []) ⟨hx, hb, hml, hown, hts⟩ (c_X11_happensTo l dC dI s.heap.size g0 pq cp 0 a1 a2) (cwV 3 hts gX11_sailed_X11_happensTo rfl rfl rfl (by decide +kernel) ⟨(Nat.le_of_ble_eq_true rfl), (Nat.le_of_ble_eq_true rfl)⟩) (pr_V (r := (RX11, TX11, 63)) hPc hKc hDc 0 11 rfl rfl) rfl rfl hl.1 rfl (lv_room (Nat.le_of_ble_eq_true rfl)) dX11_sailed_4 ⟨(Nat.le_of_ble_eq_true rfl), (Nat.le_of_ble_eq_true rfl)⟩) hS (fun q _ h => hFc q h) hFc (fun r_2 u t H locs ht hvm w_1 hB hz1 hk1 hS => ?_)
  subst w_1
  exact W.iret (v := (-1)) hx hb hr (fun t ht hW => ⟨⟨(-1), (), rfl, rfl, trivial⟩, hS.F ht⟩) hS.2.2 dX11_sailed_7
set_option maxHeartbeats 4000000 in
set_option maxRecDepth 100000 in
theorem c_X11_heard (l : Launch) (dC : Nat → ClassId) (dI : Nat → Nat → Nat) (sz : Nat) (g0 : Nat) (pq : Nat → Nat) (cp : Nat → ClassId) (a1 : Int32) (a2 : Int32) : Met l yX11_heard wsX11_heard ({ frames := 3, cells := 0, slots := 0, locals := 65 }) (va_Pc [.ref g0, .int a1, .int a2] (pcW (dC, dI) [((cp 0), .int)] [(g0, .inr (11, mF pq)), ((pq 0), .inl ((cp 0), 7, .inl (fun _ => 0)))] sz)) (va_Qi (fun (r : Int32) (u : Unit) => r = (-1)) (fun _ _ => True) (va_A [(g0, .inr (11, mF pq)), ((pq 0), .inl ((cp 0), 7, .inl (fun _ => 0)))] sz)) 0 0 (va_A [(g0, .inr (11, mF pq)), ((pq 0), .inl ((cp 0), 7, .inl (fun _ => 0)))] sz) := by
  refine Met.ofW (cc := cX11_heard) (maxL := 3) (ret := (some .int)) (by decide) rfl ?_
  intro p e s m args below meth c s₁ B hml hv
  obtain ⟨rfl, hsz, hP, hK, hD0⟩ := hv
  have hx := B.exec
  have hb := B.bytes
  have hr := B.returns
  have hts := atoms_spec (ws := wsX11_heard) B.pre
  have hown : s.vm.findClass RX11 = some m.cls := findClass_of_methodNamed B.named
  have hlocks := B.notSynchronized
  subst hsz
  have hD := hD0.self (sz := s.heap.size)
  generalize hAe : va_A [(g0, .inr (11, mF pq)), ((pq 0), .inl ((cp 0), 7, .inl (fun _ => 0)))] s.heap.size = A at hD ⊢
  have hA : ∀ q : Nat, s.heap.size ≤ q → A q := fun q h => by rw [← hAe]; exact Or.inr h
  have hS : va_S A s.heap s.heap [] := va_S.rf
  have hP : va_P (dC, dI) vwCl [(g0, .inr (11, mF pq)), ((pq 0), .inl ((cp 0), 7, .inl (fun _ => 0)))] s.heap := hP
  have hl := lv_entry ([.ref g0, .int a1, .int a2]) (n := 3) (Nat.le_of_ble_eq_true rfl)
  rw [lg_entry_eq]
  generalize (lg_sl ([.ref g0, .int a1, .int a2]) ++ List.replicate (3 - (lg_sl ([.ref g0, .int a1, .int a2])).length) Slot.unset).toArray = ls at hl ⊢
  have hl : lv_has ls 3 [(0, .ref g0), (1, .int a1), (2, .int a2)] := hl
  refine lv_aload_n hx hb dX11_heard_0 rfl (lv_at hl 0 rfl) ?_
  refine lv_iconst (v := 1) hx hb dX11_heard_1 (by decide) ?_
  refine lv_iload_n hx hb dX11_heard_2 rfl (lv_at hl 1 rfl) ?_
  refine lv_iload_n hx hb dX11_heard_3 rfl (lv_at hl 2 rfl) ?_
  have hPc := hP.sub (ws' := [(g0, .inr (11, mF pq)), ((pq 0), .inl ((cp 0), 7, .inl (fun _ => 0)))]) [0, 1] rfl
  have hDc := hD.sub (ws' := [(g0, .inr (11, mF pq)), ((pq 0), .inl ((cp 0), 7, .inl (fun _ => 0)))]) [0, 1] (by decide) rfl
  have hKc := hK.sub (tys' := [((cp 0), .int)]) [0] rfl
  have hFc := va_free (wc := [(g0, .inr (11, mF pq)), ((pq 0), .inl ((cp 0), 7, .inl (fun _ => 0)))]) hD hS hA [0, 1] rfl
  refine va_calli (va_runV (As := [.int 1, .int a1, .int a2]) (rest := []) ⟨hx, hb, hml, hown, hts⟩ (c_X11_happensTo l dC dI s.heap.size g0 pq cp 1 a1 a2) (cwV 3 hts gX11_heard_X11_happensTo rfl rfl rfl (by decide +kernel) ⟨(Nat.le_of_ble_eq_true rfl), (Nat.le_of_ble_eq_true rfl)⟩) (pr_V (r := (RX11, TX11, 63)) hPc hKc hDc 0 11 rfl rfl) rfl rfl hl.1 rfl (lv_room (Nat.le_of_ble_eq_true rfl)) dX11_heard_4 ⟨(Nat.le_of_ble_eq_true rfl), (Nat.le_of_ble_eq_true rfl)⟩) hS (fun q _ h => hFc q h) hFc (fun r_2 u t H locs ht hvm w_1 hB hz1 hk1 hS => ?_)
  subst w_1
  exact W.iret (v := (-1)) hx hb hr (fun t ht hW => ⟨⟨(-1), (), rfl, rfl, trivial⟩, hS.F ht⟩) hS.2.2 dX11_heard_7
set_option maxHeartbeats 4000000 in
set_option maxRecDepth 100000 in
theorem c_X11_lost (l : Launch) (dC : Nat → ClassId) (dI : Nat → Nat → Nat) (sz : Nat) (g0 : Nat) (pq : Nat → Nat) (cp : Nat → ClassId) (a1 : Int32) (a2 : Int32) : Met l yX11_lost wsX11_lost ({ frames := 3, cells := 0, slots := 0, locals := 65 }) (va_Pc [.ref g0, .int a1, .int a2] (pcW (dC, dI) [((cp 0), .int)] [(g0, .inr (11, mF pq)), ((pq 0), .inl ((cp 0), 7, .inl (fun _ => 0)))] sz)) (va_Qi (fun (r : Int32) (u : Unit) => r = (-1)) (fun _ _ => True) (va_A [(g0, .inr (11, mF pq)), ((pq 0), .inl ((cp 0), 7, .inl (fun _ => 0)))] sz)) 0 0 (va_A [(g0, .inr (11, mF pq)), ((pq 0), .inl ((cp 0), 7, .inl (fun _ => 0)))] sz) := by
  refine Met.ofW (cc := cX11_lost) (maxL := 3) (ret := (some .int)) (by decide) rfl ?_
  intro p e s m args below meth c s₁ B hml hv
  obtain ⟨rfl, hsz, hP, hK, hD0⟩ := hv
  have hx := B.exec
  have hb := B.bytes
  have hr := B.returns
  have hts := atoms_spec (ws := wsX11_lost) B.pre
  have hown : s.vm.findClass RX11 = some m.cls := findClass_of_methodNamed B.named
  have hlocks := B.notSynchronized
  subst hsz
  have hD := hD0.self (sz := s.heap.size)
  generalize hAe : va_A [(g0, .inr (11, mF pq)), ((pq 0), .inl ((cp 0), 7, .inl (fun _ => 0)))] s.heap.size = A at hD ⊢
  have hA : ∀ q : Nat, s.heap.size ≤ q → A q := fun q h => by rw [← hAe]; exact Or.inr h
  have hS : va_S A s.heap s.heap [] := va_S.rf
  have hP : va_P (dC, dI) vwCl [(g0, .inr (11, mF pq)), ((pq 0), .inl ((cp 0), 7, .inl (fun _ => 0)))] s.heap := hP
  have hl := lv_entry ([.ref g0, .int a1, .int a2]) (n := 3) (Nat.le_of_ble_eq_true rfl)
  rw [lg_entry_eq]
  generalize (lg_sl ([.ref g0, .int a1, .int a2]) ++ List.replicate (3 - (lg_sl ([.ref g0, .int a1, .int a2])).length) Slot.unset).toArray = ls at hl ⊢
  have hl : lv_has ls 3 [(0, .ref g0), (1, .int a1), (2, .int a2)] := hl
  refine lv_aload_n hx hb dX11_lost_0 rfl (lv_at hl 0 rfl) ?_
  refine lv_iconst (v := 2) hx hb dX11_lost_1 (by decide) ?_
  refine lv_iload_n hx hb dX11_lost_2 rfl (lv_at hl 1 rfl) ?_
  refine lv_iload_n hx hb dX11_lost_3 rfl (lv_at hl 2 rfl) ?_
  have hPc := hP.sub (ws' := [(g0, .inr (11, mF pq)), ((pq 0), .inl ((cp 0), 7, .inl (fun _ => 0)))]) [0, 1] rfl
  have hDc := hD.sub (ws' := [(g0, .inr (11, mF pq)), ((pq 0), .inl ((cp 0), 7, .inl (fun _ => 0)))]) [0, 1] (by decide) rfl
  have hKc := hK.sub (tys' := [((cp 0), .int)]) [0] rfl
  have hFc := va_free (wc := [(g0, .inr (11, mF pq)), ((pq 0), .inl ((cp 0), 7, .inl (fun _ => 0)))]) hD hS hA [0, 1] rfl
  refine va_calli (va_runV (As := [.int 2, .int a1, .int a2]) (rest := []) ⟨hx, hb, hml, hown, hts⟩ (c_X11_happensTo l dC dI s.heap.size g0 pq cp 2 a1 a2) (cwV 3 hts gX11_lost_X11_happensTo rfl rfl rfl (by decide +kernel) ⟨(Nat.le_of_ble_eq_true rfl), (Nat.le_of_ble_eq_true rfl)⟩) (pr_V (r := (RX11, TX11, 63)) hPc hKc hDc 0 11 rfl rfl) rfl rfl hl.1 rfl (lv_room (Nat.le_of_ble_eq_true rfl)) dX11_lost_4 ⟨(Nat.le_of_ble_eq_true rfl), (Nat.le_of_ble_eq_true rfl)⟩) hS (fun q _ h => hFc q h) hFc (fun r_2 u t H locs ht hvm w_1 hB hz1 hk1 hS => ?_)
  subst w_1
  exact W.iret (v := (-1)) hx hb hr (fun t ht hW => ⟨⟨(-1), (), rfl, rfl, trivial⟩, hS.F ht⟩) hS.2.2 dX11_lost_7
set_option maxHeartbeats 4000000 in
set_option maxRecDepth 100000 in
theorem c_X11_left (l : Launch) (dC : Nat → ClassId) (dI : Nat → Nat → Nat) (sz : Nat) (g0 : Nat) (pq : Nat → Nat) (cp : Nat → ClassId) (a1 : Int32) (a2 : Int32) (a3 : Int32) (a4 : Int32) : Met l yX11_left wsX11_left ({ frames := 2, cells := 0, slots := 0, locals := 42 }) (va_Pc [.ref g0, .int a1, .int a2, .int a3, .int a4] (pcW (dC, dI) [((cp 0), .int)] [(g0, .inr (11, mF pq)), ((pq 0), .inl ((cp 0), 7, .inl (fun _ => 0)))] sz)) (va_Qi (fun (r : Int32) (u : Unit) => r = (-1)) (fun _ _ => True) (va_A [(g0, .inr (11, mF pq)), ((pq 0), .inl ((cp 0), 7, .inl (fun _ => 0)))] sz)) 0 0 (va_A [(g0, .inr (11, mF pq)), ((pq 0), .inl ((cp 0), 7, .inl (fun _ => 0)))] sz) := by
  refine Met.ofW (cc := cX11_left) (maxL := 5) (ret := (some .int)) (by decide) rfl ?_
  intro p e s m args below meth c s₁ B hml hv
  obtain ⟨rfl, hsz, hP, hK, hD0⟩ := hv
  have hx := B.exec
  have hb := B.bytes
  have hr := B.returns
  have hts := atoms_spec (ws := wsX11_left) B.pre
  have hown : s.vm.findClass RX11 = some m.cls := findClass_of_methodNamed B.named
  have hlocks := B.notSynchronized
  subst hsz
  have hD := hD0.self (sz := s.heap.size)
  generalize hAe : va_A [(g0, .inr (11, mF pq)), ((pq 0), .inl ((cp 0), 7, .inl (fun _ => 0)))] s.heap.size = A at hD ⊢
  have hA : ∀ q : Nat, s.heap.size ≤ q → A q := fun q h => by rw [← hAe]; exact Or.inr h
  have hS : va_S A s.heap s.heap [] := va_S.rf
  have hP : va_P (dC, dI) vwCl [(g0, .inr (11, mF pq)), ((pq 0), .inl ((cp 0), 7, .inl (fun _ => 0)))] s.heap := hP
  have hl := lv_entry ([.ref g0, .int a1, .int a2, .int a3, .int a4]) (n := 5) (Nat.le_of_ble_eq_true rfl)
  rw [lg_entry_eq]
  generalize (lg_sl ([.ref g0, .int a1, .int a2, .int a3, .int a4]) ++ List.replicate (5 - (lg_sl ([.ref g0, .int a1, .int a2, .int a3, .int a4])).length) Slot.unset).toArray = ls at hl ⊢
  have hl : lv_has ls 5 [(0, .ref g0), (1, .int a1), (2, .int a2), (3, .int a3), (4, .int a4)] := hl
  refine lv_aload_n hx hb dX11_left_0 rfl (lv_at hl 0 rfl) ?_
  refine lv_iload_n hx hb dX11_left_1 rfl (lv_at hl 1 rfl) ?_
  have hPc := hP.sub (ws' := [(g0, .inr (11, mF pq))]) [0] rfl
  have hDc := hD.sub (ws' := [(g0, .inr (11, mF pq))]) [0] (by decide) rfl
  have hKc := hK.sub (tys' := []) [] rfl
  have hFc : ∀ q, va_A [] s.heap.size q → A q := pu_free hS hA
  refine va_calli (va_runV (As := [.int a1]) (rest := []) ⟨hx, hb, hml, hown, hts⟩ (c_X11_isAgreement l dC dI s.heap.size g0 pq cp a1) (cwV 1 hts gX11_left_X11_isAgreement rfl rfl rfl (by decide +kernel) ⟨(Nat.le_of_ble_eq_true rfl), (Nat.le_of_ble_eq_true rfl)⟩) (pr_V (r := (RX11, TX11, 63)) hPc hKc hDc 0 11 rfl rfl) rfl rfl hl.1 rfl (lv_room (Nat.le_of_ble_eq_true rfl)) dX11_left_2 ⟨(Nat.le_of_ble_eq_true rfl), (Nat.le_of_ble_eq_true rfl)⟩) hS (fun q _ h => hFc q h) hFc (fun r_2 u t H locs ht hvm w_1 hB hz1 hk1 hS => ?_)
  have hP := pu_keep hP hk1
  clear hk1 hz1 hvm hB hPc hDc hKc hFc ht
  subst w_1
  refine lv_if_eq (tgt := 16) hx hb dX11_left_5 (by decide) (fun _ => ?_) (fun c_3 => absurd c_3 (by decide))
  refine lv_aload_n hx hb dX11_left_16 rfl (lv_at hl 0 rfl) ?_
  refine lv_iconst (v := (-1)) hx hb dX11_left_17 (by decide) ?_
  have hPc := hP.sub (ws' := [(g0, .inr (11, mF pq)), ((pq 0), .inl ((cp 0), 7, .inl (fun _ => 0)))]) [0, 1] rfl
  have hDc := hD.sub (ws' := [(g0, .inr (11, mF pq)), ((pq 0), .inl ((cp 0), 7, .inl (fun _ => 0)))]) [0, 1] (by decide) rfl
  have hKc := hK.sub (tys' := [((cp 0), .int)]) [0] rfl
  have hFc := va_free (wc := [(g0, .inr (11, mF pq)), ((pq 0), .inl ((cp 0), 7, .inl (fun _ => 0)))]) hD hS hA [0, 1] rfl
  refine va_calli (va_runV (As := [.int (-1)]) (rest := []) ⟨hx, hb, hml, hown, hts⟩ (c_X11_refuse l dC dI H.size g0 pq cp (-1) (by unfold vp_in; decide)) (cwV 1 hts gX11_left_X11_refuse rfl rfl rfl (by decide +kernel) ⟨(Nat.le_of_ble_eq_true rfl), (Nat.le_of_ble_eq_true rfl)⟩) (pr_V (r := (RX11, TX11, 63)) hPc hKc hDc 0 11 rfl rfl) rfl rfl hl.1 rfl (lv_room (Nat.le_of_ble_eq_true rfl)) dX11_left_18 ⟨(Nat.le_of_ble_eq_true rfl), (Nat.le_of_ble_eq_true rfl)⟩) hS (fun q _ h => hFc q h) hFc (fun r_5 u t H locs ht hvm w_4 hB hz1 hk1 hS => ?_)
  subst w_4
  exact W.iret (v := (-1)) hx hb hr (fun t ht hW => ⟨⟨(-1), (), rfl, rfl, trivial⟩, hS.F ht⟩) hS.2.2 dX11_left_21
set_option maxHeartbeats 4000000 in
set_option maxRecDepth 100000 in
theorem c_X11_died (l : Launch) (dC : Nat → ClassId) (dI : Nat → Nat → Nat) (sz : Nat) (g0 : Nat) (pq : Nat → Nat) (cp : Nat → ClassId) (a1 : Int32) (a2 : Int32) : Met l yX11_died wsX11_died ({ frames := 3, cells := 0, slots := 0, locals := 65 }) (va_Pc [.ref g0, .int a1, .int a2] (pcW (dC, dI) [((cp 0), .int)] [(g0, .inr (11, mF pq)), ((pq 0), .inl ((cp 0), 7, .inl (fun _ => 0)))] sz)) (va_Qi (fun (r : Int32) (u : Unit) => r = (-1)) (fun _ _ => True) (va_A [(g0, .inr (11, mF pq)), ((pq 0), .inl ((cp 0), 7, .inl (fun _ => 0)))] sz)) 0 0 (va_A [(g0, .inr (11, mF pq)), ((pq 0), .inl ((cp 0), 7, .inl (fun _ => 0)))] sz) := by
  refine Met.ofW (cc := cX11_died) (maxL := 3) (ret := (some .int)) (by decide) rfl ?_
  intro p e s m args below meth c s₁ B hml hv
  obtain ⟨rfl, hsz, hP, hK, hD0⟩ := hv
  have hx := B.exec
  have hb := B.bytes
  have hr := B.returns
  have hts := atoms_spec (ws := wsX11_died) B.pre
  have hown : s.vm.findClass RX11 = some m.cls := findClass_of_methodNamed B.named
  have hlocks := B.notSynchronized
  subst hsz
  have hD := hD0.self (sz := s.heap.size)
  generalize hAe : va_A [(g0, .inr (11, mF pq)), ((pq 0), .inl ((cp 0), 7, .inl (fun _ => 0)))] s.heap.size = A at hD ⊢
  have hA : ∀ q : Nat, s.heap.size ≤ q → A q := fun q h => by rw [← hAe]; exact Or.inr h
  have hS : va_S A s.heap s.heap [] := va_S.rf
  have hP : va_P (dC, dI) vwCl [(g0, .inr (11, mF pq)), ((pq 0), .inl ((cp 0), 7, .inl (fun _ => 0)))] s.heap := hP
  have hl := lv_entry ([.ref g0, .int a1, .int a2]) (n := 3) (Nat.le_of_ble_eq_true rfl)
  rw [lg_entry_eq]
  generalize (lg_sl ([.ref g0, .int a1, .int a2]) ++ List.replicate (3 - (lg_sl ([.ref g0, .int a1, .int a2])).length) Slot.unset).toArray = ls at hl ⊢
  have hl : lv_has ls 3 [(0, .ref g0), (1, .int a1), (2, .int a2)] := hl
  refine lv_aload_n hx hb dX11_died_0 rfl (lv_at hl 0 rfl) ?_
  refine lv_iconst (v := 4) hx hb dX11_died_1 (by decide) ?_
  refine lv_iload_n hx hb dX11_died_2 rfl (lv_at hl 1 rfl) ?_
  refine lv_iload_n hx hb dX11_died_3 rfl (lv_at hl 2 rfl) ?_
  have hPc := hP.sub (ws' := [(g0, .inr (11, mF pq)), ((pq 0), .inl ((cp 0), 7, .inl (fun _ => 0)))]) [0, 1] rfl
  have hDc := hD.sub (ws' := [(g0, .inr (11, mF pq)), ((pq 0), .inl ((cp 0), 7, .inl (fun _ => 0)))]) [0, 1] (by decide) rfl
  have hKc := hK.sub (tys' := [((cp 0), .int)]) [0] rfl
  have hFc := va_free (wc := [(g0, .inr (11, mF pq)), ((pq 0), .inl ((cp 0), 7, .inl (fun _ => 0)))]) hD hS hA [0, 1] rfl
  refine va_calli (va_runV (As := [.int 4, .int a1, .int a2]) (rest := []) ⟨hx, hb, hml, hown, hts⟩ (c_X11_happensOf l dC dI s.heap.size g0 pq cp 4 a1 a2) (cwV 3 hts gX11_died_X11_happensOf rfl rfl rfl (by decide +kernel) ⟨(Nat.le_of_ble_eq_true rfl), (Nat.le_of_ble_eq_true rfl)⟩) (pr_V (r := (RX11, TX11, 63)) hPc hKc hDc 0 11 rfl rfl) rfl rfl hl.1 rfl (lv_room (Nat.le_of_ble_eq_true rfl)) dX11_died_4 ⟨(Nat.le_of_ble_eq_true rfl), (Nat.le_of_ble_eq_true rfl)⟩) hS (fun q _ h => hFc q h) hFc (fun r_2 u t H locs ht hvm w_1 hB hz1 hk1 hS => ?_)
  subst w_1
  exact W.iret (v := (-1)) hx hb hr (fun t ht hW => ⟨⟨(-1), (), rfl, rfl, trivial⟩, hS.F ht⟩) hS.2.2 dX11_died_7
set_option maxHeartbeats 4000000 in
set_option maxRecDepth 100000 in
theorem c_X11_back (l : Launch) (dC : Nat → ClassId) (dI : Nat → Nat → Nat) (sz : Nat) (g0 : Nat) (pq : Nat → Nat) (cp : Nat → ClassId) (a1 : Int32) (a2 : Int32) : Met l yX11_back wsX11_back ({ frames := 3, cells := 0, slots := 0, locals := 65 }) (va_Pc [.ref g0, .int a1, .int a2] (pcW (dC, dI) [((cp 0), .int)] [(g0, .inr (11, mF pq)), ((pq 0), .inl ((cp 0), 7, .inl (fun _ => 0)))] sz)) (va_Qi (fun (r : Int32) (u : Unit) => r = (-1)) (fun _ _ => True) (va_A [(g0, .inr (11, mF pq)), ((pq 0), .inl ((cp 0), 7, .inl (fun _ => 0)))] sz)) 0 0 (va_A [(g0, .inr (11, mF pq)), ((pq 0), .inl ((cp 0), 7, .inl (fun _ => 0)))] sz) := by
  refine Met.ofW (cc := cX11_back) (maxL := 3) (ret := (some .int)) (by decide) rfl ?_
  intro p e s m args below meth c s₁ B hml hv
  obtain ⟨rfl, hsz, hP, hK, hD0⟩ := hv
  have hx := B.exec
  have hb := B.bytes
  have hr := B.returns
  have hts := atoms_spec (ws := wsX11_back) B.pre
  have hown : s.vm.findClass RX11 = some m.cls := findClass_of_methodNamed B.named
  have hlocks := B.notSynchronized
  subst hsz
  have hD := hD0.self (sz := s.heap.size)
  generalize hAe : va_A [(g0, .inr (11, mF pq)), ((pq 0), .inl ((cp 0), 7, .inl (fun _ => 0)))] s.heap.size = A at hD ⊢
  have hA : ∀ q : Nat, s.heap.size ≤ q → A q := fun q h => by rw [← hAe]; exact Or.inr h
  have hS : va_S A s.heap s.heap [] := va_S.rf
  have hP : va_P (dC, dI) vwCl [(g0, .inr (11, mF pq)), ((pq 0), .inl ((cp 0), 7, .inl (fun _ => 0)))] s.heap := hP
  have hl := lv_entry ([.ref g0, .int a1, .int a2]) (n := 3) (Nat.le_of_ble_eq_true rfl)
  rw [lg_entry_eq]
  generalize (lg_sl ([.ref g0, .int a1, .int a2]) ++ List.replicate (3 - (lg_sl ([.ref g0, .int a1, .int a2])).length) Slot.unset).toArray = ls at hl ⊢
  have hl : lv_has ls 3 [(0, .ref g0), (1, .int a1), (2, .int a2)] := hl
  refine lv_aload_n hx hb dX11_back_0 rfl (lv_at hl 0 rfl) ?_
  refine lv_iconst (v := 5) hx hb dX11_back_1 (by decide) ?_
  refine lv_iload_n hx hb dX11_back_2 rfl (lv_at hl 1 rfl) ?_
  refine lv_iload_n hx hb dX11_back_3 rfl (lv_at hl 2 rfl) ?_
  have hPc := hP.sub (ws' := [(g0, .inr (11, mF pq)), ((pq 0), .inl ((cp 0), 7, .inl (fun _ => 0)))]) [0, 1] rfl
  have hDc := hD.sub (ws' := [(g0, .inr (11, mF pq)), ((pq 0), .inl ((cp 0), 7, .inl (fun _ => 0)))]) [0, 1] (by decide) rfl
  have hKc := hK.sub (tys' := [((cp 0), .int)]) [0] rfl
  have hFc := va_free (wc := [(g0, .inr (11, mF pq)), ((pq 0), .inl ((cp 0), 7, .inl (fun _ => 0)))]) hD hS hA [0, 1] rfl
  refine va_calli (va_runV (As := [.int 5, .int a1, .int a2]) (rest := []) ⟨hx, hb, hml, hown, hts⟩ (c_X11_happensOf l dC dI s.heap.size g0 pq cp 5 a1 a2) (cwV 3 hts gX11_back_X11_happensOf rfl rfl rfl (by decide +kernel) ⟨(Nat.le_of_ble_eq_true rfl), (Nat.le_of_ble_eq_true rfl)⟩) (pr_V (r := (RX11, TX11, 63)) hPc hKc hDc 0 11 rfl rfl) rfl rfl hl.1 rfl (lv_room (Nat.le_of_ble_eq_true rfl)) dX11_back_4 ⟨(Nat.le_of_ble_eq_true rfl), (Nat.le_of_ble_eq_true rfl)⟩) hS (fun q _ h => hFc q h) hFc (fun r_2 u t H locs ht hvm w_1 hB hz1 hk1 hS => ?_)
  subst w_1
  exact W.iret (v := (-1)) hx hb hr (fun t ht hW => ⟨⟨(-1), (), rfl, rfl, trivial⟩, hS.F ht⟩) hS.2.2 dX11_back_7
set_option maxHeartbeats 4000000 in
set_option maxRecDepth 100000 in
theorem c_X11_sign_ (l : Launch) (dC : Nat → ClassId) (dI : Nat → Nat → Nat) (sz : Nat) (g0 : Nat) (pq : Nat → Nat) (cp : Nat → ClassId) (a1 : Int32) (a2 : Int32) (a3 : Int32) (a4 : Int32) (a5 : Int32) : Met l yX11_sign_ wsX11_sign_ ({ frames := 2, cells := 0, slots := 0, locals := 42 }) (va_Pc [.ref g0, .int a1, .int a2, .int a3, .int a4, .int a5] (pcW (dC, dI) [((cp 0), .int)] [(g0, .inr (11, mF pq)), ((pq 0), .inl ((cp 0), 7, .inl (fun _ => 0)))] sz)) (va_Qi (fun (r : Int32) (u : Unit) => r = (-1)) (fun _ _ => True) (va_A [(g0, .inr (11, mF pq)), ((pq 0), .inl ((cp 0), 7, .inl (fun _ => 0)))] sz)) 0 0 (va_A [(g0, .inr (11, mF pq)), ((pq 0), .inl ((cp 0), 7, .inl (fun _ => 0)))] sz) := by
  refine Met.ofW (cc := cX11_sign_) (maxL := 8) (ret := (some .int)) (by decide) rfl ?_
  intro p e s m args below meth c s₁ B hml hv
  obtain ⟨rfl, hsz, hP, hK, hD0⟩ := hv
  have hx := B.exec
  have hb := B.bytes
  have hr := B.returns
  have hts := atoms_spec (ws := wsX11_sign_) B.pre
  have hown : s.vm.findClass RX11 = some m.cls := findClass_of_methodNamed B.named
  have hlocks := B.notSynchronized
  subst hsz
  have hD := hD0.self (sz := s.heap.size)
  generalize hAe : va_A [(g0, .inr (11, mF pq)), ((pq 0), .inl ((cp 0), 7, .inl (fun _ => 0)))] s.heap.size = A at hD ⊢
  have hA : ∀ q : Nat, s.heap.size ≤ q → A q := fun q h => by rw [← hAe]; exact Or.inr h
  have hS : va_S A s.heap s.heap [] := va_S.rf
  have hP : va_P (dC, dI) vwCl [(g0, .inr (11, mF pq)), ((pq 0), .inl ((cp 0), 7, .inl (fun _ => 0)))] s.heap := hP
  have hl := lv_entry ([.ref g0, .int a1, .int a2, .int a3, .int a4, .int a5]) (n := 8) (Nat.le_of_ble_eq_true rfl)
  rw [lg_entry_eq]
  generalize (lg_sl ([.ref g0, .int a1, .int a2, .int a3, .int a4, .int a5]) ++ List.replicate (8 - (lg_sl ([.ref g0, .int a1, .int a2, .int a3, .int a4, .int a5])).length) Slot.unset).toArray = ls at hl ⊢
  have hl : lv_has ls 8 [(0, .ref g0), (1, .int a1), (2, .int a2), (3, .int a3), (4, .int a4), (5, .int a5)] := hl
  refine lv_aload_n hx hb dX11_sign__0 rfl (lv_at hl 0 rfl) ?_
  refine lv_iload_n hx hb dX11_sign__1 rfl (lv_at hl 1 rfl) ?_
  have hPc := hP.sub (ws' := [(g0, .inr (11, mF pq))]) [0] rfl
  have hDc := hD.sub (ws' := [(g0, .inr (11, mF pq))]) [0] (by decide) rfl
  have hKc := hK.sub (tys' := []) [] rfl
  have hFc : ∀ q, va_A [] s.heap.size q → A q := pu_free hS hA
  refine va_calli (va_runV (As := [.int a1]) (rest := []) ⟨hx, hb, hml, hown, hts⟩ (c_X11_isMan l dC dI s.heap.size g0 pq cp a1) (cwV 1 hts gX11_sign__X11_isMan rfl rfl rfl (by decide +kernel) ⟨(Nat.le_of_ble_eq_true rfl), (Nat.le_of_ble_eq_true rfl)⟩) (pr_V (r := (RX11, TX11, 63)) hPc hKc hDc 0 11 rfl rfl) rfl rfl hl.1 rfl (lv_room (Nat.le_of_ble_eq_true rfl)) dX11_sign__2 ⟨(Nat.le_of_ble_eq_true rfl), (Nat.le_of_ble_eq_true rfl)⟩) hS (fun q _ h => hFc q h) hFc (fun r_2 u t H locs ht hvm w_1 hB hz1 hk1 hS => ?_)
  have hP := pu_keep hP hk1
  clear hk1 hz1 hvm hB hPc hDc hKc hFc ht
  subst w_1
  refine lv_if_eq (tgt := 31) hx hb dX11_sign__5 (by decide) (fun _ => ?_) (fun c_3 => absurd c_3 (by decide))
  refine lv_aload_n hx hb dX11_sign__31 rfl (lv_at hl 0 rfl) ?_
  refine lv_iconst (v := (-1)) hx hb dX11_sign__32 (by decide) ?_
  have hPc := hP.sub (ws' := [(g0, .inr (11, mF pq)), ((pq 0), .inl ((cp 0), 7, .inl (fun _ => 0)))]) [0, 1] rfl
  have hDc := hD.sub (ws' := [(g0, .inr (11, mF pq)), ((pq 0), .inl ((cp 0), 7, .inl (fun _ => 0)))]) [0, 1] (by decide) rfl
  have hKc := hK.sub (tys' := [((cp 0), .int)]) [0] rfl
  have hFc := va_free (wc := [(g0, .inr (11, mF pq)), ((pq 0), .inl ((cp 0), 7, .inl (fun _ => 0)))]) hD hS hA [0, 1] rfl
  refine va_calli (va_runV (As := [.int (-1)]) (rest := []) ⟨hx, hb, hml, hown, hts⟩ (c_X11_refuse l dC dI H.size g0 pq cp (-1) (by unfold vp_in; decide)) (cwV 1 hts gX11_sign__X11_refuse rfl rfl rfl (by decide +kernel) ⟨(Nat.le_of_ble_eq_true rfl), (Nat.le_of_ble_eq_true rfl)⟩) (pr_V (r := (RX11, TX11, 63)) hPc hKc hDc 0 11 rfl rfl) rfl rfl hl.1 rfl (lv_room (Nat.le_of_ble_eq_true rfl)) dX11_sign__33 ⟨(Nat.le_of_ble_eq_true rfl), (Nat.le_of_ble_eq_true rfl)⟩) hS (fun q _ h => hFc q h) hFc (fun r_5 u t H locs ht hvm w_4 hB hz1 hk1 hS => ?_)
  subst w_4
  exact W.iret (v := (-1)) hx hb hr (fun t ht hW => ⟨⟨(-1), (), rfl, rfl, trivial⟩, hS.F ht⟩) hS.2.2 dX11_sign__36
set_option maxHeartbeats 4000000 in
set_option maxRecDepth 100000 in
theorem c_X11_off (l : Launch) (dC : Nat → ClassId) (dI : Nat → Nat → Nat) (sz : Nat) (g0 : Nat) (pq : Nat → Nat) (cp : Nat → ClassId) (a1 : Int32) (a2 : Int32) : Met l yX11_off wsX11_off ({ frames := 2, cells := 0, slots := 0, locals := 42 }) (va_Pc [.ref g0, .int a1, .int a2] (pcW (dC, dI) [((cp 0), .int)] [(g0, .inr (11, mF pq)), ((pq 0), .inl ((cp 0), 7, .inl (fun _ => 0)))] sz)) (va_Qi (fun (r : Int32) (u : Unit) => r = (-1)) (fun _ _ => True) (va_A [(g0, .inr (11, mF pq)), ((pq 0), .inl ((cp 0), 7, .inl (fun _ => 0)))] sz)) 0 0 (va_A [(g0, .inr (11, mF pq)), ((pq 0), .inl ((cp 0), 7, .inl (fun _ => 0)))] sz) := by
  refine Met.ofW (cc := cX11_off) (maxL := 3) (ret := (some .int)) (by decide) rfl ?_
  intro p e s m args below meth c s₁ B hml hv
  obtain ⟨rfl, hsz, hP, hK, hD0⟩ := hv
  have hx := B.exec
  have hb := B.bytes
  have hr := B.returns
  have hts := atoms_spec (ws := wsX11_off) B.pre
  have hown : s.vm.findClass RX11 = some m.cls := findClass_of_methodNamed B.named
  have hlocks := B.notSynchronized
  subst hsz
  have hD := hD0.self (sz := s.heap.size)
  generalize hAe : va_A [(g0, .inr (11, mF pq)), ((pq 0), .inl ((cp 0), 7, .inl (fun _ => 0)))] s.heap.size = A at hD ⊢
  have hA : ∀ q : Nat, s.heap.size ≤ q → A q := fun q h => by rw [← hAe]; exact Or.inr h
  have hS : va_S A s.heap s.heap [] := va_S.rf
  have hP : va_P (dC, dI) vwCl [(g0, .inr (11, mF pq)), ((pq 0), .inl ((cp 0), 7, .inl (fun _ => 0)))] s.heap := hP
  have hl := lv_entry ([.ref g0, .int a1, .int a2]) (n := 3) (Nat.le_of_ble_eq_true rfl)
  rw [lg_entry_eq]
  generalize (lg_sl ([.ref g0, .int a1, .int a2]) ++ List.replicate (3 - (lg_sl ([.ref g0, .int a1, .int a2])).length) Slot.unset).toArray = ls at hl ⊢
  have hl : lv_has ls 3 [(0, .ref g0), (1, .int a1), (2, .int a2)] := hl
  refine lv_aload_n hx hb dX11_off_0 rfl (lv_at hl 0 rfl) ?_
  refine lv_iload_n hx hb dX11_off_1 rfl (lv_at hl 1 rfl) ?_
  have hPc := hP.sub (ws' := [(g0, .inr (11, mF pq))]) [0] rfl
  have hDc := hD.sub (ws' := [(g0, .inr (11, mF pq))]) [0] (by decide) rfl
  have hKc := hK.sub (tys' := []) [] rfl
  have hFc : ∀ q, va_A [] s.heap.size q → A q := pu_free hS hA
  refine va_calli (va_runV (As := [.int a1]) (rest := []) ⟨hx, hb, hml, hown, hts⟩ (c_X11_isAgreement l dC dI s.heap.size g0 pq cp a1) (cwV 1 hts gX11_off_X11_isAgreement rfl rfl rfl (by decide +kernel) ⟨(Nat.le_of_ble_eq_true rfl), (Nat.le_of_ble_eq_true rfl)⟩) (pr_V (r := (RX11, TX11, 63)) hPc hKc hDc 0 11 rfl rfl) rfl rfl hl.1 rfl (lv_room (Nat.le_of_ble_eq_true rfl)) dX11_off_2 ⟨(Nat.le_of_ble_eq_true rfl), (Nat.le_of_ble_eq_true rfl)⟩) hS (fun q _ h => hFc q h) hFc (fun r_2 u t H locs ht hvm w_1 hB hz1 hk1 hS => ?_)
  have hP := pu_keep hP hk1
  clear hk1 hz1 hvm hB hPc hDc hKc hFc ht
  subst w_1
  refine lv_if_eq (tgt := 15) hx hb dX11_off_5 (by decide) (fun _ => ?_) (fun c_3 => absurd c_3 (by decide))
  refine lv_aload_n hx hb dX11_off_15 rfl (lv_at hl 0 rfl) ?_
  refine lv_iconst (v := (-1)) hx hb dX11_off_16 (by decide) ?_
  have hPc := hP.sub (ws' := [(g0, .inr (11, mF pq)), ((pq 0), .inl ((cp 0), 7, .inl (fun _ => 0)))]) [0, 1] rfl
  have hDc := hD.sub (ws' := [(g0, .inr (11, mF pq)), ((pq 0), .inl ((cp 0), 7, .inl (fun _ => 0)))]) [0, 1] (by decide) rfl
  have hKc := hK.sub (tys' := [((cp 0), .int)]) [0] rfl
  have hFc := va_free (wc := [(g0, .inr (11, mF pq)), ((pq 0), .inl ((cp 0), 7, .inl (fun _ => 0)))]) hD hS hA [0, 1] rfl
  refine va_calli (va_runV (As := [.int (-1)]) (rest := []) ⟨hx, hb, hml, hown, hts⟩ (c_X11_refuse l dC dI H.size g0 pq cp (-1) (by unfold vp_in; decide)) (cwV 1 hts gX11_off_X11_refuse rfl rfl rfl (by decide +kernel) ⟨(Nat.le_of_ble_eq_true rfl), (Nat.le_of_ble_eq_true rfl)⟩) (pr_V (r := (RX11, TX11, 63)) hPc hKc hDc 0 11 rfl rfl) rfl rfl hl.1 rfl (lv_room (Nat.le_of_ble_eq_true rfl)) dX11_off_17 ⟨(Nat.le_of_ble_eq_true rfl), (Nat.le_of_ble_eq_true rfl)⟩) hS (fun q _ h => hFc q h) hFc (fun r_5 u t H locs ht hvm w_4 hB hz1 hk1 hS => ?_)
  subst w_4
  exact W.iret (v := (-1)) hx hb hr (fun t ht hW => ⟨⟨(-1), (), rfl, rfl, trivial⟩, hS.F ht⟩) hS.2.2 dX11_off_20
set_option maxHeartbeats 4000000 in
set_option maxRecDepth 100000 in
theorem c_X11_state (l : Launch) (dC : Nat → ClassId) (dI : Nat → Nat → Nat) (sz : Nat) (g0 : Nat) (pq : Nat → Nat) (cp : Nat → ClassId) (a1 : Int32) (a2 : Int32) (a3 : Int32) : Met l yX11_state wsX11_state ({ frames := 2, cells := 0, slots := 0, locals := 42 }) (va_Pc [.ref g0, .int a1, .int a2, .int a3] (pcW (dC, dI) [((cp 0), .int)] [(g0, .inr (11, mF pq)), ((pq 0), .inl ((cp 0), 7, .inl (fun _ => 0)))] sz)) (va_Qi (fun (r : Int32) (u : Unit) => r = (-1)) (fun _ _ => True) (va_A [(g0, .inr (11, mF pq)), ((pq 0), .inl ((cp 0), 7, .inl (fun _ => 0)))] sz)) 0 0 (va_A [(g0, .inr (11, mF pq)), ((pq 0), .inl ((cp 0), 7, .inl (fun _ => 0)))] sz) := by
  refine Met.ofW (cc := cX11_state) (maxL := 5) (ret := (some .int)) (by decide) rfl ?_
  intro p e s m args below meth c s₁ B hml hv
  obtain ⟨rfl, hsz, hP, hK, hD0⟩ := hv
  have hx := B.exec
  have hb := B.bytes
  have hr := B.returns
  have hts := atoms_spec (ws := wsX11_state) B.pre
  have hown : s.vm.findClass RX11 = some m.cls := findClass_of_methodNamed B.named
  have hlocks := B.notSynchronized
  subst hsz
  have hD := hD0.self (sz := s.heap.size)
  generalize hAe : va_A [(g0, .inr (11, mF pq)), ((pq 0), .inl ((cp 0), 7, .inl (fun _ => 0)))] s.heap.size = A at hD ⊢
  have hA : ∀ q : Nat, s.heap.size ≤ q → A q := fun q h => by rw [← hAe]; exact Or.inr h
  have hS : va_S A s.heap s.heap [] := va_S.rf
  have hP : va_P (dC, dI) vwCl [(g0, .inr (11, mF pq)), ((pq 0), .inl ((cp 0), 7, .inl (fun _ => 0)))] s.heap := hP
  have hl := lv_entry ([.ref g0, .int a1, .int a2, .int a3]) (n := 5) (Nat.le_of_ble_eq_true rfl)
  rw [lg_entry_eq]
  generalize (lg_sl ([.ref g0, .int a1, .int a2, .int a3]) ++ List.replicate (5 - (lg_sl ([.ref g0, .int a1, .int a2, .int a3])).length) Slot.unset).toArray = ls at hl ⊢
  have hl : lv_has ls 5 [(0, .ref g0), (1, .int a1), (2, .int a2), (3, .int a3)] := hl
  refine lv_aload_n hx hb dX11_state_0 rfl (lv_at hl 0 rfl) ?_
  refine lv_iload_n hx hb dX11_state_1 rfl (lv_at hl 1 rfl) ?_
  have hPc := hP.sub (ws' := [(g0, .inr (11, mF pq))]) [0] rfl
  have hDc := hD.sub (ws' := [(g0, .inr (11, mF pq))]) [0] (by decide) rfl
  have hKc := hK.sub (tys' := []) [] rfl
  have hFc : ∀ q, va_A [] s.heap.size q → A q := pu_free hS hA
  refine va_calli (va_runV (As := [.int a1]) (rest := []) ⟨hx, hb, hml, hown, hts⟩ (c_X11_isAgreement l dC dI s.heap.size g0 pq cp a1) (cwV 1 hts gX11_state_X11_isAgreement rfl rfl rfl (by decide +kernel) ⟨(Nat.le_of_ble_eq_true rfl), (Nat.le_of_ble_eq_true rfl)⟩) (pr_V (r := (RX11, TX11, 63)) hPc hKc hDc 0 11 rfl rfl) rfl rfl hl.1 rfl (lv_room (Nat.le_of_ble_eq_true rfl)) dX11_state_2 ⟨(Nat.le_of_ble_eq_true rfl), (Nat.le_of_ble_eq_true rfl)⟩) hS (fun q _ h => hFc q h) hFc (fun r_2 u t H locs ht hvm w_1 hB hz1 hk1 hS => ?_)
  have hP := pu_keep hP hk1
  clear hk1 hz1 hvm hB hPc hDc hKc hFc ht
  subst w_1
  refine lv_if_eq (tgt := 17) hx hb dX11_state_5 (by decide) (fun _ => ?_) (fun c_3 => absurd c_3 (by decide))
  refine lv_iconst (v := (-1)) hx hb dX11_state_17 (by decide) ?_
  refine lv_istore (lv' := [(4, .int (-1)), (0, .ref g0), (1, .int a1), (2, .int a2), (3, .int a3)]) hx hb dX11_state_18 hl (by decide) rfl (fun ls hl => ?_)
  refine lv_iload hx hb dX11_state_20 (lv_at hl 0 rfl) ?_
  refine lv_if_eq (tgt := 34) hx hb dX11_state_22 (by decide) (fun c_4 => absurd c_4 (by decide)) (fun _ => ?_)
  refine lv_aload_n hx hb dX11_state_25 rfl (lv_at hl 1 rfl) ?_
  refine lv_iload hx hb dX11_state_26 (lv_at hl 0 rfl) ?_
  have hPc := hP.sub (ws' := [(g0, .inr (11, mF pq)), ((pq 0), .inl ((cp 0), 7, .inl (fun _ => 0)))]) [0, 1] rfl
  have hDc := hD.sub (ws' := [(g0, .inr (11, mF pq)), ((pq 0), .inl ((cp 0), 7, .inl (fun _ => 0)))]) [0, 1] (by decide) rfl
  have hKc := hK.sub (tys' := [((cp 0), .int)]) [0] rfl
  have hFc := va_free (wc := [(g0, .inr (11, mF pq)), ((pq 0), .inl ((cp 0), 7, .inl (fun _ => 0)))]) hD hS hA [0, 1] rfl
  refine va_calli (va_runV (As := [.int (-1)]) (rest := []) ⟨hx, hb, hml, hown, hts⟩ (c_X11_refuse l dC dI H.size g0 pq cp (-1) (by unfold vp_in; decide)) (cwV 1 hts gX11_state_X11_refuse rfl rfl rfl (by decide +kernel) ⟨(Nat.le_of_ble_eq_true rfl), (Nat.le_of_ble_eq_true rfl)⟩) (pr_V (r := (RX11, TX11, 63)) hPc hKc hDc 0 11 rfl rfl) rfl rfl hl.1 rfl (lv_room (Nat.le_of_ble_eq_true rfl)) dX11_state_28 ⟨(Nat.le_of_ble_eq_true rfl), (Nat.le_of_ble_eq_true rfl)⟩) hS (fun q _ h => hFc q h) hFc (fun r_6 u t H locs ht hvm w_5 hB hz1 hk1 hS => ?_)
  subst w_5
  refine lv_goto (tgt := 41) hx hb dX11_state_31 (by decide) ?_
  exact W.iret (v := (-1)) hx hb hr (fun t ht hW => ⟨⟨(-1), (), rfl, rfl, trivial⟩, hS.F ht⟩) hS.2.2 dX11_state_41
set_option maxHeartbeats 4000000 in
set_option maxRecDepth 100000 in
theorem c_X11_earns (l : Launch) (dC : Nat → ClassId) (dI : Nat → Nat → Nat) (sz : Nat) (g0 : Nat) (pq : Nat → Nat) (cp : Nat → ClassId) (a1 : Int32) (a2 : Int32) (a3 : Int32) : Met l yX11_earns wsX11_earns ({ frames := 2, cells := 0, slots := 0, locals := 42 }) (va_Pc [.ref g0, .int a1, .int a2, .int a3] (pcW (dC, dI) [((cp 0), .int)] [(g0, .inr (11, mF pq)), ((pq 0), .inl ((cp 0), 7, .inl (fun _ => 0)))] sz)) (va_Qi (fun (r : Int32) (u : Unit) => r = (-1)) (fun _ _ => True) (va_A [(g0, .inr (11, mF pq)), ((pq 0), .inl ((cp 0), 7, .inl (fun _ => 0)))] sz)) 0 0 (va_A [(g0, .inr (11, mF pq)), ((pq 0), .inl ((cp 0), 7, .inl (fun _ => 0)))] sz) := by
  refine Met.ofW (cc := cX11_earns) (maxL := 5) (ret := (some .int)) (by decide) rfl ?_
  intro p e s m args below meth c s₁ B hml hv
  obtain ⟨rfl, hsz, hP, hK, hD0⟩ := hv
  have hx := B.exec
  have hb := B.bytes
  have hr := B.returns
  have hts := atoms_spec (ws := wsX11_earns) B.pre
  have hown : s.vm.findClass RX11 = some m.cls := findClass_of_methodNamed B.named
  have hlocks := B.notSynchronized
  subst hsz
  have hD := hD0.self (sz := s.heap.size)
  generalize hAe : va_A [(g0, .inr (11, mF pq)), ((pq 0), .inl ((cp 0), 7, .inl (fun _ => 0)))] s.heap.size = A at hD ⊢
  have hA : ∀ q : Nat, s.heap.size ≤ q → A q := fun q h => by rw [← hAe]; exact Or.inr h
  have hS : va_S A s.heap s.heap [] := va_S.rf
  have hP : va_P (dC, dI) vwCl [(g0, .inr (11, mF pq)), ((pq 0), .inl ((cp 0), 7, .inl (fun _ => 0)))] s.heap := hP
  have hl := lv_entry ([.ref g0, .int a1, .int a2, .int a3]) (n := 5) (Nat.le_of_ble_eq_true rfl)
  rw [lg_entry_eq]
  generalize (lg_sl ([.ref g0, .int a1, .int a2, .int a3]) ++ List.replicate (5 - (lg_sl ([.ref g0, .int a1, .int a2, .int a3])).length) Slot.unset).toArray = ls at hl ⊢
  have hl : lv_has ls 5 [(0, .ref g0), (1, .int a1), (2, .int a2), (3, .int a3)] := hl
  refine lv_aload_n hx hb dX11_earns_0 rfl (lv_at hl 0 rfl) ?_
  refine lv_iload_n hx hb dX11_earns_1 rfl (lv_at hl 1 rfl) ?_
  have hPc := hP.sub (ws' := [(g0, .inr (11, mF pq))]) [0] rfl
  have hDc := hD.sub (ws' := [(g0, .inr (11, mF pq))]) [0] (by decide) rfl
  have hKc := hK.sub (tys' := []) [] rfl
  have hFc : ∀ q, va_A [] s.heap.size q → A q := pu_free hS hA
  refine va_calli (va_runV (As := [.int a1]) (rest := []) ⟨hx, hb, hml, hown, hts⟩ (c_X11_isAgreement l dC dI s.heap.size g0 pq cp a1) (cwV 1 hts gX11_earns_X11_isAgreement rfl rfl rfl (by decide +kernel) ⟨(Nat.le_of_ble_eq_true rfl), (Nat.le_of_ble_eq_true rfl)⟩) (pr_V (r := (RX11, TX11, 63)) hPc hKc hDc 0 11 rfl rfl) rfl rfl hl.1 rfl (lv_room (Nat.le_of_ble_eq_true rfl)) dX11_earns_2 ⟨(Nat.le_of_ble_eq_true rfl), (Nat.le_of_ble_eq_true rfl)⟩) hS (fun q _ h => hFc q h) hFc (fun r_2 u t H locs ht hvm w_1 hB hz1 hk1 hS => ?_)
  have hP := pu_keep hP hk1
  clear hk1 hz1 hvm hB hPc hDc hKc hFc ht
  subst w_1
  refine lv_if_eq (tgt := 17) hx hb dX11_earns_5 (by decide) (fun _ => ?_) (fun c_3 => absurd c_3 (by decide))
  refine lv_iconst (v := (-1)) hx hb dX11_earns_17 (by decide) ?_
  refine lv_istore (lv' := [(4, .int (-1)), (0, .ref g0), (1, .int a1), (2, .int a2), (3, .int a3)]) hx hb dX11_earns_18 hl (by decide) rfl (fun ls hl => ?_)
  refine lv_iload hx hb dX11_earns_20 (lv_at hl 0 rfl) ?_
  refine lv_if_eq (tgt := 34) hx hb dX11_earns_22 (by decide) (fun c_4 => absurd c_4 (by decide)) (fun _ => ?_)
  refine lv_aload_n hx hb dX11_earns_25 rfl (lv_at hl 1 rfl) ?_
  refine lv_iload hx hb dX11_earns_26 (lv_at hl 0 rfl) ?_
  have hPc := hP.sub (ws' := [(g0, .inr (11, mF pq)), ((pq 0), .inl ((cp 0), 7, .inl (fun _ => 0)))]) [0, 1] rfl
  have hDc := hD.sub (ws' := [(g0, .inr (11, mF pq)), ((pq 0), .inl ((cp 0), 7, .inl (fun _ => 0)))]) [0, 1] (by decide) rfl
  have hKc := hK.sub (tys' := [((cp 0), .int)]) [0] rfl
  have hFc := va_free (wc := [(g0, .inr (11, mF pq)), ((pq 0), .inl ((cp 0), 7, .inl (fun _ => 0)))]) hD hS hA [0, 1] rfl
  refine va_calli (va_runV (As := [.int (-1)]) (rest := []) ⟨hx, hb, hml, hown, hts⟩ (c_X11_refuse l dC dI H.size g0 pq cp (-1) (by unfold vp_in; decide)) (cwV 1 hts gX11_earns_X11_refuse rfl rfl rfl (by decide +kernel) ⟨(Nat.le_of_ble_eq_true rfl), (Nat.le_of_ble_eq_true rfl)⟩) (pr_V (r := (RX11, TX11, 63)) hPc hKc hDc 0 11 rfl rfl) rfl rfl hl.1 rfl (lv_room (Nat.le_of_ble_eq_true rfl)) dX11_earns_28 ⟨(Nat.le_of_ble_eq_true rfl), (Nat.le_of_ble_eq_true rfl)⟩) hS (fun q _ h => hFc q h) hFc (fun r_6 u t H locs ht hvm w_5 hB hz1 hk1 hS => ?_)
  subst w_5
  refine lv_goto (tgt := 41) hx hb dX11_earns_31 (by decide) ?_
  exact W.iret (v := (-1)) hx hb hr (fun t ht hW => ⟨⟨(-1), (), rfl, rfl, trivial⟩, hS.F ht⟩) hS.2.2 dX11_earns_41
set_option maxHeartbeats 4000000 in
set_option maxRecDepth 100000 in
theorem c_X11_advance (l : Launch) (dC : Nat → ClassId) (dI : Nat → Nat → Nat) (sz : Nat) (g0 : Nat) (pq : Nat → Nat) (cp : Nat → ClassId) (a1 : Int32) (a2 : Int32) : Met l yX11_advance wsX11_advance ({ frames := 2, cells := 0, slots := 0, locals := 42 }) (va_Pc [.ref g0, .int a1, .int a2] (pcW (dC, dI) [((cp 0), .int)] [(g0, .inr (11, mF pq)), ((pq 0), .inl ((cp 0), 7, .inl (fun _ => 0)))] sz)) (va_Qi (fun (r : Int32) (u : Unit) => r = (-1)) (fun _ _ => True) (va_A [(g0, .inr (11, mF pq)), ((pq 0), .inl ((cp 0), 7, .inl (fun _ => 0)))] sz)) 0 0 (va_A [(g0, .inr (11, mF pq)), ((pq 0), .inl ((cp 0), 7, .inl (fun _ => 0)))] sz) := by
  refine Met.ofW (cc := cX11_advance) (maxL := 3) (ret := (some .int)) (by decide) rfl ?_
  intro p e s m args below meth c s₁ B hml hv
  obtain ⟨rfl, hsz, hP, hK, hD0⟩ := hv
  have hx := B.exec
  have hb := B.bytes
  have hr := B.returns
  have hts := atoms_spec (ws := wsX11_advance) B.pre
  have hown : s.vm.findClass RX11 = some m.cls := findClass_of_methodNamed B.named
  have hlocks := B.notSynchronized
  subst hsz
  have hD := hD0.self (sz := s.heap.size)
  generalize hAe : va_A [(g0, .inr (11, mF pq)), ((pq 0), .inl ((cp 0), 7, .inl (fun _ => 0)))] s.heap.size = A at hD ⊢
  have hA : ∀ q : Nat, s.heap.size ≤ q → A q := fun q h => by rw [← hAe]; exact Or.inr h
  have hS : va_S A s.heap s.heap [] := va_S.rf
  have hP : va_P (dC, dI) vwCl [(g0, .inr (11, mF pq)), ((pq 0), .inl ((cp 0), 7, .inl (fun _ => 0)))] s.heap := hP
  have hl := lv_entry ([.ref g0, .int a1, .int a2]) (n := 3) (Nat.le_of_ble_eq_true rfl)
  rw [lg_entry_eq]
  generalize (lg_sl ([.ref g0, .int a1, .int a2]) ++ List.replicate (3 - (lg_sl ([.ref g0, .int a1, .int a2])).length) Slot.unset).toArray = ls at hl ⊢
  have hl : lv_has ls 3 [(0, .ref g0), (1, .int a1), (2, .int a2)] := hl
  refine lv_aload_n hx hb dX11_advance_0 rfl (lv_at hl 0 rfl) ?_
  refine lv_iload_n hx hb dX11_advance_1 rfl (lv_at hl 1 rfl) ?_
  have hPc := hP.sub (ws' := [(g0, .inr (11, mF pq))]) [0] rfl
  have hDc := hD.sub (ws' := [(g0, .inr (11, mF pq))]) [0] (by decide) rfl
  have hKc := hK.sub (tys' := []) [] rfl
  have hFc : ∀ q, va_A [] s.heap.size q → A q := pu_free hS hA
  refine va_calli (va_runV (As := [.int a1]) (rest := []) ⟨hx, hb, hml, hown, hts⟩ (c_X11_isAgreement l dC dI s.heap.size g0 pq cp a1) (cwV 1 hts gX11_advance_X11_isAgreement rfl rfl rfl (by decide +kernel) ⟨(Nat.le_of_ble_eq_true rfl), (Nat.le_of_ble_eq_true rfl)⟩) (pr_V (r := (RX11, TX11, 63)) hPc hKc hDc 0 11 rfl rfl) rfl rfl hl.1 rfl (lv_room (Nat.le_of_ble_eq_true rfl)) dX11_advance_2 ⟨(Nat.le_of_ble_eq_true rfl), (Nat.le_of_ble_eq_true rfl)⟩) hS (fun q _ h => hFc q h) hFc (fun r_2 u t H locs ht hvm w_1 hB hz1 hk1 hS => ?_)
  have hP := pu_keep hP hk1
  clear hk1 hz1 hvm hB hPc hDc hKc hFc ht
  subst w_1
  refine lv_if_ne (tgt := 14) hx hb dX11_advance_5 (by decide) (fun c_3 => absurd c_3 (by decide)) (fun _ => ?_)
  refine lv_aload_n hx hb dX11_advance_8 rfl (lv_at hl 0 rfl) ?_
  refine lv_iconst (v := (-1)) hx hb dX11_advance_9 (by decide) ?_
  have hPc := hP.sub (ws' := [(g0, .inr (11, mF pq)), ((pq 0), .inl ((cp 0), 7, .inl (fun _ => 0)))]) [0, 1] rfl
  have hDc := hD.sub (ws' := [(g0, .inr (11, mF pq)), ((pq 0), .inl ((cp 0), 7, .inl (fun _ => 0)))]) [0, 1] (by decide) rfl
  have hKc := hK.sub (tys' := [((cp 0), .int)]) [0] rfl
  have hFc := va_free (wc := [(g0, .inr (11, mF pq)), ((pq 0), .inl ((cp 0), 7, .inl (fun _ => 0)))]) hD hS hA [0, 1] rfl
  refine va_calli (va_runV (As := [.int (-1)]) (rest := []) ⟨hx, hb, hml, hown, hts⟩ (c_X11_refuse l dC dI H.size g0 pq cp (-1) (by unfold vp_in; decide)) (cwV 1 hts gX11_advance_X11_refuse rfl rfl rfl (by decide +kernel) ⟨(Nat.le_of_ble_eq_true rfl), (Nat.le_of_ble_eq_true rfl)⟩) (pr_V (r := (RX11, TX11, 63)) hPc hKc hDc 0 11 rfl rfl) rfl rfl hl.1 rfl (lv_room (Nat.le_of_ble_eq_true rfl)) dX11_advance_10 ⟨(Nat.le_of_ble_eq_true rfl), (Nat.le_of_ble_eq_true rfl)⟩) hS (fun q _ h => hFc q h) hFc (fun r_5 u t H locs ht hvm w_4 hB hz1 hk1 hS => ?_)
  subst w_4
  exact W.iret (v := (-1)) hx hb hr (fun t ht hW => ⟨⟨(-1), (), rfl, rfl, trivial⟩, hS.F ht⟩) hS.2.2 dX11_advance_13
set_option maxHeartbeats 4000000 in
set_option maxRecDepth 100000 in
theorem c_X11_sold (l : Launch) (dC : Nat → ClassId) (dI : Nat → Nat → Nat) (sz : Nat) (g0 : Nat) (pq : Nat → Nat) (cp : Nat → ClassId) (a1 : Int32) (a2 : Int32) : Met l yX11_sold wsX11_sold ({ frames := 2, cells := 0, slots := 0, locals := 42 }) (va_Pc [.ref g0, .int a1, .int a2] (pcW (dC, dI) [((cp 0), .int)] [(g0, .inr (11, mF pq)), ((pq 0), .inl ((cp 0), 7, .inl (fun _ => 0)))] sz)) (va_Qi (fun (r : Int32) (u : Unit) => r = (-1)) (fun _ _ => True) (va_A [(g0, .inr (11, mF pq)), ((pq 0), .inl ((cp 0), 7, .inl (fun _ => 0)))] sz)) 0 0 (va_A [(g0, .inr (11, mF pq)), ((pq 0), .inl ((cp 0), 7, .inl (fun _ => 0)))] sz) := by
  refine Met.ofW (cc := cX11_sold) (maxL := 3) (ret := (some .int)) (by decide) rfl ?_
  intro p e s m args below meth c s₁ B hml hv
  obtain ⟨rfl, hsz, hP, hK, hD0⟩ := hv
  have hx := B.exec
  have hb := B.bytes
  have hr := B.returns
  have hts := atoms_spec (ws := wsX11_sold) B.pre
  have hown : s.vm.findClass RX11 = some m.cls := findClass_of_methodNamed B.named
  have hlocks := B.notSynchronized
  subst hsz
  have hD := hD0.self (sz := s.heap.size)
  generalize hAe : va_A [(g0, .inr (11, mF pq)), ((pq 0), .inl ((cp 0), 7, .inl (fun _ => 0)))] s.heap.size = A at hD ⊢
  have hA : ∀ q : Nat, s.heap.size ≤ q → A q := fun q h => by rw [← hAe]; exact Or.inr h
  have hS : va_S A s.heap s.heap [] := va_S.rf
  have hP : va_P (dC, dI) vwCl [(g0, .inr (11, mF pq)), ((pq 0), .inl ((cp 0), 7, .inl (fun _ => 0)))] s.heap := hP
  have hl := lv_entry ([.ref g0, .int a1, .int a2]) (n := 3) (Nat.le_of_ble_eq_true rfl)
  rw [lg_entry_eq]
  generalize (lg_sl ([.ref g0, .int a1, .int a2]) ++ List.replicate (3 - (lg_sl ([.ref g0, .int a1, .int a2])).length) Slot.unset).toArray = ls at hl ⊢
  have hl : lv_has ls 3 [(0, .ref g0), (1, .int a1), (2, .int a2)] := hl
  refine lv_aload_n hx hb dX11_sold_0 rfl (lv_at hl 0 rfl) ?_
  refine lv_iload_n hx hb dX11_sold_1 rfl (lv_at hl 1 rfl) ?_
  have hPc := hP.sub (ws' := [(g0, .inr (11, mF pq))]) [0] rfl
  have hDc := hD.sub (ws' := [(g0, .inr (11, mF pq))]) [0] (by decide) rfl
  have hKc := hK.sub (tys' := []) [] rfl
  have hFc : ∀ q, va_A [] s.heap.size q → A q := pu_free hS hA
  refine va_calli (va_runV (As := [.int a1]) (rest := []) ⟨hx, hb, hml, hown, hts⟩ (c_X11_isAgreement l dC dI s.heap.size g0 pq cp a1) (cwV 1 hts gX11_sold_X11_isAgreement rfl rfl rfl (by decide +kernel) ⟨(Nat.le_of_ble_eq_true rfl), (Nat.le_of_ble_eq_true rfl)⟩) (pr_V (r := (RX11, TX11, 63)) hPc hKc hDc 0 11 rfl rfl) rfl rfl hl.1 rfl (lv_room (Nat.le_of_ble_eq_true rfl)) dX11_sold_2 ⟨(Nat.le_of_ble_eq_true rfl), (Nat.le_of_ble_eq_true rfl)⟩) hS (fun q _ h => hFc q h) hFc (fun r_2 u t H locs ht hvm w_1 hB hz1 hk1 hS => ?_)
  have hP := pu_keep hP hk1
  clear hk1 hz1 hvm hB hPc hDc hKc hFc ht
  subst w_1
  refine lv_if_ne (tgt := 14) hx hb dX11_sold_5 (by decide) (fun c_3 => absurd c_3 (by decide)) (fun _ => ?_)
  refine lv_aload_n hx hb dX11_sold_8 rfl (lv_at hl 0 rfl) ?_
  refine lv_iconst (v := (-1)) hx hb dX11_sold_9 (by decide) ?_
  have hPc := hP.sub (ws' := [(g0, .inr (11, mF pq)), ((pq 0), .inl ((cp 0), 7, .inl (fun _ => 0)))]) [0, 1] rfl
  have hDc := hD.sub (ws' := [(g0, .inr (11, mF pq)), ((pq 0), .inl ((cp 0), 7, .inl (fun _ => 0)))]) [0, 1] (by decide) rfl
  have hKc := hK.sub (tys' := [((cp 0), .int)]) [0] rfl
  have hFc := va_free (wc := [(g0, .inr (11, mF pq)), ((pq 0), .inl ((cp 0), 7, .inl (fun _ => 0)))]) hD hS hA [0, 1] rfl
  refine va_calli (va_runV (As := [.int (-1)]) (rest := []) ⟨hx, hb, hml, hown, hts⟩ (c_X11_refuse l dC dI H.size g0 pq cp (-1) (by unfold vp_in; decide)) (cwV 1 hts gX11_sold_X11_refuse rfl rfl rfl (by decide +kernel) ⟨(Nat.le_of_ble_eq_true rfl), (Nat.le_of_ble_eq_true rfl)⟩) (pr_V (r := (RX11, TX11, 63)) hPc hKc hDc 0 11 rfl rfl) rfl rfl hl.1 rfl (lv_room (Nat.le_of_ble_eq_true rfl)) dX11_sold_10 ⟨(Nat.le_of_ble_eq_true rfl), (Nat.le_of_ble_eq_true rfl)⟩) hS (fun q _ h => hFc q h) hFc (fun r_5 u t H locs ht hvm w_4 hB hz1 hk1 hS => ?_)
  subst w_4
  exact W.iret (v := (-1)) hx hb hr (fun t ht hW => ⟨⟨(-1), (), rfl, rfl, trivial⟩, hS.F ht⟩) hS.2.2 dX11_sold_13
set_option maxHeartbeats 4000000 in
set_option maxRecDepth 100000 in
theorem c_X11_allot (l : Launch) (dC : Nat → ClassId) (dI : Nat → Nat → Nat) (sz : Nat) (g0 : Nat) (pq : Nat → Nat) (cp : Nat → ClassId) (a1 : Int32) (a2 : Int32) : Met l yX11_allot wsX11_allot ({ frames := 2, cells := 0, slots := 0, locals := 42 }) (va_Pc [.ref g0, .int a1, .int a2] (pcW (dC, dI) [((cp 0), .int)] [(g0, .inr (11, mF pq)), ((pq 0), .inl ((cp 0), 7, .inl (fun _ => 0)))] sz)) (va_Qi (fun (r : Int32) (u : Unit) => r = (-1)) (fun _ _ => True) (va_A [(g0, .inr (11, mF pq)), ((pq 0), .inl ((cp 0), 7, .inl (fun _ => 0)))] sz)) 0 0 (va_A [(g0, .inr (11, mF pq)), ((pq 0), .inl ((cp 0), 7, .inl (fun _ => 0)))] sz) := by
  refine Met.ofW (cc := cX11_allot) (maxL := 3) (ret := (some .int)) (by decide) rfl ?_
  intro p e s m args below meth c s₁ B hml hv
  obtain ⟨rfl, hsz, hP, hK, hD0⟩ := hv
  have hx := B.exec
  have hb := B.bytes
  have hr := B.returns
  have hts := atoms_spec (ws := wsX11_allot) B.pre
  have hown : s.vm.findClass RX11 = some m.cls := findClass_of_methodNamed B.named
  have hlocks := B.notSynchronized
  subst hsz
  have hD := hD0.self (sz := s.heap.size)
  generalize hAe : va_A [(g0, .inr (11, mF pq)), ((pq 0), .inl ((cp 0), 7, .inl (fun _ => 0)))] s.heap.size = A at hD ⊢
  have hA : ∀ q : Nat, s.heap.size ≤ q → A q := fun q h => by rw [← hAe]; exact Or.inr h
  have hS : va_S A s.heap s.heap [] := va_S.rf
  have hP : va_P (dC, dI) vwCl [(g0, .inr (11, mF pq)), ((pq 0), .inl ((cp 0), 7, .inl (fun _ => 0)))] s.heap := hP
  have hl := lv_entry ([.ref g0, .int a1, .int a2]) (n := 3) (Nat.le_of_ble_eq_true rfl)
  rw [lg_entry_eq]
  generalize (lg_sl ([.ref g0, .int a1, .int a2]) ++ List.replicate (3 - (lg_sl ([.ref g0, .int a1, .int a2])).length) Slot.unset).toArray = ls at hl ⊢
  have hl : lv_has ls 3 [(0, .ref g0), (1, .int a1), (2, .int a2)] := hl
  refine lv_aload_n hx hb dX11_allot_0 rfl (lv_at hl 0 rfl) ?_
  refine lv_iload_n hx hb dX11_allot_1 rfl (lv_at hl 1 rfl) ?_
  have hPc := hP.sub (ws' := [(g0, .inr (11, mF pq))]) [0] rfl
  have hDc := hD.sub (ws' := [(g0, .inr (11, mF pq))]) [0] (by decide) rfl
  have hKc := hK.sub (tys' := []) [] rfl
  have hFc : ∀ q, va_A [] s.heap.size q → A q := pu_free hS hA
  refine va_calli (va_runV (As := [.int a1]) (rest := []) ⟨hx, hb, hml, hown, hts⟩ (c_X11_isAgreement l dC dI s.heap.size g0 pq cp a1) (cwV 1 hts gX11_allot_X11_isAgreement rfl rfl rfl (by decide +kernel) ⟨(Nat.le_of_ble_eq_true rfl), (Nat.le_of_ble_eq_true rfl)⟩) (pr_V (r := (RX11, TX11, 63)) hPc hKc hDc 0 11 rfl rfl) rfl rfl hl.1 rfl (lv_room (Nat.le_of_ble_eq_true rfl)) dX11_allot_2 ⟨(Nat.le_of_ble_eq_true rfl), (Nat.le_of_ble_eq_true rfl)⟩) hS (fun q _ h => hFc q h) hFc (fun r_2 u t H locs ht hvm w_1 hB hz1 hk1 hS => ?_)
  have hP := pu_keep hP hk1
  clear hk1 hz1 hvm hB hPc hDc hKc hFc ht
  subst w_1
  refine lv_if_ne (tgt := 14) hx hb dX11_allot_5 (by decide) (fun c_3 => absurd c_3 (by decide)) (fun _ => ?_)
  refine lv_aload_n hx hb dX11_allot_8 rfl (lv_at hl 0 rfl) ?_
  refine lv_iconst (v := (-1)) hx hb dX11_allot_9 (by decide) ?_
  have hPc := hP.sub (ws' := [(g0, .inr (11, mF pq)), ((pq 0), .inl ((cp 0), 7, .inl (fun _ => 0)))]) [0, 1] rfl
  have hDc := hD.sub (ws' := [(g0, .inr (11, mF pq)), ((pq 0), .inl ((cp 0), 7, .inl (fun _ => 0)))]) [0, 1] (by decide) rfl
  have hKc := hK.sub (tys' := [((cp 0), .int)]) [0] rfl
  have hFc := va_free (wc := [(g0, .inr (11, mF pq)), ((pq 0), .inl ((cp 0), 7, .inl (fun _ => 0)))]) hD hS hA [0, 1] rfl
  refine va_calli (va_runV (As := [.int (-1)]) (rest := []) ⟨hx, hb, hml, hown, hts⟩ (c_X11_refuse l dC dI H.size g0 pq cp (-1) (by unfold vp_in; decide)) (cwV 1 hts gX11_allot_X11_refuse rfl rfl rfl (by decide +kernel) ⟨(Nat.le_of_ble_eq_true rfl), (Nat.le_of_ble_eq_true rfl)⟩) (pr_V (r := (RX11, TX11, 63)) hPc hKc hDc 0 11 rfl rfl) rfl rfl hl.1 rfl (lv_room (Nat.le_of_ble_eq_true rfl)) dX11_allot_10 ⟨(Nat.le_of_ble_eq_true rfl), (Nat.le_of_ble_eq_true rfl)⟩) hS (fun q _ h => hFc q h) hFc (fun r_5 u t H locs ht hvm w_4 hB hz1 hk1 hS => ?_)
  subst w_4
  exact W.iret (v := (-1)) hx hb hr (fun t ht hW => ⟨⟨(-1), (), rfl, rfl, trivial⟩, hS.F ht⟩) hS.2.2 dX11_allot_13
set_option maxHeartbeats 4000000 in
set_option maxRecDepth 100000 in
theorem c_X11_fine (l : Launch) (dC : Nat → ClassId) (dI : Nat → Nat → Nat) (sz : Nat) (g0 : Nat) (pq : Nat → Nat) (cp : Nat → ClassId) (a1 : Int32) (a2 : Int32) (a3 : Int32) (a4 : Int32) : Met l yX11_fine wsX11_fine ({ frames := 2, cells := 0, slots := 0, locals := 42 }) (va_Pc [.ref g0, .int a1, .int a2, .int a3, .int a4] (pcW (dC, dI) [((cp 0), .int)] [(g0, .inr (11, mF pq)), ((pq 0), .inl ((cp 0), 7, .inl (fun _ => 0)))] sz)) (va_Qi (fun (r : Int32) (u : Unit) => r = (-1)) (fun _ _ => True) (va_A [(g0, .inr (11, mF pq)), ((pq 0), .inl ((cp 0), 7, .inl (fun _ => 0)))] sz)) 0 0 (va_A [(g0, .inr (11, mF pq)), ((pq 0), .inl ((cp 0), 7, .inl (fun _ => 0)))] sz) := by
  refine Met.ofW (cc := cX11_fine) (maxL := 6) (ret := (some .int)) (by decide) rfl ?_
  intro p e s m args below meth c s₁ B hml hv
  obtain ⟨rfl, hsz, hP, hK, hD0⟩ := hv
  have hx := B.exec
  have hb := B.bytes
  have hr := B.returns
  have hts := atoms_spec (ws := wsX11_fine) B.pre
  have hown : s.vm.findClass RX11 = some m.cls := findClass_of_methodNamed B.named
  have hlocks := B.notSynchronized
  subst hsz
  have hD := hD0.self (sz := s.heap.size)
  generalize hAe : va_A [(g0, .inr (11, mF pq)), ((pq 0), .inl ((cp 0), 7, .inl (fun _ => 0)))] s.heap.size = A at hD ⊢
  have hA : ∀ q : Nat, s.heap.size ≤ q → A q := fun q h => by rw [← hAe]; exact Or.inr h
  have hS : va_S A s.heap s.heap [] := va_S.rf
  have hP : va_P (dC, dI) vwCl [(g0, .inr (11, mF pq)), ((pq 0), .inl ((cp 0), 7, .inl (fun _ => 0)))] s.heap := hP
  have hl := lv_entry ([.ref g0, .int a1, .int a2, .int a3, .int a4]) (n := 6) (Nat.le_of_ble_eq_true rfl)
  rw [lg_entry_eq]
  generalize (lg_sl ([.ref g0, .int a1, .int a2, .int a3, .int a4]) ++ List.replicate (6 - (lg_sl ([.ref g0, .int a1, .int a2, .int a3, .int a4])).length) Slot.unset).toArray = ls at hl ⊢
  have hl : lv_has ls 6 [(0, .ref g0), (1, .int a1), (2, .int a2), (3, .int a3), (4, .int a4)] := hl
  refine lv_aload_n hx hb dX11_fine_0 rfl (lv_at hl 0 rfl) ?_
  refine lv_iload_n hx hb dX11_fine_1 rfl (lv_at hl 1 rfl) ?_
  have hPc := hP.sub (ws' := [(g0, .inr (11, mF pq))]) [0] rfl
  have hDc := hD.sub (ws' := [(g0, .inr (11, mF pq))]) [0] (by decide) rfl
  have hKc := hK.sub (tys' := []) [] rfl
  have hFc : ∀ q, va_A [] s.heap.size q → A q := pu_free hS hA
  refine va_calli (va_runV (As := [.int a1]) (rest := []) ⟨hx, hb, hml, hown, hts⟩ (c_X11_isAgreement l dC dI s.heap.size g0 pq cp a1) (cwV 1 hts gX11_fine_X11_isAgreement rfl rfl rfl (by decide +kernel) ⟨(Nat.le_of_ble_eq_true rfl), (Nat.le_of_ble_eq_true rfl)⟩) (pr_V (r := (RX11, TX11, 63)) hPc hKc hDc 0 11 rfl rfl) rfl rfl hl.1 rfl (lv_room (Nat.le_of_ble_eq_true rfl)) dX11_fine_2 ⟨(Nat.le_of_ble_eq_true rfl), (Nat.le_of_ble_eq_true rfl)⟩) hS (fun q _ h => hFc q h) hFc (fun r_2 u t H locs ht hvm w_1 hB hz1 hk1 hS => ?_)
  have hP := pu_keep hP hk1
  clear hk1 hz1 hvm hB hPc hDc hKc hFc ht
  subst w_1
  refine lv_if_ne (tgt := 14) hx hb dX11_fine_5 (by decide) (fun c_3 => absurd c_3 (by decide)) (fun _ => ?_)
  refine lv_aload_n hx hb dX11_fine_8 rfl (lv_at hl 0 rfl) ?_
  refine lv_iconst (v := (-1)) hx hb dX11_fine_9 (by decide) ?_
  have hPc := hP.sub (ws' := [(g0, .inr (11, mF pq)), ((pq 0), .inl ((cp 0), 7, .inl (fun _ => 0)))]) [0, 1] rfl
  have hDc := hD.sub (ws' := [(g0, .inr (11, mF pq)), ((pq 0), .inl ((cp 0), 7, .inl (fun _ => 0)))]) [0, 1] (by decide) rfl
  have hKc := hK.sub (tys' := [((cp 0), .int)]) [0] rfl
  have hFc := va_free (wc := [(g0, .inr (11, mF pq)), ((pq 0), .inl ((cp 0), 7, .inl (fun _ => 0)))]) hD hS hA [0, 1] rfl
  refine va_calli (va_runV (As := [.int (-1)]) (rest := []) ⟨hx, hb, hml, hown, hts⟩ (c_X11_refuse l dC dI H.size g0 pq cp (-1) (by unfold vp_in; decide)) (cwV 1 hts gX11_fine_X11_refuse rfl rfl rfl (by decide +kernel) ⟨(Nat.le_of_ble_eq_true rfl), (Nat.le_of_ble_eq_true rfl)⟩) (pr_V (r := (RX11, TX11, 63)) hPc hKc hDc 0 11 rfl rfl) rfl rfl hl.1 rfl (lv_room (Nat.le_of_ble_eq_true rfl)) dX11_fine_10 ⟨(Nat.le_of_ble_eq_true rfl), (Nat.le_of_ble_eq_true rfl)⟩) hS (fun q _ h => hFc q h) hFc (fun r_5 u t H locs ht hvm w_4 hB hz1 hk1 hS => ?_)
  subst w_4
  exact W.iret (v := (-1)) hx hb hr (fun t ht hW => ⟨⟨(-1), (), rfl, rfl, trivial⟩, hS.F ht⟩) hS.2.2 dX11_fine_13
set_option maxHeartbeats 4000000 in
set_option maxRecDepth 100000 in
theorem c_X11_read (l : Launch) (dC : Nat → ClassId) (dI : Nat → Nat → Nat) (sz : Nat) (g0 : Nat) (pq : Nat → Nat) (cp : Nat → ClassId) (a1 : Int32) (a2 : Int32) : Met l yX11_read wsX11_read ({ frames := 3, cells := 0, slots := 0, locals := 64 }) (va_Pc [.ref g0, .int a1, .int a2] (pcW (dC, dI) [((cp 0), .int)] [(g0, .inr (11, mF pq)), ((pq 0), .inl ((cp 0), 7, .inl (fun _ => 0)))] sz)) (va_Qi (fun (r : Int32) (u : Unit) => r = (-1)) (fun _ _ => True) (va_A [(g0, .inr (11, mF pq)), ((pq 0), .inl ((cp 0), 7, .inl (fun _ => 0)))] sz)) 0 0 (va_A [(g0, .inr (11, mF pq)), ((pq 0), .inl ((cp 0), 7, .inl (fun _ => 0)))] sz) := by
  refine Met.ofW (cc := cX11_read) (maxL := 3) (ret := (some .int)) (by decide) rfl ?_
  intro p e s m args below meth c s₁ B hml hv
  obtain ⟨rfl, hsz, hP, hK, hD0⟩ := hv
  have hx := B.exec
  have hb := B.bytes
  have hr := B.returns
  have hts := atoms_spec (ws := wsX11_read) B.pre
  have hown : s.vm.findClass RX11 = some m.cls := findClass_of_methodNamed B.named
  have hlocks := B.notSynchronized
  subst hsz
  have hD := hD0.self (sz := s.heap.size)
  generalize hAe : va_A [(g0, .inr (11, mF pq)), ((pq 0), .inl ((cp 0), 7, .inl (fun _ => 0)))] s.heap.size = A at hD ⊢
  have hA : ∀ q : Nat, s.heap.size ≤ q → A q := fun q h => by rw [← hAe]; exact Or.inr h
  have hS : va_S A s.heap s.heap [] := va_S.rf
  have hP : va_P (dC, dI) vwCl [(g0, .inr (11, mF pq)), ((pq 0), .inl ((cp 0), 7, .inl (fun _ => 0)))] s.heap := hP
  have hl := lv_entry ([.ref g0, .int a1, .int a2]) (n := 3) (Nat.le_of_ble_eq_true rfl)
  rw [lg_entry_eq]
  generalize (lg_sl ([.ref g0, .int a1, .int a2]) ++ List.replicate (3 - (lg_sl ([.ref g0, .int a1, .int a2])).length) Slot.unset).toArray = ls at hl ⊢
  have hl : lv_has ls 3 [(0, .ref g0), (1, .int a1), (2, .int a2)] := hl
  refine lv_aload_n hx hb dX11_read_0 rfl (lv_at hl 0 rfl) ?_
  refine lv_iload_n hx hb dX11_read_1 rfl (lv_at hl 1 rfl) ?_
  refine lv_iload_n hx hb dX11_read_2 rfl (lv_at hl 2 rfl) ?_
  have hPc := hP.sub (ws' := [(g0, .inr (11, mF pq))]) [0] rfl
  have hDc := hD.sub (ws' := [(g0, .inr (11, mF pq))]) [0] (by decide) rfl
  have hKc := hK.sub (tys' := []) [] rfl
  have hFc : ∀ q, va_A [] s.heap.size q → A q := pu_free hS hA
  refine va_calli (va_runV (As := [.int a1, .int a2]) (rest := []) ⟨hx, hb, hml, hown, hts⟩ (c_X11_isFine l dC dI s.heap.size g0 pq cp a1 a2) (cwV 2 hts gX11_read_X11_isFine rfl rfl rfl (by decide +kernel) ⟨(Nat.le_of_ble_eq_true rfl), (Nat.le_of_ble_eq_true rfl)⟩) (pr_V (r := (RX11, TX11, 63)) hPc hKc hDc 0 11 rfl rfl) rfl rfl hl.1 rfl (lv_room (Nat.le_of_ble_eq_true rfl)) dX11_read_3 ⟨(Nat.le_of_ble_eq_true rfl), (Nat.le_of_ble_eq_true rfl)⟩) hS (fun q _ h => hFc q h) hFc (fun r_2 u t H locs ht hvm w_1 hB hz1 hk1 hS => ?_)
  have hP := pu_keep hP hk1
  clear hk1 hz1 hvm hB hPc hDc hKc hFc ht
  subst w_1
  refine lv_if_ne (tgt := 15) hx hb dX11_read_6 (by decide) (fun c_3 => absurd c_3 (by decide)) (fun _ => ?_)
  refine lv_aload_n hx hb dX11_read_9 rfl (lv_at hl 0 rfl) ?_
  refine lv_iconst (v := (-1)) hx hb dX11_read_10 (by decide) ?_
  have hPc := hP.sub (ws' := [(g0, .inr (11, mF pq)), ((pq 0), .inl ((cp 0), 7, .inl (fun _ => 0)))]) [0, 1] rfl
  have hDc := hD.sub (ws' := [(g0, .inr (11, mF pq)), ((pq 0), .inl ((cp 0), 7, .inl (fun _ => 0)))]) [0, 1] (by decide) rfl
  have hKc := hK.sub (tys' := [((cp 0), .int)]) [0] rfl
  have hFc := va_free (wc := [(g0, .inr (11, mF pq)), ((pq 0), .inl ((cp 0), 7, .inl (fun _ => 0)))]) hD hS hA [0, 1] rfl
  refine va_calli (va_runV (As := [.int (-1)]) (rest := []) ⟨hx, hb, hml, hown, hts⟩ (c_X11_refuse l dC dI H.size g0 pq cp (-1) (by unfold vp_in; decide)) (cwV 1 hts gX11_read_X11_refuse rfl rfl rfl (by decide +kernel) ⟨(Nat.le_of_ble_eq_true rfl), (Nat.le_of_ble_eq_true rfl)⟩) (pr_V (r := (RX11, TX11, 63)) hPc hKc hDc 0 11 rfl rfl) rfl rfl hl.1 rfl (lv_room (Nat.le_of_ble_eq_true rfl)) dX11_read_11 ⟨(Nat.le_of_ble_eq_true rfl), (Nat.le_of_ble_eq_true rfl)⟩) hS (fun q _ h => hFc q h) hFc (fun r_5 u t H locs ht hvm w_4 hB hz1 hk1 hS => ?_)
  subst w_4
  exact W.iret (v := (-1)) hx hb hr (fun t ht hW => ⟨⟨(-1), (), rfl, rfl, trivial⟩, hS.F ht⟩) hS.2.2 dX11_read_14
set_option maxHeartbeats 4000000 in
set_option maxRecDepth 100000 in
theorem c_X11_stands (l : Launch) (dC : Nat → ClassId) (dI : Nat → Nat → Nat) (sz : Nat) (g0 : Nat) (pq : Nat → Nat) (cp : Nat → ClassId) (a1 : Int32) (a2 : Int32) (a3 : Int32) : Met l yX11_stands wsX11_stands ({ frames := 3, cells := 0, slots := 0, locals := 64 }) (va_Pc [.ref g0, .int a1, .int a2, .int a3] (pcW (dC, dI) [((cp 0), .int)] [(g0, .inr (11, mF pq)), ((pq 0), .inl ((cp 0), 7, .inl (fun _ => 0)))] sz)) (va_Qi (fun (r : Int32) (u : Unit) => r = (-1)) (fun _ _ => True) (va_A [(g0, .inr (11, mF pq)), ((pq 0), .inl ((cp 0), 7, .inl (fun _ => 0)))] sz)) 0 0 (va_A [(g0, .inr (11, mF pq)), ((pq 0), .inl ((cp 0), 7, .inl (fun _ => 0)))] sz) := by
  refine Met.ofW (cc := cX11_stands) (maxL := 4) (ret := (some .int)) (by decide) rfl ?_
  intro p e s m args below meth c s₁ B hml hv
  obtain ⟨rfl, hsz, hP, hK, hD0⟩ := hv
  have hx := B.exec
  have hb := B.bytes
  have hr := B.returns
  have hts := atoms_spec (ws := wsX11_stands) B.pre
  have hown : s.vm.findClass RX11 = some m.cls := findClass_of_methodNamed B.named
  have hlocks := B.notSynchronized
  subst hsz
  have hD := hD0.self (sz := s.heap.size)
  generalize hAe : va_A [(g0, .inr (11, mF pq)), ((pq 0), .inl ((cp 0), 7, .inl (fun _ => 0)))] s.heap.size = A at hD ⊢
  have hA : ∀ q : Nat, s.heap.size ≤ q → A q := fun q h => by rw [← hAe]; exact Or.inr h
  have hS : va_S A s.heap s.heap [] := va_S.rf
  have hP : va_P (dC, dI) vwCl [(g0, .inr (11, mF pq)), ((pq 0), .inl ((cp 0), 7, .inl (fun _ => 0)))] s.heap := hP
  have hl := lv_entry ([.ref g0, .int a1, .int a2, .int a3]) (n := 4) (Nat.le_of_ble_eq_true rfl)
  rw [lg_entry_eq]
  generalize (lg_sl ([.ref g0, .int a1, .int a2, .int a3]) ++ List.replicate (4 - (lg_sl ([.ref g0, .int a1, .int a2, .int a3])).length) Slot.unset).toArray = ls at hl ⊢
  have hl : lv_has ls 4 [(0, .ref g0), (1, .int a1), (2, .int a2), (3, .int a3)] := hl
  refine lv_aload_n hx hb dX11_stands_0 rfl (lv_at hl 0 rfl) ?_
  refine lv_iload_n hx hb dX11_stands_1 rfl (lv_at hl 1 rfl) ?_
  refine lv_iload_n hx hb dX11_stands_2 rfl (lv_at hl 2 rfl) ?_
  have hPc := hP.sub (ws' := [(g0, .inr (11, mF pq))]) [0] rfl
  have hDc := hD.sub (ws' := [(g0, .inr (11, mF pq))]) [0] (by decide) rfl
  have hKc := hK.sub (tys' := []) [] rfl
  have hFc : ∀ q, va_A [] s.heap.size q → A q := pu_free hS hA
  refine va_calli (va_runV (As := [.int a1, .int a2]) (rest := []) ⟨hx, hb, hml, hown, hts⟩ (c_X11_isFine l dC dI s.heap.size g0 pq cp a1 a2) (cwV 2 hts gX11_stands_X11_isFine rfl rfl rfl (by decide +kernel) ⟨(Nat.le_of_ble_eq_true rfl), (Nat.le_of_ble_eq_true rfl)⟩) (pr_V (r := (RX11, TX11, 63)) hPc hKc hDc 0 11 rfl rfl) rfl rfl hl.1 rfl (lv_room (Nat.le_of_ble_eq_true rfl)) dX11_stands_3 ⟨(Nat.le_of_ble_eq_true rfl), (Nat.le_of_ble_eq_true rfl)⟩) hS (fun q _ h => hFc q h) hFc (fun r_2 u t H locs ht hvm w_1 hB hz1 hk1 hS => ?_)
  have hP := pu_keep hP hk1
  clear hk1 hz1 hvm hB hPc hDc hKc hFc ht
  subst w_1
  refine lv_if_ne (tgt := 15) hx hb dX11_stands_6 (by decide) (fun c_3 => absurd c_3 (by decide)) (fun _ => ?_)
  refine lv_aload_n hx hb dX11_stands_9 rfl (lv_at hl 0 rfl) ?_
  refine lv_iconst (v := (-1)) hx hb dX11_stands_10 (by decide) ?_
  have hPc := hP.sub (ws' := [(g0, .inr (11, mF pq)), ((pq 0), .inl ((cp 0), 7, .inl (fun _ => 0)))]) [0, 1] rfl
  have hDc := hD.sub (ws' := [(g0, .inr (11, mF pq)), ((pq 0), .inl ((cp 0), 7, .inl (fun _ => 0)))]) [0, 1] (by decide) rfl
  have hKc := hK.sub (tys' := [((cp 0), .int)]) [0] rfl
  have hFc := va_free (wc := [(g0, .inr (11, mF pq)), ((pq 0), .inl ((cp 0), 7, .inl (fun _ => 0)))]) hD hS hA [0, 1] rfl
  refine va_calli (va_runV (As := [.int (-1)]) (rest := []) ⟨hx, hb, hml, hown, hts⟩ (c_X11_refuse l dC dI H.size g0 pq cp (-1) (by unfold vp_in; decide)) (cwV 1 hts gX11_stands_X11_refuse rfl rfl rfl (by decide +kernel) ⟨(Nat.le_of_ble_eq_true rfl), (Nat.le_of_ble_eq_true rfl)⟩) (pr_V (r := (RX11, TX11, 63)) hPc hKc hDc 0 11 rfl rfl) rfl rfl hl.1 rfl (lv_room (Nat.le_of_ble_eq_true rfl)) dX11_stands_11 ⟨(Nat.le_of_ble_eq_true rfl), (Nat.le_of_ble_eq_true rfl)⟩) hS (fun q _ h => hFc q h) hFc (fun r_5 u t H locs ht hvm w_4 hB hz1 hk1 hS => ?_)
  subst w_4
  exact W.iret (v := (-1)) hx hb hr (fun t ht hW => ⟨⟨(-1), (), rfl, rfl, trivial⟩, hS.F ht⟩) hS.2.2 dX11_stands_14
set_option maxHeartbeats 4000000 in
set_option maxRecDepth 100000 in
theorem c_X11_rations (l : Launch) (dC : Nat → ClassId) (dI : Nat → Nat → Nat) (sz : Nat) (g0 : Nat) (pq : Nat → Nat) (cp : Nat → ClassId) (a1 : Int32) (a2 : Int32) (a3 : Int32) : Met l yX11_rations wsX11_rations ({ frames := 2, cells := 0, slots := 0, locals := 42 }) (va_Pc [.ref g0, .int a1, .int a2, .int a3] (pcW (dC, dI) [((cp 0), .int)] [(g0, .inr (11, mF pq)), ((pq 0), .inl ((cp 0), 7, .inl (fun _ => 0)))] sz)) (va_Qi (fun (r : Int32) (u : Unit) => r = (-1)) (fun _ _ => True) (va_A [(g0, .inr (11, mF pq)), ((pq 0), .inl ((cp 0), 7, .inl (fun _ => 0)))] sz)) 0 0 (va_A [(g0, .inr (11, mF pq)), ((pq 0), .inl ((cp 0), 7, .inl (fun _ => 0)))] sz) := by
  refine Met.ofW (cc := cX11_rations) (maxL := 5) (ret := (some .int)) (by decide) rfl ?_
  intro p e s m args below meth c s₁ B hml hv
  obtain ⟨rfl, hsz, hP, hK, hD0⟩ := hv
  have hx := B.exec
  have hb := B.bytes
  have hr := B.returns
  have hts := atoms_spec (ws := wsX11_rations) B.pre
  have hown : s.vm.findClass RX11 = some m.cls := findClass_of_methodNamed B.named
  have hlocks := B.notSynchronized
  subst hsz
  have hD := hD0.self (sz := s.heap.size)
  generalize hAe : va_A [(g0, .inr (11, mF pq)), ((pq 0), .inl ((cp 0), 7, .inl (fun _ => 0)))] s.heap.size = A at hD ⊢
  have hA : ∀ q : Nat, s.heap.size ≤ q → A q := fun q h => by rw [← hAe]; exact Or.inr h
  have hS : va_S A s.heap s.heap [] := va_S.rf
  have hP : va_P (dC, dI) vwCl [(g0, .inr (11, mF pq)), ((pq 0), .inl ((cp 0), 7, .inl (fun _ => 0)))] s.heap := hP
  have hl := lv_entry ([.ref g0, .int a1, .int a2, .int a3]) (n := 5) (Nat.le_of_ble_eq_true rfl)
  rw [lg_entry_eq]
  generalize (lg_sl ([.ref g0, .int a1, .int a2, .int a3]) ++ List.replicate (5 - (lg_sl ([.ref g0, .int a1, .int a2, .int a3])).length) Slot.unset).toArray = ls at hl ⊢
  have hl : lv_has ls 5 [(0, .ref g0), (1, .int a1), (2, .int a2), (3, .int a3)] := hl
  refine lv_aload_n hx hb dX11_rations_0 rfl (lv_at hl 0 rfl) ?_
  refine lv_iload_n hx hb dX11_rations_1 rfl (lv_at hl 1 rfl) ?_
  have hPc := hP.sub (ws' := [(g0, .inr (11, mF pq))]) [0] rfl
  have hDc := hD.sub (ws' := [(g0, .inr (11, mF pq))]) [0] (by decide) rfl
  have hKc := hK.sub (tys' := []) [] rfl
  have hFc : ∀ q, va_A [] s.heap.size q → A q := pu_free hS hA
  refine va_calli (va_runV (As := [.int a1]) (rest := []) ⟨hx, hb, hml, hown, hts⟩ (c_X11_isAgreement l dC dI s.heap.size g0 pq cp a1) (cwV 1 hts gX11_rations_X11_isAgreement rfl rfl rfl (by decide +kernel) ⟨(Nat.le_of_ble_eq_true rfl), (Nat.le_of_ble_eq_true rfl)⟩) (pr_V (r := (RX11, TX11, 63)) hPc hKc hDc 0 11 rfl rfl) rfl rfl hl.1 rfl (lv_room (Nat.le_of_ble_eq_true rfl)) dX11_rations_2 ⟨(Nat.le_of_ble_eq_true rfl), (Nat.le_of_ble_eq_true rfl)⟩) hS (fun q _ h => hFc q h) hFc (fun r_2 u t H locs ht hvm w_1 hB hz1 hk1 hS => ?_)
  have hP := pu_keep hP hk1
  clear hk1 hz1 hvm hB hPc hDc hKc hFc ht
  subst w_1
  refine lv_if_ne (tgt := 14) hx hb dX11_rations_5 (by decide) (fun c_3 => absurd c_3 (by decide)) (fun _ => ?_)
  refine lv_aload_n hx hb dX11_rations_8 rfl (lv_at hl 0 rfl) ?_
  refine lv_iconst (v := (-1)) hx hb dX11_rations_9 (by decide) ?_
  have hPc := hP.sub (ws' := [(g0, .inr (11, mF pq)), ((pq 0), .inl ((cp 0), 7, .inl (fun _ => 0)))]) [0, 1] rfl
  have hDc := hD.sub (ws' := [(g0, .inr (11, mF pq)), ((pq 0), .inl ((cp 0), 7, .inl (fun _ => 0)))]) [0, 1] (by decide) rfl
  have hKc := hK.sub (tys' := [((cp 0), .int)]) [0] rfl
  have hFc := va_free (wc := [(g0, .inr (11, mF pq)), ((pq 0), .inl ((cp 0), 7, .inl (fun _ => 0)))]) hD hS hA [0, 1] rfl
  refine va_calli (va_runV (As := [.int (-1)]) (rest := []) ⟨hx, hb, hml, hown, hts⟩ (c_X11_refuse l dC dI H.size g0 pq cp (-1) (by unfold vp_in; decide)) (cwV 1 hts gX11_rations_X11_refuse rfl rfl rfl (by decide +kernel) ⟨(Nat.le_of_ble_eq_true rfl), (Nat.le_of_ble_eq_true rfl)⟩) (pr_V (r := (RX11, TX11, 63)) hPc hKc hDc 0 11 rfl rfl) rfl rfl hl.1 rfl (lv_room (Nat.le_of_ble_eq_true rfl)) dX11_rations_10 ⟨(Nat.le_of_ble_eq_true rfl), (Nat.le_of_ble_eq_true rfl)⟩) hS (fun q _ h => hFc q h) hFc (fun r_5 u t H locs ht hvm w_4 hB hz1 hk1 hS => ?_)
  subst w_4
  exact W.iret (v := (-1)) hx hb hr (fun t ht hW => ⟨⟨(-1), (), rfl, rfl, trivial⟩, hS.F ht⟩) hS.2.2 dX11_rations_13
set_option maxHeartbeats 4000000 in
set_option maxRecDepth 100000 in
theorem c_X11_agreementOf (l : Launch) (dC : Nat → ClassId) (dI : Nat → Nat → Nat) (sz : Nat) (g0 : Nat) (pq : Nat → Nat) (cp : Nat → ClassId) (a1 : Int32) (a2 : Int32) : Met l yX11_agreementOf wsX11_agreementOf ({ frames := 2, cells := 0, slots := 0, locals := 42 }) (va_Pc [.ref g0, .int a1, .int a2] (pcW (dC, dI) [((cp 0), .int)] [(g0, .inr (11, mF pq)), ((pq 0), .inl ((cp 0), 7, .inl (fun _ => 0)))] sz)) (va_Qi (fun (r : Int32) (u : Unit) => r = (-1)) (fun _ _ => True) (va_A [(g0, .inr (11, mF pq)), ((pq 0), .inl ((cp 0), 7, .inl (fun _ => 0)))] sz)) 0 0 (va_A [(g0, .inr (11, mF pq)), ((pq 0), .inl ((cp 0), 7, .inl (fun _ => 0)))] sz) := by
  refine Met.ofW (cc := cX11_agreementOf) (maxL := 3) (ret := (some .int)) (by decide) rfl ?_
  intro p e s m args below meth c s₁ B hml hv
  obtain ⟨rfl, hsz, hP, hK, hD0⟩ := hv
  have hx := B.exec
  have hb := B.bytes
  have hr := B.returns
  have hts := atoms_spec (ws := wsX11_agreementOf) B.pre
  have hown : s.vm.findClass RX11 = some m.cls := findClass_of_methodNamed B.named
  have hlocks := B.notSynchronized
  subst hsz
  have hD := hD0.self (sz := s.heap.size)
  generalize hAe : va_A [(g0, .inr (11, mF pq)), ((pq 0), .inl ((cp 0), 7, .inl (fun _ => 0)))] s.heap.size = A at hD ⊢
  have hA : ∀ q : Nat, s.heap.size ≤ q → A q := fun q h => by rw [← hAe]; exact Or.inr h
  have hS : va_S A s.heap s.heap [] := va_S.rf
  have hP : va_P (dC, dI) vwCl [(g0, .inr (11, mF pq)), ((pq 0), .inl ((cp 0), 7, .inl (fun _ => 0)))] s.heap := hP
  have hl := lv_entry ([.ref g0, .int a1, .int a2]) (n := 3) (Nat.le_of_ble_eq_true rfl)
  rw [lg_entry_eq]
  generalize (lg_sl ([.ref g0, .int a1, .int a2]) ++ List.replicate (3 - (lg_sl ([.ref g0, .int a1, .int a2])).length) Slot.unset).toArray = ls at hl ⊢
  have hl : lv_has ls 3 [(0, .ref g0), (1, .int a1), (2, .int a2)] := hl
  refine lv_aload_n hx hb dX11_agreementOf_0 rfl (lv_at hl 0 rfl) ?_
  refine lv_iload_n hx hb dX11_agreementOf_1 rfl (lv_at hl 1 rfl) ?_
  have hPc := hP.sub (ws' := [(g0, .inr (11, mF pq))]) [0] rfl
  have hDc := hD.sub (ws' := [(g0, .inr (11, mF pq))]) [0] (by decide) rfl
  have hKc := hK.sub (tys' := []) [] rfl
  have hFc : ∀ q, va_A [] s.heap.size q → A q := pu_free hS hA
  refine va_calli (va_runV (As := [.int a1]) (rest := []) ⟨hx, hb, hml, hown, hts⟩ (c_X11_isAgreement l dC dI s.heap.size g0 pq cp a1) (cwV 1 hts gX11_agreementOf_X11_isAgreement rfl rfl rfl (by decide +kernel) ⟨(Nat.le_of_ble_eq_true rfl), (Nat.le_of_ble_eq_true rfl)⟩) (pr_V (r := (RX11, TX11, 63)) hPc hKc hDc 0 11 rfl rfl) rfl rfl hl.1 rfl (lv_room (Nat.le_of_ble_eq_true rfl)) dX11_agreementOf_2 ⟨(Nat.le_of_ble_eq_true rfl), (Nat.le_of_ble_eq_true rfl)⟩) hS (fun q _ h => hFc q h) hFc (fun r_2 u t H locs ht hvm w_1 hB hz1 hk1 hS => ?_)
  have hP := pu_keep hP hk1
  clear hk1 hz1 hvm hB hPc hDc hKc hFc ht
  subst w_1
  refine lv_if_ne (tgt := 14) hx hb dX11_agreementOf_5 (by decide) (fun c_3 => absurd c_3 (by decide)) (fun _ => ?_)
  refine lv_aload_n hx hb dX11_agreementOf_8 rfl (lv_at hl 0 rfl) ?_
  refine lv_iconst (v := (-1)) hx hb dX11_agreementOf_9 (by decide) ?_
  have hPc := hP.sub (ws' := [(g0, .inr (11, mF pq)), ((pq 0), .inl ((cp 0), 7, .inl (fun _ => 0)))]) [0, 1] rfl
  have hDc := hD.sub (ws' := [(g0, .inr (11, mF pq)), ((pq 0), .inl ((cp 0), 7, .inl (fun _ => 0)))]) [0, 1] (by decide) rfl
  have hKc := hK.sub (tys' := [((cp 0), .int)]) [0] rfl
  have hFc := va_free (wc := [(g0, .inr (11, mF pq)), ((pq 0), .inl ((cp 0), 7, .inl (fun _ => 0)))]) hD hS hA [0, 1] rfl
  refine va_calli (va_runV (As := [.int (-1)]) (rest := []) ⟨hx, hb, hml, hown, hts⟩ (c_X11_refuse l dC dI H.size g0 pq cp (-1) (by unfold vp_in; decide)) (cwV 1 hts gX11_agreementOf_X11_refuse rfl rfl rfl (by decide +kernel) ⟨(Nat.le_of_ble_eq_true rfl), (Nat.le_of_ble_eq_true rfl)⟩) (pr_V (r := (RX11, TX11, 63)) hPc hKc hDc 0 11 rfl rfl) rfl rfl hl.1 rfl (lv_room (Nat.le_of_ble_eq_true rfl)) dX11_agreementOf_10 ⟨(Nat.le_of_ble_eq_true rfl), (Nat.le_of_ble_eq_true rfl)⟩) hS (fun q _ h => hFc q h) hFc (fun r_5 u t H locs ht hvm w_4 hB hz1 hk1 hS => ?_)
  subst w_4
  exact W.iret (v := (-1)) hx hb hr (fun t ht hW => ⟨⟨(-1), (), rfl, rfl, trivial⟩, hS.F ht⟩) hS.2.2 dX11_agreementOf_13
set_option maxHeartbeats 4000000 in
set_option maxRecDepth 100000 in
theorem c_X11_aboard (l : Launch) (dC : Nat → ClassId) (dI : Nat → Nat → Nat) (sz : Nat) (g0 : Nat) (pq : Nat → Nat) (cp : Nat → ClassId) (a1 : Int32) (a2 : Int32) (a3 : Int32) : Met l yX11_aboard wsX11_aboard ({ frames := 2, cells := 0, slots := 0, locals := 42 }) (va_Pc [.ref g0, .int a1, .int a2, .int a3] (pcW (dC, dI) [((cp 0), .int)] [(g0, .inr (11, mF pq)), ((pq 0), .inl ((cp 0), 7, .inl (fun _ => 0)))] sz)) (va_Qi (fun (r : Int32) (u : Unit) => r = (-1)) (fun _ _ => True) (va_A [(g0, .inr (11, mF pq)), ((pq 0), .inl ((cp 0), 7, .inl (fun _ => 0)))] sz)) 0 0 (va_A [(g0, .inr (11, mF pq)), ((pq 0), .inl ((cp 0), 7, .inl (fun _ => 0)))] sz) := by
  refine Met.ofW (cc := cX11_aboard) (maxL := 5) (ret := (some .int)) (by decide) rfl ?_
  intro p e s m args below meth c s₁ B hml hv
  obtain ⟨rfl, hsz, hP, hK, hD0⟩ := hv
  have hx := B.exec
  have hb := B.bytes
  have hr := B.returns
  have hts := atoms_spec (ws := wsX11_aboard) B.pre
  have hown : s.vm.findClass RX11 = some m.cls := findClass_of_methodNamed B.named
  have hlocks := B.notSynchronized
  subst hsz
  have hD := hD0.self (sz := s.heap.size)
  generalize hAe : va_A [(g0, .inr (11, mF pq)), ((pq 0), .inl ((cp 0), 7, .inl (fun _ => 0)))] s.heap.size = A at hD ⊢
  have hA : ∀ q : Nat, s.heap.size ≤ q → A q := fun q h => by rw [← hAe]; exact Or.inr h
  have hS : va_S A s.heap s.heap [] := va_S.rf
  have hP : va_P (dC, dI) vwCl [(g0, .inr (11, mF pq)), ((pq 0), .inl ((cp 0), 7, .inl (fun _ => 0)))] s.heap := hP
  have hl := lv_entry ([.ref g0, .int a1, .int a2, .int a3]) (n := 5) (Nat.le_of_ble_eq_true rfl)
  rw [lg_entry_eq]
  generalize (lg_sl ([.ref g0, .int a1, .int a2, .int a3]) ++ List.replicate (5 - (lg_sl ([.ref g0, .int a1, .int a2, .int a3])).length) Slot.unset).toArray = ls at hl ⊢
  have hl : lv_has ls 5 [(0, .ref g0), (1, .int a1), (2, .int a2), (3, .int a3)] := hl
  refine lv_aload_n hx hb dX11_aboard_0 rfl (lv_at hl 0 rfl) ?_
  refine lv_iload_n hx hb dX11_aboard_1 rfl (lv_at hl 1 rfl) ?_
  have hPc := hP.sub (ws' := [(g0, .inr (11, mF pq))]) [0] rfl
  have hDc := hD.sub (ws' := [(g0, .inr (11, mF pq))]) [0] (by decide) rfl
  have hKc := hK.sub (tys' := []) [] rfl
  have hFc : ∀ q, va_A [] s.heap.size q → A q := pu_free hS hA
  refine va_calli (va_runV (As := [.int a1]) (rest := []) ⟨hx, hb, hml, hown, hts⟩ (c_X11_isVoyage l dC dI s.heap.size g0 pq cp a1) (cwV 1 hts gX11_aboard_X11_isVoyage rfl rfl rfl (by decide +kernel) ⟨(Nat.le_of_ble_eq_true rfl), (Nat.le_of_ble_eq_true rfl)⟩) (pr_V (r := (RX11, TX11, 63)) hPc hKc hDc 0 11 rfl rfl) rfl rfl hl.1 rfl (lv_room (Nat.le_of_ble_eq_true rfl)) dX11_aboard_2 ⟨(Nat.le_of_ble_eq_true rfl), (Nat.le_of_ble_eq_true rfl)⟩) hS (fun q _ h => hFc q h) hFc (fun r_2 u t H locs ht hvm w_1 hB hz1 hk1 hS => ?_)
  have hP := pu_keep hP hk1
  clear hk1 hz1 hvm hB hPc hDc hKc hFc ht
  subst w_1
  refine lv_if_eq (tgt := 17) hx hb dX11_aboard_5 (by decide) (fun _ => ?_) (fun c_3 => absurd c_3 (by decide))
  refine lv_iconst (v := (-1)) hx hb dX11_aboard_17 (by decide) ?_
  refine lv_istore (lv' := [(4, .int (-1)), (0, .ref g0), (1, .int a1), (2, .int a2), (3, .int a3)]) hx hb dX11_aboard_18 hl (by decide) rfl (fun ls hl => ?_)
  refine lv_iload hx hb dX11_aboard_20 (lv_at hl 0 rfl) ?_
  refine lv_if_eq (tgt := 34) hx hb dX11_aboard_22 (by decide) (fun c_4 => absurd c_4 (by decide)) (fun _ => ?_)
  refine lv_aload_n hx hb dX11_aboard_25 rfl (lv_at hl 1 rfl) ?_
  refine lv_iload hx hb dX11_aboard_26 (lv_at hl 0 rfl) ?_
  have hPc := hP.sub (ws' := [(g0, .inr (11, mF pq)), ((pq 0), .inl ((cp 0), 7, .inl (fun _ => 0)))]) [0, 1] rfl
  have hDc := hD.sub (ws' := [(g0, .inr (11, mF pq)), ((pq 0), .inl ((cp 0), 7, .inl (fun _ => 0)))]) [0, 1] (by decide) rfl
  have hKc := hK.sub (tys' := [((cp 0), .int)]) [0] rfl
  have hFc := va_free (wc := [(g0, .inr (11, mF pq)), ((pq 0), .inl ((cp 0), 7, .inl (fun _ => 0)))]) hD hS hA [0, 1] rfl
  refine va_calli (va_runV (As := [.int (-1)]) (rest := []) ⟨hx, hb, hml, hown, hts⟩ (c_X11_refuse l dC dI H.size g0 pq cp (-1) (by unfold vp_in; decide)) (cwV 1 hts gX11_aboard_X11_refuse rfl rfl rfl (by decide +kernel) ⟨(Nat.le_of_ble_eq_true rfl), (Nat.le_of_ble_eq_true rfl)⟩) (pr_V (r := (RX11, TX11, 63)) hPc hKc hDc 0 11 rfl rfl) rfl rfl hl.1 rfl (lv_room (Nat.le_of_ble_eq_true rfl)) dX11_aboard_28 ⟨(Nat.le_of_ble_eq_true rfl), (Nat.le_of_ble_eq_true rfl)⟩) hS (fun q _ h => hFc q h) hFc (fun r_6 u t H locs ht hvm w_5 hB hz1 hk1 hS => ?_)
  subst w_5
  refine lv_goto (tgt := 41) hx hb dX11_aboard_31 (by decide) ?_
  exact W.iret (v := (-1)) hx hb hr (fun t ht hW => ⟨⟨(-1), (), rfl, rfl, trivial⟩, hS.F ht⟩) hS.2.2 dX11_aboard_41
set_option maxHeartbeats 4000000 in
set_option maxRecDepth 100000 in
theorem c_X11_group (l : Launch) (dC : Nat → ClassId) (dI : Nat → Nat → Nat) (sz : Nat) (g0 : Nat) (pq : Nat → Nat) (cp : Nat → ClassId) (a1 : Int32) : Met l yX11_group wsX11_group ({ frames := 2, cells := 0, slots := 0, locals := 42 }) (va_Pc [.ref g0, .int a1] (pcW (dC, dI) [((cp 0), .int)] [(g0, .inr (11, mF pq)), ((pq 0), .inl ((cp 0), 7, .inl (fun _ => 0)))] sz)) (va_Qi (fun (r : Int32) (u : Unit) => r = (-1)) (fun _ _ => True) (va_A [(g0, .inr (11, mF pq)), ((pq 0), .inl ((cp 0), 7, .inl (fun _ => 0)))] sz)) 0 0 (va_A [(g0, .inr (11, mF pq)), ((pq 0), .inl ((cp 0), 7, .inl (fun _ => 0)))] sz) := by
  refine Met.ofW (cc := cX11_group) (maxL := 2) (ret := (some .int)) (by decide) rfl ?_
  intro p e s m args below meth c s₁ B hml hv
  obtain ⟨rfl, hsz, hP, hK, hD0⟩ := hv
  have hx := B.exec
  have hb := B.bytes
  have hr := B.returns
  have hts := atoms_spec (ws := wsX11_group) B.pre
  have hown : s.vm.findClass RX11 = some m.cls := findClass_of_methodNamed B.named
  have hlocks := B.notSynchronized
  subst hsz
  have hD := hD0.self (sz := s.heap.size)
  generalize hAe : va_A [(g0, .inr (11, mF pq)), ((pq 0), .inl ((cp 0), 7, .inl (fun _ => 0)))] s.heap.size = A at hD ⊢
  have hA : ∀ q : Nat, s.heap.size ≤ q → A q := fun q h => by rw [← hAe]; exact Or.inr h
  have hS : va_S A s.heap s.heap [] := va_S.rf
  have hP : va_P (dC, dI) vwCl [(g0, .inr (11, mF pq)), ((pq 0), .inl ((cp 0), 7, .inl (fun _ => 0)))] s.heap := hP
  have hl := lv_entry ([.ref g0, .int a1]) (n := 2) (Nat.le_of_ble_eq_true rfl)
  rw [lg_entry_eq]
  generalize (lg_sl ([.ref g0, .int a1]) ++ List.replicate (2 - (lg_sl ([.ref g0, .int a1])).length) Slot.unset).toArray = ls at hl ⊢
  have hl : lv_has ls 2 [(0, .ref g0), (1, .int a1)] := hl
  refine lv_aload_n hx hb dX11_group_0 rfl (lv_at hl 0 rfl) ?_
  refine lv_iload_n hx hb dX11_group_1 rfl (lv_at hl 1 rfl) ?_
  have hPc := hP.sub (ws' := [(g0, .inr (11, mF pq))]) [0] rfl
  have hDc := hD.sub (ws' := [(g0, .inr (11, mF pq))]) [0] (by decide) rfl
  have hKc := hK.sub (tys' := []) [] rfl
  have hFc : ∀ q, va_A [] s.heap.size q → A q := pu_free hS hA
  refine va_calli (va_runV (As := [.int a1]) (rest := []) ⟨hx, hb, hml, hown, hts⟩ (c_X11_isMan l dC dI s.heap.size g0 pq cp a1) (cwV 1 hts gX11_group_X11_isMan rfl rfl rfl (by decide +kernel) ⟨(Nat.le_of_ble_eq_true rfl), (Nat.le_of_ble_eq_true rfl)⟩) (pr_V (r := (RX11, TX11, 63)) hPc hKc hDc 0 11 rfl rfl) rfl rfl hl.1 rfl (lv_room (Nat.le_of_ble_eq_true rfl)) dX11_group_2 ⟨(Nat.le_of_ble_eq_true rfl), (Nat.le_of_ble_eq_true rfl)⟩) hS (fun q _ h => hFc q h) hFc (fun r_2 u t H locs ht hvm w_1 hB hz1 hk1 hS => ?_)
  have hP := pu_keep hP hk1
  clear hk1 hz1 hvm hB hPc hDc hKc hFc ht
  subst w_1
  refine lv_if_ne (tgt := 14) hx hb dX11_group_5 (by decide) (fun c_3 => absurd c_3 (by decide)) (fun _ => ?_)
  refine lv_aload_n hx hb dX11_group_8 rfl (lv_at hl 0 rfl) ?_
  refine lv_iconst (v := (-1)) hx hb dX11_group_9 (by decide) ?_
  have hPc := hP.sub (ws' := [(g0, .inr (11, mF pq)), ((pq 0), .inl ((cp 0), 7, .inl (fun _ => 0)))]) [0, 1] rfl
  have hDc := hD.sub (ws' := [(g0, .inr (11, mF pq)), ((pq 0), .inl ((cp 0), 7, .inl (fun _ => 0)))]) [0, 1] (by decide) rfl
  have hKc := hK.sub (tys' := [((cp 0), .int)]) [0] rfl
  have hFc := va_free (wc := [(g0, .inr (11, mF pq)), ((pq 0), .inl ((cp 0), 7, .inl (fun _ => 0)))]) hD hS hA [0, 1] rfl
  refine va_calli (va_runV (As := [.int (-1)]) (rest := []) ⟨hx, hb, hml, hown, hts⟩ (c_X11_refuse l dC dI H.size g0 pq cp (-1) (by unfold vp_in; decide)) (cwV 1 hts gX11_group_X11_refuse rfl rfl rfl (by decide +kernel) ⟨(Nat.le_of_ble_eq_true rfl), (Nat.le_of_ble_eq_true rfl)⟩) (pr_V (r := (RX11, TX11, 63)) hPc hKc hDc 0 11 rfl rfl) rfl rfl hl.1 rfl (lv_room (Nat.le_of_ble_eq_true rfl)) dX11_group_10 ⟨(Nat.le_of_ble_eq_true rfl), (Nat.le_of_ble_eq_true rfl)⟩) hS (fun q _ h => hFc q h) hFc (fun r_5 u t H locs ht hvm w_4 hB hz1 hk1 hS => ?_)
  subst w_4
  exact W.iret (v := (-1)) hx hb hr (fun t ht hW => ⟨⟨(-1), (), rfl, rfl, trivial⟩, hS.F ht⟩) hS.2.2 dX11_group_13
set_option maxHeartbeats 4000000 in
set_option maxRecDepth 100000 in
theorem c_X11_borrowed (l : Launch) (dC : Nat → ClassId) (dI : Nat → Nat → Nat) (sz : Nat) (g0 : Nat) (pq : Nat → Nat) (cp : Nat → ClassId) (a1 : Int32) : Met l yX11_borrowed wsX11_borrowed ({ frames := 2, cells := 0, slots := 0, locals := 42 }) (va_Pc [.ref g0, .int a1] (pcW (dC, dI) [((cp 0), .int)] [(g0, .inr (11, mF pq)), ((pq 0), .inl ((cp 0), 7, .inl (fun _ => 0)))] sz)) (va_Qi (fun (r : Int32) (u : Unit) => r = (-1)) (fun _ _ => True) (va_A [(g0, .inr (11, mF pq)), ((pq 0), .inl ((cp 0), 7, .inl (fun _ => 0)))] sz)) 0 0 (va_A [(g0, .inr (11, mF pq)), ((pq 0), .inl ((cp 0), 7, .inl (fun _ => 0)))] sz) := by
  refine Met.ofW (cc := cX11_borrowed) (maxL := 3) (ret := (some .int)) (by decide) rfl ?_
  intro p e s m args below meth c s₁ B hml hv
  obtain ⟨rfl, hsz, hP, hK, hD0⟩ := hv
  have hx := B.exec
  have hb := B.bytes
  have hr := B.returns
  have hts := atoms_spec (ws := wsX11_borrowed) B.pre
  have hown : s.vm.findClass RX11 = some m.cls := findClass_of_methodNamed B.named
  have hlocks := B.notSynchronized
  subst hsz
  have hD := hD0.self (sz := s.heap.size)
  generalize hAe : va_A [(g0, .inr (11, mF pq)), ((pq 0), .inl ((cp 0), 7, .inl (fun _ => 0)))] s.heap.size = A at hD ⊢
  have hA : ∀ q : Nat, s.heap.size ≤ q → A q := fun q h => by rw [← hAe]; exact Or.inr h
  have hS : va_S A s.heap s.heap [] := va_S.rf
  have hP : va_P (dC, dI) vwCl [(g0, .inr (11, mF pq)), ((pq 0), .inl ((cp 0), 7, .inl (fun _ => 0)))] s.heap := hP
  have hl := lv_entry ([.ref g0, .int a1]) (n := 3) (Nat.le_of_ble_eq_true rfl)
  rw [lg_entry_eq]
  generalize (lg_sl ([.ref g0, .int a1]) ++ List.replicate (3 - (lg_sl ([.ref g0, .int a1])).length) Slot.unset).toArray = ls at hl ⊢
  have hl : lv_has ls 3 [(0, .ref g0), (1, .int a1)] := hl
  refine lv_aload_n hx hb dX11_borrowed_0 rfl (lv_at hl 0 rfl) ?_
  refine lv_iload_n hx hb dX11_borrowed_1 rfl (lv_at hl 1 rfl) ?_
  have hPc := hP.sub (ws' := [(g0, .inr (11, mF pq))]) [0] rfl
  have hDc := hD.sub (ws' := [(g0, .inr (11, mF pq))]) [0] (by decide) rfl
  have hKc := hK.sub (tys' := []) [] rfl
  have hFc : ∀ q, va_A [] s.heap.size q → A q := pu_free hS hA
  refine va_calli (va_runV (As := [.int a1]) (rest := []) ⟨hx, hb, hml, hown, hts⟩ (c_X11_isAgreement l dC dI s.heap.size g0 pq cp a1) (cwV 1 hts gX11_borrowed_X11_isAgreement rfl rfl rfl (by decide +kernel) ⟨(Nat.le_of_ble_eq_true rfl), (Nat.le_of_ble_eq_true rfl)⟩) (pr_V (r := (RX11, TX11, 63)) hPc hKc hDc 0 11 rfl rfl) rfl rfl hl.1 rfl (lv_room (Nat.le_of_ble_eq_true rfl)) dX11_borrowed_2 ⟨(Nat.le_of_ble_eq_true rfl), (Nat.le_of_ble_eq_true rfl)⟩) hS (fun q _ h => hFc q h) hFc (fun r_2 u t H locs ht hvm w_1 hB hz1 hk1 hS => ?_)
  have hP := pu_keep hP hk1
  clear hk1 hz1 hvm hB hPc hDc hKc hFc ht
  subst w_1
  refine lv_if_ne (tgt := 14) hx hb dX11_borrowed_5 (by decide) (fun c_3 => absurd c_3 (by decide)) (fun _ => ?_)
  refine lv_aload_n hx hb dX11_borrowed_8 rfl (lv_at hl 0 rfl) ?_
  refine lv_iconst (v := (-1)) hx hb dX11_borrowed_9 (by decide) ?_
  have hPc := hP.sub (ws' := [(g0, .inr (11, mF pq)), ((pq 0), .inl ((cp 0), 7, .inl (fun _ => 0)))]) [0, 1] rfl
  have hDc := hD.sub (ws' := [(g0, .inr (11, mF pq)), ((pq 0), .inl ((cp 0), 7, .inl (fun _ => 0)))]) [0, 1] (by decide) rfl
  have hKc := hK.sub (tys' := [((cp 0), .int)]) [0] rfl
  have hFc := va_free (wc := [(g0, .inr (11, mF pq)), ((pq 0), .inl ((cp 0), 7, .inl (fun _ => 0)))]) hD hS hA [0, 1] rfl
  refine va_calli (va_runV (As := [.int (-1)]) (rest := []) ⟨hx, hb, hml, hown, hts⟩ (c_X11_refuse l dC dI H.size g0 pq cp (-1) (by unfold vp_in; decide)) (cwV 1 hts gX11_borrowed_X11_refuse rfl rfl rfl (by decide +kernel) ⟨(Nat.le_of_ble_eq_true rfl), (Nat.le_of_ble_eq_true rfl)⟩) (pr_V (r := (RX11, TX11, 63)) hPc hKc hDc 0 11 rfl rfl) rfl rfl hl.1 rfl (lv_room (Nat.le_of_ble_eq_true rfl)) dX11_borrowed_10 ⟨(Nat.le_of_ble_eq_true rfl), (Nat.le_of_ble_eq_true rfl)⟩) hS (fun q _ h => hFc q h) hFc (fun r_5 u t H locs ht hvm w_4 hB hz1 hk1 hS => ?_)
  subst w_4
  exact W.iret (v := (-1)) hx hb hr (fun t ht hW => ⟨⟨(-1), (), rfl, rfl, trivial⟩, hS.F ht⟩) hS.2.2 dX11_borrowed_13
set_option maxHeartbeats 4000000 in
set_option maxRecDepth 100000 in
theorem c_X11_home (l : Launch) (dC : Nat → ClassId) (dI : Nat → Nat → Nat) (sz : Nat) (g0 : Nat) (pq : Nat → Nat) (cp : Nat → ClassId) (a1 : Int32) : Met l yX11_home wsX11_home ({ frames := 2, cells := 0, slots := 0, locals := 42 }) (va_Pc [.ref g0, .int a1] (pcW (dC, dI) [((cp 0), .int)] [(g0, .inr (11, mF pq)), ((pq 0), .inl ((cp 0), 7, .inl (fun _ => 0)))] sz)) (va_Qi (fun (r : Int32) (u : Unit) => r = (-1)) (fun _ _ => True) (va_A [(g0, .inr (11, mF pq)), ((pq 0), .inl ((cp 0), 7, .inl (fun _ => 0)))] sz)) 0 0 (va_A [(g0, .inr (11, mF pq)), ((pq 0), .inl ((cp 0), 7, .inl (fun _ => 0)))] sz) := by
  refine Met.ofW (cc := cX11_home) (maxL := 4) (ret := (some .int)) (by decide) rfl ?_
  intro p e s m args below meth c s₁ B hml hv
  obtain ⟨rfl, hsz, hP, hK, hD0⟩ := hv
  have hx := B.exec
  have hb := B.bytes
  have hr := B.returns
  have hts := atoms_spec (ws := wsX11_home) B.pre
  have hown : s.vm.findClass RX11 = some m.cls := findClass_of_methodNamed B.named
  have hlocks := B.notSynchronized
  subst hsz
  have hD := hD0.self (sz := s.heap.size)
  generalize hAe : va_A [(g0, .inr (11, mF pq)), ((pq 0), .inl ((cp 0), 7, .inl (fun _ => 0)))] s.heap.size = A at hD ⊢
  have hA : ∀ q : Nat, s.heap.size ≤ q → A q := fun q h => by rw [← hAe]; exact Or.inr h
  have hS : va_S A s.heap s.heap [] := va_S.rf
  have hP : va_P (dC, dI) vwCl [(g0, .inr (11, mF pq)), ((pq 0), .inl ((cp 0), 7, .inl (fun _ => 0)))] s.heap := hP
  have hl := lv_entry ([.ref g0, .int a1]) (n := 4) (Nat.le_of_ble_eq_true rfl)
  rw [lg_entry_eq]
  generalize (lg_sl ([.ref g0, .int a1]) ++ List.replicate (4 - (lg_sl ([.ref g0, .int a1])).length) Slot.unset).toArray = ls at hl ⊢
  have hl : lv_has ls 4 [(0, .ref g0), (1, .int a1)] := hl
  refine lv_aload_n hx hb dX11_home_0 rfl (lv_at hl 0 rfl) ?_
  refine lv_iload_n hx hb dX11_home_1 rfl (lv_at hl 1 rfl) ?_
  have hPc := hP.sub (ws' := [(g0, .inr (11, mF pq))]) [0] rfl
  have hDc := hD.sub (ws' := [(g0, .inr (11, mF pq))]) [0] (by decide) rfl
  have hKc := hK.sub (tys' := []) [] rfl
  have hFc : ∀ q, va_A [] s.heap.size q → A q := pu_free hS hA
  refine va_calli (va_runV (As := [.int a1]) (rest := []) ⟨hx, hb, hml, hown, hts⟩ (c_X11_isMan l dC dI s.heap.size g0 pq cp a1) (cwV 1 hts gX11_home_X11_isMan rfl rfl rfl (by decide +kernel) ⟨(Nat.le_of_ble_eq_true rfl), (Nat.le_of_ble_eq_true rfl)⟩) (pr_V (r := (RX11, TX11, 63)) hPc hKc hDc 0 11 rfl rfl) rfl rfl hl.1 rfl (lv_room (Nat.le_of_ble_eq_true rfl)) dX11_home_2 ⟨(Nat.le_of_ble_eq_true rfl), (Nat.le_of_ble_eq_true rfl)⟩) hS (fun q _ h => hFc q h) hFc (fun r_2 u t H locs ht hvm w_1 hB hz1 hk1 hS => ?_)
  have hP := pu_keep hP hk1
  clear hk1 hz1 hvm hB hPc hDc hKc hFc ht
  subst w_1
  refine lv_if_ne (tgt := 14) hx hb dX11_home_5 (by decide) (fun c_3 => absurd c_3 (by decide)) (fun _ => ?_)
  refine lv_aload_n hx hb dX11_home_8 rfl (lv_at hl 0 rfl) ?_
  refine lv_iconst (v := (-1)) hx hb dX11_home_9 (by decide) ?_
  have hPc := hP.sub (ws' := [(g0, .inr (11, mF pq)), ((pq 0), .inl ((cp 0), 7, .inl (fun _ => 0)))]) [0, 1] rfl
  have hDc := hD.sub (ws' := [(g0, .inr (11, mF pq)), ((pq 0), .inl ((cp 0), 7, .inl (fun _ => 0)))]) [0, 1] (by decide) rfl
  have hKc := hK.sub (tys' := [((cp 0), .int)]) [0] rfl
  have hFc := va_free (wc := [(g0, .inr (11, mF pq)), ((pq 0), .inl ((cp 0), 7, .inl (fun _ => 0)))]) hD hS hA [0, 1] rfl
  refine va_calli (va_runV (As := [.int (-1)]) (rest := []) ⟨hx, hb, hml, hown, hts⟩ (c_X11_refuse l dC dI H.size g0 pq cp (-1) (by unfold vp_in; decide)) (cwV 1 hts gX11_home_X11_refuse rfl rfl rfl (by decide +kernel) ⟨(Nat.le_of_ble_eq_true rfl), (Nat.le_of_ble_eq_true rfl)⟩) (pr_V (r := (RX11, TX11, 63)) hPc hKc hDc 0 11 rfl rfl) rfl rfl hl.1 rfl (lv_room (Nat.le_of_ble_eq_true rfl)) dX11_home_10 ⟨(Nat.le_of_ble_eq_true rfl), (Nat.le_of_ble_eq_true rfl)⟩) hS (fun q _ h => hFc q h) hFc (fun r_5 u t H locs ht hvm w_4 hB hz1 hk1 hS => ?_)
  subst w_4
  exact W.iret (v := (-1)) hx hb hr (fun t ht hW => ⟨⟨(-1), (), rfl, rfl, trivial⟩, hS.F ht⟩) hS.2.2 dX11_home_13
set_option maxHeartbeats 4000000 in
set_option maxRecDepth 100000 in
theorem c_X11_ask (l : Launch) (dC : Nat → ClassId) (dI : Nat → Nat → Nat) (sz : Nat) (g0 : Nat) (pq : Nat → Nat) (cp : Nat → ClassId) (a1 : Int32) (a2 : Int32) (a3 : Int32) : Met l yX11_ask wsX11_ask ({ frames := 2, cells := 0, slots := 0, locals := 42 }) (va_Pc [.ref g0, .int a1, .int a2, .int a3] (pcW (dC, dI) [((cp 0), .int)] [(g0, .inr (11, mF pq)), ((pq 0), .inl ((cp 0), 7, .inl (fun _ => 0)))] sz)) (va_Qi (fun (r : Int32) (u : Unit) => r = (-1)) (fun _ _ => True) (va_A [(g0, .inr (11, mF pq)), ((pq 0), .inl ((cp 0), 7, .inl (fun _ => 0)))] sz)) 0 0 (va_A [(g0, .inr (11, mF pq)), ((pq 0), .inl ((cp 0), 7, .inl (fun _ => 0)))] sz) := by
  refine Met.ofW (cc := cX11_ask) (maxL := 5) (ret := (some .int)) (by decide) rfl ?_
  intro p e s m args below meth c s₁ B hml hv
  obtain ⟨rfl, hsz, hP, hK, hD0⟩ := hv
  have hx := B.exec
  have hb := B.bytes
  have hr := B.returns
  have hts := atoms_spec (ws := wsX11_ask) B.pre
  have hown : s.vm.findClass RX11 = some m.cls := findClass_of_methodNamed B.named
  have hlocks := B.notSynchronized
  subst hsz
  have hD := hD0.self (sz := s.heap.size)
  generalize hAe : va_A [(g0, .inr (11, mF pq)), ((pq 0), .inl ((cp 0), 7, .inl (fun _ => 0)))] s.heap.size = A at hD ⊢
  have hA : ∀ q : Nat, s.heap.size ≤ q → A q := fun q h => by rw [← hAe]; exact Or.inr h
  have hS : va_S A s.heap s.heap [] := va_S.rf
  have hP : va_P (dC, dI) vwCl [(g0, .inr (11, mF pq)), ((pq 0), .inl ((cp 0), 7, .inl (fun _ => 0)))] s.heap := hP
  have hl := lv_entry ([.ref g0, .int a1, .int a2, .int a3]) (n := 5) (Nat.le_of_ble_eq_true rfl)
  rw [lg_entry_eq]
  generalize (lg_sl ([.ref g0, .int a1, .int a2, .int a3]) ++ List.replicate (5 - (lg_sl ([.ref g0, .int a1, .int a2, .int a3])).length) Slot.unset).toArray = ls at hl ⊢
  have hl : lv_has ls 5 [(0, .ref g0), (1, .int a1), (2, .int a2), (3, .int a3)] := hl
  refine lv_aload_n hx hb dX11_ask_0 rfl (lv_at hl 0 rfl) ?_
  refine lv_iload_n hx hb dX11_ask_1 rfl (lv_at hl 1 rfl) ?_
  have hPc := hP.sub (ws' := [(g0, .inr (11, mF pq))]) [0] rfl
  have hDc := hD.sub (ws' := [(g0, .inr (11, mF pq))]) [0] (by decide) rfl
  have hKc := hK.sub (tys' := []) [] rfl
  have hFc : ∀ q, va_A [] s.heap.size q → A q := pu_free hS hA
  refine va_calli (va_runV (As := [.int a1]) (rest := []) ⟨hx, hb, hml, hown, hts⟩ (c_X11_isMan l dC dI s.heap.size g0 pq cp a1) (cwV 1 hts gX11_ask_X11_isMan rfl rfl rfl (by decide +kernel) ⟨(Nat.le_of_ble_eq_true rfl), (Nat.le_of_ble_eq_true rfl)⟩) (pr_V (r := (RX11, TX11, 63)) hPc hKc hDc 0 11 rfl rfl) rfl rfl hl.1 rfl (lv_room (Nat.le_of_ble_eq_true rfl)) dX11_ask_2 ⟨(Nat.le_of_ble_eq_true rfl), (Nat.le_of_ble_eq_true rfl)⟩) hS (fun q _ h => hFc q h) hFc (fun r_2 u t H locs ht hvm w_1 hB hz1 hk1 hS => ?_)
  have hP := pu_keep hP hk1
  clear hk1 hz1 hvm hB hPc hDc hKc hFc ht
  subst w_1
  refine lv_if_ne (tgt := 14) hx hb dX11_ask_5 (by decide) (fun c_3 => absurd c_3 (by decide)) (fun _ => ?_)
  refine lv_aload_n hx hb dX11_ask_8 rfl (lv_at hl 0 rfl) ?_
  refine lv_iconst (v := (-1)) hx hb dX11_ask_9 (by decide) ?_
  have hPc := hP.sub (ws' := [(g0, .inr (11, mF pq)), ((pq 0), .inl ((cp 0), 7, .inl (fun _ => 0)))]) [0, 1] rfl
  have hDc := hD.sub (ws' := [(g0, .inr (11, mF pq)), ((pq 0), .inl ((cp 0), 7, .inl (fun _ => 0)))]) [0, 1] (by decide) rfl
  have hKc := hK.sub (tys' := [((cp 0), .int)]) [0] rfl
  have hFc := va_free (wc := [(g0, .inr (11, mF pq)), ((pq 0), .inl ((cp 0), 7, .inl (fun _ => 0)))]) hD hS hA [0, 1] rfl
  refine va_calli (va_runV (As := [.int (-1)]) (rest := []) ⟨hx, hb, hml, hown, hts⟩ (c_X11_refuse l dC dI H.size g0 pq cp (-1) (by unfold vp_in; decide)) (cwV 1 hts gX11_ask_X11_refuse rfl rfl rfl (by decide +kernel) ⟨(Nat.le_of_ble_eq_true rfl), (Nat.le_of_ble_eq_true rfl)⟩) (pr_V (r := (RX11, TX11, 63)) hPc hKc hDc 0 11 rfl rfl) rfl rfl hl.1 rfl (lv_room (Nat.le_of_ble_eq_true rfl)) dX11_ask_10 ⟨(Nat.le_of_ble_eq_true rfl), (Nat.le_of_ble_eq_true rfl)⟩) hS (fun q _ h => hFc q h) hFc (fun r_5 u t H locs ht hvm w_4 hB hz1 hk1 hS => ?_)
  subst w_4
  exact W.iret (v := (-1)) hx hb hr (fun t ht hW => ⟨⟨(-1), (), rfl, rfl, trivial⟩, hS.F ht⟩) hS.2.2 dX11_ask_13
set_option maxHeartbeats 4000000 in
set_option maxRecDepth 100000 in
theorem c_X11_check (l : Launch) (dC : Nat → ClassId) (dI : Nat → Nat → Nat) (sz : Nat) (g0 : Nat) (pq : Nat → Nat) (cp : Nat → ClassId) (a1 : Int32) (a2 : Int32) (a3 : Int32) : Met l yX11_check wsX11_check ({ frames := 2, cells := 0, slots := 0, locals := 42 }) (va_Pc [.ref g0, .int a1, .int a2, .int a3] (pcW (dC, dI) [((cp 0), .int)] [(g0, .inr (11, mF pq)), ((pq 0), .inl ((cp 0), 7, .inl (fun _ => 0)))] sz)) (va_Qi (fun (r : Int32) (u : Unit) => r = (-1)) (fun _ _ => True) (va_A [(g0, .inr (11, mF pq)), ((pq 0), .inl ((cp 0), 7, .inl (fun _ => 0)))] sz)) 0 0 (va_A [(g0, .inr (11, mF pq)), ((pq 0), .inl ((cp 0), 7, .inl (fun _ => 0)))] sz) := by
  refine Met.ofW (cc := cX11_check) (maxL := 8) (ret := (some .int)) (by decide) rfl ?_
  intro p e s m args below meth c s₁ B hml hv
  obtain ⟨rfl, hsz, hP, hK, hD0⟩ := hv
  have hx := B.exec
  have hb := B.bytes
  have hr := B.returns
  have hts := atoms_spec (ws := wsX11_check) B.pre
  have hown : s.vm.findClass RX11 = some m.cls := findClass_of_methodNamed B.named
  have hlocks := B.notSynchronized
  subst hsz
  have hD := hD0.self (sz := s.heap.size)
  generalize hAe : va_A [(g0, .inr (11, mF pq)), ((pq 0), .inl ((cp 0), 7, .inl (fun _ => 0)))] s.heap.size = A at hD ⊢
  have hA : ∀ q : Nat, s.heap.size ≤ q → A q := fun q h => by rw [← hAe]; exact Or.inr h
  have hS : va_S A s.heap s.heap [] := va_S.rf
  have hP : va_P (dC, dI) vwCl [(g0, .inr (11, mF pq)), ((pq 0), .inl ((cp 0), 7, .inl (fun _ => 0)))] s.heap := hP
  have hl := lv_entry ([.ref g0, .int a1, .int a2, .int a3]) (n := 8) (Nat.le_of_ble_eq_true rfl)
  rw [lg_entry_eq]
  generalize (lg_sl ([.ref g0, .int a1, .int a2, .int a3]) ++ List.replicate (8 - (lg_sl ([.ref g0, .int a1, .int a2, .int a3])).length) Slot.unset).toArray = ls at hl ⊢
  have hl : lv_has ls 8 [(0, .ref g0), (1, .int a1), (2, .int a2), (3, .int a3)] := hl
  refine lv_aload_n hx hb dX11_check_0 rfl (lv_at hl 0 rfl) ?_
  refine lv_iload_n hx hb dX11_check_1 rfl (lv_at hl 1 rfl) ?_
  have hPc := hP.sub (ws' := [(g0, .inr (11, mF pq))]) [0] rfl
  have hDc := hD.sub (ws' := [(g0, .inr (11, mF pq))]) [0] (by decide) rfl
  have hKc := hK.sub (tys' := []) [] rfl
  have hFc : ∀ q, va_A [] s.heap.size q → A q := pu_free hS hA
  refine va_calli (va_runV (As := [.int a1]) (rest := []) ⟨hx, hb, hml, hown, hts⟩ (c_X11_isVoyage l dC dI s.heap.size g0 pq cp a1) (cwV 1 hts gX11_check_X11_isVoyage rfl rfl rfl (by decide +kernel) ⟨(Nat.le_of_ble_eq_true rfl), (Nat.le_of_ble_eq_true rfl)⟩) (pr_V (r := (RX11, TX11, 63)) hPc hKc hDc 0 11 rfl rfl) rfl rfl hl.1 rfl (lv_room (Nat.le_of_ble_eq_true rfl)) dX11_check_2 ⟨(Nat.le_of_ble_eq_true rfl), (Nat.le_of_ble_eq_true rfl)⟩) hS (fun q _ h => hFc q h) hFc (fun r_2 u t H locs ht hvm w_1 hB hz1 hk1 hS => ?_)
  have hP := pu_keep hP hk1
  clear hk1 hz1 hvm hB hPc hDc hKc hFc ht
  subst w_1
  refine lv_if_eq (tgt := 17) hx hb dX11_check_5 (by decide) (fun _ => ?_) (fun c_3 => absurd c_3 (by decide))
  refine lv_iconst (v := (-1)) hx hb dX11_check_17 (by decide) ?_
  refine lv_istore (lv' := [(4, .int (-1)), (0, .ref g0), (1, .int a1), (2, .int a2), (3, .int a3)]) hx hb dX11_check_18 hl (by decide) rfl (fun ls hl => ?_)
  refine lv_iload hx hb dX11_check_20 (lv_at hl 0 rfl) ?_
  refine lv_if_eq (tgt := 32) hx hb dX11_check_22 (by decide) (fun c_4 => absurd c_4 (by decide)) (fun _ => ?_)
  refine lv_aload_n hx hb dX11_check_25 rfl (lv_at hl 1 rfl) ?_
  refine lv_iload hx hb dX11_check_26 (lv_at hl 0 rfl) ?_
  have hPc := hP.sub (ws' := [(g0, .inr (11, mF pq)), ((pq 0), .inl ((cp 0), 7, .inl (fun _ => 0)))]) [0, 1] rfl
  have hDc := hD.sub (ws' := [(g0, .inr (11, mF pq)), ((pq 0), .inl ((cp 0), 7, .inl (fun _ => 0)))]) [0, 1] (by decide) rfl
  have hKc := hK.sub (tys' := [((cp 0), .int)]) [0] rfl
  have hFc := va_free (wc := [(g0, .inr (11, mF pq)), ((pq 0), .inl ((cp 0), 7, .inl (fun _ => 0)))]) hD hS hA [0, 1] rfl
  refine va_calli (va_runV (As := [.int (-1)]) (rest := []) ⟨hx, hb, hml, hown, hts⟩ (c_X11_refuse l dC dI H.size g0 pq cp (-1) (by unfold vp_in; decide)) (cwV 1 hts gX11_check_X11_refuse rfl rfl rfl (by decide +kernel) ⟨(Nat.le_of_ble_eq_true rfl), (Nat.le_of_ble_eq_true rfl)⟩) (pr_V (r := (RX11, TX11, 63)) hPc hKc hDc 0 11 rfl rfl) rfl rfl hl.1 rfl (lv_room (Nat.le_of_ble_eq_true rfl)) dX11_check_28 ⟨(Nat.le_of_ble_eq_true rfl), (Nat.le_of_ble_eq_true rfl)⟩) hS (fun q _ h => hFc q h) hFc (fun r_6 u t H locs ht hvm w_5 hB hz1 hk1 hS => ?_)
  subst w_5
  exact W.iret (v := (-1)) hx hb hr (fun t ht hW => ⟨⟨(-1), (), rfl, rfl, trivial⟩, hS.F ht⟩) hS.2.2 dX11_check_31
set_option maxHeartbeats 4000000 in
set_option maxRecDepth 100000 in
theorem c_X11_owed (l : Launch) (dC : Nat → ClassId) (dI : Nat → Nat → Nat) (sz : Nat) (g0 : Nat) (pq : Nat → Nat) (cp : Nat → ClassId) (a1 : Int32) (a2 : Int32) (a3 : Int32) : Met l yX11_owed wsX11_owed ({ frames := 2, cells := 0, slots := 0, locals := 42 }) (va_Pc [.ref g0, .int a1, .int a2, .int a3] (pcW (dC, dI) [((cp 0), .int)] [(g0, .inr (11, mF pq)), ((pq 0), .inl ((cp 0), 7, .inl (fun _ => 0)))] sz)) (va_Qi (fun (r : Int32) (u : Unit) => r = 1000000001) (fun _ _ => True) (va_A [(g0, .inr (11, mF pq)), ((pq 0), .inl ((cp 0), 7, .inl (fun _ => 0)))] sz)) 0 0 (va_A [(g0, .inr (11, mF pq)), ((pq 0), .inl ((cp 0), 7, .inl (fun _ => 0)))] sz) := by
  refine Met.ofW (cc := cX11_owed) (maxL := 5) (ret := (some .int)) (by decide) rfl ?_
  intro p e s m args below meth c s₁ B hml hv
  obtain ⟨rfl, hsz, hP, hK, hD0⟩ := hv
  have hx := B.exec
  have hb := B.bytes
  have hr := B.returns
  have hts := atoms_spec (ws := wsX11_owed) B.pre
  have hown : s.vm.findClass RX11 = some m.cls := findClass_of_methodNamed B.named
  have hlocks := B.notSynchronized
  subst hsz
  have hD := hD0.self (sz := s.heap.size)
  generalize hAe : va_A [(g0, .inr (11, mF pq)), ((pq 0), .inl ((cp 0), 7, .inl (fun _ => 0)))] s.heap.size = A at hD ⊢
  have hA : ∀ q : Nat, s.heap.size ≤ q → A q := fun q h => by rw [← hAe]; exact Or.inr h
  have hS : va_S A s.heap s.heap [] := va_S.rf
  have hP : va_P (dC, dI) vwCl [(g0, .inr (11, mF pq)), ((pq 0), .inl ((cp 0), 7, .inl (fun _ => 0)))] s.heap := hP
  have hl := lv_entry ([.ref g0, .int a1, .int a2, .int a3]) (n := 5) (Nat.le_of_ble_eq_true rfl)
  rw [lg_entry_eq]
  generalize (lg_sl ([.ref g0, .int a1, .int a2, .int a3]) ++ List.replicate (5 - (lg_sl ([.ref g0, .int a1, .int a2, .int a3])).length) Slot.unset).toArray = ls at hl ⊢
  have hl : lv_has ls 5 [(0, .ref g0), (1, .int a1), (2, .int a2), (3, .int a3)] := hl
  refine lv_aload_n hx hb dX11_owed_0 rfl (lv_at hl 0 rfl) ?_
  refine lv_iload_n hx hb dX11_owed_1 rfl (lv_at hl 1 rfl) ?_
  have hPc := hP.sub (ws' := [(g0, .inr (11, mF pq))]) [0] rfl
  have hDc := hD.sub (ws' := [(g0, .inr (11, mF pq))]) [0] (by decide) rfl
  have hKc := hK.sub (tys' := []) [] rfl
  have hFc : ∀ q, va_A [] s.heap.size q → A q := pu_free hS hA
  refine va_calli (va_runV (As := [.int a1]) (rest := []) ⟨hx, hb, hml, hown, hts⟩ (c_X11_isAgreement l dC dI s.heap.size g0 pq cp a1) (cwV 1 hts gX11_owed_X11_isAgreement rfl rfl rfl (by decide +kernel) ⟨(Nat.le_of_ble_eq_true rfl), (Nat.le_of_ble_eq_true rfl)⟩) (pr_V (r := (RX11, TX11, 63)) hPc hKc hDc 0 11 rfl rfl) rfl rfl hl.1 rfl (lv_room (Nat.le_of_ble_eq_true rfl)) dX11_owed_2 ⟨(Nat.le_of_ble_eq_true rfl), (Nat.le_of_ble_eq_true rfl)⟩) hS (fun q _ h => hFc q h) hFc (fun r_2 u t H locs ht hvm w_1 hB hz1 hk1 hS => ?_)
  have hP := pu_keep hP hk1
  clear hk1 hz1 hvm hB hPc hDc hKc hFc ht
  subst w_1
  refine lv_if_eq (tgt := 17) hx hb dX11_owed_5 (by decide) (fun _ => ?_) (fun c_3 => absurd c_3 (by decide))
  refine lv_iconst (v := (-1)) hx hb dX11_owed_17 (by decide) ?_
  refine lv_istore (lv' := [(4, .int (-1)), (0, .ref g0), (1, .int a1), (2, .int a2), (3, .int a3)]) hx hb dX11_owed_18 hl (by decide) rfl (fun ls hl => ?_)
  refine lv_iload hx hb dX11_owed_20 (lv_at hl 0 rfl) ?_
  refine lv_if_eq (tgt := 34) hx hb dX11_owed_22 (by decide) (fun c_4 => absurd c_4 (by decide)) (fun _ => ?_)
  refine lv_aload_n hx hb dX11_owed_25 rfl (lv_at hl 1 rfl) ?_
  refine lv_iload hx hb dX11_owed_26 (lv_at hl 0 rfl) ?_
  have hPc := hP.sub (ws' := [(g0, .inr (11, mF pq)), ((pq 0), .inl ((cp 0), 7, .inl (fun _ => 0)))]) [0, 1] rfl
  have hDc := hD.sub (ws' := [(g0, .inr (11, mF pq)), ((pq 0), .inl ((cp 0), 7, .inl (fun _ => 0)))]) [0, 1] (by decide) rfl
  have hKc := hK.sub (tys' := [((cp 0), .int)]) [0] rfl
  have hFc := va_free (wc := [(g0, .inr (11, mF pq)), ((pq 0), .inl ((cp 0), 7, .inl (fun _ => 0)))]) hD hS hA [0, 1] rfl
  refine va_calli (va_runV (As := [.int (-1)]) (rest := []) ⟨hx, hb, hml, hown, hts⟩ (c_X11_refuseFar l dC dI H.size g0 pq cp) (cwV 1 hts gX11_owed_X11_refuseFar rfl rfl rfl (by decide +kernel) ⟨(Nat.le_of_ble_eq_true rfl), (Nat.le_of_ble_eq_true rfl)⟩) (pr_V (r := (RX11, TX11, 63)) hPc hKc hDc 0 11 rfl rfl) rfl rfl hl.1 rfl (lv_room (Nat.le_of_ble_eq_true rfl)) dX11_owed_28 ⟨(Nat.le_of_ble_eq_true rfl), (Nat.le_of_ble_eq_true rfl)⟩) hS (fun q _ h => hFc q h) hFc (fun r_6 u t H locs ht hvm w_5 hB hz1 hk1 hS => ?_)
  subst w_5
  refine lv_goto (tgt := 41) hx hb dX11_owed_31 (by decide) ?_
  exact W.iret (v := 1000000001) hx hb hr (fun t ht hW => ⟨⟨1000000001, (), rfl, rfl, trivial⟩, hS.F ht⟩) hS.2.2 dX11_owed_41
