abbrev cX11_refuseFar : ByteArray := prog_13_method_3_code
def yX11_refuseFar : MethodName := ⟨RX11, "refuseFar", "(I)I"⟩
abbrev cX11_voyage : ByteArray := prog_13_method_12_code
def yX11_voyage : MethodName := ⟨RX11, "voyage", "(II)I"⟩
abbrev cX11_ended : ByteArray := prog_13_method_15_code
def yX11_ended : MethodName := ⟨RX11, "ended", "(II)I"⟩
abbrev cX11_feed : ByteArray := prog_13_method_25_code
def yX11_feed : MethodName := ⟨RX11, "feed", "(IJ)I"⟩
abbrev cX11_act : ByteArray := prog_13_method_35_code
def yX11_act : MethodName := ⟨RX11, "act", "(II)I"⟩
abbrev cX11_sign_ : ByteArray := prog_13_method_49_code
def yX11_sign_ : MethodName := ⟨RX11, "sign", "(IIIII)I"⟩
abbrev cX11_off : ByteArray := prog_13_method_50_code
def yX11_off : MethodName := ⟨RX11, "off", "(II)I"⟩
abbrev cX11_state : ByteArray := prog_13_method_52_code
def yX11_state : MethodName := ⟨RX11, "state", "(III)I"⟩
abbrev cX11_earns : ByteArray := prog_13_method_53_code
def yX11_earns : MethodName := ⟨RX11, "earns", "(III)I"⟩
abbrev cX11_advance : ByteArray := prog_13_method_54_code
def yX11_advance : MethodName := ⟨RX11, "advance", "(II)I"⟩
abbrev cX11_sold : ByteArray := prog_13_method_55_code
def yX11_sold : MethodName := ⟨RX11, "sold", "(II)I"⟩
abbrev cX11_allot : ByteArray := prog_13_method_56_code
def yX11_allot : MethodName := ⟨RX11, "allot", "(II)I"⟩
abbrev cX11_aboard : ByteArray := prog_13_method_66_code
def yX11_aboard : MethodName := ⟨RX11, "aboard", "(III)I"⟩
def wsX11_refuseFar : List Cond := .code yX11_refuseFar cX11_refuseFar 2 (some .int) :: ([.constant RX11 152 (1000000000), .methodLink RX11 153 yX11_refuse, .instanceMethod yX11_refuse, .selects RX11 yX11_refuse yX11_refuse, .initialized RX11, .code yX11_refuse cX11_refuse 2 (some .int), .fieldLink RX11 7 "ShipOfficeModel" "refusals" "[I"] ++ wsX110)
def wsX11_voyage : List Cond := .code yX11_voyage cX11_voyage 4 (some .int) :: ([.fieldLink RX11 165 "ShipOfficeModel" "voyages" "I", .fieldLink RX11 28 "ShipOfficeModel" "ship" "[I", .fieldLink RX11 37 "ShipOfficeModel" "endedOn" "[I", .fieldLink RX11 31 "ShipOfficeModel" "opened" "[I", .fieldLink RX11 171 "ShipOfficeModel" "now" "I", .fieldLink RX11 34 "ShipOfficeModel" "openPort" "[I", .methodLink RX11 161 yX11_isIn, .static yX11_isIn, .initialized RX11, .code yX11_isIn cX11_isIn 2 (some .boolean), .methodLink RX11 174 yX11_isPort, .static yX11_isPort, .code yX11_isPort cX11_isPort 1 (some .boolean), .methodLink RX11 153 yX11_refuse, .instanceMethod yX11_refuse, .selects RX11 yX11_refuse yX11_refuse, .code yX11_refuse cX11_refuse 2 (some .int), .fieldLink RX11 7 "ShipOfficeModel" "refusals" "[I"] ++ wsX110)
def wsX11_ended_r1 : List Cond := [Cond.fieldLink RX11 37 "ShipOfficeModel" "endedOn" "[I", Cond.fieldLink RX11 168 "ShipOfficeModel" "agreements" "I", Cond.fieldLink RX11 73 "ShipOfficeModel" "voyage" "[I", Cond.fieldLink RX11 88 "ShipOfficeModel" "offOn" "[I", Cond.fieldLink RX11 171 "ShipOfficeModel" "now" "I", Cond.methodLink RX11 185 yX11_isVoyage, Cond.instanceMethod yX11_isVoyage, Cond.selects RX11 yX11_isVoyage yX11_isVoyage, Cond.initialized RX11, Cond.code yX11_isVoyage cX11_isVoyage 2 (some .boolean), Cond.fieldLink RX11 165 "ShipOfficeModel" "voyages" "I", Cond.methodLink RX11 161 yX11_isIn, Cond.static yX11_isIn, Cond.code yX11_isIn cX11_isIn 2 (some .boolean), Cond.methodLink RX11 174 yX11_isPort, Cond.static yX11_isPort, Cond.code yX11_isPort cX11_isPort 1 (some .boolean), Cond.methodLink RX11 153 yX11_refuse, Cond.instanceMethod yX11_refuse, Cond.selects RX11 yX11_refuse yX11_refuse, Cond.code yX11_refuse cX11_refuse 2 (some .int), Cond.fieldLink RX11 7 "ShipOfficeModel" "refusals" "[I", Cond.methodLink RX11 182 yX11_wasTold, Cond.instanceMethod yX11_wasTold]
def wsX11_ended_r2 : List Cond := [Cond.selects RX11 yX11_wasTold yX11_wasTold, Cond.code yX11_wasTold cX11_wasTold 4 (some .boolean), Cond.fieldLink RX11 179 "ShipOfficeModel" "happened" "I", Cond.fieldLink RX11 40 "ShipOfficeModel" "what" "[I", Cond.fieldLink RX11 43 "ShipOfficeModel" "whose" "[I", Cond.methodLink RX11 188 yX11_goesOn, Cond.instanceMethod yX11_goesOn, Cond.selects RX11 yX11_goesOn yX11_goesOn, Cond.code yX11_goesOn cX11_goesOn 2 (some .boolean)]
def wsX11_ended : List Cond := .code yX11_ended cX11_ended 5 (some .int) :: ((wsX11_ended_r1 ++ wsX11_ended_r2) ++ wsX110)
def wsX11_feed : List Cond := .code yX11_feed cX11_feed 5 (some .int) :: ([.fieldLink RX11 205 "ShipOfficeModel" "taped" "I", .fieldLink RX11 125 "ShipOfficeModel" "tape" "[I", .constantLong RX11 208 (255), .methodLink RX11 153 yX11_refuse, .instanceMethod yX11_refuse, .selects RX11 yX11_refuse yX11_refuse, .initialized RX11, .code yX11_refuse cX11_refuse 2 (some .int), .fieldLink RX11 7 "ShipOfficeModel" "refusals" "[I"] ++ wsX110)
def wsX11_act_r1 : List Cond := [Cond.fieldLink RX11 171 "ShipOfficeModel" "now" "I", Cond.fieldLink RX11 256 "ShipOfficeModel" "acts" "I", Cond.fieldLink RX11 205 "ShipOfficeModel" "taped" "I", Cond.fieldLink RX11 223 "ShipOfficeModel" "isWell" "Z", Cond.fieldLink RX11 210 "ShipOfficeModel" "at" "I", Cond.fieldLink RX11 67 "ShipOfficeModel" "text" "[I", Cond.fieldLink RX11 125 "ShipOfficeModel" "tape" "[I", Cond.fieldLink RX11 58 "ShipOfficeModel" "textSize" "[I", Cond.fieldLink RX11 61 "ShipOfficeModel" "purpose" "[I", Cond.fieldLink RX11 64 "ShipOfficeModel" "from" "[I", Cond.methodLink RX11 161 yX11_isIn, Cond.static yX11_isIn, Cond.initialized RX11, Cond.code yX11_isIn cX11_isIn 2 (some .boolean), Cond.methodLink RX11 153 yX11_refuse, Cond.instanceMethod yX11_refuse, Cond.selects RX11 yX11_refuse yX11_refuse, Cond.code yX11_refuse cX11_refuse 2 (some .int), Cond.fieldLink RX11 7 "ShipOfficeModel" "refusals" "[I", Cond.methodLink RX11 259 yX11_goesThrough, Cond.instanceMethod yX11_goesThrough, Cond.selects RX11 yX11_goesThrough yX11_goesThrough, Cond.code yX11_goesThrough cX11_goesThrough 3 (some .int), Cond.fieldLink RX11 216 "ShipOfficeModel" "base" "I"]
def wsX11_act_r2 : List Cond := [Cond.fieldLink RX11 213 "ShipOfficeModel" "size" "I", Cond.fieldLink RX11 244 "ShipOfficeModel" "deep" "I", Cond.methodLink RX11 250 yX11_sum, Cond.instanceMethod yX11_sum, Cond.selects RX11 yX11_sum yX11_sum, Cond.code yX11_sum cX11_sum 4 (some .int), Cond.methodLink RX11 231 yX11_term, Cond.instanceMethod yX11_term, Cond.selects RX11 yX11_term yX11_term, Cond.methodLink RX11 227 yX11_sign, Cond.instanceMethod yX11_sign, Cond.selects RX11 yX11_sign yX11_sign, Cond.code yX11_sign cX11_sign 1 (some .int), Cond.methodLink RX11 234 yX11_held, Cond.static yX11_held, Cond.code yX11_held cX11_held 2 (some .int), Cond.constantLong RX11 219 (1000000000), Cond.constantLong RX11 221 (-1000000000), Cond.code yX11_term cX11_term 4 (some .int), Cond.methodLink RX11 238 yX11_unit, Cond.instanceMethod yX11_unit, Cond.selects RX11 yX11_unit yX11_unit, Cond.code yX11_unit cX11_unit 5 (some .int), Cond.fieldLink RX11 128 "ShipOfficeModel" "letters" "[I"]
def wsX11_act_r3 : List Cond := [Cond.methodLink RX11 241 yX11_isLetter, Cond.static yX11_isLetter, Cond.code yX11_isLetter cX11_isLetter 1 (some .boolean), Cond.methodLink RX11 247 yX11_breaks, Cond.instanceMethod yX11_breaks, Cond.selects RX11 yX11_breaks yX11_breaks, Cond.code yX11_breaks cX11_breaks 1 (some .int), Cond.methodLink RX11 253 yX11_takes, Cond.instanceMethod yX11_takes, Cond.selects RX11 yX11_takes yX11_takes, Cond.code yX11_takes cX11_takes 2 (some .boolean)]
def wsX11_act : List Cond := .code yX11_act cX11_act 7 (some .int) :: ((wsX11_act_r1 ++ (wsX11_act_r2 ++ wsX11_act_r3)) ++ wsX110)
def wsX11_sign__r1 : List Cond := [Cond.fieldLink RX11 168 "ShipOfficeModel" "agreements" "I", Cond.fieldLink RX11 37 "ShipOfficeModel" "endedOn" "[I", Cond.fieldLink RX11 88 "ShipOfficeModel" "offOn" "[I", Cond.fieldLink RX11 70 "ShipOfficeModel" "man" "[I", Cond.fieldLink RX11 128 "ShipOfficeModel" "letters" "[I", Cond.fieldLink RX11 171 "ShipOfficeModel" "now" "I", Cond.fieldLink RX11 22 "ShipOfficeModel" "born" "[I", Cond.fieldLink RX11 73 "ShipOfficeModel" "voyage" "[I", Cond.fieldLink RX11 76 "ShipOfficeModel" "wage" "[I", Cond.fieldLink RX11 79 "ShipOfficeModel" "rank" "[I", Cond.fieldLink RX11 82 "ShipOfficeModel" "paper" "[I", Cond.fieldLink RX11 85 "ShipOfficeModel" "signed" "[I", Cond.fieldLink RX11 94 "ShipOfficeModel" "given" "[I", Cond.methodLink RX11 297 yX11_isMan, Cond.instanceMethod yX11_isMan, Cond.selects RX11 yX11_isMan yX11_isMan, Cond.initialized RX11, Cond.code yX11_isMan cX11_isMan 2 (some .boolean), Cond.fieldLink RX11 157 "ShipOfficeModel" "men" "I", Cond.methodLink RX11 161 yX11_isIn, Cond.static yX11_isIn, Cond.code yX11_isIn cX11_isIn 2 (some .boolean), Cond.methodLink RX11 185 yX11_isVoyage, Cond.instanceMethod yX11_isVoyage]
def wsX11_sign__r2 : List Cond := [Cond.selects RX11 yX11_isVoyage yX11_isVoyage, Cond.code yX11_isVoyage cX11_isVoyage 2 (some .boolean), Cond.fieldLink RX11 165 "ShipOfficeModel" "voyages" "I", Cond.methodLink RX11 199 yX11_isAgreement, Cond.instanceMethod yX11_isAgreement, Cond.selects RX11 yX11_isAgreement yX11_isAgreement, Cond.code yX11_isAgreement cX11_isAgreement 2 (some .boolean), Cond.methodLink RX11 153 yX11_refuse, Cond.instanceMethod yX11_refuse, Cond.selects RX11 yX11_refuse yX11_refuse, Cond.code yX11_refuse cX11_refuse 2 (some .int), Cond.fieldLink RX11 7 "ShipOfficeModel" "refusals" "[I", Cond.methodLink RX11 182 yX11_wasTold, Cond.instanceMethod yX11_wasTold, Cond.selects RX11 yX11_wasTold yX11_wasTold, Cond.code yX11_wasTold cX11_wasTold 4 (some .boolean), Cond.fieldLink RX11 179 "ShipOfficeModel" "happened" "I", Cond.fieldLink RX11 40 "ShipOfficeModel" "what" "[I", Cond.fieldLink RX11 43 "ShipOfficeModel" "whose" "[I", Cond.methodLink RX11 188 yX11_goesOn, Cond.instanceMethod yX11_goesOn, Cond.selects RX11 yX11_goesOn yX11_goesOn, Cond.code yX11_goesOn cX11_goesOn 2 (some .boolean), Cond.methodLink RX11 275 yX11_bare]
def wsX11_sign__r3 : List Cond := [Cond.instanceMethod yX11_bare, Cond.selects RX11 yX11_bare yX11_bare, Cond.code yX11_bare cX11_bare 2 none, Cond.methodLink RX11 285 yX11_worth, Cond.instanceMethod yX11_worth, Cond.selects RX11 yX11_worth yX11_worth, Cond.code yX11_worth cX11_worth 4 (some .int), Cond.fieldLink RX11 58 "ShipOfficeModel" "textSize" "[I", Cond.methodLink RX11 263 yX11_actOn, Cond.instanceMethod yX11_actOn, Cond.selects RX11 yX11_actOn yX11_actOn, Cond.code yX11_actOn cX11_actOn 5 (some .int), Cond.fieldLink RX11 256 "ShipOfficeModel" "acts" "I", Cond.fieldLink RX11 61 "ShipOfficeModel" "purpose" "[I", Cond.fieldLink RX11 64 "ShipOfficeModel" "from" "[I", Cond.methodLink RX11 259 yX11_goesThrough, Cond.instanceMethod yX11_goesThrough, Cond.selects RX11 yX11_goesThrough yX11_goesThrough, Cond.code yX11_goesThrough cX11_goesThrough 3 (some .int), Cond.fieldLink RX11 216 "ShipOfficeModel" "base" "I", Cond.fieldLink RX11 213 "ShipOfficeModel" "size" "I", Cond.fieldLink RX11 210 "ShipOfficeModel" "at" "I", Cond.fieldLink RX11 244 "ShipOfficeModel" "deep" "I", Cond.fieldLink RX11 223 "ShipOfficeModel" "isWell" "Z"]
def wsX11_sign__r4 : List Cond := [Cond.methodLink RX11 250 yX11_sum, Cond.instanceMethod yX11_sum, Cond.selects RX11 yX11_sum yX11_sum, Cond.code yX11_sum cX11_sum 4 (some .int), Cond.methodLink RX11 231 yX11_term, Cond.instanceMethod yX11_term, Cond.selects RX11 yX11_term yX11_term, Cond.methodLink RX11 227 yX11_sign, Cond.instanceMethod yX11_sign, Cond.selects RX11 yX11_sign yX11_sign, Cond.code yX11_sign cX11_sign 1 (some .int), Cond.fieldLink RX11 125 "ShipOfficeModel" "tape" "[I", Cond.fieldLink RX11 67 "ShipOfficeModel" "text" "[I", Cond.methodLink RX11 234 yX11_held, Cond.static yX11_held, Cond.code yX11_held cX11_held 2 (some .int), Cond.constantLong RX11 219 (1000000000), Cond.constantLong RX11 221 (-1000000000), Cond.code yX11_term cX11_term 4 (some .int), Cond.methodLink RX11 238 yX11_unit, Cond.instanceMethod yX11_unit, Cond.selects RX11 yX11_unit yX11_unit, Cond.code yX11_unit cX11_unit 5 (some .int), Cond.methodLink RX11 241 yX11_isLetter]
def wsX11_sign__r5 : List Cond := [Cond.static yX11_isLetter, Cond.code yX11_isLetter cX11_isLetter 1 (some .boolean), Cond.methodLink RX11 247 yX11_breaks, Cond.instanceMethod yX11_breaks, Cond.selects RX11 yX11_breaks yX11_breaks, Cond.code yX11_breaks cX11_breaks 1 (some .int), Cond.methodLink RX11 253 yX11_takes, Cond.instanceMethod yX11_takes, Cond.selects RX11 yX11_takes yX11_takes, Cond.code yX11_takes cX11_takes 2 (some .boolean)]
def wsX11_sign_ : List Cond := .code yX11_sign_ cX11_sign_ 8 (some .int) :: ((wsX11_sign__r1 ++ (wsX11_sign__r2 ++ (wsX11_sign__r3 ++ (wsX11_sign__r4 ++ wsX11_sign__r5)))) ++ wsX110)
def wsX11_off_r1 : List Cond := [Cond.fieldLink RX11 88 "ShipOfficeModel" "offOn" "[I", Cond.fieldLink RX11 171 "ShipOfficeModel" "now" "I", Cond.methodLink RX11 199 yX11_isAgreement, Cond.instanceMethod yX11_isAgreement, Cond.selects RX11 yX11_isAgreement yX11_isAgreement, Cond.initialized RX11, Cond.code yX11_isAgreement cX11_isAgreement 2 (some .boolean), Cond.fieldLink RX11 168 "ShipOfficeModel" "agreements" "I", Cond.methodLink RX11 161 yX11_isIn, Cond.static yX11_isIn, Cond.code yX11_isIn cX11_isIn 2 (some .boolean), Cond.methodLink RX11 174 yX11_isPort, Cond.static yX11_isPort, Cond.code yX11_isPort cX11_isPort 1 (some .boolean), Cond.methodLink RX11 153 yX11_refuse, Cond.instanceMethod yX11_refuse, Cond.selects RX11 yX11_refuse yX11_refuse, Cond.code yX11_refuse cX11_refuse 2 (some .int), Cond.fieldLink RX11 7 "ShipOfficeModel" "refusals" "[I", Cond.methodLink RX11 188 yX11_goesOn, Cond.instanceMethod yX11_goesOn, Cond.selects RX11 yX11_goesOn yX11_goesOn, Cond.code yX11_goesOn cX11_goesOn 2 (some .boolean), Cond.fieldLink RX11 73 "ShipOfficeModel" "voyage" "[I"]
def wsX11_off_r2 : List Cond := [Cond.methodLink RX11 182 yX11_wasTold, Cond.instanceMethod yX11_wasTold, Cond.selects RX11 yX11_wasTold yX11_wasTold, Cond.code yX11_wasTold cX11_wasTold 4 (some .boolean), Cond.fieldLink RX11 179 "ShipOfficeModel" "happened" "I", Cond.fieldLink RX11 40 "ShipOfficeModel" "what" "[I", Cond.fieldLink RX11 43 "ShipOfficeModel" "whose" "[I"]
def wsX11_off : List Cond := .code yX11_off cX11_off 3 (some .int) :: ((wsX11_off_r1 ++ wsX11_off_r2) ++ wsX110)
def wsX11_state_r1 : List Cond := [Cond.methodLink RX11 199 yX11_isAgreement, Cond.instanceMethod yX11_isAgreement, Cond.selects RX11 yX11_isAgreement yX11_isAgreement, Cond.initialized RX11, Cond.code yX11_isAgreement cX11_isAgreement 2 (some .boolean), Cond.fieldLink RX11 168 "ShipOfficeModel" "agreements" "I", Cond.methodLink RX11 161 yX11_isIn, Cond.static yX11_isIn, Cond.code yX11_isIn cX11_isIn 2 (some .boolean), Cond.methodLink RX11 300 yX11_wrongTimes, Cond.instanceMethod yX11_wrongTimes, Cond.selects RX11 yX11_wrongTimes yX11_wrongTimes, Cond.code yX11_wrongTimes cX11_wrongTimes 3 (some .int), Cond.fieldLink RX11 171 "ShipOfficeModel" "now" "I", Cond.methodLink RX11 153 yX11_refuse, Cond.instanceMethod yX11_refuse, Cond.selects RX11 yX11_refuse yX11_refuse, Cond.code yX11_refuse cX11_refuse 2 (some .int), Cond.fieldLink RX11 7 "ShipOfficeModel" "refusals" "[I", Cond.methodLink RX11 266 yX11_stateOf, Cond.instanceMethod yX11_stateOf, Cond.selects RX11 yX11_stateOf yX11_stateOf, Cond.code yX11_stateOf cX11_stateOf 5 (some .int), Cond.fieldLink RX11 85 "ShipOfficeModel" "signed" "[I"]
def wsX11_state_r2 : List Cond := [Cond.fieldLink RX11 88 "ShipOfficeModel" "offOn" "[I", Cond.fieldLink RX11 40 "ShipOfficeModel" "what" "[I", Cond.fieldLink RX11 73 "ShipOfficeModel" "voyage" "[I", Cond.methodLink RX11 288 yX11_isDead, Cond.instanceMethod yX11_isDead, Cond.selects RX11 yX11_isDead yX11_isDead, Cond.code yX11_isDead cX11_isDead 5 (some .boolean), Cond.fieldLink RX11 179 "ShipOfficeModel" "happened" "I", Cond.fieldLink RX11 43 "ShipOfficeModel" "whose" "[I", Cond.fieldLink RX11 49 "ShipOfficeModel" "known" "[I", Cond.fieldLink RX11 46 "ShipOfficeModel" "day" "[I", Cond.methodLink RX11 291 yX11_whereOf, Cond.instanceMethod yX11_whereOf, Cond.selects RX11 yX11_whereOf yX11_whereOf, Cond.code yX11_whereOf cX11_whereOf 6 (some .int), Cond.methodLink RX11 281 yX11_hasSailed, Cond.instanceMethod yX11_hasSailed, Cond.selects RX11 yX11_hasSailed yX11_hasSailed, Cond.code yX11_hasSailed cX11_hasSailed 5 (some .boolean), Cond.methodLink RX11 278 yX11_sailedOn, Cond.instanceMethod yX11_sailedOn, Cond.selects RX11 yX11_sailedOn yX11_sailedOn, Cond.code yX11_sailedOn cX11_sailedOn 4 (some .int), Cond.methodLink RX11 294 yX11_isUnknown]
def wsX11_state_r3 : List Cond := [Cond.instanceMethod yX11_isUnknown, Cond.selects RX11 yX11_isUnknown yX11_isUnknown, Cond.code yX11_isUnknown cX11_isUnknown 4 (some .boolean), Cond.methodLink RX11 275 yX11_bare, Cond.instanceMethod yX11_bare, Cond.selects RX11 yX11_bare yX11_bare, Cond.code yX11_bare cX11_bare 2 none, Cond.fieldLink RX11 128 "ShipOfficeModel" "letters" "[I", Cond.methodLink RX11 272 yX11_lastHeard, Cond.instanceMethod yX11_lastHeard, Cond.selects RX11 yX11_lastHeard yX11_lastHeard, Cond.code yX11_lastHeard cX11_lastHeard 6 (some .int), Cond.methodLink RX11 285 yX11_worth, Cond.instanceMethod yX11_worth, Cond.selects RX11 yX11_worth yX11_worth, Cond.code yX11_worth cX11_worth 4 (some .int), Cond.fieldLink RX11 58 "ShipOfficeModel" "textSize" "[I", Cond.methodLink RX11 263 yX11_actOn, Cond.instanceMethod yX11_actOn, Cond.selects RX11 yX11_actOn yX11_actOn, Cond.code yX11_actOn cX11_actOn 5 (some .int), Cond.fieldLink RX11 256 "ShipOfficeModel" "acts" "I", Cond.fieldLink RX11 61 "ShipOfficeModel" "purpose" "[I", Cond.fieldLink RX11 64 "ShipOfficeModel" "from" "[I"]
def wsX11_state_r4 : List Cond := [Cond.methodLink RX11 259 yX11_goesThrough, Cond.instanceMethod yX11_goesThrough, Cond.selects RX11 yX11_goesThrough yX11_goesThrough, Cond.code yX11_goesThrough cX11_goesThrough 3 (some .int), Cond.fieldLink RX11 216 "ShipOfficeModel" "base" "I", Cond.fieldLink RX11 213 "ShipOfficeModel" "size" "I", Cond.fieldLink RX11 210 "ShipOfficeModel" "at" "I", Cond.fieldLink RX11 244 "ShipOfficeModel" "deep" "I", Cond.fieldLink RX11 223 "ShipOfficeModel" "isWell" "Z", Cond.methodLink RX11 250 yX11_sum, Cond.instanceMethod yX11_sum, Cond.selects RX11 yX11_sum yX11_sum, Cond.code yX11_sum cX11_sum 4 (some .int), Cond.methodLink RX11 231 yX11_term, Cond.instanceMethod yX11_term, Cond.selects RX11 yX11_term yX11_term, Cond.methodLink RX11 227 yX11_sign, Cond.instanceMethod yX11_sign, Cond.selects RX11 yX11_sign yX11_sign, Cond.code yX11_sign cX11_sign 1 (some .int), Cond.fieldLink RX11 125 "ShipOfficeModel" "tape" "[I", Cond.fieldLink RX11 67 "ShipOfficeModel" "text" "[I", Cond.methodLink RX11 234 yX11_held, Cond.static yX11_held]
def wsX11_state_r5 : List Cond := [Cond.code yX11_held cX11_held 2 (some .int), Cond.constantLong RX11 219 (1000000000), Cond.constantLong RX11 221 (-1000000000), Cond.code yX11_term cX11_term 4 (some .int), Cond.methodLink RX11 238 yX11_unit, Cond.instanceMethod yX11_unit, Cond.selects RX11 yX11_unit yX11_unit, Cond.code yX11_unit cX11_unit 5 (some .int), Cond.methodLink RX11 241 yX11_isLetter, Cond.static yX11_isLetter, Cond.code yX11_isLetter cX11_isLetter 1 (some .boolean), Cond.methodLink RX11 247 yX11_breaks, Cond.instanceMethod yX11_breaks, Cond.selects RX11 yX11_breaks yX11_breaks, Cond.code yX11_breaks cX11_breaks 1 (some .int), Cond.methodLink RX11 253 yX11_takes, Cond.instanceMethod yX11_takes, Cond.selects RX11 yX11_takes yX11_takes, Cond.code yX11_takes cX11_takes 2 (some .boolean)]
def wsX11_state : List Cond := .code yX11_state cX11_state 5 (some .int) :: ((wsX11_state_r1 ++ (wsX11_state_r2 ++ (wsX11_state_r3 ++ (wsX11_state_r4 ++ wsX11_state_r5)))) ++ wsX110)
def wsX11_earns_r1 : List Cond := [Cond.methodLink RX11 199 yX11_isAgreement, Cond.instanceMethod yX11_isAgreement, Cond.selects RX11 yX11_isAgreement yX11_isAgreement, Cond.initialized RX11, Cond.code yX11_isAgreement cX11_isAgreement 2 (some .boolean), Cond.fieldLink RX11 168 "ShipOfficeModel" "agreements" "I", Cond.methodLink RX11 161 yX11_isIn, Cond.static yX11_isIn, Cond.code yX11_isIn cX11_isIn 2 (some .boolean), Cond.methodLink RX11 300 yX11_wrongTimes, Cond.instanceMethod yX11_wrongTimes, Cond.selects RX11 yX11_wrongTimes yX11_wrongTimes, Cond.code yX11_wrongTimes cX11_wrongTimes 3 (some .int), Cond.fieldLink RX11 171 "ShipOfficeModel" "now" "I", Cond.methodLink RX11 153 yX11_refuse, Cond.instanceMethod yX11_refuse, Cond.selects RX11 yX11_refuse yX11_refuse, Cond.code yX11_refuse cX11_refuse 2 (some .int), Cond.fieldLink RX11 7 "ShipOfficeModel" "refusals" "[I", Cond.methodLink RX11 303 yX11_earnsOf, Cond.instanceMethod yX11_earnsOf, Cond.selects RX11 yX11_earnsOf yX11_earnsOf, Cond.code yX11_earnsOf cX11_earnsOf 7 (some .int), Cond.fieldLink RX11 73 "ShipOfficeModel" "voyage" "[I"]
def wsX11_earns_r2 : List Cond := [Cond.fieldLink RX11 85 "ShipOfficeModel" "signed" "[I", Cond.methodLink RX11 266 yX11_stateOf, Cond.instanceMethod yX11_stateOf, Cond.selects RX11 yX11_stateOf yX11_stateOf, Cond.code yX11_stateOf cX11_stateOf 5 (some .int), Cond.fieldLink RX11 88 "ShipOfficeModel" "offOn" "[I", Cond.fieldLink RX11 40 "ShipOfficeModel" "what" "[I", Cond.methodLink RX11 288 yX11_isDead, Cond.instanceMethod yX11_isDead, Cond.selects RX11 yX11_isDead yX11_isDead, Cond.code yX11_isDead cX11_isDead 5 (some .boolean), Cond.fieldLink RX11 179 "ShipOfficeModel" "happened" "I", Cond.fieldLink RX11 43 "ShipOfficeModel" "whose" "[I", Cond.fieldLink RX11 49 "ShipOfficeModel" "known" "[I", Cond.fieldLink RX11 46 "ShipOfficeModel" "day" "[I", Cond.methodLink RX11 291 yX11_whereOf, Cond.instanceMethod yX11_whereOf, Cond.selects RX11 yX11_whereOf yX11_whereOf, Cond.code yX11_whereOf cX11_whereOf 6 (some .int), Cond.methodLink RX11 281 yX11_hasSailed, Cond.instanceMethod yX11_hasSailed, Cond.selects RX11 yX11_hasSailed yX11_hasSailed, Cond.code yX11_hasSailed cX11_hasSailed 5 (some .boolean), Cond.methodLink RX11 278 yX11_sailedOn]
def wsX11_earns_r3 : List Cond := [Cond.instanceMethod yX11_sailedOn, Cond.selects RX11 yX11_sailedOn yX11_sailedOn, Cond.code yX11_sailedOn cX11_sailedOn 4 (some .int), Cond.methodLink RX11 294 yX11_isUnknown, Cond.instanceMethod yX11_isUnknown, Cond.selects RX11 yX11_isUnknown yX11_isUnknown, Cond.code yX11_isUnknown cX11_isUnknown 4 (some .boolean), Cond.methodLink RX11 275 yX11_bare, Cond.instanceMethod yX11_bare, Cond.selects RX11 yX11_bare yX11_bare, Cond.code yX11_bare cX11_bare 2 none, Cond.fieldLink RX11 128 "ShipOfficeModel" "letters" "[I", Cond.methodLink RX11 272 yX11_lastHeard, Cond.instanceMethod yX11_lastHeard, Cond.selects RX11 yX11_lastHeard yX11_lastHeard, Cond.code yX11_lastHeard cX11_lastHeard 6 (some .int), Cond.methodLink RX11 285 yX11_worth, Cond.instanceMethod yX11_worth, Cond.selects RX11 yX11_worth yX11_worth, Cond.code yX11_worth cX11_worth 4 (some .int), Cond.fieldLink RX11 58 "ShipOfficeModel" "textSize" "[I", Cond.methodLink RX11 263 yX11_actOn, Cond.instanceMethod yX11_actOn, Cond.selects RX11 yX11_actOn yX11_actOn]
def wsX11_earns_r4 : List Cond := [Cond.code yX11_actOn cX11_actOn 5 (some .int), Cond.fieldLink RX11 256 "ShipOfficeModel" "acts" "I", Cond.fieldLink RX11 61 "ShipOfficeModel" "purpose" "[I", Cond.fieldLink RX11 64 "ShipOfficeModel" "from" "[I", Cond.methodLink RX11 259 yX11_goesThrough, Cond.instanceMethod yX11_goesThrough, Cond.selects RX11 yX11_goesThrough yX11_goesThrough, Cond.code yX11_goesThrough cX11_goesThrough 3 (some .int), Cond.fieldLink RX11 216 "ShipOfficeModel" "base" "I", Cond.fieldLink RX11 213 "ShipOfficeModel" "size" "I", Cond.fieldLink RX11 210 "ShipOfficeModel" "at" "I", Cond.fieldLink RX11 244 "ShipOfficeModel" "deep" "I", Cond.fieldLink RX11 223 "ShipOfficeModel" "isWell" "Z", Cond.methodLink RX11 250 yX11_sum, Cond.instanceMethod yX11_sum, Cond.selects RX11 yX11_sum yX11_sum, Cond.code yX11_sum cX11_sum 4 (some .int), Cond.methodLink RX11 231 yX11_term, Cond.instanceMethod yX11_term, Cond.selects RX11 yX11_term yX11_term, Cond.methodLink RX11 227 yX11_sign, Cond.instanceMethod yX11_sign, Cond.selects RX11 yX11_sign yX11_sign, Cond.code yX11_sign cX11_sign 1 (some .int)]
def wsX11_earns_r5 : List Cond := [Cond.fieldLink RX11 125 "ShipOfficeModel" "tape" "[I", Cond.fieldLink RX11 67 "ShipOfficeModel" "text" "[I", Cond.methodLink RX11 234 yX11_held, Cond.static yX11_held, Cond.code yX11_held cX11_held 2 (some .int), Cond.constantLong RX11 219 (1000000000), Cond.constantLong RX11 221 (-1000000000), Cond.code yX11_term cX11_term 4 (some .int), Cond.methodLink RX11 238 yX11_unit, Cond.instanceMethod yX11_unit, Cond.selects RX11 yX11_unit yX11_unit, Cond.code yX11_unit cX11_unit 5 (some .int), Cond.methodLink RX11 241 yX11_isLetter, Cond.static yX11_isLetter, Cond.code yX11_isLetter cX11_isLetter 1 (some .boolean), Cond.methodLink RX11 247 yX11_breaks, Cond.instanceMethod yX11_breaks, Cond.selects RX11 yX11_breaks yX11_breaks, Cond.code yX11_breaks cX11_breaks 1 (some .int), Cond.methodLink RX11 253 yX11_takes, Cond.instanceMethod yX11_takes, Cond.selects RX11 yX11_takes yX11_takes, Cond.code yX11_takes cX11_takes 2 (some .boolean)]
def wsX11_earns : List Cond := .code yX11_earns cX11_earns 5 (some .int) :: ((wsX11_earns_r1 ++ (wsX11_earns_r2 ++ (wsX11_earns_r3 ++ (wsX11_earns_r4 ++ wsX11_earns_r5)))) ++ wsX110)
def wsX11_advance_r1 : List Cond := [Cond.fieldLink RX11 91 "ShipOfficeModel" "note" "[I", Cond.fieldLink RX11 171 "ShipOfficeModel" "now" "I", Cond.constant RX11 178 (99999), Cond.methodLink RX11 199 yX11_isAgreement, Cond.instanceMethod yX11_isAgreement, Cond.selects RX11 yX11_isAgreement yX11_isAgreement, Cond.initialized RX11, Cond.code yX11_isAgreement cX11_isAgreement 2 (some .boolean), Cond.fieldLink RX11 168 "ShipOfficeModel" "agreements" "I", Cond.methodLink RX11 161 yX11_isIn, Cond.static yX11_isIn, Cond.code yX11_isIn cX11_isIn 2 (some .boolean), Cond.methodLink RX11 153 yX11_refuse, Cond.instanceMethod yX11_refuse, Cond.selects RX11 yX11_refuse yX11_refuse, Cond.code yX11_refuse cX11_refuse 2 (some .int), Cond.fieldLink RX11 7 "ShipOfficeModel" "refusals" "[I", Cond.methodLink RX11 266 yX11_stateOf, Cond.instanceMethod yX11_stateOf, Cond.selects RX11 yX11_stateOf yX11_stateOf, Cond.code yX11_stateOf cX11_stateOf 5 (some .int), Cond.fieldLink RX11 85 "ShipOfficeModel" "signed" "[I", Cond.fieldLink RX11 88 "ShipOfficeModel" "offOn" "[I", Cond.fieldLink RX11 40 "ShipOfficeModel" "what" "[I"]
def wsX11_advance_r2 : List Cond := [Cond.fieldLink RX11 73 "ShipOfficeModel" "voyage" "[I", Cond.methodLink RX11 288 yX11_isDead, Cond.instanceMethod yX11_isDead, Cond.selects RX11 yX11_isDead yX11_isDead, Cond.code yX11_isDead cX11_isDead 5 (some .boolean), Cond.fieldLink RX11 179 "ShipOfficeModel" "happened" "I", Cond.fieldLink RX11 43 "ShipOfficeModel" "whose" "[I", Cond.fieldLink RX11 49 "ShipOfficeModel" "known" "[I", Cond.fieldLink RX11 46 "ShipOfficeModel" "day" "[I", Cond.methodLink RX11 291 yX11_whereOf, Cond.instanceMethod yX11_whereOf, Cond.selects RX11 yX11_whereOf yX11_whereOf, Cond.code yX11_whereOf cX11_whereOf 6 (some .int), Cond.methodLink RX11 281 yX11_hasSailed, Cond.instanceMethod yX11_hasSailed, Cond.selects RX11 yX11_hasSailed yX11_hasSailed, Cond.code yX11_hasSailed cX11_hasSailed 5 (some .boolean), Cond.methodLink RX11 278 yX11_sailedOn, Cond.instanceMethod yX11_sailedOn, Cond.selects RX11 yX11_sailedOn yX11_sailedOn, Cond.code yX11_sailedOn cX11_sailedOn 4 (some .int), Cond.methodLink RX11 294 yX11_isUnknown, Cond.instanceMethod yX11_isUnknown, Cond.selects RX11 yX11_isUnknown yX11_isUnknown]
def wsX11_advance_r3 : List Cond := [Cond.code yX11_isUnknown cX11_isUnknown 4 (some .boolean), Cond.methodLink RX11 275 yX11_bare, Cond.instanceMethod yX11_bare, Cond.selects RX11 yX11_bare yX11_bare, Cond.code yX11_bare cX11_bare 2 none, Cond.fieldLink RX11 128 "ShipOfficeModel" "letters" "[I", Cond.methodLink RX11 272 yX11_lastHeard, Cond.instanceMethod yX11_lastHeard, Cond.selects RX11 yX11_lastHeard yX11_lastHeard, Cond.code yX11_lastHeard cX11_lastHeard 6 (some .int), Cond.methodLink RX11 285 yX11_worth, Cond.instanceMethod yX11_worth, Cond.selects RX11 yX11_worth yX11_worth, Cond.code yX11_worth cX11_worth 4 (some .int), Cond.fieldLink RX11 58 "ShipOfficeModel" "textSize" "[I", Cond.methodLink RX11 263 yX11_actOn, Cond.instanceMethod yX11_actOn, Cond.selects RX11 yX11_actOn yX11_actOn, Cond.code yX11_actOn cX11_actOn 5 (some .int), Cond.fieldLink RX11 256 "ShipOfficeModel" "acts" "I", Cond.fieldLink RX11 61 "ShipOfficeModel" "purpose" "[I", Cond.fieldLink RX11 64 "ShipOfficeModel" "from" "[I", Cond.methodLink RX11 259 yX11_goesThrough, Cond.instanceMethod yX11_goesThrough]
def wsX11_advance_r4 : List Cond := [Cond.selects RX11 yX11_goesThrough yX11_goesThrough, Cond.code yX11_goesThrough cX11_goesThrough 3 (some .int), Cond.fieldLink RX11 216 "ShipOfficeModel" "base" "I", Cond.fieldLink RX11 213 "ShipOfficeModel" "size" "I", Cond.fieldLink RX11 210 "ShipOfficeModel" "at" "I", Cond.fieldLink RX11 244 "ShipOfficeModel" "deep" "I", Cond.fieldLink RX11 223 "ShipOfficeModel" "isWell" "Z", Cond.methodLink RX11 250 yX11_sum, Cond.instanceMethod yX11_sum, Cond.selects RX11 yX11_sum yX11_sum, Cond.code yX11_sum cX11_sum 4 (some .int), Cond.methodLink RX11 231 yX11_term, Cond.instanceMethod yX11_term, Cond.selects RX11 yX11_term yX11_term, Cond.methodLink RX11 227 yX11_sign, Cond.instanceMethod yX11_sign, Cond.selects RX11 yX11_sign yX11_sign, Cond.code yX11_sign cX11_sign 1 (some .int), Cond.fieldLink RX11 125 "ShipOfficeModel" "tape" "[I", Cond.fieldLink RX11 67 "ShipOfficeModel" "text" "[I", Cond.methodLink RX11 234 yX11_held, Cond.static yX11_held, Cond.code yX11_held cX11_held 2 (some .int), Cond.constantLong RX11 219 (1000000000)]
def wsX11_advance_r5 : List Cond := [Cond.constantLong RX11 221 (-1000000000), Cond.code yX11_term cX11_term 4 (some .int), Cond.methodLink RX11 238 yX11_unit, Cond.instanceMethod yX11_unit, Cond.selects RX11 yX11_unit yX11_unit, Cond.code yX11_unit cX11_unit 5 (some .int), Cond.methodLink RX11 241 yX11_isLetter, Cond.static yX11_isLetter, Cond.code yX11_isLetter cX11_isLetter 1 (some .boolean), Cond.methodLink RX11 247 yX11_breaks, Cond.instanceMethod yX11_breaks, Cond.selects RX11 yX11_breaks yX11_breaks, Cond.code yX11_breaks cX11_breaks 1 (some .int), Cond.methodLink RX11 253 yX11_takes, Cond.instanceMethod yX11_takes, Cond.selects RX11 yX11_takes yX11_takes, Cond.code yX11_takes cX11_takes 2 (some .boolean)]
def wsX11_advance : List Cond := .code yX11_advance cX11_advance 3 (some .int) :: ((wsX11_advance_r1 ++ (wsX11_advance_r2 ++ (wsX11_advance_r3 ++ (wsX11_advance_r4 ++ wsX11_advance_r5)))) ++ wsX110)
def wsX11_sold : List Cond := .code yX11_sold cX11_sold 3 (some .int) :: ([.fieldLink RX11 91 "ShipOfficeModel" "note" "[I", .fieldLink RX11 94 "ShipOfficeModel" "given" "[I", .methodLink RX11 199 yX11_isAgreement, .instanceMethod yX11_isAgreement, .selects RX11 yX11_isAgreement yX11_isAgreement, .initialized RX11, .code yX11_isAgreement cX11_isAgreement 2 (some .boolean), .fieldLink RX11 168 "ShipOfficeModel" "agreements" "I", .methodLink RX11 161 yX11_isIn, .static yX11_isIn, .code yX11_isIn cX11_isIn 2 (some .boolean), .methodLink RX11 153 yX11_refuse, .instanceMethod yX11_refuse, .selects RX11 yX11_refuse yX11_refuse, .code yX11_refuse cX11_refuse 2 (some .int), .fieldLink RX11 7 "ShipOfficeModel" "refusals" "[I"] ++ wsX110)
def wsX11_allot_r1 : List Cond := [Cond.fieldLink RX11 97 "ShipOfficeModel" "allotted" "[I", Cond.fieldLink RX11 171 "ShipOfficeModel" "now" "I", Cond.fieldLink RX11 76 "ShipOfficeModel" "wage" "[I", Cond.constantLong RX11 310 (100), Cond.methodLink RX11 199 yX11_isAgreement, Cond.instanceMethod yX11_isAgreement, Cond.selects RX11 yX11_isAgreement yX11_isAgreement, Cond.initialized RX11, Cond.code yX11_isAgreement cX11_isAgreement 2 (some .boolean), Cond.fieldLink RX11 168 "ShipOfficeModel" "agreements" "I", Cond.methodLink RX11 161 yX11_isIn, Cond.static yX11_isIn, Cond.code yX11_isIn cX11_isIn 2 (some .boolean), Cond.methodLink RX11 153 yX11_refuse, Cond.instanceMethod yX11_refuse, Cond.selects RX11 yX11_refuse yX11_refuse, Cond.code yX11_refuse cX11_refuse 2 (some .int), Cond.fieldLink RX11 7 "ShipOfficeModel" "refusals" "[I", Cond.methodLink RX11 188 yX11_goesOn, Cond.instanceMethod yX11_goesOn, Cond.selects RX11 yX11_goesOn yX11_goesOn, Cond.code yX11_goesOn cX11_goesOn 2 (some .boolean), Cond.fieldLink RX11 88 "ShipOfficeModel" "offOn" "[I", Cond.fieldLink RX11 73 "ShipOfficeModel" "voyage" "[I"]
def wsX11_allot_r2 : List Cond := [Cond.methodLink RX11 182 yX11_wasTold, Cond.instanceMethod yX11_wasTold, Cond.selects RX11 yX11_wasTold yX11_wasTold, Cond.code yX11_wasTold cX11_wasTold 4 (some .boolean), Cond.fieldLink RX11 179 "ShipOfficeModel" "happened" "I", Cond.fieldLink RX11 40 "ShipOfficeModel" "what" "[I", Cond.fieldLink RX11 43 "ShipOfficeModel" "whose" "[I", Cond.methodLink RX11 306 yX11_puts, Cond.instanceMethod yX11_puts, Cond.selects RX11 yX11_puts yX11_puts, Cond.code yX11_puts cX11_puts 9 none, Cond.fieldLink RX11 85 "ShipOfficeModel" "signed" "[I", Cond.fieldLink RX11 128 "ShipOfficeModel" "letters" "[I", Cond.fieldLink RX11 79 "ShipOfficeModel" "rank" "[I", Cond.fieldLink RX11 22 "ShipOfficeModel" "born" "[I", Cond.fieldLink RX11 70 "ShipOfficeModel" "man" "[I", Cond.methodLink RX11 266 yX11_stateOf, Cond.instanceMethod yX11_stateOf, Cond.selects RX11 yX11_stateOf yX11_stateOf, Cond.code yX11_stateOf cX11_stateOf 5 (some .int), Cond.methodLink RX11 288 yX11_isDead, Cond.instanceMethod yX11_isDead, Cond.selects RX11 yX11_isDead yX11_isDead, Cond.code yX11_isDead cX11_isDead 5 (some .boolean)]
def wsX11_allot_r3 : List Cond := [Cond.fieldLink RX11 49 "ShipOfficeModel" "known" "[I", Cond.fieldLink RX11 46 "ShipOfficeModel" "day" "[I", Cond.methodLink RX11 291 yX11_whereOf, Cond.instanceMethod yX11_whereOf, Cond.selects RX11 yX11_whereOf yX11_whereOf, Cond.code yX11_whereOf cX11_whereOf 6 (some .int), Cond.methodLink RX11 281 yX11_hasSailed, Cond.instanceMethod yX11_hasSailed, Cond.selects RX11 yX11_hasSailed yX11_hasSailed, Cond.code yX11_hasSailed cX11_hasSailed 5 (some .boolean), Cond.methodLink RX11 278 yX11_sailedOn, Cond.instanceMethod yX11_sailedOn, Cond.selects RX11 yX11_sailedOn yX11_sailedOn, Cond.code yX11_sailedOn cX11_sailedOn 4 (some .int), Cond.methodLink RX11 294 yX11_isUnknown, Cond.instanceMethod yX11_isUnknown, Cond.selects RX11 yX11_isUnknown yX11_isUnknown, Cond.code yX11_isUnknown cX11_isUnknown 4 (some .boolean), Cond.methodLink RX11 275 yX11_bare, Cond.instanceMethod yX11_bare, Cond.selects RX11 yX11_bare yX11_bare, Cond.code yX11_bare cX11_bare 2 none, Cond.methodLink RX11 272 yX11_lastHeard, Cond.instanceMethod yX11_lastHeard]
def wsX11_allot_r4 : List Cond := [Cond.selects RX11 yX11_lastHeard yX11_lastHeard, Cond.code yX11_lastHeard cX11_lastHeard 6 (some .int), Cond.methodLink RX11 285 yX11_worth, Cond.instanceMethod yX11_worth, Cond.selects RX11 yX11_worth yX11_worth, Cond.code yX11_worth cX11_worth 4 (some .int), Cond.fieldLink RX11 58 "ShipOfficeModel" "textSize" "[I", Cond.methodLink RX11 263 yX11_actOn, Cond.instanceMethod yX11_actOn, Cond.selects RX11 yX11_actOn yX11_actOn, Cond.code yX11_actOn cX11_actOn 5 (some .int), Cond.fieldLink RX11 256 "ShipOfficeModel" "acts" "I", Cond.fieldLink RX11 61 "ShipOfficeModel" "purpose" "[I", Cond.fieldLink RX11 64 "ShipOfficeModel" "from" "[I", Cond.methodLink RX11 259 yX11_goesThrough, Cond.instanceMethod yX11_goesThrough, Cond.selects RX11 yX11_goesThrough yX11_goesThrough, Cond.code yX11_goesThrough cX11_goesThrough 3 (some .int), Cond.fieldLink RX11 216 "ShipOfficeModel" "base" "I", Cond.fieldLink RX11 213 "ShipOfficeModel" "size" "I", Cond.fieldLink RX11 210 "ShipOfficeModel" "at" "I", Cond.fieldLink RX11 244 "ShipOfficeModel" "deep" "I", Cond.fieldLink RX11 223 "ShipOfficeModel" "isWell" "Z", Cond.methodLink RX11 250 yX11_sum]
def wsX11_allot_r5 : List Cond := [Cond.instanceMethod yX11_sum, Cond.selects RX11 yX11_sum yX11_sum, Cond.code yX11_sum cX11_sum 4 (some .int), Cond.methodLink RX11 231 yX11_term, Cond.instanceMethod yX11_term, Cond.selects RX11 yX11_term yX11_term, Cond.methodLink RX11 227 yX11_sign, Cond.instanceMethod yX11_sign, Cond.selects RX11 yX11_sign yX11_sign, Cond.code yX11_sign cX11_sign 1 (some .int), Cond.fieldLink RX11 125 "ShipOfficeModel" "tape" "[I", Cond.fieldLink RX11 67 "ShipOfficeModel" "text" "[I", Cond.methodLink RX11 234 yX11_held, Cond.static yX11_held, Cond.code yX11_held cX11_held 2 (some .int), Cond.constantLong RX11 219 (1000000000), Cond.constantLong RX11 221 (-1000000000), Cond.code yX11_term cX11_term 4 (some .int), Cond.methodLink RX11 238 yX11_unit, Cond.instanceMethod yX11_unit, Cond.selects RX11 yX11_unit yX11_unit, Cond.code yX11_unit cX11_unit 5 (some .int), Cond.methodLink RX11 241 yX11_isLetter, Cond.static yX11_isLetter]
def wsX11_allot_r6 : List Cond := [Cond.code yX11_isLetter cX11_isLetter 1 (some .boolean), Cond.methodLink RX11 247 yX11_breaks, Cond.instanceMethod yX11_breaks, Cond.selects RX11 yX11_breaks yX11_breaks, Cond.code yX11_breaks cX11_breaks 1 (some .int), Cond.methodLink RX11 253 yX11_takes, Cond.instanceMethod yX11_takes, Cond.selects RX11 yX11_takes yX11_takes, Cond.code yX11_takes cX11_takes 2 (some .boolean), Cond.methodLink RX11 269 yX11_aboardOf, Cond.instanceMethod yX11_aboardOf, Cond.selects RX11 yX11_aboardOf yX11_aboardOf, Cond.code yX11_aboardOf cX11_aboardOf 6 (some .int)]
def wsX11_allot : List Cond := .code yX11_allot cX11_allot 3 (some .int) :: ((wsX11_allot_r1 ++ (wsX11_allot_r2 ++ (wsX11_allot_r3 ++ (wsX11_allot_r4 ++ (wsX11_allot_r5 ++ wsX11_allot_r6))))) ++ wsX110)
def wsX11_aboard_r1 : List Cond := [Cond.methodLink RX11 185 yX11_isVoyage, Cond.instanceMethod yX11_isVoyage, Cond.selects RX11 yX11_isVoyage yX11_isVoyage, Cond.initialized RX11, Cond.code yX11_isVoyage cX11_isVoyage 2 (some .boolean), Cond.fieldLink RX11 165 "ShipOfficeModel" "voyages" "I", Cond.methodLink RX11 161 yX11_isIn, Cond.static yX11_isIn, Cond.code yX11_isIn cX11_isIn 2 (some .boolean), Cond.methodLink RX11 300 yX11_wrongTimes, Cond.instanceMethod yX11_wrongTimes, Cond.selects RX11 yX11_wrongTimes yX11_wrongTimes, Cond.code yX11_wrongTimes cX11_wrongTimes 3 (some .int), Cond.fieldLink RX11 171 "ShipOfficeModel" "now" "I", Cond.methodLink RX11 153 yX11_refuse, Cond.instanceMethod yX11_refuse, Cond.selects RX11 yX11_refuse yX11_refuse, Cond.code yX11_refuse cX11_refuse 2 (some .int), Cond.fieldLink RX11 7 "ShipOfficeModel" "refusals" "[I", Cond.methodLink RX11 269 yX11_aboardOf, Cond.instanceMethod yX11_aboardOf, Cond.selects RX11 yX11_aboardOf yX11_aboardOf, Cond.code yX11_aboardOf cX11_aboardOf 6 (some .int), Cond.fieldLink RX11 168 "ShipOfficeModel" "agreements" "I"]
def wsX11_aboard_r2 : List Cond := [Cond.fieldLink RX11 73 "ShipOfficeModel" "voyage" "[I", Cond.methodLink RX11 266 yX11_stateOf, Cond.instanceMethod yX11_stateOf, Cond.selects RX11 yX11_stateOf yX11_stateOf, Cond.code yX11_stateOf cX11_stateOf 5 (some .int), Cond.fieldLink RX11 85 "ShipOfficeModel" "signed" "[I", Cond.fieldLink RX11 88 "ShipOfficeModel" "offOn" "[I", Cond.fieldLink RX11 40 "ShipOfficeModel" "what" "[I", Cond.methodLink RX11 288 yX11_isDead, Cond.instanceMethod yX11_isDead, Cond.selects RX11 yX11_isDead yX11_isDead, Cond.code yX11_isDead cX11_isDead 5 (some .boolean), Cond.fieldLink RX11 179 "ShipOfficeModel" "happened" "I", Cond.fieldLink RX11 43 "ShipOfficeModel" "whose" "[I", Cond.fieldLink RX11 49 "ShipOfficeModel" "known" "[I", Cond.fieldLink RX11 46 "ShipOfficeModel" "day" "[I", Cond.methodLink RX11 291 yX11_whereOf, Cond.instanceMethod yX11_whereOf, Cond.selects RX11 yX11_whereOf yX11_whereOf, Cond.code yX11_whereOf cX11_whereOf 6 (some .int), Cond.methodLink RX11 281 yX11_hasSailed, Cond.instanceMethod yX11_hasSailed, Cond.selects RX11 yX11_hasSailed yX11_hasSailed, Cond.code yX11_hasSailed cX11_hasSailed 5 (some .boolean)]
def wsX11_aboard_r3 : List Cond := [Cond.methodLink RX11 278 yX11_sailedOn, Cond.instanceMethod yX11_sailedOn, Cond.selects RX11 yX11_sailedOn yX11_sailedOn, Cond.code yX11_sailedOn cX11_sailedOn 4 (some .int), Cond.methodLink RX11 294 yX11_isUnknown, Cond.instanceMethod yX11_isUnknown, Cond.selects RX11 yX11_isUnknown yX11_isUnknown, Cond.code yX11_isUnknown cX11_isUnknown 4 (some .boolean), Cond.methodLink RX11 275 yX11_bare, Cond.instanceMethod yX11_bare, Cond.selects RX11 yX11_bare yX11_bare, Cond.code yX11_bare cX11_bare 2 none, Cond.fieldLink RX11 128 "ShipOfficeModel" "letters" "[I", Cond.methodLink RX11 272 yX11_lastHeard, Cond.instanceMethod yX11_lastHeard, Cond.selects RX11 yX11_lastHeard yX11_lastHeard, Cond.code yX11_lastHeard cX11_lastHeard 6 (some .int), Cond.methodLink RX11 285 yX11_worth, Cond.instanceMethod yX11_worth, Cond.selects RX11 yX11_worth yX11_worth, Cond.code yX11_worth cX11_worth 4 (some .int), Cond.fieldLink RX11 58 "ShipOfficeModel" "textSize" "[I", Cond.methodLink RX11 263 yX11_actOn, Cond.instanceMethod yX11_actOn]
def wsX11_aboard_r4 : List Cond := [Cond.selects RX11 yX11_actOn yX11_actOn, Cond.code yX11_actOn cX11_actOn 5 (some .int), Cond.fieldLink RX11 256 "ShipOfficeModel" "acts" "I", Cond.fieldLink RX11 61 "ShipOfficeModel" "purpose" "[I", Cond.fieldLink RX11 64 "ShipOfficeModel" "from" "[I", Cond.methodLink RX11 259 yX11_goesThrough, Cond.instanceMethod yX11_goesThrough, Cond.selects RX11 yX11_goesThrough yX11_goesThrough, Cond.code yX11_goesThrough cX11_goesThrough 3 (some .int), Cond.fieldLink RX11 216 "ShipOfficeModel" "base" "I", Cond.fieldLink RX11 213 "ShipOfficeModel" "size" "I", Cond.fieldLink RX11 210 "ShipOfficeModel" "at" "I", Cond.fieldLink RX11 244 "ShipOfficeModel" "deep" "I", Cond.fieldLink RX11 223 "ShipOfficeModel" "isWell" "Z", Cond.methodLink RX11 250 yX11_sum, Cond.instanceMethod yX11_sum, Cond.selects RX11 yX11_sum yX11_sum, Cond.code yX11_sum cX11_sum 4 (some .int), Cond.methodLink RX11 231 yX11_term, Cond.instanceMethod yX11_term, Cond.selects RX11 yX11_term yX11_term, Cond.methodLink RX11 227 yX11_sign, Cond.instanceMethod yX11_sign, Cond.selects RX11 yX11_sign yX11_sign]
def wsX11_aboard_r5 : List Cond := [Cond.code yX11_sign cX11_sign 1 (some .int), Cond.fieldLink RX11 125 "ShipOfficeModel" "tape" "[I", Cond.fieldLink RX11 67 "ShipOfficeModel" "text" "[I", Cond.methodLink RX11 234 yX11_held, Cond.static yX11_held, Cond.code yX11_held cX11_held 2 (some .int), Cond.constantLong RX11 219 (1000000000), Cond.constantLong RX11 221 (-1000000000), Cond.code yX11_term cX11_term 4 (some .int), Cond.methodLink RX11 238 yX11_unit, Cond.instanceMethod yX11_unit, Cond.selects RX11 yX11_unit yX11_unit, Cond.code yX11_unit cX11_unit 5 (some .int), Cond.methodLink RX11 241 yX11_isLetter, Cond.static yX11_isLetter, Cond.code yX11_isLetter cX11_isLetter 1 (some .boolean), Cond.methodLink RX11 247 yX11_breaks, Cond.instanceMethod yX11_breaks, Cond.selects RX11 yX11_breaks yX11_breaks, Cond.code yX11_breaks cX11_breaks 1 (some .int), Cond.methodLink RX11 253 yX11_takes, Cond.instanceMethod yX11_takes, Cond.selects RX11 yX11_takes yX11_takes, Cond.code yX11_takes cX11_takes 2 (some .boolean)]
def wsX11_aboard : List Cond := .code yX11_aboard cX11_aboard 5 (some .int) :: ((wsX11_aboard_r1 ++ (wsX11_aboard_r2 ++ (wsX11_aboard_r3 ++ (wsX11_aboard_r4 ++ wsX11_aboard_r5)))) ++ wsX110)
set_option maxRecDepth 20000 in
theorem ggX11_refuseFar_X11_refuse : GoodIn wsX11_refuseFar wsX11_refuse := goodIn_r _ [6, 7, 8, 9, 10, 11, 12, 13, 14, 15, 16, 17, 18, 19, 20, 21, 22, 23, 24, 25, 26, 27, 28, 29, 30, 31, 32, 33, 34, 35, 36, 37, 38, 39, 40, 41, 42, 43, 44, 45, 46, 47, 48, 49, 50, 51, 52, 53, 54, 55, 56, 57, 58, 59, 60, 61, 62, 63, 64, 65, 66, 67, 68, 69, 70] (by decide +kernel) (by decide +kernel)
set_option maxRecDepth 20000 in
theorem gX11_refuseFar_X11_refuse : GoodIn wsX11_refuseFar (wsV RX11 153 RX11 yX11_refuse wsX11_refuse) := goodIn_app (goodIn_of _ (by decide +kernel)) ggX11_refuseFar_X11_refuse
theorem dX11_refuseFar_0 : decode cX11_refuseFar 0 = .ok (.ldc 152, 2) := by decide +kernel
theorem dX11_refuseFar_2 : decode cX11_refuseFar 2 = .ok (.aload_n 0, 1) := by decide +kernel
theorem dX11_refuseFar_3 : decode cX11_refuseFar 3 = .ok (.iload_n 1, 1) := by decide +kernel
theorem dX11_refuseFar_4 : decode cX11_refuseFar 4 = .ok (.invokevirtual 153, 3) := by decide +kernel
theorem dX11_refuseFar_7 : decode cX11_refuseFar 7 = .ok (.isub, 1) := by decide +kernel
theorem dX11_refuseFar_8 : decode cX11_refuseFar 8 = .ok (.ireturn, 1) := by decide +kernel
set_option maxRecDepth 20000 in
theorem ggX11_voyage_X11_isIn : GoodIn wsX11_voyage wsX11_isIn := goodIn_r _ [10] (by decide +kernel) (by decide +kernel)
set_option maxRecDepth 20000 in
theorem gX11_voyage_X11_isIn : GoodIn wsX11_voyage (va_wsS RX11 161 yX11_isIn wsX11_isIn) := goodIn_app (goodIn_of _ (by decide +kernel)) ggX11_voyage_X11_isIn
set_option maxRecDepth 20000 in
theorem ggX11_voyage_X11_isPort : GoodIn wsX11_voyage wsX11_isPort := goodIn_r _ [13, 7, 8, 9, 10] (by decide +kernel) (by decide +kernel)
set_option maxRecDepth 20000 in
theorem gX11_voyage_X11_isPort : GoodIn wsX11_voyage (va_wsS RX11 174 yX11_isPort wsX11_isPort) := goodIn_app (goodIn_of _ (by decide +kernel)) ggX11_voyage_X11_isPort
set_option maxRecDepth 20000 in
theorem ggX11_voyage_X11_refuse : GoodIn wsX11_voyage wsX11_refuse := goodIn_r _ [17, 18, 19, 20, 21, 22, 23, 24, 25, 26, 27, 28, 29, 30, 31, 32, 33, 34, 35, 36, 37, 38, 39, 40, 41, 42, 43, 44, 45, 46, 47, 48, 49, 50, 51, 52, 53, 54, 55, 56, 57, 58, 59, 60, 61, 62, 63, 64, 65, 66, 67, 68, 69, 70, 71, 72, 73, 74, 75, 76, 77, 78, 79, 80, 81] (by decide +kernel) (by decide +kernel)
set_option maxRecDepth 20000 in
theorem gX11_voyage_X11_refuse : GoodIn wsX11_voyage (wsV RX11 153 RX11 yX11_refuse wsX11_refuse) := goodIn_app (goodIn_of _ (by decide +kernel)) ggX11_voyage_X11_refuse
theorem dX11_voyage_0 : decode cX11_voyage 0 = .ok (.iload_n 1, 1) := by decide +kernel
theorem dX11_voyage_1 : decode cX11_voyage 1 = .ok (.bipush 10, 2) := by decide +kernel
theorem dX11_voyage_3 : decode cX11_voyage 3 = .ok (.invokestatic 161, 3) := by decide +kernel
theorem dX11_voyage_6 : decode cX11_voyage 6 = .ok (.ifCond .eq 10, 3) := by decide +kernel
theorem dX11_voyage_9 : decode cX11_voyage 9 = .ok (.iload_n 2, 1) := by decide +kernel
theorem dX11_voyage_10 : decode cX11_voyage 10 = .ok (.invokestatic 174, 3) := by decide +kernel
theorem dX11_voyage_13 : decode cX11_voyage 13 = .ok (.ifCond .ne 9, 3) := by decide +kernel
theorem dX11_voyage_16 : decode cX11_voyage 16 = .ok (.aload_n 0, 1) := by decide +kernel
theorem dX11_voyage_17 : decode cX11_voyage 17 = .ok (.iconst (-1), 1) := by decide +kernel
theorem dX11_voyage_18 : decode cX11_voyage 18 = .ok (.invokevirtual 153, 3) := by decide +kernel
theorem dX11_voyage_21 : decode cX11_voyage 21 = .ok (.ireturn, 1) := by decide +kernel
theorem dX11_voyage_22 : decode cX11_voyage 22 = .ok (.iconst 0, 1) := by decide +kernel
theorem dX11_voyage_23 : decode cX11_voyage 23 = .ok (.istore_n 3, 1) := by decide +kernel
theorem dX11_voyage_24 : decode cX11_voyage 24 = .ok (.iload_n 3, 1) := by decide +kernel
theorem dX11_voyage_25 : decode cX11_voyage 25 = .ok (.aload_n 0, 1) := by decide +kernel
theorem dX11_voyage_26 : decode cX11_voyage 26 = .ok (.getfield 165, 3) := by decide +kernel
theorem dX11_voyage_29 : decode cX11_voyage 29 = .ok (.if_icmp .ge 35, 3) := by decide +kernel
theorem dX11_voyage_32 : decode cX11_voyage 32 = .ok (.aload_n 0, 1) := by decide +kernel
theorem dX11_voyage_33 : decode cX11_voyage 33 = .ok (.getfield 28, 3) := by decide +kernel
theorem dX11_voyage_36 : decode cX11_voyage 36 = .ok (.iload_n 3, 1) := by decide +kernel
theorem dX11_voyage_37 : decode cX11_voyage 37 = .ok (.iaload, 1) := by decide +kernel
theorem dX11_voyage_38 : decode cX11_voyage 38 = .ok (.iload_n 1, 1) := by decide +kernel
theorem dX11_voyage_39 : decode cX11_voyage 39 = .ok (.if_icmp .ne 19, 3) := by decide +kernel
theorem dX11_voyage_42 : decode cX11_voyage 42 = .ok (.aload_n 0, 1) := by decide +kernel
theorem dX11_voyage_43 : decode cX11_voyage 43 = .ok (.getfield 37, 3) := by decide +kernel
theorem dX11_voyage_46 : decode cX11_voyage 46 = .ok (.iload_n 3, 1) := by decide +kernel
theorem dX11_voyage_47 : decode cX11_voyage 47 = .ok (.iaload, 1) := by decide +kernel
theorem dX11_voyage_48 : decode cX11_voyage 48 = .ok (.ifCond .ge 10, 3) := by decide +kernel
theorem dX11_voyage_51 : decode cX11_voyage 51 = .ok (.aload_n 0, 1) := by decide +kernel
theorem dX11_voyage_52 : decode cX11_voyage 52 = .ok (.bipush (-3), 2) := by decide +kernel
theorem dX11_voyage_54 : decode cX11_voyage 54 = .ok (.invokevirtual 153, 3) := by decide +kernel
theorem dX11_voyage_57 : decode cX11_voyage 57 = .ok (.ireturn, 1) := by decide +kernel
theorem dX11_voyage_58 : decode cX11_voyage 58 = .ok (.iinc 3 1, 3) := by decide +kernel
theorem dX11_voyage_61 : decode cX11_voyage 61 = .ok (.goto (-37), 3) := by decide +kernel
theorem dX11_voyage_64 : decode cX11_voyage 64 = .ok (.aload_n 0, 1) := by decide +kernel
theorem dX11_voyage_65 : decode cX11_voyage 65 = .ok (.getfield 165, 3) := by decide +kernel
theorem dX11_voyage_68 : decode cX11_voyage 68 = .ok (.bipush 20, 2) := by decide +kernel
theorem dX11_voyage_70 : decode cX11_voyage 70 = .ok (.if_icmp .ne 10, 3) := by decide +kernel
theorem dX11_voyage_73 : decode cX11_voyage 73 = .ok (.aload_n 0, 1) := by decide +kernel
theorem dX11_voyage_74 : decode cX11_voyage 74 = .ok (.bipush (-6), 2) := by decide +kernel
theorem dX11_voyage_76 : decode cX11_voyage 76 = .ok (.invokevirtual 153, 3) := by decide +kernel
theorem dX11_voyage_79 : decode cX11_voyage 79 = .ok (.ireturn, 1) := by decide +kernel
theorem dX11_voyage_80 : decode cX11_voyage 80 = .ok (.aload_n 0, 1) := by decide +kernel
theorem dX11_voyage_81 : decode cX11_voyage 81 = .ok (.getfield 28, 3) := by decide +kernel
theorem dX11_voyage_84 : decode cX11_voyage 84 = .ok (.aload_n 0, 1) := by decide +kernel
theorem dX11_voyage_85 : decode cX11_voyage 85 = .ok (.getfield 165, 3) := by decide +kernel
theorem dX11_voyage_88 : decode cX11_voyage 88 = .ok (.iload_n 1, 1) := by decide +kernel
theorem dX11_voyage_89 : decode cX11_voyage 89 = .ok (.iastore, 1) := by decide +kernel
theorem dX11_voyage_90 : decode cX11_voyage 90 = .ok (.aload_n 0, 1) := by decide +kernel
theorem dX11_voyage_91 : decode cX11_voyage 91 = .ok (.getfield 31, 3) := by decide +kernel
theorem dX11_voyage_94 : decode cX11_voyage 94 = .ok (.aload_n 0, 1) := by decide +kernel
theorem dX11_voyage_95 : decode cX11_voyage 95 = .ok (.getfield 165, 3) := by decide +kernel
theorem dX11_voyage_98 : decode cX11_voyage 98 = .ok (.aload_n 0, 1) := by decide +kernel
theorem dX11_voyage_99 : decode cX11_voyage 99 = .ok (.getfield 171, 3) := by decide +kernel
theorem dX11_voyage_102 : decode cX11_voyage 102 = .ok (.iastore, 1) := by decide +kernel
theorem dX11_voyage_103 : decode cX11_voyage 103 = .ok (.aload_n 0, 1) := by decide +kernel
theorem dX11_voyage_104 : decode cX11_voyage 104 = .ok (.getfield 34, 3) := by decide +kernel
theorem dX11_voyage_107 : decode cX11_voyage 107 = .ok (.aload_n 0, 1) := by decide +kernel
theorem dX11_voyage_108 : decode cX11_voyage 108 = .ok (.getfield 165, 3) := by decide +kernel
theorem dX11_voyage_111 : decode cX11_voyage 111 = .ok (.iload_n 2, 1) := by decide +kernel
theorem dX11_voyage_112 : decode cX11_voyage 112 = .ok (.iastore, 1) := by decide +kernel
theorem dX11_voyage_113 : decode cX11_voyage 113 = .ok (.aload_n 0, 1) := by decide +kernel
theorem dX11_voyage_114 : decode cX11_voyage 114 = .ok (.getfield 37, 3) := by decide +kernel
theorem dX11_voyage_117 : decode cX11_voyage 117 = .ok (.aload_n 0, 1) := by decide +kernel
theorem dX11_voyage_118 : decode cX11_voyage 118 = .ok (.getfield 165, 3) := by decide +kernel
theorem dX11_voyage_121 : decode cX11_voyage 121 = .ok (.iconst (-1), 1) := by decide +kernel
theorem dX11_voyage_122 : decode cX11_voyage 122 = .ok (.iastore, 1) := by decide +kernel
theorem dX11_voyage_123 : decode cX11_voyage 123 = .ok (.aload_n 0, 1) := by decide +kernel
theorem dX11_voyage_124 : decode cX11_voyage 124 = .ok (.dup, 1) := by decide +kernel
theorem dX11_voyage_125 : decode cX11_voyage 125 = .ok (.getfield 165, 3) := by decide +kernel
theorem dX11_voyage_128 : decode cX11_voyage 128 = .ok (.iconst 1, 1) := by decide +kernel
theorem dX11_voyage_129 : decode cX11_voyage 129 = .ok (.iadd, 1) := by decide +kernel
theorem dX11_voyage_130 : decode cX11_voyage 130 = .ok (.putfield 165, 3) := by decide +kernel
theorem dX11_voyage_133 : decode cX11_voyage 133 = .ok (.aload_n 0, 1) := by decide +kernel
theorem dX11_voyage_134 : decode cX11_voyage 134 = .ok (.getfield 165, 3) := by decide +kernel
theorem dX11_voyage_137 : decode cX11_voyage 137 = .ok (.iconst 1, 1) := by decide +kernel
theorem dX11_voyage_138 : decode cX11_voyage 138 = .ok (.isub, 1) := by decide +kernel
theorem dX11_voyage_139 : decode cX11_voyage 139 = .ok (.ireturn, 1) := by decide +kernel
set_option maxRecDepth 20000 in
theorem ggX11_ended_X11_isVoyage : GoodIn wsX11_ended wsX11_isVoyage := goodIn_r _ [10, 11, 12, 13, 9, 14, 34, 35, 36, 37, 38, 39, 40, 41, 42, 43, 44, 45, 46, 47, 48, 49, 50, 51, 52, 53, 54, 55, 56, 57, 58, 59, 60, 61, 62, 63, 64, 65, 66, 67, 68, 69, 70, 71, 72, 73, 74, 75, 76, 77, 78, 79, 80, 81, 82, 83, 84, 85, 86, 87, 88, 89, 90, 91, 92, 93, 94, 95, 96] (by decide +kernel) (by decide +kernel)
set_option maxRecDepth 20000 in
theorem gX11_ended_X11_isVoyage : GoodIn wsX11_ended (wsV RX11 185 RX11 yX11_isVoyage wsX11_isVoyage) := goodIn_app (goodIn_of _ (by decide +kernel)) ggX11_ended_X11_isVoyage
set_option maxRecDepth 20000 in
theorem ggX11_ended_X11_isPort : GoodIn wsX11_ended wsX11_isPort := goodIn_r _ [17, 12, 13, 9, 14] (by decide +kernel) (by decide +kernel)
set_option maxRecDepth 20000 in
theorem gX11_ended_X11_isPort : GoodIn wsX11_ended (va_wsS RX11 174 yX11_isPort wsX11_isPort) := goodIn_app (goodIn_of _ (by decide +kernel)) ggX11_ended_X11_isPort
set_option maxRecDepth 20000 in
theorem ggX11_ended_X11_refuse : GoodIn wsX11_ended wsX11_refuse := goodIn_r _ [21, 22, 34, 35, 36, 37, 38, 39, 40, 41, 42, 43, 44, 45, 46, 47, 48, 49, 50, 51, 52, 53, 54, 55, 56, 57, 58, 59, 60, 61, 62, 63, 64, 65, 66, 67, 68, 69, 70, 71, 72, 73, 74, 75, 76, 77, 78, 79, 80, 81, 82, 83, 84, 85, 86, 87, 88, 89, 90, 91, 92, 93, 94, 95, 96] (by decide +kernel) (by decide +kernel)
set_option maxRecDepth 20000 in
theorem gX11_ended_X11_refuse : GoodIn wsX11_ended (wsV RX11 153 RX11 yX11_refuse wsX11_refuse) := goodIn_app (goodIn_of _ (by decide +kernel)) ggX11_ended_X11_refuse
set_option maxRecDepth 20000 in
theorem ggX11_ended_X11_wasTold : GoodIn wsX11_ended wsX11_wasTold := goodIn_r _ [26, 27, 28, 29, 34, 35, 36, 37, 38, 39, 40, 41, 42, 43, 44, 45, 46, 47, 48, 49, 50, 51, 52, 53, 54, 55, 56, 57, 58, 59, 60, 61, 62, 63, 64, 65, 66, 67, 68, 69, 70, 71, 72, 73, 74, 75, 76, 77, 78, 79, 80, 81, 82, 83, 84, 85, 86, 87, 88, 89, 90, 91, 92, 93, 94, 95, 96] (by decide +kernel) (by decide +kernel)
set_option maxRecDepth 20000 in
theorem gX11_ended_X11_wasTold : GoodIn wsX11_ended (wsV RX11 182 RX11 yX11_wasTold wsX11_wasTold) := goodIn_app (goodIn_of _ (by decide +kernel)) ggX11_ended_X11_wasTold
set_option maxRecDepth 20000 in
theorem ggX11_ended_X11_goesOn : GoodIn wsX11_ended wsX11_goesOn := goodIn_r _ [33, 4, 3, 23, 24, 25, 9, 26, 27, 28, 29, 34, 35, 36, 37, 38, 39, 40, 41, 42, 43, 44, 45, 46, 47, 48, 49, 50, 51, 52, 53, 54, 55, 56, 57, 58, 59, 60, 61, 62, 63, 64, 65, 66, 67, 68, 69, 70, 71, 72, 73, 74, 75, 76, 77, 78, 79, 80, 81, 82, 83, 84, 85, 86, 87, 88, 89, 90, 91, 92, 93, 94, 95, 96] (by decide +kernel) (by decide +kernel)
set_option maxRecDepth 20000 in
theorem gX11_ended_X11_goesOn : GoodIn wsX11_ended (wsV RX11 188 RX11 yX11_goesOn wsX11_goesOn) := goodIn_app (goodIn_of _ (by decide +kernel)) ggX11_ended_X11_goesOn
theorem dX11_ended_0 : decode cX11_ended 0 = .ok (.aload_n 0, 1) := by decide +kernel
theorem dX11_ended_1 : decode cX11_ended 1 = .ok (.iload_n 1, 1) := by decide +kernel
theorem dX11_ended_2 : decode cX11_ended 2 = .ok (.invokevirtual 185, 3) := by decide +kernel
theorem dX11_ended_5 : decode cX11_ended 5 = .ok (.ifCond .eq 10, 3) := by decide +kernel
theorem dX11_ended_8 : decode cX11_ended 8 = .ok (.iload_n 2, 1) := by decide +kernel
theorem dX11_ended_9 : decode cX11_ended 9 = .ok (.invokestatic 174, 3) := by decide +kernel
theorem dX11_ended_12 : decode cX11_ended 12 = .ok (.ifCond .ne 9, 3) := by decide +kernel
theorem dX11_ended_15 : decode cX11_ended 15 = .ok (.aload_n 0, 1) := by decide +kernel
theorem dX11_ended_16 : decode cX11_ended 16 = .ok (.iconst (-1), 1) := by decide +kernel
theorem dX11_ended_17 : decode cX11_ended 17 = .ok (.invokevirtual 153, 3) := by decide +kernel
theorem dX11_ended_20 : decode cX11_ended 20 = .ok (.ireturn, 1) := by decide +kernel
theorem dX11_ended_21 : decode cX11_ended 21 = .ok (.aload_n 0, 1) := by decide +kernel
theorem dX11_ended_22 : decode cX11_ended 22 = .ok (.getfield 37, 3) := by decide +kernel
theorem dX11_ended_25 : decode cX11_ended 25 = .ok (.iload_n 1, 1) := by decide +kernel
theorem dX11_ended_26 : decode cX11_ended 26 = .ok (.iaload, 1) := by decide +kernel
theorem dX11_ended_27 : decode cX11_ended 27 = .ok (.ifCond .ge 12, 3) := by decide +kernel
theorem dX11_ended_30 : decode cX11_ended 30 = .ok (.aload_n 0, 1) := by decide +kernel
theorem dX11_ended_31 : decode cX11_ended 31 = .ok (.iconst 2, 1) := by decide +kernel
theorem dX11_ended_32 : decode cX11_ended 32 = .ok (.iload_n 1, 1) := by decide +kernel
theorem dX11_ended_33 : decode cX11_ended 33 = .ok (.invokevirtual 182, 3) := by decide +kernel
theorem dX11_ended_36 : decode cX11_ended 36 = .ok (.ifCond .eq 10, 3) := by decide +kernel
theorem dX11_ended_39 : decode cX11_ended 39 = .ok (.aload_n 0, 1) := by decide +kernel
theorem dX11_ended_40 : decode cX11_ended 40 = .ok (.bipush (-3), 2) := by decide +kernel
theorem dX11_ended_42 : decode cX11_ended 42 = .ok (.invokevirtual 153, 3) := by decide +kernel
theorem dX11_ended_45 : decode cX11_ended 45 = .ok (.ireturn, 1) := by decide +kernel
theorem dX11_ended_46 : decode cX11_ended 46 = .ok (.iconst 0, 1) := by decide +kernel
theorem dX11_ended_47 : decode cX11_ended 47 = .ok (.istore_n 3, 1) := by decide +kernel
theorem dX11_ended_48 : decode cX11_ended 48 = .ok (.iconst 0, 1) := by decide +kernel
theorem dX11_ended_49 : decode cX11_ended 49 = .ok (.istore 4, 2) := by decide +kernel
theorem dX11_ended_51 : decode cX11_ended 51 = .ok (.iload 4, 2) := by decide +kernel
theorem dX11_ended_53 : decode cX11_ended 53 = .ok (.aload_n 0, 1) := by decide +kernel
theorem dX11_ended_54 : decode cX11_ended 54 = .ok (.getfield 168, 3) := by decide +kernel
theorem dX11_ended_57 : decode cX11_ended 57 = .ok (.if_icmp .ge 46, 3) := by decide +kernel
theorem dX11_ended_60 : decode cX11_ended 60 = .ok (.aload_n 0, 1) := by decide +kernel
theorem dX11_ended_61 : decode cX11_ended 61 = .ok (.getfield 73, 3) := by decide +kernel
theorem dX11_ended_64 : decode cX11_ended 64 = .ok (.iload 4, 2) := by decide +kernel
theorem dX11_ended_66 : decode cX11_ended 66 = .ok (.iaload, 1) := by decide +kernel
theorem dX11_ended_67 : decode cX11_ended 67 = .ok (.iload_n 1, 1) := by decide +kernel
theorem dX11_ended_68 : decode cX11_ended 68 = .ok (.if_icmp .ne 29, 3) := by decide +kernel
theorem dX11_ended_71 : decode cX11_ended 71 = .ok (.aload_n 0, 1) := by decide +kernel
theorem dX11_ended_72 : decode cX11_ended 72 = .ok (.iload 4, 2) := by decide +kernel
theorem dX11_ended_74 : decode cX11_ended 74 = .ok (.invokevirtual 188, 3) := by decide +kernel
theorem dX11_ended_77 : decode cX11_ended 77 = .ok (.ifCond .ne 6, 3) := by decide +kernel
theorem dX11_ended_80 : decode cX11_ended 80 = .ok (.goto 17, 3) := by decide +kernel
theorem dX11_ended_83 : decode cX11_ended 83 = .ok (.aload_n 0, 1) := by decide +kernel
theorem dX11_ended_84 : decode cX11_ended 84 = .ok (.getfield 88, 3) := by decide +kernel
theorem dX11_ended_87 : decode cX11_ended 87 = .ok (.iload 4, 2) := by decide +kernel
theorem dX11_ended_89 : decode cX11_ended 89 = .ok (.aload_n 0, 1) := by decide +kernel
theorem dX11_ended_90 : decode cX11_ended 90 = .ok (.getfield 171, 3) := by decide +kernel
theorem dX11_ended_93 : decode cX11_ended 93 = .ok (.iastore, 1) := by decide +kernel
theorem dX11_ended_94 : decode cX11_ended 94 = .ok (.iinc 3 1, 3) := by decide +kernel
theorem dX11_ended_97 : decode cX11_ended 97 = .ok (.iinc 4 1, 3) := by decide +kernel
theorem dX11_ended_100 : decode cX11_ended 100 = .ok (.goto (-49), 3) := by decide +kernel
theorem dX11_ended_103 : decode cX11_ended 103 = .ok (.aload_n 0, 1) := by decide +kernel
theorem dX11_ended_104 : decode cX11_ended 104 = .ok (.getfield 37, 3) := by decide +kernel
theorem dX11_ended_107 : decode cX11_ended 107 = .ok (.iload_n 1, 1) := by decide +kernel
theorem dX11_ended_108 : decode cX11_ended 108 = .ok (.aload_n 0, 1) := by decide +kernel
theorem dX11_ended_109 : decode cX11_ended 109 = .ok (.getfield 171, 3) := by decide +kernel
theorem dX11_ended_112 : decode cX11_ended 112 = .ok (.iastore, 1) := by decide +kernel
theorem dX11_ended_113 : decode cX11_ended 113 = .ok (.iload_n 3, 1) := by decide +kernel
theorem dX11_ended_114 : decode cX11_ended 114 = .ok (.ireturn, 1) := by decide +kernel
set_option maxRecDepth 20000 in
theorem ggX11_feed_X11_refuse : GoodIn wsX11_feed wsX11_refuse := goodIn_r _ [8, 9, 10, 11, 12, 13, 14, 15, 16, 17, 18, 19, 20, 21, 22, 23, 24, 25, 26, 27, 28, 29, 30, 31, 32, 33, 34, 35, 36, 37, 38, 39, 40, 41, 42, 43, 44, 45, 46, 47, 48, 49, 50, 51, 52, 53, 54, 55, 56, 57, 58, 59, 60, 61, 62, 63, 64, 65, 66, 67, 68, 69, 70, 71, 72] (by decide +kernel) (by decide +kernel)
set_option maxRecDepth 20000 in
theorem gX11_feed_X11_refuse : GoodIn wsX11_feed (wsV RX11 153 RX11 yX11_refuse wsX11_refuse) := goodIn_app (goodIn_of _ (by decide +kernel)) ggX11_feed_X11_refuse
theorem dX11_feed_0 : decode cX11_feed 0 = .ok (.iload_n 1, 1) := by decide +kernel
theorem dX11_feed_1 : decode cX11_feed 1 = .ok (.iconst 1, 1) := by decide +kernel
theorem dX11_feed_2 : decode cX11_feed 2 = .ok (.if_icmp .ge 10, 3) := by decide +kernel
theorem dX11_feed_5 : decode cX11_feed 5 = .ok (.aload_n 0, 1) := by decide +kernel
theorem dX11_feed_6 : decode cX11_feed 6 = .ok (.bipush (-4), 2) := by decide +kernel
theorem dX11_feed_8 : decode cX11_feed 8 = .ok (.invokevirtual 153, 3) := by decide +kernel
theorem dX11_feed_11 : decode cX11_feed 11 = .ok (.ireturn, 1) := by decide +kernel
theorem dX11_feed_12 : decode cX11_feed 12 = .ok (.iload_n 1, 1) := by decide +kernel
theorem dX11_feed_13 : decode cX11_feed 13 = .ok (.bipush 8, 2) := by decide +kernel
theorem dX11_feed_15 : decode cX11_feed 15 = .ok (.if_icmp .gt 14, 3) := by decide +kernel
theorem dX11_feed_18 : decode cX11_feed 18 = .ok (.aload_n 0, 1) := by decide +kernel
theorem dX11_feed_19 : decode cX11_feed 19 = .ok (.getfield 205, 3) := by decide +kernel
theorem dX11_feed_22 : decode cX11_feed 22 = .ok (.iload_n 1, 1) := by decide +kernel
theorem dX11_feed_23 : decode cX11_feed 23 = .ok (.iadd, 1) := by decide +kernel
theorem dX11_feed_24 : decode cX11_feed 24 = .ok (.bipush 60, 2) := by decide +kernel
theorem dX11_feed_26 : decode cX11_feed 26 = .ok (.if_icmp .le 10, 3) := by decide +kernel
theorem dX11_feed_29 : decode cX11_feed 29 = .ok (.aload_n 0, 1) := by decide +kernel
theorem dX11_feed_30 : decode cX11_feed 30 = .ok (.bipush (-6), 2) := by decide +kernel
theorem dX11_feed_32 : decode cX11_feed 32 = .ok (.invokevirtual 153, 3) := by decide +kernel
theorem dX11_feed_35 : decode cX11_feed 35 = .ok (.ireturn, 1) := by decide +kernel
theorem dX11_feed_36 : decode cX11_feed 36 = .ok (.iconst 0, 1) := by decide +kernel
theorem dX11_feed_37 : decode cX11_feed 37 = .ok (.istore 4, 2) := by decide +kernel
theorem dX11_feed_39 : decode cX11_feed 39 = .ok (.iload 4, 2) := by decide +kernel
theorem dX11_feed_41 : decode cX11_feed 41 = .ok (.iload_n 1, 1) := by decide +kernel
theorem dX11_feed_42 : decode cX11_feed 42 = .ok (.if_icmp .ge 40, 3) := by decide +kernel
theorem dX11_feed_45 : decode cX11_feed 45 = .ok (.aload_n 0, 1) := by decide +kernel
theorem dX11_feed_46 : decode cX11_feed 46 = .ok (.getfield 125, 3) := by decide +kernel
theorem dX11_feed_49 : decode cX11_feed 49 = .ok (.aload_n 0, 1) := by decide +kernel
theorem dX11_feed_50 : decode cX11_feed 50 = .ok (.getfield 205, 3) := by decide +kernel
theorem dX11_feed_53 : decode cX11_feed 53 = .ok (.lload_n 2, 1) := by decide +kernel
theorem dX11_feed_54 : decode cX11_feed 54 = .ok (.bipush 8, 2) := by decide +kernel
theorem dX11_feed_56 : decode cX11_feed 56 = .ok (.iload 4, 2) := by decide +kernel
theorem dX11_feed_58 : decode cX11_feed 58 = .ok (.imul, 1) := by decide +kernel
theorem dX11_feed_59 : decode cX11_feed 59 = .ok (.lshr, 1) := by decide +kernel
theorem dX11_feed_60 : decode cX11_feed 60 = .ok (.ldc2_w 208, 3) := by decide +kernel
theorem dX11_feed_63 : decode cX11_feed 63 = .ok (.land, 1) := by decide +kernel
theorem dX11_feed_64 : decode cX11_feed 64 = .ok (.l2i, 1) := by decide +kernel
theorem dX11_feed_65 : decode cX11_feed 65 = .ok (.iastore, 1) := by decide +kernel
theorem dX11_feed_66 : decode cX11_feed 66 = .ok (.aload_n 0, 1) := by decide +kernel
theorem dX11_feed_67 : decode cX11_feed 67 = .ok (.dup, 1) := by decide +kernel
theorem dX11_feed_68 : decode cX11_feed 68 = .ok (.getfield 205, 3) := by decide +kernel
theorem dX11_feed_71 : decode cX11_feed 71 = .ok (.iconst 1, 1) := by decide +kernel
theorem dX11_feed_72 : decode cX11_feed 72 = .ok (.iadd, 1) := by decide +kernel
theorem dX11_feed_73 : decode cX11_feed 73 = .ok (.putfield 205, 3) := by decide +kernel
theorem dX11_feed_76 : decode cX11_feed 76 = .ok (.iinc 4 1, 3) := by decide +kernel
theorem dX11_feed_79 : decode cX11_feed 79 = .ok (.goto (-40), 3) := by decide +kernel
theorem dX11_feed_82 : decode cX11_feed 82 = .ok (.aload_n 0, 1) := by decide +kernel
theorem dX11_feed_83 : decode cX11_feed 83 = .ok (.getfield 205, 3) := by decide +kernel
theorem dX11_feed_86 : decode cX11_feed 86 = .ok (.ireturn, 1) := by decide +kernel
set_option maxRecDepth 20000 in
theorem ggX11_act_X11_isIn : GoodIn wsX11_act wsX11_isIn := goodIn_r _ [14] (by decide +kernel) (by decide +kernel)
set_option maxRecDepth 20000 in
theorem gX11_act_X11_isIn : GoodIn wsX11_act (va_wsS RX11 161 yX11_isIn wsX11_isIn) := goodIn_app (goodIn_of _ (by decide +kernel)) ggX11_act_X11_isIn
set_option maxRecDepth 20000 in
theorem ggX11_act_X11_refuse : GoodIn wsX11_act wsX11_refuse := goodIn_r _ [18, 19, 60, 61, 62, 63, 64, 65, 66, 67, 68, 69, 70, 71, 72, 73, 74, 75, 76, 77, 78, 79, 80, 81, 82, 83, 84, 85, 86, 87, 88, 89, 90, 91, 92, 93, 94, 95, 96, 97, 98, 99, 100, 101, 102, 103, 104, 105, 106, 107, 108, 109, 110, 111, 112, 113, 114, 115, 116, 117, 118, 119, 120, 121, 122] (by decide +kernel) (by decide +kernel)
set_option maxRecDepth 20000 in
theorem gX11_act_X11_refuse : GoodIn wsX11_act (wsV RX11 153 RX11 yX11_refuse wsX11_refuse) := goodIn_app (goodIn_of _ (by decide +kernel)) ggX11_act_X11_refuse
set_option maxRecDepth 20000 in
theorem ggX11_act_X11_goesThrough : GoodIn wsX11_act wsX11_goesThrough := goodIn_r _ [23, 24, 25, 5, 26, 4, 27, 28, 29, 13, 30, 31, 32, 33, 34, 35, 36, 37, 7, 6, 38, 39, 40, 41, 42, 43, 44, 45, 46, 47, 48, 49, 50, 51, 52, 53, 54, 55, 56, 57, 58, 59, 60, 61, 62, 63, 64, 65, 66, 67, 68, 69, 70, 71, 72, 73, 74, 75, 76, 77, 78, 79, 80, 81, 82, 83, 84, 85, 86, 87, 88, 89, 90, 91, 92, 93, 94, 95, 96, 97, 98, 99, 100, 101, 102, 103, 104, 105, 106, 107, 108, 109, 110, 111, 112, 113, 114, 115, 116, 117, 118, 119, 120, 121, 122] (by decide +kernel) (by decide +kernel)
set_option maxRecDepth 20000 in
theorem gX11_act_X11_goesThrough : GoodIn wsX11_act (wsV RX11 259 RX11 yX11_goesThrough wsX11_goesThrough) := goodIn_app (goodIn_of _ (by decide +kernel)) ggX11_act_X11_goesThrough
theorem dX11_act_0 : decode cX11_act 0 = .ok (.iload_n 1, 1) := by decide +kernel
theorem dX11_act_1 : decode cX11_act 1 = .ok (.iconst 5, 1) := by decide +kernel
theorem dX11_act_2 : decode cX11_act 2 = .ok (.invokestatic 161, 3) := by decide +kernel
theorem dX11_act_5 : decode cX11_act 5 = .ok (.ifCond .ne 10, 3) := by decide +kernel
theorem dX11_act_8 : decode cX11_act 8 = .ok (.aload_n 0, 1) := by decide +kernel
theorem dX11_act_9 : decode cX11_act 9 = .ok (.bipush (-2), 2) := by decide +kernel
theorem dX11_act_11 : decode cX11_act 11 = .ok (.invokevirtual 153, 3) := by decide +kernel
theorem dX11_act_14 : decode cX11_act 14 = .ok (.ireturn, 1) := by decide +kernel
theorem dX11_act_15 : decode cX11_act 15 = .ok (.iload_n 2, 1) := by decide +kernel
theorem dX11_act_16 : decode cX11_act 16 = .ok (.aload_n 0, 1) := by decide +kernel
theorem dX11_act_17 : decode cX11_act 17 = .ok (.getfield 171, 3) := by decide +kernel
theorem dX11_act_20 : decode cX11_act 20 = .ok (.if_icmp .ge 10, 3) := by decide +kernel
theorem dX11_act_23 : decode cX11_act 23 = .ok (.aload_n 0, 1) := by decide +kernel
theorem dX11_act_24 : decode cX11_act 24 = .ok (.bipush (-4), 2) := by decide +kernel
theorem dX11_act_26 : decode cX11_act 26 = .ok (.invokevirtual 153, 3) := by decide +kernel
theorem dX11_act_29 : decode cX11_act 29 = .ok (.ireturn, 1) := by decide +kernel
theorem dX11_act_30 : decode cX11_act 30 = .ok (.iload_n 2, 1) := by decide +kernel
theorem dX11_act_31 : decode cX11_act 31 = .ok (.sipush 3000, 3) := by decide +kernel
theorem dX11_act_34 : decode cX11_act 34 = .ok (.if_icmp .gt 12, 3) := by decide +kernel
theorem dX11_act_37 : decode cX11_act 37 = .ok (.aload_n 0, 1) := by decide +kernel
theorem dX11_act_38 : decode cX11_act 38 = .ok (.getfield 256, 3) := by decide +kernel
theorem dX11_act_41 : decode cX11_act 41 = .ok (.bipush 30, 2) := by decide +kernel
theorem dX11_act_43 : decode cX11_act 43 = .ok (.if_icmp .ne 10, 3) := by decide +kernel
theorem dX11_act_46 : decode cX11_act 46 = .ok (.aload_n 0, 1) := by decide +kernel
theorem dX11_act_47 : decode cX11_act 47 = .ok (.bipush (-6), 2) := by decide +kernel
theorem dX11_act_49 : decode cX11_act 49 = .ok (.invokevirtual 153, 3) := by decide +kernel
theorem dX11_act_52 : decode cX11_act 52 = .ok (.ireturn, 1) := by decide +kernel
theorem dX11_act_53 : decode cX11_act 53 = .ok (.aload_n 0, 1) := by decide +kernel
theorem dX11_act_54 : decode cX11_act 54 = .ok (.iconst (-1), 1) := by decide +kernel
theorem dX11_act_55 : decode cX11_act 55 = .ok (.aload_n 0, 1) := by decide +kernel
theorem dX11_act_56 : decode cX11_act 56 = .ok (.getfield 205, 3) := by decide +kernel
theorem dX11_act_59 : decode cX11_act 59 = .ok (.invokevirtual 259, 3) := by decide +kernel
theorem dX11_act_62 : decode cX11_act 62 = .ok (.istore_n 3, 1) := by decide +kernel
theorem dX11_act_63 : decode cX11_act 63 = .ok (.aload_n 0, 1) := by decide +kernel
theorem dX11_act_64 : decode cX11_act 64 = .ok (.getfield 223, 3) := by decide +kernel
theorem dX11_act_67 : decode cX11_act 67 = .ok (.ifCond .eq 18, 3) := by decide +kernel
theorem dX11_act_70 : decode cX11_act 70 = .ok (.aload_n 0, 1) := by decide +kernel
theorem dX11_act_71 : decode cX11_act 71 = .ok (.getfield 210, 3) := by decide +kernel
theorem dX11_act_74 : decode cX11_act 74 = .ok (.aload_n 0, 1) := by decide +kernel
theorem dX11_act_75 : decode cX11_act 75 = .ok (.getfield 205, 3) := by decide +kernel
theorem dX11_act_78 : decode cX11_act 78 = .ok (.if_icmp .ne 7, 3) := by decide +kernel
theorem dX11_act_81 : decode cX11_act 81 = .ok (.iconst 1, 1) := by decide +kernel
theorem dX11_act_82 : decode cX11_act 82 = .ok (.goto 4, 3) := by decide +kernel
theorem dX11_act_85 : decode cX11_act 85 = .ok (.iconst 0, 1) := by decide +kernel
theorem dX11_act_86 : decode cX11_act 86 = .ok (.istore 4, 2) := by decide +kernel
theorem dX11_act_88 : decode cX11_act 88 = .ok (.aload_n 0, 1) := by decide +kernel
theorem dX11_act_89 : decode cX11_act 89 = .ok (.getfield 205, 3) := by decide +kernel
theorem dX11_act_92 : decode cX11_act 92 = .ok (.istore 5, 2) := by decide +kernel
theorem dX11_act_94 : decode cX11_act 94 = .ok (.aload_n 0, 1) := by decide +kernel
theorem dX11_act_95 : decode cX11_act 95 = .ok (.iconst 0, 1) := by decide +kernel
theorem dX11_act_96 : decode cX11_act 96 = .ok (.putfield 205, 3) := by decide +kernel
theorem dX11_act_99 : decode cX11_act 99 = .ok (.iload 4, 2) := by decide +kernel
theorem dX11_act_101 : decode cX11_act 101 = .ok (.ifCond .ne 11, 3) := by decide +kernel
theorem dX11_act_104 : decode cX11_act 104 = .ok (.bipush (-20), 2) := by decide +kernel
theorem dX11_act_106 : decode cX11_act 106 = .ok (.aload_n 0, 1) := by decide +kernel
theorem dX11_act_107 : decode cX11_act 107 = .ok (.getfield 210, 3) := by decide +kernel
theorem dX11_act_110 : decode cX11_act 110 = .ok (.isub, 1) := by decide +kernel
theorem dX11_act_111 : decode cX11_act 111 = .ok (.ireturn, 1) := by decide +kernel
theorem dX11_act_112 : decode cX11_act 112 = .ok (.iconst 0, 1) := by decide +kernel
theorem dX11_act_113 : decode cX11_act 113 = .ok (.istore 6, 2) := by decide +kernel
theorem dX11_act_115 : decode cX11_act 115 = .ok (.iload 6, 2) := by decide +kernel
theorem dX11_act_117 : decode cX11_act 117 = .ok (.iload 5, 2) := by decide +kernel
theorem dX11_act_119 : decode cX11_act 119 = .ok (.if_icmp .ge 31, 3) := by decide +kernel
theorem dX11_act_122 : decode cX11_act 122 = .ok (.aload_n 0, 1) := by decide +kernel
theorem dX11_act_123 : decode cX11_act 123 = .ok (.getfield 67, 3) := by decide +kernel
theorem dX11_act_126 : decode cX11_act 126 = .ok (.bipush 60, 2) := by decide +kernel
theorem dX11_act_128 : decode cX11_act 128 = .ok (.aload_n 0, 1) := by decide +kernel
theorem dX11_act_129 : decode cX11_act 129 = .ok (.getfield 256, 3) := by decide +kernel
theorem dX11_act_132 : decode cX11_act 132 = .ok (.imul, 1) := by decide +kernel
theorem dX11_act_133 : decode cX11_act 133 = .ok (.iload 6, 2) := by decide +kernel
theorem dX11_act_135 : decode cX11_act 135 = .ok (.iadd, 1) := by decide +kernel
theorem dX11_act_136 : decode cX11_act 136 = .ok (.aload_n 0, 1) := by decide +kernel
theorem dX11_act_137 : decode cX11_act 137 = .ok (.getfield 125, 3) := by decide +kernel
theorem dX11_act_140 : decode cX11_act 140 = .ok (.iload 6, 2) := by decide +kernel
theorem dX11_act_142 : decode cX11_act 142 = .ok (.iaload, 1) := by decide +kernel
theorem dX11_act_143 : decode cX11_act 143 = .ok (.iastore, 1) := by decide +kernel
theorem dX11_act_144 : decode cX11_act 144 = .ok (.iinc 6 1, 3) := by decide +kernel
theorem dX11_act_147 : decode cX11_act 147 = .ok (.goto (-32), 3) := by decide +kernel
theorem dX11_act_150 : decode cX11_act 150 = .ok (.aload_n 0, 1) := by decide +kernel
theorem dX11_act_151 : decode cX11_act 151 = .ok (.getfield 58, 3) := by decide +kernel
theorem dX11_act_154 : decode cX11_act 154 = .ok (.aload_n 0, 1) := by decide +kernel
theorem dX11_act_155 : decode cX11_act 155 = .ok (.getfield 256, 3) := by decide +kernel
theorem dX11_act_158 : decode cX11_act 158 = .ok (.iload 5, 2) := by decide +kernel
theorem dX11_act_160 : decode cX11_act 160 = .ok (.iastore, 1) := by decide +kernel
theorem dX11_act_161 : decode cX11_act 161 = .ok (.aload_n 0, 1) := by decide +kernel
theorem dX11_act_162 : decode cX11_act 162 = .ok (.getfield 61, 3) := by decide +kernel
theorem dX11_act_165 : decode cX11_act 165 = .ok (.aload_n 0, 1) := by decide +kernel
theorem dX11_act_166 : decode cX11_act 166 = .ok (.getfield 256, 3) := by decide +kernel
theorem dX11_act_169 : decode cX11_act 169 = .ok (.iload_n 1, 1) := by decide +kernel
theorem dX11_act_170 : decode cX11_act 170 = .ok (.iastore, 1) := by decide +kernel
theorem dX11_act_171 : decode cX11_act 171 = .ok (.aload_n 0, 1) := by decide +kernel
theorem dX11_act_172 : decode cX11_act 172 = .ok (.getfield 64, 3) := by decide +kernel
theorem dX11_act_175 : decode cX11_act 175 = .ok (.aload_n 0, 1) := by decide +kernel
theorem dX11_act_176 : decode cX11_act 176 = .ok (.getfield 256, 3) := by decide +kernel
theorem dX11_act_179 : decode cX11_act 179 = .ok (.iload_n 2, 1) := by decide +kernel
theorem dX11_act_180 : decode cX11_act 180 = .ok (.iastore, 1) := by decide +kernel
theorem dX11_act_181 : decode cX11_act 181 = .ok (.aload_n 0, 1) := by decide +kernel
theorem dX11_act_182 : decode cX11_act 182 = .ok (.dup, 1) := by decide +kernel
theorem dX11_act_183 : decode cX11_act 183 = .ok (.getfield 256, 3) := by decide +kernel
theorem dX11_act_186 : decode cX11_act 186 = .ok (.iconst 1, 1) := by decide +kernel
theorem dX11_act_187 : decode cX11_act 187 = .ok (.iadd, 1) := by decide +kernel
theorem dX11_act_188 : decode cX11_act 188 = .ok (.putfield 256, 3) := by decide +kernel
theorem dX11_act_191 : decode cX11_act 191 = .ok (.aload_n 0, 1) := by decide +kernel
theorem dX11_act_192 : decode cX11_act 192 = .ok (.getfield 256, 3) := by decide +kernel
theorem dX11_act_195 : decode cX11_act 195 = .ok (.ireturn, 1) := by decide +kernel
set_option maxRecDepth 20000 in
theorem ggX11_sign__X11_isMan : GoodIn wsX11_sign_ wsX11_isMan := goodIn_r _ [18, 19, 20, 21, 17, 22, 107, 108, 109, 110, 111, 112, 113, 114, 115, 116, 117, 118, 119, 120, 121, 122, 123, 124, 125, 126, 127, 128, 129, 130, 131, 132, 133, 134, 135, 136, 137, 138, 139, 140, 141, 142, 143, 144, 145, 146, 147, 148, 149, 150, 151, 152, 153, 154, 155, 156, 157, 158, 159, 160, 161, 162, 163, 164, 165, 166, 167, 168, 169] (by decide +kernel) (by decide +kernel)
set_option maxRecDepth 20000 in
theorem gX11_sign__X11_isMan : GoodIn wsX11_sign_ (wsV RX11 297 RX11 yX11_isMan wsX11_isMan) := goodIn_app (goodIn_of _ (by decide +kernel)) ggX11_sign__X11_isMan
set_option maxRecDepth 20000 in
theorem ggX11_sign__X11_isVoyage : GoodIn wsX11_sign_ wsX11_isVoyage := goodIn_r _ [26, 27, 20, 21, 17, 22, 107, 108, 109, 110, 111, 112, 113, 114, 115, 116, 117, 118, 119, 120, 121, 122, 123, 124, 125, 126, 127, 128, 129, 130, 131, 132, 133, 134, 135, 136, 137, 138, 139, 140, 141, 142, 143, 144, 145, 146, 147, 148, 149, 150, 151, 152, 153, 154, 155, 156, 157, 158, 159, 160, 161, 162, 163, 164, 165, 166, 167, 168, 169] (by decide +kernel) (by decide +kernel)
set_option maxRecDepth 20000 in
theorem gX11_sign__X11_isVoyage : GoodIn wsX11_sign_ (wsV RX11 185 RX11 yX11_isVoyage wsX11_isVoyage) := goodIn_app (goodIn_of _ (by decide +kernel)) ggX11_sign__X11_isVoyage
set_option maxRecDepth 20000 in
theorem ggX11_sign__X11_isAgreement : GoodIn wsX11_sign_ wsX11_isAgreement := goodIn_r _ [31, 1, 20, 21, 17, 22, 107, 108, 109, 110, 111, 112, 113, 114, 115, 116, 117, 118, 119, 120, 121, 122, 123, 124, 125, 126, 127, 128, 129, 130, 131, 132, 133, 134, 135, 136, 137, 138, 139, 140, 141, 142, 143, 144, 145, 146, 147, 148, 149, 150, 151, 152, 153, 154, 155, 156, 157, 158, 159, 160, 161, 162, 163, 164, 165, 166, 167, 168, 169] (by decide +kernel) (by decide +kernel)
set_option maxRecDepth 20000 in
theorem gX11_sign__X11_isAgreement : GoodIn wsX11_sign_ (wsV RX11 199 RX11 yX11_isAgreement wsX11_isAgreement) := goodIn_app (goodIn_of _ (by decide +kernel)) ggX11_sign__X11_isAgreement
set_option maxRecDepth 20000 in
theorem ggX11_sign__X11_refuse : GoodIn wsX11_sign_ wsX11_refuse := goodIn_r _ [35, 36, 107, 108, 109, 110, 111, 112, 113, 114, 115, 116, 117, 118, 119, 120, 121, 122, 123, 124, 125, 126, 127, 128, 129, 130, 131, 132, 133, 134, 135, 136, 137, 138, 139, 140, 141, 142, 143, 144, 145, 146, 147, 148, 149, 150, 151, 152, 153, 154, 155, 156, 157, 158, 159, 160, 161, 162, 163, 164, 165, 166, 167, 168, 169] (by decide +kernel) (by decide +kernel)
set_option maxRecDepth 20000 in
theorem gX11_sign__X11_refuse : GoodIn wsX11_sign_ (wsV RX11 153 RX11 yX11_refuse wsX11_refuse) := goodIn_app (goodIn_of _ (by decide +kernel)) ggX11_sign__X11_refuse
set_option maxRecDepth 20000 in
theorem ggX11_sign__X11_wasTold : GoodIn wsX11_sign_ wsX11_wasTold := goodIn_r _ [40, 41, 42, 43, 107, 108, 109, 110, 111, 112, 113, 114, 115, 116, 117, 118, 119, 120, 121, 122, 123, 124, 125, 126, 127, 128, 129, 130, 131, 132, 133, 134, 135, 136, 137, 138, 139, 140, 141, 142, 143, 144, 145, 146, 147, 148, 149, 150, 151, 152, 153, 154, 155, 156, 157, 158, 159, 160, 161, 162, 163, 164, 165, 166, 167, 168, 169] (by decide +kernel) (by decide +kernel)
set_option maxRecDepth 20000 in
theorem gX11_sign__X11_wasTold : GoodIn wsX11_sign_ (wsV RX11 182 RX11 yX11_wasTold wsX11_wasTold) := goodIn_app (goodIn_of _ (by decide +kernel)) ggX11_sign__X11_wasTold
set_option maxRecDepth 20000 in
theorem ggX11_sign__X11_goesOn : GoodIn wsX11_sign_ wsX11_goesOn := goodIn_r _ [47, 3, 8, 37, 38, 39, 17, 40, 41, 42, 43, 107, 108, 109, 110, 111, 112, 113, 114, 115, 116, 117, 118, 119, 120, 121, 122, 123, 124, 125, 126, 127, 128, 129, 130, 131, 132, 133, 134, 135, 136, 137, 138, 139, 140, 141, 142, 143, 144, 145, 146, 147, 148, 149, 150, 151, 152, 153, 154, 155, 156, 157, 158, 159, 160, 161, 162, 163, 164, 165, 166, 167, 168, 169] (by decide +kernel) (by decide +kernel)
set_option maxRecDepth 20000 in
theorem gX11_sign__X11_goesOn : GoodIn wsX11_sign_ (wsV RX11 188 RX11 yX11_goesOn wsX11_goesOn) := goodIn_app (goodIn_of _ (by decide +kernel)) ggX11_sign__X11_goesOn
set_option maxRecDepth 20000 in
theorem ggX11_sign__X11_bare : GoodIn wsX11_sign_ wsX11_bare := goodIn_r _ [51, 5, 107, 108, 109, 110, 111, 112, 113, 114, 115, 116, 117, 118, 119, 120, 121, 122, 123, 124, 125, 126, 127, 128, 129, 130, 131, 132, 133, 134, 135, 136, 137, 138, 139, 140, 141, 142, 143, 144, 145, 146, 147, 148, 149, 150, 151, 152, 153, 154, 155, 156, 157, 158, 159, 160, 161, 162, 163, 164, 165, 166, 167, 168, 169] (by decide +kernel) (by decide +kernel)
set_option maxRecDepth 20000 in
theorem gX11_sign__X11_bare : GoodIn wsX11_sign_ (wsV RX11 275 RX11 yX11_bare wsX11_bare) := goodIn_app (goodIn_of _ (by decide +kernel)) ggX11_sign__X11_bare
set_option maxRecDepth 20000 in
theorem ggX11_sign__X11_worth : GoodIn wsX11_sign_ wsX11_worth := goodIn_r _ [55, 56, 5, 57, 58, 59, 17, 60, 61, 62, 63, 64, 65, 66, 67, 68, 69, 70, 71, 72, 73, 74, 75, 76, 77, 78, 79, 80, 81, 82, 83, 84, 85, 86, 87, 88, 89, 90, 91, 92, 93, 94, 95, 96, 97, 98, 99, 100, 101, 102, 103, 104, 105, 106, 107, 108, 109, 110, 111, 112, 113, 114, 115, 116, 117, 118, 119, 120, 121, 122, 123, 124, 125, 126, 127, 128, 129, 130, 131, 132, 133, 134, 135, 136, 137, 138, 139, 140, 141, 142, 143, 144, 145, 146, 147, 148, 149, 150, 151, 152, 153, 154, 155, 156, 157, 158, 159, 160, 161, 162, 163, 164, 165, 166, 167, 168, 169] (by decide +kernel) (by decide +kernel)
set_option maxRecDepth 20000 in
theorem gX11_sign__X11_worth : GoodIn wsX11_sign_ (wsV RX11 285 RX11 yX11_worth wsX11_worth) := goodIn_app (goodIn_of _ (by decide +kernel)) ggX11_sign__X11_worth
theorem dX11_sign__0 : decode cX11_sign_ 0 = .ok (.aload_n 0, 1) := by decide +kernel
theorem dX11_sign__1 : decode cX11_sign_ 1 = .ok (.iload_n 1, 1) := by decide +kernel
theorem dX11_sign__2 : decode cX11_sign_ 2 = .ok (.invokevirtual 297, 3) := by decide +kernel
theorem dX11_sign__5 : decode cX11_sign_ 5 = .ok (.ifCond .eq 26, 3) := by decide +kernel
theorem dX11_sign__8 : decode cX11_sign_ 8 = .ok (.aload_n 0, 1) := by decide +kernel
theorem dX11_sign__9 : decode cX11_sign_ 9 = .ok (.iload_n 2, 1) := by decide +kernel
theorem dX11_sign__10 : decode cX11_sign_ 10 = .ok (.invokevirtual 185, 3) := by decide +kernel
theorem dX11_sign__13 : decode cX11_sign_ 13 = .ok (.ifCond .eq 18, 3) := by decide +kernel
theorem dX11_sign__16 : decode cX11_sign_ 16 = .ok (.iload 5, 2) := by decide +kernel
theorem dX11_sign__18 : decode cX11_sign_ 18 = .ok (.iconst (-1), 1) := by decide +kernel
theorem dX11_sign__19 : decode cX11_sign_ 19 = .ok (.if_icmp .eq 18, 3) := by decide +kernel
theorem dX11_sign__22 : decode cX11_sign_ 22 = .ok (.aload_n 0, 1) := by decide +kernel
theorem dX11_sign__23 : decode cX11_sign_ 23 = .ok (.iload 5, 2) := by decide +kernel
theorem dX11_sign__25 : decode cX11_sign_ 25 = .ok (.invokevirtual 199, 3) := by decide +kernel
theorem dX11_sign__28 : decode cX11_sign_ 28 = .ok (.ifCond .ne 9, 3) := by decide +kernel
theorem dX11_sign__31 : decode cX11_sign_ 31 = .ok (.aload_n 0, 1) := by decide +kernel
theorem dX11_sign__32 : decode cX11_sign_ 32 = .ok (.iconst (-1), 1) := by decide +kernel
theorem dX11_sign__33 : decode cX11_sign_ 33 = .ok (.invokevirtual 153, 3) := by decide +kernel
theorem dX11_sign__36 : decode cX11_sign_ 36 = .ok (.ireturn, 1) := by decide +kernel
theorem dX11_sign__37 : decode cX11_sign_ 37 = .ok (.iload_n 3, 1) := by decide +kernel
theorem dX11_sign__38 : decode cX11_sign_ 38 = .ok (.iconst 1, 1) := by decide +kernel
theorem dX11_sign__39 : decode cX11_sign_ 39 = .ok (.if_icmp .lt 8, 3) := by decide +kernel
theorem dX11_sign__42 : decode cX11_sign_ 42 = .ok (.iload 4, 2) := by decide +kernel
theorem dX11_sign__44 : decode cX11_sign_ 44 = .ok (.ifCond .ge 10, 3) := by decide +kernel
theorem dX11_sign__47 : decode cX11_sign_ 47 = .ok (.aload_n 0, 1) := by decide +kernel
theorem dX11_sign__48 : decode cX11_sign_ 48 = .ok (.bipush (-4), 2) := by decide +kernel
theorem dX11_sign__50 : decode cX11_sign_ 50 = .ok (.invokevirtual 153, 3) := by decide +kernel
theorem dX11_sign__53 : decode cX11_sign_ 53 = .ok (.ireturn, 1) := by decide +kernel
theorem dX11_sign__54 : decode cX11_sign_ 54 = .ok (.iload_n 3, 1) := by decide +kernel
theorem dX11_sign__55 : decode cX11_sign_ 55 = .ok (.sipush 9999, 3) := by decide +kernel
theorem dX11_sign__58 : decode cX11_sign_ 58 = .ok (.if_icmp .gt 18, 3) := by decide +kernel
theorem dX11_sign__61 : decode cX11_sign_ 61 = .ok (.iload 4, 2) := by decide +kernel
theorem dX11_sign__63 : decode cX11_sign_ 63 = .ok (.iconst 3, 1) := by decide +kernel
theorem dX11_sign__64 : decode cX11_sign_ 64 = .ok (.if_icmp .gt 12, 3) := by decide +kernel
theorem dX11_sign__67 : decode cX11_sign_ 67 = .ok (.aload_n 0, 1) := by decide +kernel
theorem dX11_sign__68 : decode cX11_sign_ 68 = .ok (.getfield 168, 3) := by decide +kernel
theorem dX11_sign__71 : decode cX11_sign_ 71 = .ok (.bipush 60, 2) := by decide +kernel
theorem dX11_sign__73 : decode cX11_sign_ 73 = .ok (.if_icmp .ne 10, 3) := by decide +kernel
theorem dX11_sign__76 : decode cX11_sign_ 76 = .ok (.aload_n 0, 1) := by decide +kernel
theorem dX11_sign__77 : decode cX11_sign_ 77 = .ok (.bipush (-6), 2) := by decide +kernel
theorem dX11_sign__79 : decode cX11_sign_ 79 = .ok (.invokevirtual 153, 3) := by decide +kernel
theorem dX11_sign__82 : decode cX11_sign_ 82 = .ok (.ireturn, 1) := by decide +kernel
theorem dX11_sign__83 : decode cX11_sign_ 83 = .ok (.aload_n 0, 1) := by decide +kernel
theorem dX11_sign__84 : decode cX11_sign_ 84 = .ok (.getfield 37, 3) := by decide +kernel
theorem dX11_sign__87 : decode cX11_sign_ 87 = .ok (.iload_n 2, 1) := by decide +kernel
theorem dX11_sign__88 : decode cX11_sign_ 88 = .ok (.iaload, 1) := by decide +kernel
theorem dX11_sign__89 : decode cX11_sign_ 89 = .ok (.ifCond .ge 40, 3) := by decide +kernel
theorem dX11_sign__92 : decode cX11_sign_ 92 = .ok (.aload_n 0, 1) := by decide +kernel
theorem dX11_sign__93 : decode cX11_sign_ 93 = .ok (.iconst 0, 1) := by decide +kernel
theorem dX11_sign__94 : decode cX11_sign_ 94 = .ok (.iload_n 2, 1) := by decide +kernel
theorem dX11_sign__95 : decode cX11_sign_ 95 = .ok (.invokevirtual 182, 3) := by decide +kernel
theorem dX11_sign__98 : decode cX11_sign_ 98 = .ok (.ifCond .ne 31, 3) := by decide +kernel
theorem dX11_sign__101 : decode cX11_sign_ 101 = .ok (.aload_n 0, 1) := by decide +kernel
theorem dX11_sign__102 : decode cX11_sign_ 102 = .ok (.iconst 2, 1) := by decide +kernel
theorem dX11_sign__103 : decode cX11_sign_ 103 = .ok (.iload_n 2, 1) := by decide +kernel
theorem dX11_sign__104 : decode cX11_sign_ 104 = .ok (.invokevirtual 182, 3) := by decide +kernel
theorem dX11_sign__107 : decode cX11_sign_ 107 = .ok (.ifCond .ne 22, 3) := by decide +kernel
theorem dX11_sign__110 : decode cX11_sign_ 110 = .ok (.iload 5, 2) := by decide +kernel
theorem dX11_sign__112 : decode cX11_sign_ 112 = .ok (.ifCond .lt 13, 3) := by decide +kernel
theorem dX11_sign__115 : decode cX11_sign_ 115 = .ok (.aload_n 0, 1) := by decide +kernel
theorem dX11_sign__116 : decode cX11_sign_ 116 = .ok (.getfield 88, 3) := by decide +kernel
theorem dX11_sign__119 : decode cX11_sign_ 119 = .ok (.iload 5, 2) := by decide +kernel
theorem dX11_sign__121 : decode cX11_sign_ 121 = .ok (.iaload, 1) := by decide +kernel
theorem dX11_sign__122 : decode cX11_sign_ 122 = .ok (.ifCond .lt 7, 3) := by decide +kernel
theorem dX11_sign__125 : decode cX11_sign_ 125 = .ok (.iconst 1, 1) := by decide +kernel
theorem dX11_sign__126 : decode cX11_sign_ 126 = .ok (.goto 4, 3) := by decide +kernel
theorem dX11_sign__129 : decode cX11_sign_ 129 = .ok (.iconst 0, 1) := by decide +kernel
theorem dX11_sign__130 : decode cX11_sign_ 130 = .ok (.istore 6, 2) := by decide +kernel
theorem dX11_sign__132 : decode cX11_sign_ 132 = .ok (.iconst 0, 1) := by decide +kernel
theorem dX11_sign__133 : decode cX11_sign_ 133 = .ok (.istore 7, 2) := by decide +kernel
theorem dX11_sign__135 : decode cX11_sign_ 135 = .ok (.iload 7, 2) := by decide +kernel
theorem dX11_sign__137 : decode cX11_sign_ 137 = .ok (.aload_n 0, 1) := by decide +kernel
theorem dX11_sign__138 : decode cX11_sign_ 138 = .ok (.getfield 168, 3) := by decide +kernel
theorem dX11_sign__141 : decode cX11_sign_ 141 = .ok (.if_icmp .ge 41, 3) := by decide +kernel
theorem dX11_sign__144 : decode cX11_sign_ 144 = .ok (.iload 6, 2) := by decide +kernel
theorem dX11_sign__146 : decode cX11_sign_ 146 = .ok (.ifCond .eq 27, 3) := by decide +kernel
theorem dX11_sign__149 : decode cX11_sign_ 149 = .ok (.aload_n 0, 1) := by decide +kernel
theorem dX11_sign__150 : decode cX11_sign_ 150 = .ok (.getfield 70, 3) := by decide +kernel
theorem dX11_sign__153 : decode cX11_sign_ 153 = .ok (.iload 7, 2) := by decide +kernel
theorem dX11_sign__155 : decode cX11_sign_ 155 = .ok (.iaload, 1) := by decide +kernel
theorem dX11_sign__156 : decode cX11_sign_ 156 = .ok (.iload_n 1, 1) := by decide +kernel
theorem dX11_sign__157 : decode cX11_sign_ 157 = .ok (.if_icmp .ne 12, 3) := by decide +kernel
theorem dX11_sign__160 : decode cX11_sign_ 160 = .ok (.aload_n 0, 1) := by decide +kernel
theorem dX11_sign__161 : decode cX11_sign_ 161 = .ok (.iload 7, 2) := by decide +kernel
theorem dX11_sign__163 : decode cX11_sign_ 163 = .ok (.invokevirtual 188, 3) := by decide +kernel
theorem dX11_sign__166 : decode cX11_sign_ 166 = .ok (.ifCond .ne 7, 3) := by decide +kernel
theorem dX11_sign__169 : decode cX11_sign_ 169 = .ok (.iconst 1, 1) := by decide +kernel
theorem dX11_sign__170 : decode cX11_sign_ 170 = .ok (.goto 4, 3) := by decide +kernel
theorem dX11_sign__173 : decode cX11_sign_ 173 = .ok (.iconst 0, 1) := by decide +kernel
theorem dX11_sign__174 : decode cX11_sign_ 174 = .ok (.istore 6, 2) := by decide +kernel
theorem dX11_sign__176 : decode cX11_sign_ 176 = .ok (.iinc 7 1, 3) := by decide +kernel
theorem dX11_sign__179 : decode cX11_sign_ 179 = .ok (.goto (-44), 3) := by decide +kernel
theorem dX11_sign__182 : decode cX11_sign_ 182 = .ok (.iload 6, 2) := by decide +kernel
theorem dX11_sign__184 : decode cX11_sign_ 184 = .ok (.ifCond .ne 10, 3) := by decide +kernel
theorem dX11_sign__187 : decode cX11_sign_ 187 = .ok (.aload_n 0, 1) := by decide +kernel
theorem dX11_sign__188 : decode cX11_sign_ 188 = .ok (.bipush (-3), 2) := by decide +kernel
theorem dX11_sign__190 : decode cX11_sign_ 190 = .ok (.invokevirtual 153, 3) := by decide +kernel
theorem dX11_sign__193 : decode cX11_sign_ 193 = .ok (.ireturn, 1) := by decide +kernel
theorem dX11_sign__194 : decode cX11_sign_ 194 = .ok (.aload_n 0, 1) := by decide +kernel
theorem dX11_sign__195 : decode cX11_sign_ 195 = .ok (.invokevirtual 275, 3) := by decide +kernel
theorem dX11_sign__198 : decode cX11_sign_ 198 = .ok (.aload_n 0, 1) := by decide +kernel
theorem dX11_sign__199 : decode cX11_sign_ 199 = .ok (.getfield 128, 3) := by decide +kernel
theorem dX11_sign__202 : decode cX11_sign_ 202 = .ok (.bipush 119, 2) := by decide +kernel
theorem dX11_sign__204 : decode cX11_sign_ 204 = .ok (.iload_n 3, 1) := by decide +kernel
theorem dX11_sign__205 : decode cX11_sign_ 205 = .ok (.iastore, 1) := by decide +kernel
theorem dX11_sign__206 : decode cX11_sign_ 206 = .ok (.aload_n 0, 1) := by decide +kernel
theorem dX11_sign__207 : decode cX11_sign_ 207 = .ok (.getfield 128, 3) := by decide +kernel
theorem dX11_sign__210 : decode cX11_sign_ 210 = .ok (.bipush 114, 2) := by decide +kernel
theorem dX11_sign__212 : decode cX11_sign_ 212 = .ok (.iload 4, 2) := by decide +kernel
theorem dX11_sign__214 : decode cX11_sign_ 214 = .ok (.iastore, 1) := by decide +kernel
theorem dX11_sign__215 : decode cX11_sign_ 215 = .ok (.aload_n 0, 1) := by decide +kernel
theorem dX11_sign__216 : decode cX11_sign_ 216 = .ok (.getfield 128, 3) := by decide +kernel
theorem dX11_sign__219 : decode cX11_sign_ 219 = .ok (.bipush 97, 2) := by decide +kernel
theorem dX11_sign__221 : decode cX11_sign_ 221 = .ok (.aload_n 0, 1) := by decide +kernel
theorem dX11_sign__222 : decode cX11_sign_ 222 = .ok (.getfield 171, 3) := by decide +kernel
theorem dX11_sign__225 : decode cX11_sign_ 225 = .ok (.aload_n 0, 1) := by decide +kernel
theorem dX11_sign__226 : decode cX11_sign_ 226 = .ok (.getfield 22, 3) := by decide +kernel
theorem dX11_sign__229 : decode cX11_sign_ 229 = .ok (.iload_n 1, 1) := by decide +kernel
theorem dX11_sign__230 : decode cX11_sign_ 230 = .ok (.iaload, 1) := by decide +kernel
theorem dX11_sign__231 : decode cX11_sign_ 231 = .ok (.isub, 1) := by decide +kernel
theorem dX11_sign__232 : decode cX11_sign_ 232 = .ok (.sipush 365, 3) := by decide +kernel
theorem dX11_sign__235 : decode cX11_sign_ 235 = .ok (.idiv, 1) := by decide +kernel
theorem dX11_sign__236 : decode cX11_sign_ 236 = .ok (.iastore, 1) := by decide +kernel
theorem dX11_sign__237 : decode cX11_sign_ 237 = .ok (.aload_n 0, 1) := by decide +kernel
theorem dX11_sign__238 : decode cX11_sign_ 238 = .ok (.iconst 0, 1) := by decide +kernel
theorem dX11_sign__239 : decode cX11_sign_ 239 = .ok (.aload_n 0, 1) := by decide +kernel
theorem dX11_sign__240 : decode cX11_sign_ 240 = .ok (.getfield 171, 3) := by decide +kernel
theorem dX11_sign__243 : decode cX11_sign_ 243 = .ok (.invokevirtual 285, 3) := by decide +kernel
theorem dX11_sign__246 : decode cX11_sign_ 246 = .ok (.ifCond .gt 10, 3) := by decide +kernel
theorem dX11_sign__249 : decode cX11_sign_ 249 = .ok (.aload_n 0, 1) := by decide +kernel
theorem dX11_sign__250 : decode cX11_sign_ 250 = .ok (.bipush (-3), 2) := by decide +kernel
theorem dX11_sign__252 : decode cX11_sign_ 252 = .ok (.invokevirtual 153, 3) := by decide +kernel
theorem dX11_sign__255 : decode cX11_sign_ 255 = .ok (.ireturn, 1) := by decide +kernel
theorem dX11_sign__256 : decode cX11_sign_ 256 = .ok (.aload_n 0, 1) := by decide +kernel
theorem dX11_sign__257 : decode cX11_sign_ 257 = .ok (.getfield 168, 3) := by decide +kernel
theorem dX11_sign__260 : decode cX11_sign_ 260 = .ok (.istore 7, 2) := by decide +kernel
theorem dX11_sign__262 : decode cX11_sign_ 262 = .ok (.aload_n 0, 1) := by decide +kernel
theorem dX11_sign__263 : decode cX11_sign_ 263 = .ok (.dup, 1) := by decide +kernel
theorem dX11_sign__264 : decode cX11_sign_ 264 = .ok (.getfield 168, 3) := by decide +kernel
theorem dX11_sign__267 : decode cX11_sign_ 267 = .ok (.iconst 1, 1) := by decide +kernel
theorem dX11_sign__268 : decode cX11_sign_ 268 = .ok (.iadd, 1) := by decide +kernel
theorem dX11_sign__269 : decode cX11_sign_ 269 = .ok (.putfield 168, 3) := by decide +kernel
theorem dX11_sign__272 : decode cX11_sign_ 272 = .ok (.aload_n 0, 1) := by decide +kernel
theorem dX11_sign__273 : decode cX11_sign_ 273 = .ok (.getfield 70, 3) := by decide +kernel
theorem dX11_sign__276 : decode cX11_sign_ 276 = .ok (.iload 7, 2) := by decide +kernel
theorem dX11_sign__278 : decode cX11_sign_ 278 = .ok (.iload_n 1, 1) := by decide +kernel
theorem dX11_sign__279 : decode cX11_sign_ 279 = .ok (.iastore, 1) := by decide +kernel
theorem dX11_sign__280 : decode cX11_sign_ 280 = .ok (.aload_n 0, 1) := by decide +kernel
theorem dX11_sign__281 : decode cX11_sign_ 281 = .ok (.getfield 73, 3) := by decide +kernel
theorem dX11_sign__284 : decode cX11_sign_ 284 = .ok (.iload 7, 2) := by decide +kernel
theorem dX11_sign__286 : decode cX11_sign_ 286 = .ok (.iload_n 2, 1) := by decide +kernel
theorem dX11_sign__287 : decode cX11_sign_ 287 = .ok (.iastore, 1) := by decide +kernel
theorem dX11_sign__288 : decode cX11_sign_ 288 = .ok (.aload_n 0, 1) := by decide +kernel
theorem dX11_sign__289 : decode cX11_sign_ 289 = .ok (.getfield 76, 3) := by decide +kernel
theorem dX11_sign__292 : decode cX11_sign_ 292 = .ok (.iload 7, 2) := by decide +kernel
theorem dX11_sign__294 : decode cX11_sign_ 294 = .ok (.iload_n 3, 1) := by decide +kernel
theorem dX11_sign__295 : decode cX11_sign_ 295 = .ok (.iastore, 1) := by decide +kernel
theorem dX11_sign__296 : decode cX11_sign_ 296 = .ok (.aload_n 0, 1) := by decide +kernel
theorem dX11_sign__297 : decode cX11_sign_ 297 = .ok (.getfield 79, 3) := by decide +kernel
theorem dX11_sign__300 : decode cX11_sign_ 300 = .ok (.iload 7, 2) := by decide +kernel
theorem dX11_sign__302 : decode cX11_sign_ 302 = .ok (.iload 4, 2) := by decide +kernel
theorem dX11_sign__304 : decode cX11_sign_ 304 = .ok (.iastore, 1) := by decide +kernel
theorem dX11_sign__305 : decode cX11_sign_ 305 = .ok (.aload_n 0, 1) := by decide +kernel
theorem dX11_sign__306 : decode cX11_sign_ 306 = .ok (.getfield 82, 3) := by decide +kernel
theorem dX11_sign__309 : decode cX11_sign_ 309 = .ok (.iload 7, 2) := by decide +kernel
theorem dX11_sign__311 : decode cX11_sign_ 311 = .ok (.iload 5, 2) := by decide +kernel
theorem dX11_sign__313 : decode cX11_sign_ 313 = .ok (.iastore, 1) := by decide +kernel
theorem dX11_sign__314 : decode cX11_sign_ 314 = .ok (.aload_n 0, 1) := by decide +kernel
theorem dX11_sign__315 : decode cX11_sign_ 315 = .ok (.getfield 85, 3) := by decide +kernel
theorem dX11_sign__318 : decode cX11_sign_ 318 = .ok (.iload 7, 2) := by decide +kernel
theorem dX11_sign__320 : decode cX11_sign_ 320 = .ok (.aload_n 0, 1) := by decide +kernel
theorem dX11_sign__321 : decode cX11_sign_ 321 = .ok (.getfield 171, 3) := by decide +kernel
theorem dX11_sign__324 : decode cX11_sign_ 324 = .ok (.iastore, 1) := by decide +kernel
theorem dX11_sign__325 : decode cX11_sign_ 325 = .ok (.aload_n 0, 1) := by decide +kernel
theorem dX11_sign__326 : decode cX11_sign_ 326 = .ok (.getfield 88, 3) := by decide +kernel
theorem dX11_sign__329 : decode cX11_sign_ 329 = .ok (.iload 7, 2) := by decide +kernel
theorem dX11_sign__331 : decode cX11_sign_ 331 = .ok (.iconst (-1), 1) := by decide +kernel
theorem dX11_sign__332 : decode cX11_sign_ 332 = .ok (.iastore, 1) := by decide +kernel
theorem dX11_sign__333 : decode cX11_sign_ 333 = .ok (.aload_n 0, 1) := by decide +kernel
theorem dX11_sign__334 : decode cX11_sign_ 334 = .ok (.getfield 94, 3) := by decide +kernel
theorem dX11_sign__337 : decode cX11_sign_ 337 = .ok (.iload 7, 2) := by decide +kernel
theorem dX11_sign__339 : decode cX11_sign_ 339 = .ok (.bipush (-9), 2) := by decide +kernel
theorem dX11_sign__341 : decode cX11_sign_ 341 = .ok (.iastore, 1) := by decide +kernel
theorem dX11_sign__342 : decode cX11_sign_ 342 = .ok (.iload 7, 2) := by decide +kernel
theorem dX11_sign__344 : decode cX11_sign_ 344 = .ok (.ireturn, 1) := by decide +kernel
set_option maxRecDepth 20000 in
theorem ggX11_off_X11_isAgreement : GoodIn wsX11_off wsX11_isAgreement := goodIn_r _ [7, 8, 9, 10, 6, 11, 32, 33, 34, 35, 36, 37, 38, 39, 40, 41, 42, 43, 44, 45, 46, 47, 48, 49, 50, 51, 52, 53, 54, 55, 56, 57, 58, 59, 60, 61, 62, 63, 64, 65, 66, 67, 68, 69, 70, 71, 72, 73, 74, 75, 76, 77, 78, 79, 80, 81, 82, 83, 84, 85, 86, 87, 88, 89, 90, 91, 92, 93, 94] (by decide +kernel) (by decide +kernel)
set_option maxRecDepth 20000 in
theorem gX11_off_X11_isAgreement : GoodIn wsX11_off (wsV RX11 199 RX11 yX11_isAgreement wsX11_isAgreement) := goodIn_app (goodIn_of _ (by decide +kernel)) ggX11_off_X11_isAgreement
set_option maxRecDepth 20000 in
theorem ggX11_off_X11_isPort : GoodIn wsX11_off wsX11_isPort := goodIn_r _ [14, 9, 10, 6, 11] (by decide +kernel) (by decide +kernel)
set_option maxRecDepth 20000 in
theorem gX11_off_X11_isPort : GoodIn wsX11_off (va_wsS RX11 174 yX11_isPort wsX11_isPort) := goodIn_app (goodIn_of _ (by decide +kernel)) ggX11_off_X11_isPort
set_option maxRecDepth 20000 in
theorem ggX11_off_X11_refuse : GoodIn wsX11_off wsX11_refuse := goodIn_r _ [18, 19, 32, 33, 34, 35, 36, 37, 38, 39, 40, 41, 42, 43, 44, 45, 46, 47, 48, 49, 50, 51, 52, 53, 54, 55, 56, 57, 58, 59, 60, 61, 62, 63, 64, 65, 66, 67, 68, 69, 70, 71, 72, 73, 74, 75, 76, 77, 78, 79, 80, 81, 82, 83, 84, 85, 86, 87, 88, 89, 90, 91, 92, 93, 94] (by decide +kernel) (by decide +kernel)
set_option maxRecDepth 20000 in
theorem gX11_off_X11_refuse : GoodIn wsX11_off (wsV RX11 153 RX11 yX11_refuse wsX11_refuse) := goodIn_app (goodIn_of _ (by decide +kernel)) ggX11_off_X11_refuse
set_option maxRecDepth 20000 in
theorem ggX11_off_X11_goesOn : GoodIn wsX11_off wsX11_goesOn := goodIn_r _ [23, 1, 24, 25, 26, 27, 6, 28, 29, 30, 31, 32, 33, 34, 35, 36, 37, 38, 39, 40, 41, 42, 43, 44, 45, 46, 47, 48, 49, 50, 51, 52, 53, 54, 55, 56, 57, 58, 59, 60, 61, 62, 63, 64, 65, 66, 67, 68, 69, 70, 71, 72, 73, 74, 75, 76, 77, 78, 79, 80, 81, 82, 83, 84, 85, 86, 87, 88, 89, 90, 91, 92, 93, 94] (by decide +kernel) (by decide +kernel)
set_option maxRecDepth 20000 in
theorem gX11_off_X11_goesOn : GoodIn wsX11_off (wsV RX11 188 RX11 yX11_goesOn wsX11_goesOn) := goodIn_app (goodIn_of _ (by decide +kernel)) ggX11_off_X11_goesOn
theorem dX11_off_0 : decode cX11_off 0 = .ok (.aload_n 0, 1) := by decide +kernel
theorem dX11_off_1 : decode cX11_off 1 = .ok (.iload_n 1, 1) := by decide +kernel
theorem dX11_off_2 : decode cX11_off 2 = .ok (.invokevirtual 199, 3) := by decide +kernel
theorem dX11_off_5 : decode cX11_off 5 = .ok (.ifCond .eq 10, 3) := by decide +kernel
theorem dX11_off_8 : decode cX11_off 8 = .ok (.iload_n 2, 1) := by decide +kernel
theorem dX11_off_9 : decode cX11_off 9 = .ok (.invokestatic 174, 3) := by decide +kernel
theorem dX11_off_12 : decode cX11_off 12 = .ok (.ifCond .ne 9, 3) := by decide +kernel
theorem dX11_off_15 : decode cX11_off 15 = .ok (.aload_n 0, 1) := by decide +kernel
theorem dX11_off_16 : decode cX11_off 16 = .ok (.iconst (-1), 1) := by decide +kernel
theorem dX11_off_17 : decode cX11_off 17 = .ok (.invokevirtual 153, 3) := by decide +kernel
theorem dX11_off_20 : decode cX11_off 20 = .ok (.ireturn, 1) := by decide +kernel
theorem dX11_off_21 : decode cX11_off 21 = .ok (.aload_n 0, 1) := by decide +kernel
theorem dX11_off_22 : decode cX11_off 22 = .ok (.iload_n 1, 1) := by decide +kernel
theorem dX11_off_23 : decode cX11_off 23 = .ok (.invokevirtual 188, 3) := by decide +kernel
theorem dX11_off_26 : decode cX11_off 26 = .ok (.ifCond .ne 10, 3) := by decide +kernel
theorem dX11_off_29 : decode cX11_off 29 = .ok (.aload_n 0, 1) := by decide +kernel
theorem dX11_off_30 : decode cX11_off 30 = .ok (.bipush (-3), 2) := by decide +kernel
theorem dX11_off_32 : decode cX11_off 32 = .ok (.invokevirtual 153, 3) := by decide +kernel
theorem dX11_off_35 : decode cX11_off 35 = .ok (.ireturn, 1) := by decide +kernel
theorem dX11_off_36 : decode cX11_off 36 = .ok (.aload_n 0, 1) := by decide +kernel
theorem dX11_off_37 : decode cX11_off 37 = .ok (.getfield 88, 3) := by decide +kernel
theorem dX11_off_40 : decode cX11_off 40 = .ok (.iload_n 1, 1) := by decide +kernel
theorem dX11_off_41 : decode cX11_off 41 = .ok (.aload_n 0, 1) := by decide +kernel
theorem dX11_off_42 : decode cX11_off 42 = .ok (.getfield 171, 3) := by decide +kernel
theorem dX11_off_45 : decode cX11_off 45 = .ok (.iastore, 1) := by decide +kernel
theorem dX11_off_46 : decode cX11_off 46 = .ok (.iconst 1, 1) := by decide +kernel
theorem dX11_off_47 : decode cX11_off 47 = .ok (.ireturn, 1) := by decide +kernel
set_option maxRecDepth 20000 in
theorem ggX11_state_X11_isAgreement : GoodIn wsX11_state wsX11_isAgreement := goodIn_r _ [5, 6, 7, 8, 4, 9, 116, 117, 118, 119, 120, 121, 122, 123, 124, 125, 126, 127, 128, 129, 130, 131, 132, 133, 134, 135, 136, 137, 138, 139, 140, 141, 142, 143, 144, 145, 146, 147, 148, 149, 150, 151, 152, 153, 154, 155, 156, 157, 158, 159, 160, 161, 162, 163, 164, 165, 166, 167, 168, 169, 170, 171, 172, 173, 174, 175, 176, 177, 178] (by decide +kernel) (by decide +kernel)
set_option maxRecDepth 20000 in
theorem gX11_state_X11_isAgreement : GoodIn wsX11_state (wsV RX11 199 RX11 yX11_isAgreement wsX11_isAgreement) := goodIn_app (goodIn_of _ (by decide +kernel)) ggX11_state_X11_isAgreement
set_option maxRecDepth 20000 in
theorem ggX11_state_X11_wrongTimes : GoodIn wsX11_state wsX11_wrongTimes := goodIn_r _ [13, 14, 116, 117, 118, 119, 120, 121, 122, 123, 124, 125, 126, 127, 128, 129, 130, 131, 132, 133, 134, 135, 136, 137, 138, 139, 140, 141, 142, 143, 144, 145, 146, 147, 148, 149, 150, 151, 152, 153, 154, 155, 156, 157, 158, 159, 160, 161, 162, 163, 164, 165, 166, 167, 168, 169, 170, 171, 172, 173, 174, 175, 176, 177, 178] (by decide +kernel) (by decide +kernel)
set_option maxRecDepth 20000 in
theorem gX11_state_X11_wrongTimes : GoodIn wsX11_state (wsV RX11 300 RX11 yX11_wrongTimes wsX11_wrongTimes) := goodIn_app (goodIn_of _ (by decide +kernel)) ggX11_state_X11_wrongTimes
set_option maxRecDepth 20000 in
theorem ggX11_state_X11_refuse : GoodIn wsX11_state wsX11_refuse := goodIn_r _ [18, 19, 116, 117, 118, 119, 120, 121, 122, 123, 124, 125, 126, 127, 128, 129, 130, 131, 132, 133, 134, 135, 136, 137, 138, 139, 140, 141, 142, 143, 144, 145, 146, 147, 148, 149, 150, 151, 152, 153, 154, 155, 156, 157, 158, 159, 160, 161, 162, 163, 164, 165, 166, 167, 168, 169, 170, 171, 172, 173, 174, 175, 176, 177, 178] (by decide +kernel) (by decide +kernel)
set_option maxRecDepth 20000 in
theorem gX11_state_X11_refuse : GoodIn wsX11_state (wsV RX11 153 RX11 yX11_refuse wsX11_refuse) := goodIn_app (goodIn_of _ (by decide +kernel)) ggX11_state_X11_refuse
set_option maxRecDepth 20000 in
theorem ggX11_state_X11_stateOf : GoodIn wsX11_state wsX11_stateOf := goodIn_r _ [23, 24, 25, 26, 27, 28, 29, 30, 4, 31, 32, 33, 34, 35, 36, 37, 38, 39, 40, 41, 42, 43, 44, 45, 46, 47, 48, 49, 50, 51, 52, 53, 54, 55, 56, 57, 58, 59, 60, 61, 62, 63, 64, 65, 66, 67, 68, 69, 70, 71, 72, 73, 74, 75, 76, 77, 78, 79, 80, 81, 82, 83, 84, 85, 86, 87, 88, 89, 90, 91, 92, 93, 94, 95, 96, 97, 98, 99, 100, 101, 102, 103, 104, 105, 106, 107, 108, 109, 110, 111, 112, 113, 114, 115, 116, 117, 118, 119, 120, 121, 122, 123, 124, 125, 126, 127, 128, 129, 130, 131, 132, 133, 134, 135, 136, 137, 138, 139, 140, 141, 142, 143, 144, 145, 146, 147, 148, 149, 150, 151, 152, 153, 154, 155, 156, 157, 158, 159, 160, 161, 162, 163, 164, 165, 166, 167, 168, 169, 170, 171, 172, 173, 174, 175, 176, 177, 178] (by decide +kernel) (by decide +kernel)
set_option maxRecDepth 20000 in
theorem gX11_state_X11_stateOf : GoodIn wsX11_state (wsV RX11 266 RX11 yX11_stateOf wsX11_stateOf) := goodIn_app (goodIn_of _ (by decide +kernel)) ggX11_state_X11_stateOf
theorem dX11_state_0 : decode cX11_state 0 = .ok (.aload_n 0, 1) := by decide +kernel
theorem dX11_state_1 : decode cX11_state 1 = .ok (.iload_n 1, 1) := by decide +kernel
theorem dX11_state_2 : decode cX11_state 2 = .ok (.invokevirtual 199, 3) := by decide +kernel
theorem dX11_state_5 : decode cX11_state 5 = .ok (.ifCond .eq 12, 3) := by decide +kernel
theorem dX11_state_8 : decode cX11_state 8 = .ok (.aload_n 0, 1) := by decide +kernel
theorem dX11_state_9 : decode cX11_state 9 = .ok (.iload_n 2, 1) := by decide +kernel
theorem dX11_state_10 : decode cX11_state 10 = .ok (.iload_n 3, 1) := by decide +kernel
theorem dX11_state_11 : decode cX11_state 11 = .ok (.invokevirtual 300, 3) := by decide +kernel
theorem dX11_state_14 : decode cX11_state 14 = .ok (.goto 4, 3) := by decide +kernel
theorem dX11_state_17 : decode cX11_state 17 = .ok (.iconst (-1), 1) := by decide +kernel
theorem dX11_state_18 : decode cX11_state 18 = .ok (.istore 4, 2) := by decide +kernel
theorem dX11_state_20 : decode cX11_state 20 = .ok (.iload 4, 2) := by decide +kernel
theorem dX11_state_22 : decode cX11_state 22 = .ok (.ifCond .eq 12, 3) := by decide +kernel
theorem dX11_state_25 : decode cX11_state 25 = .ok (.aload_n 0, 1) := by decide +kernel
theorem dX11_state_26 : decode cX11_state 26 = .ok (.iload 4, 2) := by decide +kernel
theorem dX11_state_28 : decode cX11_state 28 = .ok (.invokevirtual 153, 3) := by decide +kernel
theorem dX11_state_31 : decode cX11_state 31 = .ok (.goto 10, 3) := by decide +kernel
theorem dX11_state_34 : decode cX11_state 34 = .ok (.aload_n 0, 1) := by decide +kernel
theorem dX11_state_35 : decode cX11_state 35 = .ok (.iload_n 1, 1) := by decide +kernel
theorem dX11_state_36 : decode cX11_state 36 = .ok (.iload_n 2, 1) := by decide +kernel
theorem dX11_state_37 : decode cX11_state 37 = .ok (.iload_n 3, 1) := by decide +kernel
theorem dX11_state_38 : decode cX11_state 38 = .ok (.invokevirtual 266, 3) := by decide +kernel
theorem dX11_state_41 : decode cX11_state 41 = .ok (.ireturn, 1) := by decide +kernel
set_option maxRecDepth 20000 in
theorem ggX11_earns_X11_isAgreement : GoodIn wsX11_earns wsX11_isAgreement := goodIn_r _ [5, 6, 7, 8, 4, 9, 120, 121, 122, 123, 124, 125, 126, 127, 128, 129, 130, 131, 132, 133, 134, 135, 136, 137, 138, 139, 140, 141, 142, 143, 144, 145, 146, 147, 148, 149, 150, 151, 152, 153, 154, 155, 156, 157, 158, 159, 160, 161, 162, 163, 164, 165, 166, 167, 168, 169, 170, 171, 172, 173, 174, 175, 176, 177, 178, 179, 180, 181, 182] (by decide +kernel) (by decide +kernel)
set_option maxRecDepth 20000 in
theorem gX11_earns_X11_isAgreement : GoodIn wsX11_earns (wsV RX11 199 RX11 yX11_isAgreement wsX11_isAgreement) := goodIn_app (goodIn_of _ (by decide +kernel)) ggX11_earns_X11_isAgreement
set_option maxRecDepth 20000 in
theorem ggX11_earns_X11_wrongTimes : GoodIn wsX11_earns wsX11_wrongTimes := goodIn_r _ [13, 14, 120, 121, 122, 123, 124, 125, 126, 127, 128, 129, 130, 131, 132, 133, 134, 135, 136, 137, 138, 139, 140, 141, 142, 143, 144, 145, 146, 147, 148, 149, 150, 151, 152, 153, 154, 155, 156, 157, 158, 159, 160, 161, 162, 163, 164, 165, 166, 167, 168, 169, 170, 171, 172, 173, 174, 175, 176, 177, 178, 179, 180, 181, 182] (by decide +kernel) (by decide +kernel)
set_option maxRecDepth 20000 in
theorem gX11_earns_X11_wrongTimes : GoodIn wsX11_earns (wsV RX11 300 RX11 yX11_wrongTimes wsX11_wrongTimes) := goodIn_app (goodIn_of _ (by decide +kernel)) ggX11_earns_X11_wrongTimes
set_option maxRecDepth 20000 in
theorem ggX11_earns_X11_refuse : GoodIn wsX11_earns wsX11_refuse := goodIn_r _ [18, 19, 120, 121, 122, 123, 124, 125, 126, 127, 128, 129, 130, 131, 132, 133, 134, 135, 136, 137, 138, 139, 140, 141, 142, 143, 144, 145, 146, 147, 148, 149, 150, 151, 152, 153, 154, 155, 156, 157, 158, 159, 160, 161, 162, 163, 164, 165, 166, 167, 168, 169, 170, 171, 172, 173, 174, 175, 176, 177, 178, 179, 180, 181, 182] (by decide +kernel) (by decide +kernel)
set_option maxRecDepth 20000 in
theorem gX11_earns_X11_refuse : GoodIn wsX11_earns (wsV RX11 153 RX11 yX11_refuse wsX11_refuse) := goodIn_app (goodIn_of _ (by decide +kernel)) ggX11_earns_X11_refuse
set_option maxRecDepth 20000 in
theorem ggX11_earns_X11_earnsOf : GoodIn wsX11_earns wsX11_earnsOf := goodIn_r _ [23, 24, 25, 26, 27, 28, 4, 29, 30, 31, 32, 33, 34, 35, 36, 37, 38, 39, 40, 41, 42, 43, 44, 45, 46, 47, 48, 49, 50, 51, 52, 53, 54, 55, 56, 57, 58, 59, 60, 61, 62, 63, 64, 65, 66, 67, 68, 69, 70, 71, 72, 73, 74, 75, 76, 77, 78, 79, 80, 81, 82, 83, 84, 85, 86, 87, 88, 89, 90, 91, 92, 93, 94, 95, 96, 97, 98, 99, 100, 101, 102, 103, 104, 105, 106, 107, 108, 109, 110, 111, 112, 113, 114, 115, 116, 117, 118, 119, 7, 8, 9, 120, 121, 122, 123, 124, 125, 126, 127, 128, 129, 130, 131, 132, 133, 134, 135, 136, 137, 138, 139, 140, 141, 142, 143, 144, 145, 146, 147, 148, 149, 150, 151, 152, 153, 154, 155, 156, 157, 158, 159, 160, 161, 162, 163, 164, 165, 166, 167, 168, 169, 170, 171, 172, 173, 174, 175, 176, 177, 178, 179, 180, 181, 182] (by decide +kernel) (by decide +kernel)
set_option maxRecDepth 20000 in
theorem gX11_earns_X11_earnsOf : GoodIn wsX11_earns (wsV RX11 303 RX11 yX11_earnsOf wsX11_earnsOf) := goodIn_app (goodIn_of _ (by decide +kernel)) ggX11_earns_X11_earnsOf
theorem dX11_earns_0 : decode cX11_earns 0 = .ok (.aload_n 0, 1) := by decide +kernel
theorem dX11_earns_1 : decode cX11_earns 1 = .ok (.iload_n 1, 1) := by decide +kernel
theorem dX11_earns_2 : decode cX11_earns 2 = .ok (.invokevirtual 199, 3) := by decide +kernel
theorem dX11_earns_5 : decode cX11_earns 5 = .ok (.ifCond .eq 12, 3) := by decide +kernel
theorem dX11_earns_8 : decode cX11_earns 8 = .ok (.aload_n 0, 1) := by decide +kernel
theorem dX11_earns_9 : decode cX11_earns 9 = .ok (.iload_n 2, 1) := by decide +kernel
theorem dX11_earns_10 : decode cX11_earns 10 = .ok (.iload_n 3, 1) := by decide +kernel
theorem dX11_earns_11 : decode cX11_earns 11 = .ok (.invokevirtual 300, 3) := by decide +kernel
theorem dX11_earns_14 : decode cX11_earns 14 = .ok (.goto 4, 3) := by decide +kernel
theorem dX11_earns_17 : decode cX11_earns 17 = .ok (.iconst (-1), 1) := by decide +kernel
theorem dX11_earns_18 : decode cX11_earns 18 = .ok (.istore 4, 2) := by decide +kernel
theorem dX11_earns_20 : decode cX11_earns 20 = .ok (.iload 4, 2) := by decide +kernel
theorem dX11_earns_22 : decode cX11_earns 22 = .ok (.ifCond .eq 12, 3) := by decide +kernel
theorem dX11_earns_25 : decode cX11_earns 25 = .ok (.aload_n 0, 1) := by decide +kernel
theorem dX11_earns_26 : decode cX11_earns 26 = .ok (.iload 4, 2) := by decide +kernel
theorem dX11_earns_28 : decode cX11_earns 28 = .ok (.invokevirtual 153, 3) := by decide +kernel
theorem dX11_earns_31 : decode cX11_earns 31 = .ok (.goto 10, 3) := by decide +kernel
theorem dX11_earns_34 : decode cX11_earns 34 = .ok (.aload_n 0, 1) := by decide +kernel
theorem dX11_earns_35 : decode cX11_earns 35 = .ok (.iload_n 1, 1) := by decide +kernel
theorem dX11_earns_36 : decode cX11_earns 36 = .ok (.iload_n 2, 1) := by decide +kernel
theorem dX11_earns_37 : decode cX11_earns 37 = .ok (.iload_n 3, 1) := by decide +kernel
theorem dX11_earns_38 : decode cX11_earns 38 = .ok (.invokevirtual 303, 3) := by decide +kernel
theorem dX11_earns_41 : decode cX11_earns 41 = .ok (.ireturn, 1) := by decide +kernel
set_option maxRecDepth 20000 in
theorem ggX11_advance_X11_isAgreement : GoodIn wsX11_advance wsX11_isAgreement := goodIn_r _ [8, 9, 10, 11, 7, 12, 114, 115, 116, 117, 118, 119, 120, 121, 122, 123, 124, 125, 126, 127, 128, 129, 130, 131, 132, 133, 134, 135, 136, 137, 138, 139, 140, 141, 142, 143, 144, 145, 146, 147, 148, 149, 150, 151, 152, 153, 154, 155, 156, 157, 158, 159, 160, 161, 162, 163, 164, 165, 166, 167, 168, 169, 170, 171, 172, 173, 174, 175, 176] (by decide +kernel) (by decide +kernel)
set_option maxRecDepth 20000 in
theorem gX11_advance_X11_isAgreement : GoodIn wsX11_advance (wsV RX11 199 RX11 yX11_isAgreement wsX11_isAgreement) := goodIn_app (goodIn_of _ (by decide +kernel)) ggX11_advance_X11_isAgreement
set_option maxRecDepth 20000 in
theorem ggX11_advance_X11_refuse : GoodIn wsX11_advance wsX11_refuse := goodIn_r _ [16, 17, 114, 115, 116, 117, 118, 119, 120, 121, 122, 123, 124, 125, 126, 127, 128, 129, 130, 131, 132, 133, 134, 135, 136, 137, 138, 139, 140, 141, 142, 143, 144, 145, 146, 147, 148, 149, 150, 151, 152, 153, 154, 155, 156, 157, 158, 159, 160, 161, 162, 163, 164, 165, 166, 167, 168, 169, 170, 171, 172, 173, 174, 175, 176] (by decide +kernel) (by decide +kernel)
set_option maxRecDepth 20000 in
theorem gX11_advance_X11_refuse : GoodIn wsX11_advance (wsV RX11 153 RX11 yX11_refuse wsX11_refuse) := goodIn_app (goodIn_of _ (by decide +kernel)) ggX11_advance_X11_refuse
set_option maxRecDepth 20000 in
theorem ggX11_advance_X11_stateOf : GoodIn wsX11_advance wsX11_stateOf := goodIn_r _ [21, 22, 23, 24, 25, 26, 27, 28, 7, 29, 30, 31, 32, 33, 34, 35, 36, 37, 38, 39, 40, 41, 42, 43, 44, 45, 46, 47, 48, 49, 50, 51, 52, 53, 54, 55, 56, 57, 58, 59, 60, 61, 62, 63, 64, 65, 66, 67, 68, 69, 70, 71, 72, 73, 74, 75, 76, 77, 78, 79, 80, 81, 82, 83, 84, 85, 86, 87, 88, 89, 90, 91, 92, 93, 94, 95, 96, 97, 98, 99, 100, 101, 102, 103, 104, 105, 106, 107, 108, 109, 110, 111, 112, 113, 114, 115, 116, 117, 118, 119, 120, 121, 122, 123, 124, 125, 126, 127, 128, 129, 130, 131, 132, 133, 134, 135, 136, 137, 138, 139, 140, 141, 142, 143, 144, 145, 146, 147, 148, 149, 150, 151, 152, 153, 154, 155, 156, 157, 158, 159, 160, 161, 162, 163, 164, 165, 166, 167, 168, 169, 170, 171, 172, 173, 174, 175, 176] (by decide +kernel) (by decide +kernel)
set_option maxRecDepth 20000 in
theorem gX11_advance_X11_stateOf : GoodIn wsX11_advance (wsV RX11 266 RX11 yX11_stateOf wsX11_stateOf) := goodIn_app (goodIn_of _ (by decide +kernel)) ggX11_advance_X11_stateOf
theorem dX11_advance_0 : decode cX11_advance 0 = .ok (.aload_n 0, 1) := by decide +kernel
theorem dX11_advance_1 : decode cX11_advance 1 = .ok (.iload_n 1, 1) := by decide +kernel
theorem dX11_advance_2 : decode cX11_advance 2 = .ok (.invokevirtual 199, 3) := by decide +kernel
theorem dX11_advance_5 : decode cX11_advance 5 = .ok (.ifCond .ne 9, 3) := by decide +kernel
theorem dX11_advance_8 : decode cX11_advance 8 = .ok (.aload_n 0, 1) := by decide +kernel
theorem dX11_advance_9 : decode cX11_advance 9 = .ok (.iconst (-1), 1) := by decide +kernel
theorem dX11_advance_10 : decode cX11_advance 10 = .ok (.invokevirtual 153, 3) := by decide +kernel
theorem dX11_advance_13 : decode cX11_advance 13 = .ok (.ireturn, 1) := by decide +kernel
theorem dX11_advance_14 : decode cX11_advance 14 = .ok (.aload_n 0, 1) := by decide +kernel
theorem dX11_advance_15 : decode cX11_advance 15 = .ok (.getfield 91, 3) := by decide +kernel
theorem dX11_advance_18 : decode cX11_advance 18 = .ok (.iload_n 1, 1) := by decide +kernel
theorem dX11_advance_19 : decode cX11_advance 19 = .ok (.iaload, 1) := by decide +kernel
theorem dX11_advance_20 : decode cX11_advance 20 = .ok (.ifCond .gt 19, 3) := by decide +kernel
theorem dX11_advance_23 : decode cX11_advance 23 = .ok (.aload_n 0, 1) := by decide +kernel
theorem dX11_advance_24 : decode cX11_advance 24 = .ok (.iload_n 1, 1) := by decide +kernel
theorem dX11_advance_25 : decode cX11_advance 25 = .ok (.aload_n 0, 1) := by decide +kernel
theorem dX11_advance_26 : decode cX11_advance 26 = .ok (.getfield 171, 3) := by decide +kernel
theorem dX11_advance_29 : decode cX11_advance 29 = .ok (.aload_n 0, 1) := by decide +kernel
theorem dX11_advance_30 : decode cX11_advance 30 = .ok (.getfield 171, 3) := by decide +kernel
theorem dX11_advance_33 : decode cX11_advance 33 = .ok (.invokevirtual 266, 3) := by decide +kernel
theorem dX11_advance_36 : decode cX11_advance 36 = .ok (.ifCond .eq 10, 3) := by decide +kernel
theorem dX11_advance_39 : decode cX11_advance 39 = .ok (.aload_n 0, 1) := by decide +kernel
theorem dX11_advance_40 : decode cX11_advance 40 = .ok (.bipush (-3), 2) := by decide +kernel
theorem dX11_advance_42 : decode cX11_advance 42 = .ok (.invokevirtual 153, 3) := by decide +kernel
theorem dX11_advance_45 : decode cX11_advance 45 = .ok (.ireturn, 1) := by decide +kernel
theorem dX11_advance_46 : decode cX11_advance 46 = .ok (.iload_n 2, 1) := by decide +kernel
theorem dX11_advance_47 : decode cX11_advance 47 = .ok (.iconst 1, 1) := by decide +kernel
theorem dX11_advance_48 : decode cX11_advance 48 = .ok (.if_icmp .ge 10, 3) := by decide +kernel
theorem dX11_advance_51 : decode cX11_advance 51 = .ok (.aload_n 0, 1) := by decide +kernel
theorem dX11_advance_52 : decode cX11_advance 52 = .ok (.bipush (-4), 2) := by decide +kernel
theorem dX11_advance_54 : decode cX11_advance 54 = .ok (.invokevirtual 153, 3) := by decide +kernel
theorem dX11_advance_57 : decode cX11_advance 57 = .ok (.ireturn, 1) := by decide +kernel
theorem dX11_advance_58 : decode cX11_advance 58 = .ok (.iload_n 2, 1) := by decide +kernel
theorem dX11_advance_59 : decode cX11_advance 59 = .ok (.ldc 178, 2) := by decide +kernel
theorem dX11_advance_61 : decode cX11_advance 61 = .ok (.if_icmp .le 10, 3) := by decide +kernel
theorem dX11_advance_64 : decode cX11_advance 64 = .ok (.aload_n 0, 1) := by decide +kernel
theorem dX11_advance_65 : decode cX11_advance 65 = .ok (.bipush (-6), 2) := by decide +kernel
theorem dX11_advance_67 : decode cX11_advance 67 = .ok (.invokevirtual 153, 3) := by decide +kernel
theorem dX11_advance_70 : decode cX11_advance 70 = .ok (.ireturn, 1) := by decide +kernel
theorem dX11_advance_71 : decode cX11_advance 71 = .ok (.aload_n 0, 1) := by decide +kernel
theorem dX11_advance_72 : decode cX11_advance 72 = .ok (.getfield 91, 3) := by decide +kernel
theorem dX11_advance_75 : decode cX11_advance 75 = .ok (.iload_n 1, 1) := by decide +kernel
theorem dX11_advance_76 : decode cX11_advance 76 = .ok (.iload_n 2, 1) := by decide +kernel
theorem dX11_advance_77 : decode cX11_advance 77 = .ok (.iastore, 1) := by decide +kernel
theorem dX11_advance_78 : decode cX11_advance 78 = .ok (.iconst 1, 1) := by decide +kernel
theorem dX11_advance_79 : decode cX11_advance 79 = .ok (.ireturn, 1) := by decide +kernel
set_option maxRecDepth 20000 in
theorem ggX11_sold_X11_isAgreement : GoodIn wsX11_sold wsX11_isAgreement := goodIn_r _ [7, 8, 9, 10, 6, 11, 17, 18, 19, 20, 21, 22, 23, 24, 25, 26, 27, 28, 29, 30, 31, 32, 33, 34, 35, 36, 37, 38, 39, 40, 41, 42, 43, 44, 45, 46, 47, 48, 49, 50, 51, 52, 53, 54, 55, 56, 57, 58, 59, 60, 61, 62, 63, 64, 65, 66, 67, 68, 69, 70, 71, 72, 73, 74, 75, 76, 77, 78, 79] (by decide +kernel) (by decide +kernel)
set_option maxRecDepth 20000 in
theorem gX11_sold_X11_isAgreement : GoodIn wsX11_sold (wsV RX11 199 RX11 yX11_isAgreement wsX11_isAgreement) := goodIn_app (goodIn_of _ (by decide +kernel)) ggX11_sold_X11_isAgreement
set_option maxRecDepth 20000 in
theorem ggX11_sold_X11_refuse : GoodIn wsX11_sold wsX11_refuse := goodIn_r _ [15, 16, 17, 18, 19, 20, 21, 22, 23, 24, 25, 26, 27, 28, 29, 30, 31, 32, 33, 34, 35, 36, 37, 38, 39, 40, 41, 42, 43, 44, 45, 46, 47, 48, 49, 50, 51, 52, 53, 54, 55, 56, 57, 58, 59, 60, 61, 62, 63, 64, 65, 66, 67, 68, 69, 70, 71, 72, 73, 74, 75, 76, 77, 78, 79] (by decide +kernel) (by decide +kernel)
set_option maxRecDepth 20000 in
theorem gX11_sold_X11_refuse : GoodIn wsX11_sold (wsV RX11 153 RX11 yX11_refuse wsX11_refuse) := goodIn_app (goodIn_of _ (by decide +kernel)) ggX11_sold_X11_refuse
theorem dX11_sold_0 : decode cX11_sold 0 = .ok (.aload_n 0, 1) := by decide +kernel
theorem dX11_sold_1 : decode cX11_sold 1 = .ok (.iload_n 1, 1) := by decide +kernel
theorem dX11_sold_2 : decode cX11_sold 2 = .ok (.invokevirtual 199, 3) := by decide +kernel
theorem dX11_sold_5 : decode cX11_sold 5 = .ok (.ifCond .ne 9, 3) := by decide +kernel
theorem dX11_sold_8 : decode cX11_sold 8 = .ok (.aload_n 0, 1) := by decide +kernel
theorem dX11_sold_9 : decode cX11_sold 9 = .ok (.iconst (-1), 1) := by decide +kernel
theorem dX11_sold_10 : decode cX11_sold 10 = .ok (.invokevirtual 153, 3) := by decide +kernel
theorem dX11_sold_13 : decode cX11_sold 13 = .ok (.ireturn, 1) := by decide +kernel
theorem dX11_sold_14 : decode cX11_sold 14 = .ok (.aload_n 0, 1) := by decide +kernel
theorem dX11_sold_15 : decode cX11_sold 15 = .ok (.getfield 91, 3) := by decide +kernel
theorem dX11_sold_18 : decode cX11_sold 18 = .ok (.iload_n 1, 1) := by decide +kernel
theorem dX11_sold_19 : decode cX11_sold 19 = .ok (.iaload, 1) := by decide +kernel
theorem dX11_sold_20 : decode cX11_sold 20 = .ok (.ifCond .eq 12, 3) := by decide +kernel
theorem dX11_sold_23 : decode cX11_sold 23 = .ok (.aload_n 0, 1) := by decide +kernel
theorem dX11_sold_24 : decode cX11_sold 24 = .ok (.getfield 94, 3) := by decide +kernel
theorem dX11_sold_27 : decode cX11_sold 27 = .ok (.iload_n 1, 1) := by decide +kernel
theorem dX11_sold_28 : decode cX11_sold 28 = .ok (.iaload, 1) := by decide +kernel
theorem dX11_sold_29 : decode cX11_sold 29 = .ok (.ifCond .le 10, 3) := by decide +kernel
theorem dX11_sold_32 : decode cX11_sold 32 = .ok (.aload_n 0, 1) := by decide +kernel
theorem dX11_sold_33 : decode cX11_sold 33 = .ok (.bipush (-3), 2) := by decide +kernel
theorem dX11_sold_35 : decode cX11_sold 35 = .ok (.invokevirtual 153, 3) := by decide +kernel
theorem dX11_sold_38 : decode cX11_sold 38 = .ok (.ireturn, 1) := by decide +kernel
theorem dX11_sold_39 : decode cX11_sold 39 = .ok (.iload_n 2, 1) := by decide +kernel
theorem dX11_sold_40 : decode cX11_sold 40 = .ok (.iconst 1, 1) := by decide +kernel
theorem dX11_sold_41 : decode cX11_sold 41 = .ok (.if_icmp .ge 10, 3) := by decide +kernel
theorem dX11_sold_44 : decode cX11_sold 44 = .ok (.aload_n 0, 1) := by decide +kernel
theorem dX11_sold_45 : decode cX11_sold 45 = .ok (.bipush (-4), 2) := by decide +kernel
theorem dX11_sold_47 : decode cX11_sold 47 = .ok (.invokevirtual 153, 3) := by decide +kernel
theorem dX11_sold_50 : decode cX11_sold 50 = .ok (.ireturn, 1) := by decide +kernel
theorem dX11_sold_51 : decode cX11_sold 51 = .ok (.iload_n 2, 1) := by decide +kernel
theorem dX11_sold_52 : decode cX11_sold 52 = .ok (.aload_n 0, 1) := by decide +kernel
theorem dX11_sold_53 : decode cX11_sold 53 = .ok (.getfield 91, 3) := by decide +kernel
theorem dX11_sold_56 : decode cX11_sold 56 = .ok (.iload_n 1, 1) := by decide +kernel
theorem dX11_sold_57 : decode cX11_sold 57 = .ok (.iaload, 1) := by decide +kernel
theorem dX11_sold_58 : decode cX11_sold 58 = .ok (.if_icmp .lt 10, 3) := by decide +kernel
theorem dX11_sold_61 : decode cX11_sold 61 = .ok (.aload_n 0, 1) := by decide +kernel
theorem dX11_sold_62 : decode cX11_sold 62 = .ok (.bipush (-6), 2) := by decide +kernel
theorem dX11_sold_64 : decode cX11_sold 64 = .ok (.invokevirtual 153, 3) := by decide +kernel
theorem dX11_sold_67 : decode cX11_sold 67 = .ok (.ireturn, 1) := by decide +kernel
theorem dX11_sold_68 : decode cX11_sold 68 = .ok (.aload_n 0, 1) := by decide +kernel
theorem dX11_sold_69 : decode cX11_sold 69 = .ok (.getfield 94, 3) := by decide +kernel
theorem dX11_sold_72 : decode cX11_sold 72 = .ok (.iload_n 1, 1) := by decide +kernel
theorem dX11_sold_73 : decode cX11_sold 73 = .ok (.iload_n 2, 1) := by decide +kernel
theorem dX11_sold_74 : decode cX11_sold 74 = .ok (.iastore, 1) := by decide +kernel
theorem dX11_sold_75 : decode cX11_sold 75 = .ok (.aload_n 0, 1) := by decide +kernel
theorem dX11_sold_76 : decode cX11_sold 76 = .ok (.getfield 91, 3) := by decide +kernel
theorem dX11_sold_79 : decode cX11_sold 79 = .ok (.iload_n 1, 1) := by decide +kernel
theorem dX11_sold_80 : decode cX11_sold 80 = .ok (.iaload, 1) := by decide +kernel
theorem dX11_sold_81 : decode cX11_sold 81 = .ok (.iload_n 2, 1) := by decide +kernel
theorem dX11_sold_82 : decode cX11_sold 82 = .ok (.isub, 1) := by decide +kernel
theorem dX11_sold_83 : decode cX11_sold 83 = .ok (.ireturn, 1) := by decide +kernel
set_option maxRecDepth 20000 in
theorem ggX11_allot_X11_isAgreement : GoodIn wsX11_allot wsX11_isAgreement := goodIn_r _ [9, 10, 11, 12, 8, 13, 134, 135, 136, 137, 138, 139, 140, 141, 142, 143, 144, 145, 146, 147, 148, 149, 150, 151, 152, 153, 154, 155, 156, 157, 158, 159, 160, 161, 162, 163, 164, 165, 166, 167, 168, 169, 170, 171, 172, 173, 174, 175, 176, 177, 178, 179, 180, 181, 182, 183, 184, 185, 186, 187, 188, 189, 190, 191, 192, 193, 194, 195, 196] (by decide +kernel) (by decide +kernel)
set_option maxRecDepth 20000 in
theorem gX11_allot_X11_isAgreement : GoodIn wsX11_allot (wsV RX11 199 RX11 yX11_isAgreement wsX11_isAgreement) := goodIn_app (goodIn_of _ (by decide +kernel)) ggX11_allot_X11_isAgreement
set_option maxRecDepth 20000 in
theorem ggX11_allot_X11_refuse : GoodIn wsX11_allot wsX11_refuse := goodIn_r _ [17, 18, 134, 135, 136, 137, 138, 139, 140, 141, 142, 143, 144, 145, 146, 147, 148, 149, 150, 151, 152, 153, 154, 155, 156, 157, 158, 159, 160, 161, 162, 163, 164, 165, 166, 167, 168, 169, 170, 171, 172, 173, 174, 175, 176, 177, 178, 179, 180, 181, 182, 183, 184, 185, 186, 187, 188, 189, 190, 191, 192, 193, 194, 195, 196] (by decide +kernel) (by decide +kernel)
set_option maxRecDepth 20000 in
theorem gX11_allot_X11_refuse : GoodIn wsX11_allot (wsV RX11 153 RX11 yX11_refuse wsX11_refuse) := goodIn_app (goodIn_of _ (by decide +kernel)) ggX11_allot_X11_refuse
set_option maxRecDepth 20000 in
theorem ggX11_allot_X11_goesOn : GoodIn wsX11_allot wsX11_goesOn := goodIn_r _ [22, 23, 24, 25, 26, 27, 8, 28, 29, 30, 31, 134, 135, 136, 137, 138, 139, 140, 141, 142, 143, 144, 145, 146, 147, 148, 149, 150, 151, 152, 153, 154, 155, 156, 157, 158, 159, 160, 161, 162, 163, 164, 165, 166, 167, 168, 169, 170, 171, 172, 173, 174, 175, 176, 177, 178, 179, 180, 181, 182, 183, 184, 185, 186, 187, 188, 189, 190, 191, 192, 193, 194, 195, 196] (by decide +kernel) (by decide +kernel)
set_option maxRecDepth 20000 in
theorem gX11_allot_X11_goesOn : GoodIn wsX11_allot (wsV RX11 188 RX11 yX11_goesOn wsX11_goesOn) := goodIn_app (goodIn_of _ (by decide +kernel)) ggX11_allot_X11_goesOn
set_option maxRecDepth 20000 in
theorem ggX11_allot_X11_puts : GoodIn wsX11_allot wsX11_puts := goodIn_r _ [35, 36, 24, 37, 3, 38, 39, 40, 41, 42, 43, 8, 44, 23, 30, 45, 46, 47, 48, 29, 31, 49, 50, 51, 52, 53, 54, 55, 56, 57, 58, 59, 60, 61, 62, 63, 64, 65, 66, 67, 68, 69, 70, 71, 72, 73, 74, 75, 76, 77, 78, 79, 80, 81, 82, 83, 84, 85, 86, 87, 88, 89, 90, 91, 92, 93, 94, 95, 96, 97, 98, 99, 100, 101, 102, 103, 104, 105, 106, 107, 108, 109, 110, 111, 112, 113, 114, 115, 116, 117, 118, 119, 120, 121, 122, 123, 124, 125, 126, 127, 128, 129, 130, 131, 132, 133, 10, 134, 135, 136, 137, 138, 139, 140, 141, 142, 143, 144, 145, 146, 147, 148, 149, 150, 151, 152, 153, 154, 155, 156, 157, 158, 159, 160, 161, 162, 163, 164, 165, 166, 167, 168, 169, 170, 171, 172, 173, 174, 175, 176, 177, 178, 179, 180, 181, 182, 183, 184, 185, 186, 187, 188, 189, 190, 191, 192, 193, 194, 195, 196] (by decide +kernel) (by decide +kernel)
set_option maxRecDepth 20000 in
theorem gX11_allot_X11_puts : GoodIn wsX11_allot (wsV RX11 306 RX11 yX11_puts wsX11_puts) := goodIn_app (goodIn_of _ (by decide +kernel)) ggX11_allot_X11_puts
set_option maxRecDepth 20000 in
theorem ggX11_allot_X11_worth : GoodIn wsX11_allot wsX11_worth := goodIn_r _ [78, 79, 37, 80, 81, 82, 8, 83, 84, 85, 86, 87, 88, 89, 90, 91, 92, 93, 94, 95, 96, 97, 98, 99, 100, 101, 102, 103, 104, 105, 106, 107, 108, 109, 110, 111, 112, 113, 114, 115, 116, 117, 118, 119, 120, 121, 122, 123, 124, 125, 126, 127, 128, 129, 134, 135, 136, 137, 138, 139, 140, 141, 142, 143, 144, 145, 146, 147, 148, 149, 150, 151, 152, 153, 154, 155, 156, 157, 158, 159, 160, 161, 162, 163, 164, 165, 166, 167, 168, 169, 170, 171, 172, 173, 174, 175, 176, 177, 178, 179, 180, 181, 182, 183, 184, 185, 186, 187, 188, 189, 190, 191, 192, 193, 194, 195, 196] (by decide +kernel) (by decide +kernel)
set_option maxRecDepth 20000 in
theorem gX11_allot_X11_worth : GoodIn wsX11_allot (wsV RX11 285 RX11 yX11_worth wsX11_worth) := goodIn_app (goodIn_of _ (by decide +kernel)) ggX11_allot_X11_worth
theorem dX11_allot_0 : decode cX11_allot 0 = .ok (.aload_n 0, 1) := by decide +kernel
theorem dX11_allot_1 : decode cX11_allot 1 = .ok (.iload_n 1, 1) := by decide +kernel
theorem dX11_allot_2 : decode cX11_allot 2 = .ok (.invokevirtual 199, 3) := by decide +kernel
theorem dX11_allot_5 : decode cX11_allot 5 = .ok (.ifCond .ne 9, 3) := by decide +kernel
theorem dX11_allot_8 : decode cX11_allot 8 = .ok (.aload_n 0, 1) := by decide +kernel
theorem dX11_allot_9 : decode cX11_allot 9 = .ok (.iconst (-1), 1) := by decide +kernel
theorem dX11_allot_10 : decode cX11_allot 10 = .ok (.invokevirtual 153, 3) := by decide +kernel
theorem dX11_allot_13 : decode cX11_allot 13 = .ok (.ireturn, 1) := by decide +kernel
theorem dX11_allot_14 : decode cX11_allot 14 = .ok (.aload_n 0, 1) := by decide +kernel
theorem dX11_allot_15 : decode cX11_allot 15 = .ok (.getfield 97, 3) := by decide +kernel
theorem dX11_allot_18 : decode cX11_allot 18 = .ok (.iload_n 1, 1) := by decide +kernel
theorem dX11_allot_19 : decode cX11_allot 19 = .ok (.iaload, 1) := by decide +kernel
theorem dX11_allot_20 : decode cX11_allot 20 = .ok (.ifCond .gt 11, 3) := by decide +kernel
theorem dX11_allot_23 : decode cX11_allot 23 = .ok (.aload_n 0, 1) := by decide +kernel
theorem dX11_allot_24 : decode cX11_allot 24 = .ok (.iload_n 1, 1) := by decide +kernel
theorem dX11_allot_25 : decode cX11_allot 25 = .ok (.invokevirtual 188, 3) := by decide +kernel
theorem dX11_allot_28 : decode cX11_allot 28 = .ok (.ifCond .ne 10, 3) := by decide +kernel
theorem dX11_allot_31 : decode cX11_allot 31 = .ok (.aload_n 0, 1) := by decide +kernel
theorem dX11_allot_32 : decode cX11_allot 32 = .ok (.bipush (-3), 2) := by decide +kernel
theorem dX11_allot_34 : decode cX11_allot 34 = .ok (.invokevirtual 153, 3) := by decide +kernel
theorem dX11_allot_37 : decode cX11_allot 37 = .ok (.ireturn, 1) := by decide +kernel
theorem dX11_allot_38 : decode cX11_allot 38 = .ok (.iload_n 2, 1) := by decide +kernel
theorem dX11_allot_39 : decode cX11_allot 39 = .ok (.iconst 1, 1) := by decide +kernel
theorem dX11_allot_40 : decode cX11_allot 40 = .ok (.if_icmp .ge 10, 3) := by decide +kernel
theorem dX11_allot_43 : decode cX11_allot 43 = .ok (.aload_n 0, 1) := by decide +kernel
theorem dX11_allot_44 : decode cX11_allot 44 = .ok (.bipush (-4), 2) := by decide +kernel
theorem dX11_allot_46 : decode cX11_allot 46 = .ok (.invokevirtual 153, 3) := by decide +kernel
theorem dX11_allot_49 : decode cX11_allot 49 = .ok (.ireturn, 1) := by decide +kernel
theorem dX11_allot_50 : decode cX11_allot 50 = .ok (.iload_n 2, 1) := by decide +kernel
theorem dX11_allot_51 : decode cX11_allot 51 = .ok (.sipush 9999, 3) := by decide +kernel
theorem dX11_allot_54 : decode cX11_allot 54 = .ok (.if_icmp .le 10, 3) := by decide +kernel
theorem dX11_allot_57 : decode cX11_allot 57 = .ok (.aload_n 0, 1) := by decide +kernel
theorem dX11_allot_58 : decode cX11_allot 58 = .ok (.bipush (-6), 2) := by decide +kernel
theorem dX11_allot_60 : decode cX11_allot 60 = .ok (.invokevirtual 153, 3) := by decide +kernel
theorem dX11_allot_63 : decode cX11_allot 63 = .ok (.ireturn, 1) := by decide +kernel
theorem dX11_allot_64 : decode cX11_allot 64 = .ok (.aload_n 0, 1) := by decide +kernel
theorem dX11_allot_65 : decode cX11_allot 65 = .ok (.iload_n 1, 1) := by decide +kernel
theorem dX11_allot_66 : decode cX11_allot 66 = .ok (.aload_n 0, 1) := by decide +kernel
theorem dX11_allot_67 : decode cX11_allot 67 = .ok (.getfield 171, 3) := by decide +kernel
theorem dX11_allot_70 : decode cX11_allot 70 = .ok (.aload_n 0, 1) := by decide +kernel
theorem dX11_allot_71 : decode cX11_allot 71 = .ok (.getfield 171, 3) := by decide +kernel
theorem dX11_allot_74 : decode cX11_allot 74 = .ok (.iload_n 2, 1) := by decide +kernel
theorem dX11_allot_75 : decode cX11_allot 75 = .ok (.iconst 0, 1) := by decide +kernel
theorem dX11_allot_76 : decode cX11_allot 76 = .ok (.invokevirtual 306, 3) := by decide +kernel
theorem dX11_allot_79 : decode cX11_allot 79 = .ok (.iload_n 2, 1) := by decide +kernel
theorem dX11_allot_80 : decode cX11_allot 80 = .ok (.i2l, 1) := by decide +kernel
theorem dX11_allot_81 : decode cX11_allot 81 = .ok (.aload_n 0, 1) := by decide +kernel
theorem dX11_allot_82 : decode cX11_allot 82 = .ok (.getfield 76, 3) := by decide +kernel
theorem dX11_allot_85 : decode cX11_allot 85 = .ok (.iload_n 1, 1) := by decide +kernel
theorem dX11_allot_86 : decode cX11_allot 86 = .ok (.iaload, 1) := by decide +kernel
theorem dX11_allot_87 : decode cX11_allot 87 = .ok (.i2l, 1) := by decide +kernel
theorem dX11_allot_88 : decode cX11_allot 88 = .ok (.aload_n 0, 1) := by decide +kernel
theorem dX11_allot_89 : decode cX11_allot 89 = .ok (.iconst 3, 1) := by decide +kernel
theorem dX11_allot_90 : decode cX11_allot 90 = .ok (.aload_n 0, 1) := by decide +kernel
theorem dX11_allot_91 : decode cX11_allot 91 = .ok (.getfield 171, 3) := by decide +kernel
theorem dX11_allot_94 : decode cX11_allot 94 = .ok (.invokevirtual 285, 3) := by decide +kernel
theorem dX11_allot_97 : decode cX11_allot 97 = .ok (.i2l, 1) := by decide +kernel
theorem dX11_allot_98 : decode cX11_allot 98 = .ok (.lmul, 1) := by decide +kernel
theorem dX11_allot_99 : decode cX11_allot 99 = .ok (.ldc2_w 310, 3) := by decide +kernel
theorem dX11_allot_102 : decode cX11_allot 102 = .ok (.ldiv, 1) := by decide +kernel
theorem dX11_allot_103 : decode cX11_allot 103 = .ok (.lcmp, 1) := by decide +kernel
theorem dX11_allot_104 : decode cX11_allot 104 = .ok (.ifCond .le 10, 3) := by decide +kernel
theorem dX11_allot_107 : decode cX11_allot 107 = .ok (.aload_n 0, 1) := by decide +kernel
theorem dX11_allot_108 : decode cX11_allot 108 = .ok (.bipush (-6), 2) := by decide +kernel
theorem dX11_allot_110 : decode cX11_allot 110 = .ok (.invokevirtual 153, 3) := by decide +kernel
theorem dX11_allot_113 : decode cX11_allot 113 = .ok (.ireturn, 1) := by decide +kernel
theorem dX11_allot_114 : decode cX11_allot 114 = .ok (.aload_n 0, 1) := by decide +kernel
theorem dX11_allot_115 : decode cX11_allot 115 = .ok (.getfield 97, 3) := by decide +kernel
theorem dX11_allot_118 : decode cX11_allot 118 = .ok (.iload_n 1, 1) := by decide +kernel
theorem dX11_allot_119 : decode cX11_allot 119 = .ok (.iload_n 2, 1) := by decide +kernel
theorem dX11_allot_120 : decode cX11_allot 120 = .ok (.iastore, 1) := by decide +kernel
theorem dX11_allot_121 : decode cX11_allot 121 = .ok (.iconst 1, 1) := by decide +kernel
theorem dX11_allot_122 : decode cX11_allot 122 = .ok (.ireturn, 1) := by decide +kernel
set_option maxRecDepth 20000 in
theorem ggX11_aboard_X11_isVoyage : GoodIn wsX11_aboard wsX11_isVoyage := goodIn_r _ [5, 6, 7, 8, 4, 9, 121, 122, 123, 124, 125, 126, 127, 128, 129, 130, 131, 132, 133, 134, 135, 136, 137, 138, 139, 140, 141, 142, 143, 144, 145, 146, 147, 148, 149, 150, 151, 152, 153, 154, 155, 156, 157, 158, 159, 160, 161, 162, 163, 164, 165, 166, 167, 168, 169, 170, 171, 172, 173, 174, 175, 176, 177, 178, 179, 180, 181, 182, 183] (by decide +kernel) (by decide +kernel)
set_option maxRecDepth 20000 in
theorem gX11_aboard_X11_isVoyage : GoodIn wsX11_aboard (wsV RX11 185 RX11 yX11_isVoyage wsX11_isVoyage) := goodIn_app (goodIn_of _ (by decide +kernel)) ggX11_aboard_X11_isVoyage
set_option maxRecDepth 20000 in
theorem ggX11_aboard_X11_wrongTimes : GoodIn wsX11_aboard wsX11_wrongTimes := goodIn_r _ [13, 14, 121, 122, 123, 124, 125, 126, 127, 128, 129, 130, 131, 132, 133, 134, 135, 136, 137, 138, 139, 140, 141, 142, 143, 144, 145, 146, 147, 148, 149, 150, 151, 152, 153, 154, 155, 156, 157, 158, 159, 160, 161, 162, 163, 164, 165, 166, 167, 168, 169, 170, 171, 172, 173, 174, 175, 176, 177, 178, 179, 180, 181, 182, 183] (by decide +kernel) (by decide +kernel)
set_option maxRecDepth 20000 in
theorem gX11_aboard_X11_wrongTimes : GoodIn wsX11_aboard (wsV RX11 300 RX11 yX11_wrongTimes wsX11_wrongTimes) := goodIn_app (goodIn_of _ (by decide +kernel)) ggX11_aboard_X11_wrongTimes
set_option maxRecDepth 20000 in
theorem ggX11_aboard_X11_refuse : GoodIn wsX11_aboard wsX11_refuse := goodIn_r _ [18, 19, 121, 122, 123, 124, 125, 126, 127, 128, 129, 130, 131, 132, 133, 134, 135, 136, 137, 138, 139, 140, 141, 142, 143, 144, 145, 146, 147, 148, 149, 150, 151, 152, 153, 154, 155, 156, 157, 158, 159, 160, 161, 162, 163, 164, 165, 166, 167, 168, 169, 170, 171, 172, 173, 174, 175, 176, 177, 178, 179, 180, 181, 182, 183] (by decide +kernel) (by decide +kernel)
set_option maxRecDepth 20000 in
theorem gX11_aboard_X11_refuse : GoodIn wsX11_aboard (wsV RX11 153 RX11 yX11_refuse wsX11_refuse) := goodIn_app (goodIn_of _ (by decide +kernel)) ggX11_aboard_X11_refuse
set_option maxRecDepth 20000 in
theorem ggX11_aboard_X11_aboardOf : GoodIn wsX11_aboard wsX11_aboardOf := goodIn_r _ [23, 24, 25, 26, 27, 28, 4, 29, 30, 31, 32, 33, 34, 35, 36, 37, 38, 39, 40, 41, 42, 43, 44, 45, 46, 47, 48, 49, 50, 51, 52, 53, 54, 55, 56, 57, 58, 59, 60, 61, 62, 63, 64, 65, 66, 67, 68, 69, 70, 71, 72, 73, 74, 75, 76, 77, 78, 79, 80, 81, 82, 83, 84, 85, 86, 87, 88, 89, 90, 91, 92, 93, 94, 95, 96, 97, 98, 99, 100, 101, 102, 103, 104, 105, 106, 107, 108, 109, 110, 111, 112, 113, 114, 115, 116, 117, 118, 119, 120, 121, 122, 123, 124, 125, 126, 127, 128, 129, 130, 131, 132, 133, 134, 135, 136, 137, 138, 139, 140, 141, 142, 143, 144, 145, 146, 147, 148, 149, 150, 151, 152, 153, 154, 155, 156, 157, 158, 159, 160, 161, 162, 163, 164, 165, 166, 167, 168, 169, 170, 171, 172, 173, 174, 175, 176, 177, 178, 179, 180, 181, 182, 183] (by decide +kernel) (by decide +kernel)
set_option maxRecDepth 20000 in
theorem gX11_aboard_X11_aboardOf : GoodIn wsX11_aboard (wsV RX11 269 RX11 yX11_aboardOf wsX11_aboardOf) := goodIn_app (goodIn_of _ (by decide +kernel)) ggX11_aboard_X11_aboardOf
theorem dX11_aboard_0 : decode cX11_aboard 0 = .ok (.aload_n 0, 1) := by decide +kernel
theorem dX11_aboard_1 : decode cX11_aboard 1 = .ok (.iload_n 1, 1) := by decide +kernel
theorem dX11_aboard_2 : decode cX11_aboard 2 = .ok (.invokevirtual 185, 3) := by decide +kernel
theorem dX11_aboard_5 : decode cX11_aboard 5 = .ok (.ifCond .eq 12, 3) := by decide +kernel
theorem dX11_aboard_8 : decode cX11_aboard 8 = .ok (.aload_n 0, 1) := by decide +kernel
theorem dX11_aboard_9 : decode cX11_aboard 9 = .ok (.iload_n 2, 1) := by decide +kernel
theorem dX11_aboard_10 : decode cX11_aboard 10 = .ok (.iload_n 3, 1) := by decide +kernel
theorem dX11_aboard_11 : decode cX11_aboard 11 = .ok (.invokevirtual 300, 3) := by decide +kernel
theorem dX11_aboard_14 : decode cX11_aboard 14 = .ok (.goto 4, 3) := by decide +kernel
theorem dX11_aboard_17 : decode cX11_aboard 17 = .ok (.iconst (-1), 1) := by decide +kernel
theorem dX11_aboard_18 : decode cX11_aboard 18 = .ok (.istore 4, 2) := by decide +kernel
theorem dX11_aboard_20 : decode cX11_aboard 20 = .ok (.iload 4, 2) := by decide +kernel
theorem dX11_aboard_22 : decode cX11_aboard 22 = .ok (.ifCond .eq 12, 3) := by decide +kernel
theorem dX11_aboard_25 : decode cX11_aboard 25 = .ok (.aload_n 0, 1) := by decide +kernel
theorem dX11_aboard_26 : decode cX11_aboard 26 = .ok (.iload 4, 2) := by decide +kernel
theorem dX11_aboard_28 : decode cX11_aboard 28 = .ok (.invokevirtual 153, 3) := by decide +kernel
theorem dX11_aboard_31 : decode cX11_aboard 31 = .ok (.goto 10, 3) := by decide +kernel
theorem dX11_aboard_34 : decode cX11_aboard 34 = .ok (.aload_n 0, 1) := by decide +kernel
theorem dX11_aboard_35 : decode cX11_aboard 35 = .ok (.iload_n 1, 1) := by decide +kernel
theorem dX11_aboard_36 : decode cX11_aboard 36 = .ok (.iload_n 2, 1) := by decide +kernel
theorem dX11_aboard_37 : decode cX11_aboard 37 = .ok (.iload_n 3, 1) := by decide +kernel
theorem dX11_aboard_38 : decode cX11_aboard 38 = .ok (.invokevirtual 269, 3) := by decide +kernel
theorem dX11_aboard_41 : decode cX11_aboard 41 = .ok (.ireturn, 1) := by decide +kernel
theorem in_wsX11_voyage_X11 : ∀ w ∈ wsX110, w ∈ wsX11_voyage := fun w h => List.mem_cons_of_mem _ (List.mem_append_right _ h)
theorem in_wsX11_ended_X11 : ∀ w ∈ wsX110, w ∈ wsX11_ended := fun w h => List.mem_cons_of_mem _ (List.mem_append_right _ h)
theorem in_wsX11_feed_X11 : ∀ w ∈ wsX110, w ∈ wsX11_feed := fun w h => List.mem_cons_of_mem _ (List.mem_append_right _ h)
theorem in_wsX11_act_X11 : ∀ w ∈ wsX110, w ∈ wsX11_act := fun w h => List.mem_cons_of_mem _ (List.mem_append_right _ h)
theorem in_wsX11_off_X11 : ∀ w ∈ wsX110, w ∈ wsX11_off := fun w h => List.mem_cons_of_mem _ (List.mem_append_right _ h)
theorem in_wsX11_advance_X11 : ∀ w ∈ wsX110, w ∈ wsX11_advance := fun w h => List.mem_cons_of_mem _ (List.mem_append_right _ h)
theorem in_wsX11_sold_X11 : ∀ w ∈ wsX110, w ∈ wsX11_sold := fun w h => List.mem_cons_of_mem _ (List.mem_append_right _ h)
theorem in_wsX11_allot_X11 : ∀ w ∈ wsX110, w ∈ wsX11_allot := fun w h => List.mem_cons_of_mem _ (List.mem_append_right _ h)
theorem in_wsX11_sign__X11 : ∀ w ∈ wsX110, w ∈ wsX11_sign_ := fun w h => List.mem_cons_of_mem _ (List.mem_append_right _ h)
set_option maxHeartbeats 4000000 in
set_option maxRecDepth 100000 in
theorem c_X11_voyage (l : Launch) (dC : Nat → ClassId) (dI : Nat → Nat → Nat) (sz : Nat) (g0 : Nat) (pq : Nat → Nat) (cp : Nat → ClassId) (v : Nat → Int32) (fa : Nat → Nat → Int32) (gV : mV v) (gA : mA fa) (x1 : Int32) (x2 : Int32) : Met l yX11_voyage wsX11_voyage ({ frames := 2, cells := 0, slots := 0, locals := 41 }) (va_Pc [.ref g0, .int x1, .int x2] (pcW (dC, dI) (mT cp) (mW g0 pq cp v fa) sz)) (va_Qi (fun (r : Int32) (u : (Nat → Int32) × (Nat → Nat → Int32)) => mV u.1 ∧ mA u.2 ∧ u.1 38 = v 38) (fun u t => va_P (dC, dI) vwCl (mW g0 pq cp u.1 u.2) t.heap ∧ va_K (dC, dI) vwCl (mT cp) t ∧ va_D (va_A (mW g0 pq cp v fa) sz) (mW g0 pq cp u.1 u.2)) (va_A (mW g0 pq cp v fa) sz)) 0 0 (va_A (mW g0 pq cp v fa) sz) := by
  refine Met.ofW (cc := cX11_voyage) (maxL := 4) (ret := (some .int)) (by decide) rfl ?_
  intro p e s m args below meth c s₁ B hml hv
  obtain ⟨rfl, hsz, hP, hK, hD0⟩ := hv
  have hx := B.exec
  have hb := B.bytes
  have hr := B.returns
  have hts := atoms_spec (ws := wsX11_voyage) B.pre
  have hown : s.vm.findClass RX11 = some m.cls := findClass_of_methodNamed B.named
  have hlocks := B.notSynchronized
  subst hsz
  have hD := hD0.self (sz := s.heap.size)
  generalize hAe : va_A (mW g0 pq cp v fa) s.heap.size = A at hD ⊢
  have hA : ∀ q : Nat, s.heap.size ≤ q → A q := fun q h => by rw [← hAe]; exact Or.inr h
  have hS : va_S A s.heap s.heap [] := va_S.rf
  have hP : va_P (dC, dI) vwCl (mW g0 pq cp v fa) s.heap := hP
  have hl := lv_entry ([.ref g0, .int x1, .int x2]) (n := 4) (Nat.le_of_ble_eq_true rfl)
  rw [lg_entry_eq]
  generalize (lg_sl ([.ref g0, .int x1, .int x2]) ++ List.replicate (4 - (lg_sl ([.ref g0, .int x1, .int x2])).length) Slot.unset).toArray = ls at hl ⊢
  have hl : lv_has ls 4 [(0, .ref g0), (1, .int x1), (2, .int x2)] := hl
  refine lv_iload_n hx hb dX11_voyage_0 rfl (lv_at hl 1 rfl) ?_
  refine lv_bipush (v := 10) hx hb dX11_voyage_1 (by decide) ?_
  have hFc : ∀ q, va_A [] s.heap.size q → A q := pu_free hS hA
  have hPc := hP.sub (ws' := []) [] rfl
  have hDc := hD.sub (ws' := []) [] (by decide) rfl
  have hKc := hK.sub (tys' := []) [] rfl
  refine va_calli (va_runS (As := [.int x1, .int 10]) (rest := []) ⟨hx, hb, hml, hown, hts⟩ (c_X11_isIn l dC dI s.heap.size x1 10) (va_cwS 2 hts gX11_voyage_X11_isIn rfl rfl rfl (by decide +kernel) ⟨(Nat.le_of_ble_eq_true rfl), (Nat.le_of_ble_eq_true rfl)⟩) (pr_S hPc hKc hDc) rfl rfl hl.1 rfl (lv_room (Nat.le_of_ble_eq_true rfl)) dX11_voyage_3 ⟨(Nat.le_of_ble_eq_true rfl), (Nat.le_of_ble_eq_true rfl)⟩) hS (fun q _ h => hFc q h) hFc (fun r_2 u t H locs ht hvm w_1 hB hz1 hk1 hS => ?_)
  have hP := pu_keep hP hk1
  clear hk1 hz1 hvm hB ht hFc hPc hDc hKc
  have hbr_2 : 0 ≤ r_2.toInt ∧ r_2.toInt ≤ 1 := iv_of w_1 (isI_i _ _)
  refine lv_if_eq (tgt := 16) hx hb dX11_voyage_6 (by decide) (fun c_3 => ?_) (fun c_3 => ?_)
  · have dc_3 := c_eq (a := r_2.toInt) (b := 0) rfl (by decide) c_3
    refine lv_aload_n hx hb dX11_voyage_16 rfl (lv_at hl 0 rfl) ?_
    refine lv_iconst (v := (-1)) hx hb dX11_voyage_17 (by decide) ?_
    have hFc := va_free (wc := (mW g0 pq cp v fa)) hD hS hA (List.range 48) rfl
    refine va_calli (va_runV (As := [.int (-1)]) (rest := []) ⟨hx, hb, hml, hown, hts⟩ (c_X11_refuse l dC dI H.size g0 pq cp v fa (-1) (by unfold vp_in; decide)) (cwV 1 hts gX11_voyage_X11_refuse rfl rfl rfl (by decide +kernel) ⟨(Nat.le_of_ble_eq_true rfl), (Nat.le_of_ble_eq_true rfl)⟩) (pr_V (r := (RX11, TX11, 63)) hP hK hD 0 11 rfl rfl) rfl rfl hl.1 rfl (lv_room (Nat.le_of_ble_eq_true rfl)) dX11_voyage_18 ⟨(Nat.le_of_ble_eq_true rfl), (Nat.le_of_ble_eq_true rfl)⟩) hS (fun q _ h => hFc q h) hFc (fun r_5 u t H locs ht hvm w_4 hB hz1 hk1 hS => ?_)
    obtain ⟨v_6, fa_7⟩ := u
    obtain ⟨hP1, hK1, hD1⟩ := hB
    rw [ht] at hP1
    have hP : va_P (dC, dI) vwCl (mW g0 pq cp v_6 fa_7) H := hP1
    have hD : va_D A (mW g0 pq cp v_6 fa_7) := hD1.weaken (fun _ _ _ h => hFc _ h)
    clear hP1 hK1 hD1 hk1 hz1 hvm ht hFc
    obtain ⟨rfl, w_4⟩ := w_4
    have hVv_6 : mV v_6 := sm0_V w_4 gV
    have hAv_6 : mA fa_7 := sm0_A w_4 gA
    have g_8 : (v_6 40).toInt = (v 40).toInt := congrArg Int32.toInt (congrFun w_4.1 40)
    have hRv_6 : v_6 38 = v 38 := (congrFun w_4.1 38).trans rfl
    exact W.iret (v := (-1)) hx hb hr (fun t ht hW => ⟨⟨(-1), (v_6, fa_7), rfl, ⟨hVv_6, hAv_6, hRv_6⟩, ⟨by rw [ht]; exact hP, va_K.moved hW.alike hK, hD⟩⟩, hS.F ht⟩) hS.2.2 dX11_voyage_21
  · have dc_3 := c_ne (a := r_2.toInt) (b := 0) rfl (by decide) c_3
    have hi_9 := isI_t w_1 (fun q => c_3 (Int32.toInt_inj.mp q))
    have khi_9 : (10 : Int32).toInt = 10 := by decide
    refine lv_iload_n hx hb dX11_voyage_9 rfl (lv_at hl 2 rfl) ?_
    have hFc : ∀ q, va_A [] H.size q → A q := pu_free hS hA
    have hPc := hP.sub (ws' := []) [] rfl
    have hDc := hD.sub (ws' := []) [] (by decide) rfl
    have hKc := hK.sub (tys' := []) [] rfl
    refine va_calli (va_runS (As := [.int x2]) (rest := []) ⟨hx, hb, hml, hown, hts⟩ (c_X11_isPort l dC dI H.size x2) (va_cwS 1 hts gX11_voyage_X11_isPort rfl rfl rfl (by decide +kernel) ⟨(Nat.le_of_ble_eq_true rfl), (Nat.le_of_ble_eq_true rfl)⟩) (pr_S hPc hKc hDc) rfl rfl hl.1 rfl (lv_room (Nat.le_of_ble_eq_true rfl)) dX11_voyage_10 ⟨(Nat.le_of_ble_eq_true rfl), (Nat.le_of_ble_eq_true rfl)⟩) hS (fun q _ h => hFc q h) hFc (fun r_11 u t H locs ht hvm w_10 hB hz1 hk1 hS => ?_)
    have hP := pu_keep hP hk1
    clear hk1 hz1 hvm hB ht hFc hPc hDc hKc
    have hbr_11 : 0 ≤ r_11.toInt ∧ r_11.toInt ≤ 1 := iv_of w_10 (isI_i _ _)
    refine lv_if_ne (tgt := 22) hx hb dX11_voyage_13 (by decide) (fun c_12 => ?_) (fun c_12 => ?_)
    · have dc_12 := c_ne (a := r_11.toInt) (b := 0) rfl (by decide) c_12
      have hi_13 := isI_t w_10 (fun q => c_12 (Int32.toInt_inj.mp q))
      have khi_13 : (10 : Int32).toInt = 10 := by decide
      refine lv_iconst (v := 0) hx hb dX11_voyage_22 (by decide) ?_
      refine lv_istore_n (lv' := [(3, .int 0), (0, .ref g0), (1, .int x1), (2, .int x2)]) hx hb dX11_voyage_23 rfl hl (by decide) rfl (fun ls hl => ?_)
      have cut_14 : ∀ (n : Nat) (y_15 : Int32) (z_16 : Nat → Int32) (fz_17 : Nat → Nat → Int32) (H : Heap) (locs : List Loc) (ls : Array Slot), 20 - y_15.toInt ≤ (n : Int) → (0 ≤ y_15.toInt ∧ y_15.toInt ≤ 20) → mV z_16 → mA fz_17 → z_16 38 = v 38 → va_P (dC, dI) vwCl (mW g0 pq cp z_16 fz_17) H → va_D A (mW g0 pq cp z_16 fz_17) → va_S A s.heap H locs → (z_16 40).toInt = (v 40).toInt → lv_has ls 4 [(3, .int y_15), (0, .ref g0), (1, .int x1), (2, .int x2)] → W p l e (headSpec wsX11_voyage { frames := 2, cells := 0, slots := 0, locals := 41 }).room s m #[Value.ref g0, Value.int x1, Value.int x2] below meth c H locs 0 0 (MQ below (va_Qi (fun (r : Int32) (u : (Nat → Int32) × (Nat → Nat → Int32)) => mV u.1 ∧ mA u.2 ∧ u.1 38 = v 38) (fun u t => va_P (dC, dI) vwCl (mW g0 pq cp u.1 u.2) t.heap ∧ va_K (dC, dI) vwCl (mT cp) t ∧ va_D A (mW g0 pq cp u.1 u.2)) A) #[Value.ref g0, Value.int x1, Value.int x2] s 0 0 A) (F0 m 24 ls []) := by
        intro n
        induction n using Nat.strongRecOn with
        | ind n ih =>
          intro y_15 z_16 fz_17 H locs ls hm hy_15 hVz_16 hAz_16 hRz_16 hP hD hS g_18 hl
          refine lv_iload_n hx hb dX11_voyage_24 rfl (lv_at hl 0 rfl) ?_
          refine lv_aload_n hx hb dX11_voyage_25 rfl (lv_at hl 1 rfl) ?_
          refine va_get (D := (dC, dI)) (ci := 11) (v := .int (z_16 40)) (C := RX11) (T := TX11) (N := 63) hx hb hts in_wsX11_voyage_X11 hown hK hP 0 rfl rfl 40 (by decide) (hts (.fieldLink RX11 165 "ShipOfficeModel" "voyages" "I") (by decide +kernel)) (fun _ h9 => h9) rfl dX11_voyage_26 ?_
          refine lv_topi (fun x_19 ex_19 => ?_)
          have hx_19 : 0 ≤ x_19.toInt ∧ x_19.toInt ≤ 20 := iv_of ex_19 (hVz_16 40)
          have gx_19 : x_19.toInt = (z_16 40).toInt := iv_to ex_19
          clear ex_19
          refine lv_icmp_ge (tgt := 64) hx hb dX11_voyage_29 (by decide) (fun c_20 => ?_) (fun c_20 => ?_)
          · have dc_20 := c_le (a := x_19.toInt) (b := y_15.toInt) rfl rfl c_20
            refine lv_aload_n hx hb dX11_voyage_64 rfl (lv_at hl 1 rfl) ?_
            refine va_get (D := (dC, dI)) (ci := 11) (v := .int (z_16 40)) (C := RX11) (T := TX11) (N := 63) hx hb hts in_wsX11_voyage_X11 hown hK hP 0 rfl rfl 40 (by decide) (hts (.fieldLink RX11 165 "ShipOfficeModel" "voyages" "I") (by decide +kernel)) (fun _ h9 => h9) rfl dX11_voyage_65 ?_
            refine lv_topi (fun x_21 ex_21 => ?_)
            have hx_21 : 0 ≤ x_21.toInt ∧ x_21.toInt ≤ 20 := iv_of ex_21 (hVz_16 40)
            have gx_21 : x_21.toInt = (z_16 40).toInt := iv_to ex_21
            clear ex_21
            refine lv_bipush (v := 20) hx hb dX11_voyage_68 (by decide) ?_
            refine lv_icmp_ne (tgt := 80) hx hb dX11_voyage_70 (by decide) (fun c_22 => ?_) (fun c_22 => ?_)
            · have dc_22 := c_ne (a := x_21.toInt) (b := 20) rfl (by decide) c_22
              refine lv_aload_n hx hb dX11_voyage_80 rfl (lv_at hl 1 rfl) ?_
              refine va_get (D := (dC, dI)) (ci := 11) (v := .ref (pq 6)) (C := RX11) (T := TX11) (N := 63) hx hb hts in_wsX11_voyage_X11 hown hK hP 0 rfl rfl 6 (by decide) (hts (.fieldLink RX11 28 "ShipOfficeModel" "ship" "[I") (by decide +kernel)) (fun _ h9 => h9) rfl dX11_voyage_81 ?_
              refine lv_aload_n hx hb dX11_voyage_84 rfl (lv_at hl 1 rfl) ?_
              refine va_get (D := (dC, dI)) (ci := 11) (v := .int (z_16 40)) (C := RX11) (T := TX11) (N := 63) hx hb hts in_wsX11_voyage_X11 hown hK hP 0 rfl rfl 40 (by decide) (hts (.fieldLink RX11 165 "ShipOfficeModel" "voyages" "I") (by decide +kernel)) (fun _ h9 => h9) rfl dX11_voyage_85 ?_
              refine lv_topi (fun x_23 ex_23 => ?_)
              have hx_23 : 0 ≤ x_23.toInt ∧ x_23.toInt ≤ 20 := iv_of ex_23 (hVz_16 40)
              have gx_23 : x_23.toInt = (z_16 40).toInt := iv_to ex_23
              clear ex_23
              refine lv_iload_n hx hb dX11_voyage_88 rfl (lv_at hl 2 rfl) ?_
              refine va_iast hx hb hK hP hD hS 7 6 rfl rfl (vp_in_iff.mpr (by omega)) dX11_voyage_89 (fun H locs hP hD hS => ?_)
              have hP : va_P (dC, dI) vwCl (mW g0 pq cp z_16 (upF fz_17 6 (x_23 : Int32).toNatClampNeg x1)) H := hP
              have hD : va_D A (mW g0 pq cp z_16 (upF fz_17 6 (x_23 : Int32).toNatClampNeg x1)) := hD
              obtain ⟨fz_24, efz_24⟩ : ∃ zq, zq = (upF fz_17 6 (x_23 : Int32).toNatClampNeg x1) := ⟨_, rfl⟩
              rw [← efz_24] at hP hD
              have hAfz_24 : mA fz_24 := by rw [efz_24]; exact mA_upF (lo := -2147483648) (hi := 2147483647) hAz_16 rfl rfl (iv_all _)
              refine lv_aload_n hx hb dX11_voyage_90 rfl (lv_at hl 1 rfl) ?_
              refine va_get (D := (dC, dI)) (ci := 11) (v := .ref (pq 7)) (C := RX11) (T := TX11) (N := 63) hx hb hts in_wsX11_voyage_X11 hown hK hP 0 rfl rfl 7 (by decide) (hts (.fieldLink RX11 31 "ShipOfficeModel" "opened" "[I") (by decide +kernel)) (fun _ h9 => h9) rfl dX11_voyage_91 ?_
              refine lv_aload_n hx hb dX11_voyage_94 rfl (lv_at hl 1 rfl) ?_
              refine va_get (D := (dC, dI)) (ci := 11) (v := .int (z_16 40)) (C := RX11) (T := TX11) (N := 63) hx hb hts in_wsX11_voyage_X11 hown hK hP 0 rfl rfl 40 (by decide) (hts (.fieldLink RX11 165 "ShipOfficeModel" "voyages" "I") (by decide +kernel)) (fun _ h9 => h9) rfl dX11_voyage_95 ?_
              refine lv_topi (fun x_25 ex_25 => ?_)
              have hx_25 : 0 ≤ x_25.toInt ∧ x_25.toInt ≤ 20 := iv_of ex_25 (hVz_16 40)
              have gx_25 : x_25.toInt = (z_16 40).toInt := iv_to ex_25
              clear ex_25
              refine lv_aload_n hx hb dX11_voyage_98 rfl (lv_at hl 1 rfl) ?_
              refine va_get (D := (dC, dI)) (ci := 11) (v := .int (z_16 38)) (C := RX11) (T := TX11) (N := 63) hx hb hts in_wsX11_voyage_X11 hown hK hP 0 rfl rfl 38 (by decide) (hts (.fieldLink RX11 171 "ShipOfficeModel" "now" "I") (by decide +kernel)) (fun _ h9 => h9) rfl dX11_voyage_99 ?_
              refine lv_topi (fun x_26 ex_26 => ?_)
              have hx_26 : 0 ≤ x_26.toInt ∧ x_26.toInt ≤ 3000 := iv_of ex_26 (hVz_16 38)
              clear ex_26
              refine va_iast hx hb hK hP hD hS 8 7 rfl rfl (vp_in_iff.mpr (by omega)) dX11_voyage_102 (fun H locs hP hD hS => ?_)
              have hP : va_P (dC, dI) vwCl (mW g0 pq cp z_16 (upF fz_24 7 (x_25 : Int32).toNatClampNeg x_26)) H := hP
              have hD : va_D A (mW g0 pq cp z_16 (upF fz_24 7 (x_25 : Int32).toNatClampNeg x_26)) := hD
              obtain ⟨fz_27, efz_27⟩ : ∃ zq, zq = (upF fz_24 7 (x_25 : Int32).toNatClampNeg x_26) := ⟨_, rfl⟩
              rw [← efz_27] at hP hD
              have hAfz_27 : mA fz_27 := by rw [efz_27]; exact mA_upF (lo := 0) (hi := 3000) hAfz_24 rfl rfl (by omega)
              refine lv_aload_n hx hb dX11_voyage_103 rfl (lv_at hl 1 rfl) ?_
              refine va_get (D := (dC, dI)) (ci := 11) (v := .ref (pq 8)) (C := RX11) (T := TX11) (N := 63) hx hb hts in_wsX11_voyage_X11 hown hK hP 0 rfl rfl 8 (by decide) (hts (.fieldLink RX11 34 "ShipOfficeModel" "openPort" "[I") (by decide +kernel)) (fun _ h9 => h9) rfl dX11_voyage_104 ?_
              refine lv_aload_n hx hb dX11_voyage_107 rfl (lv_at hl 1 rfl) ?_
              refine va_get (D := (dC, dI)) (ci := 11) (v := .int (z_16 40)) (C := RX11) (T := TX11) (N := 63) hx hb hts in_wsX11_voyage_X11 hown hK hP 0 rfl rfl 40 (by decide) (hts (.fieldLink RX11 165 "ShipOfficeModel" "voyages" "I") (by decide +kernel)) (fun _ h9 => h9) rfl dX11_voyage_108 ?_
              refine lv_topi (fun x_28 ex_28 => ?_)
              have hx_28 : 0 ≤ x_28.toInt ∧ x_28.toInt ≤ 20 := iv_of ex_28 (hVz_16 40)
              have gx_28 : x_28.toInt = (z_16 40).toInt := iv_to ex_28
              clear ex_28
              refine lv_iload_n hx hb dX11_voyage_111 rfl (lv_at hl 3 rfl) ?_
              refine va_iast hx hb hK hP hD hS 9 8 rfl rfl (vp_in_iff.mpr (by omega)) dX11_voyage_112 (fun H locs hP hD hS => ?_)
              have hP : va_P (dC, dI) vwCl (mW g0 pq cp z_16 (upF fz_27 8 (x_28 : Int32).toNatClampNeg x2)) H := hP
              have hD : va_D A (mW g0 pq cp z_16 (upF fz_27 8 (x_28 : Int32).toNatClampNeg x2)) := hD
              obtain ⟨fz_29, efz_29⟩ : ∃ zq, zq = (upF fz_27 8 (x_28 : Int32).toNatClampNeg x2) := ⟨_, rfl⟩
              rw [← efz_29] at hP hD
              have hAfz_29 : mA fz_29 := by rw [efz_29]; exact mA_upF (lo := 0) (hi := 9) hAfz_27 rfl rfl (by omega)
              refine lv_aload_n hx hb dX11_voyage_113 rfl (lv_at hl 1 rfl) ?_
              refine va_get (D := (dC, dI)) (ci := 11) (v := .ref (pq 9)) (C := RX11) (T := TX11) (N := 63) hx hb hts in_wsX11_voyage_X11 hown hK hP 0 rfl rfl 9 (by decide) (hts (.fieldLink RX11 37 "ShipOfficeModel" "endedOn" "[I") (by decide +kernel)) (fun _ h9 => h9) rfl dX11_voyage_114 ?_
              refine lv_aload_n hx hb dX11_voyage_117 rfl (lv_at hl 1 rfl) ?_
              refine va_get (D := (dC, dI)) (ci := 11) (v := .int (z_16 40)) (C := RX11) (T := TX11) (N := 63) hx hb hts in_wsX11_voyage_X11 hown hK hP 0 rfl rfl 40 (by decide) (hts (.fieldLink RX11 165 "ShipOfficeModel" "voyages" "I") (by decide +kernel)) (fun _ h9 => h9) rfl dX11_voyage_118 ?_
              refine lv_topi (fun x_30 ex_30 => ?_)
              have hx_30 : 0 ≤ x_30.toInt ∧ x_30.toInt ≤ 20 := iv_of ex_30 (hVz_16 40)
              have gx_30 : x_30.toInt = (z_16 40).toInt := iv_to ex_30
              clear ex_30
              refine lv_iconst (v := (-1)) hx hb dX11_voyage_121 (by decide) ?_
              refine va_iast hx hb hK hP hD hS 10 9 rfl rfl (vp_in_iff.mpr (by omega)) dX11_voyage_122 (fun H locs hP hD hS => ?_)
              have hP : va_P (dC, dI) vwCl (mW g0 pq cp z_16 (upF fz_29 9 (x_30 : Int32).toNatClampNeg (-1))) H := hP
              have hD : va_D A (mW g0 pq cp z_16 (upF fz_29 9 (x_30 : Int32).toNatClampNeg (-1))) := hD
              obtain ⟨fz_31, efz_31⟩ : ∃ zq, zq = (upF fz_29 9 (x_30 : Int32).toNatClampNeg (-1)) := ⟨_, rfl⟩
              rw [← efz_31] at hP hD
              have hAfz_31 : mA fz_31 := by rw [efz_31]; exact mA_upF (lo := -2147483648) (hi := 2147483647) hAfz_29 rfl rfl (iv_all _)
              refine lv_aload_n hx hb dX11_voyage_123 rfl (lv_at hl 1 rfl) ?_
              refine lv_dup hx hb dX11_voyage_124 rfl ?_
              refine va_get (D := (dC, dI)) (ci := 11) (v := .int (z_16 40)) (C := RX11) (T := TX11) (N := 63) hx hb hts in_wsX11_voyage_X11 hown hK hP 0 rfl rfl 40 (by decide) (hts (.fieldLink RX11 165 "ShipOfficeModel" "voyages" "I") (by decide +kernel)) (fun _ h9 => h9) rfl dX11_voyage_125 ?_
              refine lv_topi (fun x_32 ex_32 => ?_)
              have hx_32 : 0 ≤ x_32.toInt ∧ x_32.toInt ≤ 20 := iv_of ex_32 (hVz_16 40)
              have gx_32 : x_32.toInt = (z_16 40).toInt := iv_to ex_32
              clear ex_32
              refine lv_iconst (v := 1) hx hb dX11_voyage_128 (by decide) ?_
              refine lv_iadd hx hb dX11_voyage_129 ?_
              refine lv_topi (fun x_33 ex_33 => ?_)
              have hx_33 : x_33.toInt = x_32.toInt + 1 := (iv_to ex_33).trans (ad_i rfl (by decide) (by omega) (by omega))
              clear ex_33
              refine va_put (D := (dC, dI)) (ci := 11) (v := .int x_33) (ty := .int) (C := RX11) (T := TX11) (N := 63) hx hb hts in_wsX11_voyage_X11 tyX11 tyX11_ok nmX11 hown hK hP hD hS 0 rfl rfl 40 (by decide) (hts (.fieldLink RX11 165 "ShipOfficeModel" "voyages" "I") (by decide +kernel)) (fun _ h9 => h9) rfl (by decide +kernel) rfl rfl (Nat.le_of_ble_eq_true rfl) dX11_voyage_130 (fun H locs hP hD hS => ?_)
              have hP : va_P (dC, dI) vwCl (mW g0 pq cp (upd z_16 40 x_33) fz_31) H := hP
              have hD : va_D A (mW g0 pq cp (upd z_16 40 x_33) fz_31) := hD
              obtain ⟨z_34, ez_34⟩ : ∃ zq, zq = (upd z_16 40 x_33) := ⟨_, rfl⟩
              rw [← ez_34] at hP hD
              have hVz_34 : mV z_34 := by rw [ez_34]; exact mV_upd (lo := 0) (hi := 20) hVz_16 rfl rfl (by omega)
              have hRz_34 : z_34 38 = v 38 := by rw [ez_34]; exact (if_neg (by decide)).trans hRz_16
              have g_35 : (z_34 40).toInt = x_33.toInt := by rw [ez_34, show upd z_16 40 x_33 40 = x_33 from if_pos rfl]
              refine lv_aload_n hx hb dX11_voyage_133 rfl (lv_at hl 1 rfl) ?_
              refine va_get (D := (dC, dI)) (ci := 11) (v := .int (z_34 40)) (C := RX11) (T := TX11) (N := 63) hx hb hts in_wsX11_voyage_X11 hown hK hP 0 rfl rfl 40 (by decide) (hts (.fieldLink RX11 165 "ShipOfficeModel" "voyages" "I") (by decide +kernel)) (fun _ h9 => h9) rfl dX11_voyage_134 ?_
              refine lv_topi (fun x_36 ex_36 => ?_)
              have hx_36 : 0 ≤ x_36.toInt ∧ x_36.toInt ≤ 20 := iv_of ex_36 (hVz_34 40)
              have gx_36 : x_36.toInt = (z_34 40).toInt := iv_to ex_36
              clear ex_36
              refine lv_iconst (v := 1) hx hb dX11_voyage_137 (by decide) ?_
              refine lv_isub hx hb dX11_voyage_138 ?_
              refine lv_topi (fun x_37 ex_37 => ?_)
              have hx_37 : x_37.toInt = x_36.toInt - 1 := (iv_to ex_37).trans (sb_i rfl (by decide) (by omega) (by omega))
              clear ex_37
              exact W.iret (v := x_37) hx hb hr (fun t ht hW => ⟨⟨x_37, (z_34, fz_31), rfl, ⟨hVz_34, hAfz_31, hRz_34⟩, ⟨by rw [ht]; exact hP, va_K.moved hW.alike hK, hD⟩⟩, hS.F ht⟩) hS.2.2 dX11_voyage_139
            · have dc_22 := c_eq (a := x_21.toInt) (b := 20) rfl (by decide) c_22
              refine lv_aload_n hx hb dX11_voyage_73 rfl (lv_at hl 1 rfl) ?_
              refine lv_bipush (v := (-6)) hx hb dX11_voyage_74 (by decide) ?_
              have hFc := va_free (wc := (mW g0 pq cp z_16 fz_17)) hD hS hA (List.range 48) rfl
              refine va_calli (va_runV (As := [.int (-6)]) (rest := []) ⟨hx, hb, hml, hown, hts⟩ (c_X11_refuse l dC dI H.size g0 pq cp z_16 fz_17 (-6) (by unfold vp_in; decide)) (cwV 1 hts gX11_voyage_X11_refuse rfl rfl rfl (by decide +kernel) ⟨(Nat.le_of_ble_eq_true rfl), (Nat.le_of_ble_eq_true rfl)⟩) (pr_V (r := (RX11, TX11, 63)) hP hK hD 0 11 rfl rfl) rfl rfl hl.1 rfl (lv_room (Nat.le_of_ble_eq_true rfl)) dX11_voyage_76 ⟨(Nat.le_of_ble_eq_true rfl), (Nat.le_of_ble_eq_true rfl)⟩) hS (fun q _ h => hFc q h) hFc (fun r_39 u t H locs ht hvm w_38 hB hz1 hk1 hS => ?_)
              obtain ⟨v_40, fa_41⟩ := u
              obtain ⟨hP1, hK1, hD1⟩ := hB
              rw [ht] at hP1
              have hP : va_P (dC, dI) vwCl (mW g0 pq cp v_40 fa_41) H := hP1
              have hD : va_D A (mW g0 pq cp v_40 fa_41) := hD1.weaken (fun _ _ _ h => hFc _ h)
              clear hP1 hK1 hD1 hk1 hz1 hvm ht hFc
              obtain ⟨rfl, w_38⟩ := w_38
              have hVv_40 : mV v_40 := sm0_V w_38 hVz_16
              have hAv_40 : mA fa_41 := sm0_A w_38 hAz_16
              have g_42 : (v_40 40).toInt = (z_16 40).toInt := congrArg Int32.toInt (congrFun w_38.1 40)
              have hRv_40 : v_40 38 = v 38 := (congrFun w_38.1 38).trans hRz_16
              exact W.iret (v := (-6)) hx hb hr (fun t ht hW => ⟨⟨(-6), (v_40, fa_41), rfl, ⟨hVv_40, hAv_40, hRv_40⟩, ⟨by rw [ht]; exact hP, va_K.moved hW.alike hK, hD⟩⟩, hS.F ht⟩) hS.2.2 dX11_voyage_79
          · have dc_20 := c_nle (a := x_19.toInt) (b := y_15.toInt) rfl rfl c_20
            refine lv_aload_n hx hb dX11_voyage_32 rfl (lv_at hl 1 rfl) ?_
            refine va_get (D := (dC, dI)) (ci := 11) (v := .ref (pq 6)) (C := RX11) (T := TX11) (N := 63) hx hb hts in_wsX11_voyage_X11 hown hK hP 0 rfl rfl 6 (by decide) (hts (.fieldLink RX11 28 "ShipOfficeModel" "ship" "[I") (by decide +kernel)) (fun _ h9 => h9) rfl dX11_voyage_33 ?_
            refine lv_iload_n hx hb dX11_voyage_36 rfl (lv_at hl 0 rfl) ?_
            refine va_iald hx hb hK hP 7 6 rfl rfl (vp_in_iff.mpr (by omega)) dX11_voyage_37 ?_
            refine lv_topi (fun x_43 ex_43 => ?_)
            clear ex_43
            refine lv_iload_n hx hb dX11_voyage_38 rfl (lv_at hl 2 rfl) ?_
            refine lv_icmp_ne (tgt := 58) hx hb dX11_voyage_39 (by decide) (fun c_44 => ?_) (fun c_44 => ?_)
            · have dc_44 := c_ne (a := x_43.toInt) (b := x1.toInt) rfl rfl c_44
              obtain ⟨x_45, ex_45⟩ : ∃ zq : Int32, y_15 + 1 = zq := ⟨_, rfl⟩
              have hx_45 : x_45.toInt = y_15.toInt + 1 := (iv_to ex_45).symm.trans (ad_i rfl (by decide) (by omega) (by omega))
              refine lv_iinc (v := x_45) (lv' := [(3, .int x_45), (0, .ref g0), (1, .int x1), (2, .int x2)]) hx hb dX11_voyage_58 hl (k := 0) rfl ex_45 (by decide) rfl (fun ls hl => ?_)
              clear ex_45
              refine lv_goto (tgt := 24) hx hb dX11_voyage_61 (by decide) ?_
              exact ih (n - 1) (by omega) x_45 z_16 fz_17 _ _ ls (by omega) (by omega) hVz_16 hAz_16 hRz_16 hP hD hS (by omega) (lv_sub hl [0, 1, 2, 3] rfl)
            · have dc_44 := c_eq (a := x_43.toInt) (b := x1.toInt) rfl rfl c_44
              refine lv_aload_n hx hb dX11_voyage_42 rfl (lv_at hl 1 rfl) ?_
              refine va_get (D := (dC, dI)) (ci := 11) (v := .ref (pq 9)) (C := RX11) (T := TX11) (N := 63) hx hb hts in_wsX11_voyage_X11 hown hK hP 0 rfl rfl 9 (by decide) (hts (.fieldLink RX11 37 "ShipOfficeModel" "endedOn" "[I") (by decide +kernel)) (fun _ h9 => h9) rfl dX11_voyage_43 ?_
              refine lv_iload_n hx hb dX11_voyage_46 rfl (lv_at hl 0 rfl) ?_
              refine va_iald hx hb hK hP 10 9 rfl rfl (vp_in_iff.mpr (by omega)) dX11_voyage_47 ?_
              refine lv_topi (fun x_46 ex_46 => ?_)
              clear ex_46
              refine lv_if_ge (tgt := 58) hx hb dX11_voyage_48 (by decide) (fun c_47 => ?_) (fun c_47 => ?_)
              · have dc_47 := c_le (a := 0) (b := x_46.toInt) (by decide) rfl c_47
                obtain ⟨x_48, ex_48⟩ : ∃ zq : Int32, y_15 + 1 = zq := ⟨_, rfl⟩
                have hx_48 : x_48.toInt = y_15.toInt + 1 := (iv_to ex_48).symm.trans (ad_i rfl (by decide) (by omega) (by omega))
                refine lv_iinc (v := x_48) (lv' := [(3, .int x_48), (0, .ref g0), (1, .int x1), (2, .int x2)]) hx hb dX11_voyage_58 hl (k := 0) rfl ex_48 (by decide) rfl (fun ls hl => ?_)
                clear ex_48
                refine lv_goto (tgt := 24) hx hb dX11_voyage_61 (by decide) ?_
                exact ih (n - 1) (by omega) x_48 z_16 fz_17 _ _ ls (by omega) (by omega) hVz_16 hAz_16 hRz_16 hP hD hS (by omega) (lv_sub hl [0, 1, 2, 3] rfl)
              · have dc_47 := c_nle (a := 0) (b := x_46.toInt) (by decide) rfl c_47
                refine lv_aload_n hx hb dX11_voyage_51 rfl (lv_at hl 1 rfl) ?_
                refine lv_bipush (v := (-3)) hx hb dX11_voyage_52 (by decide) ?_
                have hFc := va_free (wc := (mW g0 pq cp z_16 fz_17)) hD hS hA (List.range 48) rfl
                refine va_calli (va_runV (As := [.int (-3)]) (rest := []) ⟨hx, hb, hml, hown, hts⟩ (c_X11_refuse l dC dI H.size g0 pq cp z_16 fz_17 (-3) (by unfold vp_in; decide)) (cwV 1 hts gX11_voyage_X11_refuse rfl rfl rfl (by decide +kernel) ⟨(Nat.le_of_ble_eq_true rfl), (Nat.le_of_ble_eq_true rfl)⟩) (pr_V (r := (RX11, TX11, 63)) hP hK hD 0 11 rfl rfl) rfl rfl hl.1 rfl (lv_room (Nat.le_of_ble_eq_true rfl)) dX11_voyage_54 ⟨(Nat.le_of_ble_eq_true rfl), (Nat.le_of_ble_eq_true rfl)⟩) hS (fun q _ h => hFc q h) hFc (fun r_50 u t H locs ht hvm w_49 hB hz1 hk1 hS => ?_)
                obtain ⟨v_51, fa_52⟩ := u
                obtain ⟨hP1, hK1, hD1⟩ := hB
                rw [ht] at hP1
                have hP : va_P (dC, dI) vwCl (mW g0 pq cp v_51 fa_52) H := hP1
                have hD : va_D A (mW g0 pq cp v_51 fa_52) := hD1.weaken (fun _ _ _ h => hFc _ h)
                clear hP1 hK1 hD1 hk1 hz1 hvm ht hFc
                obtain ⟨rfl, w_49⟩ := w_49
                have hVv_51 : mV v_51 := sm0_V w_49 hVz_16
                have hAv_51 : mA fa_52 := sm0_A w_49 hAz_16
                have g_53 : (v_51 40).toInt = (z_16 40).toInt := congrArg Int32.toInt (congrFun w_49.1 40)
                have hRv_51 : v_51 38 = v 38 := (congrFun w_49.1 38).trans hRz_16
                exact W.iret (v := (-3)) hx hb hr (fun t ht hW => ⟨⟨(-3), (v_51, fa_52), rfl, ⟨hVv_51, hAv_51, hRv_51⟩, ⟨by rw [ht]; exact hP, va_K.moved hW.alike hK, hD⟩⟩, hS.F ht⟩) hS.2.2 dX11_voyage_57
      have kc_54 : (0 : Int32).toInt = 0 := by decide
      exact cut_14 21 0 v fa _ _ ls (by omega) (by decide) gV gA rfl hP hD hS (by omega) (lv_sub hl [0, 1, 2, 3] rfl)
    · have dc_12 := c_eq (a := r_11.toInt) (b := 0) rfl (by decide) c_12
      refine lv_aload_n hx hb dX11_voyage_16 rfl (lv_at hl 0 rfl) ?_
      refine lv_iconst (v := (-1)) hx hb dX11_voyage_17 (by decide) ?_
      have hFc := va_free (wc := (mW g0 pq cp v fa)) hD hS hA (List.range 48) rfl
      refine va_calli (va_runV (As := [.int (-1)]) (rest := []) ⟨hx, hb, hml, hown, hts⟩ (c_X11_refuse l dC dI H.size g0 pq cp v fa (-1) (by unfold vp_in; decide)) (cwV 1 hts gX11_voyage_X11_refuse rfl rfl rfl (by decide +kernel) ⟨(Nat.le_of_ble_eq_true rfl), (Nat.le_of_ble_eq_true rfl)⟩) (pr_V (r := (RX11, TX11, 63)) hP hK hD 0 11 rfl rfl) rfl rfl hl.1 rfl (lv_room (Nat.le_of_ble_eq_true rfl)) dX11_voyage_18 ⟨(Nat.le_of_ble_eq_true rfl), (Nat.le_of_ble_eq_true rfl)⟩) hS (fun q _ h => hFc q h) hFc (fun r_56 u t H locs ht hvm w_55 hB hz1 hk1 hS => ?_)
      obtain ⟨v_57, fa_58⟩ := u
      obtain ⟨hP1, hK1, hD1⟩ := hB
      rw [ht] at hP1
      have hP : va_P (dC, dI) vwCl (mW g0 pq cp v_57 fa_58) H := hP1
      have hD : va_D A (mW g0 pq cp v_57 fa_58) := hD1.weaken (fun _ _ _ h => hFc _ h)
      clear hP1 hK1 hD1 hk1 hz1 hvm ht hFc
      obtain ⟨rfl, w_55⟩ := w_55
      have hVv_57 : mV v_57 := sm0_V w_55 gV
      have hAv_57 : mA fa_58 := sm0_A w_55 gA
      have g_59 : (v_57 40).toInt = (v 40).toInt := congrArg Int32.toInt (congrFun w_55.1 40)
      have hRv_57 : v_57 38 = v 38 := (congrFun w_55.1 38).trans rfl
      exact W.iret (v := (-1)) hx hb hr (fun t ht hW => ⟨⟨(-1), (v_57, fa_58), rfl, ⟨hVv_57, hAv_57, hRv_57⟩, ⟨by rw [ht]; exact hP, va_K.moved hW.alike hK, hD⟩⟩, hS.F ht⟩) hS.2.2 dX11_voyage_21
set_option maxHeartbeats 4000000 in
set_option maxRecDepth 100000 in
theorem c_X11_ended (l : Launch) (dC : Nat → ClassId) (dI : Nat → Nat → Nat) (sz : Nat) (g0 : Nat) (pq : Nat → Nat) (cp : Nat → ClassId) (v : Nat → Int32) (fa : Nat → Nat → Int32) (gV : mV v) (gA : mA fa) (x1 : Int32) (x2 : Int32) : Met l yX11_ended wsX11_ended ({ frames := 2, cells := 0, slots := 0, locals := 44 }) (va_Pc [.ref g0, .int x1, .int x2] (pcW (dC, dI) (mT cp) (mW g0 pq cp v fa) sz)) (va_Qi (fun (r : Int32) (u : (Nat → Int32) × (Nat → Nat → Int32)) => mV u.1 ∧ mA u.2 ∧ u.1 38 = v 38) (fun u t => va_P (dC, dI) vwCl (mW g0 pq cp u.1 u.2) t.heap ∧ va_K (dC, dI) vwCl (mT cp) t ∧ va_D (va_A (mW g0 pq cp v fa) sz) (mW g0 pq cp u.1 u.2)) (va_A (mW g0 pq cp v fa) sz)) 0 0 (va_A (mW g0 pq cp v fa) sz) := by
  refine Met.ofW (cc := cX11_ended) (maxL := 5) (ret := (some .int)) (by decide) rfl ?_
  intro p e s m args below meth c s₁ B hml hv
  obtain ⟨rfl, hsz, hP, hK, hD0⟩ := hv
  have hx := B.exec
  have hb := B.bytes
  have hr := B.returns
  have hts := atoms_spec (ws := wsX11_ended) B.pre
  have hown : s.vm.findClass RX11 = some m.cls := findClass_of_methodNamed B.named
  have hlocks := B.notSynchronized
  subst hsz
  have hD := hD0.self (sz := s.heap.size)
  generalize hAe : va_A (mW g0 pq cp v fa) s.heap.size = A at hD ⊢
  have hA : ∀ q : Nat, s.heap.size ≤ q → A q := fun q h => by rw [← hAe]; exact Or.inr h
  have hS : va_S A s.heap s.heap [] := va_S.rf
  have hP : va_P (dC, dI) vwCl (mW g0 pq cp v fa) s.heap := hP
  have hl := lv_entry ([.ref g0, .int x1, .int x2]) (n := 5) (Nat.le_of_ble_eq_true rfl)
  rw [lg_entry_eq]
  generalize (lg_sl ([.ref g0, .int x1, .int x2]) ++ List.replicate (5 - (lg_sl ([.ref g0, .int x1, .int x2])).length) Slot.unset).toArray = ls at hl ⊢
  have hl : lv_has ls 5 [(0, .ref g0), (1, .int x1), (2, .int x2)] := hl
  refine lv_aload_n hx hb dX11_ended_0 rfl (lv_at hl 0 rfl) ?_
  refine lv_iload_n hx hb dX11_ended_1 rfl (lv_at hl 1 rfl) ?_
  have hFc : ∀ q, va_A [] s.heap.size q → A q := pu_free hS hA
  refine va_calli (va_runV (As := [.int x1]) (rest := []) ⟨hx, hb, hml, hown, hts⟩ (c_X11_isVoyage l dC dI s.heap.size g0 pq cp v fa x1) (cwV 1 hts gX11_ended_X11_isVoyage rfl rfl rfl (by decide +kernel) ⟨(Nat.le_of_ble_eq_true rfl), (Nat.le_of_ble_eq_true rfl)⟩) (pr_V (r := (RX11, TX11, 63)) hP hK hD 0 11 rfl rfl) rfl rfl hl.1 rfl (lv_room (Nat.le_of_ble_eq_true rfl)) dX11_ended_2 ⟨(Nat.le_of_ble_eq_true rfl), (Nat.le_of_ble_eq_true rfl)⟩) hS (fun q _ h => hFc q h) hFc (fun r_2 u t H locs ht hvm w_1 hB hz1 hk1 hS => ?_)
  have hP := pu_keep hP hk1
  clear hk1 hz1 hvm hB ht hFc
  have hbr_2 : 0 ≤ r_2.toInt ∧ r_2.toInt ≤ 1 := iv_of w_1 (isI_i _ _)
  refine lv_if_eq (tgt := 15) hx hb dX11_ended_5 (by decide) (fun c_3 => ?_) (fun c_3 => ?_)
  · have dc_3 := c_eq (a := r_2.toInt) (b := 0) rfl (by decide) c_3
    refine lv_aload_n hx hb dX11_ended_15 rfl (lv_at hl 0 rfl) ?_
    refine lv_iconst (v := (-1)) hx hb dX11_ended_16 (by decide) ?_
    have hFc := va_free (wc := (mW g0 pq cp v fa)) hD hS hA (List.range 48) rfl
    refine va_calli (va_runV (As := [.int (-1)]) (rest := []) ⟨hx, hb, hml, hown, hts⟩ (c_X11_refuse l dC dI H.size g0 pq cp v fa (-1) (by unfold vp_in; decide)) (cwV 1 hts gX11_ended_X11_refuse rfl rfl rfl (by decide +kernel) ⟨(Nat.le_of_ble_eq_true rfl), (Nat.le_of_ble_eq_true rfl)⟩) (pr_V (r := (RX11, TX11, 63)) hP hK hD 0 11 rfl rfl) rfl rfl hl.1 rfl (lv_room (Nat.le_of_ble_eq_true rfl)) dX11_ended_17 ⟨(Nat.le_of_ble_eq_true rfl), (Nat.le_of_ble_eq_true rfl)⟩) hS (fun q _ h => hFc q h) hFc (fun r_5 u t H locs ht hvm w_4 hB hz1 hk1 hS => ?_)
    obtain ⟨v_6, fa_7⟩ := u
    obtain ⟨hP1, hK1, hD1⟩ := hB
    rw [ht] at hP1
    have hP : va_P (dC, dI) vwCl (mW g0 pq cp v_6 fa_7) H := hP1
    have hD : va_D A (mW g0 pq cp v_6 fa_7) := hD1.weaken (fun _ _ _ h => hFc _ h)
    clear hP1 hK1 hD1 hk1 hz1 hvm ht hFc
    obtain ⟨rfl, w_4⟩ := w_4
    have hVv_6 : mV v_6 := sm0_V w_4 gV
    have hAv_6 : mA fa_7 := sm0_A w_4 gA
    have hRv_6 : v_6 38 = v 38 := (congrFun w_4.1 38).trans rfl
    exact W.iret (v := (-1)) hx hb hr (fun t ht hW => ⟨⟨(-1), (v_6, fa_7), rfl, ⟨hVv_6, hAv_6, hRv_6⟩, ⟨by rw [ht]; exact hP, va_K.moved hW.alike hK, hD⟩⟩, hS.F ht⟩) hS.2.2 dX11_ended_20
  · have dc_3 := c_ne (a := r_2.toInt) (b := 0) rfl (by decide) c_3
    have hi_8 := isI_t w_1 (fun q => c_3 (Int32.toInt_inj.mp q))
    have khi_8 : (v 40).toInt ≤ 20 := (gV 40).2
    refine lv_iload_n hx hb dX11_ended_8 rfl (lv_at hl 2 rfl) ?_
    have hFc : ∀ q, va_A [] H.size q → A q := pu_free hS hA
    have hPc := hP.sub (ws' := []) [] rfl
    have hDc := hD.sub (ws' := []) [] (by decide) rfl
    have hKc := hK.sub (tys' := []) [] rfl
    refine va_calli (va_runS (As := [.int x2]) (rest := []) ⟨hx, hb, hml, hown, hts⟩ (c_X11_isPort l dC dI H.size x2) (va_cwS 1 hts gX11_ended_X11_isPort rfl rfl rfl (by decide +kernel) ⟨(Nat.le_of_ble_eq_true rfl), (Nat.le_of_ble_eq_true rfl)⟩) (pr_S hPc hKc hDc) rfl rfl hl.1 rfl (lv_room (Nat.le_of_ble_eq_true rfl)) dX11_ended_9 ⟨(Nat.le_of_ble_eq_true rfl), (Nat.le_of_ble_eq_true rfl)⟩) hS (fun q _ h => hFc q h) hFc (fun r_10 u t H locs ht hvm w_9 hB hz1 hk1 hS => ?_)
    have hP := pu_keep hP hk1
    clear hk1 hz1 hvm hB ht hFc hPc hDc hKc
    have hbr_10 : 0 ≤ r_10.toInt ∧ r_10.toInt ≤ 1 := iv_of w_9 (isI_i _ _)
    refine lv_if_ne (tgt := 21) hx hb dX11_ended_12 (by decide) (fun c_11 => ?_) (fun c_11 => ?_)
    · have dc_11 := c_ne (a := r_10.toInt) (b := 0) rfl (by decide) c_11
      have hi_12 := isI_t w_9 (fun q => c_11 (Int32.toInt_inj.mp q))
      have khi_12 : (10 : Int32).toInt = 10 := by decide
      refine lv_aload_n hx hb dX11_ended_21 rfl (lv_at hl 0 rfl) ?_
      refine va_get (D := (dC, dI)) (ci := 11) (v := .ref (pq 9)) (C := RX11) (T := TX11) (N := 63) hx hb hts in_wsX11_ended_X11 hown hK hP 0 rfl rfl 9 (by decide) (hts (.fieldLink RX11 37 "ShipOfficeModel" "endedOn" "[I") (by decide +kernel)) (fun _ h9 => h9) rfl dX11_ended_22 ?_
      refine lv_iload_n hx hb dX11_ended_25 rfl (lv_at hl 1 rfl) ?_
      refine va_iald hx hb hK hP 10 9 rfl rfl (vp_in_iff.mpr (by omega)) dX11_ended_26 ?_
      refine lv_topi (fun x_13 ex_13 => ?_)
      clear ex_13
      refine lv_if_ge (tgt := 39) hx hb dX11_ended_27 (by decide) (fun c_14 => ?_) (fun c_14 => ?_)
      · have dc_14 := c_le (a := 0) (b := x_13.toInt) (by decide) rfl c_14
        refine lv_aload_n hx hb dX11_ended_39 rfl (lv_at hl 0 rfl) ?_
        refine lv_bipush (v := (-3)) hx hb dX11_ended_40 (by decide) ?_
        have hFc := va_free (wc := (mW g0 pq cp v fa)) hD hS hA (List.range 48) rfl
        refine va_calli (va_runV (As := [.int (-3)]) (rest := []) ⟨hx, hb, hml, hown, hts⟩ (c_X11_refuse l dC dI H.size g0 pq cp v fa (-3) (by unfold vp_in; decide)) (cwV 1 hts gX11_ended_X11_refuse rfl rfl rfl (by decide +kernel) ⟨(Nat.le_of_ble_eq_true rfl), (Nat.le_of_ble_eq_true rfl)⟩) (pr_V (r := (RX11, TX11, 63)) hP hK hD 0 11 rfl rfl) rfl rfl hl.1 rfl (lv_room (Nat.le_of_ble_eq_true rfl)) dX11_ended_42 ⟨(Nat.le_of_ble_eq_true rfl), (Nat.le_of_ble_eq_true rfl)⟩) hS (fun q _ h => hFc q h) hFc (fun r_16 u t H locs ht hvm w_15 hB hz1 hk1 hS => ?_)
        obtain ⟨v_17, fa_18⟩ := u
        obtain ⟨hP1, hK1, hD1⟩ := hB
        rw [ht] at hP1
        have hP : va_P (dC, dI) vwCl (mW g0 pq cp v_17 fa_18) H := hP1
        have hD : va_D A (mW g0 pq cp v_17 fa_18) := hD1.weaken (fun _ _ _ h => hFc _ h)
        clear hP1 hK1 hD1 hk1 hz1 hvm ht hFc
        obtain ⟨rfl, w_15⟩ := w_15
        have hVv_17 : mV v_17 := sm0_V w_15 gV
        have hAv_17 : mA fa_18 := sm0_A w_15 gA
        have hRv_17 : v_17 38 = v 38 := (congrFun w_15.1 38).trans rfl
        exact W.iret (v := (-3)) hx hb hr (fun t ht hW => ⟨⟨(-3), (v_17, fa_18), rfl, ⟨hVv_17, hAv_17, hRv_17⟩, ⟨by rw [ht]; exact hP, va_K.moved hW.alike hK, hD⟩⟩, hS.F ht⟩) hS.2.2 dX11_ended_45
      · have dc_14 := c_nle (a := 0) (b := x_13.toInt) (by decide) rfl c_14
        refine lv_aload_n hx hb dX11_ended_30 rfl (lv_at hl 0 rfl) ?_
        refine lv_iconst (v := 2) hx hb dX11_ended_31 (by decide) ?_
        refine lv_iload_n hx hb dX11_ended_32 rfl (lv_at hl 1 rfl) ?_
        have hFc : ∀ q, va_A [] H.size q → A q := pu_free hS hA
        refine va_calli (va_runV (As := [.int 2, .int x1]) (rest := []) ⟨hx, hb, hml, hown, hts⟩ (c_X11_wasTold l dC dI H.size g0 pq cp v fa (v 41).toNatClampNeg (cn_le (n := 200) (gV 41)) (cn_eq (n := 200) (gV 41)) 2 x1) (cwV 2 hts gX11_ended_X11_wasTold rfl rfl rfl (by decide +kernel) ⟨(Nat.le_of_ble_eq_true rfl), (Nat.le_of_ble_eq_true rfl)⟩) (pr_V (r := (RX11, TX11, 63)) hP hK hD 0 11 rfl rfl) rfl rfl hl.1 rfl (lv_room (Nat.le_of_ble_eq_true rfl)) dX11_ended_33 ⟨(Nat.le_of_ble_eq_true rfl), (Nat.le_of_ble_eq_true rfl)⟩) hS (fun q _ h => hFc q h) hFc (fun r_20 u t H locs ht hvm w_19 hB hz1 hk1 hS => ?_)
        have hP := pu_keep hP hk1
        clear hk1 hz1 hvm hB ht hFc
        have hb_21 : 0 ≤ r_20.toInt ∧ r_20.toInt ≤ 1 := z1_i w_19
        refine lv_if_eq (tgt := 46) hx hb dX11_ended_36 (by decide) (fun c_22 => ?_) (fun c_22 => ?_)
        · have dc_22 := c_eq (a := r_20.toInt) (b := 0) rfl (by decide) c_22
          refine lv_iconst (v := 0) hx hb dX11_ended_46 (by decide) ?_
          refine lv_istore_n (lv' := [(3, .int 0), (0, .ref g0), (1, .int x1), (2, .int x2)]) hx hb dX11_ended_47 rfl hl (by decide) rfl (fun ls hl => ?_)
          refine lv_iconst (v := 0) hx hb dX11_ended_48 (by decide) ?_
          refine lv_istore (lv' := [(4, .int 0), (3, .int 0), (0, .ref g0), (1, .int x1), (2, .int x2)]) hx hb dX11_ended_49 hl (by decide) rfl (fun ls hl => ?_)
          have cut_23 : ∀ (n : Nat) (y_24 : Int32) (y_25 : Int32) (z_26 : Nat → Int32) (fz_27 : Nat → Nat → Int32) (H : Heap) (locs : List Loc) (ls : Array Slot), 60 - y_24.toInt ≤ (n : Int) → (0 ≤ y_24.toInt ∧ y_24.toInt ≤ 60) → mV z_26 → mA fz_27 → z_26 38 = v 38 → va_P (dC, dI) vwCl (mW g0 pq cp z_26 fz_27) H → va_D A (mW g0 pq cp z_26 fz_27) → va_S A s.heap H locs → lv_has ls 5 [(4, .int y_24), (3, .int y_25), (0, .ref g0), (1, .int x1), (2, .int x2)] → W p l e (headSpec wsX11_ended { frames := 2, cells := 0, slots := 0, locals := 44 }).room s m #[Value.ref g0, Value.int x1, Value.int x2] below meth c H locs 0 0 (MQ below (va_Qi (fun (r : Int32) (u : (Nat → Int32) × (Nat → Nat → Int32)) => mV u.1 ∧ mA u.2 ∧ u.1 38 = v 38) (fun u t => va_P (dC, dI) vwCl (mW g0 pq cp u.1 u.2) t.heap ∧ va_K (dC, dI) vwCl (mT cp) t ∧ va_D A (mW g0 pq cp u.1 u.2)) A) #[Value.ref g0, Value.int x1, Value.int x2] s 0 0 A) (F0 m 51 ls []) := by
            intro n
            induction n using Nat.strongRecOn with
            | ind n ih =>
              intro y_24 y_25 z_26 fz_27 H locs ls hm hy_24 hVz_26 hAz_26 hRz_26 hP hD hS hl
              refine lv_iload hx hb dX11_ended_51 (lv_at hl 0 rfl) ?_
              refine lv_aload_n hx hb dX11_ended_53 rfl (lv_at hl 2 rfl) ?_
              refine va_get (D := (dC, dI)) (ci := 11) (v := .int (z_26 43)) (C := RX11) (T := TX11) (N := 63) hx hb hts in_wsX11_ended_X11 hown hK hP 0 rfl rfl 43 (by decide) (hts (.fieldLink RX11 168 "ShipOfficeModel" "agreements" "I") (by decide +kernel)) (fun _ h9 => h9) rfl dX11_ended_54 ?_
              refine lv_topi (fun x_28 ex_28 => ?_)
              have hx_28 : 0 ≤ x_28.toInt ∧ x_28.toInt ≤ 60 := iv_of ex_28 (hVz_26 43)
              clear ex_28
              refine lv_icmp_ge (tgt := 103) hx hb dX11_ended_57 (by decide) (fun c_29 => ?_) (fun c_29 => ?_)
              · have dc_29 := c_le (a := x_28.toInt) (b := y_24.toInt) rfl rfl c_29
                refine lv_aload_n hx hb dX11_ended_103 rfl (lv_at hl 2 rfl) ?_
                refine va_get (D := (dC, dI)) (ci := 11) (v := .ref (pq 9)) (C := RX11) (T := TX11) (N := 63) hx hb hts in_wsX11_ended_X11 hown hK hP 0 rfl rfl 9 (by decide) (hts (.fieldLink RX11 37 "ShipOfficeModel" "endedOn" "[I") (by decide +kernel)) (fun _ h9 => h9) rfl dX11_ended_104 ?_
                refine lv_iload_n hx hb dX11_ended_107 rfl (lv_at hl 3 rfl) ?_
                refine lv_aload_n hx hb dX11_ended_108 rfl (lv_at hl 2 rfl) ?_
                refine va_get (D := (dC, dI)) (ci := 11) (v := .int (z_26 38)) (C := RX11) (T := TX11) (N := 63) hx hb hts in_wsX11_ended_X11 hown hK hP 0 rfl rfl 38 (by decide) (hts (.fieldLink RX11 171 "ShipOfficeModel" "now" "I") (by decide +kernel)) (fun _ h9 => h9) rfl dX11_ended_109 ?_
                refine lv_topi (fun x_30 ex_30 => ?_)
                have hx_30 : 0 ≤ x_30.toInt ∧ x_30.toInt ≤ 3000 := iv_of ex_30 (hVz_26 38)
                clear ex_30
                refine va_iast hx hb hK hP hD hS 10 9 rfl rfl (vp_in_iff.mpr (by omega)) dX11_ended_112 (fun H locs hP hD hS => ?_)
                have hP : va_P (dC, dI) vwCl (mW g0 pq cp z_26 (upF fz_27 9 (x1 : Int32).toNatClampNeg x_30)) H := hP
                have hD : va_D A (mW g0 pq cp z_26 (upF fz_27 9 (x1 : Int32).toNatClampNeg x_30)) := hD
                obtain ⟨fz_31, efz_31⟩ : ∃ zq, zq = (upF fz_27 9 (x1 : Int32).toNatClampNeg x_30) := ⟨_, rfl⟩
                rw [← efz_31] at hP hD
                have hAfz_31 : mA fz_31 := by rw [efz_31]; exact mA_upF (lo := -2147483648) (hi := 2147483647) hAz_26 rfl rfl (iv_all _)
                refine lv_iload_n hx hb dX11_ended_113 rfl (lv_at hl 1 rfl) ?_
                exact W.iret (v := y_25) hx hb hr (fun t ht hW => ⟨⟨y_25, (z_26, fz_31), rfl, ⟨hVz_26, hAfz_31, hRz_26⟩, ⟨by rw [ht]; exact hP, va_K.moved hW.alike hK, hD⟩⟩, hS.F ht⟩) hS.2.2 dX11_ended_114
              · have dc_29 := c_nle (a := x_28.toInt) (b := y_24.toInt) rfl rfl c_29
                refine lv_aload_n hx hb dX11_ended_60 rfl (lv_at hl 2 rfl) ?_
                refine va_get (D := (dC, dI)) (ci := 11) (v := .ref (pq 21)) (C := RX11) (T := TX11) (N := 63) hx hb hts in_wsX11_ended_X11 hown hK hP 0 rfl rfl 21 (by decide) (hts (.fieldLink RX11 73 "ShipOfficeModel" "voyage" "[I") (by decide +kernel)) (fun _ h9 => h9) rfl dX11_ended_61 ?_
                refine lv_iload hx hb dX11_ended_64 (lv_at hl 0 rfl) ?_
                refine va_iald hx hb hK hP 22 21 rfl rfl (vp_in_iff.mpr (by omega)) dX11_ended_66 ?_
                refine lv_topi (fun x_32 ex_32 => ?_)
                have hx_32 : 0 ≤ x_32.toInt ∧ x_32.toInt ≤ 19 := iv_of ex_32 (hAz_26 21 _)
                clear ex_32
                refine lv_iload_n hx hb dX11_ended_67 rfl (lv_at hl 3 rfl) ?_
                refine lv_icmp_ne (tgt := 97) hx hb dX11_ended_68 (by decide) (fun c_33 => ?_) (fun c_33 => ?_)
                · have dc_33 := c_ne (a := x_32.toInt) (b := x1.toInt) rfl rfl c_33
                  obtain ⟨x_34, ex_34⟩ : ∃ zq : Int32, y_24 + 1 = zq := ⟨_, rfl⟩
                  have hx_34 : x_34.toInt = y_24.toInt + 1 := (iv_to ex_34).symm.trans (ad_i rfl (by decide) (by omega) (by omega))
                  refine lv_iinc (v := x_34) (lv' := [(4, .int x_34), (3, .int y_25), (0, .ref g0), (1, .int x1), (2, .int x2)]) hx hb dX11_ended_97 hl (k := 0) rfl ex_34 (by decide) rfl (fun ls hl => ?_)
                  clear ex_34
                  refine lv_goto (tgt := 51) hx hb dX11_ended_100 (by decide) ?_
                  exact ih (n - 1) (by omega) x_34 y_25 z_26 fz_27 _ _ ls (by omega) (by omega) hVz_26 hAz_26 hRz_26 hP hD hS (lv_sub hl [0, 1, 2, 3, 4] rfl)
                · have dc_33 := c_eq (a := x_32.toInt) (b := x1.toInt) rfl rfl c_33
                  refine lv_aload_n hx hb dX11_ended_71 rfl (lv_at hl 2 rfl) ?_
                  refine lv_iload hx hb dX11_ended_72 (lv_at hl 0 rfl) ?_
                  have hFc : ∀ q, va_A [] H.size q → A q := pu_free hS hA
                  refine va_calli (va_runV (As := [.int y_24]) (rest := []) ⟨hx, hb, hml, hown, hts⟩ (c_X11_goesOn l dC dI H.size g0 pq cp z_26 fz_27 (z_26 41).toNatClampNeg (cn_le (n := 200) (hVz_26 41)) (cn_eq (n := 200) (hVz_26 41)) y_24 (vp_in_iff.mpr (by omega))) (cwV 1 hts gX11_ended_X11_goesOn rfl rfl rfl (by decide +kernel) ⟨(Nat.le_of_ble_eq_true rfl), (Nat.le_of_ble_eq_true rfl)⟩) (pr_V (r := (RX11, TX11, 63)) hP hK hD 0 11 rfl rfl) rfl rfl hl.1 rfl (lv_room (Nat.le_of_ble_eq_true rfl)) dX11_ended_74 ⟨(Nat.le_of_ble_eq_true rfl), (Nat.le_of_ble_eq_true rfl)⟩) hS (fun q _ h => hFc q h) hFc (fun r_36 u t H locs ht hvm w_35 hB hz1 hk1 hS => ?_)
                  have hP := pu_keep hP hk1
                  clear hk1 hz1 hvm hB ht hFc
                  have hb_37 : 0 ≤ r_36.toInt ∧ r_36.toInt ≤ 1 := z1_i w_35
                  refine lv_if_ne (tgt := 83) hx hb dX11_ended_77 (by decide) (fun c_38 => ?_) (fun c_38 => ?_)
                  · have dc_38 := c_ne (a := r_36.toInt) (b := 0) rfl (by decide) c_38
                    refine lv_aload_n hx hb dX11_ended_83 rfl (lv_at hl 2 rfl) ?_
                    refine va_get (D := (dC, dI)) (ci := 11) (v := .ref (pq 26)) (C := RX11) (T := TX11) (N := 63) hx hb hts in_wsX11_ended_X11 hown hK hP 0 rfl rfl 26 (by decide) (hts (.fieldLink RX11 88 "ShipOfficeModel" "offOn" "[I") (by decide +kernel)) (fun _ h9 => h9) rfl dX11_ended_84 ?_
                    refine lv_iload hx hb dX11_ended_87 (lv_at hl 0 rfl) ?_
                    refine lv_aload_n hx hb dX11_ended_89 rfl (lv_at hl 2 rfl) ?_
                    refine va_get (D := (dC, dI)) (ci := 11) (v := .int (z_26 38)) (C := RX11) (T := TX11) (N := 63) hx hb hts in_wsX11_ended_X11 hown hK hP 0 rfl rfl 38 (by decide) (hts (.fieldLink RX11 171 "ShipOfficeModel" "now" "I") (by decide +kernel)) (fun _ h9 => h9) rfl dX11_ended_90 ?_
                    refine lv_topi (fun x_39 ex_39 => ?_)
                    have hx_39 : 0 ≤ x_39.toInt ∧ x_39.toInt ≤ 3000 := iv_of ex_39 (hVz_26 38)
                    clear ex_39
                    refine va_iast hx hb hK hP hD hS 27 26 rfl rfl (vp_in_iff.mpr (by omega)) dX11_ended_93 (fun H locs hP hD hS => ?_)
                    have hP : va_P (dC, dI) vwCl (mW g0 pq cp z_26 (upF fz_27 26 (y_24 : Int32).toNatClampNeg x_39)) H := hP
                    have hD : va_D A (mW g0 pq cp z_26 (upF fz_27 26 (y_24 : Int32).toNatClampNeg x_39)) := hD
                    obtain ⟨fz_40, efz_40⟩ : ∃ zq, zq = (upF fz_27 26 (y_24 : Int32).toNatClampNeg x_39) := ⟨_, rfl⟩
                    rw [← efz_40] at hP hD
                    have hAfz_40 : mA fz_40 := by rw [efz_40]; exact mA_upF (lo := -2147483648) (hi := 2147483647) hAz_26 rfl rfl (iv_all _)
                    obtain ⟨x_41, ex_41⟩ : ∃ zq : Int32, y_25 + 1 = zq := ⟨_, rfl⟩
                    refine lv_iinc (v := x_41) (lv' := [(3, .int x_41), (4, .int y_24), (0, .ref g0), (1, .int x1), (2, .int x2)]) hx hb dX11_ended_94 hl (k := 1) rfl ex_41 (by decide) rfl (fun ls hl => ?_)
                    clear ex_41
                    obtain ⟨x_42, ex_42⟩ : ∃ zq : Int32, y_24 + 1 = zq := ⟨_, rfl⟩
                    have hx_42 : x_42.toInt = y_24.toInt + 1 := (iv_to ex_42).symm.trans (ad_i rfl (by decide) (by omega) (by omega))
                    refine lv_iinc (v := x_42) (lv' := [(4, .int x_42), (3, .int x_41), (0, .ref g0), (1, .int x1), (2, .int x2)]) hx hb dX11_ended_97 hl (k := 1) rfl ex_42 (by decide) rfl (fun ls hl => ?_)
                    clear ex_42
                    refine lv_goto (tgt := 51) hx hb dX11_ended_100 (by decide) ?_
                    exact ih (n - 1) (by omega) x_42 x_41 z_26 fz_40 _ _ ls (by omega) (by omega) hVz_26 hAfz_40 hRz_26 hP hD hS (lv_sub hl [0, 1, 2, 3, 4] rfl)
                  · have dc_38 := c_eq (a := r_36.toInt) (b := 0) rfl (by decide) c_38
                    refine lv_goto (tgt := 97) hx hb dX11_ended_80 (by decide) ?_
                    obtain ⟨x_43, ex_43⟩ : ∃ zq : Int32, y_24 + 1 = zq := ⟨_, rfl⟩
                    have hx_43 : x_43.toInt = y_24.toInt + 1 := (iv_to ex_43).symm.trans (ad_i rfl (by decide) (by omega) (by omega))
                    refine lv_iinc (v := x_43) (lv' := [(4, .int x_43), (3, .int y_25), (0, .ref g0), (1, .int x1), (2, .int x2)]) hx hb dX11_ended_97 hl (k := 0) rfl ex_43 (by decide) rfl (fun ls hl => ?_)
                    clear ex_43
                    refine lv_goto (tgt := 51) hx hb dX11_ended_100 (by decide) ?_
                    exact ih (n - 1) (by omega) x_43 y_25 z_26 fz_27 _ _ ls (by omega) (by omega) hVz_26 hAz_26 hRz_26 hP hD hS (lv_sub hl [0, 1, 2, 3, 4] rfl)
          have kc_44 : (0 : Int32).toInt = 0 := by decide
          exact cut_23 61 0 0 v fa _ _ ls (by omega) (by decide) gV gA rfl hP hD hS (lv_sub hl [0, 1, 2, 3, 4] rfl)
        · have dc_22 := c_ne (a := r_20.toInt) (b := 0) rfl (by decide) c_22
          refine lv_aload_n hx hb dX11_ended_39 rfl (lv_at hl 0 rfl) ?_
          refine lv_bipush (v := (-3)) hx hb dX11_ended_40 (by decide) ?_
          have hFc := va_free (wc := (mW g0 pq cp v fa)) hD hS hA (List.range 48) rfl
          refine va_calli (va_runV (As := [.int (-3)]) (rest := []) ⟨hx, hb, hml, hown, hts⟩ (c_X11_refuse l dC dI H.size g0 pq cp v fa (-3) (by unfold vp_in; decide)) (cwV 1 hts gX11_ended_X11_refuse rfl rfl rfl (by decide +kernel) ⟨(Nat.le_of_ble_eq_true rfl), (Nat.le_of_ble_eq_true rfl)⟩) (pr_V (r := (RX11, TX11, 63)) hP hK hD 0 11 rfl rfl) rfl rfl hl.1 rfl (lv_room (Nat.le_of_ble_eq_true rfl)) dX11_ended_42 ⟨(Nat.le_of_ble_eq_true rfl), (Nat.le_of_ble_eq_true rfl)⟩) hS (fun q _ h => hFc q h) hFc (fun r_46 u t H locs ht hvm w_45 hB hz1 hk1 hS => ?_)
          obtain ⟨v_47, fa_48⟩ := u
          obtain ⟨hP1, hK1, hD1⟩ := hB
          rw [ht] at hP1
          have hP : va_P (dC, dI) vwCl (mW g0 pq cp v_47 fa_48) H := hP1
          have hD : va_D A (mW g0 pq cp v_47 fa_48) := hD1.weaken (fun _ _ _ h => hFc _ h)
          clear hP1 hK1 hD1 hk1 hz1 hvm ht hFc
          obtain ⟨rfl, w_45⟩ := w_45
          have hVv_47 : mV v_47 := sm0_V w_45 gV
          have hAv_47 : mA fa_48 := sm0_A w_45 gA
          have hRv_47 : v_47 38 = v 38 := (congrFun w_45.1 38).trans rfl
          exact W.iret (v := (-3)) hx hb hr (fun t ht hW => ⟨⟨(-3), (v_47, fa_48), rfl, ⟨hVv_47, hAv_47, hRv_47⟩, ⟨by rw [ht]; exact hP, va_K.moved hW.alike hK, hD⟩⟩, hS.F ht⟩) hS.2.2 dX11_ended_45
    · have dc_11 := c_eq (a := r_10.toInt) (b := 0) rfl (by decide) c_11
      refine lv_aload_n hx hb dX11_ended_15 rfl (lv_at hl 0 rfl) ?_
      refine lv_iconst (v := (-1)) hx hb dX11_ended_16 (by decide) ?_
      have hFc := va_free (wc := (mW g0 pq cp v fa)) hD hS hA (List.range 48) rfl
      refine va_calli (va_runV (As := [.int (-1)]) (rest := []) ⟨hx, hb, hml, hown, hts⟩ (c_X11_refuse l dC dI H.size g0 pq cp v fa (-1) (by unfold vp_in; decide)) (cwV 1 hts gX11_ended_X11_refuse rfl rfl rfl (by decide +kernel) ⟨(Nat.le_of_ble_eq_true rfl), (Nat.le_of_ble_eq_true rfl)⟩) (pr_V (r := (RX11, TX11, 63)) hP hK hD 0 11 rfl rfl) rfl rfl hl.1 rfl (lv_room (Nat.le_of_ble_eq_true rfl)) dX11_ended_17 ⟨(Nat.le_of_ble_eq_true rfl), (Nat.le_of_ble_eq_true rfl)⟩) hS (fun q _ h => hFc q h) hFc (fun r_50 u t H locs ht hvm w_49 hB hz1 hk1 hS => ?_)
      obtain ⟨v_51, fa_52⟩ := u
      obtain ⟨hP1, hK1, hD1⟩ := hB
      rw [ht] at hP1
      have hP : va_P (dC, dI) vwCl (mW g0 pq cp v_51 fa_52) H := hP1
      have hD : va_D A (mW g0 pq cp v_51 fa_52) := hD1.weaken (fun _ _ _ h => hFc _ h)
      clear hP1 hK1 hD1 hk1 hz1 hvm ht hFc
      obtain ⟨rfl, w_49⟩ := w_49
      have hVv_51 : mV v_51 := sm0_V w_49 gV
      have hAv_51 : mA fa_52 := sm0_A w_49 gA
      have hRv_51 : v_51 38 = v 38 := (congrFun w_49.1 38).trans rfl
      exact W.iret (v := (-1)) hx hb hr (fun t ht hW => ⟨⟨(-1), (v_51, fa_52), rfl, ⟨hVv_51, hAv_51, hRv_51⟩, ⟨by rw [ht]; exact hP, va_K.moved hW.alike hK, hD⟩⟩, hS.F ht⟩) hS.2.2 dX11_ended_20
set_option maxHeartbeats 4000000 in
set_option maxRecDepth 100000 in
theorem c_X11_feed (l : Launch) (dC : Nat → ClassId) (dI : Nat → Nat → Nat) (sz : Nat) (g0 : Nat) (pq : Nat → Nat) (cp : Nat → ClassId) (v : Nat → Int32) (fa : Nat → Nat → Int32) (gV : mV v) (gA : mA fa) (x1 : Int32) (x2 : Int64) : Met l yX11_feed wsX11_feed ({ frames := 1, cells := 0, slots := 0, locals := 21 }) (va_Pc [.ref g0, .int x1, .long x2] (pcW (dC, dI) (mT cp) (mW g0 pq cp v fa) sz)) (va_Qi (fun (r : Int32) (u : (Nat → Int32) × (Nat → Nat → Int32)) => mV u.1 ∧ mA u.2 ∧ u.1 38 = v 38) (fun u t => va_P (dC, dI) vwCl (mW g0 pq cp u.1 u.2) t.heap ∧ va_K (dC, dI) vwCl (mT cp) t ∧ va_D (va_A (mW g0 pq cp v fa) sz) (mW g0 pq cp u.1 u.2)) (va_A (mW g0 pq cp v fa) sz)) 0 0 (va_A (mW g0 pq cp v fa) sz) := by
  refine Met.ofW (cc := cX11_feed) (maxL := 5) (ret := (some .int)) (by decide) rfl ?_
  intro p e s m args below meth c s₁ B hml hv
  obtain ⟨rfl, hsz, hP, hK, hD0⟩ := hv
  have hx := B.exec
  have hb := B.bytes
  have hr := B.returns
  have hts := atoms_spec (ws := wsX11_feed) B.pre
  have hown : s.vm.findClass RX11 = some m.cls := findClass_of_methodNamed B.named
  have hlocks := B.notSynchronized
  subst hsz
  have hD := hD0.self (sz := s.heap.size)
  generalize hAe : va_A (mW g0 pq cp v fa) s.heap.size = A at hD ⊢
  have hA : ∀ q : Nat, s.heap.size ≤ q → A q := fun q h => by rw [← hAe]; exact Or.inr h
  have hS : va_S A s.heap s.heap [] := va_S.rf
  have hP : va_P (dC, dI) vwCl (mW g0 pq cp v fa) s.heap := hP
  have hl := lv_entry ([.ref g0, .int x1, .long x2]) (n := 5) (Nat.le_of_ble_eq_true rfl)
  rw [lg_entry_eq]
  generalize (lg_sl ([.ref g0, .int x1, .long x2]) ++ List.replicate (5 - (lg_sl ([.ref g0, .int x1, .long x2])).length) Slot.unset).toArray = ls at hl ⊢
  have hl : lv_has ls 5 [(0, .ref g0), (1, .int x1), (2, .long x2)] := hl
  refine lv_iload_n hx hb dX11_feed_0 rfl (lv_at hl 1 rfl) ?_
  refine lv_iconst (v := 1) hx hb dX11_feed_1 (by decide) ?_
  refine lv_icmp_ge (tgt := 12) hx hb dX11_feed_2 (by decide) (fun c_1 => ?_) (fun c_1 => ?_)
  · have dc_1 := c_le (a := 1) (b := x1.toInt) (by decide) rfl c_1
    refine lv_iload_n hx hb dX11_feed_12 rfl (lv_at hl 1 rfl) ?_
    refine lv_bipush (v := 8) hx hb dX11_feed_13 (by decide) ?_
    refine lv_icmp_gt (tgt := 29) hx hb dX11_feed_15 (by decide) (fun c_2 => ?_) (fun c_2 => ?_)
    · have dc_2 := c_lt (a := 8) (b := x1.toInt) (by decide) rfl c_2
      refine lv_aload_n hx hb dX11_feed_29 rfl (lv_at hl 0 rfl) ?_
      refine lv_bipush (v := (-6)) hx hb dX11_feed_30 (by decide) ?_
      have hFc := va_free (wc := (mW g0 pq cp v fa)) hD hS hA (List.range 48) rfl
      refine va_calli (va_runV (As := [.int (-6)]) (rest := []) ⟨hx, hb, hml, hown, hts⟩ (c_X11_refuse l dC dI s.heap.size g0 pq cp v fa (-6) (by unfold vp_in; decide)) (cwV 1 hts gX11_feed_X11_refuse rfl rfl rfl (by decide +kernel) ⟨(Nat.le_of_ble_eq_true rfl), (Nat.le_of_ble_eq_true rfl)⟩) (pr_V (r := (RX11, TX11, 63)) hP hK hD 0 11 rfl rfl) rfl rfl hl.1 rfl (lv_room (Nat.le_of_ble_eq_true rfl)) dX11_feed_32 ⟨(Nat.le_of_ble_eq_true rfl), (Nat.le_of_ble_eq_true rfl)⟩) hS (fun q _ h => hFc q h) hFc (fun r_4 u t H locs ht hvm w_3 hB hz1 hk1 hS => ?_)
      obtain ⟨v_5, fa_6⟩ := u
      obtain ⟨hP1, hK1, hD1⟩ := hB
      rw [ht] at hP1
      have hP : va_P (dC, dI) vwCl (mW g0 pq cp v_5 fa_6) H := hP1
      have hD : va_D A (mW g0 pq cp v_5 fa_6) := hD1.weaken (fun _ _ _ h => hFc _ h)
      clear hP1 hK1 hD1 hk1 hz1 hvm ht hFc
      obtain ⟨rfl, w_3⟩ := w_3
      have hVv_5 : mV v_5 := sm0_V w_3 gV
      have hAv_5 : mA fa_6 := sm0_A w_3 gA
      have g_7 : (v_5 46).toInt = (v 46).toInt := congrArg Int32.toInt (congrFun w_3.1 46)
      have hRv_5 : v_5 38 = v 38 := (congrFun w_3.1 38).trans rfl
      exact W.iret (v := (-6)) hx hb hr (fun t ht hW => ⟨⟨(-6), (v_5, fa_6), rfl, ⟨hVv_5, hAv_5, hRv_5⟩, ⟨by rw [ht]; exact hP, va_K.moved hW.alike hK, hD⟩⟩, hS.F ht⟩) hS.2.2 dX11_feed_35
    · have dc_2 := c_nlt (a := 8) (b := x1.toInt) (by decide) rfl c_2
      refine lv_aload_n hx hb dX11_feed_18 rfl (lv_at hl 0 rfl) ?_
      refine va_get (D := (dC, dI)) (ci := 11) (v := .int (v 46)) (C := RX11) (T := TX11) (N := 63) hx hb hts in_wsX11_feed_X11 hown hK hP 0 rfl rfl 46 (by decide) (hts (.fieldLink RX11 205 "ShipOfficeModel" "taped" "I") (by decide +kernel)) (fun _ h9 => h9) rfl dX11_feed_19 ?_
      refine lv_topi (fun x_8 ex_8 => ?_)
      have hx_8 : 0 ≤ x_8.toInt ∧ x_8.toInt ≤ 60 := iv_of ex_8 (gV 46)
      have gx_8 : x_8.toInt = (v 46).toInt := iv_to ex_8
      clear ex_8
      refine lv_iload_n hx hb dX11_feed_22 rfl (lv_at hl 1 rfl) ?_
      refine lv_iadd hx hb dX11_feed_23 ?_
      refine lv_topi (fun x_9 ex_9 => ?_)
      have hx_9 : x_9.toInt = x_8.toInt + x1.toInt := (iv_to ex_9).trans (ad_i rfl rfl (by omega) (by omega))
      clear ex_9
      refine lv_bipush (v := 60) hx hb dX11_feed_24 (by decide) ?_
      refine lv_icmp_le (tgt := 36) hx hb dX11_feed_26 (by decide) (fun c_10 => ?_) (fun c_10 => ?_)
      · have dc_10 := c_le (a := x_9.toInt) (b := 60) rfl (by decide) c_10
        refine lv_iconst (v := 0) hx hb dX11_feed_36 (by decide) ?_
        refine lv_istore (lv' := [(4, .int 0), (0, .ref g0), (1, .int x1), (2, .long x2)]) hx hb dX11_feed_37 hl (by decide) rfl (fun ls hl => ?_)
        have cut_11 : ∀ (n : Nat) (y_12 : Int32) (z_13 : Nat → Int32) (fz_14 : Nat → Nat → Int32) (H : Heap) (locs : List Loc) (ls : Array Slot), 8 - y_12.toInt ≤ (n : Int) → (0 ≤ y_12.toInt ∧ y_12.toInt ≤ 8) → (z_13 46).toInt + x1.toInt - y_12.toInt ≤ 60 → mV z_13 → mA fz_14 → z_13 38 = v 38 → va_P (dC, dI) vwCl (mW g0 pq cp z_13 fz_14) H → va_D A (mW g0 pq cp z_13 fz_14) → va_S A s.heap H locs → lv_has ls 5 [(4, .int y_12), (0, .ref g0), (1, .int x1), (2, .long x2)] → W p l e (headSpec wsX11_feed { frames := 1, cells := 0, slots := 0, locals := 21 }).room s m #[Value.ref g0, Value.int x1, Value.long x2] below meth c H locs 0 0 (MQ below (va_Qi (fun (r : Int32) (u : (Nat → Int32) × (Nat → Nat → Int32)) => mV u.1 ∧ mA u.2 ∧ u.1 38 = v 38) (fun u t => va_P (dC, dI) vwCl (mW g0 pq cp u.1 u.2) t.heap ∧ va_K (dC, dI) vwCl (mT cp) t ∧ va_D A (mW g0 pq cp u.1 u.2)) A) #[Value.ref g0, Value.int x1, Value.long x2] s 0 0 A) (F0 m 39 ls []) := by
          intro n
          induction n using Nat.strongRecOn with
          | ind n ih =>
            intro y_12 z_13 fz_14 H locs ls hm hy_12 hq0_cut_11 hVz_13 hAz_13 hRz_13 hP hD hS hl
            refine lv_iload hx hb dX11_feed_39 (lv_at hl 0 rfl) ?_
            refine lv_iload_n hx hb dX11_feed_41 rfl (lv_at hl 2 rfl) ?_
            refine lv_icmp_ge (tgt := 82) hx hb dX11_feed_42 (by decide) (fun c_15 => ?_) (fun c_15 => ?_)
            · have dc_15 := c_le (a := x1.toInt) (b := y_12.toInt) rfl rfl c_15
              refine lv_aload_n hx hb dX11_feed_82 rfl (lv_at hl 1 rfl) ?_
              refine va_get (D := (dC, dI)) (ci := 11) (v := .int (z_13 46)) (C := RX11) (T := TX11) (N := 63) hx hb hts in_wsX11_feed_X11 hown hK hP 0 rfl rfl 46 (by decide) (hts (.fieldLink RX11 205 "ShipOfficeModel" "taped" "I") (by decide +kernel)) (fun _ h9 => h9) rfl dX11_feed_83 ?_
              refine lv_topi (fun x_16 ex_16 => ?_)
              have hx_16 : 0 ≤ x_16.toInt ∧ x_16.toInt ≤ 60 := iv_of ex_16 (hVz_13 46)
              have gx_16 : x_16.toInt = (z_13 46).toInt := iv_to ex_16
              clear ex_16
              exact W.iret (v := x_16) hx hb hr (fun t ht hW => ⟨⟨x_16, (z_13, fz_14), rfl, ⟨hVz_13, hAz_13, hRz_13⟩, ⟨by rw [ht]; exact hP, va_K.moved hW.alike hK, hD⟩⟩, hS.F ht⟩) hS.2.2 dX11_feed_86
            · have dc_15 := c_nle (a := x1.toInt) (b := y_12.toInt) rfl rfl c_15
              refine lv_aload_n hx hb dX11_feed_45 rfl (lv_at hl 1 rfl) ?_
              refine va_get (D := (dC, dI)) (ci := 11) (v := .ref (pq 44)) (C := RX11) (T := TX11) (N := 63) hx hb hts in_wsX11_feed_X11 hown hK hP 0 rfl rfl 44 (by decide) (hts (.fieldLink RX11 125 "ShipOfficeModel" "tape" "[I") (by decide +kernel)) (fun _ h9 => h9) rfl dX11_feed_46 ?_
              refine lv_aload_n hx hb dX11_feed_49 rfl (lv_at hl 1 rfl) ?_
              refine va_get (D := (dC, dI)) (ci := 11) (v := .int (z_13 46)) (C := RX11) (T := TX11) (N := 63) hx hb hts in_wsX11_feed_X11 hown hK hP 0 rfl rfl 46 (by decide) (hts (.fieldLink RX11 205 "ShipOfficeModel" "taped" "I") (by decide +kernel)) (fun _ h9 => h9) rfl dX11_feed_50 ?_
              refine lv_topi (fun x_17 ex_17 => ?_)
              have hx_17 : 0 ≤ x_17.toInt ∧ x_17.toInt ≤ 60 := iv_of ex_17 (hVz_13 46)
              have gx_17 : x_17.toInt = (z_13 46).toInt := iv_to ex_17
              clear ex_17
              refine lv_lload_n hx hb dX11_feed_53 rfl (lv_at hl 3 rfl) ?_
              refine lv_bipush (v := 8) hx hb dX11_feed_54 (by decide) ?_
              refine lv_iload hx hb dX11_feed_56 (lv_at hl 0 rfl) ?_
              refine lv_imul hx hb dX11_feed_58 ?_
              refine lv_topi (fun x_18 ex_18 => ?_)
              have hx_18 : x_18.toInt = 8 * y_12.toInt := (iv_to ex_18).trans (mu_i (by decide) rfl (by omega) (by omega))
              clear ex_18
              refine lv_lshr (v := x2 >>> ((x_18 : Int32).toInt64 &&& 63)) hx hb dX11_feed_59 rfl ?_
              refine lv_ldc2 (v := 255) hx hb hown (hts (.constantLong RX11 208 (255)) (by decide +kernel)) dX11_feed_60 ?_
              refine lv_land hx hb dX11_feed_63 ?_
              refine lv_l2i (v := ((x2 >>> ((x_18 : Int32).toInt64 &&& 63)) &&& 255 : Int64).toInt32) hx hb dX11_feed_64 rfl ?_
              refine lv_topi (fun x_19 ex_19 => ?_)
              clear ex_19
              refine va_iast hx hb hK hP hD hS 39 38 rfl rfl (vp_in_iff.mpr (by omega)) dX11_feed_65 (fun H locs hP hD hS => ?_)
              have hP : va_P (dC, dI) vwCl (mW g0 pq cp z_13 (upF fz_14 44 (x_17 : Int32).toNatClampNeg x_19)) H := hP
              have hD : va_D A (mW g0 pq cp z_13 (upF fz_14 44 (x_17 : Int32).toNatClampNeg x_19)) := hD
              obtain ⟨fz_20, efz_20⟩ : ∃ zq, zq = (upF fz_14 44 (x_17 : Int32).toNatClampNeg x_19) := ⟨_, rfl⟩
              rw [← efz_20] at hP hD
              have hAfz_20 : mA fz_20 := by rw [efz_20]; exact mA_upF (lo := -2147483648) (hi := 2147483647) hAz_13 rfl rfl (iv_all _)
              refine lv_aload_n hx hb dX11_feed_66 rfl (lv_at hl 1 rfl) ?_
              refine lv_dup hx hb dX11_feed_67 rfl ?_
              refine va_get (D := (dC, dI)) (ci := 11) (v := .int (z_13 46)) (C := RX11) (T := TX11) (N := 63) hx hb hts in_wsX11_feed_X11 hown hK hP 0 rfl rfl 46 (by decide) (hts (.fieldLink RX11 205 "ShipOfficeModel" "taped" "I") (by decide +kernel)) (fun _ h9 => h9) rfl dX11_feed_68 ?_
              refine lv_topi (fun x_21 ex_21 => ?_)
              have hx_21 : 0 ≤ x_21.toInt ∧ x_21.toInt ≤ 60 := iv_of ex_21 (hVz_13 46)
              have gx_21 : x_21.toInt = (z_13 46).toInt := iv_to ex_21
              clear ex_21
              refine lv_iconst (v := 1) hx hb dX11_feed_71 (by decide) ?_
              refine lv_iadd hx hb dX11_feed_72 ?_
              refine lv_topi (fun x_22 ex_22 => ?_)
              have hx_22 : x_22.toInt = x_21.toInt + 1 := (iv_to ex_22).trans (ad_i rfl (by decide) (by omega) (by omega))
              clear ex_22
              refine va_put (D := (dC, dI)) (ci := 11) (v := .int x_22) (ty := .int) (C := RX11) (T := TX11) (N := 63) hx hb hts in_wsX11_feed_X11 tyX11 tyX11_ok nmX11 hown hK hP hD hS 0 rfl rfl 46 (by decide) (hts (.fieldLink RX11 205 "ShipOfficeModel" "taped" "I") (by decide +kernel)) (fun _ h9 => h9) rfl (by decide +kernel) rfl rfl (Nat.le_of_ble_eq_true rfl) dX11_feed_73 (fun H locs hP hD hS => ?_)
              have hP : va_P (dC, dI) vwCl (mW g0 pq cp (upd z_13 46 x_22) fz_20) H := hP
              have hD : va_D A (mW g0 pq cp (upd z_13 46 x_22) fz_20) := hD
              obtain ⟨z_23, ez_23⟩ : ∃ zq, zq = (upd z_13 46 x_22) := ⟨_, rfl⟩
              rw [← ez_23] at hP hD
              have hVz_23 : mV z_23 := by rw [ez_23]; exact mV_upd (lo := 0) (hi := 60) hVz_13 rfl rfl (by omega)
              have hRz_23 : z_23 38 = v 38 := by rw [ez_23]; exact (if_neg (by decide)).trans hRz_13
              have g_24 : (z_23 46).toInt = x_22.toInt := by rw [ez_23, show upd z_13 46 x_22 46 = x_22 from if_pos rfl]
              obtain ⟨x_25, ex_25⟩ : ∃ zq : Int32, y_12 + 1 = zq := ⟨_, rfl⟩
              have hx_25 : x_25.toInt = y_12.toInt + 1 := (iv_to ex_25).symm.trans (ad_i rfl (by decide) (by omega) (by omega))
              refine lv_iinc (v := x_25) (lv' := [(4, .int x_25), (0, .ref g0), (1, .int x1), (2, .long x2)]) hx hb dX11_feed_76 hl (k := 0) rfl ex_25 (by decide) rfl (fun ls hl => ?_)
              clear ex_25
              refine lv_goto (tgt := 39) hx hb dX11_feed_79 (by decide) ?_
              exact ih (n - 1) (by omega) x_25 z_23 fz_20 _ _ ls (by omega) (by omega) (by omega) hVz_23 hAfz_20 hRz_23 hP hD hS (lv_sub hl [0, 1, 2, 3] rfl)
        have kc_26 : (0 : Int32).toInt = 0 := by decide
        exact cut_11 9 0 v fa _ _ ls (by omega) (by decide) (by omega) gV gA rfl hP hD hS (lv_sub hl [0, 1, 2, 3] rfl)
      · have dc_10 := c_nle (a := x_9.toInt) (b := 60) rfl (by decide) c_10
        refine lv_aload_n hx hb dX11_feed_29 rfl (lv_at hl 0 rfl) ?_
        refine lv_bipush (v := (-6)) hx hb dX11_feed_30 (by decide) ?_
        have hFc := va_free (wc := (mW g0 pq cp v fa)) hD hS hA (List.range 48) rfl
        refine va_calli (va_runV (As := [.int (-6)]) (rest := []) ⟨hx, hb, hml, hown, hts⟩ (c_X11_refuse l dC dI s.heap.size g0 pq cp v fa (-6) (by unfold vp_in; decide)) (cwV 1 hts gX11_feed_X11_refuse rfl rfl rfl (by decide +kernel) ⟨(Nat.le_of_ble_eq_true rfl), (Nat.le_of_ble_eq_true rfl)⟩) (pr_V (r := (RX11, TX11, 63)) hP hK hD 0 11 rfl rfl) rfl rfl hl.1 rfl (lv_room (Nat.le_of_ble_eq_true rfl)) dX11_feed_32 ⟨(Nat.le_of_ble_eq_true rfl), (Nat.le_of_ble_eq_true rfl)⟩) hS (fun q _ h => hFc q h) hFc (fun r_28 u t H locs ht hvm w_27 hB hz1 hk1 hS => ?_)
        obtain ⟨v_29, fa_30⟩ := u
        obtain ⟨hP1, hK1, hD1⟩ := hB
        rw [ht] at hP1
        have hP : va_P (dC, dI) vwCl (mW g0 pq cp v_29 fa_30) H := hP1
        have hD : va_D A (mW g0 pq cp v_29 fa_30) := hD1.weaken (fun _ _ _ h => hFc _ h)
        clear hP1 hK1 hD1 hk1 hz1 hvm ht hFc
        obtain ⟨rfl, w_27⟩ := w_27
        have hVv_29 : mV v_29 := sm0_V w_27 gV
        have hAv_29 : mA fa_30 := sm0_A w_27 gA
        have g_31 : (v_29 46).toInt = (v 46).toInt := congrArg Int32.toInt (congrFun w_27.1 46)
        have hRv_29 : v_29 38 = v 38 := (congrFun w_27.1 38).trans rfl
        exact W.iret (v := (-6)) hx hb hr (fun t ht hW => ⟨⟨(-6), (v_29, fa_30), rfl, ⟨hVv_29, hAv_29, hRv_29⟩, ⟨by rw [ht]; exact hP, va_K.moved hW.alike hK, hD⟩⟩, hS.F ht⟩) hS.2.2 dX11_feed_35
  · have dc_1 := c_nle (a := 1) (b := x1.toInt) (by decide) rfl c_1
    refine lv_aload_n hx hb dX11_feed_5 rfl (lv_at hl 0 rfl) ?_
    refine lv_bipush (v := (-4)) hx hb dX11_feed_6 (by decide) ?_
    have hFc := va_free (wc := (mW g0 pq cp v fa)) hD hS hA (List.range 48) rfl
    refine va_calli (va_runV (As := [.int (-4)]) (rest := []) ⟨hx, hb, hml, hown, hts⟩ (c_X11_refuse l dC dI s.heap.size g0 pq cp v fa (-4) (by unfold vp_in; decide)) (cwV 1 hts gX11_feed_X11_refuse rfl rfl rfl (by decide +kernel) ⟨(Nat.le_of_ble_eq_true rfl), (Nat.le_of_ble_eq_true rfl)⟩) (pr_V (r := (RX11, TX11, 63)) hP hK hD 0 11 rfl rfl) rfl rfl hl.1 rfl (lv_room (Nat.le_of_ble_eq_true rfl)) dX11_feed_8 ⟨(Nat.le_of_ble_eq_true rfl), (Nat.le_of_ble_eq_true rfl)⟩) hS (fun q _ h => hFc q h) hFc (fun r_33 u t H locs ht hvm w_32 hB hz1 hk1 hS => ?_)
    obtain ⟨v_34, fa_35⟩ := u
    obtain ⟨hP1, hK1, hD1⟩ := hB
    rw [ht] at hP1
    have hP : va_P (dC, dI) vwCl (mW g0 pq cp v_34 fa_35) H := hP1
    have hD : va_D A (mW g0 pq cp v_34 fa_35) := hD1.weaken (fun _ _ _ h => hFc _ h)
    clear hP1 hK1 hD1 hk1 hz1 hvm ht hFc
    obtain ⟨rfl, w_32⟩ := w_32
    have hVv_34 : mV v_34 := sm0_V w_32 gV
    have hAv_34 : mA fa_35 := sm0_A w_32 gA
    have g_36 : (v_34 46).toInt = (v 46).toInt := congrArg Int32.toInt (congrFun w_32.1 46)
    have hRv_34 : v_34 38 = v 38 := (congrFun w_32.1 38).trans rfl
    exact W.iret (v := (-4)) hx hb hr (fun t ht hW => ⟨⟨(-4), (v_34, fa_35), rfl, ⟨hVv_34, hAv_34, hRv_34⟩, ⟨by rw [ht]; exact hP, va_K.moved hW.alike hK, hD⟩⟩, hS.F ht⟩) hS.2.2 dX11_feed_11
set_option maxHeartbeats 4000000 in
set_option maxRecDepth 100000 in
theorem c_X11_act (l : Launch) (dC : Nat → ClassId) (dI : Nat → Nat → Nat) (sz : Nat) (g0 : Nat) (pq : Nat → Nat) (cp : Nat → ClassId) (v : Nat → Int32) (fa : Nat → Nat → Int32) (gV : mV v) (gA : mA fa) (x1 : Int32) (x2 : Int32) : Met l yX11_act wsX11_act ({ frames := 20, cells := 0, slots := 0, locals := 463 }) (va_Pc [.ref g0, .int x1, .int x2] (pcW (dC, dI) (mT cp) (mW g0 pq cp v fa) sz)) (va_Qi (fun (r : Int32) (u : (Nat → Int32) × (Nat → Nat → Int32)) => mV u.1 ∧ mA u.2 ∧ u.1 38 = v 38) (fun u t => va_P (dC, dI) vwCl (mW g0 pq cp u.1 u.2) t.heap ∧ va_K (dC, dI) vwCl (mT cp) t ∧ va_D (va_A (mW g0 pq cp v fa) sz) (mW g0 pq cp u.1 u.2)) (va_A (mW g0 pq cp v fa) sz)) 0 0 (va_A (mW g0 pq cp v fa) sz) := by
  refine Met.ofW (cc := cX11_act) (maxL := 7) (ret := (some .int)) (by decide) rfl ?_
  intro p e s m args below meth c s₁ B hml hv
  obtain ⟨rfl, hsz, hP, hK, hD0⟩ := hv
  have hx := B.exec
  have hb := B.bytes
  have hr := B.returns
  have hts := atoms_spec (ws := wsX11_act) B.pre
  have hown : s.vm.findClass RX11 = some m.cls := findClass_of_methodNamed B.named
  have hlocks := B.notSynchronized
  subst hsz
  have hD := hD0.self (sz := s.heap.size)
  generalize hAe : va_A (mW g0 pq cp v fa) s.heap.size = A at hD ⊢
  have hA : ∀ q : Nat, s.heap.size ≤ q → A q := fun q h => by rw [← hAe]; exact Or.inr h
  have hS : va_S A s.heap s.heap [] := va_S.rf
  have hP : va_P (dC, dI) vwCl (mW g0 pq cp v fa) s.heap := hP
  have hl := lv_entry ([.ref g0, .int x1, .int x2]) (n := 7) (Nat.le_of_ble_eq_true rfl)
  rw [lg_entry_eq]
  generalize (lg_sl ([.ref g0, .int x1, .int x2]) ++ List.replicate (7 - (lg_sl ([.ref g0, .int x1, .int x2])).length) Slot.unset).toArray = ls at hl ⊢
  have hl : lv_has ls 7 [(0, .ref g0), (1, .int x1), (2, .int x2)] := hl
  refine lv_iload_n hx hb dX11_act_0 rfl (lv_at hl 1 rfl) ?_
  refine lv_iconst (v := 5) hx hb dX11_act_1 (by decide) ?_
  have hFc : ∀ q, va_A [] s.heap.size q → A q := pu_free hS hA
  have hPc := hP.sub (ws' := []) [] rfl
  have hDc := hD.sub (ws' := []) [] (by decide) rfl
  have hKc := hK.sub (tys' := []) [] rfl
  refine va_calli (va_runS (As := [.int x1, .int 5]) (rest := []) ⟨hx, hb, hml, hown, hts⟩ (c_X11_isIn l dC dI s.heap.size x1 5) (va_cwS 2 hts gX11_act_X11_isIn rfl rfl rfl (by decide +kernel) ⟨(Nat.le_of_ble_eq_true rfl), (Nat.le_of_ble_eq_true rfl)⟩) (pr_S hPc hKc hDc) rfl rfl hl.1 rfl (lv_room (Nat.le_of_ble_eq_true rfl)) dX11_act_2 ⟨(Nat.le_of_ble_eq_true rfl), (Nat.le_of_ble_eq_true rfl)⟩) hS (fun q _ h => hFc q h) hFc (fun r_2 u t H locs ht hvm w_1 hB hz1 hk1 hS => ?_)
  have hP := pu_keep hP hk1
  clear hk1 hz1 hvm hB ht hFc hPc hDc hKc
  have hbr_2 : 0 ≤ r_2.toInt ∧ r_2.toInt ≤ 1 := iv_of w_1 (isI_i _ _)
  refine lv_if_ne (tgt := 15) hx hb dX11_act_5 (by decide) (fun c_3 => ?_) (fun c_3 => ?_)
  · have dc_3 := c_ne (a := r_2.toInt) (b := 0) rfl (by decide) c_3
    have hi_4 := isI_t w_1 (fun q => c_3 (Int32.toInt_inj.mp q))
    have khi_4 : (5 : Int32).toInt = 5 := by decide
    refine lv_iload_n hx hb dX11_act_15 rfl (lv_at hl 2 rfl) ?_
    refine lv_aload_n hx hb dX11_act_16 rfl (lv_at hl 0 rfl) ?_
    refine va_get (D := (dC, dI)) (ci := 11) (v := .int (v 38)) (C := RX11) (T := TX11) (N := 63) hx hb hts in_wsX11_act_X11 hown hK hP 0 rfl rfl 38 (by decide) (hts (.fieldLink RX11 171 "ShipOfficeModel" "now" "I") (by decide +kernel)) (fun _ h9 => h9) rfl dX11_act_17 ?_
    refine lv_topi (fun x_5 ex_5 => ?_)
    have hx_5 : 0 ≤ x_5.toInt ∧ x_5.toInt ≤ 3000 := iv_of ex_5 (gV 38)
    clear ex_5
    refine lv_icmp_ge (tgt := 30) hx hb dX11_act_20 (by decide) (fun c_6 => ?_) (fun c_6 => ?_)
    · have dc_6 := c_le (a := x_5.toInt) (b := x2.toInt) rfl rfl c_6
      refine lv_iload_n hx hb dX11_act_30 rfl (lv_at hl 2 rfl) ?_
      refine lv_sipush (v := 3000) hx hb dX11_act_31 (by decide) ?_
      refine lv_icmp_gt (tgt := 46) hx hb dX11_act_34 (by decide) (fun c_7 => ?_) (fun c_7 => ?_)
      · have dc_7 := c_lt (a := 3000) (b := x2.toInt) (by decide) rfl c_7
        refine lv_aload_n hx hb dX11_act_46 rfl (lv_at hl 0 rfl) ?_
        refine lv_bipush (v := (-6)) hx hb dX11_act_47 (by decide) ?_
        have hFc := va_free (wc := (mW g0 pq cp v fa)) hD hS hA (List.range 48) rfl
        refine va_calli (va_runV (As := [.int (-6)]) (rest := []) ⟨hx, hb, hml, hown, hts⟩ (c_X11_refuse l dC dI H.size g0 pq cp v fa (-6) (by unfold vp_in; decide)) (cwV 1 hts gX11_act_X11_refuse rfl rfl rfl (by decide +kernel) ⟨(Nat.le_of_ble_eq_true rfl), (Nat.le_of_ble_eq_true rfl)⟩) (pr_V (r := (RX11, TX11, 63)) hP hK hD 0 11 rfl rfl) rfl rfl hl.1 rfl (lv_room (Nat.le_of_ble_eq_true rfl)) dX11_act_49 ⟨(Nat.le_of_ble_eq_true rfl), (Nat.le_of_ble_eq_true rfl)⟩) hS (fun q _ h => hFc q h) hFc (fun r_9 u t H locs ht hvm w_8 hB hz1 hk1 hS => ?_)
        obtain ⟨v_10, fa_11⟩ := u
        obtain ⟨hP1, hK1, hD1⟩ := hB
        rw [ht] at hP1
        have hP : va_P (dC, dI) vwCl (mW g0 pq cp v_10 fa_11) H := hP1
        have hD : va_D A (mW g0 pq cp v_10 fa_11) := hD1.weaken (fun _ _ _ h => hFc _ h)
        clear hP1 hK1 hD1 hk1 hz1 hvm ht hFc
        obtain ⟨rfl, w_8⟩ := w_8
        have hVv_10 : mV v_10 := sm0_V w_8 gV
        have hAv_10 : mA fa_11 := sm0_A w_8 gA
        have g_12 : (v_10 42).toInt = (v 42).toInt := congrArg Int32.toInt (congrFun w_8.1 42)
        have g_13 : (v_10 46).toInt = (v 46).toInt := congrArg Int32.toInt (congrFun w_8.1 46)
        have hRv_10 : v_10 38 = v 38 := (congrFun w_8.1 38).trans rfl
        exact W.iret (v := (-6)) hx hb hr (fun t ht hW => ⟨⟨(-6), (v_10, fa_11), rfl, ⟨hVv_10, hAv_10, hRv_10⟩, ⟨by rw [ht]; exact hP, va_K.moved hW.alike hK, hD⟩⟩, hS.F ht⟩) hS.2.2 dX11_act_52
      · have dc_7 := c_nlt (a := 3000) (b := x2.toInt) (by decide) rfl c_7
        refine lv_aload_n hx hb dX11_act_37 rfl (lv_at hl 0 rfl) ?_
        refine va_get (D := (dC, dI)) (ci := 11) (v := .int (v 42)) (C := RX11) (T := TX11) (N := 63) hx hb hts in_wsX11_act_X11 hown hK hP 0 rfl rfl 42 (by decide) (hts (.fieldLink RX11 256 "ShipOfficeModel" "acts" "I") (by decide +kernel)) (fun _ h9 => h9) rfl dX11_act_38 ?_
        refine lv_topi (fun x_14 ex_14 => ?_)
        have hx_14 : 0 ≤ x_14.toInt ∧ x_14.toInt ≤ 30 := iv_of ex_14 (gV 42)
        have gx_14 : x_14.toInt = (v 42).toInt := iv_to ex_14
        clear ex_14
        refine lv_bipush (v := 30) hx hb dX11_act_41 (by decide) ?_
        refine lv_icmp_ne (tgt := 53) hx hb dX11_act_43 (by decide) (fun c_15 => ?_) (fun c_15 => ?_)
        · have dc_15 := c_ne (a := x_14.toInt) (b := 30) rfl (by decide) c_15
          refine lv_aload_n hx hb dX11_act_53 rfl (lv_at hl 0 rfl) ?_
          refine lv_iconst (v := (-1)) hx hb dX11_act_54 (by decide) ?_
          refine lv_aload_n hx hb dX11_act_55 rfl (lv_at hl 0 rfl) ?_
          refine va_get (D := (dC, dI)) (ci := 11) (v := .int (v 46)) (C := RX11) (T := TX11) (N := 63) hx hb hts in_wsX11_act_X11 hown hK hP 0 rfl rfl 46 (by decide) (hts (.fieldLink RX11 205 "ShipOfficeModel" "taped" "I") (by decide +kernel)) (fun _ h9 => h9) rfl dX11_act_56 ?_
          refine lv_topi (fun x_16 ex_16 => ?_)
          have hx_16 : 0 ≤ x_16.toInt ∧ x_16.toInt ≤ 60 := iv_of ex_16 (gV 46)
          have gx_16 : x_16.toInt = (v 46).toInt := iv_to ex_16
          clear ex_16
          have hFc := va_free (wc := (mW g0 pq cp v fa)) hD hS hA (List.range 48) rfl
          refine va_calli (va_runV (As := [.int (-1), .int x_16]) (rest := []) ⟨hx, hb, hml, hown, hts⟩ (c_X11_goesThrough l dC dI H.size g0 pq cp v fa (-1) x_16 x_16.toNatClampNeg (cn_le (n := 60) (by omega)) (cn_eq (n := 60) (by omega)) (Or.inl (by decide))) (cwV 2 hts gX11_act_X11_goesThrough rfl rfl rfl (by decide +kernel) ⟨(Nat.le_of_ble_eq_true rfl), (Nat.le_of_ble_eq_true rfl)⟩) (pr_V (r := (RX11, TX11, 63)) hP hK hD 0 11 rfl rfl) rfl rfl hl.1 rfl (lv_room (Nat.le_of_ble_eq_true rfl)) dX11_act_59 ⟨(Nat.le_of_ble_eq_true rfl), (Nat.le_of_ble_eq_true rfl)⟩) hS (fun q _ h => hFc q h) hFc (fun r_18 u t H locs ht hvm w_17 hB hz1 hk1 hS => ?_)
          obtain ⟨v_19, fa_20⟩ := u
          obtain ⟨hP1, hK1, hD1⟩ := hB
          rw [ht] at hP1
          have hP : va_P (dC, dI) vwCl (mW g0 pq cp v_19 fa_20) H := hP1
          have hD : va_D A (mW g0 pq cp v_19 fa_20) := hD1.weaken (fun _ _ _ h => hFc _ h)
          clear hP1 hK1 hD1 hk1 hz1 hvm ht hFc
          obtain ⟨hr_21, efhr_21⟩ := w_17
          dsimp only at hr_21 efhr_21
          have hVv_19 : mV v_19 := rd_V gV hr_21
          have hAfa_20 : mA fa_20 := by rw [efhr_21]; exact gA
          have hr_21 := rd_R hr_21 efhr_21
          have g_22 : (v_19 42).toInt = (v 42).toInt := congrArg Int32.toInt (hr_21.1 42 rfl)
          have g_23 : (v_19 46).toInt = (v 46).toInt := congrArg Int32.toInt (hr_21.1 46 rfl)
          have R_24 : v_19 38 = v 38 := (scr.now hr_21).trans rfl
          refine lv_istore_n (lv' := [(3, .int r_18), (0, .ref g0), (1, .int x1), (2, .int x2)]) hx hb dX11_act_62 rfl hl (by decide) rfl (fun ls hl => ?_)
          refine lv_aload_n hx hb dX11_act_63 rfl (lv_at hl 1 rfl) ?_
          refine va_get (D := (dC, dI)) (ci := 11) (v := .int (v_19 51)) (C := RX11) (T := TX11) (N := 63) hx hb hts in_wsX11_act_X11 hown hK hP 0 rfl rfl 51 (by decide) (hts (.fieldLink RX11 223 "ShipOfficeModel" "isWell" "Z") (by decide +kernel)) (fun _ h9 => h9) rfl dX11_act_64 ?_
          refine lv_topi (fun x_25 ex_25 => ?_)
          clear ex_25
          refine lv_if_eq (tgt := 85) hx hb dX11_act_67 (by decide) (fun c_26 => ?_) (fun c_26 => ?_)
          · have dc_26 := c_eq (a := x_25.toInt) (b := 0) rfl (by decide) c_26
            refine lv_iconst (v := 0) hx hb dX11_act_85 (by decide) ?_
            refine lv_istore (lv' := [(4, .int 0), (3, .int r_18), (0, .ref g0), (1, .int x1), (2, .int x2)]) hx hb dX11_act_86 hl (by decide) rfl (fun ls hl => ?_)
            refine lv_aload_n hx hb dX11_act_88 rfl (lv_at hl 2 rfl) ?_
            refine va_get (D := (dC, dI)) (ci := 11) (v := .int (v_19 46)) (C := RX11) (T := TX11) (N := 63) hx hb hts in_wsX11_act_X11 hown hK hP 0 rfl rfl 46 (by decide) (hts (.fieldLink RX11 205 "ShipOfficeModel" "taped" "I") (by decide +kernel)) (fun _ h9 => h9) rfl dX11_act_89 ?_
            refine lv_topi (fun x_27 ex_27 => ?_)
            have hx_27 : 0 ≤ x_27.toInt ∧ x_27.toInt ≤ 60 := iv_of ex_27 (hVv_19 46)
            have gx_27 : x_27.toInt = (v_19 46).toInt := iv_to ex_27
            clear ex_27
            refine lv_istore (lv' := [(5, .int x_27), (4, .int 0), (3, .int r_18), (0, .ref g0), (1, .int x1), (2, .int x2)]) hx hb dX11_act_92 hl (by decide) rfl (fun ls hl => ?_)
            refine lv_aload_n hx hb dX11_act_94 rfl (lv_at hl 3 rfl) ?_
            refine lv_iconst (v := 0) hx hb dX11_act_95 (by decide) ?_
            refine va_put (D := (dC, dI)) (ci := 11) (v := .int 0) (ty := .int) (C := RX11) (T := TX11) (N := 63) hx hb hts in_wsX11_act_X11 tyX11 tyX11_ok nmX11 hown hK hP hD hS 0 rfl rfl 46 (by decide) (hts (.fieldLink RX11 205 "ShipOfficeModel" "taped" "I") (by decide +kernel)) (fun _ h9 => h9) rfl (by decide +kernel) rfl rfl (Nat.le_of_ble_eq_true rfl) dX11_act_96 (fun H locs hP hD hS => ?_)
            have hP : va_P (dC, dI) vwCl (mW g0 pq cp (upd v_19 46 0) fa_20) H := hP
            have hD : va_D A (mW g0 pq cp (upd v_19 46 0) fa_20) := hD
            obtain ⟨z_28, ez_28⟩ : ∃ zq, zq = (upd v_19 46 0) := ⟨_, rfl⟩
            rw [← ez_28] at hP hD
            have hVz_28 : mV z_28 := by rw [ez_28]; exact mV_upd (lo := 0) (hi := 60) hVv_19 rfl rfl (by decide)
            have hRz_28 : z_28 38 = v 38 := by rw [ez_28]; exact (if_neg (by decide)).trans R_24
            have g_29 : (z_28 42).toInt = (v_19 42).toInt := by rw [ez_28]; exact congrArg Int32.toInt (if_neg (by decide))
            have g_30 : (z_28 46).toInt = 0 := by rw [ez_28, show upd v_19 46 0 46 = 0 from if_pos rfl]; decide
            refine lv_iload hx hb dX11_act_99 (lv_at hl 1 rfl) ?_
            refine lv_if_ne (tgt := 112) hx hb dX11_act_101 (by decide) (fun c_31 => absurd c_31 (by decide)) (fun _ => ?_)
            refine lv_bipush (v := (-20)) hx hb dX11_act_104 (by decide) ?_
            refine lv_aload_n hx hb dX11_act_106 rfl (lv_at hl 3 rfl) ?_
            refine va_get (D := (dC, dI)) (ci := 11) (v := .int (z_28 47)) (C := RX11) (T := TX11) (N := 63) hx hb hts in_wsX11_act_X11 hown hK hP 0 rfl rfl 47 (by decide) (hts (.fieldLink RX11 210 "ShipOfficeModel" "at" "I") (by decide +kernel)) (fun _ h9 => h9) rfl dX11_act_107 ?_
            refine lv_topi (fun x_32 ex_32 => ?_)
            clear ex_32
            refine lv_isub hx hb dX11_act_110 ?_
            refine lv_topi (fun x_33 ex_33 => ?_)
            clear ex_33
            exact W.iret (v := x_33) hx hb hr (fun t ht hW => ⟨⟨x_33, (z_28, fa_20), rfl, ⟨hVz_28, hAfa_20, hRz_28⟩, ⟨by rw [ht]; exact hP, va_K.moved hW.alike hK, hD⟩⟩, hS.F ht⟩) hS.2.2 dX11_act_111
          · have dc_26 := c_ne (a := x_25.toInt) (b := 0) rfl (by decide) c_26
            refine lv_aload_n hx hb dX11_act_70 rfl (lv_at hl 1 rfl) ?_
            refine va_get (D := (dC, dI)) (ci := 11) (v := .int (v_19 47)) (C := RX11) (T := TX11) (N := 63) hx hb hts in_wsX11_act_X11 hown hK hP 0 rfl rfl 47 (by decide) (hts (.fieldLink RX11 210 "ShipOfficeModel" "at" "I") (by decide +kernel)) (fun _ h9 => h9) rfl dX11_act_71 ?_
            refine lv_topi (fun x_34 ex_34 => ?_)
            clear ex_34
            refine lv_aload_n hx hb dX11_act_74 rfl (lv_at hl 1 rfl) ?_
            refine va_get (D := (dC, dI)) (ci := 11) (v := .int (v_19 46)) (C := RX11) (T := TX11) (N := 63) hx hb hts in_wsX11_act_X11 hown hK hP 0 rfl rfl 46 (by decide) (hts (.fieldLink RX11 205 "ShipOfficeModel" "taped" "I") (by decide +kernel)) (fun _ h9 => h9) rfl dX11_act_75 ?_
            refine lv_topi (fun x_35 ex_35 => ?_)
            have hx_35 : 0 ≤ x_35.toInt ∧ x_35.toInt ≤ 60 := iv_of ex_35 (hVv_19 46)
            have gx_35 : x_35.toInt = (v_19 46).toInt := iv_to ex_35
            clear ex_35
            refine lv_icmp_ne (tgt := 85) hx hb dX11_act_78 (by decide) (fun c_36 => ?_) (fun c_36 => ?_)
            · have dc_36 := c_ne (a := x_34.toInt) (b := x_35.toInt) rfl rfl c_36
              refine lv_iconst (v := 0) hx hb dX11_act_85 (by decide) ?_
              refine lv_istore (lv' := [(4, .int 0), (3, .int r_18), (0, .ref g0), (1, .int x1), (2, .int x2)]) hx hb dX11_act_86 hl (by decide) rfl (fun ls hl => ?_)
              refine lv_aload_n hx hb dX11_act_88 rfl (lv_at hl 2 rfl) ?_
              refine va_get (D := (dC, dI)) (ci := 11) (v := .int (v_19 46)) (C := RX11) (T := TX11) (N := 63) hx hb hts in_wsX11_act_X11 hown hK hP 0 rfl rfl 46 (by decide) (hts (.fieldLink RX11 205 "ShipOfficeModel" "taped" "I") (by decide +kernel)) (fun _ h9 => h9) rfl dX11_act_89 ?_
              refine lv_topi (fun x_37 ex_37 => ?_)
              have hx_37 : 0 ≤ x_37.toInt ∧ x_37.toInt ≤ 60 := iv_of ex_37 (hVv_19 46)
              have gx_37 : x_37.toInt = (v_19 46).toInt := iv_to ex_37
              clear ex_37
              refine lv_istore (lv' := [(5, .int x_37), (4, .int 0), (3, .int r_18), (0, .ref g0), (1, .int x1), (2, .int x2)]) hx hb dX11_act_92 hl (by decide) rfl (fun ls hl => ?_)
              refine lv_aload_n hx hb dX11_act_94 rfl (lv_at hl 3 rfl) ?_
              refine lv_iconst (v := 0) hx hb dX11_act_95 (by decide) ?_
              refine va_put (D := (dC, dI)) (ci := 11) (v := .int 0) (ty := .int) (C := RX11) (T := TX11) (N := 63) hx hb hts in_wsX11_act_X11 tyX11 tyX11_ok nmX11 hown hK hP hD hS 0 rfl rfl 46 (by decide) (hts (.fieldLink RX11 205 "ShipOfficeModel" "taped" "I") (by decide +kernel)) (fun _ h9 => h9) rfl (by decide +kernel) rfl rfl (Nat.le_of_ble_eq_true rfl) dX11_act_96 (fun H locs hP hD hS => ?_)
              have hP : va_P (dC, dI) vwCl (mW g0 pq cp (upd v_19 46 0) fa_20) H := hP
              have hD : va_D A (mW g0 pq cp (upd v_19 46 0) fa_20) := hD
              obtain ⟨z_38, ez_38⟩ : ∃ zq, zq = (upd v_19 46 0) := ⟨_, rfl⟩
              rw [← ez_38] at hP hD
              have hVz_38 : mV z_38 := by rw [ez_38]; exact mV_upd (lo := 0) (hi := 60) hVv_19 rfl rfl (by decide)
              have hRz_38 : z_38 38 = v 38 := by rw [ez_38]; exact (if_neg (by decide)).trans R_24
              have g_39 : (z_38 42).toInt = (v_19 42).toInt := by rw [ez_38]; exact congrArg Int32.toInt (if_neg (by decide))
              have g_40 : (z_38 46).toInt = 0 := by rw [ez_38, show upd v_19 46 0 46 = 0 from if_pos rfl]; decide
              refine lv_iload hx hb dX11_act_99 (lv_at hl 1 rfl) ?_
              refine lv_if_ne (tgt := 112) hx hb dX11_act_101 (by decide) (fun c_41 => absurd c_41 (by decide)) (fun _ => ?_)
              refine lv_bipush (v := (-20)) hx hb dX11_act_104 (by decide) ?_
              refine lv_aload_n hx hb dX11_act_106 rfl (lv_at hl 3 rfl) ?_
              refine va_get (D := (dC, dI)) (ci := 11) (v := .int (z_38 47)) (C := RX11) (T := TX11) (N := 63) hx hb hts in_wsX11_act_X11 hown hK hP 0 rfl rfl 47 (by decide) (hts (.fieldLink RX11 210 "ShipOfficeModel" "at" "I") (by decide +kernel)) (fun _ h9 => h9) rfl dX11_act_107 ?_
              refine lv_topi (fun x_42 ex_42 => ?_)
              clear ex_42
              refine lv_isub hx hb dX11_act_110 ?_
              refine lv_topi (fun x_43 ex_43 => ?_)
              clear ex_43
              exact W.iret (v := x_43) hx hb hr (fun t ht hW => ⟨⟨x_43, (z_38, fa_20), rfl, ⟨hVz_38, hAfa_20, hRz_38⟩, ⟨by rw [ht]; exact hP, va_K.moved hW.alike hK, hD⟩⟩, hS.F ht⟩) hS.2.2 dX11_act_111
            · have dc_36 := c_eq (a := x_34.toInt) (b := x_35.toInt) rfl rfl c_36
              refine lv_iconst (v := 1) hx hb dX11_act_81 (by decide) ?_
              refine lv_goto (tgt := 86) hx hb dX11_act_82 (by decide) ?_
              refine lv_istore (lv' := [(4, .int 1), (3, .int r_18), (0, .ref g0), (1, .int x1), (2, .int x2)]) hx hb dX11_act_86 hl (by decide) rfl (fun ls hl => ?_)
              refine lv_aload_n hx hb dX11_act_88 rfl (lv_at hl 2 rfl) ?_
              refine va_get (D := (dC, dI)) (ci := 11) (v := .int (v_19 46)) (C := RX11) (T := TX11) (N := 63) hx hb hts in_wsX11_act_X11 hown hK hP 0 rfl rfl 46 (by decide) (hts (.fieldLink RX11 205 "ShipOfficeModel" "taped" "I") (by decide +kernel)) (fun _ h9 => h9) rfl dX11_act_89 ?_
              refine lv_topi (fun x_44 ex_44 => ?_)
              have hx_44 : 0 ≤ x_44.toInt ∧ x_44.toInt ≤ 60 := iv_of ex_44 (hVv_19 46)
              have gx_44 : x_44.toInt = (v_19 46).toInt := iv_to ex_44
              clear ex_44
              refine lv_istore (lv' := [(5, .int x_44), (4, .int 1), (3, .int r_18), (0, .ref g0), (1, .int x1), (2, .int x2)]) hx hb dX11_act_92 hl (by decide) rfl (fun ls hl => ?_)
              refine lv_aload_n hx hb dX11_act_94 rfl (lv_at hl 3 rfl) ?_
              refine lv_iconst (v := 0) hx hb dX11_act_95 (by decide) ?_
              refine va_put (D := (dC, dI)) (ci := 11) (v := .int 0) (ty := .int) (C := RX11) (T := TX11) (N := 63) hx hb hts in_wsX11_act_X11 tyX11 tyX11_ok nmX11 hown hK hP hD hS 0 rfl rfl 46 (by decide) (hts (.fieldLink RX11 205 "ShipOfficeModel" "taped" "I") (by decide +kernel)) (fun _ h9 => h9) rfl (by decide +kernel) rfl rfl (Nat.le_of_ble_eq_true rfl) dX11_act_96 (fun H locs hP hD hS => ?_)
              have hP : va_P (dC, dI) vwCl (mW g0 pq cp (upd v_19 46 0) fa_20) H := hP
              have hD : va_D A (mW g0 pq cp (upd v_19 46 0) fa_20) := hD
              obtain ⟨z_45, ez_45⟩ : ∃ zq, zq = (upd v_19 46 0) := ⟨_, rfl⟩
              rw [← ez_45] at hP hD
              have hVz_45 : mV z_45 := by rw [ez_45]; exact mV_upd (lo := 0) (hi := 60) hVv_19 rfl rfl (by decide)
              have hRz_45 : z_45 38 = v 38 := by rw [ez_45]; exact (if_neg (by decide)).trans R_24
              have g_46 : (z_45 42).toInt = (v_19 42).toInt := by rw [ez_45]; exact congrArg Int32.toInt (if_neg (by decide))
              have g_47 : (z_45 46).toInt = 0 := by rw [ez_45, show upd v_19 46 0 46 = 0 from if_pos rfl]; decide
              refine lv_iload hx hb dX11_act_99 (lv_at hl 1 rfl) ?_
              refine lv_if_ne (tgt := 112) hx hb dX11_act_101 (by decide) (fun _ => ?_) (fun c_48 => absurd c_48 (by decide))
              refine lv_iconst (v := 0) hx hb dX11_act_112 (by decide) ?_
              refine lv_istore (lv' := [(6, .int 0), (5, .int x_44), (4, .int 1), (3, .int r_18), (0, .ref g0), (1, .int x1), (2, .int x2)]) hx hb dX11_act_113 hl (by decide) rfl (fun ls hl => ?_)
              have cut_49 : ∀ (n : Nat) (y_50 : Int32) (z_51 : Nat → Int32) (fz_52 : Nat → Nat → Int32) (H : Heap) (locs : List Loc) (ls : Array Slot), 60 - y_50.toInt ≤ (n : Int) → (0 ≤ y_50.toInt ∧ y_50.toInt ≤ 60) → mV z_51 → mA fz_52 → z_51 38 = v 38 → va_P (dC, dI) vwCl (mW g0 pq cp z_51 fz_52) H → va_D A (mW g0 pq cp z_51 fz_52) → va_S A s.heap H locs → (z_51 42).toInt = (z_45 42).toInt → (z_51 46).toInt = (z_45 46).toInt → lv_has ls 7 [(6, .int y_50), (5, .int x_44), (4, .int 1), (3, .int r_18), (0, .ref g0), (1, .int x1), (2, .int x2)] → W p l e (headSpec wsX11_act { frames := 20, cells := 0, slots := 0, locals := 463 }).room s m #[Value.ref g0, Value.int x1, Value.int x2] below meth c H locs 0 0 (MQ below (va_Qi (fun (r : Int32) (u : (Nat → Int32) × (Nat → Nat → Int32)) => mV u.1 ∧ mA u.2 ∧ u.1 38 = v 38) (fun u t => va_P (dC, dI) vwCl (mW g0 pq cp u.1 u.2) t.heap ∧ va_K (dC, dI) vwCl (mT cp) t ∧ va_D A (mW g0 pq cp u.1 u.2)) A) #[Value.ref g0, Value.int x1, Value.int x2] s 0 0 A) (F0 m 115 ls []) := by
                intro n
                induction n using Nat.strongRecOn with
                | ind n ih =>
                  intro y_50 z_51 fz_52 H locs ls hm hy_50 hVz_51 hAz_51 hRz_51 hP hD hS g_53 g_54 hl
                  refine lv_iload hx hb dX11_act_115 (lv_at hl 0 rfl) ?_
                  refine lv_iload hx hb dX11_act_117 (lv_at hl 1 rfl) ?_
                  refine lv_icmp_ge (tgt := 150) hx hb dX11_act_119 (by decide) (fun c_55 => ?_) (fun c_55 => ?_)
                  · have dc_55 := c_le (a := x_44.toInt) (b := y_50.toInt) rfl rfl c_55
                    refine lv_aload_n hx hb dX11_act_150 rfl (lv_at hl 4 rfl) ?_
                    refine va_get (D := (dC, dI)) (ci := 11) (v := .ref (pq 16)) (C := RX11) (T := TX11) (N := 63) hx hb hts in_wsX11_act_X11 hown hK hP 0 rfl rfl 16 (by decide) (hts (.fieldLink RX11 58 "ShipOfficeModel" "textSize" "[I") (by decide +kernel)) (fun _ h9 => h9) rfl dX11_act_151 ?_
                    refine lv_aload_n hx hb dX11_act_154 rfl (lv_at hl 4 rfl) ?_
                    refine va_get (D := (dC, dI)) (ci := 11) (v := .int (z_51 42)) (C := RX11) (T := TX11) (N := 63) hx hb hts in_wsX11_act_X11 hown hK hP 0 rfl rfl 42 (by decide) (hts (.fieldLink RX11 256 "ShipOfficeModel" "acts" "I") (by decide +kernel)) (fun _ h9 => h9) rfl dX11_act_155 ?_
                    refine lv_topi (fun x_56 ex_56 => ?_)
                    have hx_56 : 0 ≤ x_56.toInt ∧ x_56.toInt ≤ 30 := iv_of ex_56 (hVz_51 42)
                    have gx_56 : x_56.toInt = (z_51 42).toInt := iv_to ex_56
                    clear ex_56
                    refine lv_iload hx hb dX11_act_158 (lv_at hl 1 rfl) ?_
                    refine va_iast hx hb hK hP hD hS 17 16 rfl rfl (vp_in_iff.mpr (by omega)) dX11_act_160 (fun H locs hP hD hS => ?_)
                    have hP : va_P (dC, dI) vwCl (mW g0 pq cp z_51 (upF fz_52 16 (x_56 : Int32).toNatClampNeg x_44)) H := hP
                    have hD : va_D A (mW g0 pq cp z_51 (upF fz_52 16 (x_56 : Int32).toNatClampNeg x_44)) := hD
                    obtain ⟨fz_57, efz_57⟩ : ∃ zq, zq = (upF fz_52 16 (x_56 : Int32).toNatClampNeg x_44) := ⟨_, rfl⟩
                    rw [← efz_57] at hP hD
                    have hAfz_57 : mA fz_57 := by rw [efz_57]; exact mA_upF (lo := 0) (hi := 60) hAz_51 rfl rfl (by omega)
                    refine lv_aload_n hx hb dX11_act_161 rfl (lv_at hl 4 rfl) ?_
                    refine va_get (D := (dC, dI)) (ci := 11) (v := .ref (pq 17)) (C := RX11) (T := TX11) (N := 63) hx hb hts in_wsX11_act_X11 hown hK hP 0 rfl rfl 17 (by decide) (hts (.fieldLink RX11 61 "ShipOfficeModel" "purpose" "[I") (by decide +kernel)) (fun _ h9 => h9) rfl dX11_act_162 ?_
                    refine lv_aload_n hx hb dX11_act_165 rfl (lv_at hl 4 rfl) ?_
                    refine va_get (D := (dC, dI)) (ci := 11) (v := .int (z_51 42)) (C := RX11) (T := TX11) (N := 63) hx hb hts in_wsX11_act_X11 hown hK hP 0 rfl rfl 42 (by decide) (hts (.fieldLink RX11 256 "ShipOfficeModel" "acts" "I") (by decide +kernel)) (fun _ h9 => h9) rfl dX11_act_166 ?_
                    refine lv_topi (fun x_58 ex_58 => ?_)
                    have hx_58 : 0 ≤ x_58.toInt ∧ x_58.toInt ≤ 30 := iv_of ex_58 (hVz_51 42)
                    have gx_58 : x_58.toInt = (z_51 42).toInt := iv_to ex_58
                    clear ex_58
                    refine lv_iload_n hx hb dX11_act_169 rfl (lv_at hl 5 rfl) ?_
                    refine va_iast hx hb hK hP hD hS 18 17 rfl rfl (vp_in_iff.mpr (by omega)) dX11_act_170 (fun H locs hP hD hS => ?_)
                    have hP : va_P (dC, dI) vwCl (mW g0 pq cp z_51 (upF fz_57 17 (x_58 : Int32).toNatClampNeg x1)) H := hP
                    have hD : va_D A (mW g0 pq cp z_51 (upF fz_57 17 (x_58 : Int32).toNatClampNeg x1)) := hD
                    obtain ⟨fz_59, efz_59⟩ : ∃ zq, zq = (upF fz_57 17 (x_58 : Int32).toNatClampNeg x1) := ⟨_, rfl⟩
                    rw [← efz_59] at hP hD
                    have hAfz_59 : mA fz_59 := by rw [efz_59]; exact mA_upF (lo := -2147483648) (hi := 2147483647) hAfz_57 rfl rfl (iv_all _)
                    refine lv_aload_n hx hb dX11_act_171 rfl (lv_at hl 4 rfl) ?_
                    refine va_get (D := (dC, dI)) (ci := 11) (v := .ref (pq 18)) (C := RX11) (T := TX11) (N := 63) hx hb hts in_wsX11_act_X11 hown hK hP 0 rfl rfl 18 (by decide) (hts (.fieldLink RX11 64 "ShipOfficeModel" "from" "[I") (by decide +kernel)) (fun _ h9 => h9) rfl dX11_act_172 ?_
                    refine lv_aload_n hx hb dX11_act_175 rfl (lv_at hl 4 rfl) ?_
                    refine va_get (D := (dC, dI)) (ci := 11) (v := .int (z_51 42)) (C := RX11) (T := TX11) (N := 63) hx hb hts in_wsX11_act_X11 hown hK hP 0 rfl rfl 42 (by decide) (hts (.fieldLink RX11 256 "ShipOfficeModel" "acts" "I") (by decide +kernel)) (fun _ h9 => h9) rfl dX11_act_176 ?_
                    refine lv_topi (fun x_60 ex_60 => ?_)
                    have hx_60 : 0 ≤ x_60.toInt ∧ x_60.toInt ≤ 30 := iv_of ex_60 (hVz_51 42)
                    have gx_60 : x_60.toInt = (z_51 42).toInt := iv_to ex_60
                    clear ex_60
                    refine lv_iload_n hx hb dX11_act_179 rfl (lv_at hl 6 rfl) ?_
                    refine va_iast hx hb hK hP hD hS 19 18 rfl rfl (vp_in_iff.mpr (by omega)) dX11_act_180 (fun H locs hP hD hS => ?_)
                    have hP : va_P (dC, dI) vwCl (mW g0 pq cp z_51 (upF fz_59 18 (x_60 : Int32).toNatClampNeg x2)) H := hP
                    have hD : va_D A (mW g0 pq cp z_51 (upF fz_59 18 (x_60 : Int32).toNatClampNeg x2)) := hD
                    obtain ⟨fz_61, efz_61⟩ : ∃ zq, zq = (upF fz_59 18 (x_60 : Int32).toNatClampNeg x2) := ⟨_, rfl⟩
                    rw [← efz_61] at hP hD
                    have hAfz_61 : mA fz_61 := by rw [efz_61]; exact mA_upF (lo := -2147483648) (hi := 2147483647) hAfz_59 rfl rfl (iv_all _)
                    refine lv_aload_n hx hb dX11_act_181 rfl (lv_at hl 4 rfl) ?_
                    refine lv_dup hx hb dX11_act_182 rfl ?_
                    refine va_get (D := (dC, dI)) (ci := 11) (v := .int (z_51 42)) (C := RX11) (T := TX11) (N := 63) hx hb hts in_wsX11_act_X11 hown hK hP 0 rfl rfl 42 (by decide) (hts (.fieldLink RX11 256 "ShipOfficeModel" "acts" "I") (by decide +kernel)) (fun _ h9 => h9) rfl dX11_act_183 ?_
                    refine lv_topi (fun x_62 ex_62 => ?_)
                    have hx_62 : 0 ≤ x_62.toInt ∧ x_62.toInt ≤ 30 := iv_of ex_62 (hVz_51 42)
                    have gx_62 : x_62.toInt = (z_51 42).toInt := iv_to ex_62
                    clear ex_62
                    refine lv_iconst (v := 1) hx hb dX11_act_186 (by decide) ?_
                    refine lv_iadd hx hb dX11_act_187 ?_
                    refine lv_topi (fun x_63 ex_63 => ?_)
                    have hx_63 : x_63.toInt = x_62.toInt + 1 := (iv_to ex_63).trans (ad_i rfl (by decide) (by omega) (by omega))
                    clear ex_63
                    refine va_put (D := (dC, dI)) (ci := 11) (v := .int x_63) (ty := .int) (C := RX11) (T := TX11) (N := 63) hx hb hts in_wsX11_act_X11 tyX11 tyX11_ok nmX11 hown hK hP hD hS 0 rfl rfl 42 (by decide) (hts (.fieldLink RX11 256 "ShipOfficeModel" "acts" "I") (by decide +kernel)) (fun _ h9 => h9) rfl (by decide +kernel) rfl rfl (Nat.le_of_ble_eq_true rfl) dX11_act_188 (fun H locs hP hD hS => ?_)
                    have hP : va_P (dC, dI) vwCl (mW g0 pq cp (upd z_51 42 x_63) fz_61) H := hP
                    have hD : va_D A (mW g0 pq cp (upd z_51 42 x_63) fz_61) := hD
                    obtain ⟨z_64, ez_64⟩ : ∃ zq, zq = (upd z_51 42 x_63) := ⟨_, rfl⟩
                    rw [← ez_64] at hP hD
                    have hVz_64 : mV z_64 := by rw [ez_64]; exact mV_upd (lo := 0) (hi := 30) hVz_51 rfl rfl (by omega)
                    have hRz_64 : z_64 38 = v 38 := by rw [ez_64]; exact (if_neg (by decide)).trans hRz_51
                    have g_65 : (z_64 42).toInt = x_63.toInt := by rw [ez_64, show upd z_51 42 x_63 42 = x_63 from if_pos rfl]
                    have g_66 : (z_64 46).toInt = (z_51 46).toInt := by rw [ez_64]; exact congrArg Int32.toInt (if_neg (by decide))
                    refine lv_aload_n hx hb dX11_act_191 rfl (lv_at hl 4 rfl) ?_
                    refine va_get (D := (dC, dI)) (ci := 11) (v := .int (z_64 42)) (C := RX11) (T := TX11) (N := 63) hx hb hts in_wsX11_act_X11 hown hK hP 0 rfl rfl 42 (by decide) (hts (.fieldLink RX11 256 "ShipOfficeModel" "acts" "I") (by decide +kernel)) (fun _ h9 => h9) rfl dX11_act_192 ?_
                    refine lv_topi (fun x_67 ex_67 => ?_)
                    have hx_67 : 0 ≤ x_67.toInt ∧ x_67.toInt ≤ 30 := iv_of ex_67 (hVz_64 42)
                    have gx_67 : x_67.toInt = (z_64 42).toInt := iv_to ex_67
                    clear ex_67
                    exact W.iret (v := x_67) hx hb hr (fun t ht hW => ⟨⟨x_67, (z_64, fz_61), rfl, ⟨hVz_64, hAfz_61, hRz_64⟩, ⟨by rw [ht]; exact hP, va_K.moved hW.alike hK, hD⟩⟩, hS.F ht⟩) hS.2.2 dX11_act_195
                  · have dc_55 := c_nle (a := x_44.toInt) (b := y_50.toInt) rfl rfl c_55
                    refine lv_aload_n hx hb dX11_act_122 rfl (lv_at hl 4 rfl) ?_
                    refine va_get (D := (dC, dI)) (ci := 11) (v := .ref (pq 19)) (C := RX11) (T := TX11) (N := 63) hx hb hts in_wsX11_act_X11 hown hK hP 0 rfl rfl 19 (by decide) (hts (.fieldLink RX11 67 "ShipOfficeModel" "text" "[I") (by decide +kernel)) (fun _ h9 => h9) rfl dX11_act_123 ?_
                    refine lv_bipush (v := 60) hx hb dX11_act_126 (by decide) ?_
                    refine lv_aload_n hx hb dX11_act_128 rfl (lv_at hl 4 rfl) ?_
                    refine va_get (D := (dC, dI)) (ci := 11) (v := .int (z_51 42)) (C := RX11) (T := TX11) (N := 63) hx hb hts in_wsX11_act_X11 hown hK hP 0 rfl rfl 42 (by decide) (hts (.fieldLink RX11 256 "ShipOfficeModel" "acts" "I") (by decide +kernel)) (fun _ h9 => h9) rfl dX11_act_129 ?_
                    refine lv_topi (fun x_68 ex_68 => ?_)
                    have hx_68 : 0 ≤ x_68.toInt ∧ x_68.toInt ≤ 30 := iv_of ex_68 (hVz_51 42)
                    have gx_68 : x_68.toInt = (z_51 42).toInt := iv_to ex_68
                    clear ex_68
                    refine lv_imul hx hb dX11_act_132 ?_
                    refine lv_topi (fun x_69 ex_69 => ?_)
                    have hx_69 : x_69.toInt = 60 * x_68.toInt := (iv_to ex_69).trans (mu_i (by decide) rfl (by omega) (by omega))
                    clear ex_69
                    refine lv_iload hx hb dX11_act_133 (lv_at hl 0 rfl) ?_
                    refine lv_iadd hx hb dX11_act_135 ?_
                    refine lv_topi (fun x_70 ex_70 => ?_)
                    have hx_70 : x_70.toInt = x_69.toInt + y_50.toInt := (iv_to ex_70).trans (ad_i rfl rfl (by omega) (by omega))
                    clear ex_70
                    refine lv_aload_n hx hb dX11_act_136 rfl (lv_at hl 4 rfl) ?_
                    refine va_get (D := (dC, dI)) (ci := 11) (v := .ref (pq 44)) (C := RX11) (T := TX11) (N := 63) hx hb hts in_wsX11_act_X11 hown hK hP 0 rfl rfl 44 (by decide) (hts (.fieldLink RX11 125 "ShipOfficeModel" "tape" "[I") (by decide +kernel)) (fun _ h9 => h9) rfl dX11_act_137 ?_
                    refine lv_iload hx hb dX11_act_140 (lv_at hl 0 rfl) ?_
                    refine va_iald hx hb hK hP 39 38 rfl rfl (vp_in_iff.mpr (by omega)) dX11_act_142 ?_
                    refine lv_topi (fun x_71 ex_71 => ?_)
                    clear ex_71
                    refine va_iast hx hb hK hP hD hS 20 19 rfl rfl (vp_in_iff.mpr (by omega)) dX11_act_143 (fun H locs hP hD hS => ?_)
                    have hP : va_P (dC, dI) vwCl (mW g0 pq cp z_51 (upF fz_52 19 (x_70 : Int32).toNatClampNeg x_71)) H := hP
                    have hD : va_D A (mW g0 pq cp z_51 (upF fz_52 19 (x_70 : Int32).toNatClampNeg x_71)) := hD
                    obtain ⟨fz_72, efz_72⟩ : ∃ zq, zq = (upF fz_52 19 (x_70 : Int32).toNatClampNeg x_71) := ⟨_, rfl⟩
                    rw [← efz_72] at hP hD
                    have hAfz_72 : mA fz_72 := by rw [efz_72]; exact mA_upF (lo := -2147483648) (hi := 2147483647) hAz_51 rfl rfl (iv_all _)
                    obtain ⟨x_73, ex_73⟩ : ∃ zq : Int32, y_50 + 1 = zq := ⟨_, rfl⟩
                    have hx_73 : x_73.toInt = y_50.toInt + 1 := (iv_to ex_73).symm.trans (ad_i rfl (by decide) (by omega) (by omega))
                    refine lv_iinc (v := x_73) (lv' := [(6, .int x_73), (5, .int x_44), (4, .int 1), (3, .int r_18), (0, .ref g0), (1, .int x1), (2, .int x2)]) hx hb dX11_act_144 hl (k := 0) rfl ex_73 (by decide) rfl (fun ls hl => ?_)
                    clear ex_73
                    refine lv_goto (tgt := 115) hx hb dX11_act_147 (by decide) ?_
                    exact ih (n - 1) (by omega) x_73 z_51 fz_72 _ _ ls (by omega) (by omega) hVz_51 hAfz_72 hRz_51 hP hD hS (by omega) (by omega) (lv_sub hl [0, 1, 2, 3, 4, 5, 6] rfl)
              have kc_74 : (0 : Int32).toInt = 0 := by decide
              exact cut_49 61 0 z_45 fa_20 _ _ ls (by omega) (by decide) hVz_45 hAfa_20 hRz_45 hP hD hS (by omega) (by omega) (lv_sub hl [0, 1, 2, 3, 4, 5, 6] rfl)
        · have dc_15 := c_eq (a := x_14.toInt) (b := 30) rfl (by decide) c_15
          refine lv_aload_n hx hb dX11_act_46 rfl (lv_at hl 0 rfl) ?_
          refine lv_bipush (v := (-6)) hx hb dX11_act_47 (by decide) ?_
          have hFc := va_free (wc := (mW g0 pq cp v fa)) hD hS hA (List.range 48) rfl
          refine va_calli (va_runV (As := [.int (-6)]) (rest := []) ⟨hx, hb, hml, hown, hts⟩ (c_X11_refuse l dC dI H.size g0 pq cp v fa (-6) (by unfold vp_in; decide)) (cwV 1 hts gX11_act_X11_refuse rfl rfl rfl (by decide +kernel) ⟨(Nat.le_of_ble_eq_true rfl), (Nat.le_of_ble_eq_true rfl)⟩) (pr_V (r := (RX11, TX11, 63)) hP hK hD 0 11 rfl rfl) rfl rfl hl.1 rfl (lv_room (Nat.le_of_ble_eq_true rfl)) dX11_act_49 ⟨(Nat.le_of_ble_eq_true rfl), (Nat.le_of_ble_eq_true rfl)⟩) hS (fun q _ h => hFc q h) hFc (fun r_76 u t H locs ht hvm w_75 hB hz1 hk1 hS => ?_)
          obtain ⟨v_77, fa_78⟩ := u
          obtain ⟨hP1, hK1, hD1⟩ := hB
          rw [ht] at hP1
          have hP : va_P (dC, dI) vwCl (mW g0 pq cp v_77 fa_78) H := hP1
          have hD : va_D A (mW g0 pq cp v_77 fa_78) := hD1.weaken (fun _ _ _ h => hFc _ h)
          clear hP1 hK1 hD1 hk1 hz1 hvm ht hFc
          obtain ⟨rfl, w_75⟩ := w_75
          have hVv_77 : mV v_77 := sm0_V w_75 gV
          have hAv_77 : mA fa_78 := sm0_A w_75 gA
          have g_79 : (v_77 42).toInt = (v 42).toInt := congrArg Int32.toInt (congrFun w_75.1 42)
          have g_80 : (v_77 46).toInt = (v 46).toInt := congrArg Int32.toInt (congrFun w_75.1 46)
          have hRv_77 : v_77 38 = v 38 := (congrFun w_75.1 38).trans rfl
          exact W.iret (v := (-6)) hx hb hr (fun t ht hW => ⟨⟨(-6), (v_77, fa_78), rfl, ⟨hVv_77, hAv_77, hRv_77⟩, ⟨by rw [ht]; exact hP, va_K.moved hW.alike hK, hD⟩⟩, hS.F ht⟩) hS.2.2 dX11_act_52
    · have dc_6 := c_nle (a := x_5.toInt) (b := x2.toInt) rfl rfl c_6
      refine lv_aload_n hx hb dX11_act_23 rfl (lv_at hl 0 rfl) ?_
      refine lv_bipush (v := (-4)) hx hb dX11_act_24 (by decide) ?_
      have hFc := va_free (wc := (mW g0 pq cp v fa)) hD hS hA (List.range 48) rfl
      refine va_calli (va_runV (As := [.int (-4)]) (rest := []) ⟨hx, hb, hml, hown, hts⟩ (c_X11_refuse l dC dI H.size g0 pq cp v fa (-4) (by unfold vp_in; decide)) (cwV 1 hts gX11_act_X11_refuse rfl rfl rfl (by decide +kernel) ⟨(Nat.le_of_ble_eq_true rfl), (Nat.le_of_ble_eq_true rfl)⟩) (pr_V (r := (RX11, TX11, 63)) hP hK hD 0 11 rfl rfl) rfl rfl hl.1 rfl (lv_room (Nat.le_of_ble_eq_true rfl)) dX11_act_26 ⟨(Nat.le_of_ble_eq_true rfl), (Nat.le_of_ble_eq_true rfl)⟩) hS (fun q _ h => hFc q h) hFc (fun r_82 u t H locs ht hvm w_81 hB hz1 hk1 hS => ?_)
      obtain ⟨v_83, fa_84⟩ := u
      obtain ⟨hP1, hK1, hD1⟩ := hB
      rw [ht] at hP1
      have hP : va_P (dC, dI) vwCl (mW g0 pq cp v_83 fa_84) H := hP1
      have hD : va_D A (mW g0 pq cp v_83 fa_84) := hD1.weaken (fun _ _ _ h => hFc _ h)
      clear hP1 hK1 hD1 hk1 hz1 hvm ht hFc
      obtain ⟨rfl, w_81⟩ := w_81
      have hVv_83 : mV v_83 := sm0_V w_81 gV
      have hAv_83 : mA fa_84 := sm0_A w_81 gA
      have g_85 : (v_83 42).toInt = (v 42).toInt := congrArg Int32.toInt (congrFun w_81.1 42)
      have g_86 : (v_83 46).toInt = (v 46).toInt := congrArg Int32.toInt (congrFun w_81.1 46)
      have hRv_83 : v_83 38 = v 38 := (congrFun w_81.1 38).trans rfl
      exact W.iret (v := (-4)) hx hb hr (fun t ht hW => ⟨⟨(-4), (v_83, fa_84), rfl, ⟨hVv_83, hAv_83, hRv_83⟩, ⟨by rw [ht]; exact hP, va_K.moved hW.alike hK, hD⟩⟩, hS.F ht⟩) hS.2.2 dX11_act_29
  · have dc_3 := c_eq (a := r_2.toInt) (b := 0) rfl (by decide) c_3
    refine lv_aload_n hx hb dX11_act_8 rfl (lv_at hl 0 rfl) ?_
    refine lv_bipush (v := (-2)) hx hb dX11_act_9 (by decide) ?_
    have hFc := va_free (wc := (mW g0 pq cp v fa)) hD hS hA (List.range 48) rfl
    refine va_calli (va_runV (As := [.int (-2)]) (rest := []) ⟨hx, hb, hml, hown, hts⟩ (c_X11_refuse l dC dI H.size g0 pq cp v fa (-2) (by unfold vp_in; decide)) (cwV 1 hts gX11_act_X11_refuse rfl rfl rfl (by decide +kernel) ⟨(Nat.le_of_ble_eq_true rfl), (Nat.le_of_ble_eq_true rfl)⟩) (pr_V (r := (RX11, TX11, 63)) hP hK hD 0 11 rfl rfl) rfl rfl hl.1 rfl (lv_room (Nat.le_of_ble_eq_true rfl)) dX11_act_11 ⟨(Nat.le_of_ble_eq_true rfl), (Nat.le_of_ble_eq_true rfl)⟩) hS (fun q _ h => hFc q h) hFc (fun r_88 u t H locs ht hvm w_87 hB hz1 hk1 hS => ?_)
    obtain ⟨v_89, fa_90⟩ := u
    obtain ⟨hP1, hK1, hD1⟩ := hB
    rw [ht] at hP1
    have hP : va_P (dC, dI) vwCl (mW g0 pq cp v_89 fa_90) H := hP1
    have hD : va_D A (mW g0 pq cp v_89 fa_90) := hD1.weaken (fun _ _ _ h => hFc _ h)
    clear hP1 hK1 hD1 hk1 hz1 hvm ht hFc
    obtain ⟨rfl, w_87⟩ := w_87
    have hVv_89 : mV v_89 := sm0_V w_87 gV
    have hAv_89 : mA fa_90 := sm0_A w_87 gA
    have g_91 : (v_89 42).toInt = (v 42).toInt := congrArg Int32.toInt (congrFun w_87.1 42)
    have g_92 : (v_89 46).toInt = (v 46).toInt := congrArg Int32.toInt (congrFun w_87.1 46)
    have hRv_89 : v_89 38 = v 38 := (congrFun w_87.1 38).trans rfl
    exact W.iret (v := (-2)) hx hb hr (fun t ht hW => ⟨⟨(-2), (v_89, fa_90), rfl, ⟨hVv_89, hAv_89, hRv_89⟩, ⟨by rw [ht]; exact hP, va_K.moved hW.alike hK, hD⟩⟩, hS.F ht⟩) hS.2.2 dX11_act_14
set_option maxHeartbeats 4000000 in
set_option maxRecDepth 100000 in
theorem c_X11_off (l : Launch) (dC : Nat → ClassId) (dI : Nat → Nat → Nat) (sz : Nat) (g0 : Nat) (pq : Nat → Nat) (cp : Nat → ClassId) (v : Nat → Int32) (fa : Nat → Nat → Int32) (gV : mV v) (gA : mA fa) (x1 : Int32) (x2 : Int32) : Met l yX11_off wsX11_off ({ frames := 2, cells := 0, slots := 0, locals := 44 }) (va_Pc [.ref g0, .int x1, .int x2] (pcW (dC, dI) (mT cp) (mW g0 pq cp v fa) sz)) (va_Qi (fun (r : Int32) (u : (Nat → Int32) × (Nat → Nat → Int32)) => mV u.1 ∧ mA u.2 ∧ u.1 38 = v 38) (fun u t => va_P (dC, dI) vwCl (mW g0 pq cp u.1 u.2) t.heap ∧ va_K (dC, dI) vwCl (mT cp) t ∧ va_D (va_A (mW g0 pq cp v fa) sz) (mW g0 pq cp u.1 u.2)) (va_A (mW g0 pq cp v fa) sz)) 0 0 (va_A (mW g0 pq cp v fa) sz) := by
  refine Met.ofW (cc := cX11_off) (maxL := 3) (ret := (some .int)) (by decide) rfl ?_
  intro p e s m args below meth c s₁ B hml hv
  obtain ⟨rfl, hsz, hP, hK, hD0⟩ := hv
  have hx := B.exec
  have hb := B.bytes
  have hr := B.returns
  have hts := atoms_spec (ws := wsX11_off) B.pre
  have hown : s.vm.findClass RX11 = some m.cls := findClass_of_methodNamed B.named
  have hlocks := B.notSynchronized
  subst hsz
  have hD := hD0.self (sz := s.heap.size)
  generalize hAe : va_A (mW g0 pq cp v fa) s.heap.size = A at hD ⊢
  have hA : ∀ q : Nat, s.heap.size ≤ q → A q := fun q h => by rw [← hAe]; exact Or.inr h
  have hS : va_S A s.heap s.heap [] := va_S.rf
  have hP : va_P (dC, dI) vwCl (mW g0 pq cp v fa) s.heap := hP
  have hl := lv_entry ([.ref g0, .int x1, .int x2]) (n := 3) (Nat.le_of_ble_eq_true rfl)
  rw [lg_entry_eq]
  generalize (lg_sl ([.ref g0, .int x1, .int x2]) ++ List.replicate (3 - (lg_sl ([.ref g0, .int x1, .int x2])).length) Slot.unset).toArray = ls at hl ⊢
  have hl : lv_has ls 3 [(0, .ref g0), (1, .int x1), (2, .int x2)] := hl
  refine lv_aload_n hx hb dX11_off_0 rfl (lv_at hl 0 rfl) ?_
  refine lv_iload_n hx hb dX11_off_1 rfl (lv_at hl 1 rfl) ?_
  have hFc : ∀ q, va_A [] s.heap.size q → A q := pu_free hS hA
  refine va_calli (va_runV (As := [.int x1]) (rest := []) ⟨hx, hb, hml, hown, hts⟩ (c_X11_isAgreement l dC dI s.heap.size g0 pq cp v fa x1) (cwV 1 hts gX11_off_X11_isAgreement rfl rfl rfl (by decide +kernel) ⟨(Nat.le_of_ble_eq_true rfl), (Nat.le_of_ble_eq_true rfl)⟩) (pr_V (r := (RX11, TX11, 63)) hP hK hD 0 11 rfl rfl) rfl rfl hl.1 rfl (lv_room (Nat.le_of_ble_eq_true rfl)) dX11_off_2 ⟨(Nat.le_of_ble_eq_true rfl), (Nat.le_of_ble_eq_true rfl)⟩) hS (fun q _ h => hFc q h) hFc (fun r_2 u t H locs ht hvm w_1 hB hz1 hk1 hS => ?_)
  have hP := pu_keep hP hk1
  clear hk1 hz1 hvm hB ht hFc
  have hbr_2 : 0 ≤ r_2.toInt ∧ r_2.toInt ≤ 1 := iv_of w_1 (isI_i _ _)
  refine lv_if_eq (tgt := 15) hx hb dX11_off_5 (by decide) (fun c_3 => ?_) (fun c_3 => ?_)
  · have dc_3 := c_eq (a := r_2.toInt) (b := 0) rfl (by decide) c_3
    refine lv_aload_n hx hb dX11_off_15 rfl (lv_at hl 0 rfl) ?_
    refine lv_iconst (v := (-1)) hx hb dX11_off_16 (by decide) ?_
    have hFc := va_free (wc := (mW g0 pq cp v fa)) hD hS hA (List.range 48) rfl
    refine va_calli (va_runV (As := [.int (-1)]) (rest := []) ⟨hx, hb, hml, hown, hts⟩ (c_X11_refuse l dC dI H.size g0 pq cp v fa (-1) (by unfold vp_in; decide)) (cwV 1 hts gX11_off_X11_refuse rfl rfl rfl (by decide +kernel) ⟨(Nat.le_of_ble_eq_true rfl), (Nat.le_of_ble_eq_true rfl)⟩) (pr_V (r := (RX11, TX11, 63)) hP hK hD 0 11 rfl rfl) rfl rfl hl.1 rfl (lv_room (Nat.le_of_ble_eq_true rfl)) dX11_off_17 ⟨(Nat.le_of_ble_eq_true rfl), (Nat.le_of_ble_eq_true rfl)⟩) hS (fun q _ h => hFc q h) hFc (fun r_5 u t H locs ht hvm w_4 hB hz1 hk1 hS => ?_)
    obtain ⟨v_6, fa_7⟩ := u
    obtain ⟨hP1, hK1, hD1⟩ := hB
    rw [ht] at hP1
    have hP : va_P (dC, dI) vwCl (mW g0 pq cp v_6 fa_7) H := hP1
    have hD : va_D A (mW g0 pq cp v_6 fa_7) := hD1.weaken (fun _ _ _ h => hFc _ h)
    clear hP1 hK1 hD1 hk1 hz1 hvm ht hFc
    obtain ⟨rfl, w_4⟩ := w_4
    have hVv_6 : mV v_6 := sm0_V w_4 gV
    have hAv_6 : mA fa_7 := sm0_A w_4 gA
    have hRv_6 : v_6 38 = v 38 := (congrFun w_4.1 38).trans rfl
    exact W.iret (v := (-1)) hx hb hr (fun t ht hW => ⟨⟨(-1), (v_6, fa_7), rfl, ⟨hVv_6, hAv_6, hRv_6⟩, ⟨by rw [ht]; exact hP, va_K.moved hW.alike hK, hD⟩⟩, hS.F ht⟩) hS.2.2 dX11_off_20
  · have dc_3 := c_ne (a := r_2.toInt) (b := 0) rfl (by decide) c_3
    have hi_8 := isI_t w_1 (fun q => c_3 (Int32.toInt_inj.mp q))
    have khi_8 : (v 43).toInt ≤ 60 := (gV 43).2
    refine lv_iload_n hx hb dX11_off_8 rfl (lv_at hl 2 rfl) ?_
    have hFc : ∀ q, va_A [] H.size q → A q := pu_free hS hA
    have hPc := hP.sub (ws' := []) [] rfl
    have hDc := hD.sub (ws' := []) [] (by decide) rfl
    have hKc := hK.sub (tys' := []) [] rfl
    refine va_calli (va_runS (As := [.int x2]) (rest := []) ⟨hx, hb, hml, hown, hts⟩ (c_X11_isPort l dC dI H.size x2) (va_cwS 1 hts gX11_off_X11_isPort rfl rfl rfl (by decide +kernel) ⟨(Nat.le_of_ble_eq_true rfl), (Nat.le_of_ble_eq_true rfl)⟩) (pr_S hPc hKc hDc) rfl rfl hl.1 rfl (lv_room (Nat.le_of_ble_eq_true rfl)) dX11_off_9 ⟨(Nat.le_of_ble_eq_true rfl), (Nat.le_of_ble_eq_true rfl)⟩) hS (fun q _ h => hFc q h) hFc (fun r_10 u t H locs ht hvm w_9 hB hz1 hk1 hS => ?_)
    have hP := pu_keep hP hk1
    clear hk1 hz1 hvm hB ht hFc hPc hDc hKc
    have hbr_10 : 0 ≤ r_10.toInt ∧ r_10.toInt ≤ 1 := iv_of w_9 (isI_i _ _)
    refine lv_if_ne (tgt := 21) hx hb dX11_off_12 (by decide) (fun c_11 => ?_) (fun c_11 => ?_)
    · have dc_11 := c_ne (a := r_10.toInt) (b := 0) rfl (by decide) c_11
      have hi_12 := isI_t w_9 (fun q => c_11 (Int32.toInt_inj.mp q))
      have khi_12 : (10 : Int32).toInt = 10 := by decide
      refine lv_aload_n hx hb dX11_off_21 rfl (lv_at hl 0 rfl) ?_
      refine lv_iload_n hx hb dX11_off_22 rfl (lv_at hl 1 rfl) ?_
      have hFc : ∀ q, va_A [] H.size q → A q := pu_free hS hA
      refine va_calli (va_runV (As := [.int x1]) (rest := []) ⟨hx, hb, hml, hown, hts⟩ (c_X11_goesOn l dC dI H.size g0 pq cp v fa (v 41).toNatClampNeg (cn_le (n := 200) (gV 41)) (cn_eq (n := 200) (gV 41)) x1 (vp_in_iff.mpr (by omega))) (cwV 1 hts gX11_off_X11_goesOn rfl rfl rfl (by decide +kernel) ⟨(Nat.le_of_ble_eq_true rfl), (Nat.le_of_ble_eq_true rfl)⟩) (pr_V (r := (RX11, TX11, 63)) hP hK hD 0 11 rfl rfl) rfl rfl hl.1 rfl (lv_room (Nat.le_of_ble_eq_true rfl)) dX11_off_23 ⟨(Nat.le_of_ble_eq_true rfl), (Nat.le_of_ble_eq_true rfl)⟩) hS (fun q _ h => hFc q h) hFc (fun r_14 u t H locs ht hvm w_13 hB hz1 hk1 hS => ?_)
      have hP := pu_keep hP hk1
      clear hk1 hz1 hvm hB ht hFc
      have hb_15 : 0 ≤ r_14.toInt ∧ r_14.toInt ≤ 1 := z1_i w_13
      refine lv_if_ne (tgt := 36) hx hb dX11_off_26 (by decide) (fun c_16 => ?_) (fun c_16 => ?_)
      · have dc_16 := c_ne (a := r_14.toInt) (b := 0) rfl (by decide) c_16
        refine lv_aload_n hx hb dX11_off_36 rfl (lv_at hl 0 rfl) ?_
        refine va_get (D := (dC, dI)) (ci := 11) (v := .ref (pq 26)) (C := RX11) (T := TX11) (N := 63) hx hb hts in_wsX11_off_X11 hown hK hP 0 rfl rfl 26 (by decide) (hts (.fieldLink RX11 88 "ShipOfficeModel" "offOn" "[I") (by decide +kernel)) (fun _ h9 => h9) rfl dX11_off_37 ?_
        refine lv_iload_n hx hb dX11_off_40 rfl (lv_at hl 1 rfl) ?_
        refine lv_aload_n hx hb dX11_off_41 rfl (lv_at hl 0 rfl) ?_
        refine va_get (D := (dC, dI)) (ci := 11) (v := .int (v 38)) (C := RX11) (T := TX11) (N := 63) hx hb hts in_wsX11_off_X11 hown hK hP 0 rfl rfl 38 (by decide) (hts (.fieldLink RX11 171 "ShipOfficeModel" "now" "I") (by decide +kernel)) (fun _ h9 => h9) rfl dX11_off_42 ?_
        refine lv_topi (fun x_17 ex_17 => ?_)
        have hx_17 : 0 ≤ x_17.toInt ∧ x_17.toInt ≤ 3000 := iv_of ex_17 (gV 38)
        clear ex_17
        refine va_iast hx hb hK hP hD hS 27 26 rfl rfl (vp_in_iff.mpr (by omega)) dX11_off_45 (fun H locs hP hD hS => ?_)
        have hP : va_P (dC, dI) vwCl (mW g0 pq cp v (upF fa 26 (x1 : Int32).toNatClampNeg x_17)) H := hP
        have hD : va_D A (mW g0 pq cp v (upF fa 26 (x1 : Int32).toNatClampNeg x_17)) := hD
        obtain ⟨fz_18, efz_18⟩ : ∃ zq, zq = (upF fa 26 (x1 : Int32).toNatClampNeg x_17) := ⟨_, rfl⟩
        rw [← efz_18] at hP hD
        have hAfz_18 : mA fz_18 := by rw [efz_18]; exact mA_upF (lo := -2147483648) (hi := 2147483647) gA rfl rfl (iv_all _)
        refine lv_iconst (v := 1) hx hb dX11_off_46 (by decide) ?_
        exact W.iret (v := 1) hx hb hr (fun t ht hW => ⟨⟨1, (v, fz_18), rfl, ⟨gV, hAfz_18, rfl⟩, ⟨by rw [ht]; exact hP, va_K.moved hW.alike hK, hD⟩⟩, hS.F ht⟩) hS.2.2 dX11_off_47
      · have dc_16 := c_eq (a := r_14.toInt) (b := 0) rfl (by decide) c_16
        refine lv_aload_n hx hb dX11_off_29 rfl (lv_at hl 0 rfl) ?_
        refine lv_bipush (v := (-3)) hx hb dX11_off_30 (by decide) ?_
        have hFc := va_free (wc := (mW g0 pq cp v fa)) hD hS hA (List.range 48) rfl
        refine va_calli (va_runV (As := [.int (-3)]) (rest := []) ⟨hx, hb, hml, hown, hts⟩ (c_X11_refuse l dC dI H.size g0 pq cp v fa (-3) (by unfold vp_in; decide)) (cwV 1 hts gX11_off_X11_refuse rfl rfl rfl (by decide +kernel) ⟨(Nat.le_of_ble_eq_true rfl), (Nat.le_of_ble_eq_true rfl)⟩) (pr_V (r := (RX11, TX11, 63)) hP hK hD 0 11 rfl rfl) rfl rfl hl.1 rfl (lv_room (Nat.le_of_ble_eq_true rfl)) dX11_off_32 ⟨(Nat.le_of_ble_eq_true rfl), (Nat.le_of_ble_eq_true rfl)⟩) hS (fun q _ h => hFc q h) hFc (fun r_20 u t H locs ht hvm w_19 hB hz1 hk1 hS => ?_)
        obtain ⟨v_21, fa_22⟩ := u
        obtain ⟨hP1, hK1, hD1⟩ := hB
        rw [ht] at hP1
        have hP : va_P (dC, dI) vwCl (mW g0 pq cp v_21 fa_22) H := hP1
        have hD : va_D A (mW g0 pq cp v_21 fa_22) := hD1.weaken (fun _ _ _ h => hFc _ h)
        clear hP1 hK1 hD1 hk1 hz1 hvm ht hFc
        obtain ⟨rfl, w_19⟩ := w_19
        have hVv_21 : mV v_21 := sm0_V w_19 gV
        have hAv_21 : mA fa_22 := sm0_A w_19 gA
        have hRv_21 : v_21 38 = v 38 := (congrFun w_19.1 38).trans rfl
        exact W.iret (v := (-3)) hx hb hr (fun t ht hW => ⟨⟨(-3), (v_21, fa_22), rfl, ⟨hVv_21, hAv_21, hRv_21⟩, ⟨by rw [ht]; exact hP, va_K.moved hW.alike hK, hD⟩⟩, hS.F ht⟩) hS.2.2 dX11_off_35
    · have dc_11 := c_eq (a := r_10.toInt) (b := 0) rfl (by decide) c_11
      refine lv_aload_n hx hb dX11_off_15 rfl (lv_at hl 0 rfl) ?_
      refine lv_iconst (v := (-1)) hx hb dX11_off_16 (by decide) ?_
      have hFc := va_free (wc := (mW g0 pq cp v fa)) hD hS hA (List.range 48) rfl
      refine va_calli (va_runV (As := [.int (-1)]) (rest := []) ⟨hx, hb, hml, hown, hts⟩ (c_X11_refuse l dC dI H.size g0 pq cp v fa (-1) (by unfold vp_in; decide)) (cwV 1 hts gX11_off_X11_refuse rfl rfl rfl (by decide +kernel) ⟨(Nat.le_of_ble_eq_true rfl), (Nat.le_of_ble_eq_true rfl)⟩) (pr_V (r := (RX11, TX11, 63)) hP hK hD 0 11 rfl rfl) rfl rfl hl.1 rfl (lv_room (Nat.le_of_ble_eq_true rfl)) dX11_off_17 ⟨(Nat.le_of_ble_eq_true rfl), (Nat.le_of_ble_eq_true rfl)⟩) hS (fun q _ h => hFc q h) hFc (fun r_24 u t H locs ht hvm w_23 hB hz1 hk1 hS => ?_)
      obtain ⟨v_25, fa_26⟩ := u
      obtain ⟨hP1, hK1, hD1⟩ := hB
      rw [ht] at hP1
      have hP : va_P (dC, dI) vwCl (mW g0 pq cp v_25 fa_26) H := hP1
      have hD : va_D A (mW g0 pq cp v_25 fa_26) := hD1.weaken (fun _ _ _ h => hFc _ h)
      clear hP1 hK1 hD1 hk1 hz1 hvm ht hFc
      obtain ⟨rfl, w_23⟩ := w_23
      have hVv_25 : mV v_25 := sm0_V w_23 gV
      have hAv_25 : mA fa_26 := sm0_A w_23 gA
      have hRv_25 : v_25 38 = v 38 := (congrFun w_23.1 38).trans rfl
      exact W.iret (v := (-1)) hx hb hr (fun t ht hW => ⟨⟨(-1), (v_25, fa_26), rfl, ⟨hVv_25, hAv_25, hRv_25⟩, ⟨by rw [ht]; exact hP, va_K.moved hW.alike hK, hD⟩⟩, hS.F ht⟩) hS.2.2 dX11_off_20
set_option maxHeartbeats 4000000 in
set_option maxRecDepth 100000 in
theorem c_X11_state (l : Launch) (dC : Nat → ClassId) (dI : Nat → Nat → Nat) (sz : Nat) (g0 : Nat) (pq : Nat → Nat) (cp : Nat → ClassId) (v : Nat → Int32) (fa : Nat → Nat → Int32) (gV : mV v) (gA : mA fa) (x1 : Int32) (x2 : Int32) (x3 : Int32) : Met l yX11_state wsX11_state ({ frames := 23, cells := 0, slots := 0, locals := 533 }) (va_Pc [.ref g0, .int x1, .int x2, .int x3] (pcW (dC, dI) (mT cp) (mW g0 pq cp v fa) sz)) (va_Qi (fun (r : Int32) (u : (Nat → Int32) × (Nat → Nat → Int32)) => mV u.1 ∧ mA u.2 ∧ u.1 38 = v 38) (fun u t => va_P (dC, dI) vwCl (mW g0 pq cp u.1 u.2) t.heap ∧ va_K (dC, dI) vwCl (mT cp) t ∧ va_D (va_A (mW g0 pq cp v fa) sz) (mW g0 pq cp u.1 u.2)) (va_A (mW g0 pq cp v fa) sz)) 0 0 (va_A (mW g0 pq cp v fa) sz) := by
  refine Met.ofW (cc := cX11_state) (maxL := 5) (ret := (some .int)) (by decide) rfl ?_
  intro p e s m args below meth c s₁ B hml hv
  obtain ⟨rfl, hsz, hP, hK, hD0⟩ := hv
  have hx := B.exec
  have hb := B.bytes
  have hr := B.returns
  have hts := atoms_spec (ws := wsX11_state) B.pre
  have hown : s.vm.findClass RX11 = some m.cls := findClass_of_methodNamed B.named
  have hlocks := B.notSynchronized
  subst hsz
  have hD := hD0.self (sz := s.heap.size)
  generalize hAe : va_A (mW g0 pq cp v fa) s.heap.size = A at hD ⊢
  have hA : ∀ q : Nat, s.heap.size ≤ q → A q := fun q h => by rw [← hAe]; exact Or.inr h
  have hS : va_S A s.heap s.heap [] := va_S.rf
  have hP : va_P (dC, dI) vwCl (mW g0 pq cp v fa) s.heap := hP
  have hl := lv_entry ([.ref g0, .int x1, .int x2, .int x3]) (n := 5) (Nat.le_of_ble_eq_true rfl)
  rw [lg_entry_eq]
  generalize (lg_sl ([.ref g0, .int x1, .int x2, .int x3]) ++ List.replicate (5 - (lg_sl ([.ref g0, .int x1, .int x2, .int x3])).length) Slot.unset).toArray = ls at hl ⊢
  have hl : lv_has ls 5 [(0, .ref g0), (1, .int x1), (2, .int x2), (3, .int x3)] := hl
  refine lv_aload_n hx hb dX11_state_0 rfl (lv_at hl 0 rfl) ?_
  refine lv_iload_n hx hb dX11_state_1 rfl (lv_at hl 1 rfl) ?_
  have hFc : ∀ q, va_A [] s.heap.size q → A q := pu_free hS hA
  refine va_calli (va_runV (As := [.int x1]) (rest := []) ⟨hx, hb, hml, hown, hts⟩ (c_X11_isAgreement l dC dI s.heap.size g0 pq cp v fa x1) (cwV 1 hts gX11_state_X11_isAgreement rfl rfl rfl (by decide +kernel) ⟨(Nat.le_of_ble_eq_true rfl), (Nat.le_of_ble_eq_true rfl)⟩) (pr_V (r := (RX11, TX11, 63)) hP hK hD 0 11 rfl rfl) rfl rfl hl.1 rfl (lv_room (Nat.le_of_ble_eq_true rfl)) dX11_state_2 ⟨(Nat.le_of_ble_eq_true rfl), (Nat.le_of_ble_eq_true rfl)⟩) hS (fun q _ h => hFc q h) hFc (fun r_2 u t H locs ht hvm w_1 hB hz1 hk1 hS => ?_)
  have hP := pu_keep hP hk1
  clear hk1 hz1 hvm hB ht hFc
  have hbr_2 : 0 ≤ r_2.toInt ∧ r_2.toInt ≤ 1 := iv_of w_1 (isI_i _ _)
  refine lv_if_eq (tgt := 17) hx hb dX11_state_5 (by decide) (fun c_3 => ?_) (fun c_3 => ?_)
  · have dc_3 := c_eq (a := r_2.toInt) (b := 0) rfl (by decide) c_3
    refine lv_iconst (v := (-1)) hx hb dX11_state_17 (by decide) ?_
    refine lv_istore (lv' := [(4, .int (-1)), (0, .ref g0), (1, .int x1), (2, .int x2), (3, .int x3)]) hx hb dX11_state_18 hl (by decide) rfl (fun ls hl => ?_)
    refine lv_iload hx hb dX11_state_20 (lv_at hl 0 rfl) ?_
    refine lv_if_eq (tgt := 34) hx hb dX11_state_22 (by decide) (fun c_4 => absurd c_4 (by decide)) (fun _ => ?_)
    refine lv_aload_n hx hb dX11_state_25 rfl (lv_at hl 1 rfl) ?_
    refine lv_iload hx hb dX11_state_26 (lv_at hl 0 rfl) ?_
    have hFc := va_free (wc := (mW g0 pq cp v fa)) hD hS hA (List.range 48) rfl
    refine va_calli (va_runV (As := [.int (-1)]) (rest := []) ⟨hx, hb, hml, hown, hts⟩ (c_X11_refuse l dC dI H.size g0 pq cp v fa (-1) (by unfold vp_in; decide)) (cwV 1 hts gX11_state_X11_refuse rfl rfl rfl (by decide +kernel) ⟨(Nat.le_of_ble_eq_true rfl), (Nat.le_of_ble_eq_true rfl)⟩) (pr_V (r := (RX11, TX11, 63)) hP hK hD 0 11 rfl rfl) rfl rfl hl.1 rfl (lv_room (Nat.le_of_ble_eq_true rfl)) dX11_state_28 ⟨(Nat.le_of_ble_eq_true rfl), (Nat.le_of_ble_eq_true rfl)⟩) hS (fun q _ h => hFc q h) hFc (fun r_6 u t H locs ht hvm w_5 hB hz1 hk1 hS => ?_)
    obtain ⟨v_7, fa_8⟩ := u
    obtain ⟨hP1, hK1, hD1⟩ := hB
    rw [ht] at hP1
    have hP : va_P (dC, dI) vwCl (mW g0 pq cp v_7 fa_8) H := hP1
    have hD : va_D A (mW g0 pq cp v_7 fa_8) := hD1.weaken (fun _ _ _ h => hFc _ h)
    clear hP1 hK1 hD1 hk1 hz1 hvm ht hFc
    obtain ⟨rfl, w_5⟩ := w_5
    have hVv_7 : mV v_7 := sm0_V w_5 gV
    have hAv_7 : mA fa_8 := sm0_A w_5 gA
    have hRv_7 : v_7 38 = v 38 := (congrFun w_5.1 38).trans rfl
    refine lv_goto (tgt := 41) hx hb dX11_state_31 (by decide) ?_
    exact W.iret (v := (-1)) hx hb hr (fun t ht hW => ⟨⟨(-1), (v_7, fa_8), rfl, ⟨hVv_7, hAv_7, hRv_7⟩, ⟨by rw [ht]; exact hP, va_K.moved hW.alike hK, hD⟩⟩, hS.F ht⟩) hS.2.2 dX11_state_41
  · have dc_3 := c_ne (a := r_2.toInt) (b := 0) rfl (by decide) c_3
    have hi_9 := isI_t w_1 (fun q => c_3 (Int32.toInt_inj.mp q))
    have khi_9 : (v 43).toInt ≤ 60 := (gV 43).2
    refine lv_aload_n hx hb dX11_state_8 rfl (lv_at hl 0 rfl) ?_
    refine lv_iload_n hx hb dX11_state_9 rfl (lv_at hl 2 rfl) ?_
    refine lv_iload_n hx hb dX11_state_10 rfl (lv_at hl 3 rfl) ?_
    have hFc : ∀ q, va_A [] H.size q → A q := pu_free hS hA
    refine va_calli (va_runV (As := [.int x2, .int x3]) (rest := []) ⟨hx, hb, hml, hown, hts⟩ (c_X11_wrongTimes l dC dI H.size g0 pq cp v fa x2 x3) (cwV 2 hts gX11_state_X11_wrongTimes rfl rfl rfl (by decide +kernel) ⟨(Nat.le_of_ble_eq_true rfl), (Nat.le_of_ble_eq_true rfl)⟩) (pr_V (r := (RX11, TX11, 63)) hP hK hD 0 11 rfl rfl) rfl rfl hl.1 rfl (lv_room (Nat.le_of_ble_eq_true rfl)) dX11_state_11 ⟨(Nat.le_of_ble_eq_true rfl), (Nat.le_of_ble_eq_true rfl)⟩) hS (fun q _ h => hFc q h) hFc (fun r_11 u t H locs ht hvm w_10 hB hz1 hk1 hS => ?_)
    have hP := pu_keep hP hk1
    clear hk1 hz1 hvm hB ht hFc
    have hb_12 := tw_i w_10
    refine lv_goto (tgt := 18) hx hb dX11_state_14 (by decide) ?_
    refine lv_istore (lv' := [(4, .int r_11), (0, .ref g0), (1, .int x1), (2, .int x2), (3, .int x3)]) hx hb dX11_state_18 hl (by decide) rfl (fun ls hl => ?_)
    refine lv_iload hx hb dX11_state_20 (lv_at hl 0 rfl) ?_
    refine lv_if_eq (tgt := 34) hx hb dX11_state_22 (by decide) (fun c_13 => ?_) (fun c_13 => ?_)
    · have dc_13 := c_eq (a := r_11.toInt) (b := 0) rfl (by decide) c_13
      refine lv_aload_n hx hb dX11_state_34 rfl (lv_at hl 1 rfl) ?_
      refine lv_iload_n hx hb dX11_state_35 rfl (lv_at hl 2 rfl) ?_
      refine lv_iload_n hx hb dX11_state_36 rfl (lv_at hl 3 rfl) ?_
      refine lv_iload_n hx hb dX11_state_37 rfl (lv_at hl 4 rfl) ?_
      have hFc := va_free (wc := (mW g0 pq cp v fa)) hD hS hA (List.range 48) rfl
      refine va_calli (va_runV (As := [.int x1, .int x2, .int x3]) (rest := []) ⟨hx, hb, hml, hown, hts⟩ (c_X11_stateOf l dC dI H.size g0 pq cp v fa gV gA x1 (by omega) x2 x3) (cwV 3 hts gX11_state_X11_stateOf rfl rfl rfl (by decide +kernel) ⟨(Nat.le_of_ble_eq_true rfl), (Nat.le_of_ble_eq_true rfl)⟩) (pr_V (r := (RX11, TX11, 63)) hP hK hD 0 11 rfl rfl) rfl rfl hl.1 rfl (lv_room (Nat.le_of_ble_eq_true rfl)) dX11_state_38 ⟨(Nat.le_of_ble_eq_true rfl), (Nat.le_of_ble_eq_true rfl)⟩) hS (fun q _ h => hFc q h) hFc (fun r_15 u t H locs ht hvm w_14 hB hz1 hk1 hS => ?_)
      obtain ⟨v_16, fa_17⟩ := u
      obtain ⟨hP1, hK1, hD1⟩ := hB
      rw [ht] at hP1
      have hP : va_P (dC, dI) vwCl (mW g0 pq cp v_16 fa_17) H := hP1
      have hD : va_D A (mW g0 pq cp v_16 fa_17) := hD1.weaken (fun _ _ _ h => hFc _ h)
      clear hP1 hK1 hD1 hk1 hz1 hvm ht hFc
      obtain ⟨hV_18, hA_19, hR_20, hb_21, hx_22⟩ := w_14
      dsimp only at hV_18 hA_19 hR_20 hb_21 hx_22
      have R_23 : v_16 38 = v 38 := (scr.now hR_20).trans rfl
      exact W.iret (v := r_15) hx hb hr (fun t ht hW => ⟨⟨r_15, (v_16, fa_17), rfl, ⟨hV_18, hA_19, R_23⟩, ⟨by rw [ht]; exact hP, va_K.moved hW.alike hK, hD⟩⟩, hS.F ht⟩) hS.2.2 dX11_state_41
    · have dc_13 := c_ne (a := r_11.toInt) (b := 0) rfl (by decide) c_13
      refine lv_aload_n hx hb dX11_state_25 rfl (lv_at hl 1 rfl) ?_
      refine lv_iload hx hb dX11_state_26 (lv_at hl 0 rfl) ?_
      have hFc := va_free (wc := (mW g0 pq cp v fa)) hD hS hA (List.range 48) rfl
      refine va_calli (va_runV (As := [.int r_11]) (rest := []) ⟨hx, hb, hml, hown, hts⟩ (c_X11_refuse l dC dI H.size g0 pq cp v fa r_11 (by apply vp_in_iff.mpr; rw [ng_i (x := r_11) rfl (by omega) (by omega)]; omega)) (cwV 1 hts gX11_state_X11_refuse rfl rfl rfl (by decide +kernel) ⟨(Nat.le_of_ble_eq_true rfl), (Nat.le_of_ble_eq_true rfl)⟩) (pr_V (r := (RX11, TX11, 63)) hP hK hD 0 11 rfl rfl) rfl rfl hl.1 rfl (lv_room (Nat.le_of_ble_eq_true rfl)) dX11_state_28 ⟨(Nat.le_of_ble_eq_true rfl), (Nat.le_of_ble_eq_true rfl)⟩) hS (fun q _ h => hFc q h) hFc (fun r_25 u t H locs ht hvm w_24 hB hz1 hk1 hS => ?_)
      obtain ⟨v_26, fa_27⟩ := u
      obtain ⟨hP1, hK1, hD1⟩ := hB
      rw [ht] at hP1
      have hP : va_P (dC, dI) vwCl (mW g0 pq cp v_26 fa_27) H := hP1
      have hD : va_D A (mW g0 pq cp v_26 fa_27) := hD1.weaken (fun _ _ _ h => hFc _ h)
      clear hP1 hK1 hD1 hk1 hz1 hvm ht hFc
      obtain ⟨rfl, w_24⟩ := w_24
      have hVv_26 : mV v_26 := sm0_V w_24 gV
      have hAv_26 : mA fa_27 := sm0_A w_24 gA
      have hRv_26 : v_26 38 = v 38 := (congrFun w_24.1 38).trans rfl
      refine lv_goto (tgt := 41) hx hb dX11_state_31 (by decide) ?_
      exact W.iret (v := r_11) hx hb hr (fun t ht hW => ⟨⟨r_11, (v_26, fa_27), rfl, ⟨hVv_26, hAv_26, hRv_26⟩, ⟨by rw [ht]; exact hP, va_K.moved hW.alike hK, hD⟩⟩, hS.F ht⟩) hS.2.2 dX11_state_41
set_option maxHeartbeats 4000000 in
set_option maxRecDepth 100000 in
theorem c_X11_earns (l : Launch) (dC : Nat → ClassId) (dI : Nat → Nat → Nat) (sz : Nat) (g0 : Nat) (pq : Nat → Nat) (cp : Nat → ClassId) (v : Nat → Int32) (fa : Nat → Nat → Int32) (gV : mV v) (gA : mA fa) (x1 : Int32) (x2 : Int32) (x3 : Int32) : Met l yX11_earns wsX11_earns ({ frames := 24, cells := 0, slots := 0, locals := 559 }) (va_Pc [.ref g0, .int x1, .int x2, .int x3] (pcW (dC, dI) (mT cp) (mW g0 pq cp v fa) sz)) (va_Qi (fun (r : Int32) (u : (Nat → Int32) × (Nat → Nat → Int32)) => mV u.1 ∧ mA u.2 ∧ u.1 38 = v 38) (fun u t => va_P (dC, dI) vwCl (mW g0 pq cp u.1 u.2) t.heap ∧ va_K (dC, dI) vwCl (mT cp) t ∧ va_D (va_A (mW g0 pq cp v fa) sz) (mW g0 pq cp u.1 u.2)) (va_A (mW g0 pq cp v fa) sz)) 0 0 (va_A (mW g0 pq cp v fa) sz) := by
  refine Met.ofW (cc := cX11_earns) (maxL := 5) (ret := (some .int)) (by decide) rfl ?_
  intro p e s m args below meth c s₁ B hml hv
  obtain ⟨rfl, hsz, hP, hK, hD0⟩ := hv
  have hx := B.exec
  have hb := B.bytes
  have hr := B.returns
  have hts := atoms_spec (ws := wsX11_earns) B.pre
  have hown : s.vm.findClass RX11 = some m.cls := findClass_of_methodNamed B.named
  have hlocks := B.notSynchronized
  subst hsz
  have hD := hD0.self (sz := s.heap.size)
  generalize hAe : va_A (mW g0 pq cp v fa) s.heap.size = A at hD ⊢
  have hA : ∀ q : Nat, s.heap.size ≤ q → A q := fun q h => by rw [← hAe]; exact Or.inr h
  have hS : va_S A s.heap s.heap [] := va_S.rf
  have hP : va_P (dC, dI) vwCl (mW g0 pq cp v fa) s.heap := hP
  have hl := lv_entry ([.ref g0, .int x1, .int x2, .int x3]) (n := 5) (Nat.le_of_ble_eq_true rfl)
  rw [lg_entry_eq]
  generalize (lg_sl ([.ref g0, .int x1, .int x2, .int x3]) ++ List.replicate (5 - (lg_sl ([.ref g0, .int x1, .int x2, .int x3])).length) Slot.unset).toArray = ls at hl ⊢
  have hl : lv_has ls 5 [(0, .ref g0), (1, .int x1), (2, .int x2), (3, .int x3)] := hl
  refine lv_aload_n hx hb dX11_earns_0 rfl (lv_at hl 0 rfl) ?_
  refine lv_iload_n hx hb dX11_earns_1 rfl (lv_at hl 1 rfl) ?_
  have hFc : ∀ q, va_A [] s.heap.size q → A q := pu_free hS hA
  refine va_calli (va_runV (As := [.int x1]) (rest := []) ⟨hx, hb, hml, hown, hts⟩ (c_X11_isAgreement l dC dI s.heap.size g0 pq cp v fa x1) (cwV 1 hts gX11_earns_X11_isAgreement rfl rfl rfl (by decide +kernel) ⟨(Nat.le_of_ble_eq_true rfl), (Nat.le_of_ble_eq_true rfl)⟩) (pr_V (r := (RX11, TX11, 63)) hP hK hD 0 11 rfl rfl) rfl rfl hl.1 rfl (lv_room (Nat.le_of_ble_eq_true rfl)) dX11_earns_2 ⟨(Nat.le_of_ble_eq_true rfl), (Nat.le_of_ble_eq_true rfl)⟩) hS (fun q _ h => hFc q h) hFc (fun r_2 u t H locs ht hvm w_1 hB hz1 hk1 hS => ?_)
  have hP := pu_keep hP hk1
  clear hk1 hz1 hvm hB ht hFc
  have hbr_2 : 0 ≤ r_2.toInt ∧ r_2.toInt ≤ 1 := iv_of w_1 (isI_i _ _)
  refine lv_if_eq (tgt := 17) hx hb dX11_earns_5 (by decide) (fun c_3 => ?_) (fun c_3 => ?_)
  · have dc_3 := c_eq (a := r_2.toInt) (b := 0) rfl (by decide) c_3
    refine lv_iconst (v := (-1)) hx hb dX11_earns_17 (by decide) ?_
    refine lv_istore (lv' := [(4, .int (-1)), (0, .ref g0), (1, .int x1), (2, .int x2), (3, .int x3)]) hx hb dX11_earns_18 hl (by decide) rfl (fun ls hl => ?_)
    refine lv_iload hx hb dX11_earns_20 (lv_at hl 0 rfl) ?_
    refine lv_if_eq (tgt := 34) hx hb dX11_earns_22 (by decide) (fun c_4 => absurd c_4 (by decide)) (fun _ => ?_)
    refine lv_aload_n hx hb dX11_earns_25 rfl (lv_at hl 1 rfl) ?_
    refine lv_iload hx hb dX11_earns_26 (lv_at hl 0 rfl) ?_
    have hFc := va_free (wc := (mW g0 pq cp v fa)) hD hS hA (List.range 48) rfl
    refine va_calli (va_runV (As := [.int (-1)]) (rest := []) ⟨hx, hb, hml, hown, hts⟩ (c_X11_refuse l dC dI H.size g0 pq cp v fa (-1) (by unfold vp_in; decide)) (cwV 1 hts gX11_earns_X11_refuse rfl rfl rfl (by decide +kernel) ⟨(Nat.le_of_ble_eq_true rfl), (Nat.le_of_ble_eq_true rfl)⟩) (pr_V (r := (RX11, TX11, 63)) hP hK hD 0 11 rfl rfl) rfl rfl hl.1 rfl (lv_room (Nat.le_of_ble_eq_true rfl)) dX11_earns_28 ⟨(Nat.le_of_ble_eq_true rfl), (Nat.le_of_ble_eq_true rfl)⟩) hS (fun q _ h => hFc q h) hFc (fun r_6 u t H locs ht hvm w_5 hB hz1 hk1 hS => ?_)
    obtain ⟨v_7, fa_8⟩ := u
    obtain ⟨hP1, hK1, hD1⟩ := hB
    rw [ht] at hP1
    have hP : va_P (dC, dI) vwCl (mW g0 pq cp v_7 fa_8) H := hP1
    have hD : va_D A (mW g0 pq cp v_7 fa_8) := hD1.weaken (fun _ _ _ h => hFc _ h)
    clear hP1 hK1 hD1 hk1 hz1 hvm ht hFc
    obtain ⟨rfl, w_5⟩ := w_5
    have hVv_7 : mV v_7 := sm0_V w_5 gV
    have hAv_7 : mA fa_8 := sm0_A w_5 gA
    have hRv_7 : v_7 38 = v 38 := (congrFun w_5.1 38).trans rfl
    refine lv_goto (tgt := 41) hx hb dX11_earns_31 (by decide) ?_
    exact W.iret (v := (-1)) hx hb hr (fun t ht hW => ⟨⟨(-1), (v_7, fa_8), rfl, ⟨hVv_7, hAv_7, hRv_7⟩, ⟨by rw [ht]; exact hP, va_K.moved hW.alike hK, hD⟩⟩, hS.F ht⟩) hS.2.2 dX11_earns_41
  · have dc_3 := c_ne (a := r_2.toInt) (b := 0) rfl (by decide) c_3
    have hi_9 := isI_t w_1 (fun q => c_3 (Int32.toInt_inj.mp q))
    have khi_9 : (v 43).toInt ≤ 60 := (gV 43).2
    refine lv_aload_n hx hb dX11_earns_8 rfl (lv_at hl 0 rfl) ?_
    refine lv_iload_n hx hb dX11_earns_9 rfl (lv_at hl 2 rfl) ?_
    refine lv_iload_n hx hb dX11_earns_10 rfl (lv_at hl 3 rfl) ?_
    have hFc : ∀ q, va_A [] H.size q → A q := pu_free hS hA
    refine va_calli (va_runV (As := [.int x2, .int x3]) (rest := []) ⟨hx, hb, hml, hown, hts⟩ (c_X11_wrongTimes l dC dI H.size g0 pq cp v fa x2 x3) (cwV 2 hts gX11_earns_X11_wrongTimes rfl rfl rfl (by decide +kernel) ⟨(Nat.le_of_ble_eq_true rfl), (Nat.le_of_ble_eq_true rfl)⟩) (pr_V (r := (RX11, TX11, 63)) hP hK hD 0 11 rfl rfl) rfl rfl hl.1 rfl (lv_room (Nat.le_of_ble_eq_true rfl)) dX11_earns_11 ⟨(Nat.le_of_ble_eq_true rfl), (Nat.le_of_ble_eq_true rfl)⟩) hS (fun q _ h => hFc q h) hFc (fun r_11 u t H locs ht hvm w_10 hB hz1 hk1 hS => ?_)
    have hP := pu_keep hP hk1
    clear hk1 hz1 hvm hB ht hFc
    have hb_12 := tw_i w_10
    refine lv_goto (tgt := 18) hx hb dX11_earns_14 (by decide) ?_
    refine lv_istore (lv' := [(4, .int r_11), (0, .ref g0), (1, .int x1), (2, .int x2), (3, .int x3)]) hx hb dX11_earns_18 hl (by decide) rfl (fun ls hl => ?_)
    refine lv_iload hx hb dX11_earns_20 (lv_at hl 0 rfl) ?_
    refine lv_if_eq (tgt := 34) hx hb dX11_earns_22 (by decide) (fun c_13 => ?_) (fun c_13 => ?_)
    · have dc_13 := c_eq (a := r_11.toInt) (b := 0) rfl (by decide) c_13
      refine lv_aload_n hx hb dX11_earns_34 rfl (lv_at hl 1 rfl) ?_
      refine lv_iload_n hx hb dX11_earns_35 rfl (lv_at hl 2 rfl) ?_
      refine lv_iload_n hx hb dX11_earns_36 rfl (lv_at hl 3 rfl) ?_
      refine lv_iload_n hx hb dX11_earns_37 rfl (lv_at hl 4 rfl) ?_
      have hFc := va_free (wc := (mW g0 pq cp v fa)) hD hS hA (List.range 48) rfl
      refine va_calli (va_runV (As := [.int x1, .int x2, .int x3]) (rest := []) ⟨hx, hb, hml, hown, hts⟩ (c_X11_earnsOf l dC dI H.size g0 pq cp v fa gV gA x1 (by omega) x2 (by omega) x3) (cwV 3 hts gX11_earns_X11_earnsOf rfl rfl rfl (by decide +kernel) ⟨(Nat.le_of_ble_eq_true rfl), (Nat.le_of_ble_eq_true rfl)⟩) (pr_V (r := (RX11, TX11, 63)) hP hK hD 0 11 rfl rfl) rfl rfl hl.1 rfl (lv_room (Nat.le_of_ble_eq_true rfl)) dX11_earns_38 ⟨(Nat.le_of_ble_eq_true rfl), (Nat.le_of_ble_eq_true rfl)⟩) hS (fun q _ h => hFc q h) hFc (fun r_15 u t H locs ht hvm w_14 hB hz1 hk1 hS => ?_)
      obtain ⟨v_16, fa_17⟩ := u
      obtain ⟨hP1, hK1, hD1⟩ := hB
      rw [ht] at hP1
      have hP : va_P (dC, dI) vwCl (mW g0 pq cp v_16 fa_17) H := hP1
      have hD : va_D A (mW g0 pq cp v_16 fa_17) := hD1.weaken (fun _ _ _ h => hFc _ h)
      clear hP1 hK1 hD1 hk1 hz1 hvm ht hFc
      obtain ⟨hV_18, hA_19, hR_20⟩ := w_14
      dsimp only at hV_18 hA_19 hR_20 
      have R_21 : v_16 38 = v 38 := (scr.now hR_20).trans rfl
      exact W.iret (v := r_15) hx hb hr (fun t ht hW => ⟨⟨r_15, (v_16, fa_17), rfl, ⟨hV_18, hA_19, R_21⟩, ⟨by rw [ht]; exact hP, va_K.moved hW.alike hK, hD⟩⟩, hS.F ht⟩) hS.2.2 dX11_earns_41
    · have dc_13 := c_ne (a := r_11.toInt) (b := 0) rfl (by decide) c_13
      refine lv_aload_n hx hb dX11_earns_25 rfl (lv_at hl 1 rfl) ?_
      refine lv_iload hx hb dX11_earns_26 (lv_at hl 0 rfl) ?_
      have hFc := va_free (wc := (mW g0 pq cp v fa)) hD hS hA (List.range 48) rfl
      refine va_calli (va_runV (As := [.int r_11]) (rest := []) ⟨hx, hb, hml, hown, hts⟩ (c_X11_refuse l dC dI H.size g0 pq cp v fa r_11 (by apply vp_in_iff.mpr; rw [ng_i (x := r_11) rfl (by omega) (by omega)]; omega)) (cwV 1 hts gX11_earns_X11_refuse rfl rfl rfl (by decide +kernel) ⟨(Nat.le_of_ble_eq_true rfl), (Nat.le_of_ble_eq_true rfl)⟩) (pr_V (r := (RX11, TX11, 63)) hP hK hD 0 11 rfl rfl) rfl rfl hl.1 rfl (lv_room (Nat.le_of_ble_eq_true rfl)) dX11_earns_28 ⟨(Nat.le_of_ble_eq_true rfl), (Nat.le_of_ble_eq_true rfl)⟩) hS (fun q _ h => hFc q h) hFc (fun r_23 u t H locs ht hvm w_22 hB hz1 hk1 hS => ?_)
      obtain ⟨v_24, fa_25⟩ := u
      obtain ⟨hP1, hK1, hD1⟩ := hB
      rw [ht] at hP1
      have hP : va_P (dC, dI) vwCl (mW g0 pq cp v_24 fa_25) H := hP1
      have hD : va_D A (mW g0 pq cp v_24 fa_25) := hD1.weaken (fun _ _ _ h => hFc _ h)
      clear hP1 hK1 hD1 hk1 hz1 hvm ht hFc
      obtain ⟨rfl, w_22⟩ := w_22
      have hVv_24 : mV v_24 := sm0_V w_22 gV
      have hAv_24 : mA fa_25 := sm0_A w_22 gA
      have hRv_24 : v_24 38 = v 38 := (congrFun w_22.1 38).trans rfl
      refine lv_goto (tgt := 41) hx hb dX11_earns_31 (by decide) ?_
      exact W.iret (v := r_11) hx hb hr (fun t ht hW => ⟨⟨r_11, (v_24, fa_25), rfl, ⟨hVv_24, hAv_24, hRv_24⟩, ⟨by rw [ht]; exact hP, va_K.moved hW.alike hK, hD⟩⟩, hS.F ht⟩) hS.2.2 dX11_earns_41
set_option maxHeartbeats 4000000 in
set_option maxRecDepth 100000 in
theorem c_X11_aboard (l : Launch) (dC : Nat → ClassId) (dI : Nat → Nat → Nat) (sz : Nat) (g0 : Nat) (pq : Nat → Nat) (cp : Nat → ClassId) (v : Nat → Int32) (fa : Nat → Nat → Int32) (gV : mV v) (gA : mA fa) (x1 : Int32) (x2 : Int32) (x3 : Int32) : Met l yX11_aboard wsX11_aboard ({ frames := 24, cells := 0, slots := 0, locals := 558 }) (va_Pc [.ref g0, .int x1, .int x2, .int x3] (pcW (dC, dI) (mT cp) (mW g0 pq cp v fa) sz)) (va_Qi (fun (r : Int32) (u : (Nat → Int32) × (Nat → Nat → Int32)) => mV u.1 ∧ mA u.2 ∧ u.1 38 = v 38) (fun u t => va_P (dC, dI) vwCl (mW g0 pq cp u.1 u.2) t.heap ∧ va_K (dC, dI) vwCl (mT cp) t ∧ va_D (va_A (mW g0 pq cp v fa) sz) (mW g0 pq cp u.1 u.2)) (va_A (mW g0 pq cp v fa) sz)) 0 0 (va_A (mW g0 pq cp v fa) sz) := by
  refine Met.ofW (cc := cX11_aboard) (maxL := 5) (ret := (some .int)) (by decide) rfl ?_
  intro p e s m args below meth c s₁ B hml hv
  obtain ⟨rfl, hsz, hP, hK, hD0⟩ := hv
  have hx := B.exec
  have hb := B.bytes
  have hr := B.returns
  have hts := atoms_spec (ws := wsX11_aboard) B.pre
  have hown : s.vm.findClass RX11 = some m.cls := findClass_of_methodNamed B.named
  have hlocks := B.notSynchronized
  subst hsz
  have hD := hD0.self (sz := s.heap.size)
  generalize hAe : va_A (mW g0 pq cp v fa) s.heap.size = A at hD ⊢
  have hA : ∀ q : Nat, s.heap.size ≤ q → A q := fun q h => by rw [← hAe]; exact Or.inr h
  have hS : va_S A s.heap s.heap [] := va_S.rf
  have hP : va_P (dC, dI) vwCl (mW g0 pq cp v fa) s.heap := hP
  have hl := lv_entry ([.ref g0, .int x1, .int x2, .int x3]) (n := 5) (Nat.le_of_ble_eq_true rfl)
  rw [lg_entry_eq]
  generalize (lg_sl ([.ref g0, .int x1, .int x2, .int x3]) ++ List.replicate (5 - (lg_sl ([.ref g0, .int x1, .int x2, .int x3])).length) Slot.unset).toArray = ls at hl ⊢
  have hl : lv_has ls 5 [(0, .ref g0), (1, .int x1), (2, .int x2), (3, .int x3)] := hl
  refine lv_aload_n hx hb dX11_aboard_0 rfl (lv_at hl 0 rfl) ?_
  refine lv_iload_n hx hb dX11_aboard_1 rfl (lv_at hl 1 rfl) ?_
  have hFc : ∀ q, va_A [] s.heap.size q → A q := pu_free hS hA
  refine va_calli (va_runV (As := [.int x1]) (rest := []) ⟨hx, hb, hml, hown, hts⟩ (c_X11_isVoyage l dC dI s.heap.size g0 pq cp v fa x1) (cwV 1 hts gX11_aboard_X11_isVoyage rfl rfl rfl (by decide +kernel) ⟨(Nat.le_of_ble_eq_true rfl), (Nat.le_of_ble_eq_true rfl)⟩) (pr_V (r := (RX11, TX11, 63)) hP hK hD 0 11 rfl rfl) rfl rfl hl.1 rfl (lv_room (Nat.le_of_ble_eq_true rfl)) dX11_aboard_2 ⟨(Nat.le_of_ble_eq_true rfl), (Nat.le_of_ble_eq_true rfl)⟩) hS (fun q _ h => hFc q h) hFc (fun r_2 u t H locs ht hvm w_1 hB hz1 hk1 hS => ?_)
  have hP := pu_keep hP hk1
  clear hk1 hz1 hvm hB ht hFc
  have hbr_2 : 0 ≤ r_2.toInt ∧ r_2.toInt ≤ 1 := iv_of w_1 (isI_i _ _)
  refine lv_if_eq (tgt := 17) hx hb dX11_aboard_5 (by decide) (fun c_3 => ?_) (fun c_3 => ?_)
  · have dc_3 := c_eq (a := r_2.toInt) (b := 0) rfl (by decide) c_3
    refine lv_iconst (v := (-1)) hx hb dX11_aboard_17 (by decide) ?_
    refine lv_istore (lv' := [(4, .int (-1)), (0, .ref g0), (1, .int x1), (2, .int x2), (3, .int x3)]) hx hb dX11_aboard_18 hl (by decide) rfl (fun ls hl => ?_)
    refine lv_iload hx hb dX11_aboard_20 (lv_at hl 0 rfl) ?_
    refine lv_if_eq (tgt := 34) hx hb dX11_aboard_22 (by decide) (fun c_4 => absurd c_4 (by decide)) (fun _ => ?_)
    refine lv_aload_n hx hb dX11_aboard_25 rfl (lv_at hl 1 rfl) ?_
    refine lv_iload hx hb dX11_aboard_26 (lv_at hl 0 rfl) ?_
    have hFc := va_free (wc := (mW g0 pq cp v fa)) hD hS hA (List.range 48) rfl
    refine va_calli (va_runV (As := [.int (-1)]) (rest := []) ⟨hx, hb, hml, hown, hts⟩ (c_X11_refuse l dC dI H.size g0 pq cp v fa (-1) (by unfold vp_in; decide)) (cwV 1 hts gX11_aboard_X11_refuse rfl rfl rfl (by decide +kernel) ⟨(Nat.le_of_ble_eq_true rfl), (Nat.le_of_ble_eq_true rfl)⟩) (pr_V (r := (RX11, TX11, 63)) hP hK hD 0 11 rfl rfl) rfl rfl hl.1 rfl (lv_room (Nat.le_of_ble_eq_true rfl)) dX11_aboard_28 ⟨(Nat.le_of_ble_eq_true rfl), (Nat.le_of_ble_eq_true rfl)⟩) hS (fun q _ h => hFc q h) hFc (fun r_6 u t H locs ht hvm w_5 hB hz1 hk1 hS => ?_)
    obtain ⟨v_7, fa_8⟩ := u
    obtain ⟨hP1, hK1, hD1⟩ := hB
    rw [ht] at hP1
    have hP : va_P (dC, dI) vwCl (mW g0 pq cp v_7 fa_8) H := hP1
    have hD : va_D A (mW g0 pq cp v_7 fa_8) := hD1.weaken (fun _ _ _ h => hFc _ h)
    clear hP1 hK1 hD1 hk1 hz1 hvm ht hFc
    obtain ⟨rfl, w_5⟩ := w_5
    have hVv_7 : mV v_7 := sm0_V w_5 gV
    have hAv_7 : mA fa_8 := sm0_A w_5 gA
    have hRv_7 : v_7 38 = v 38 := (congrFun w_5.1 38).trans rfl
    refine lv_goto (tgt := 41) hx hb dX11_aboard_31 (by decide) ?_
    exact W.iret (v := (-1)) hx hb hr (fun t ht hW => ⟨⟨(-1), (v_7, fa_8), rfl, ⟨hVv_7, hAv_7, hRv_7⟩, ⟨by rw [ht]; exact hP, va_K.moved hW.alike hK, hD⟩⟩, hS.F ht⟩) hS.2.2 dX11_aboard_41
  · have dc_3 := c_ne (a := r_2.toInt) (b := 0) rfl (by decide) c_3
    have hi_9 := isI_t w_1 (fun q => c_3 (Int32.toInt_inj.mp q))
    have khi_9 : (v 40).toInt ≤ 20 := (gV 40).2
    refine lv_aload_n hx hb dX11_aboard_8 rfl (lv_at hl 0 rfl) ?_
    refine lv_iload_n hx hb dX11_aboard_9 rfl (lv_at hl 2 rfl) ?_
    refine lv_iload_n hx hb dX11_aboard_10 rfl (lv_at hl 3 rfl) ?_
    have hFc : ∀ q, va_A [] H.size q → A q := pu_free hS hA
    refine va_calli (va_runV (As := [.int x2, .int x3]) (rest := []) ⟨hx, hb, hml, hown, hts⟩ (c_X11_wrongTimes l dC dI H.size g0 pq cp v fa x2 x3) (cwV 2 hts gX11_aboard_X11_wrongTimes rfl rfl rfl (by decide +kernel) ⟨(Nat.le_of_ble_eq_true rfl), (Nat.le_of_ble_eq_true rfl)⟩) (pr_V (r := (RX11, TX11, 63)) hP hK hD 0 11 rfl rfl) rfl rfl hl.1 rfl (lv_room (Nat.le_of_ble_eq_true rfl)) dX11_aboard_11 ⟨(Nat.le_of_ble_eq_true rfl), (Nat.le_of_ble_eq_true rfl)⟩) hS (fun q _ h => hFc q h) hFc (fun r_11 u t H locs ht hvm w_10 hB hz1 hk1 hS => ?_)
    have hP := pu_keep hP hk1
    clear hk1 hz1 hvm hB ht hFc
    have hb_12 := tw_i w_10
    refine lv_goto (tgt := 18) hx hb dX11_aboard_14 (by decide) ?_
    refine lv_istore (lv' := [(4, .int r_11), (0, .ref g0), (1, .int x1), (2, .int x2), (3, .int x3)]) hx hb dX11_aboard_18 hl (by decide) rfl (fun ls hl => ?_)
    refine lv_iload hx hb dX11_aboard_20 (lv_at hl 0 rfl) ?_
    refine lv_if_eq (tgt := 34) hx hb dX11_aboard_22 (by decide) (fun c_13 => ?_) (fun c_13 => ?_)
    · have dc_13 := c_eq (a := r_11.toInt) (b := 0) rfl (by decide) c_13
      refine lv_aload_n hx hb dX11_aboard_34 rfl (lv_at hl 1 rfl) ?_
      refine lv_iload_n hx hb dX11_aboard_35 rfl (lv_at hl 2 rfl) ?_
      refine lv_iload_n hx hb dX11_aboard_36 rfl (lv_at hl 3 rfl) ?_
      refine lv_iload_n hx hb dX11_aboard_37 rfl (lv_at hl 4 rfl) ?_
      have hFc := va_free (wc := (mW g0 pq cp v fa)) hD hS hA (List.range 48) rfl
      refine va_calli (va_runV (As := [.int x1, .int x2, .int x3]) (rest := []) ⟨hx, hb, hml, hown, hts⟩ (c_X11_aboardOf l dC dI H.size g0 pq cp v fa gV gA x1 x2 x3) (cwV 3 hts gX11_aboard_X11_aboardOf rfl rfl rfl (by decide +kernel) ⟨(Nat.le_of_ble_eq_true rfl), (Nat.le_of_ble_eq_true rfl)⟩) (pr_V (r := (RX11, TX11, 63)) hP hK hD 0 11 rfl rfl) rfl rfl hl.1 rfl (lv_room (Nat.le_of_ble_eq_true rfl)) dX11_aboard_38 ⟨(Nat.le_of_ble_eq_true rfl), (Nat.le_of_ble_eq_true rfl)⟩) hS (fun q _ h => hFc q h) hFc (fun r_15 u t H locs ht hvm w_14 hB hz1 hk1 hS => ?_)
      obtain ⟨v_16, fa_17⟩ := u
      obtain ⟨hP1, hK1, hD1⟩ := hB
      rw [ht] at hP1
      have hP : va_P (dC, dI) vwCl (mW g0 pq cp v_16 fa_17) H := hP1
      have hD : va_D A (mW g0 pq cp v_16 fa_17) := hD1.weaken (fun _ _ _ h => hFc _ h)
      clear hP1 hK1 hD1 hk1 hz1 hvm ht hFc
      obtain ⟨hV_18, hA_19, hR_20, hb_21⟩ := w_14
      dsimp only at hV_18 hA_19 hR_20 hb_21
      have R_22 : v_16 38 = v 38 := (scr.now hR_20).trans rfl
      exact W.iret (v := r_15) hx hb hr (fun t ht hW => ⟨⟨r_15, (v_16, fa_17), rfl, ⟨hV_18, hA_19, R_22⟩, ⟨by rw [ht]; exact hP, va_K.moved hW.alike hK, hD⟩⟩, hS.F ht⟩) hS.2.2 dX11_aboard_41
    · have dc_13 := c_ne (a := r_11.toInt) (b := 0) rfl (by decide) c_13
      refine lv_aload_n hx hb dX11_aboard_25 rfl (lv_at hl 1 rfl) ?_
      refine lv_iload hx hb dX11_aboard_26 (lv_at hl 0 rfl) ?_
      have hFc := va_free (wc := (mW g0 pq cp v fa)) hD hS hA (List.range 48) rfl
      refine va_calli (va_runV (As := [.int r_11]) (rest := []) ⟨hx, hb, hml, hown, hts⟩ (c_X11_refuse l dC dI H.size g0 pq cp v fa r_11 (by apply vp_in_iff.mpr; rw [ng_i (x := r_11) rfl (by omega) (by omega)]; omega)) (cwV 1 hts gX11_aboard_X11_refuse rfl rfl rfl (by decide +kernel) ⟨(Nat.le_of_ble_eq_true rfl), (Nat.le_of_ble_eq_true rfl)⟩) (pr_V (r := (RX11, TX11, 63)) hP hK hD 0 11 rfl rfl) rfl rfl hl.1 rfl (lv_room (Nat.le_of_ble_eq_true rfl)) dX11_aboard_28 ⟨(Nat.le_of_ble_eq_true rfl), (Nat.le_of_ble_eq_true rfl)⟩) hS (fun q _ h => hFc q h) hFc (fun r_24 u t H locs ht hvm w_23 hB hz1 hk1 hS => ?_)
      obtain ⟨v_25, fa_26⟩ := u
      obtain ⟨hP1, hK1, hD1⟩ := hB
      rw [ht] at hP1
      have hP : va_P (dC, dI) vwCl (mW g0 pq cp v_25 fa_26) H := hP1
      have hD : va_D A (mW g0 pq cp v_25 fa_26) := hD1.weaken (fun _ _ _ h => hFc _ h)
      clear hP1 hK1 hD1 hk1 hz1 hvm ht hFc
      obtain ⟨rfl, w_23⟩ := w_23
      have hVv_25 : mV v_25 := sm0_V w_23 gV
      have hAv_25 : mA fa_26 := sm0_A w_23 gA
      have hRv_25 : v_25 38 = v 38 := (congrFun w_23.1 38).trans rfl
      refine lv_goto (tgt := 41) hx hb dX11_aboard_31 (by decide) ?_
      exact W.iret (v := r_11) hx hb hr (fun t ht hW => ⟨⟨r_11, (v_25, fa_26), rfl, ⟨hVv_25, hAv_25, hRv_25⟩, ⟨by rw [ht]; exact hP, va_K.moved hW.alike hK, hD⟩⟩, hS.F ht⟩) hS.2.2 dX11_aboard_41
set_option maxHeartbeats 4000000 in
set_option maxRecDepth 100000 in
theorem c_X11_advance (l : Launch) (dC : Nat → ClassId) (dI : Nat → Nat → Nat) (sz : Nat) (g0 : Nat) (pq : Nat → Nat) (cp : Nat → ClassId) (v : Nat → Int32) (fa : Nat → Nat → Int32) (gV : mV v) (gA : mA fa) (x1 : Int32) (x2 : Int32) : Met l yX11_advance wsX11_advance ({ frames := 23, cells := 0, slots := 0, locals := 533 }) (va_Pc [.ref g0, .int x1, .int x2] (pcW (dC, dI) (mT cp) (mW g0 pq cp v fa) sz)) (va_Qi (fun (r : Int32) (u : (Nat → Int32) × (Nat → Nat → Int32)) => mV u.1 ∧ mA u.2 ∧ u.1 38 = v 38) (fun u t => va_P (dC, dI) vwCl (mW g0 pq cp u.1 u.2) t.heap ∧ va_K (dC, dI) vwCl (mT cp) t ∧ va_D (va_A (mW g0 pq cp v fa) sz) (mW g0 pq cp u.1 u.2)) (va_A (mW g0 pq cp v fa) sz)) 0 0 (va_A (mW g0 pq cp v fa) sz) := by
  refine Met.ofW (cc := cX11_advance) (maxL := 3) (ret := (some .int)) (by decide) rfl ?_
  intro p e s m args below meth c s₁ B hml hv
  obtain ⟨rfl, hsz, hP, hK, hD0⟩ := hv
  have hx := B.exec
  have hb := B.bytes
  have hr := B.returns
  have hts := atoms_spec (ws := wsX11_advance) B.pre
  have hown : s.vm.findClass RX11 = some m.cls := findClass_of_methodNamed B.named
  have hlocks := B.notSynchronized
  subst hsz
  have hD := hD0.self (sz := s.heap.size)
  generalize hAe : va_A (mW g0 pq cp v fa) s.heap.size = A at hD ⊢
  have hA : ∀ q : Nat, s.heap.size ≤ q → A q := fun q h => by rw [← hAe]; exact Or.inr h
  have hS : va_S A s.heap s.heap [] := va_S.rf
  have hP : va_P (dC, dI) vwCl (mW g0 pq cp v fa) s.heap := hP
  have hl := lv_entry ([.ref g0, .int x1, .int x2]) (n := 3) (Nat.le_of_ble_eq_true rfl)
  rw [lg_entry_eq]
  generalize (lg_sl ([.ref g0, .int x1, .int x2]) ++ List.replicate (3 - (lg_sl ([.ref g0, .int x1, .int x2])).length) Slot.unset).toArray = ls at hl ⊢
  have hl : lv_has ls 3 [(0, .ref g0), (1, .int x1), (2, .int x2)] := hl
  refine lv_aload_n hx hb dX11_advance_0 rfl (lv_at hl 0 rfl) ?_
  refine lv_iload_n hx hb dX11_advance_1 rfl (lv_at hl 1 rfl) ?_
  have hFc : ∀ q, va_A [] s.heap.size q → A q := pu_free hS hA
  refine va_calli (va_runV (As := [.int x1]) (rest := []) ⟨hx, hb, hml, hown, hts⟩ (c_X11_isAgreement l dC dI s.heap.size g0 pq cp v fa x1) (cwV 1 hts gX11_advance_X11_isAgreement rfl rfl rfl (by decide +kernel) ⟨(Nat.le_of_ble_eq_true rfl), (Nat.le_of_ble_eq_true rfl)⟩) (pr_V (r := (RX11, TX11, 63)) hP hK hD 0 11 rfl rfl) rfl rfl hl.1 rfl (lv_room (Nat.le_of_ble_eq_true rfl)) dX11_advance_2 ⟨(Nat.le_of_ble_eq_true rfl), (Nat.le_of_ble_eq_true rfl)⟩) hS (fun q _ h => hFc q h) hFc (fun r_2 u t H locs ht hvm w_1 hB hz1 hk1 hS => ?_)
  have hP := pu_keep hP hk1
  clear hk1 hz1 hvm hB ht hFc
  have hbr_2 : 0 ≤ r_2.toInt ∧ r_2.toInt ≤ 1 := iv_of w_1 (isI_i _ _)
  refine lv_if_ne (tgt := 14) hx hb dX11_advance_5 (by decide) (fun c_3 => ?_) (fun c_3 => ?_)
  · have dc_3 := c_ne (a := r_2.toInt) (b := 0) rfl (by decide) c_3
    have hi_4 := isI_t w_1 (fun q => c_3 (Int32.toInt_inj.mp q))
    have khi_4 : (v 43).toInt ≤ 60 := (gV 43).2
    refine lv_aload_n hx hb dX11_advance_14 rfl (lv_at hl 0 rfl) ?_
    refine va_get (D := (dC, dI)) (ci := 11) (v := .ref (pq 27)) (C := RX11) (T := TX11) (N := 63) hx hb hts in_wsX11_advance_X11 hown hK hP 0 rfl rfl 27 (by decide) (hts (.fieldLink RX11 91 "ShipOfficeModel" "note" "[I") (by decide +kernel)) (fun _ h9 => h9) rfl dX11_advance_15 ?_
    refine lv_iload_n hx hb dX11_advance_18 rfl (lv_at hl 1 rfl) ?_
    refine va_iald hx hb hK hP 28 27 rfl rfl (vp_in_iff.mpr (by omega)) dX11_advance_19 ?_
    refine lv_topi (fun x_5 ex_5 => ?_)
    clear ex_5
    refine lv_if_gt (tgt := 39) hx hb dX11_advance_20 (by decide) (fun c_6 => ?_) (fun c_6 => ?_)
    · have dc_6 := c_lt (a := 0) (b := x_5.toInt) (by decide) rfl c_6
      refine lv_aload_n hx hb dX11_advance_39 rfl (lv_at hl 0 rfl) ?_
      refine lv_bipush (v := (-3)) hx hb dX11_advance_40 (by decide) ?_
      have hFc := va_free (wc := (mW g0 pq cp v fa)) hD hS hA (List.range 48) rfl
      refine va_calli (va_runV (As := [.int (-3)]) (rest := []) ⟨hx, hb, hml, hown, hts⟩ (c_X11_refuse l dC dI H.size g0 pq cp v fa (-3) (by unfold vp_in; decide)) (cwV 1 hts gX11_advance_X11_refuse rfl rfl rfl (by decide +kernel) ⟨(Nat.le_of_ble_eq_true rfl), (Nat.le_of_ble_eq_true rfl)⟩) (pr_V (r := (RX11, TX11, 63)) hP hK hD 0 11 rfl rfl) rfl rfl hl.1 rfl (lv_room (Nat.le_of_ble_eq_true rfl)) dX11_advance_42 ⟨(Nat.le_of_ble_eq_true rfl), (Nat.le_of_ble_eq_true rfl)⟩) hS (fun q _ h => hFc q h) hFc (fun r_8 u t H locs ht hvm w_7 hB hz1 hk1 hS => ?_)
      obtain ⟨v_9, fa_10⟩ := u
      obtain ⟨hP1, hK1, hD1⟩ := hB
      rw [ht] at hP1
      have hP : va_P (dC, dI) vwCl (mW g0 pq cp v_9 fa_10) H := hP1
      have hD : va_D A (mW g0 pq cp v_9 fa_10) := hD1.weaken (fun _ _ _ h => hFc _ h)
      clear hP1 hK1 hD1 hk1 hz1 hvm ht hFc
      obtain ⟨rfl, w_7⟩ := w_7
      have hVv_9 : mV v_9 := sm0_V w_7 gV
      have hAv_9 : mA fa_10 := sm0_A w_7 gA
      have hRv_9 : v_9 38 = v 38 := (congrFun w_7.1 38).trans rfl
      exact W.iret (v := (-3)) hx hb hr (fun t ht hW => ⟨⟨(-3), (v_9, fa_10), rfl, ⟨hVv_9, hAv_9, hRv_9⟩, ⟨by rw [ht]; exact hP, va_K.moved hW.alike hK, hD⟩⟩, hS.F ht⟩) hS.2.2 dX11_advance_45
    · have dc_6 := c_nlt (a := 0) (b := x_5.toInt) (by decide) rfl c_6
      refine lv_aload_n hx hb dX11_advance_23 rfl (lv_at hl 0 rfl) ?_
      refine lv_iload_n hx hb dX11_advance_24 rfl (lv_at hl 1 rfl) ?_
      refine lv_aload_n hx hb dX11_advance_25 rfl (lv_at hl 0 rfl) ?_
      refine va_get (D := (dC, dI)) (ci := 11) (v := .int (v 38)) (C := RX11) (T := TX11) (N := 63) hx hb hts in_wsX11_advance_X11 hown hK hP 0 rfl rfl 38 (by decide) (hts (.fieldLink RX11 171 "ShipOfficeModel" "now" "I") (by decide +kernel)) (fun _ h9 => h9) rfl dX11_advance_26 ?_
      refine lv_topi (fun x_11 ex_11 => ?_)
      have hx_11 : 0 ≤ x_11.toInt ∧ x_11.toInt ≤ 3000 := iv_of ex_11 (gV 38)
      clear ex_11
      refine lv_aload_n hx hb dX11_advance_29 rfl (lv_at hl 0 rfl) ?_
      refine va_get (D := (dC, dI)) (ci := 11) (v := .int (v 38)) (C := RX11) (T := TX11) (N := 63) hx hb hts in_wsX11_advance_X11 hown hK hP 0 rfl rfl 38 (by decide) (hts (.fieldLink RX11 171 "ShipOfficeModel" "now" "I") (by decide +kernel)) (fun _ h9 => h9) rfl dX11_advance_30 ?_
      refine lv_topi (fun x_12 ex_12 => ?_)
      have hx_12 : 0 ≤ x_12.toInt ∧ x_12.toInt ≤ 3000 := iv_of ex_12 (gV 38)
      clear ex_12
      have hFc := va_free (wc := (mW g0 pq cp v fa)) hD hS hA (List.range 48) rfl
      refine va_calli (va_runV (As := [.int x1, .int x_11, .int x_12]) (rest := []) ⟨hx, hb, hml, hown, hts⟩ (c_X11_stateOf l dC dI H.size g0 pq cp v fa gV gA x1 (by omega) x_11 x_12) (cwV 3 hts gX11_advance_X11_stateOf rfl rfl rfl (by decide +kernel) ⟨(Nat.le_of_ble_eq_true rfl), (Nat.le_of_ble_eq_true rfl)⟩) (pr_V (r := (RX11, TX11, 63)) hP hK hD 0 11 rfl rfl) rfl rfl hl.1 rfl (lv_room (Nat.le_of_ble_eq_true rfl)) dX11_advance_33 ⟨(Nat.le_of_ble_eq_true rfl), (Nat.le_of_ble_eq_true rfl)⟩) hS (fun q _ h => hFc q h) hFc (fun r_14 u t H locs ht hvm w_13 hB hz1 hk1 hS => ?_)
      obtain ⟨v_15, fa_16⟩ := u
      obtain ⟨hP1, hK1, hD1⟩ := hB
      rw [ht] at hP1
      have hP : va_P (dC, dI) vwCl (mW g0 pq cp v_15 fa_16) H := hP1
      have hD : va_D A (mW g0 pq cp v_15 fa_16) := hD1.weaken (fun _ _ _ h => hFc _ h)
      clear hP1 hK1 hD1 hk1 hz1 hvm ht hFc
      obtain ⟨hV_17, hA_18, hR_19, hb_20, hx_21⟩ := w_13
      dsimp only at hV_17 hA_18 hR_19 hb_20 hx_21
      have R_22 : v_15 38 = v 38 := (scr.now hR_19).trans rfl
      refine lv_if_eq (tgt := 46) hx hb dX11_advance_36 (by decide) (fun c_23 => ?_) (fun c_23 => ?_)
      · have dc_23 := c_eq (a := r_14.toInt) (b := 0) rfl (by decide) c_23
        refine lv_iload_n hx hb dX11_advance_46 rfl (lv_at hl 2 rfl) ?_
        refine lv_iconst (v := 1) hx hb dX11_advance_47 (by decide) ?_
        refine lv_icmp_ge (tgt := 58) hx hb dX11_advance_48 (by decide) (fun c_24 => ?_) (fun c_24 => ?_)
        · have dc_24 := c_le (a := 1) (b := x2.toInt) (by decide) rfl c_24
          refine lv_iload_n hx hb dX11_advance_58 rfl (lv_at hl 2 rfl) ?_
          refine lv_ldc (v := 99999) hx hb hown (hts (.constant RX11 178 (99999)) (by decide +kernel)) dX11_advance_59 ?_
          refine lv_icmp_le (tgt := 71) hx hb dX11_advance_61 (by decide) (fun c_25 => ?_) (fun c_25 => ?_)
          · have dc_25 := c_le (a := x2.toInt) (b := 99999) rfl (by decide) c_25
            refine lv_aload_n hx hb dX11_advance_71 rfl (lv_at hl 0 rfl) ?_
            refine va_get (D := (dC, dI)) (ci := 11) (v := .ref (pq 27)) (C := RX11) (T := TX11) (N := 63) hx hb hts in_wsX11_advance_X11 hown hK hP 0 rfl rfl 27 (by decide) (hts (.fieldLink RX11 91 "ShipOfficeModel" "note" "[I") (by decide +kernel)) (fun _ h9 => h9) rfl dX11_advance_72 ?_
            refine lv_iload_n hx hb dX11_advance_75 rfl (lv_at hl 1 rfl) ?_
            refine lv_iload_n hx hb dX11_advance_76 rfl (lv_at hl 2 rfl) ?_
            refine va_iast hx hb hK hP hD hS 28 27 rfl rfl (vp_in_iff.mpr (by omega)) dX11_advance_77 (fun H locs hP hD hS => ?_)
            have hP : va_P (dC, dI) vwCl (mW g0 pq cp v_15 (upF fa_16 27 (x1 : Int32).toNatClampNeg x2)) H := hP
            have hD : va_D A (mW g0 pq cp v_15 (upF fa_16 27 (x1 : Int32).toNatClampNeg x2)) := hD
            obtain ⟨fz_26, efz_26⟩ : ∃ zq, zq = (upF fa_16 27 (x1 : Int32).toNatClampNeg x2) := ⟨_, rfl⟩
            rw [← efz_26] at hP hD
            have hAfz_26 : mA fz_26 := by rw [efz_26]; exact mA_upF (lo := -2147483648) (hi := 2147483647) hA_18 rfl rfl (iv_all _)
            refine lv_iconst (v := 1) hx hb dX11_advance_78 (by decide) ?_
            exact W.iret (v := 1) hx hb hr (fun t ht hW => ⟨⟨1, (v_15, fz_26), rfl, ⟨hV_17, hAfz_26, R_22⟩, ⟨by rw [ht]; exact hP, va_K.moved hW.alike hK, hD⟩⟩, hS.F ht⟩) hS.2.2 dX11_advance_79
          · have dc_25 := c_nle (a := x2.toInt) (b := 99999) rfl (by decide) c_25
            refine lv_aload_n hx hb dX11_advance_64 rfl (lv_at hl 0 rfl) ?_
            refine lv_bipush (v := (-6)) hx hb dX11_advance_65 (by decide) ?_
            have hFc := va_free (wc := (mW g0 pq cp v_15 fa_16)) hD hS hA (List.range 48) rfl
            refine va_calli (va_runV (As := [.int (-6)]) (rest := []) ⟨hx, hb, hml, hown, hts⟩ (c_X11_refuse l dC dI H.size g0 pq cp v_15 fa_16 (-6) (by unfold vp_in; decide)) (cwV 1 hts gX11_advance_X11_refuse rfl rfl rfl (by decide +kernel) ⟨(Nat.le_of_ble_eq_true rfl), (Nat.le_of_ble_eq_true rfl)⟩) (pr_V (r := (RX11, TX11, 63)) hP hK hD 0 11 rfl rfl) rfl rfl hl.1 rfl (lv_room (Nat.le_of_ble_eq_true rfl)) dX11_advance_67 ⟨(Nat.le_of_ble_eq_true rfl), (Nat.le_of_ble_eq_true rfl)⟩) hS (fun q _ h => hFc q h) hFc (fun r_28 u t H locs ht hvm w_27 hB hz1 hk1 hS => ?_)
            obtain ⟨v_29, fa_30⟩ := u
            obtain ⟨hP1, hK1, hD1⟩ := hB
            rw [ht] at hP1
            have hP : va_P (dC, dI) vwCl (mW g0 pq cp v_29 fa_30) H := hP1
            have hD : va_D A (mW g0 pq cp v_29 fa_30) := hD1.weaken (fun _ _ _ h => hFc _ h)
            clear hP1 hK1 hD1 hk1 hz1 hvm ht hFc
            obtain ⟨rfl, w_27⟩ := w_27
            have hVv_29 : mV v_29 := sm0_V w_27 hV_17
            have hAv_29 : mA fa_30 := sm0_A w_27 hA_18
            have hRv_29 : v_29 38 = v 38 := (congrFun w_27.1 38).trans R_22
            exact W.iret (v := (-6)) hx hb hr (fun t ht hW => ⟨⟨(-6), (v_29, fa_30), rfl, ⟨hVv_29, hAv_29, hRv_29⟩, ⟨by rw [ht]; exact hP, va_K.moved hW.alike hK, hD⟩⟩, hS.F ht⟩) hS.2.2 dX11_advance_70
        · have dc_24 := c_nle (a := 1) (b := x2.toInt) (by decide) rfl c_24
          refine lv_aload_n hx hb dX11_advance_51 rfl (lv_at hl 0 rfl) ?_
          refine lv_bipush (v := (-4)) hx hb dX11_advance_52 (by decide) ?_
          have hFc := va_free (wc := (mW g0 pq cp v_15 fa_16)) hD hS hA (List.range 48) rfl
          refine va_calli (va_runV (As := [.int (-4)]) (rest := []) ⟨hx, hb, hml, hown, hts⟩ (c_X11_refuse l dC dI H.size g0 pq cp v_15 fa_16 (-4) (by unfold vp_in; decide)) (cwV 1 hts gX11_advance_X11_refuse rfl rfl rfl (by decide +kernel) ⟨(Nat.le_of_ble_eq_true rfl), (Nat.le_of_ble_eq_true rfl)⟩) (pr_V (r := (RX11, TX11, 63)) hP hK hD 0 11 rfl rfl) rfl rfl hl.1 rfl (lv_room (Nat.le_of_ble_eq_true rfl)) dX11_advance_54 ⟨(Nat.le_of_ble_eq_true rfl), (Nat.le_of_ble_eq_true rfl)⟩) hS (fun q _ h => hFc q h) hFc (fun r_32 u t H locs ht hvm w_31 hB hz1 hk1 hS => ?_)
          obtain ⟨v_33, fa_34⟩ := u
          obtain ⟨hP1, hK1, hD1⟩ := hB
          rw [ht] at hP1
          have hP : va_P (dC, dI) vwCl (mW g0 pq cp v_33 fa_34) H := hP1
          have hD : va_D A (mW g0 pq cp v_33 fa_34) := hD1.weaken (fun _ _ _ h => hFc _ h)
          clear hP1 hK1 hD1 hk1 hz1 hvm ht hFc
          obtain ⟨rfl, w_31⟩ := w_31
          have hVv_33 : mV v_33 := sm0_V w_31 hV_17
          have hAv_33 : mA fa_34 := sm0_A w_31 hA_18
          have hRv_33 : v_33 38 = v 38 := (congrFun w_31.1 38).trans R_22
          exact W.iret (v := (-4)) hx hb hr (fun t ht hW => ⟨⟨(-4), (v_33, fa_34), rfl, ⟨hVv_33, hAv_33, hRv_33⟩, ⟨by rw [ht]; exact hP, va_K.moved hW.alike hK, hD⟩⟩, hS.F ht⟩) hS.2.2 dX11_advance_57
      · have dc_23 := c_ne (a := r_14.toInt) (b := 0) rfl (by decide) c_23
        refine lv_aload_n hx hb dX11_advance_39 rfl (lv_at hl 0 rfl) ?_
        refine lv_bipush (v := (-3)) hx hb dX11_advance_40 (by decide) ?_
        have hFc := va_free (wc := (mW g0 pq cp v_15 fa_16)) hD hS hA (List.range 48) rfl
        refine va_calli (va_runV (As := [.int (-3)]) (rest := []) ⟨hx, hb, hml, hown, hts⟩ (c_X11_refuse l dC dI H.size g0 pq cp v_15 fa_16 (-3) (by unfold vp_in; decide)) (cwV 1 hts gX11_advance_X11_refuse rfl rfl rfl (by decide +kernel) ⟨(Nat.le_of_ble_eq_true rfl), (Nat.le_of_ble_eq_true rfl)⟩) (pr_V (r := (RX11, TX11, 63)) hP hK hD 0 11 rfl rfl) rfl rfl hl.1 rfl (lv_room (Nat.le_of_ble_eq_true rfl)) dX11_advance_42 ⟨(Nat.le_of_ble_eq_true rfl), (Nat.le_of_ble_eq_true rfl)⟩) hS (fun q _ h => hFc q h) hFc (fun r_36 u t H locs ht hvm w_35 hB hz1 hk1 hS => ?_)
        obtain ⟨v_37, fa_38⟩ := u
        obtain ⟨hP1, hK1, hD1⟩ := hB
        rw [ht] at hP1
        have hP : va_P (dC, dI) vwCl (mW g0 pq cp v_37 fa_38) H := hP1
        have hD : va_D A (mW g0 pq cp v_37 fa_38) := hD1.weaken (fun _ _ _ h => hFc _ h)
        clear hP1 hK1 hD1 hk1 hz1 hvm ht hFc
        obtain ⟨rfl, w_35⟩ := w_35
        have hVv_37 : mV v_37 := sm0_V w_35 hV_17
        have hAv_37 : mA fa_38 := sm0_A w_35 hA_18
        have hRv_37 : v_37 38 = v 38 := (congrFun w_35.1 38).trans R_22
        exact W.iret (v := (-3)) hx hb hr (fun t ht hW => ⟨⟨(-3), (v_37, fa_38), rfl, ⟨hVv_37, hAv_37, hRv_37⟩, ⟨by rw [ht]; exact hP, va_K.moved hW.alike hK, hD⟩⟩, hS.F ht⟩) hS.2.2 dX11_advance_45
  · have dc_3 := c_eq (a := r_2.toInt) (b := 0) rfl (by decide) c_3
    refine lv_aload_n hx hb dX11_advance_8 rfl (lv_at hl 0 rfl) ?_
    refine lv_iconst (v := (-1)) hx hb dX11_advance_9 (by decide) ?_
    have hFc := va_free (wc := (mW g0 pq cp v fa)) hD hS hA (List.range 48) rfl
    refine va_calli (va_runV (As := [.int (-1)]) (rest := []) ⟨hx, hb, hml, hown, hts⟩ (c_X11_refuse l dC dI H.size g0 pq cp v fa (-1) (by unfold vp_in; decide)) (cwV 1 hts gX11_advance_X11_refuse rfl rfl rfl (by decide +kernel) ⟨(Nat.le_of_ble_eq_true rfl), (Nat.le_of_ble_eq_true rfl)⟩) (pr_V (r := (RX11, TX11, 63)) hP hK hD 0 11 rfl rfl) rfl rfl hl.1 rfl (lv_room (Nat.le_of_ble_eq_true rfl)) dX11_advance_10 ⟨(Nat.le_of_ble_eq_true rfl), (Nat.le_of_ble_eq_true rfl)⟩) hS (fun q _ h => hFc q h) hFc (fun r_40 u t H locs ht hvm w_39 hB hz1 hk1 hS => ?_)
    obtain ⟨v_41, fa_42⟩ := u
    obtain ⟨hP1, hK1, hD1⟩ := hB
    rw [ht] at hP1
    have hP : va_P (dC, dI) vwCl (mW g0 pq cp v_41 fa_42) H := hP1
    have hD : va_D A (mW g0 pq cp v_41 fa_42) := hD1.weaken (fun _ _ _ h => hFc _ h)
    clear hP1 hK1 hD1 hk1 hz1 hvm ht hFc
    obtain ⟨rfl, w_39⟩ := w_39
    have hVv_41 : mV v_41 := sm0_V w_39 gV
    have hAv_41 : mA fa_42 := sm0_A w_39 gA
    have hRv_41 : v_41 38 = v 38 := (congrFun w_39.1 38).trans rfl
    exact W.iret (v := (-1)) hx hb hr (fun t ht hW => ⟨⟨(-1), (v_41, fa_42), rfl, ⟨hVv_41, hAv_41, hRv_41⟩, ⟨by rw [ht]; exact hP, va_K.moved hW.alike hK, hD⟩⟩, hS.F ht⟩) hS.2.2 dX11_advance_13
set_option maxHeartbeats 4000000 in
set_option maxRecDepth 100000 in
theorem c_X11_sold (l : Launch) (dC : Nat → ClassId) (dI : Nat → Nat → Nat) (sz : Nat) (g0 : Nat) (pq : Nat → Nat) (cp : Nat → ClassId) (v : Nat → Int32) (fa : Nat → Nat → Int32) (gV : mV v) (gA : mA fa) (x1 : Int32) (x2 : Int32) : Met l yX11_sold wsX11_sold ({ frames := 2, cells := 0, slots := 0, locals := 42 }) (va_Pc [.ref g0, .int x1, .int x2] (pcW (dC, dI) (mT cp) (mW g0 pq cp v fa) sz)) (va_Qi (fun (r : Int32) (u : (Nat → Int32) × (Nat → Nat → Int32)) => mV u.1 ∧ mA u.2 ∧ u.1 38 = v 38) (fun u t => va_P (dC, dI) vwCl (mW g0 pq cp u.1 u.2) t.heap ∧ va_K (dC, dI) vwCl (mT cp) t ∧ va_D (va_A (mW g0 pq cp v fa) sz) (mW g0 pq cp u.1 u.2)) (va_A (mW g0 pq cp v fa) sz)) 0 0 (va_A (mW g0 pq cp v fa) sz) := by
  refine Met.ofW (cc := cX11_sold) (maxL := 3) (ret := (some .int)) (by decide) rfl ?_
  intro p e s m args below meth c s₁ B hml hv
  obtain ⟨rfl, hsz, hP, hK, hD0⟩ := hv
  have hx := B.exec
  have hb := B.bytes
  have hr := B.returns
  have hts := atoms_spec (ws := wsX11_sold) B.pre
  have hown : s.vm.findClass RX11 = some m.cls := findClass_of_methodNamed B.named
  have hlocks := B.notSynchronized
  subst hsz
  have hD := hD0.self (sz := s.heap.size)
  generalize hAe : va_A (mW g0 pq cp v fa) s.heap.size = A at hD ⊢
  have hA : ∀ q : Nat, s.heap.size ≤ q → A q := fun q h => by rw [← hAe]; exact Or.inr h
  have hS : va_S A s.heap s.heap [] := va_S.rf
  have hP : va_P (dC, dI) vwCl (mW g0 pq cp v fa) s.heap := hP
  have hl := lv_entry ([.ref g0, .int x1, .int x2]) (n := 3) (Nat.le_of_ble_eq_true rfl)
  rw [lg_entry_eq]
  generalize (lg_sl ([.ref g0, .int x1, .int x2]) ++ List.replicate (3 - (lg_sl ([.ref g0, .int x1, .int x2])).length) Slot.unset).toArray = ls at hl ⊢
  have hl : lv_has ls 3 [(0, .ref g0), (1, .int x1), (2, .int x2)] := hl
  refine lv_aload_n hx hb dX11_sold_0 rfl (lv_at hl 0 rfl) ?_
  refine lv_iload_n hx hb dX11_sold_1 rfl (lv_at hl 1 rfl) ?_
  have hFc : ∀ q, va_A [] s.heap.size q → A q := pu_free hS hA
  refine va_calli (va_runV (As := [.int x1]) (rest := []) ⟨hx, hb, hml, hown, hts⟩ (c_X11_isAgreement l dC dI s.heap.size g0 pq cp v fa x1) (cwV 1 hts gX11_sold_X11_isAgreement rfl rfl rfl (by decide +kernel) ⟨(Nat.le_of_ble_eq_true rfl), (Nat.le_of_ble_eq_true rfl)⟩) (pr_V (r := (RX11, TX11, 63)) hP hK hD 0 11 rfl rfl) rfl rfl hl.1 rfl (lv_room (Nat.le_of_ble_eq_true rfl)) dX11_sold_2 ⟨(Nat.le_of_ble_eq_true rfl), (Nat.le_of_ble_eq_true rfl)⟩) hS (fun q _ h => hFc q h) hFc (fun r_2 u t H locs ht hvm w_1 hB hz1 hk1 hS => ?_)
  have hP := pu_keep hP hk1
  clear hk1 hz1 hvm hB ht hFc
  have hbr_2 : 0 ≤ r_2.toInt ∧ r_2.toInt ≤ 1 := iv_of w_1 (isI_i _ _)
  refine lv_if_ne (tgt := 14) hx hb dX11_sold_5 (by decide) (fun c_3 => ?_) (fun c_3 => ?_)
  · have dc_3 := c_ne (a := r_2.toInt) (b := 0) rfl (by decide) c_3
    have hi_4 := isI_t w_1 (fun q => c_3 (Int32.toInt_inj.mp q))
    have khi_4 : (v 43).toInt ≤ 60 := (gV 43).2
    refine lv_aload_n hx hb dX11_sold_14 rfl (lv_at hl 0 rfl) ?_
    refine va_get (D := (dC, dI)) (ci := 11) (v := .ref (pq 27)) (C := RX11) (T := TX11) (N := 63) hx hb hts in_wsX11_sold_X11 hown hK hP 0 rfl rfl 27 (by decide) (hts (.fieldLink RX11 91 "ShipOfficeModel" "note" "[I") (by decide +kernel)) (fun _ h9 => h9) rfl dX11_sold_15 ?_
    refine lv_iload_n hx hb dX11_sold_18 rfl (lv_at hl 1 rfl) ?_
    refine va_iald hx hb hK hP 28 27 rfl rfl (vp_in_iff.mpr (by omega)) dX11_sold_19 ?_
    refine lv_topi (fun x_5 ex_5 => ?_)
    clear ex_5
    refine lv_if_eq (tgt := 32) hx hb dX11_sold_20 (by decide) (fun c_6 => ?_) (fun c_6 => ?_)
    · have dc_6 := c_eq (a := x_5.toInt) (b := 0) rfl (by decide) c_6
      refine lv_aload_n hx hb dX11_sold_32 rfl (lv_at hl 0 rfl) ?_
      refine lv_bipush (v := (-3)) hx hb dX11_sold_33 (by decide) ?_
      have hFc := va_free (wc := (mW g0 pq cp v fa)) hD hS hA (List.range 48) rfl
      refine va_calli (va_runV (As := [.int (-3)]) (rest := []) ⟨hx, hb, hml, hown, hts⟩ (c_X11_refuse l dC dI H.size g0 pq cp v fa (-3) (by unfold vp_in; decide)) (cwV 1 hts gX11_sold_X11_refuse rfl rfl rfl (by decide +kernel) ⟨(Nat.le_of_ble_eq_true rfl), (Nat.le_of_ble_eq_true rfl)⟩) (pr_V (r := (RX11, TX11, 63)) hP hK hD 0 11 rfl rfl) rfl rfl hl.1 rfl (lv_room (Nat.le_of_ble_eq_true rfl)) dX11_sold_35 ⟨(Nat.le_of_ble_eq_true rfl), (Nat.le_of_ble_eq_true rfl)⟩) hS (fun q _ h => hFc q h) hFc (fun r_8 u t H locs ht hvm w_7 hB hz1 hk1 hS => ?_)
      obtain ⟨v_9, fa_10⟩ := u
      obtain ⟨hP1, hK1, hD1⟩ := hB
      rw [ht] at hP1
      have hP : va_P (dC, dI) vwCl (mW g0 pq cp v_9 fa_10) H := hP1
      have hD : va_D A (mW g0 pq cp v_9 fa_10) := hD1.weaken (fun _ _ _ h => hFc _ h)
      clear hP1 hK1 hD1 hk1 hz1 hvm ht hFc
      obtain ⟨rfl, w_7⟩ := w_7
      have hVv_9 : mV v_9 := sm0_V w_7 gV
      have hAv_9 : mA fa_10 := sm0_A w_7 gA
      have hRv_9 : v_9 38 = v 38 := (congrFun w_7.1 38).trans rfl
      exact W.iret (v := (-3)) hx hb hr (fun t ht hW => ⟨⟨(-3), (v_9, fa_10), rfl, ⟨hVv_9, hAv_9, hRv_9⟩, ⟨by rw [ht]; exact hP, va_K.moved hW.alike hK, hD⟩⟩, hS.F ht⟩) hS.2.2 dX11_sold_38
    · have dc_6 := c_ne (a := x_5.toInt) (b := 0) rfl (by decide) c_6
      refine lv_aload_n hx hb dX11_sold_23 rfl (lv_at hl 0 rfl) ?_
      refine va_get (D := (dC, dI)) (ci := 11) (v := .ref (pq 28)) (C := RX11) (T := TX11) (N := 63) hx hb hts in_wsX11_sold_X11 hown hK hP 0 rfl rfl 28 (by decide) (hts (.fieldLink RX11 94 "ShipOfficeModel" "given" "[I") (by decide +kernel)) (fun _ h9 => h9) rfl dX11_sold_24 ?_
      refine lv_iload_n hx hb dX11_sold_27 rfl (lv_at hl 1 rfl) ?_
      refine va_iald hx hb hK hP 29 28 rfl rfl (vp_in_iff.mpr (by omega)) dX11_sold_28 ?_
      refine lv_topi (fun x_11 ex_11 => ?_)
      clear ex_11
      refine lv_if_le (tgt := 39) hx hb dX11_sold_29 (by decide) (fun c_12 => ?_) (fun c_12 => ?_)
      · have dc_12 := c_le (a := x_11.toInt) (b := 0) rfl (by decide) c_12
        refine lv_iload_n hx hb dX11_sold_39 rfl (lv_at hl 2 rfl) ?_
        refine lv_iconst (v := 1) hx hb dX11_sold_40 (by decide) ?_
        refine lv_icmp_ge (tgt := 51) hx hb dX11_sold_41 (by decide) (fun c_13 => ?_) (fun c_13 => ?_)
        · have dc_13 := c_le (a := 1) (b := x2.toInt) (by decide) rfl c_13
          refine lv_iload_n hx hb dX11_sold_51 rfl (lv_at hl 2 rfl) ?_
          refine lv_aload_n hx hb dX11_sold_52 rfl (lv_at hl 0 rfl) ?_
          refine va_get (D := (dC, dI)) (ci := 11) (v := .ref (pq 27)) (C := RX11) (T := TX11) (N := 63) hx hb hts in_wsX11_sold_X11 hown hK hP 0 rfl rfl 27 (by decide) (hts (.fieldLink RX11 91 "ShipOfficeModel" "note" "[I") (by decide +kernel)) (fun _ h9 => h9) rfl dX11_sold_53 ?_
          refine lv_iload_n hx hb dX11_sold_56 rfl (lv_at hl 1 rfl) ?_
          refine va_iald hx hb hK hP 28 27 rfl rfl (vp_in_iff.mpr (by omega)) dX11_sold_57 ?_
          refine lv_topi (fun x_14 ex_14 => ?_)
          clear ex_14
          refine lv_icmp_lt (tgt := 68) hx hb dX11_sold_58 (by decide) (fun c_15 => ?_) (fun c_15 => ?_)
          · have dc_15 := c_lt (a := x2.toInt) (b := x_14.toInt) rfl rfl c_15
            refine lv_aload_n hx hb dX11_sold_68 rfl (lv_at hl 0 rfl) ?_
            refine va_get (D := (dC, dI)) (ci := 11) (v := .ref (pq 28)) (C := RX11) (T := TX11) (N := 63) hx hb hts in_wsX11_sold_X11 hown hK hP 0 rfl rfl 28 (by decide) (hts (.fieldLink RX11 94 "ShipOfficeModel" "given" "[I") (by decide +kernel)) (fun _ h9 => h9) rfl dX11_sold_69 ?_
            refine lv_iload_n hx hb dX11_sold_72 rfl (lv_at hl 1 rfl) ?_
            refine lv_iload_n hx hb dX11_sold_73 rfl (lv_at hl 2 rfl) ?_
            refine va_iast hx hb hK hP hD hS 29 28 rfl rfl (vp_in_iff.mpr (by omega)) dX11_sold_74 (fun H locs hP hD hS => ?_)
            have hP : va_P (dC, dI) vwCl (mW g0 pq cp v (upF fa 28 (x1 : Int32).toNatClampNeg x2)) H := hP
            have hD : va_D A (mW g0 pq cp v (upF fa 28 (x1 : Int32).toNatClampNeg x2)) := hD
            obtain ⟨fz_16, efz_16⟩ : ∃ zq, zq = (upF fa 28 (x1 : Int32).toNatClampNeg x2) := ⟨_, rfl⟩
            rw [← efz_16] at hP hD
            have hAfz_16 : mA fz_16 := by rw [efz_16]; exact mA_upF (lo := -2147483648) (hi := 2147483647) gA rfl rfl (iv_all _)
            refine lv_aload_n hx hb dX11_sold_75 rfl (lv_at hl 0 rfl) ?_
            refine va_get (D := (dC, dI)) (ci := 11) (v := .ref (pq 27)) (C := RX11) (T := TX11) (N := 63) hx hb hts in_wsX11_sold_X11 hown hK hP 0 rfl rfl 27 (by decide) (hts (.fieldLink RX11 91 "ShipOfficeModel" "note" "[I") (by decide +kernel)) (fun _ h9 => h9) rfl dX11_sold_76 ?_
            refine lv_iload_n hx hb dX11_sold_79 rfl (lv_at hl 1 rfl) ?_
            refine va_iald hx hb hK hP 28 27 rfl rfl (vp_in_iff.mpr (by omega)) dX11_sold_80 ?_
            refine lv_topi (fun x_17 ex_17 => ?_)
            clear ex_17
            refine lv_iload_n hx hb dX11_sold_81 rfl (lv_at hl 2 rfl) ?_
            refine lv_isub hx hb dX11_sold_82 ?_
            refine lv_topi (fun x_18 ex_18 => ?_)
            clear ex_18
            exact W.iret (v := x_18) hx hb hr (fun t ht hW => ⟨⟨x_18, (v, fz_16), rfl, ⟨gV, hAfz_16, rfl⟩, ⟨by rw [ht]; exact hP, va_K.moved hW.alike hK, hD⟩⟩, hS.F ht⟩) hS.2.2 dX11_sold_83
          · have dc_15 := c_nlt (a := x2.toInt) (b := x_14.toInt) rfl rfl c_15
            refine lv_aload_n hx hb dX11_sold_61 rfl (lv_at hl 0 rfl) ?_
            refine lv_bipush (v := (-6)) hx hb dX11_sold_62 (by decide) ?_
            have hFc := va_free (wc := (mW g0 pq cp v fa)) hD hS hA (List.range 48) rfl
            refine va_calli (va_runV (As := [.int (-6)]) (rest := []) ⟨hx, hb, hml, hown, hts⟩ (c_X11_refuse l dC dI H.size g0 pq cp v fa (-6) (by unfold vp_in; decide)) (cwV 1 hts gX11_sold_X11_refuse rfl rfl rfl (by decide +kernel) ⟨(Nat.le_of_ble_eq_true rfl), (Nat.le_of_ble_eq_true rfl)⟩) (pr_V (r := (RX11, TX11, 63)) hP hK hD 0 11 rfl rfl) rfl rfl hl.1 rfl (lv_room (Nat.le_of_ble_eq_true rfl)) dX11_sold_64 ⟨(Nat.le_of_ble_eq_true rfl), (Nat.le_of_ble_eq_true rfl)⟩) hS (fun q _ h => hFc q h) hFc (fun r_20 u t H locs ht hvm w_19 hB hz1 hk1 hS => ?_)
            obtain ⟨v_21, fa_22⟩ := u
            obtain ⟨hP1, hK1, hD1⟩ := hB
            rw [ht] at hP1
            have hP : va_P (dC, dI) vwCl (mW g0 pq cp v_21 fa_22) H := hP1
            have hD : va_D A (mW g0 pq cp v_21 fa_22) := hD1.weaken (fun _ _ _ h => hFc _ h)
            clear hP1 hK1 hD1 hk1 hz1 hvm ht hFc
            obtain ⟨rfl, w_19⟩ := w_19
            have hVv_21 : mV v_21 := sm0_V w_19 gV
            have hAv_21 : mA fa_22 := sm0_A w_19 gA
            have hRv_21 : v_21 38 = v 38 := (congrFun w_19.1 38).trans rfl
            exact W.iret (v := (-6)) hx hb hr (fun t ht hW => ⟨⟨(-6), (v_21, fa_22), rfl, ⟨hVv_21, hAv_21, hRv_21⟩, ⟨by rw [ht]; exact hP, va_K.moved hW.alike hK, hD⟩⟩, hS.F ht⟩) hS.2.2 dX11_sold_67
        · have dc_13 := c_nle (a := 1) (b := x2.toInt) (by decide) rfl c_13
          refine lv_aload_n hx hb dX11_sold_44 rfl (lv_at hl 0 rfl) ?_
          refine lv_bipush (v := (-4)) hx hb dX11_sold_45 (by decide) ?_
          have hFc := va_free (wc := (mW g0 pq cp v fa)) hD hS hA (List.range 48) rfl
          refine va_calli (va_runV (As := [.int (-4)]) (rest := []) ⟨hx, hb, hml, hown, hts⟩ (c_X11_refuse l dC dI H.size g0 pq cp v fa (-4) (by unfold vp_in; decide)) (cwV 1 hts gX11_sold_X11_refuse rfl rfl rfl (by decide +kernel) ⟨(Nat.le_of_ble_eq_true rfl), (Nat.le_of_ble_eq_true rfl)⟩) (pr_V (r := (RX11, TX11, 63)) hP hK hD 0 11 rfl rfl) rfl rfl hl.1 rfl (lv_room (Nat.le_of_ble_eq_true rfl)) dX11_sold_47 ⟨(Nat.le_of_ble_eq_true rfl), (Nat.le_of_ble_eq_true rfl)⟩) hS (fun q _ h => hFc q h) hFc (fun r_24 u t H locs ht hvm w_23 hB hz1 hk1 hS => ?_)
          obtain ⟨v_25, fa_26⟩ := u
          obtain ⟨hP1, hK1, hD1⟩ := hB
          rw [ht] at hP1
          have hP : va_P (dC, dI) vwCl (mW g0 pq cp v_25 fa_26) H := hP1
          have hD : va_D A (mW g0 pq cp v_25 fa_26) := hD1.weaken (fun _ _ _ h => hFc _ h)
          clear hP1 hK1 hD1 hk1 hz1 hvm ht hFc
          obtain ⟨rfl, w_23⟩ := w_23
          have hVv_25 : mV v_25 := sm0_V w_23 gV
          have hAv_25 : mA fa_26 := sm0_A w_23 gA
          have hRv_25 : v_25 38 = v 38 := (congrFun w_23.1 38).trans rfl
          exact W.iret (v := (-4)) hx hb hr (fun t ht hW => ⟨⟨(-4), (v_25, fa_26), rfl, ⟨hVv_25, hAv_25, hRv_25⟩, ⟨by rw [ht]; exact hP, va_K.moved hW.alike hK, hD⟩⟩, hS.F ht⟩) hS.2.2 dX11_sold_50
      · have dc_12 := c_nle (a := x_11.toInt) (b := 0) rfl (by decide) c_12
        refine lv_aload_n hx hb dX11_sold_32 rfl (lv_at hl 0 rfl) ?_
        refine lv_bipush (v := (-3)) hx hb dX11_sold_33 (by decide) ?_
        have hFc := va_free (wc := (mW g0 pq cp v fa)) hD hS hA (List.range 48) rfl
        refine va_calli (va_runV (As := [.int (-3)]) (rest := []) ⟨hx, hb, hml, hown, hts⟩ (c_X11_refuse l dC dI H.size g0 pq cp v fa (-3) (by unfold vp_in; decide)) (cwV 1 hts gX11_sold_X11_refuse rfl rfl rfl (by decide +kernel) ⟨(Nat.le_of_ble_eq_true rfl), (Nat.le_of_ble_eq_true rfl)⟩) (pr_V (r := (RX11, TX11, 63)) hP hK hD 0 11 rfl rfl) rfl rfl hl.1 rfl (lv_room (Nat.le_of_ble_eq_true rfl)) dX11_sold_35 ⟨(Nat.le_of_ble_eq_true rfl), (Nat.le_of_ble_eq_true rfl)⟩) hS (fun q _ h => hFc q h) hFc (fun r_28 u t H locs ht hvm w_27 hB hz1 hk1 hS => ?_)
        obtain ⟨v_29, fa_30⟩ := u
        obtain ⟨hP1, hK1, hD1⟩ := hB
        rw [ht] at hP1
        have hP : va_P (dC, dI) vwCl (mW g0 pq cp v_29 fa_30) H := hP1
        have hD : va_D A (mW g0 pq cp v_29 fa_30) := hD1.weaken (fun _ _ _ h => hFc _ h)
        clear hP1 hK1 hD1 hk1 hz1 hvm ht hFc
        obtain ⟨rfl, w_27⟩ := w_27
        have hVv_29 : mV v_29 := sm0_V w_27 gV
        have hAv_29 : mA fa_30 := sm0_A w_27 gA
        have hRv_29 : v_29 38 = v 38 := (congrFun w_27.1 38).trans rfl
        exact W.iret (v := (-3)) hx hb hr (fun t ht hW => ⟨⟨(-3), (v_29, fa_30), rfl, ⟨hVv_29, hAv_29, hRv_29⟩, ⟨by rw [ht]; exact hP, va_K.moved hW.alike hK, hD⟩⟩, hS.F ht⟩) hS.2.2 dX11_sold_38
  · have dc_3 := c_eq (a := r_2.toInt) (b := 0) rfl (by decide) c_3
    refine lv_aload_n hx hb dX11_sold_8 rfl (lv_at hl 0 rfl) ?_
    refine lv_iconst (v := (-1)) hx hb dX11_sold_9 (by decide) ?_
    have hFc := va_free (wc := (mW g0 pq cp v fa)) hD hS hA (List.range 48) rfl
    refine va_calli (va_runV (As := [.int (-1)]) (rest := []) ⟨hx, hb, hml, hown, hts⟩ (c_X11_refuse l dC dI H.size g0 pq cp v fa (-1) (by unfold vp_in; decide)) (cwV 1 hts gX11_sold_X11_refuse rfl rfl rfl (by decide +kernel) ⟨(Nat.le_of_ble_eq_true rfl), (Nat.le_of_ble_eq_true rfl)⟩) (pr_V (r := (RX11, TX11, 63)) hP hK hD 0 11 rfl rfl) rfl rfl hl.1 rfl (lv_room (Nat.le_of_ble_eq_true rfl)) dX11_sold_10 ⟨(Nat.le_of_ble_eq_true rfl), (Nat.le_of_ble_eq_true rfl)⟩) hS (fun q _ h => hFc q h) hFc (fun r_32 u t H locs ht hvm w_31 hB hz1 hk1 hS => ?_)
    obtain ⟨v_33, fa_34⟩ := u
    obtain ⟨hP1, hK1, hD1⟩ := hB
    rw [ht] at hP1
    have hP : va_P (dC, dI) vwCl (mW g0 pq cp v_33 fa_34) H := hP1
    have hD : va_D A (mW g0 pq cp v_33 fa_34) := hD1.weaken (fun _ _ _ h => hFc _ h)
    clear hP1 hK1 hD1 hk1 hz1 hvm ht hFc
    obtain ⟨rfl, w_31⟩ := w_31
    have hVv_33 : mV v_33 := sm0_V w_31 gV
    have hAv_33 : mA fa_34 := sm0_A w_31 gA
    have hRv_33 : v_33 38 = v 38 := (congrFun w_31.1 38).trans rfl
    exact W.iret (v := (-1)) hx hb hr (fun t ht hW => ⟨⟨(-1), (v_33, fa_34), rfl, ⟨hVv_33, hAv_33, hRv_33⟩, ⟨by rw [ht]; exact hP, va_K.moved hW.alike hK, hD⟩⟩, hS.F ht⟩) hS.2.2 dX11_sold_13
set_option maxHeartbeats 4000000 in
set_option maxRecDepth 100000 in
theorem c_X11_allot (l : Launch) (dC : Nat → ClassId) (dI : Nat → Nat → Nat) (sz : Nat) (g0 : Nat) (pq : Nat → Nat) (cp : Nat → ClassId) (v : Nat → Int32) (fa : Nat → Nat → Int32) (gV : mV v) (gA : mA fa) (x1 : Int32) (x2 : Int32) : Met l yX11_allot wsX11_allot ({ frames := 25, cells := 0, slots := 0, locals := 586 }) (va_Pc [.ref g0, .int x1, .int x2] (pcW (dC, dI) (mT cp) (mW g0 pq cp v fa) sz)) (va_Qi (fun (r : Int32) (u : (Nat → Int32) × (Nat → Nat → Int32)) => mV u.1 ∧ mA u.2 ∧ u.1 38 = v 38) (fun u t => va_P (dC, dI) vwCl (mW g0 pq cp u.1 u.2) t.heap ∧ va_K (dC, dI) vwCl (mT cp) t ∧ va_D (va_A (mW g0 pq cp v fa) sz) (mW g0 pq cp u.1 u.2)) (va_A (mW g0 pq cp v fa) sz)) 0 0 (va_A (mW g0 pq cp v fa) sz) := by
  refine Met.ofW (cc := cX11_allot) (maxL := 3) (ret := (some .int)) (by decide) rfl ?_
  intro p e s m args below meth c s₁ B hml hv
  obtain ⟨rfl, hsz, hP, hK, hD0⟩ := hv
  have hx := B.exec
  have hb := B.bytes
  have hr := B.returns
  have hts := atoms_spec (ws := wsX11_allot) B.pre
  have hown : s.vm.findClass RX11 = some m.cls := findClass_of_methodNamed B.named
  have hlocks := B.notSynchronized
  subst hsz
  have hD := hD0.self (sz := s.heap.size)
  generalize hAe : va_A (mW g0 pq cp v fa) s.heap.size = A at hD ⊢
  have hA : ∀ q : Nat, s.heap.size ≤ q → A q := fun q h => by rw [← hAe]; exact Or.inr h
  have hS : va_S A s.heap s.heap [] := va_S.rf
  have hP : va_P (dC, dI) vwCl (mW g0 pq cp v fa) s.heap := hP
  have hl := lv_entry ([.ref g0, .int x1, .int x2]) (n := 3) (Nat.le_of_ble_eq_true rfl)
  rw [lg_entry_eq]
  generalize (lg_sl ([.ref g0, .int x1, .int x2]) ++ List.replicate (3 - (lg_sl ([.ref g0, .int x1, .int x2])).length) Slot.unset).toArray = ls at hl ⊢
  have hl : lv_has ls 3 [(0, .ref g0), (1, .int x1), (2, .int x2)] := hl
  refine lv_aload_n hx hb dX11_allot_0 rfl (lv_at hl 0 rfl) ?_
  refine lv_iload_n hx hb dX11_allot_1 rfl (lv_at hl 1 rfl) ?_
  have hFc : ∀ q, va_A [] s.heap.size q → A q := pu_free hS hA
  refine va_calli (va_runV (As := [.int x1]) (rest := []) ⟨hx, hb, hml, hown, hts⟩ (c_X11_isAgreement l dC dI s.heap.size g0 pq cp v fa x1) (cwV 1 hts gX11_allot_X11_isAgreement rfl rfl rfl (by decide +kernel) ⟨(Nat.le_of_ble_eq_true rfl), (Nat.le_of_ble_eq_true rfl)⟩) (pr_V (r := (RX11, TX11, 63)) hP hK hD 0 11 rfl rfl) rfl rfl hl.1 rfl (lv_room (Nat.le_of_ble_eq_true rfl)) dX11_allot_2 ⟨(Nat.le_of_ble_eq_true rfl), (Nat.le_of_ble_eq_true rfl)⟩) hS (fun q _ h => hFc q h) hFc (fun r_2 u t H locs ht hvm w_1 hB hz1 hk1 hS => ?_)
  have hP := pu_keep hP hk1
  clear hk1 hz1 hvm hB ht hFc
  have hbr_2 : 0 ≤ r_2.toInt ∧ r_2.toInt ≤ 1 := iv_of w_1 (isI_i _ _)
  refine lv_if_ne (tgt := 14) hx hb dX11_allot_5 (by decide) (fun c_3 => ?_) (fun c_3 => ?_)
  · have dc_3 := c_ne (a := r_2.toInt) (b := 0) rfl (by decide) c_3
    have hi_4 := isI_t w_1 (fun q => c_3 (Int32.toInt_inj.mp q))
    have khi_4 : (v 43).toInt ≤ 60 := (gV 43).2
    refine lv_aload_n hx hb dX11_allot_14 rfl (lv_at hl 0 rfl) ?_
    refine va_get (D := (dC, dI)) (ci := 11) (v := .ref (pq 29)) (C := RX11) (T := TX11) (N := 63) hx hb hts in_wsX11_allot_X11 hown hK hP 0 rfl rfl 29 (by decide) (hts (.fieldLink RX11 97 "ShipOfficeModel" "allotted" "[I") (by decide +kernel)) (fun _ h9 => h9) rfl dX11_allot_15 ?_
    refine lv_iload_n hx hb dX11_allot_18 rfl (lv_at hl 1 rfl) ?_
    refine va_iald hx hb hK hP 30 29 rfl rfl (vp_in_iff.mpr (by omega)) dX11_allot_19 ?_
    refine lv_topi (fun x_5 ex_5 => ?_)
    clear ex_5
    refine lv_if_gt (tgt := 31) hx hb dX11_allot_20 (by decide) (fun c_6 => ?_) (fun c_6 => ?_)
    · have dc_6 := c_lt (a := 0) (b := x_5.toInt) (by decide) rfl c_6
      refine lv_aload_n hx hb dX11_allot_31 rfl (lv_at hl 0 rfl) ?_
      refine lv_bipush (v := (-3)) hx hb dX11_allot_32 (by decide) ?_
      have hFc := va_free (wc := (mW g0 pq cp v fa)) hD hS hA (List.range 48) rfl
      refine va_calli (va_runV (As := [.int (-3)]) (rest := []) ⟨hx, hb, hml, hown, hts⟩ (c_X11_refuse l dC dI H.size g0 pq cp v fa (-3) (by unfold vp_in; decide)) (cwV 1 hts gX11_allot_X11_refuse rfl rfl rfl (by decide +kernel) ⟨(Nat.le_of_ble_eq_true rfl), (Nat.le_of_ble_eq_true rfl)⟩) (pr_V (r := (RX11, TX11, 63)) hP hK hD 0 11 rfl rfl) rfl rfl hl.1 rfl (lv_room (Nat.le_of_ble_eq_true rfl)) dX11_allot_34 ⟨(Nat.le_of_ble_eq_true rfl), (Nat.le_of_ble_eq_true rfl)⟩) hS (fun q _ h => hFc q h) hFc (fun r_8 u t H locs ht hvm w_7 hB hz1 hk1 hS => ?_)
      obtain ⟨v_9, fa_10⟩ := u
      obtain ⟨hP1, hK1, hD1⟩ := hB
      rw [ht] at hP1
      have hP : va_P (dC, dI) vwCl (mW g0 pq cp v_9 fa_10) H := hP1
      have hD : va_D A (mW g0 pq cp v_9 fa_10) := hD1.weaken (fun _ _ _ h => hFc _ h)
      clear hP1 hK1 hD1 hk1 hz1 hvm ht hFc
      obtain ⟨rfl, w_7⟩ := w_7
      have hVv_9 : mV v_9 := sm0_V w_7 gV
      have hAv_9 : mA fa_10 := sm0_A w_7 gA
      have hRv_9 : v_9 38 = v 38 := (congrFun w_7.1 38).trans rfl
      exact W.iret (v := (-3)) hx hb hr (fun t ht hW => ⟨⟨(-3), (v_9, fa_10), rfl, ⟨hVv_9, hAv_9, hRv_9⟩, ⟨by rw [ht]; exact hP, va_K.moved hW.alike hK, hD⟩⟩, hS.F ht⟩) hS.2.2 dX11_allot_37
    · have dc_6 := c_nlt (a := 0) (b := x_5.toInt) (by decide) rfl c_6
      refine lv_aload_n hx hb dX11_allot_23 rfl (lv_at hl 0 rfl) ?_
      refine lv_iload_n hx hb dX11_allot_24 rfl (lv_at hl 1 rfl) ?_
      have hFc : ∀ q, va_A [] H.size q → A q := pu_free hS hA
      refine va_calli (va_runV (As := [.int x1]) (rest := []) ⟨hx, hb, hml, hown, hts⟩ (c_X11_goesOn l dC dI H.size g0 pq cp v fa (v 41).toNatClampNeg (cn_le (n := 200) (gV 41)) (cn_eq (n := 200) (gV 41)) x1 (vp_in_iff.mpr (by omega))) (cwV 1 hts gX11_allot_X11_goesOn rfl rfl rfl (by decide +kernel) ⟨(Nat.le_of_ble_eq_true rfl), (Nat.le_of_ble_eq_true rfl)⟩) (pr_V (r := (RX11, TX11, 63)) hP hK hD 0 11 rfl rfl) rfl rfl hl.1 rfl (lv_room (Nat.le_of_ble_eq_true rfl)) dX11_allot_25 ⟨(Nat.le_of_ble_eq_true rfl), (Nat.le_of_ble_eq_true rfl)⟩) hS (fun q _ h => hFc q h) hFc (fun r_12 u t H locs ht hvm w_11 hB hz1 hk1 hS => ?_)
      have hP := pu_keep hP hk1
      clear hk1 hz1 hvm hB ht hFc
      have hb_13 : 0 ≤ r_12.toInt ∧ r_12.toInt ≤ 1 := z1_i w_11
      refine lv_if_ne (tgt := 38) hx hb dX11_allot_28 (by decide) (fun c_14 => ?_) (fun c_14 => ?_)
      · have dc_14 := c_ne (a := r_12.toInt) (b := 0) rfl (by decide) c_14
        refine lv_iload_n hx hb dX11_allot_38 rfl (lv_at hl 2 rfl) ?_
        refine lv_iconst (v := 1) hx hb dX11_allot_39 (by decide) ?_
        refine lv_icmp_ge (tgt := 50) hx hb dX11_allot_40 (by decide) (fun c_15 => ?_) (fun c_15 => ?_)
        · have dc_15 := c_le (a := 1) (b := x2.toInt) (by decide) rfl c_15
          refine lv_iload_n hx hb dX11_allot_50 rfl (lv_at hl 2 rfl) ?_
          refine lv_sipush (v := 9999) hx hb dX11_allot_51 (by decide) ?_
          refine lv_icmp_le (tgt := 64) hx hb dX11_allot_54 (by decide) (fun c_16 => ?_) (fun c_16 => ?_)
          · have dc_16 := c_le (a := x2.toInt) (b := 9999) rfl (by decide) c_16
            refine lv_aload_n hx hb dX11_allot_64 rfl (lv_at hl 0 rfl) ?_
            refine lv_iload_n hx hb dX11_allot_65 rfl (lv_at hl 1 rfl) ?_
            refine lv_aload_n hx hb dX11_allot_66 rfl (lv_at hl 0 rfl) ?_
            refine va_get (D := (dC, dI)) (ci := 11) (v := .int (v 38)) (C := RX11) (T := TX11) (N := 63) hx hb hts in_wsX11_allot_X11 hown hK hP 0 rfl rfl 38 (by decide) (hts (.fieldLink RX11 171 "ShipOfficeModel" "now" "I") (by decide +kernel)) (fun _ h9 => h9) rfl dX11_allot_67 ?_
            refine lv_topi (fun x_17 ex_17 => ?_)
            have hx_17 : 0 ≤ x_17.toInt ∧ x_17.toInt ≤ 3000 := iv_of ex_17 (gV 38)
            clear ex_17
            refine lv_aload_n hx hb dX11_allot_70 rfl (lv_at hl 0 rfl) ?_
            refine va_get (D := (dC, dI)) (ci := 11) (v := .int (v 38)) (C := RX11) (T := TX11) (N := 63) hx hb hts in_wsX11_allot_X11 hown hK hP 0 rfl rfl 38 (by decide) (hts (.fieldLink RX11 171 "ShipOfficeModel" "now" "I") (by decide +kernel)) (fun _ h9 => h9) rfl dX11_allot_71 ?_
            refine lv_topi (fun x_18 ex_18 => ?_)
            have hx_18 : 0 ≤ x_18.toInt ∧ x_18.toInt ≤ 3000 := iv_of ex_18 (gV 38)
            clear ex_18
            refine lv_iload_n hx hb dX11_allot_74 rfl (lv_at hl 2 rfl) ?_
            refine lv_iconst (v := 0) hx hb dX11_allot_75 (by decide) ?_
            have hFc := va_free (wc := (mW g0 pq cp v fa)) hD hS hA (List.range 48) rfl
            refine va_callv (va_runV (As := [.int x1, .int x_17, .int x_18, .int x2, .int 0]) (rest := []) ⟨hx, hb, hml, hown, hts⟩ (c_X11_puts l dC dI H.size g0 pq cp v fa gV gA x1 (by omega) x_17 (by omega) x_18 x2 0) (cwV 5 hts gX11_allot_X11_puts rfl rfl rfl (by decide +kernel) ⟨(Nat.le_of_ble_eq_true rfl), (Nat.le_of_ble_eq_true rfl)⟩) (pr_V (r := (RX11, TX11, 63)) hP hK hD 0 11 rfl rfl) rfl rfl hl.1 rfl (lv_room (Nat.le_of_ble_eq_true rfl)) dX11_allot_76 ⟨(Nat.le_of_ble_eq_true rfl), (Nat.le_of_ble_eq_true rfl)⟩) hS (fun q _ h => hFc q h) hFc (fun u t H locs ht hvm w_19 hB hz1 hk1 hS => ?_)
            obtain ⟨v_21, fa_22⟩ := u
            obtain ⟨hP1, hK1, hD1⟩ := hB
            rw [ht] at hP1
            have hP : va_P (dC, dI) vwCl (mW g0 pq cp v_21 fa_22) H := hP1
            have hD : va_D A (mW g0 pq cp v_21 fa_22) := hD1.weaken (fun _ _ _ h => hFc _ h)
            clear hP1 hK1 hD1 hk1 hz1 hvm ht hFc
            obtain ⟨hV_23, hA_24, hR_25⟩ := w_19
            dsimp only at hV_23 hA_24 hR_25 
            have R_26 : v_21 38 = v 38 := (scr.now hR_25).trans rfl
            refine lv_iload_n hx hb dX11_allot_79 rfl (lv_at hl 2 rfl) ?_
            refine lv_i2l (v := (x2 : Int32).toInt64) hx hb dX11_allot_80 rfl ?_
            refine lv_aload_n hx hb dX11_allot_81 rfl (lv_at hl 0 rfl) ?_
            refine va_get (D := (dC, dI)) (ci := 11) (v := .ref (pq 22)) (C := RX11) (T := TX11) (N := 63) hx hb hts in_wsX11_allot_X11 hown hK hP 0 rfl rfl 22 (by decide) (hts (.fieldLink RX11 76 "ShipOfficeModel" "wage" "[I") (by decide +kernel)) (fun _ h9 => h9) rfl dX11_allot_82 ?_
            refine lv_iload_n hx hb dX11_allot_85 rfl (lv_at hl 1 rfl) ?_
            refine va_iald hx hb hK hP 23 22 rfl rfl (vp_in_iff.mpr (by omega)) dX11_allot_86 ?_
            refine lv_topi (fun x_27 ex_27 => ?_)
            clear ex_27
            refine lv_i2l (v := (x_27 : Int32).toInt64) hx hb dX11_allot_87 rfl ?_
            refine lv_aload_n hx hb dX11_allot_88 rfl (lv_at hl 0 rfl) ?_
            refine lv_iconst (v := 3) hx hb dX11_allot_89 (by decide) ?_
            refine lv_aload_n hx hb dX11_allot_90 rfl (lv_at hl 0 rfl) ?_
            refine va_get (D := (dC, dI)) (ci := 11) (v := .int (v_21 38)) (C := RX11) (T := TX11) (N := 63) hx hb hts in_wsX11_allot_X11 hown hK hP 0 rfl rfl 38 (by decide) (hts (.fieldLink RX11 171 "ShipOfficeModel" "now" "I") (by decide +kernel)) (fun _ h9 => h9) rfl dX11_allot_91 ?_
            refine lv_topi (fun x_28 ex_28 => ?_)
            have hx_28 : 0 ≤ x_28.toInt ∧ x_28.toInt ≤ 3000 := iv_of ex_28 (hV_23 38)
            clear ex_28
            have hFc := va_free (wc := (mW g0 pq cp v_21 fa_22)) hD hS hA (List.range 48) rfl
            refine va_calli (va_runV (As := [.int 3, .int x_28]) (rest := [.long ((x_27 : Int32).toInt64), .long ((x2 : Int32).toInt64)]) ⟨hx, hb, hml, hown, hts⟩ (c_X11_worth l dC dI H.size g0 pq cp v_21 fa_22 hV_23 hA_24 3 x_28) (cwV 2 hts gX11_allot_X11_worth rfl rfl rfl (by decide +kernel) ⟨(Nat.le_of_ble_eq_true rfl), (Nat.le_of_ble_eq_true rfl)⟩) (pr_V (r := (RX11, TX11, 63)) hP hK hD 0 11 rfl rfl) rfl rfl hl.1 rfl (lv_room (Nat.le_of_ble_eq_true rfl)) dX11_allot_94 ⟨(Nat.le_of_ble_eq_true rfl), (Nat.le_of_ble_eq_true rfl)⟩) hS (fun q _ h => hFc q h) hFc (fun r_30 u t H locs ht hvm w_29 hB hz1 hk1 hS => ?_)
            obtain ⟨v_31, fa_32⟩ := u
            obtain ⟨hP1, hK1, hD1⟩ := hB
            rw [ht] at hP1
            have hP : va_P (dC, dI) vwCl (mW g0 pq cp v_31 fa_32) H := hP1
            have hD : va_D A (mW g0 pq cp v_31 fa_32) := hD1.weaken (fun _ _ _ h => hFc _ h)
            clear hP1 hK1 hD1 hk1 hz1 hvm ht hFc
            obtain ⟨hV_33, hA_34, hR_35⟩ := w_29
            dsimp only at hV_33 hA_34 hR_35 
            have R_36 : v_31 38 = v 38 := (scr.now hR_35).trans R_26
            refine lv_i2l (v := (r_30 : Int32).toInt64) hx hb dX11_allot_97 rfl ?_
            refine lv_lmul hx hb dX11_allot_98 ?_
            refine lv_ldc2 (v := 100) hx hb hown (hts (.constantLong RX11 310 (100)) (by decide +kernel)) dX11_allot_99 ?_
            refine lv_ldiv hx hb dX11_allot_102 (by decide) ?_
            refine W.lcmp hx hb dX11_allot_103 ?_
            refine lv_topi (fun x_37 ex_37 => ?_)
            clear ex_37
            refine lv_if_le (tgt := 114) hx hb dX11_allot_104 (by decide) (fun c_38 => ?_) (fun c_38 => ?_)
            · have dc_38 := c_le (a := x_37.toInt) (b := 0) rfl (by decide) c_38
              refine lv_aload_n hx hb dX11_allot_114 rfl (lv_at hl 0 rfl) ?_
              refine va_get (D := (dC, dI)) (ci := 11) (v := .ref (pq 29)) (C := RX11) (T := TX11) (N := 63) hx hb hts in_wsX11_allot_X11 hown hK hP 0 rfl rfl 29 (by decide) (hts (.fieldLink RX11 97 "ShipOfficeModel" "allotted" "[I") (by decide +kernel)) (fun _ h9 => h9) rfl dX11_allot_115 ?_
              refine lv_iload_n hx hb dX11_allot_118 rfl (lv_at hl 1 rfl) ?_
              refine lv_iload_n hx hb dX11_allot_119 rfl (lv_at hl 2 rfl) ?_
              refine va_iast hx hb hK hP hD hS 30 29 rfl rfl (vp_in_iff.mpr (by omega)) dX11_allot_120 (fun H locs hP hD hS => ?_)
              have hP : va_P (dC, dI) vwCl (mW g0 pq cp v_31 (upF fa_32 29 (x1 : Int32).toNatClampNeg x2)) H := hP
              have hD : va_D A (mW g0 pq cp v_31 (upF fa_32 29 (x1 : Int32).toNatClampNeg x2)) := hD
              obtain ⟨fz_39, efz_39⟩ : ∃ zq, zq = (upF fa_32 29 (x1 : Int32).toNatClampNeg x2) := ⟨_, rfl⟩
              rw [← efz_39] at hP hD
              have hAfz_39 : mA fz_39 := by rw [efz_39]; exact mA_upF (lo := -2147483648) (hi := 2147483647) hA_34 rfl rfl (iv_all _)
              refine lv_iconst (v := 1) hx hb dX11_allot_121 (by decide) ?_
              exact W.iret (v := 1) hx hb hr (fun t ht hW => ⟨⟨1, (v_31, fz_39), rfl, ⟨hV_33, hAfz_39, R_36⟩, ⟨by rw [ht]; exact hP, va_K.moved hW.alike hK, hD⟩⟩, hS.F ht⟩) hS.2.2 dX11_allot_122
            · have dc_38 := c_nle (a := x_37.toInt) (b := 0) rfl (by decide) c_38
              refine lv_aload_n hx hb dX11_allot_107 rfl (lv_at hl 0 rfl) ?_
              refine lv_bipush (v := (-6)) hx hb dX11_allot_108 (by decide) ?_
              have hFc := va_free (wc := (mW g0 pq cp v_31 fa_32)) hD hS hA (List.range 48) rfl
              refine va_calli (va_runV (As := [.int (-6)]) (rest := []) ⟨hx, hb, hml, hown, hts⟩ (c_X11_refuse l dC dI H.size g0 pq cp v_31 fa_32 (-6) (by unfold vp_in; decide)) (cwV 1 hts gX11_allot_X11_refuse rfl rfl rfl (by decide +kernel) ⟨(Nat.le_of_ble_eq_true rfl), (Nat.le_of_ble_eq_true rfl)⟩) (pr_V (r := (RX11, TX11, 63)) hP hK hD 0 11 rfl rfl) rfl rfl hl.1 rfl (lv_room (Nat.le_of_ble_eq_true rfl)) dX11_allot_110 ⟨(Nat.le_of_ble_eq_true rfl), (Nat.le_of_ble_eq_true rfl)⟩) hS (fun q _ h => hFc q h) hFc (fun r_41 u t H locs ht hvm w_40 hB hz1 hk1 hS => ?_)
              obtain ⟨v_42, fa_43⟩ := u
              obtain ⟨hP1, hK1, hD1⟩ := hB
              rw [ht] at hP1
              have hP : va_P (dC, dI) vwCl (mW g0 pq cp v_42 fa_43) H := hP1
              have hD : va_D A (mW g0 pq cp v_42 fa_43) := hD1.weaken (fun _ _ _ h => hFc _ h)
              clear hP1 hK1 hD1 hk1 hz1 hvm ht hFc
              obtain ⟨rfl, w_40⟩ := w_40
              have hVv_42 : mV v_42 := sm0_V w_40 hV_33
              have hAv_42 : mA fa_43 := sm0_A w_40 hA_34
              have hRv_42 : v_42 38 = v 38 := (congrFun w_40.1 38).trans R_36
              exact W.iret (v := (-6)) hx hb hr (fun t ht hW => ⟨⟨(-6), (v_42, fa_43), rfl, ⟨hVv_42, hAv_42, hRv_42⟩, ⟨by rw [ht]; exact hP, va_K.moved hW.alike hK, hD⟩⟩, hS.F ht⟩) hS.2.2 dX11_allot_113
          · have dc_16 := c_nle (a := x2.toInt) (b := 9999) rfl (by decide) c_16
            refine lv_aload_n hx hb dX11_allot_57 rfl (lv_at hl 0 rfl) ?_
            refine lv_bipush (v := (-6)) hx hb dX11_allot_58 (by decide) ?_
            have hFc := va_free (wc := (mW g0 pq cp v fa)) hD hS hA (List.range 48) rfl
            refine va_calli (va_runV (As := [.int (-6)]) (rest := []) ⟨hx, hb, hml, hown, hts⟩ (c_X11_refuse l dC dI H.size g0 pq cp v fa (-6) (by unfold vp_in; decide)) (cwV 1 hts gX11_allot_X11_refuse rfl rfl rfl (by decide +kernel) ⟨(Nat.le_of_ble_eq_true rfl), (Nat.le_of_ble_eq_true rfl)⟩) (pr_V (r := (RX11, TX11, 63)) hP hK hD 0 11 rfl rfl) rfl rfl hl.1 rfl (lv_room (Nat.le_of_ble_eq_true rfl)) dX11_allot_60 ⟨(Nat.le_of_ble_eq_true rfl), (Nat.le_of_ble_eq_true rfl)⟩) hS (fun q _ h => hFc q h) hFc (fun r_45 u t H locs ht hvm w_44 hB hz1 hk1 hS => ?_)
            obtain ⟨v_46, fa_47⟩ := u
            obtain ⟨hP1, hK1, hD1⟩ := hB
            rw [ht] at hP1
            have hP : va_P (dC, dI) vwCl (mW g0 pq cp v_46 fa_47) H := hP1
            have hD : va_D A (mW g0 pq cp v_46 fa_47) := hD1.weaken (fun _ _ _ h => hFc _ h)
            clear hP1 hK1 hD1 hk1 hz1 hvm ht hFc
            obtain ⟨rfl, w_44⟩ := w_44
            have hVv_46 : mV v_46 := sm0_V w_44 gV
            have hAv_46 : mA fa_47 := sm0_A w_44 gA
            have hRv_46 : v_46 38 = v 38 := (congrFun w_44.1 38).trans rfl
            exact W.iret (v := (-6)) hx hb hr (fun t ht hW => ⟨⟨(-6), (v_46, fa_47), rfl, ⟨hVv_46, hAv_46, hRv_46⟩, ⟨by rw [ht]; exact hP, va_K.moved hW.alike hK, hD⟩⟩, hS.F ht⟩) hS.2.2 dX11_allot_63
        · have dc_15 := c_nle (a := 1) (b := x2.toInt) (by decide) rfl c_15
          refine lv_aload_n hx hb dX11_allot_43 rfl (lv_at hl 0 rfl) ?_
          refine lv_bipush (v := (-4)) hx hb dX11_allot_44 (by decide) ?_
          have hFc := va_free (wc := (mW g0 pq cp v fa)) hD hS hA (List.range 48) rfl
          refine va_calli (va_runV (As := [.int (-4)]) (rest := []) ⟨hx, hb, hml, hown, hts⟩ (c_X11_refuse l dC dI H.size g0 pq cp v fa (-4) (by unfold vp_in; decide)) (cwV 1 hts gX11_allot_X11_refuse rfl rfl rfl (by decide +kernel) ⟨(Nat.le_of_ble_eq_true rfl), (Nat.le_of_ble_eq_true rfl)⟩) (pr_V (r := (RX11, TX11, 63)) hP hK hD 0 11 rfl rfl) rfl rfl hl.1 rfl (lv_room (Nat.le_of_ble_eq_true rfl)) dX11_allot_46 ⟨(Nat.le_of_ble_eq_true rfl), (Nat.le_of_ble_eq_true rfl)⟩) hS (fun q _ h => hFc q h) hFc (fun r_49 u t H locs ht hvm w_48 hB hz1 hk1 hS => ?_)
          obtain ⟨v_50, fa_51⟩ := u
          obtain ⟨hP1, hK1, hD1⟩ := hB
          rw [ht] at hP1
          have hP : va_P (dC, dI) vwCl (mW g0 pq cp v_50 fa_51) H := hP1
          have hD : va_D A (mW g0 pq cp v_50 fa_51) := hD1.weaken (fun _ _ _ h => hFc _ h)
          clear hP1 hK1 hD1 hk1 hz1 hvm ht hFc
          obtain ⟨rfl, w_48⟩ := w_48
          have hVv_50 : mV v_50 := sm0_V w_48 gV
          have hAv_50 : mA fa_51 := sm0_A w_48 gA
          have hRv_50 : v_50 38 = v 38 := (congrFun w_48.1 38).trans rfl
          exact W.iret (v := (-4)) hx hb hr (fun t ht hW => ⟨⟨(-4), (v_50, fa_51), rfl, ⟨hVv_50, hAv_50, hRv_50⟩, ⟨by rw [ht]; exact hP, va_K.moved hW.alike hK, hD⟩⟩, hS.F ht⟩) hS.2.2 dX11_allot_49
      · have dc_14 := c_eq (a := r_12.toInt) (b := 0) rfl (by decide) c_14
        refine lv_aload_n hx hb dX11_allot_31 rfl (lv_at hl 0 rfl) ?_
        refine lv_bipush (v := (-3)) hx hb dX11_allot_32 (by decide) ?_
        have hFc := va_free (wc := (mW g0 pq cp v fa)) hD hS hA (List.range 48) rfl
        refine va_calli (va_runV (As := [.int (-3)]) (rest := []) ⟨hx, hb, hml, hown, hts⟩ (c_X11_refuse l dC dI H.size g0 pq cp v fa (-3) (by unfold vp_in; decide)) (cwV 1 hts gX11_allot_X11_refuse rfl rfl rfl (by decide +kernel) ⟨(Nat.le_of_ble_eq_true rfl), (Nat.le_of_ble_eq_true rfl)⟩) (pr_V (r := (RX11, TX11, 63)) hP hK hD 0 11 rfl rfl) rfl rfl hl.1 rfl (lv_room (Nat.le_of_ble_eq_true rfl)) dX11_allot_34 ⟨(Nat.le_of_ble_eq_true rfl), (Nat.le_of_ble_eq_true rfl)⟩) hS (fun q _ h => hFc q h) hFc (fun r_53 u t H locs ht hvm w_52 hB hz1 hk1 hS => ?_)
        obtain ⟨v_54, fa_55⟩ := u
        obtain ⟨hP1, hK1, hD1⟩ := hB
        rw [ht] at hP1
        have hP : va_P (dC, dI) vwCl (mW g0 pq cp v_54 fa_55) H := hP1
        have hD : va_D A (mW g0 pq cp v_54 fa_55) := hD1.weaken (fun _ _ _ h => hFc _ h)
        clear hP1 hK1 hD1 hk1 hz1 hvm ht hFc
        obtain ⟨rfl, w_52⟩ := w_52
        have hVv_54 : mV v_54 := sm0_V w_52 gV
        have hAv_54 : mA fa_55 := sm0_A w_52 gA
        have hRv_54 : v_54 38 = v 38 := (congrFun w_52.1 38).trans rfl
        exact W.iret (v := (-3)) hx hb hr (fun t ht hW => ⟨⟨(-3), (v_54, fa_55), rfl, ⟨hVv_54, hAv_54, hRv_54⟩, ⟨by rw [ht]; exact hP, va_K.moved hW.alike hK, hD⟩⟩, hS.F ht⟩) hS.2.2 dX11_allot_37
  · have dc_3 := c_eq (a := r_2.toInt) (b := 0) rfl (by decide) c_3
    refine lv_aload_n hx hb dX11_allot_8 rfl (lv_at hl 0 rfl) ?_
    refine lv_iconst (v := (-1)) hx hb dX11_allot_9 (by decide) ?_
    have hFc := va_free (wc := (mW g0 pq cp v fa)) hD hS hA (List.range 48) rfl
    refine va_calli (va_runV (As := [.int (-1)]) (rest := []) ⟨hx, hb, hml, hown, hts⟩ (c_X11_refuse l dC dI H.size g0 pq cp v fa (-1) (by unfold vp_in; decide)) (cwV 1 hts gX11_allot_X11_refuse rfl rfl rfl (by decide +kernel) ⟨(Nat.le_of_ble_eq_true rfl), (Nat.le_of_ble_eq_true rfl)⟩) (pr_V (r := (RX11, TX11, 63)) hP hK hD 0 11 rfl rfl) rfl rfl hl.1 rfl (lv_room (Nat.le_of_ble_eq_true rfl)) dX11_allot_10 ⟨(Nat.le_of_ble_eq_true rfl), (Nat.le_of_ble_eq_true rfl)⟩) hS (fun q _ h => hFc q h) hFc (fun r_57 u t H locs ht hvm w_56 hB hz1 hk1 hS => ?_)
    obtain ⟨v_58, fa_59⟩ := u
    obtain ⟨hP1, hK1, hD1⟩ := hB
    rw [ht] at hP1
    have hP : va_P (dC, dI) vwCl (mW g0 pq cp v_58 fa_59) H := hP1
    have hD : va_D A (mW g0 pq cp v_58 fa_59) := hD1.weaken (fun _ _ _ h => hFc _ h)
    clear hP1 hK1 hD1 hk1 hz1 hvm ht hFc
    obtain ⟨rfl, w_56⟩ := w_56
    have hVv_58 : mV v_58 := sm0_V w_56 gV
    have hAv_58 : mA fa_59 := sm0_A w_56 gA
    have hRv_58 : v_58 38 = v 38 := (congrFun w_56.1 38).trans rfl
    exact W.iret (v := (-1)) hx hb hr (fun t ht hW => ⟨⟨(-1), (v_58, fa_59), rfl, ⟨hVv_58, hAv_58, hRv_58⟩, ⟨by rw [ht]; exact hP, va_K.moved hW.alike hK, hD⟩⟩, hS.F ht⟩) hS.2.2 dX11_allot_13
set_option maxHeartbeats 4000000 in
set_option maxRecDepth 100000 in
theorem c_X11_refuseFar (l : Launch) (dC : Nat → ClassId) (dI : Nat → Nat → Nat) (sz : Nat) (g0 : Nat) (pq : Nat → Nat) (cp : Nat → ClassId) (v : Nat → Int32) (fa : Nat → Nat → Int32) (gV : mV v) (gA : mA fa) (x1 : Int32) (hx1 : -6 ≤ x1.toInt ∧ x1.toInt ≤ 0) : Met l yX11_refuseFar wsX11_refuseFar ({ frames := 1, cells := 0, slots := 0, locals := 21 }) (va_Pc [.ref g0, .int x1] (pcW (dC, dI) (mT cp) (mW g0 pq cp v fa) sz)) (va_Qi (fun (r : Int32) (u : (Nat → Int32) × (Nat → Nat → Int32)) => mV u.1 ∧ mA u.2 ∧ u.1 38 = v 38) (fun u t => va_P (dC, dI) vwCl (mW g0 pq cp u.1 u.2) t.heap ∧ va_K (dC, dI) vwCl (mT cp) t ∧ va_D (va_A (mW g0 pq cp v fa) sz) (mW g0 pq cp u.1 u.2)) (va_A (mW g0 pq cp v fa) sz)) 0 0 (va_A (mW g0 pq cp v fa) sz) := by
  refine Met.ofW (cc := cX11_refuseFar) (maxL := 2) (ret := (some .int)) (by decide) rfl ?_
  intro p e s m args below meth c s₁ B hml hv
  obtain ⟨rfl, hsz, hP, hK, hD0⟩ := hv
  have hx := B.exec
  have hb := B.bytes
  have hr := B.returns
  have hts := atoms_spec (ws := wsX11_refuseFar) B.pre
  have hown : s.vm.findClass RX11 = some m.cls := findClass_of_methodNamed B.named
  have hlocks := B.notSynchronized
  subst hsz
  have hD := hD0.self (sz := s.heap.size)
  generalize hAe : va_A (mW g0 pq cp v fa) s.heap.size = A at hD ⊢
  have hA : ∀ q : Nat, s.heap.size ≤ q → A q := fun q h => by rw [← hAe]; exact Or.inr h
  have hS : va_S A s.heap s.heap [] := va_S.rf
  have hP : va_P (dC, dI) vwCl (mW g0 pq cp v fa) s.heap := hP
  have hl := lv_entry ([.ref g0, .int x1]) (n := 2) (Nat.le_of_ble_eq_true rfl)
  rw [lg_entry_eq]
  generalize (lg_sl ([.ref g0, .int x1]) ++ List.replicate (2 - (lg_sl ([.ref g0, .int x1])).length) Slot.unset).toArray = ls at hl ⊢
  have hl : lv_has ls 2 [(0, .ref g0), (1, .int x1)] := hl
  refine lv_ldc (v := 1000000000) hx hb hown (hts (.constant RX11 152 (1000000000)) (by decide +kernel)) dX11_refuseFar_0 ?_
  refine lv_aload_n hx hb dX11_refuseFar_2 rfl (lv_at hl 0 rfl) ?_
  refine lv_iload_n hx hb dX11_refuseFar_3 rfl (lv_at hl 1 rfl) ?_
  have hFc := va_free (wc := (mW g0 pq cp v fa)) hD hS hA (List.range 48) rfl
  refine va_calli (va_runV (As := [.int x1]) (rest := [.int 1000000000]) ⟨hx, hb, hml, hown, hts⟩ (c_X11_refuse l dC dI s.heap.size g0 pq cp v fa x1 (by apply vp_in_iff.mpr; rw [ng_i (x := x1) rfl (by omega) (by omega)]; omega)) (cwV 1 hts gX11_refuseFar_X11_refuse rfl rfl rfl (by decide +kernel) ⟨(Nat.le_of_ble_eq_true rfl), (Nat.le_of_ble_eq_true rfl)⟩) (pr_V (r := (RX11, TX11, 63)) hP hK hD 0 11 rfl rfl) rfl rfl hl.1 rfl (lv_room (Nat.le_of_ble_eq_true rfl)) dX11_refuseFar_4 ⟨(Nat.le_of_ble_eq_true rfl), (Nat.le_of_ble_eq_true rfl)⟩) hS (fun q _ h => hFc q h) hFc (fun r_2 u t H locs ht hvm w_1 hB hz1 hk1 hS => ?_)
  obtain ⟨v_3, fa_4⟩ := u
  obtain ⟨hP1, hK1, hD1⟩ := hB
  rw [ht] at hP1
  have hP : va_P (dC, dI) vwCl (mW g0 pq cp v_3 fa_4) H := hP1
  have hD : va_D A (mW g0 pq cp v_3 fa_4) := hD1.weaken (fun _ _ _ h => hFc _ h)
  clear hP1 hK1 hD1 hk1 hz1 hvm ht hFc
  obtain ⟨rfl, w_1⟩ := w_1
  have hVv_3 : mV v_3 := sm0_V w_1 gV
  have hAv_3 : mA fa_4 := sm0_A w_1 gA
  have hRv_3 : v_3 38 = v 38 := (congrFun w_1.1 38).trans rfl
  refine lv_isub hx hb dX11_refuseFar_7 ?_
  refine lv_topi (fun x_5 ex_5 => ?_)
  have hx_5 : x_5.toInt = 1000000000 - x1.toInt := (iv_to ex_5).trans (sb_i (by decide) rfl (by omega) (by omega))
  clear ex_5
  exact W.iret (v := x_5) hx hb hr (fun t ht hW => ⟨⟨x_5, (v_3, fa_4), rfl, ⟨hVv_3, hAv_3, hRv_3⟩, ⟨by rw [ht]; exact hP, va_K.moved hW.alike hK, hD⟩⟩, hS.F ht⟩) hS.2.2 dX11_refuseFar_8
set_option maxHeartbeats 4000000 in
set_option maxRecDepth 100000 in
theorem c_X11_sign_ (l : Launch) (dC : Nat → ClassId) (dI : Nat → Nat → Nat) (sz : Nat) (g0 : Nat) (pq : Nat → Nat) (cp : Nat → ClassId) (v : Nat → Int32) (fa : Nat → Nat → Int32) (gV : mV v) (gA : mA fa) (x1 : Int32) (x2 : Int32) (x3 : Int32) (x4 : Int32) (x5 : Int32) : Met l yX11_sign_ wsX11_sign_ ({ frames := 21, cells := 0, slots := 0, locals := 486 }) (va_Pc [.ref g0, .int x1, .int x2, .int x3, .int x4, .int x5] (pcW (dC, dI) (mT cp) (mW g0 pq cp v fa) sz)) (va_Qi (fun (r : Int32) (u : (Nat → Int32) × (Nat → Nat → Int32)) => mV u.1 ∧ mA u.2 ∧ u.1 38 = v 38) (fun u t => va_P (dC, dI) vwCl (mW g0 pq cp u.1 u.2) t.heap ∧ va_K (dC, dI) vwCl (mT cp) t ∧ va_D (va_A (mW g0 pq cp v fa) sz) (mW g0 pq cp u.1 u.2)) (va_A (mW g0 pq cp v fa) sz)) 0 0 (va_A (mW g0 pq cp v fa) sz) := by
  refine Met.ofW (cc := cX11_sign_) (maxL := 8) (ret := (some .int)) (by decide) rfl ?_
  intro p e s m args below meth c s₁ B hml hv
  obtain ⟨rfl, hsz, hP, hK, hD0⟩ := hv
  have hx := B.exec
  have hb := B.bytes
  have hr := B.returns
  have hts := atoms_spec (ws := wsX11_sign_) B.pre
  have hown : s.vm.findClass RX11 = some m.cls := findClass_of_methodNamed B.named
  have hlocks := B.notSynchronized
  subst hsz
  have hD := hD0.self (sz := s.heap.size)
  generalize hAe : va_A (mW g0 pq cp v fa) s.heap.size = A at hD ⊢
  have hA : ∀ q : Nat, s.heap.size ≤ q → A q := fun q h => by rw [← hAe]; exact Or.inr h
  have hS : va_S A s.heap s.heap [] := va_S.rf
  have hP : va_P (dC, dI) vwCl (mW g0 pq cp v fa) s.heap := hP
  have hl := lv_entry ([.ref g0, .int x1, .int x2, .int x3, .int x4, .int x5]) (n := 8) (Nat.le_of_ble_eq_true rfl)
  rw [lg_entry_eq]
  generalize (lg_sl ([.ref g0, .int x1, .int x2, .int x3, .int x4, .int x5]) ++ List.replicate (8 - (lg_sl ([.ref g0, .int x1, .int x2, .int x3, .int x4, .int x5])).length) Slot.unset).toArray = ls at hl ⊢
  have hl : lv_has ls 8 [(0, .ref g0), (1, .int x1), (2, .int x2), (3, .int x3), (4, .int x4), (5, .int x5)] := hl
  have cut_1 : ∀ (z_5 : Nat → Int32) (fz_6 : Nat → Nat → Int32) (H : Heap) (locs : List Loc) (ls : Array Slot), (-1 ≤ x5.toInt ∧ x5.toInt ≤ 59) → (0 ≤ x1.toInt ∧ x1.toInt ≤ 39) → (0 ≤ x2.toInt ∧ x2.toInt ≤ 19) → mV z_5 → mA fz_6 → z_5 38 = v 38 → va_P (dC, dI) vwCl (mW g0 pq cp z_5 fz_6) H → va_D A (mW g0 pq cp z_5 fz_6) → va_S A s.heap H locs → (z_5 43).toInt = (v 43).toInt → lv_has ls 8 [(0, .ref g0), (1, .int x1), (2, .int x2), (3, .int x3), (4, .int x4), (5, .int x5)] → W p l e (headSpec wsX11_sign_ { frames := 21, cells := 0, slots := 0, locals := 486 }).room s m #[Value.ref g0, Value.int x1, Value.int x2, Value.int x3, Value.int x4, Value.int x5] below meth c H locs 0 0 (MQ below (va_Qi (fun (r : Int32) (u : (Nat → Int32) × (Nat → Nat → Int32)) => mV u.1 ∧ mA u.2 ∧ u.1 38 = v 38) (fun u t => va_P (dC, dI) vwCl (mW g0 pq cp u.1 u.2) t.heap ∧ va_K (dC, dI) vwCl (mT cp) t ∧ va_D A (mW g0 pq cp u.1 u.2)) A) #[Value.ref g0, Value.int x1, Value.int x2, Value.int x3, Value.int x4, Value.int x5] s 0 0 A) (F0 m 37 ls []) := by
    intro  z_5 fz_6 H locs ls hiv_2 hiv_3 hiv_4 hVz_5 hAz_5 hRz_5 hP hD hS g_7 hl
    refine lv_iload_n hx hb dX11_sign__37 rfl (lv_at hl 3 rfl) ?_
    refine lv_iconst (v := 1) hx hb dX11_sign__38 (by decide) ?_
    refine lv_icmp_lt (tgt := 47) hx hb dX11_sign__39 (by decide) (fun c_8 => ?_) (fun c_8 => ?_)
    · have dc_8 := c_lt (a := x3.toInt) (b := 1) rfl (by decide) c_8
      refine lv_aload_n hx hb dX11_sign__47 rfl (lv_at hl 0 rfl) ?_
      refine lv_bipush (v := (-4)) hx hb dX11_sign__48 (by decide) ?_
      have hFc := va_free (wc := (mW g0 pq cp z_5 fz_6)) hD hS hA (List.range 48) rfl
      refine va_calli (va_runV (As := [.int (-4)]) (rest := []) ⟨hx, hb, hml, hown, hts⟩ (c_X11_refuse l dC dI H.size g0 pq cp z_5 fz_6 (-4) (by unfold vp_in; decide)) (cwV 1 hts gX11_sign__X11_refuse rfl rfl rfl (by decide +kernel) ⟨(Nat.le_of_ble_eq_true rfl), (Nat.le_of_ble_eq_true rfl)⟩) (pr_V (r := (RX11, TX11, 63)) hP hK hD 0 11 rfl rfl) rfl rfl hl.1 rfl (lv_room (Nat.le_of_ble_eq_true rfl)) dX11_sign__50 ⟨(Nat.le_of_ble_eq_true rfl), (Nat.le_of_ble_eq_true rfl)⟩) hS (fun q _ h => hFc q h) hFc (fun r_10 u t H locs ht hvm w_9 hB hz1 hk1 hS => ?_)
      obtain ⟨v_11, fa_12⟩ := u
      obtain ⟨hP1, hK1, hD1⟩ := hB
      rw [ht] at hP1
      have hP : va_P (dC, dI) vwCl (mW g0 pq cp v_11 fa_12) H := hP1
      have hD : va_D A (mW g0 pq cp v_11 fa_12) := hD1.weaken (fun _ _ _ h => hFc _ h)
      clear hP1 hK1 hD1 hk1 hz1 hvm ht hFc
      obtain ⟨rfl, w_9⟩ := w_9
      have hVv_11 : mV v_11 := sm0_V w_9 hVz_5
      have hAv_11 : mA fa_12 := sm0_A w_9 hAz_5
      have g_13 : (v_11 43).toInt = (z_5 43).toInt := congrArg Int32.toInt (congrFun w_9.1 43)
      have hRv_11 : v_11 38 = v 38 := (congrFun w_9.1 38).trans hRz_5
      exact W.iret (v := (-4)) hx hb hr (fun t ht hW => ⟨⟨(-4), (v_11, fa_12), rfl, ⟨hVv_11, hAv_11, hRv_11⟩, ⟨by rw [ht]; exact hP, va_K.moved hW.alike hK, hD⟩⟩, hS.F ht⟩) hS.2.2 dX11_sign__53
    · have dc_8 := c_nlt (a := x3.toInt) (b := 1) rfl (by decide) c_8
      refine lv_iload hx hb dX11_sign__42 (lv_at hl 4 rfl) ?_
      refine lv_if_ge (tgt := 54) hx hb dX11_sign__44 (by decide) (fun c_14 => ?_) (fun c_14 => ?_)
      · have dc_14 := c_le (a := 0) (b := x4.toInt) (by decide) rfl c_14
        refine lv_iload_n hx hb dX11_sign__54 rfl (lv_at hl 3 rfl) ?_
        refine lv_sipush (v := 9999) hx hb dX11_sign__55 (by decide) ?_
        refine lv_icmp_gt (tgt := 76) hx hb dX11_sign__58 (by decide) (fun c_15 => ?_) (fun c_15 => ?_)
        · have dc_15 := c_lt (a := 9999) (b := x3.toInt) (by decide) rfl c_15
          refine lv_aload_n hx hb dX11_sign__76 rfl (lv_at hl 0 rfl) ?_
          refine lv_bipush (v := (-6)) hx hb dX11_sign__77 (by decide) ?_
          have hFc := va_free (wc := (mW g0 pq cp z_5 fz_6)) hD hS hA (List.range 48) rfl
          refine va_calli (va_runV (As := [.int (-6)]) (rest := []) ⟨hx, hb, hml, hown, hts⟩ (c_X11_refuse l dC dI H.size g0 pq cp z_5 fz_6 (-6) (by unfold vp_in; decide)) (cwV 1 hts gX11_sign__X11_refuse rfl rfl rfl (by decide +kernel) ⟨(Nat.le_of_ble_eq_true rfl), (Nat.le_of_ble_eq_true rfl)⟩) (pr_V (r := (RX11, TX11, 63)) hP hK hD 0 11 rfl rfl) rfl rfl hl.1 rfl (lv_room (Nat.le_of_ble_eq_true rfl)) dX11_sign__79 ⟨(Nat.le_of_ble_eq_true rfl), (Nat.le_of_ble_eq_true rfl)⟩) hS (fun q _ h => hFc q h) hFc (fun r_17 u t H locs ht hvm w_16 hB hz1 hk1 hS => ?_)
          obtain ⟨v_18, fa_19⟩ := u
          obtain ⟨hP1, hK1, hD1⟩ := hB
          rw [ht] at hP1
          have hP : va_P (dC, dI) vwCl (mW g0 pq cp v_18 fa_19) H := hP1
          have hD : va_D A (mW g0 pq cp v_18 fa_19) := hD1.weaken (fun _ _ _ h => hFc _ h)
          clear hP1 hK1 hD1 hk1 hz1 hvm ht hFc
          obtain ⟨rfl, w_16⟩ := w_16
          have hVv_18 : mV v_18 := sm0_V w_16 hVz_5
          have hAv_18 : mA fa_19 := sm0_A w_16 hAz_5
          have g_20 : (v_18 43).toInt = (z_5 43).toInt := congrArg Int32.toInt (congrFun w_16.1 43)
          have hRv_18 : v_18 38 = v 38 := (congrFun w_16.1 38).trans hRz_5
          exact W.iret (v := (-6)) hx hb hr (fun t ht hW => ⟨⟨(-6), (v_18, fa_19), rfl, ⟨hVv_18, hAv_18, hRv_18⟩, ⟨by rw [ht]; exact hP, va_K.moved hW.alike hK, hD⟩⟩, hS.F ht⟩) hS.2.2 dX11_sign__82
        · have dc_15 := c_nlt (a := 9999) (b := x3.toInt) (by decide) rfl c_15
          refine lv_iload hx hb dX11_sign__61 (lv_at hl 4 rfl) ?_
          refine lv_iconst (v := 3) hx hb dX11_sign__63 (by decide) ?_
          refine lv_icmp_gt (tgt := 76) hx hb dX11_sign__64 (by decide) (fun c_21 => ?_) (fun c_21 => ?_)
          · have dc_21 := c_lt (a := 3) (b := x4.toInt) (by decide) rfl c_21
            refine lv_aload_n hx hb dX11_sign__76 rfl (lv_at hl 0 rfl) ?_
            refine lv_bipush (v := (-6)) hx hb dX11_sign__77 (by decide) ?_
            have hFc := va_free (wc := (mW g0 pq cp z_5 fz_6)) hD hS hA (List.range 48) rfl
            refine va_calli (va_runV (As := [.int (-6)]) (rest := []) ⟨hx, hb, hml, hown, hts⟩ (c_X11_refuse l dC dI H.size g0 pq cp z_5 fz_6 (-6) (by unfold vp_in; decide)) (cwV 1 hts gX11_sign__X11_refuse rfl rfl rfl (by decide +kernel) ⟨(Nat.le_of_ble_eq_true rfl), (Nat.le_of_ble_eq_true rfl)⟩) (pr_V (r := (RX11, TX11, 63)) hP hK hD 0 11 rfl rfl) rfl rfl hl.1 rfl (lv_room (Nat.le_of_ble_eq_true rfl)) dX11_sign__79 ⟨(Nat.le_of_ble_eq_true rfl), (Nat.le_of_ble_eq_true rfl)⟩) hS (fun q _ h => hFc q h) hFc (fun r_23 u t H locs ht hvm w_22 hB hz1 hk1 hS => ?_)
            obtain ⟨v_24, fa_25⟩ := u
            obtain ⟨hP1, hK1, hD1⟩ := hB
            rw [ht] at hP1
            have hP : va_P (dC, dI) vwCl (mW g0 pq cp v_24 fa_25) H := hP1
            have hD : va_D A (mW g0 pq cp v_24 fa_25) := hD1.weaken (fun _ _ _ h => hFc _ h)
            clear hP1 hK1 hD1 hk1 hz1 hvm ht hFc
            obtain ⟨rfl, w_22⟩ := w_22
            have hVv_24 : mV v_24 := sm0_V w_22 hVz_5
            have hAv_24 : mA fa_25 := sm0_A w_22 hAz_5
            have g_26 : (v_24 43).toInt = (z_5 43).toInt := congrArg Int32.toInt (congrFun w_22.1 43)
            have hRv_24 : v_24 38 = v 38 := (congrFun w_22.1 38).trans hRz_5
            exact W.iret (v := (-6)) hx hb hr (fun t ht hW => ⟨⟨(-6), (v_24, fa_25), rfl, ⟨hVv_24, hAv_24, hRv_24⟩, ⟨by rw [ht]; exact hP, va_K.moved hW.alike hK, hD⟩⟩, hS.F ht⟩) hS.2.2 dX11_sign__82
          · have dc_21 := c_nlt (a := 3) (b := x4.toInt) (by decide) rfl c_21
            refine lv_aload_n hx hb dX11_sign__67 rfl (lv_at hl 0 rfl) ?_
            refine va_get (D := (dC, dI)) (ci := 11) (v := .int (z_5 43)) (C := RX11) (T := TX11) (N := 63) hx hb hts in_wsX11_sign__X11 hown hK hP 0 rfl rfl 43 (by decide) (hts (.fieldLink RX11 168 "ShipOfficeModel" "agreements" "I") (by decide +kernel)) (fun _ h9 => h9) rfl dX11_sign__68 ?_
            refine lv_topi (fun x_27 ex_27 => ?_)
            have hx_27 : 0 ≤ x_27.toInt ∧ x_27.toInt ≤ 60 := iv_of ex_27 (hVz_5 43)
            have gx_27 : x_27.toInt = (z_5 43).toInt := iv_to ex_27
            clear ex_27
            refine lv_bipush (v := 60) hx hb dX11_sign__71 (by decide) ?_
            refine lv_icmp_ne (tgt := 83) hx hb dX11_sign__73 (by decide) (fun c_28 => ?_) (fun c_28 => ?_)
            · have dc_28 := c_ne (a := x_27.toInt) (b := 60) rfl (by decide) c_28
              have cut_29 : ∀ (y_30 : Int32) (z_31 : Nat → Int32) (fz_32 : Nat → Nat → Int32) (H : Heap) (locs : List Loc) (ls : Array Slot), (0 ≤ y_30.toInt ∧ y_30.toInt ≤ 1) → mV z_31 → mA fz_32 → z_31 38 = v 38 → va_P (dC, dI) vwCl (mW g0 pq cp z_31 fz_32) H → va_D A (mW g0 pq cp z_31 fz_32) → va_S A s.heap H locs → (z_31 43).toInt = (z_5 43).toInt → lv_has ls 8 [(6, .int y_30), (0, .ref g0), (1, .int x1), (2, .int x2), (3, .int x3), (4, .int x4), (5, .int x5)] → W p l e (headSpec wsX11_sign_ { frames := 21, cells := 0, slots := 0, locals := 486 }).room s m #[Value.ref g0, Value.int x1, Value.int x2, Value.int x3, Value.int x4, Value.int x5] below meth c H locs 0 0 (MQ below (va_Qi (fun (r : Int32) (u : (Nat → Int32) × (Nat → Nat → Int32)) => mV u.1 ∧ mA u.2 ∧ u.1 38 = v 38) (fun u t => va_P (dC, dI) vwCl (mW g0 pq cp u.1 u.2) t.heap ∧ va_K (dC, dI) vwCl (mT cp) t ∧ va_D A (mW g0 pq cp u.1 u.2)) A) #[Value.ref g0, Value.int x1, Value.int x2, Value.int x3, Value.int x4, Value.int x5] s 0 0 A) (F0 m 132 ls []) := by
                intro y_30 z_31 fz_32 H locs ls hy_30 hVz_31 hAz_31 hRz_31 hP hD hS g_33 hl
                refine lv_iconst (v := 0) hx hb dX11_sign__132 (by decide) ?_
                refine lv_istore (lv' := [(7, .int 0), (6, .int y_30), (0, .ref g0), (1, .int x1), (2, .int x2), (3, .int x3), (4, .int x4), (5, .int x5)]) hx hb dX11_sign__133 hl (by decide) rfl (fun ls hl => ?_)
                have cut_34 : ∀ (n : Nat) (y_35 : Int32) (y_36 : Int32) (z_37 : Nat → Int32) (fz_38 : Nat → Nat → Int32) (H : Heap) (locs : List Loc) (ls : Array Slot), 60 - y_36.toInt ≤ (n : Int) → (0 ≤ y_35.toInt ∧ y_35.toInt ≤ 1) → (0 ≤ y_36.toInt ∧ y_36.toInt ≤ 60) → mV z_37 → mA fz_38 → z_37 38 = v 38 → va_P (dC, dI) vwCl (mW g0 pq cp z_37 fz_38) H → va_D A (mW g0 pq cp z_37 fz_38) → va_S A s.heap H locs → (z_37 43).toInt = (z_31 43).toInt → lv_has ls 8 [(6, .int y_35), (7, .int y_36), (0, .ref g0), (1, .int x1), (2, .int x2), (3, .int x3), (4, .int x4), (5, .int x5)] → W p l e (headSpec wsX11_sign_ { frames := 21, cells := 0, slots := 0, locals := 486 }).room s m #[Value.ref g0, Value.int x1, Value.int x2, Value.int x3, Value.int x4, Value.int x5] below meth c H locs 0 0 (MQ below (va_Qi (fun (r : Int32) (u : (Nat → Int32) × (Nat → Nat → Int32)) => mV u.1 ∧ mA u.2 ∧ u.1 38 = v 38) (fun u t => va_P (dC, dI) vwCl (mW g0 pq cp u.1 u.2) t.heap ∧ va_K (dC, dI) vwCl (mT cp) t ∧ va_D A (mW g0 pq cp u.1 u.2)) A) #[Value.ref g0, Value.int x1, Value.int x2, Value.int x3, Value.int x4, Value.int x5] s 0 0 A) (F0 m 135 ls []) := by
                  intro n
                  induction n using Nat.strongRecOn with
                  | ind n ih =>
                    intro y_35 y_36 z_37 fz_38 H locs ls hm hy_35 hy_36 hVz_37 hAz_37 hRz_37 hP hD hS g_39 hl
                    refine lv_iload hx hb dX11_sign__135 (lv_at hl 1 rfl) ?_
                    refine lv_aload_n hx hb dX11_sign__137 rfl (lv_at hl 2 rfl) ?_
                    refine va_get (D := (dC, dI)) (ci := 11) (v := .int (z_37 43)) (C := RX11) (T := TX11) (N := 63) hx hb hts in_wsX11_sign__X11 hown hK hP 0 rfl rfl 43 (by decide) (hts (.fieldLink RX11 168 "ShipOfficeModel" "agreements" "I") (by decide +kernel)) (fun _ h9 => h9) rfl dX11_sign__138 ?_
                    refine lv_topi (fun x_40 ex_40 => ?_)
                    have hx_40 : 0 ≤ x_40.toInt ∧ x_40.toInt ≤ 60 := iv_of ex_40 (hVz_37 43)
                    have gx_40 : x_40.toInt = (z_37 43).toInt := iv_to ex_40
                    clear ex_40
                    refine lv_icmp_ge (tgt := 182) hx hb dX11_sign__141 (by decide) (fun c_41 => ?_) (fun c_41 => ?_)
                    · have dc_41 := c_le (a := x_40.toInt) (b := y_36.toInt) rfl rfl c_41
                      refine lv_iload hx hb dX11_sign__182 (lv_at hl 0 rfl) ?_
                      refine lv_if_ne (tgt := 194) hx hb dX11_sign__184 (by decide) (fun c_42 => ?_) (fun c_42 => ?_)
                      · have dc_42 := c_ne (a := y_35.toInt) (b := 0) rfl (by decide) c_42
                        refine lv_aload_n hx hb dX11_sign__194 rfl (lv_at hl 2 rfl) ?_
                        have hFc := va_free (wc := (mW g0 pq cp z_37 fz_38)) hD hS hA (List.range 48) rfl
                        refine va_callv (va_runV (As := []) (rest := []) ⟨hx, hb, hml, hown, hts⟩ (c_X11_bare l dC dI H.size g0 pq cp z_37 fz_38 hVz_37 hAz_37) (cwV 0 hts gX11_sign__X11_bare rfl rfl rfl (by decide +kernel) ⟨(Nat.le_of_ble_eq_true rfl), (Nat.le_of_ble_eq_true rfl)⟩) (pr_V (r := (RX11, TX11, 63)) hP hK hD 0 11 rfl rfl) rfl rfl hl.1 rfl (lv_room (Nat.le_of_ble_eq_true rfl)) dX11_sign__195 ⟨(Nat.le_of_ble_eq_true rfl), (Nat.le_of_ble_eq_true rfl)⟩) hS (fun q _ h => hFc q h) hFc (fun u t H locs ht hvm w_43 hB hz1 hk1 hS => ?_)
                        obtain ⟨v_45, fa_46⟩ := u
                        obtain ⟨hP1, hK1, hD1⟩ := hB
                        rw [ht] at hP1
                        have hP : va_P (dC, dI) vwCl (mW g0 pq cp v_45 fa_46) H := hP1
                        have hD : va_D A (mW g0 pq cp v_45 fa_46) := hD1.weaken (fun _ _ _ h => hFc _ h)
                        clear hP1 hK1 hD1 hk1 hz1 hvm ht hFc
                        obtain ⟨hV_47, hA_48, hR_49⟩ := w_43
                        dsimp only at hV_47 hA_48 hR_49 
                        have g_50 : (v_45 43).toInt = (z_37 43).toInt := congrArg Int32.toInt (hR_49.1 43 rfl)
                        have R_51 : v_45 38 = v 38 := (scr.now hR_49).trans hRz_37
                        refine lv_aload_n hx hb dX11_sign__198 rfl (lv_at hl 2 rfl) ?_
                        refine va_get (D := (dC, dI)) (ci := 11) (v := .ref (pq 45)) (C := RX11) (T := TX11) (N := 63) hx hb hts in_wsX11_sign__X11 hown hK hP 0 rfl rfl 45 (by decide) (hts (.fieldLink RX11 128 "ShipOfficeModel" "letters" "[I") (by decide +kernel)) (fun _ h9 => h9) rfl dX11_sign__199 ?_
                        refine lv_bipush (v := 119) hx hb dX11_sign__202 (by decide) ?_
                        refine lv_iload_n hx hb dX11_sign__204 rfl (lv_at hl 5 rfl) ?_
                        refine va_iast hx hb hK hP hD hS 40 39 rfl rfl (by unfold vp_in; decide) dX11_sign__205 (fun H locs hP hD hS => ?_)
                        have hP : va_P (dC, dI) vwCl (mW g0 pq cp v_45 (upF fa_46 45 (119 : Int32).toNatClampNeg x3)) H := hP
                        have hD : va_D A (mW g0 pq cp v_45 (upF fa_46 45 (119 : Int32).toNatClampNeg x3)) := hD
                        obtain ⟨fz_52, efz_52⟩ : ∃ zq, zq = (upF fa_46 45 (119 : Int32).toNatClampNeg x3) := ⟨_, rfl⟩
                        rw [← efz_52] at hP hD
                        have hAfz_52 : mA fz_52 := by rw [efz_52]; exact mA_upF (lo := -2147483648) (hi := 2147483647) hA_48 rfl rfl (iv_all _)
                        refine lv_aload_n hx hb dX11_sign__206 rfl (lv_at hl 2 rfl) ?_
                        refine va_get (D := (dC, dI)) (ci := 11) (v := .ref (pq 45)) (C := RX11) (T := TX11) (N := 63) hx hb hts in_wsX11_sign__X11 hown hK hP 0 rfl rfl 45 (by decide) (hts (.fieldLink RX11 128 "ShipOfficeModel" "letters" "[I") (by decide +kernel)) (fun _ h9 => h9) rfl dX11_sign__207 ?_
                        refine lv_bipush (v := 114) hx hb dX11_sign__210 (by decide) ?_
                        refine lv_iload hx hb dX11_sign__212 (lv_at hl 6 rfl) ?_
                        refine va_iast hx hb hK hP hD hS 40 39 rfl rfl (by unfold vp_in; decide) dX11_sign__214 (fun H locs hP hD hS => ?_)
                        have hP : va_P (dC, dI) vwCl (mW g0 pq cp v_45 (upF fz_52 45 (114 : Int32).toNatClampNeg x4)) H := hP
                        have hD : va_D A (mW g0 pq cp v_45 (upF fz_52 45 (114 : Int32).toNatClampNeg x4)) := hD
                        obtain ⟨fz_53, efz_53⟩ : ∃ zq, zq = (upF fz_52 45 (114 : Int32).toNatClampNeg x4) := ⟨_, rfl⟩
                        rw [← efz_53] at hP hD
                        have hAfz_53 : mA fz_53 := by rw [efz_53]; exact mA_upF (lo := -2147483648) (hi := 2147483647) hAfz_52 rfl rfl (iv_all _)
                        refine lv_aload_n hx hb dX11_sign__215 rfl (lv_at hl 2 rfl) ?_
                        refine va_get (D := (dC, dI)) (ci := 11) (v := .ref (pq 45)) (C := RX11) (T := TX11) (N := 63) hx hb hts in_wsX11_sign__X11 hown hK hP 0 rfl rfl 45 (by decide) (hts (.fieldLink RX11 128 "ShipOfficeModel" "letters" "[I") (by decide +kernel)) (fun _ h9 => h9) rfl dX11_sign__216 ?_
                        refine lv_bipush (v := 97) hx hb dX11_sign__219 (by decide) ?_
                        refine lv_aload_n hx hb dX11_sign__221 rfl (lv_at hl 2 rfl) ?_
                        refine va_get (D := (dC, dI)) (ci := 11) (v := .int (v_45 38)) (C := RX11) (T := TX11) (N := 63) hx hb hts in_wsX11_sign__X11 hown hK hP 0 rfl rfl 38 (by decide) (hts (.fieldLink RX11 171 "ShipOfficeModel" "now" "I") (by decide +kernel)) (fun _ h9 => h9) rfl dX11_sign__222 ?_
                        refine lv_topi (fun x_54 ex_54 => ?_)
                        have hx_54 : 0 ≤ x_54.toInt ∧ x_54.toInt ≤ 3000 := iv_of ex_54 (hV_47 38)
                        clear ex_54
                        refine lv_aload_n hx hb dX11_sign__225 rfl (lv_at hl 2 rfl) ?_
                        refine va_get (D := (dC, dI)) (ci := 11) (v := .ref (pq 4)) (C := RX11) (T := TX11) (N := 63) hx hb hts in_wsX11_sign__X11 hown hK hP 0 rfl rfl 4 (by decide) (hts (.fieldLink RX11 22 "ShipOfficeModel" "born" "[I") (by decide +kernel)) (fun _ h9 => h9) rfl dX11_sign__226 ?_
                        refine lv_iload_n hx hb dX11_sign__229 rfl (lv_at hl 3 rfl) ?_
                        refine va_iald hx hb hK hP 5 4 rfl rfl (vp_in_iff.mpr (by omega)) dX11_sign__230 ?_
                        refine lv_topi (fun x_55 ex_55 => ?_)
                        clear ex_55
                        refine lv_isub hx hb dX11_sign__231 ?_
                        refine lv_topi (fun x_56 ex_56 => ?_)
                        clear ex_56
                        refine lv_sipush (v := 365) hx hb dX11_sign__232 (by decide) ?_
                        refine lv_idiv hx hb dX11_sign__235 (by decide) ?_
                        refine lv_topi (fun x_57 ex_57 => ?_)
                        clear ex_57
                        refine va_iast hx hb hK hP hD hS 40 39 rfl rfl (by unfold vp_in; decide) dX11_sign__236 (fun H locs hP hD hS => ?_)
                        have hP : va_P (dC, dI) vwCl (mW g0 pq cp v_45 (upF fz_53 45 (97 : Int32).toNatClampNeg x_57)) H := hP
                        have hD : va_D A (mW g0 pq cp v_45 (upF fz_53 45 (97 : Int32).toNatClampNeg x_57)) := hD
                        obtain ⟨fz_58, efz_58⟩ : ∃ zq, zq = (upF fz_53 45 (97 : Int32).toNatClampNeg x_57) := ⟨_, rfl⟩
                        rw [← efz_58] at hP hD
                        have hAfz_58 : mA fz_58 := by rw [efz_58]; exact mA_upF (lo := -2147483648) (hi := 2147483647) hAfz_53 rfl rfl (iv_all _)
                        refine lv_aload_n hx hb dX11_sign__237 rfl (lv_at hl 2 rfl) ?_
                        refine lv_iconst (v := 0) hx hb dX11_sign__238 (by decide) ?_
                        refine lv_aload_n hx hb dX11_sign__239 rfl (lv_at hl 2 rfl) ?_
                        refine va_get (D := (dC, dI)) (ci := 11) (v := .int (v_45 38)) (C := RX11) (T := TX11) (N := 63) hx hb hts in_wsX11_sign__X11 hown hK hP 0 rfl rfl 38 (by decide) (hts (.fieldLink RX11 171 "ShipOfficeModel" "now" "I") (by decide +kernel)) (fun _ h9 => h9) rfl dX11_sign__240 ?_
                        refine lv_topi (fun x_59 ex_59 => ?_)
                        have hx_59 : 0 ≤ x_59.toInt ∧ x_59.toInt ≤ 3000 := iv_of ex_59 (hV_47 38)
                        clear ex_59
                        have hFc := va_free (wc := (mW g0 pq cp v_45 fz_58)) hD hS hA (List.range 48) rfl
                        refine va_calli (va_runV (As := [.int 0, .int x_59]) (rest := []) ⟨hx, hb, hml, hown, hts⟩ (c_X11_worth l dC dI H.size g0 pq cp v_45 fz_58 hV_47 hAfz_58 0 x_59) (cwV 2 hts gX11_sign__X11_worth rfl rfl rfl (by decide +kernel) ⟨(Nat.le_of_ble_eq_true rfl), (Nat.le_of_ble_eq_true rfl)⟩) (pr_V (r := (RX11, TX11, 63)) hP hK hD 0 11 rfl rfl) rfl rfl hl.1 rfl (lv_room (Nat.le_of_ble_eq_true rfl)) dX11_sign__243 ⟨(Nat.le_of_ble_eq_true rfl), (Nat.le_of_ble_eq_true rfl)⟩) hS (fun q _ h => hFc q h) hFc (fun r_61 u t H locs ht hvm w_60 hB hz1 hk1 hS => ?_)
                        obtain ⟨v_62, fa_63⟩ := u
                        obtain ⟨hP1, hK1, hD1⟩ := hB
                        rw [ht] at hP1
                        have hP : va_P (dC, dI) vwCl (mW g0 pq cp v_62 fa_63) H := hP1
                        have hD : va_D A (mW g0 pq cp v_62 fa_63) := hD1.weaken (fun _ _ _ h => hFc _ h)
                        clear hP1 hK1 hD1 hk1 hz1 hvm ht hFc
                        obtain ⟨hV_64, hA_65, hR_66⟩ := w_60
                        dsimp only at hV_64 hA_65 hR_66 
                        have g_67 : (v_62 43).toInt = (v_45 43).toInt := congrArg Int32.toInt (hR_66.1 43 rfl)
                        have R_68 : v_62 38 = v 38 := (scr.now hR_66).trans R_51
                        refine lv_if_gt (tgt := 256) hx hb dX11_sign__246 (by decide) (fun c_69 => ?_) (fun c_69 => ?_)
                        · have dc_69 := c_lt (a := 0) (b := r_61.toInt) (by decide) rfl c_69
                          refine lv_aload_n hx hb dX11_sign__256 rfl (lv_at hl 2 rfl) ?_
                          refine va_get (D := (dC, dI)) (ci := 11) (v := .int (v_62 43)) (C := RX11) (T := TX11) (N := 63) hx hb hts in_wsX11_sign__X11 hown hK hP 0 rfl rfl 43 (by decide) (hts (.fieldLink RX11 168 "ShipOfficeModel" "agreements" "I") (by decide +kernel)) (fun _ h9 => h9) rfl dX11_sign__257 ?_
                          refine lv_topi (fun x_70 ex_70 => ?_)
                          have hx_70 : 0 ≤ x_70.toInt ∧ x_70.toInt ≤ 60 := iv_of ex_70 (hV_64 43)
                          have gx_70 : x_70.toInt = (v_62 43).toInt := iv_to ex_70
                          clear ex_70
                          refine lv_istore (lv' := [(7, .int x_70), (6, .int y_35), (0, .ref g0), (1, .int x1), (2, .int x2), (3, .int x3), (4, .int x4), (5, .int x5)]) hx hb dX11_sign__260 hl (by decide) rfl (fun ls hl => ?_)
                          refine lv_aload_n hx hb dX11_sign__262 rfl (lv_at hl 2 rfl) ?_
                          refine lv_dup hx hb dX11_sign__263 rfl ?_
                          refine va_get (D := (dC, dI)) (ci := 11) (v := .int (v_62 43)) (C := RX11) (T := TX11) (N := 63) hx hb hts in_wsX11_sign__X11 hown hK hP 0 rfl rfl 43 (by decide) (hts (.fieldLink RX11 168 "ShipOfficeModel" "agreements" "I") (by decide +kernel)) (fun _ h9 => h9) rfl dX11_sign__264 ?_
                          refine lv_topi (fun x_71 ex_71 => ?_)
                          have hx_71 : 0 ≤ x_71.toInt ∧ x_71.toInt ≤ 60 := iv_of ex_71 (hV_64 43)
                          have gx_71 : x_71.toInt = (v_62 43).toInt := iv_to ex_71
                          clear ex_71
                          refine lv_iconst (v := 1) hx hb dX11_sign__267 (by decide) ?_
                          refine lv_iadd hx hb dX11_sign__268 ?_
                          refine lv_topi (fun x_72 ex_72 => ?_)
                          have hx_72 : x_72.toInt = x_71.toInt + 1 := (iv_to ex_72).trans (ad_i rfl (by decide) (by omega) (by omega))
                          clear ex_72
                          refine va_put (D := (dC, dI)) (ci := 11) (v := .int x_72) (ty := .int) (C := RX11) (T := TX11) (N := 63) hx hb hts in_wsX11_sign__X11 tyX11 tyX11_ok nmX11 hown hK hP hD hS 0 rfl rfl 43 (by decide) (hts (.fieldLink RX11 168 "ShipOfficeModel" "agreements" "I") (by decide +kernel)) (fun _ h9 => h9) rfl (by decide +kernel) rfl rfl (Nat.le_of_ble_eq_true rfl) dX11_sign__269 (fun H locs hP hD hS => ?_)
                          have hP : va_P (dC, dI) vwCl (mW g0 pq cp (upd v_62 43 x_72) fa_63) H := hP
                          have hD : va_D A (mW g0 pq cp (upd v_62 43 x_72) fa_63) := hD
                          obtain ⟨z_73, ez_73⟩ : ∃ zq, zq = (upd v_62 43 x_72) := ⟨_, rfl⟩
                          rw [← ez_73] at hP hD
                          have hVz_73 : mV z_73 := by rw [ez_73]; exact mV_upd (lo := 0) (hi := 60) hV_64 rfl rfl (by omega)
                          have hRz_73 : z_73 38 = v 38 := by rw [ez_73]; exact (if_neg (by decide)).trans R_68
                          have g_74 : (z_73 43).toInt = x_72.toInt := by rw [ez_73, show upd v_62 43 x_72 43 = x_72 from if_pos rfl]
                          refine lv_aload_n hx hb dX11_sign__272 rfl (lv_at hl 2 rfl) ?_
                          refine va_get (D := (dC, dI)) (ci := 11) (v := .ref (pq 20)) (C := RX11) (T := TX11) (N := 63) hx hb hts in_wsX11_sign__X11 hown hK hP 0 rfl rfl 20 (by decide) (hts (.fieldLink RX11 70 "ShipOfficeModel" "man" "[I") (by decide +kernel)) (fun _ h9 => h9) rfl dX11_sign__273 ?_
                          refine lv_iload hx hb dX11_sign__276 (lv_at hl 0 rfl) ?_
                          refine lv_iload_n hx hb dX11_sign__278 rfl (lv_at hl 3 rfl) ?_
                          refine va_iast hx hb hK hP hD hS 21 20 rfl rfl (vp_in_iff.mpr (by omega)) dX11_sign__279 (fun H locs hP hD hS => ?_)
                          have hP : va_P (dC, dI) vwCl (mW g0 pq cp z_73 (upF fa_63 20 (x_70 : Int32).toNatClampNeg x1)) H := hP
                          have hD : va_D A (mW g0 pq cp z_73 (upF fa_63 20 (x_70 : Int32).toNatClampNeg x1)) := hD
                          obtain ⟨fz_75, efz_75⟩ : ∃ zq, zq = (upF fa_63 20 (x_70 : Int32).toNatClampNeg x1) := ⟨_, rfl⟩
                          rw [← efz_75] at hP hD
                          have hAfz_75 : mA fz_75 := by rw [efz_75]; exact mA_upF (lo := 0) (hi := 39) hA_65 rfl rfl (by omega)
                          refine lv_aload_n hx hb dX11_sign__280 rfl (lv_at hl 2 rfl) ?_
                          refine va_get (D := (dC, dI)) (ci := 11) (v := .ref (pq 21)) (C := RX11) (T := TX11) (N := 63) hx hb hts in_wsX11_sign__X11 hown hK hP 0 rfl rfl 21 (by decide) (hts (.fieldLink RX11 73 "ShipOfficeModel" "voyage" "[I") (by decide +kernel)) (fun _ h9 => h9) rfl dX11_sign__281 ?_
                          refine lv_iload hx hb dX11_sign__284 (lv_at hl 0 rfl) ?_
                          refine lv_iload_n hx hb dX11_sign__286 rfl (lv_at hl 4 rfl) ?_
                          refine va_iast hx hb hK hP hD hS 22 21 rfl rfl (vp_in_iff.mpr (by omega)) dX11_sign__287 (fun H locs hP hD hS => ?_)
                          have hP : va_P (dC, dI) vwCl (mW g0 pq cp z_73 (upF fz_75 21 (x_70 : Int32).toNatClampNeg x2)) H := hP
                          have hD : va_D A (mW g0 pq cp z_73 (upF fz_75 21 (x_70 : Int32).toNatClampNeg x2)) := hD
                          obtain ⟨fz_76, efz_76⟩ : ∃ zq, zq = (upF fz_75 21 (x_70 : Int32).toNatClampNeg x2) := ⟨_, rfl⟩
                          rw [← efz_76] at hP hD
                          have hAfz_76 : mA fz_76 := by rw [efz_76]; exact mA_upF (lo := 0) (hi := 19) hAfz_75 rfl rfl (by omega)
                          refine lv_aload_n hx hb dX11_sign__288 rfl (lv_at hl 2 rfl) ?_
                          refine va_get (D := (dC, dI)) (ci := 11) (v := .ref (pq 22)) (C := RX11) (T := TX11) (N := 63) hx hb hts in_wsX11_sign__X11 hown hK hP 0 rfl rfl 22 (by decide) (hts (.fieldLink RX11 76 "ShipOfficeModel" "wage" "[I") (by decide +kernel)) (fun _ h9 => h9) rfl dX11_sign__289 ?_
                          refine lv_iload hx hb dX11_sign__292 (lv_at hl 0 rfl) ?_
                          refine lv_iload_n hx hb dX11_sign__294 rfl (lv_at hl 5 rfl) ?_
                          refine va_iast hx hb hK hP hD hS 23 22 rfl rfl (vp_in_iff.mpr (by omega)) dX11_sign__295 (fun H locs hP hD hS => ?_)
                          have hP : va_P (dC, dI) vwCl (mW g0 pq cp z_73 (upF fz_76 22 (x_70 : Int32).toNatClampNeg x3)) H := hP
                          have hD : va_D A (mW g0 pq cp z_73 (upF fz_76 22 (x_70 : Int32).toNatClampNeg x3)) := hD
                          obtain ⟨fz_77, efz_77⟩ : ∃ zq, zq = (upF fz_76 22 (x_70 : Int32).toNatClampNeg x3) := ⟨_, rfl⟩
                          rw [← efz_77] at hP hD
                          have hAfz_77 : mA fz_77 := by rw [efz_77]; exact mA_upF (lo := -2147483648) (hi := 2147483647) hAfz_76 rfl rfl (iv_all _)
                          refine lv_aload_n hx hb dX11_sign__296 rfl (lv_at hl 2 rfl) ?_
                          refine va_get (D := (dC, dI)) (ci := 11) (v := .ref (pq 23)) (C := RX11) (T := TX11) (N := 63) hx hb hts in_wsX11_sign__X11 hown hK hP 0 rfl rfl 23 (by decide) (hts (.fieldLink RX11 79 "ShipOfficeModel" "rank" "[I") (by decide +kernel)) (fun _ h9 => h9) rfl dX11_sign__297 ?_
                          refine lv_iload hx hb dX11_sign__300 (lv_at hl 0 rfl) ?_
                          refine lv_iload hx hb dX11_sign__302 (lv_at hl 6 rfl) ?_
                          refine va_iast hx hb hK hP hD hS 24 23 rfl rfl (vp_in_iff.mpr (by omega)) dX11_sign__304 (fun H locs hP hD hS => ?_)
                          have hP : va_P (dC, dI) vwCl (mW g0 pq cp z_73 (upF fz_77 23 (x_70 : Int32).toNatClampNeg x4)) H := hP
                          have hD : va_D A (mW g0 pq cp z_73 (upF fz_77 23 (x_70 : Int32).toNatClampNeg x4)) := hD
                          obtain ⟨fz_78, efz_78⟩ : ∃ zq, zq = (upF fz_77 23 (x_70 : Int32).toNatClampNeg x4) := ⟨_, rfl⟩
                          rw [← efz_78] at hP hD
                          have hAfz_78 : mA fz_78 := by rw [efz_78]; exact mA_upF (lo := -2147483648) (hi := 2147483647) hAfz_77 rfl rfl (iv_all _)
                          refine lv_aload_n hx hb dX11_sign__305 rfl (lv_at hl 2 rfl) ?_
                          refine va_get (D := (dC, dI)) (ci := 11) (v := .ref (pq 24)) (C := RX11) (T := TX11) (N := 63) hx hb hts in_wsX11_sign__X11 hown hK hP 0 rfl rfl 24 (by decide) (hts (.fieldLink RX11 82 "ShipOfficeModel" "paper" "[I") (by decide +kernel)) (fun _ h9 => h9) rfl dX11_sign__306 ?_
                          refine lv_iload hx hb dX11_sign__309 (lv_at hl 0 rfl) ?_
                          refine lv_iload hx hb dX11_sign__311 (lv_at hl 7 rfl) ?_
                          refine va_iast hx hb hK hP hD hS 25 24 rfl rfl (vp_in_iff.mpr (by omega)) dX11_sign__313 (fun H locs hP hD hS => ?_)
                          have hP : va_P (dC, dI) vwCl (mW g0 pq cp z_73 (upF fz_78 24 (x_70 : Int32).toNatClampNeg x5)) H := hP
                          have hD : va_D A (mW g0 pq cp z_73 (upF fz_78 24 (x_70 : Int32).toNatClampNeg x5)) := hD
                          obtain ⟨fz_79, efz_79⟩ : ∃ zq, zq = (upF fz_78 24 (x_70 : Int32).toNatClampNeg x5) := ⟨_, rfl⟩
                          rw [← efz_79] at hP hD
                          have hAfz_79 : mA fz_79 := by rw [efz_79]; exact mA_upF (lo := -1) (hi := 59) hAfz_78 rfl rfl (by omega)
                          refine lv_aload_n hx hb dX11_sign__314 rfl (lv_at hl 2 rfl) ?_
                          refine va_get (D := (dC, dI)) (ci := 11) (v := .ref (pq 25)) (C := RX11) (T := TX11) (N := 63) hx hb hts in_wsX11_sign__X11 hown hK hP 0 rfl rfl 25 (by decide) (hts (.fieldLink RX11 85 "ShipOfficeModel" "signed" "[I") (by decide +kernel)) (fun _ h9 => h9) rfl dX11_sign__315 ?_
                          refine lv_iload hx hb dX11_sign__318 (lv_at hl 0 rfl) ?_
                          refine lv_aload_n hx hb dX11_sign__320 rfl (lv_at hl 2 rfl) ?_
                          refine va_get (D := (dC, dI)) (ci := 11) (v := .int (z_73 38)) (C := RX11) (T := TX11) (N := 63) hx hb hts in_wsX11_sign__X11 hown hK hP 0 rfl rfl 38 (by decide) (hts (.fieldLink RX11 171 "ShipOfficeModel" "now" "I") (by decide +kernel)) (fun _ h9 => h9) rfl dX11_sign__321 ?_
                          refine lv_topi (fun x_80 ex_80 => ?_)
                          have hx_80 : 0 ≤ x_80.toInt ∧ x_80.toInt ≤ 3000 := iv_of ex_80 (hVz_73 38)
                          clear ex_80
                          refine va_iast hx hb hK hP hD hS 26 25 rfl rfl (vp_in_iff.mpr (by omega)) dX11_sign__324 (fun H locs hP hD hS => ?_)
                          have hP : va_P (dC, dI) vwCl (mW g0 pq cp z_73 (upF fz_79 25 (x_70 : Int32).toNatClampNeg x_80)) H := hP
                          have hD : va_D A (mW g0 pq cp z_73 (upF fz_79 25 (x_70 : Int32).toNatClampNeg x_80)) := hD
                          obtain ⟨fz_81, efz_81⟩ : ∃ zq, zq = (upF fz_79 25 (x_70 : Int32).toNatClampNeg x_80) := ⟨_, rfl⟩
                          rw [← efz_81] at hP hD
                          have hAfz_81 : mA fz_81 := by rw [efz_81]; exact mA_upF (lo := 0) (hi := 3000) hAfz_79 rfl rfl (by omega)
                          refine lv_aload_n hx hb dX11_sign__325 rfl (lv_at hl 2 rfl) ?_
                          refine va_get (D := (dC, dI)) (ci := 11) (v := .ref (pq 26)) (C := RX11) (T := TX11) (N := 63) hx hb hts in_wsX11_sign__X11 hown hK hP 0 rfl rfl 26 (by decide) (hts (.fieldLink RX11 88 "ShipOfficeModel" "offOn" "[I") (by decide +kernel)) (fun _ h9 => h9) rfl dX11_sign__326 ?_
                          refine lv_iload hx hb dX11_sign__329 (lv_at hl 0 rfl) ?_
                          refine lv_iconst (v := (-1)) hx hb dX11_sign__331 (by decide) ?_
                          refine va_iast hx hb hK hP hD hS 27 26 rfl rfl (vp_in_iff.mpr (by omega)) dX11_sign__332 (fun H locs hP hD hS => ?_)
                          have hP : va_P (dC, dI) vwCl (mW g0 pq cp z_73 (upF fz_81 26 (x_70 : Int32).toNatClampNeg (-1))) H := hP
                          have hD : va_D A (mW g0 pq cp z_73 (upF fz_81 26 (x_70 : Int32).toNatClampNeg (-1))) := hD
                          obtain ⟨fz_82, efz_82⟩ : ∃ zq, zq = (upF fz_81 26 (x_70 : Int32).toNatClampNeg (-1)) := ⟨_, rfl⟩
                          rw [← efz_82] at hP hD
                          have hAfz_82 : mA fz_82 := by rw [efz_82]; exact mA_upF (lo := -2147483648) (hi := 2147483647) hAfz_81 rfl rfl (iv_all _)
                          refine lv_aload_n hx hb dX11_sign__333 rfl (lv_at hl 2 rfl) ?_
                          refine va_get (D := (dC, dI)) (ci := 11) (v := .ref (pq 28)) (C := RX11) (T := TX11) (N := 63) hx hb hts in_wsX11_sign__X11 hown hK hP 0 rfl rfl 28 (by decide) (hts (.fieldLink RX11 94 "ShipOfficeModel" "given" "[I") (by decide +kernel)) (fun _ h9 => h9) rfl dX11_sign__334 ?_
                          refine lv_iload hx hb dX11_sign__337 (lv_at hl 0 rfl) ?_
                          refine lv_bipush (v := (-9)) hx hb dX11_sign__339 (by decide) ?_
                          refine va_iast hx hb hK hP hD hS 29 28 rfl rfl (vp_in_iff.mpr (by omega)) dX11_sign__341 (fun H locs hP hD hS => ?_)
                          have hP : va_P (dC, dI) vwCl (mW g0 pq cp z_73 (upF fz_82 28 (x_70 : Int32).toNatClampNeg (-9))) H := hP
                          have hD : va_D A (mW g0 pq cp z_73 (upF fz_82 28 (x_70 : Int32).toNatClampNeg (-9))) := hD
                          obtain ⟨fz_83, efz_83⟩ : ∃ zq, zq = (upF fz_82 28 (x_70 : Int32).toNatClampNeg (-9)) := ⟨_, rfl⟩
                          rw [← efz_83] at hP hD
                          have hAfz_83 : mA fz_83 := by rw [efz_83]; exact mA_upF (lo := -2147483648) (hi := 2147483647) hAfz_82 rfl rfl (iv_all _)
                          refine lv_iload hx hb dX11_sign__342 (lv_at hl 0 rfl) ?_
                          exact W.iret (v := x_70) hx hb hr (fun t ht hW => ⟨⟨x_70, (z_73, fz_83), rfl, ⟨hVz_73, hAfz_83, hRz_73⟩, ⟨by rw [ht]; exact hP, va_K.moved hW.alike hK, hD⟩⟩, hS.F ht⟩) hS.2.2 dX11_sign__344
                        · have dc_69 := c_nlt (a := 0) (b := r_61.toInt) (by decide) rfl c_69
                          refine lv_aload_n hx hb dX11_sign__249 rfl (lv_at hl 2 rfl) ?_
                          refine lv_bipush (v := (-3)) hx hb dX11_sign__250 (by decide) ?_
                          have hFc := va_free (wc := (mW g0 pq cp v_62 fa_63)) hD hS hA (List.range 48) rfl
                          refine va_calli (va_runV (As := [.int (-3)]) (rest := []) ⟨hx, hb, hml, hown, hts⟩ (c_X11_refuse l dC dI H.size g0 pq cp v_62 fa_63 (-3) (by unfold vp_in; decide)) (cwV 1 hts gX11_sign__X11_refuse rfl rfl rfl (by decide +kernel) ⟨(Nat.le_of_ble_eq_true rfl), (Nat.le_of_ble_eq_true rfl)⟩) (pr_V (r := (RX11, TX11, 63)) hP hK hD 0 11 rfl rfl) rfl rfl hl.1 rfl (lv_room (Nat.le_of_ble_eq_true rfl)) dX11_sign__252 ⟨(Nat.le_of_ble_eq_true rfl), (Nat.le_of_ble_eq_true rfl)⟩) hS (fun q _ h => hFc q h) hFc (fun r_85 u t H locs ht hvm w_84 hB hz1 hk1 hS => ?_)
                          obtain ⟨v_86, fa_87⟩ := u
                          obtain ⟨hP1, hK1, hD1⟩ := hB
                          rw [ht] at hP1
                          have hP : va_P (dC, dI) vwCl (mW g0 pq cp v_86 fa_87) H := hP1
                          have hD : va_D A (mW g0 pq cp v_86 fa_87) := hD1.weaken (fun _ _ _ h => hFc _ h)
                          clear hP1 hK1 hD1 hk1 hz1 hvm ht hFc
                          obtain ⟨rfl, w_84⟩ := w_84
                          have hVv_86 : mV v_86 := sm0_V w_84 hV_64
                          have hAv_86 : mA fa_87 := sm0_A w_84 hA_65
                          have g_88 : (v_86 43).toInt = (v_62 43).toInt := congrArg Int32.toInt (congrFun w_84.1 43)
                          have hRv_86 : v_86 38 = v 38 := (congrFun w_84.1 38).trans R_68
                          exact W.iret (v := (-3)) hx hb hr (fun t ht hW => ⟨⟨(-3), (v_86, fa_87), rfl, ⟨hVv_86, hAv_86, hRv_86⟩, ⟨by rw [ht]; exact hP, va_K.moved hW.alike hK, hD⟩⟩, hS.F ht⟩) hS.2.2 dX11_sign__255
                      · have dc_42 := c_eq (a := y_35.toInt) (b := 0) rfl (by decide) c_42
                        refine lv_aload_n hx hb dX11_sign__187 rfl (lv_at hl 2 rfl) ?_
                        refine lv_bipush (v := (-3)) hx hb dX11_sign__188 (by decide) ?_
                        have hFc := va_free (wc := (mW g0 pq cp z_37 fz_38)) hD hS hA (List.range 48) rfl
                        refine va_calli (va_runV (As := [.int (-3)]) (rest := []) ⟨hx, hb, hml, hown, hts⟩ (c_X11_refuse l dC dI H.size g0 pq cp z_37 fz_38 (-3) (by unfold vp_in; decide)) (cwV 1 hts gX11_sign__X11_refuse rfl rfl rfl (by decide +kernel) ⟨(Nat.le_of_ble_eq_true rfl), (Nat.le_of_ble_eq_true rfl)⟩) (pr_V (r := (RX11, TX11, 63)) hP hK hD 0 11 rfl rfl) rfl rfl hl.1 rfl (lv_room (Nat.le_of_ble_eq_true rfl)) dX11_sign__190 ⟨(Nat.le_of_ble_eq_true rfl), (Nat.le_of_ble_eq_true rfl)⟩) hS (fun q _ h => hFc q h) hFc (fun r_90 u t H locs ht hvm w_89 hB hz1 hk1 hS => ?_)
                        obtain ⟨v_91, fa_92⟩ := u
                        obtain ⟨hP1, hK1, hD1⟩ := hB
                        rw [ht] at hP1
                        have hP : va_P (dC, dI) vwCl (mW g0 pq cp v_91 fa_92) H := hP1
                        have hD : va_D A (mW g0 pq cp v_91 fa_92) := hD1.weaken (fun _ _ _ h => hFc _ h)
                        clear hP1 hK1 hD1 hk1 hz1 hvm ht hFc
                        obtain ⟨rfl, w_89⟩ := w_89
                        have hVv_91 : mV v_91 := sm0_V w_89 hVz_37
                        have hAv_91 : mA fa_92 := sm0_A w_89 hAz_37
                        have g_93 : (v_91 43).toInt = (z_37 43).toInt := congrArg Int32.toInt (congrFun w_89.1 43)
                        have hRv_91 : v_91 38 = v 38 := (congrFun w_89.1 38).trans hRz_37
                        exact W.iret (v := (-3)) hx hb hr (fun t ht hW => ⟨⟨(-3), (v_91, fa_92), rfl, ⟨hVv_91, hAv_91, hRv_91⟩, ⟨by rw [ht]; exact hP, va_K.moved hW.alike hK, hD⟩⟩, hS.F ht⟩) hS.2.2 dX11_sign__193
                    · have dc_41 := c_nle (a := x_40.toInt) (b := y_36.toInt) rfl rfl c_41
                      refine lv_iload hx hb dX11_sign__144 (lv_at hl 0 rfl) ?_
                      refine lv_if_eq (tgt := 173) hx hb dX11_sign__146 (by decide) (fun c_94 => ?_) (fun c_94 => ?_)
                      · have dc_94 := c_eq (a := y_35.toInt) (b := 0) rfl (by decide) c_94
                        refine lv_iconst (v := 0) hx hb dX11_sign__173 (by decide) ?_
                        refine lv_istore (lv' := [(6, .int 0), (7, .int y_36), (0, .ref g0), (1, .int x1), (2, .int x2), (3, .int x3), (4, .int x4), (5, .int x5)]) hx hb dX11_sign__174 hl (by decide) rfl (fun ls hl => ?_)
                        obtain ⟨x_95, ex_95⟩ : ∃ zq : Int32, y_36 + 1 = zq := ⟨_, rfl⟩
                        have hx_95 : x_95.toInt = y_36.toInt + 1 := (iv_to ex_95).symm.trans (ad_i rfl (by decide) (by omega) (by omega))
                        refine lv_iinc (v := x_95) (lv' := [(7, .int x_95), (6, .int 0), (0, .ref g0), (1, .int x1), (2, .int x2), (3, .int x3), (4, .int x4), (5, .int x5)]) hx hb dX11_sign__176 hl (k := 1) rfl ex_95 (by decide) rfl (fun ls hl => ?_)
                        clear ex_95
                        refine lv_goto (tgt := 135) hx hb dX11_sign__179 (by decide) ?_
                        have kc_96 : (0 : Int32).toInt = 0 := by decide
                        exact ih (n - 1) (by omega) 0 x_95 z_37 fz_38 _ _ ls (by omega) (by decide) (by omega) hVz_37 hAz_37 hRz_37 hP hD hS (by omega) (lv_sub hl [1, 0, 2, 3, 4, 5, 6, 7] rfl)
                      · have dc_94 := c_ne (a := y_35.toInt) (b := 0) rfl (by decide) c_94
                        refine lv_aload_n hx hb dX11_sign__149 rfl (lv_at hl 2 rfl) ?_
                        refine va_get (D := (dC, dI)) (ci := 11) (v := .ref (pq 20)) (C := RX11) (T := TX11) (N := 63) hx hb hts in_wsX11_sign__X11 hown hK hP 0 rfl rfl 20 (by decide) (hts (.fieldLink RX11 70 "ShipOfficeModel" "man" "[I") (by decide +kernel)) (fun _ h9 => h9) rfl dX11_sign__150 ?_
                        refine lv_iload hx hb dX11_sign__153 (lv_at hl 1 rfl) ?_
                        refine va_iald hx hb hK hP 21 20 rfl rfl (vp_in_iff.mpr (by omega)) dX11_sign__155 ?_
                        refine lv_topi (fun x_97 ex_97 => ?_)
                        have hx_97 : 0 ≤ x_97.toInt ∧ x_97.toInt ≤ 39 := iv_of ex_97 (hAz_37 20 _)
                        clear ex_97
                        refine lv_iload_n hx hb dX11_sign__156 rfl (lv_at hl 3 rfl) ?_
                        refine lv_icmp_ne (tgt := 169) hx hb dX11_sign__157 (by decide) (fun c_98 => ?_) (fun c_98 => ?_)
                        · have dc_98 := c_ne (a := x_97.toInt) (b := x1.toInt) rfl rfl c_98
                          refine lv_iconst (v := 1) hx hb dX11_sign__169 (by decide) ?_
                          refine lv_goto (tgt := 174) hx hb dX11_sign__170 (by decide) ?_
                          refine lv_istore (lv' := [(6, .int 1), (7, .int y_36), (0, .ref g0), (1, .int x1), (2, .int x2), (3, .int x3), (4, .int x4), (5, .int x5)]) hx hb dX11_sign__174 hl (by decide) rfl (fun ls hl => ?_)
                          obtain ⟨x_99, ex_99⟩ : ∃ zq : Int32, y_36 + 1 = zq := ⟨_, rfl⟩
                          have hx_99 : x_99.toInt = y_36.toInt + 1 := (iv_to ex_99).symm.trans (ad_i rfl (by decide) (by omega) (by omega))
                          refine lv_iinc (v := x_99) (lv' := [(7, .int x_99), (6, .int 1), (0, .ref g0), (1, .int x1), (2, .int x2), (3, .int x3), (4, .int x4), (5, .int x5)]) hx hb dX11_sign__176 hl (k := 1) rfl ex_99 (by decide) rfl (fun ls hl => ?_)
                          clear ex_99
                          refine lv_goto (tgt := 135) hx hb dX11_sign__179 (by decide) ?_
                          have kc_100 : (1 : Int32).toInt = 1 := by decide
                          exact ih (n - 1) (by omega) 1 x_99 z_37 fz_38 _ _ ls (by omega) (by decide) (by omega) hVz_37 hAz_37 hRz_37 hP hD hS (by omega) (lv_sub hl [1, 0, 2, 3, 4, 5, 6, 7] rfl)
                        · have dc_98 := c_eq (a := x_97.toInt) (b := x1.toInt) rfl rfl c_98
                          refine lv_aload_n hx hb dX11_sign__160 rfl (lv_at hl 2 rfl) ?_
                          refine lv_iload hx hb dX11_sign__161 (lv_at hl 1 rfl) ?_
                          have hFc : ∀ q, va_A [] H.size q → A q := pu_free hS hA
                          refine va_calli (va_runV (As := [.int y_36]) (rest := []) ⟨hx, hb, hml, hown, hts⟩ (c_X11_goesOn l dC dI H.size g0 pq cp z_37 fz_38 (z_37 41).toNatClampNeg (cn_le (n := 200) (hVz_37 41)) (cn_eq (n := 200) (hVz_37 41)) y_36 (vp_in_iff.mpr (by omega))) (cwV 1 hts gX11_sign__X11_goesOn rfl rfl rfl (by decide +kernel) ⟨(Nat.le_of_ble_eq_true rfl), (Nat.le_of_ble_eq_true rfl)⟩) (pr_V (r := (RX11, TX11, 63)) hP hK hD 0 11 rfl rfl) rfl rfl hl.1 rfl (lv_room (Nat.le_of_ble_eq_true rfl)) dX11_sign__163 ⟨(Nat.le_of_ble_eq_true rfl), (Nat.le_of_ble_eq_true rfl)⟩) hS (fun q _ h => hFc q h) hFc (fun r_102 u t H locs ht hvm w_101 hB hz1 hk1 hS => ?_)
                          have hP := pu_keep hP hk1
                          clear hk1 hz1 hvm hB ht hFc
                          have hb_103 : 0 ≤ r_102.toInt ∧ r_102.toInt ≤ 1 := z1_i w_101
                          refine lv_if_ne (tgt := 173) hx hb dX11_sign__166 (by decide) (fun c_104 => ?_) (fun c_104 => ?_)
                          · have dc_104 := c_ne (a := r_102.toInt) (b := 0) rfl (by decide) c_104
                            refine lv_iconst (v := 0) hx hb dX11_sign__173 (by decide) ?_
                            refine lv_istore (lv' := [(6, .int 0), (7, .int y_36), (0, .ref g0), (1, .int x1), (2, .int x2), (3, .int x3), (4, .int x4), (5, .int x5)]) hx hb dX11_sign__174 hl (by decide) rfl (fun ls hl => ?_)
                            obtain ⟨x_105, ex_105⟩ : ∃ zq : Int32, y_36 + 1 = zq := ⟨_, rfl⟩
                            have hx_105 : x_105.toInt = y_36.toInt + 1 := (iv_to ex_105).symm.trans (ad_i rfl (by decide) (by omega) (by omega))
                            refine lv_iinc (v := x_105) (lv' := [(7, .int x_105), (6, .int 0), (0, .ref g0), (1, .int x1), (2, .int x2), (3, .int x3), (4, .int x4), (5, .int x5)]) hx hb dX11_sign__176 hl (k := 1) rfl ex_105 (by decide) rfl (fun ls hl => ?_)
                            clear ex_105
                            refine lv_goto (tgt := 135) hx hb dX11_sign__179 (by decide) ?_
                            have kc_106 : (0 : Int32).toInt = 0 := by decide
                            exact ih (n - 1) (by omega) 0 x_105 z_37 fz_38 _ _ ls (by omega) (by decide) (by omega) hVz_37 hAz_37 hRz_37 hP hD hS (by omega) (lv_sub hl [1, 0, 2, 3, 4, 5, 6, 7] rfl)
                          · have dc_104 := c_eq (a := r_102.toInt) (b := 0) rfl (by decide) c_104
                            refine lv_iconst (v := 1) hx hb dX11_sign__169 (by decide) ?_
                            refine lv_goto (tgt := 174) hx hb dX11_sign__170 (by decide) ?_
                            refine lv_istore (lv' := [(6, .int 1), (7, .int y_36), (0, .ref g0), (1, .int x1), (2, .int x2), (3, .int x3), (4, .int x4), (5, .int x5)]) hx hb dX11_sign__174 hl (by decide) rfl (fun ls hl => ?_)
                            obtain ⟨x_107, ex_107⟩ : ∃ zq : Int32, y_36 + 1 = zq := ⟨_, rfl⟩
                            have hx_107 : x_107.toInt = y_36.toInt + 1 := (iv_to ex_107).symm.trans (ad_i rfl (by decide) (by omega) (by omega))
                            refine lv_iinc (v := x_107) (lv' := [(7, .int x_107), (6, .int 1), (0, .ref g0), (1, .int x1), (2, .int x2), (3, .int x3), (4, .int x4), (5, .int x5)]) hx hb dX11_sign__176 hl (k := 1) rfl ex_107 (by decide) rfl (fun ls hl => ?_)
                            clear ex_107
                            refine lv_goto (tgt := 135) hx hb dX11_sign__179 (by decide) ?_
                            have kc_108 : (1 : Int32).toInt = 1 := by decide
                            exact ih (n - 1) (by omega) 1 x_107 z_37 fz_38 _ _ ls (by omega) (by decide) (by omega) hVz_37 hAz_37 hRz_37 hP hD hS (by omega) (lv_sub hl [1, 0, 2, 3, 4, 5, 6, 7] rfl)
                have kc_109 : (0 : Int32).toInt = 0 := by decide
                exact cut_34 61 y_30 0 z_31 fz_32 _ _ ls (by omega) (by omega) (by decide) hVz_31 hAz_31 hRz_31 hP hD hS (by omega) (lv_sub hl [1, 0, 2, 3, 4, 5, 6, 7] rfl)
              refine lv_aload_n hx hb dX11_sign__83 rfl (lv_at hl 0 rfl) ?_
              refine va_get (D := (dC, dI)) (ci := 11) (v := .ref (pq 9)) (C := RX11) (T := TX11) (N := 63) hx hb hts in_wsX11_sign__X11 hown hK hP 0 rfl rfl 9 (by decide) (hts (.fieldLink RX11 37 "ShipOfficeModel" "endedOn" "[I") (by decide +kernel)) (fun _ h9 => h9) rfl dX11_sign__84 ?_
              refine lv_iload_n hx hb dX11_sign__87 rfl (lv_at hl 2 rfl) ?_
              refine va_iald hx hb hK hP 10 9 rfl rfl (vp_in_iff.mpr (by omega)) dX11_sign__88 ?_
              refine lv_topi (fun x_110 ex_110 => ?_)
              clear ex_110
              refine lv_if_ge (tgt := 129) hx hb dX11_sign__89 (by decide) (fun c_111 => ?_) (fun c_111 => ?_)
              · have dc_111 := c_le (a := 0) (b := x_110.toInt) (by decide) rfl c_111
                refine lv_iconst (v := 0) hx hb dX11_sign__129 (by decide) ?_
                refine lv_istore (lv' := [(6, .int 0), (0, .ref g0), (1, .int x1), (2, .int x2), (3, .int x3), (4, .int x4), (5, .int x5)]) hx hb dX11_sign__130 hl (by decide) rfl (fun ls hl => ?_)
                have kc_112 : (0 : Int32).toInt = 0 := by decide
                exact cut_29 0 z_5 fz_6 _ _ ls (by decide) hVz_5 hAz_5 hRz_5 hP hD hS (by omega) (lv_sub hl [0, 1, 2, 3, 4, 5, 6] rfl)
              · have dc_111 := c_nle (a := 0) (b := x_110.toInt) (by decide) rfl c_111
                refine lv_aload_n hx hb dX11_sign__92 rfl (lv_at hl 0 rfl) ?_
                refine lv_iconst (v := 0) hx hb dX11_sign__93 (by decide) ?_
                refine lv_iload_n hx hb dX11_sign__94 rfl (lv_at hl 2 rfl) ?_
                have hFc : ∀ q, va_A [] H.size q → A q := pu_free hS hA
                refine va_calli (va_runV (As := [.int 0, .int x2]) (rest := []) ⟨hx, hb, hml, hown, hts⟩ (c_X11_wasTold l dC dI H.size g0 pq cp z_5 fz_6 (z_5 41).toNatClampNeg (cn_le (n := 200) (hVz_5 41)) (cn_eq (n := 200) (hVz_5 41)) 0 x2) (cwV 2 hts gX11_sign__X11_wasTold rfl rfl rfl (by decide +kernel) ⟨(Nat.le_of_ble_eq_true rfl), (Nat.le_of_ble_eq_true rfl)⟩) (pr_V (r := (RX11, TX11, 63)) hP hK hD 0 11 rfl rfl) rfl rfl hl.1 rfl (lv_room (Nat.le_of_ble_eq_true rfl)) dX11_sign__95 ⟨(Nat.le_of_ble_eq_true rfl), (Nat.le_of_ble_eq_true rfl)⟩) hS (fun q _ h => hFc q h) hFc (fun r_114 u t H locs ht hvm w_113 hB hz1 hk1 hS => ?_)
                have hP := pu_keep hP hk1
                clear hk1 hz1 hvm hB ht hFc
                have hb_115 : 0 ≤ r_114.toInt ∧ r_114.toInt ≤ 1 := z1_i w_113
                refine lv_if_ne (tgt := 129) hx hb dX11_sign__98 (by decide) (fun c_116 => ?_) (fun c_116 => ?_)
                · have dc_116 := c_ne (a := r_114.toInt) (b := 0) rfl (by decide) c_116
                  refine lv_iconst (v := 0) hx hb dX11_sign__129 (by decide) ?_
                  refine lv_istore (lv' := [(6, .int 0), (0, .ref g0), (1, .int x1), (2, .int x2), (3, .int x3), (4, .int x4), (5, .int x5)]) hx hb dX11_sign__130 hl (by decide) rfl (fun ls hl => ?_)
                  have kc_117 : (0 : Int32).toInt = 0 := by decide
                  exact cut_29 0 z_5 fz_6 _ _ ls (by decide) hVz_5 hAz_5 hRz_5 hP hD hS (by omega) (lv_sub hl [0, 1, 2, 3, 4, 5, 6] rfl)
                · have dc_116 := c_eq (a := r_114.toInt) (b := 0) rfl (by decide) c_116
                  refine lv_aload_n hx hb dX11_sign__101 rfl (lv_at hl 0 rfl) ?_
                  refine lv_iconst (v := 2) hx hb dX11_sign__102 (by decide) ?_
                  refine lv_iload_n hx hb dX11_sign__103 rfl (lv_at hl 2 rfl) ?_
                  have hFc : ∀ q, va_A [] H.size q → A q := pu_free hS hA
                  refine va_calli (va_runV (As := [.int 2, .int x2]) (rest := []) ⟨hx, hb, hml, hown, hts⟩ (c_X11_wasTold l dC dI H.size g0 pq cp z_5 fz_6 (z_5 41).toNatClampNeg (cn_le (n := 200) (hVz_5 41)) (cn_eq (n := 200) (hVz_5 41)) 2 x2) (cwV 2 hts gX11_sign__X11_wasTold rfl rfl rfl (by decide +kernel) ⟨(Nat.le_of_ble_eq_true rfl), (Nat.le_of_ble_eq_true rfl)⟩) (pr_V (r := (RX11, TX11, 63)) hP hK hD 0 11 rfl rfl) rfl rfl hl.1 rfl (lv_room (Nat.le_of_ble_eq_true rfl)) dX11_sign__104 ⟨(Nat.le_of_ble_eq_true rfl), (Nat.le_of_ble_eq_true rfl)⟩) hS (fun q _ h => hFc q h) hFc (fun r_119 u t H locs ht hvm w_118 hB hz1 hk1 hS => ?_)
                  have hP := pu_keep hP hk1
                  clear hk1 hz1 hvm hB ht hFc
                  have hb_120 : 0 ≤ r_119.toInt ∧ r_119.toInt ≤ 1 := z1_i w_118
                  refine lv_if_ne (tgt := 129) hx hb dX11_sign__107 (by decide) (fun c_121 => ?_) (fun c_121 => ?_)
                  · have dc_121 := c_ne (a := r_119.toInt) (b := 0) rfl (by decide) c_121
                    refine lv_iconst (v := 0) hx hb dX11_sign__129 (by decide) ?_
                    refine lv_istore (lv' := [(6, .int 0), (0, .ref g0), (1, .int x1), (2, .int x2), (3, .int x3), (4, .int x4), (5, .int x5)]) hx hb dX11_sign__130 hl (by decide) rfl (fun ls hl => ?_)
                    have kc_122 : (0 : Int32).toInt = 0 := by decide
                    exact cut_29 0 z_5 fz_6 _ _ ls (by decide) hVz_5 hAz_5 hRz_5 hP hD hS (by omega) (lv_sub hl [0, 1, 2, 3, 4, 5, 6] rfl)
                  · have dc_121 := c_eq (a := r_119.toInt) (b := 0) rfl (by decide) c_121
                    refine lv_iload hx hb dX11_sign__110 (lv_at hl 5 rfl) ?_
                    refine lv_if_lt (tgt := 125) hx hb dX11_sign__112 (by decide) (fun c_123 => ?_) (fun c_123 => ?_)
                    · have dc_123 := c_lt (a := x5.toInt) (b := 0) rfl (by decide) c_123
                      refine lv_iconst (v := 1) hx hb dX11_sign__125 (by decide) ?_
                      refine lv_goto (tgt := 130) hx hb dX11_sign__126 (by decide) ?_
                      refine lv_istore (lv' := [(6, .int 1), (0, .ref g0), (1, .int x1), (2, .int x2), (3, .int x3), (4, .int x4), (5, .int x5)]) hx hb dX11_sign__130 hl (by decide) rfl (fun ls hl => ?_)
                      have kc_124 : (1 : Int32).toInt = 1 := by decide
                      exact cut_29 1 z_5 fz_6 _ _ ls (by decide) hVz_5 hAz_5 hRz_5 hP hD hS (by omega) (lv_sub hl [0, 1, 2, 3, 4, 5, 6] rfl)
                    · have dc_123 := c_nlt (a := x5.toInt) (b := 0) rfl (by decide) c_123
                      refine lv_aload_n hx hb dX11_sign__115 rfl (lv_at hl 0 rfl) ?_
                      refine va_get (D := (dC, dI)) (ci := 11) (v := .ref (pq 26)) (C := RX11) (T := TX11) (N := 63) hx hb hts in_wsX11_sign__X11 hown hK hP 0 rfl rfl 26 (by decide) (hts (.fieldLink RX11 88 "ShipOfficeModel" "offOn" "[I") (by decide +kernel)) (fun _ h9 => h9) rfl dX11_sign__116 ?_
                      refine lv_iload hx hb dX11_sign__119 (lv_at hl 5 rfl) ?_
                      refine va_iald hx hb hK hP 27 26 rfl rfl (vp_in_iff.mpr (by omega)) dX11_sign__121 ?_
                      refine lv_topi (fun x_125 ex_125 => ?_)
                      clear ex_125
                      refine lv_if_lt (tgt := 129) hx hb dX11_sign__122 (by decide) (fun c_126 => ?_) (fun c_126 => ?_)
                      · have dc_126 := c_lt (a := x_125.toInt) (b := 0) rfl (by decide) c_126
                        refine lv_iconst (v := 0) hx hb dX11_sign__129 (by decide) ?_
                        refine lv_istore (lv' := [(6, .int 0), (0, .ref g0), (1, .int x1), (2, .int x2), (3, .int x3), (4, .int x4), (5, .int x5)]) hx hb dX11_sign__130 hl (by decide) rfl (fun ls hl => ?_)
                        have kc_127 : (0 : Int32).toInt = 0 := by decide
                        exact cut_29 0 z_5 fz_6 _ _ ls (by decide) hVz_5 hAz_5 hRz_5 hP hD hS (by omega) (lv_sub hl [0, 1, 2, 3, 4, 5, 6] rfl)
                      · have dc_126 := c_nlt (a := x_125.toInt) (b := 0) rfl (by decide) c_126
                        refine lv_iconst (v := 1) hx hb dX11_sign__125 (by decide) ?_
                        refine lv_goto (tgt := 130) hx hb dX11_sign__126 (by decide) ?_
                        refine lv_istore (lv' := [(6, .int 1), (0, .ref g0), (1, .int x1), (2, .int x2), (3, .int x3), (4, .int x4), (5, .int x5)]) hx hb dX11_sign__130 hl (by decide) rfl (fun ls hl => ?_)
                        have kc_128 : (1 : Int32).toInt = 1 := by decide
                        exact cut_29 1 z_5 fz_6 _ _ ls (by decide) hVz_5 hAz_5 hRz_5 hP hD hS (by omega) (lv_sub hl [0, 1, 2, 3, 4, 5, 6] rfl)
            · have dc_28 := c_eq (a := x_27.toInt) (b := 60) rfl (by decide) c_28
              refine lv_aload_n hx hb dX11_sign__76 rfl (lv_at hl 0 rfl) ?_
              refine lv_bipush (v := (-6)) hx hb dX11_sign__77 (by decide) ?_
              have hFc := va_free (wc := (mW g0 pq cp z_5 fz_6)) hD hS hA (List.range 48) rfl
              refine va_calli (va_runV (As := [.int (-6)]) (rest := []) ⟨hx, hb, hml, hown, hts⟩ (c_X11_refuse l dC dI H.size g0 pq cp z_5 fz_6 (-6) (by unfold vp_in; decide)) (cwV 1 hts gX11_sign__X11_refuse rfl rfl rfl (by decide +kernel) ⟨(Nat.le_of_ble_eq_true rfl), (Nat.le_of_ble_eq_true rfl)⟩) (pr_V (r := (RX11, TX11, 63)) hP hK hD 0 11 rfl rfl) rfl rfl hl.1 rfl (lv_room (Nat.le_of_ble_eq_true rfl)) dX11_sign__79 ⟨(Nat.le_of_ble_eq_true rfl), (Nat.le_of_ble_eq_true rfl)⟩) hS (fun q _ h => hFc q h) hFc (fun r_130 u t H locs ht hvm w_129 hB hz1 hk1 hS => ?_)
              obtain ⟨v_131, fa_132⟩ := u
              obtain ⟨hP1, hK1, hD1⟩ := hB
              rw [ht] at hP1
              have hP : va_P (dC, dI) vwCl (mW g0 pq cp v_131 fa_132) H := hP1
              have hD : va_D A (mW g0 pq cp v_131 fa_132) := hD1.weaken (fun _ _ _ h => hFc _ h)
              clear hP1 hK1 hD1 hk1 hz1 hvm ht hFc
              obtain ⟨rfl, w_129⟩ := w_129
              have hVv_131 : mV v_131 := sm0_V w_129 hVz_5
              have hAv_131 : mA fa_132 := sm0_A w_129 hAz_5
              have g_133 : (v_131 43).toInt = (z_5 43).toInt := congrArg Int32.toInt (congrFun w_129.1 43)
              have hRv_131 : v_131 38 = v 38 := (congrFun w_129.1 38).trans hRz_5
              exact W.iret (v := (-6)) hx hb hr (fun t ht hW => ⟨⟨(-6), (v_131, fa_132), rfl, ⟨hVv_131, hAv_131, hRv_131⟩, ⟨by rw [ht]; exact hP, va_K.moved hW.alike hK, hD⟩⟩, hS.F ht⟩) hS.2.2 dX11_sign__82
      · have dc_14 := c_nle (a := 0) (b := x4.toInt) (by decide) rfl c_14
        refine lv_aload_n hx hb dX11_sign__47 rfl (lv_at hl 0 rfl) ?_
        refine lv_bipush (v := (-4)) hx hb dX11_sign__48 (by decide) ?_
        have hFc := va_free (wc := (mW g0 pq cp z_5 fz_6)) hD hS hA (List.range 48) rfl
        refine va_calli (va_runV (As := [.int (-4)]) (rest := []) ⟨hx, hb, hml, hown, hts⟩ (c_X11_refuse l dC dI H.size g0 pq cp z_5 fz_6 (-4) (by unfold vp_in; decide)) (cwV 1 hts gX11_sign__X11_refuse rfl rfl rfl (by decide +kernel) ⟨(Nat.le_of_ble_eq_true rfl), (Nat.le_of_ble_eq_true rfl)⟩) (pr_V (r := (RX11, TX11, 63)) hP hK hD 0 11 rfl rfl) rfl rfl hl.1 rfl (lv_room (Nat.le_of_ble_eq_true rfl)) dX11_sign__50 ⟨(Nat.le_of_ble_eq_true rfl), (Nat.le_of_ble_eq_true rfl)⟩) hS (fun q _ h => hFc q h) hFc (fun r_135 u t H locs ht hvm w_134 hB hz1 hk1 hS => ?_)
        obtain ⟨v_136, fa_137⟩ := u
        obtain ⟨hP1, hK1, hD1⟩ := hB
        rw [ht] at hP1
        have hP : va_P (dC, dI) vwCl (mW g0 pq cp v_136 fa_137) H := hP1
        have hD : va_D A (mW g0 pq cp v_136 fa_137) := hD1.weaken (fun _ _ _ h => hFc _ h)
        clear hP1 hK1 hD1 hk1 hz1 hvm ht hFc
        obtain ⟨rfl, w_134⟩ := w_134
        have hVv_136 : mV v_136 := sm0_V w_134 hVz_5
        have hAv_136 : mA fa_137 := sm0_A w_134 hAz_5
        have g_138 : (v_136 43).toInt = (z_5 43).toInt := congrArg Int32.toInt (congrFun w_134.1 43)
        have hRv_136 : v_136 38 = v 38 := (congrFun w_134.1 38).trans hRz_5
        exact W.iret (v := (-4)) hx hb hr (fun t ht hW => ⟨⟨(-4), (v_136, fa_137), rfl, ⟨hVv_136, hAv_136, hRv_136⟩, ⟨by rw [ht]; exact hP, va_K.moved hW.alike hK, hD⟩⟩, hS.F ht⟩) hS.2.2 dX11_sign__53
  refine lv_aload_n hx hb dX11_sign__0 rfl (lv_at hl 0 rfl) ?_
  refine lv_iload_n hx hb dX11_sign__1 rfl (lv_at hl 1 rfl) ?_
  have hFc : ∀ q, va_A [] s.heap.size q → A q := pu_free hS hA
  refine va_calli (va_runV (As := [.int x1]) (rest := []) ⟨hx, hb, hml, hown, hts⟩ (c_X11_isMan l dC dI s.heap.size g0 pq cp v fa x1) (cwV 1 hts gX11_sign__X11_isMan rfl rfl rfl (by decide +kernel) ⟨(Nat.le_of_ble_eq_true rfl), (Nat.le_of_ble_eq_true rfl)⟩) (pr_V (r := (RX11, TX11, 63)) hP hK hD 0 11 rfl rfl) rfl rfl hl.1 rfl (lv_room (Nat.le_of_ble_eq_true rfl)) dX11_sign__2 ⟨(Nat.le_of_ble_eq_true rfl), (Nat.le_of_ble_eq_true rfl)⟩) hS (fun q _ h => hFc q h) hFc (fun r_140 u t H locs ht hvm w_139 hB hz1 hk1 hS => ?_)
  have hP := pu_keep hP hk1
  clear hk1 hz1 hvm hB ht hFc
  have hbr_140 : 0 ≤ r_140.toInt ∧ r_140.toInt ≤ 1 := iv_of w_139 (isI_i _ _)
  refine lv_if_eq (tgt := 31) hx hb dX11_sign__5 (by decide) (fun c_141 => ?_) (fun c_141 => ?_)
  · have dc_141 := c_eq (a := r_140.toInt) (b := 0) rfl (by decide) c_141
    refine lv_aload_n hx hb dX11_sign__31 rfl (lv_at hl 0 rfl) ?_
    refine lv_iconst (v := (-1)) hx hb dX11_sign__32 (by decide) ?_
    have hFc := va_free (wc := (mW g0 pq cp v fa)) hD hS hA (List.range 48) rfl
    refine va_calli (va_runV (As := [.int (-1)]) (rest := []) ⟨hx, hb, hml, hown, hts⟩ (c_X11_refuse l dC dI H.size g0 pq cp v fa (-1) (by unfold vp_in; decide)) (cwV 1 hts gX11_sign__X11_refuse rfl rfl rfl (by decide +kernel) ⟨(Nat.le_of_ble_eq_true rfl), (Nat.le_of_ble_eq_true rfl)⟩) (pr_V (r := (RX11, TX11, 63)) hP hK hD 0 11 rfl rfl) rfl rfl hl.1 rfl (lv_room (Nat.le_of_ble_eq_true rfl)) dX11_sign__33 ⟨(Nat.le_of_ble_eq_true rfl), (Nat.le_of_ble_eq_true rfl)⟩) hS (fun q _ h => hFc q h) hFc (fun r_143 u t H locs ht hvm w_142 hB hz1 hk1 hS => ?_)
    obtain ⟨v_144, fa_145⟩ := u
    obtain ⟨hP1, hK1, hD1⟩ := hB
    rw [ht] at hP1
    have hP : va_P (dC, dI) vwCl (mW g0 pq cp v_144 fa_145) H := hP1
    have hD : va_D A (mW g0 pq cp v_144 fa_145) := hD1.weaken (fun _ _ _ h => hFc _ h)
    clear hP1 hK1 hD1 hk1 hz1 hvm ht hFc
    obtain ⟨rfl, w_142⟩ := w_142
    have hVv_144 : mV v_144 := sm0_V w_142 gV
    have hAv_144 : mA fa_145 := sm0_A w_142 gA
    have g_146 : (v_144 43).toInt = (v 43).toInt := congrArg Int32.toInt (congrFun w_142.1 43)
    have hRv_144 : v_144 38 = v 38 := (congrFun w_142.1 38).trans rfl
    exact W.iret (v := (-1)) hx hb hr (fun t ht hW => ⟨⟨(-1), (v_144, fa_145), rfl, ⟨hVv_144, hAv_144, hRv_144⟩, ⟨by rw [ht]; exact hP, va_K.moved hW.alike hK, hD⟩⟩, hS.F ht⟩) hS.2.2 dX11_sign__36
  · have dc_141 := c_ne (a := r_140.toInt) (b := 0) rfl (by decide) c_141
    have hi_147 := isI_t w_139 (fun q => c_141 (Int32.toInt_inj.mp q))
    have khi_147 : (v 39).toInt ≤ 40 := (gV 39).2
    refine lv_aload_n hx hb dX11_sign__8 rfl (lv_at hl 0 rfl) ?_
    refine lv_iload_n hx hb dX11_sign__9 rfl (lv_at hl 2 rfl) ?_
    have hFc : ∀ q, va_A [] H.size q → A q := pu_free hS hA
    refine va_calli (va_runV (As := [.int x2]) (rest := []) ⟨hx, hb, hml, hown, hts⟩ (c_X11_isVoyage l dC dI H.size g0 pq cp v fa x2) (cwV 1 hts gX11_sign__X11_isVoyage rfl rfl rfl (by decide +kernel) ⟨(Nat.le_of_ble_eq_true rfl), (Nat.le_of_ble_eq_true rfl)⟩) (pr_V (r := (RX11, TX11, 63)) hP hK hD 0 11 rfl rfl) rfl rfl hl.1 rfl (lv_room (Nat.le_of_ble_eq_true rfl)) dX11_sign__10 ⟨(Nat.le_of_ble_eq_true rfl), (Nat.le_of_ble_eq_true rfl)⟩) hS (fun q _ h => hFc q h) hFc (fun r_149 u t H locs ht hvm w_148 hB hz1 hk1 hS => ?_)
    have hP := pu_keep hP hk1
    clear hk1 hz1 hvm hB ht hFc
    have hbr_149 : 0 ≤ r_149.toInt ∧ r_149.toInt ≤ 1 := iv_of w_148 (isI_i _ _)
    refine lv_if_eq (tgt := 31) hx hb dX11_sign__13 (by decide) (fun c_150 => ?_) (fun c_150 => ?_)
    · have dc_150 := c_eq (a := r_149.toInt) (b := 0) rfl (by decide) c_150
      refine lv_aload_n hx hb dX11_sign__31 rfl (lv_at hl 0 rfl) ?_
      refine lv_iconst (v := (-1)) hx hb dX11_sign__32 (by decide) ?_
      have hFc := va_free (wc := (mW g0 pq cp v fa)) hD hS hA (List.range 48) rfl
      refine va_calli (va_runV (As := [.int (-1)]) (rest := []) ⟨hx, hb, hml, hown, hts⟩ (c_X11_refuse l dC dI H.size g0 pq cp v fa (-1) (by unfold vp_in; decide)) (cwV 1 hts gX11_sign__X11_refuse rfl rfl rfl (by decide +kernel) ⟨(Nat.le_of_ble_eq_true rfl), (Nat.le_of_ble_eq_true rfl)⟩) (pr_V (r := (RX11, TX11, 63)) hP hK hD 0 11 rfl rfl) rfl rfl hl.1 rfl (lv_room (Nat.le_of_ble_eq_true rfl)) dX11_sign__33 ⟨(Nat.le_of_ble_eq_true rfl), (Nat.le_of_ble_eq_true rfl)⟩) hS (fun q _ h => hFc q h) hFc (fun r_152 u t H locs ht hvm w_151 hB hz1 hk1 hS => ?_)
      obtain ⟨v_153, fa_154⟩ := u
      obtain ⟨hP1, hK1, hD1⟩ := hB
      rw [ht] at hP1
      have hP : va_P (dC, dI) vwCl (mW g0 pq cp v_153 fa_154) H := hP1
      have hD : va_D A (mW g0 pq cp v_153 fa_154) := hD1.weaken (fun _ _ _ h => hFc _ h)
      clear hP1 hK1 hD1 hk1 hz1 hvm ht hFc
      obtain ⟨rfl, w_151⟩ := w_151
      have hVv_153 : mV v_153 := sm0_V w_151 gV
      have hAv_153 : mA fa_154 := sm0_A w_151 gA
      have g_155 : (v_153 43).toInt = (v 43).toInt := congrArg Int32.toInt (congrFun w_151.1 43)
      have hRv_153 : v_153 38 = v 38 := (congrFun w_151.1 38).trans rfl
      exact W.iret (v := (-1)) hx hb hr (fun t ht hW => ⟨⟨(-1), (v_153, fa_154), rfl, ⟨hVv_153, hAv_153, hRv_153⟩, ⟨by rw [ht]; exact hP, va_K.moved hW.alike hK, hD⟩⟩, hS.F ht⟩) hS.2.2 dX11_sign__36
    · have dc_150 := c_ne (a := r_149.toInt) (b := 0) rfl (by decide) c_150
      have hi_156 := isI_t w_148 (fun q => c_150 (Int32.toInt_inj.mp q))
      have khi_156 : (v 40).toInt ≤ 20 := (gV 40).2
      refine lv_iload hx hb dX11_sign__16 (lv_at hl 5 rfl) ?_
      refine lv_iconst (v := (-1)) hx hb dX11_sign__18 (by decide) ?_
      refine lv_icmp_eq (tgt := 37) hx hb dX11_sign__19 (by decide) (fun c_157 => ?_) (fun c_157 => ?_)
      · have dc_157 := c_eq (a := x5.toInt) (b := (-1)) rfl (by decide) c_157
        exact cut_1  v fa _ _ ls (by omega) (by omega) (by omega) gV gA rfl hP hD hS (by omega) (lv_sub hl [0, 1, 2, 3, 4, 5] rfl)
      · have dc_157 := c_ne (a := x5.toInt) (b := (-1)) rfl (by decide) c_157
        refine lv_aload_n hx hb dX11_sign__22 rfl (lv_at hl 0 rfl) ?_
        refine lv_iload hx hb dX11_sign__23 (lv_at hl 5 rfl) ?_
        have hFc : ∀ q, va_A [] H.size q → A q := pu_free hS hA
        refine va_calli (va_runV (As := [.int x5]) (rest := []) ⟨hx, hb, hml, hown, hts⟩ (c_X11_isAgreement l dC dI H.size g0 pq cp v fa x5) (cwV 1 hts gX11_sign__X11_isAgreement rfl rfl rfl (by decide +kernel) ⟨(Nat.le_of_ble_eq_true rfl), (Nat.le_of_ble_eq_true rfl)⟩) (pr_V (r := (RX11, TX11, 63)) hP hK hD 0 11 rfl rfl) rfl rfl hl.1 rfl (lv_room (Nat.le_of_ble_eq_true rfl)) dX11_sign__25 ⟨(Nat.le_of_ble_eq_true rfl), (Nat.le_of_ble_eq_true rfl)⟩) hS (fun q _ h => hFc q h) hFc (fun r_159 u t H locs ht hvm w_158 hB hz1 hk1 hS => ?_)
        have hP := pu_keep hP hk1
        clear hk1 hz1 hvm hB ht hFc
        have hbr_159 : 0 ≤ r_159.toInt ∧ r_159.toInt ≤ 1 := iv_of w_158 (isI_i _ _)
        refine lv_if_ne (tgt := 37) hx hb dX11_sign__28 (by decide) (fun c_160 => ?_) (fun c_160 => ?_)
        · have dc_160 := c_ne (a := r_159.toInt) (b := 0) rfl (by decide) c_160
          have hi_161 := isI_t w_158 (fun q => c_160 (Int32.toInt_inj.mp q))
          have khi_161 : (v 43).toInt ≤ 60 := (gV 43).2
          exact cut_1  v fa _ _ ls (by omega) (by omega) (by omega) gV gA rfl hP hD hS (by omega) (lv_sub hl [0, 1, 2, 3, 4, 5] rfl)
        · have dc_160 := c_eq (a := r_159.toInt) (b := 0) rfl (by decide) c_160
          refine lv_aload_n hx hb dX11_sign__31 rfl (lv_at hl 0 rfl) ?_
          refine lv_iconst (v := (-1)) hx hb dX11_sign__32 (by decide) ?_
          have hFc := va_free (wc := (mW g0 pq cp v fa)) hD hS hA (List.range 48) rfl
          refine va_calli (va_runV (As := [.int (-1)]) (rest := []) ⟨hx, hb, hml, hown, hts⟩ (c_X11_refuse l dC dI H.size g0 pq cp v fa (-1) (by unfold vp_in; decide)) (cwV 1 hts gX11_sign__X11_refuse rfl rfl rfl (by decide +kernel) ⟨(Nat.le_of_ble_eq_true rfl), (Nat.le_of_ble_eq_true rfl)⟩) (pr_V (r := (RX11, TX11, 63)) hP hK hD 0 11 rfl rfl) rfl rfl hl.1 rfl (lv_room (Nat.le_of_ble_eq_true rfl)) dX11_sign__33 ⟨(Nat.le_of_ble_eq_true rfl), (Nat.le_of_ble_eq_true rfl)⟩) hS (fun q _ h => hFc q h) hFc (fun r_163 u t H locs ht hvm w_162 hB hz1 hk1 hS => ?_)
          obtain ⟨v_164, fa_165⟩ := u
          obtain ⟨hP1, hK1, hD1⟩ := hB
          rw [ht] at hP1
          have hP : va_P (dC, dI) vwCl (mW g0 pq cp v_164 fa_165) H := hP1
          have hD : va_D A (mW g0 pq cp v_164 fa_165) := hD1.weaken (fun _ _ _ h => hFc _ h)
          clear hP1 hK1 hD1 hk1 hz1 hvm ht hFc
          obtain ⟨rfl, w_162⟩ := w_162
          have hVv_164 : mV v_164 := sm0_V w_162 gV
          have hAv_164 : mA fa_165 := sm0_A w_162 gA
          have g_166 : (v_164 43).toInt = (v 43).toInt := congrArg Int32.toInt (congrFun w_162.1 43)
          have hRv_164 : v_164 38 = v 38 := (congrFun w_162.1 38).trans rfl
          exact W.iret (v := (-1)) hx hb hr (fun t ht hW => ⟨⟨(-1), (v_164, fa_165), rfl, ⟨hVv_164, hAv_164, hRv_164⟩, ⟨by rw [ht]; exact hP, va_K.moved hW.alike hK, hD⟩⟩, hS.F ht⟩) hS.2.2 dX11_sign__36
