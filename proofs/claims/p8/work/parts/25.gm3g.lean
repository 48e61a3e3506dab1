abbrev cX11_off : ByteArray := prog_13_method_50_code
def yX11_off : MethodName := ⟨RX11, "off", "(II)I"⟩
abbrev cX11_state : ByteArray := prog_13_method_52_code
def yX11_state : MethodName := ⟨RX11, "state", "(III)I"⟩
abbrev cX11_earns : ByteArray := prog_13_method_53_code
def yX11_earns : MethodName := ⟨RX11, "earns", "(III)I"⟩
abbrev cX11_advance : ByteArray := prog_13_method_54_code
def yX11_advance : MethodName := ⟨RX11, "advance", "(II)I"⟩
abbrev cX11_sold : ByteArray := prog_13_method_55_code
def yX11_sold : MethodName := ⟨RX11, "sold", "(II)I"⟩
abbrev cX11_allot : ByteArray := prog_13_method_56_code
def yX11_allot : MethodName := ⟨RX11, "allot", "(II)I"⟩
abbrev cX11_aboard : ByteArray := prog_13_method_66_code
def yX11_aboard : MethodName := ⟨RX11, "aboard", "(III)I"⟩
theorem gw_X11_earnsOf : wsX11_earnsOf.all goodWord = true := by decide +kernel
def wsX11_off_r1 : List Cond := [Cond.fieldLink RX11 88 "ShipOfficeModel" "offOn" "[I", Cond.fieldLink RX11 171 "ShipOfficeModel" "now" "I", Cond.methodLink RX11 199 yX11_isAgreement, Cond.instanceMethod yX11_isAgreement, Cond.selects RX11 yX11_isAgreement yX11_isAgreement, Cond.initialized RX11, Cond.code yX11_isAgreement cX11_isAgreement 2 (some .boolean), Cond.fieldLink RX11 168 "ShipOfficeModel" "agreements" "I", Cond.methodLink RX11 161 yX11_isIn, Cond.static yX11_isIn, Cond.code yX11_isIn cX11_isIn 2 (some .boolean), Cond.methodLink RX11 174 yX11_isPort, Cond.static yX11_isPort, Cond.code yX11_isPort cX11_isPort 1 (some .boolean), Cond.methodLink RX11 153 yX11_refuse, Cond.instanceMethod yX11_refuse, Cond.selects RX11 yX11_refuse yX11_refuse, Cond.code yX11_refuse cX11_refuse 2 (some .int), Cond.fieldLink RX11 7 "ShipOfficeModel" "refusals" "[I", Cond.methodLink RX11 188 yX11_goesOn, Cond.instanceMethod yX11_goesOn, Cond.selects RX11 yX11_goesOn yX11_goesOn, Cond.code yX11_goesOn cX11_goesOn 2 (some .boolean), Cond.fieldLink RX11 73 "ShipOfficeModel" "voyage" "[I"]
def wsX11_off_r2 : List Cond := [Cond.methodLink RX11 182 yX11_wasTold, Cond.instanceMethod yX11_wasTold, Cond.selects RX11 yX11_wasTold yX11_wasTold, Cond.code yX11_wasTold cX11_wasTold 4 (some .boolean), Cond.fieldLink RX11 179 "ShipOfficeModel" "happened" "I", Cond.fieldLink RX11 40 "ShipOfficeModel" "what" "[I", Cond.fieldLink RX11 43 "ShipOfficeModel" "whose" "[I"]
def wsX11_off : List Cond := .code yX11_off cX11_off 3 (some .int) :: ((wsX11_off_r1 ++ wsX11_off_r2) ++ wsX110)
theorem il_X11_off_1 : ∀ w ∈ wsX11_off_r1, w ∈ wsX11_off := fun w h => (List.mem_cons_of_mem _ (List.mem_append_left _ (List.mem_append_left _ h)))
theorem il_X11_off_2 : ∀ w ∈ wsX11_off_r2, w ∈ wsX11_off := fun w h => (List.mem_cons_of_mem _ (List.mem_append_left _ (List.mem_append_right _ h)))
theorem il_X11_off_3 : ∀ w ∈ wsX110, w ∈ wsX11_off := fun w h => (List.mem_cons_of_mem _ (List.mem_append_right _ h))
theorem iw_X11_off_1 : Cond.fieldLink RX11 88 "ShipOfficeModel" "offOn" "[I" ∈ wsX11_off := (mmI il_X11_off_1 0 rfl)
theorem iw_X11_off_2 : Cond.fieldLink RX11 171 "ShipOfficeModel" "now" "I" ∈ wsX11_off := (mmI il_X11_off_1 1 rfl)
theorem gw_X11_wrongTimes : wsX11_wrongTimes.all goodWord = true := by decide +kernel
def wsX11_state_r1 : List Cond := [Cond.methodLink RX11 199 yX11_isAgreement, Cond.instanceMethod yX11_isAgreement, Cond.selects RX11 yX11_isAgreement yX11_isAgreement, Cond.initialized RX11, Cond.code yX11_isAgreement cX11_isAgreement 2 (some .boolean), Cond.fieldLink RX11 168 "ShipOfficeModel" "agreements" "I", Cond.methodLink RX11 161 yX11_isIn, Cond.static yX11_isIn, Cond.code yX11_isIn cX11_isIn 2 (some .boolean), Cond.methodLink RX11 300 yX11_wrongTimes, Cond.instanceMethod yX11_wrongTimes, Cond.selects RX11 yX11_wrongTimes yX11_wrongTimes, Cond.code yX11_wrongTimes cX11_wrongTimes 3 (some .int), Cond.fieldLink RX11 171 "ShipOfficeModel" "now" "I", Cond.methodLink RX11 153 yX11_refuse, Cond.instanceMethod yX11_refuse, Cond.selects RX11 yX11_refuse yX11_refuse, Cond.code yX11_refuse cX11_refuse 2 (some .int), Cond.fieldLink RX11 7 "ShipOfficeModel" "refusals" "[I", Cond.methodLink RX11 266 yX11_stateOf, Cond.instanceMethod yX11_stateOf, Cond.selects RX11 yX11_stateOf yX11_stateOf, Cond.code yX11_stateOf cX11_stateOf 5 (some .int), Cond.fieldLink RX11 85 "ShipOfficeModel" "signed" "[I"]
def wsX11_state_r2 : List Cond := [Cond.fieldLink RX11 88 "ShipOfficeModel" "offOn" "[I", Cond.fieldLink RX11 40 "ShipOfficeModel" "what" "[I", Cond.fieldLink RX11 73 "ShipOfficeModel" "voyage" "[I", Cond.methodLink RX11 288 yX11_isDead, Cond.instanceMethod yX11_isDead, Cond.selects RX11 yX11_isDead yX11_isDead, Cond.code yX11_isDead cX11_isDead 5 (some .boolean), Cond.fieldLink RX11 179 "ShipOfficeModel" "happened" "I", Cond.fieldLink RX11 43 "ShipOfficeModel" "whose" "[I", Cond.fieldLink RX11 49 "ShipOfficeModel" "known" "[I", Cond.fieldLink RX11 46 "ShipOfficeModel" "day" "[I", Cond.methodLink RX11 291 yX11_whereOf, Cond.instanceMethod yX11_whereOf, Cond.selects RX11 yX11_whereOf yX11_whereOf, Cond.code yX11_whereOf cX11_whereOf 6 (some .int), Cond.methodLink RX11 281 yX11_hasSailed, Cond.instanceMethod yX11_hasSailed, Cond.selects RX11 yX11_hasSailed yX11_hasSailed, Cond.code yX11_hasSailed cX11_hasSailed 5 (some .boolean), Cond.methodLink RX11 278 yX11_sailedOn, Cond.instanceMethod yX11_sailedOn, Cond.selects RX11 yX11_sailedOn yX11_sailedOn, Cond.code yX11_sailedOn cX11_sailedOn 4 (some .int), Cond.methodLink RX11 294 yX11_isUnknown]
def wsX11_state_r3 : List Cond := [Cond.instanceMethod yX11_isUnknown, Cond.selects RX11 yX11_isUnknown yX11_isUnknown, Cond.code yX11_isUnknown cX11_isUnknown 4 (some .boolean), Cond.methodLink RX11 275 yX11_bare, Cond.instanceMethod yX11_bare, Cond.selects RX11 yX11_bare yX11_bare, Cond.code yX11_bare cX11_bare 2 none, Cond.fieldLink RX11 128 "ShipOfficeModel" "letters" "[I", Cond.methodLink RX11 272 yX11_lastHeard, Cond.instanceMethod yX11_lastHeard, Cond.selects RX11 yX11_lastHeard yX11_lastHeard, Cond.code yX11_lastHeard cX11_lastHeard 6 (some .int), Cond.methodLink RX11 285 yX11_worth, Cond.instanceMethod yX11_worth, Cond.selects RX11 yX11_worth yX11_worth, Cond.code yX11_worth cX11_worth 4 (some .int), Cond.fieldLink RX11 58 "ShipOfficeModel" "textSize" "[I", Cond.methodLink RX11 263 yX11_actOn, Cond.instanceMethod yX11_actOn, Cond.selects RX11 yX11_actOn yX11_actOn, Cond.code yX11_actOn cX11_actOn 5 (some .int), Cond.fieldLink RX11 256 "ShipOfficeModel" "acts" "I", Cond.fieldLink RX11 61 "ShipOfficeModel" "purpose" "[I", Cond.fieldLink RX11 64 "ShipOfficeModel" "from" "[I"]
def wsX11_state_r4 : List Cond := [Cond.methodLink RX11 259 yX11_goesThrough, Cond.instanceMethod yX11_goesThrough, Cond.selects RX11 yX11_goesThrough yX11_goesThrough, Cond.code yX11_goesThrough cX11_goesThrough 3 (some .int), Cond.fieldLink RX11 216 "ShipOfficeModel" "base" "I", Cond.fieldLink RX11 213 "ShipOfficeModel" "size" "I", Cond.fieldLink RX11 210 "ShipOfficeModel" "at" "I", Cond.fieldLink RX11 244 "ShipOfficeModel" "deep" "I", Cond.fieldLink RX11 223 "ShipOfficeModel" "isWell" "Z", Cond.methodLink RX11 250 yX11_sum, Cond.instanceMethod yX11_sum, Cond.selects RX11 yX11_sum yX11_sum, Cond.code yX11_sum cX11_sum 4 (some .int), Cond.methodLink RX11 231 yX11_term, Cond.instanceMethod yX11_term, Cond.selects RX11 yX11_term yX11_term, Cond.methodLink RX11 227 yX11_sign, Cond.instanceMethod yX11_sign, Cond.selects RX11 yX11_sign yX11_sign, Cond.code yX11_sign cX11_sign 1 (some .int), Cond.fieldLink RX11 125 "ShipOfficeModel" "tape" "[I", Cond.fieldLink RX11 67 "ShipOfficeModel" "text" "[I", Cond.methodLink RX11 234 yX11_held, Cond.static yX11_held]
def wsX11_state_r5 : List Cond := [Cond.code yX11_held cX11_held 2 (some .int), Cond.constantLong RX11 219 (1000000000), Cond.constantLong RX11 221 (-1000000000), Cond.code yX11_term cX11_term 4 (some .int), Cond.methodLink RX11 238 yX11_unit, Cond.instanceMethod yX11_unit, Cond.selects RX11 yX11_unit yX11_unit, Cond.code yX11_unit cX11_unit 5 (some .int), Cond.methodLink RX11 241 yX11_isLetter, Cond.static yX11_isLetter, Cond.code yX11_isLetter cX11_isLetter 1 (some .boolean), Cond.methodLink RX11 247 yX11_breaks, Cond.instanceMethod yX11_breaks, Cond.selects RX11 yX11_breaks yX11_breaks, Cond.code yX11_breaks cX11_breaks 1 (some .int), Cond.methodLink RX11 253 yX11_takes, Cond.instanceMethod yX11_takes, Cond.selects RX11 yX11_takes yX11_takes, Cond.code yX11_takes cX11_takes 2 (some .boolean)]
def wsX11_state : List Cond := .code yX11_state cX11_state 5 (some .int) :: ((wsX11_state_r1 ++ (wsX11_state_r2 ++ (wsX11_state_r3 ++ (wsX11_state_r4 ++ wsX11_state_r5)))) ++ wsX110)
theorem il_X11_state_1 : ∀ w ∈ wsX11_state_r1, w ∈ wsX11_state := fun w h => (List.mem_cons_of_mem _ (List.mem_append_left _ (List.mem_append_left _ h)))
theorem il_X11_state_2 : ∀ w ∈ wsX11_state_r2, w ∈ wsX11_state := fun w h => (List.mem_cons_of_mem _ (List.mem_append_left _ (List.mem_append_right _ (List.mem_append_left _ h))))
theorem il_X11_state_3 : ∀ w ∈ wsX11_state_r3, w ∈ wsX11_state := fun w h => (List.mem_cons_of_mem _ (List.mem_append_left _ (List.mem_append_right _ (List.mem_append_right _ (List.mem_append_left _ h)))))
theorem il_X11_state_4 : ∀ w ∈ wsX11_state_r4, w ∈ wsX11_state := fun w h => (List.mem_cons_of_mem _ (List.mem_append_left _ (List.mem_append_right _ (List.mem_append_right _ (List.mem_append_right _ (List.mem_append_left _ h))))))
theorem il_X11_state_5 : ∀ w ∈ wsX11_state_r5, w ∈ wsX11_state := fun w h => (List.mem_cons_of_mem _ (List.mem_append_left _ (List.mem_append_right _ (List.mem_append_right _ (List.mem_append_right _ (List.mem_append_right _ h))))))
theorem il_X11_state_6 : ∀ w ∈ wsX110, w ∈ wsX11_state := fun w h => (List.mem_cons_of_mem _ (List.mem_append_right _ h))
def wsX11_earns_r1 : List Cond := [Cond.methodLink RX11 199 yX11_isAgreement, Cond.instanceMethod yX11_isAgreement, Cond.selects RX11 yX11_isAgreement yX11_isAgreement, Cond.initialized RX11, Cond.code yX11_isAgreement cX11_isAgreement 2 (some .boolean), Cond.fieldLink RX11 168 "ShipOfficeModel" "agreements" "I", Cond.methodLink RX11 161 yX11_isIn, Cond.static yX11_isIn, Cond.code yX11_isIn cX11_isIn 2 (some .boolean), Cond.methodLink RX11 300 yX11_wrongTimes, Cond.instanceMethod yX11_wrongTimes, Cond.selects RX11 yX11_wrongTimes yX11_wrongTimes, Cond.code yX11_wrongTimes cX11_wrongTimes 3 (some .int), Cond.fieldLink RX11 171 "ShipOfficeModel" "now" "I", Cond.methodLink RX11 153 yX11_refuse, Cond.instanceMethod yX11_refuse, Cond.selects RX11 yX11_refuse yX11_refuse, Cond.code yX11_refuse cX11_refuse 2 (some .int), Cond.fieldLink RX11 7 "ShipOfficeModel" "refusals" "[I", Cond.methodLink RX11 303 yX11_earnsOf, Cond.instanceMethod yX11_earnsOf, Cond.selects RX11 yX11_earnsOf yX11_earnsOf, Cond.code yX11_earnsOf cX11_earnsOf 7 (some .int), Cond.fieldLink RX11 73 "ShipOfficeModel" "voyage" "[I"]
def wsX11_earns_r2 : List Cond := [Cond.fieldLink RX11 85 "ShipOfficeModel" "signed" "[I", Cond.methodLink RX11 266 yX11_stateOf, Cond.instanceMethod yX11_stateOf, Cond.selects RX11 yX11_stateOf yX11_stateOf, Cond.code yX11_stateOf cX11_stateOf 5 (some .int), Cond.fieldLink RX11 88 "ShipOfficeModel" "offOn" "[I", Cond.fieldLink RX11 40 "ShipOfficeModel" "what" "[I", Cond.methodLink RX11 288 yX11_isDead, Cond.instanceMethod yX11_isDead, Cond.selects RX11 yX11_isDead yX11_isDead, Cond.code yX11_isDead cX11_isDead 5 (some .boolean), Cond.fieldLink RX11 179 "ShipOfficeModel" "happened" "I", Cond.fieldLink RX11 43 "ShipOfficeModel" "whose" "[I", Cond.fieldLink RX11 49 "ShipOfficeModel" "known" "[I", Cond.fieldLink RX11 46 "ShipOfficeModel" "day" "[I", Cond.methodLink RX11 291 yX11_whereOf, Cond.instanceMethod yX11_whereOf, Cond.selects RX11 yX11_whereOf yX11_whereOf, Cond.code yX11_whereOf cX11_whereOf 6 (some .int), Cond.methodLink RX11 281 yX11_hasSailed, Cond.instanceMethod yX11_hasSailed, Cond.selects RX11 yX11_hasSailed yX11_hasSailed, Cond.code yX11_hasSailed cX11_hasSailed 5 (some .boolean), Cond.methodLink RX11 278 yX11_sailedOn]
def wsX11_earns_r3 : List Cond := [Cond.instanceMethod yX11_sailedOn, Cond.selects RX11 yX11_sailedOn yX11_sailedOn, Cond.code yX11_sailedOn cX11_sailedOn 4 (some .int), Cond.methodLink RX11 294 yX11_isUnknown, Cond.instanceMethod yX11_isUnknown, Cond.selects RX11 yX11_isUnknown yX11_isUnknown, Cond.code yX11_isUnknown cX11_isUnknown 4 (some .boolean), Cond.methodLink RX11 275 yX11_bare, Cond.instanceMethod yX11_bare, Cond.selects RX11 yX11_bare yX11_bare, Cond.code yX11_bare cX11_bare 2 none, Cond.fieldLink RX11 128 "ShipOfficeModel" "letters" "[I", Cond.methodLink RX11 272 yX11_lastHeard, Cond.instanceMethod yX11_lastHeard, Cond.selects RX11 yX11_lastHeard yX11_lastHeard, Cond.code yX11_lastHeard cX11_lastHeard 6 (some .int), Cond.methodLink RX11 285 yX11_worth, Cond.instanceMethod yX11_worth, Cond.selects RX11 yX11_worth yX11_worth, Cond.code yX11_worth cX11_worth 4 (some .int), Cond.fieldLink RX11 58 "ShipOfficeModel" "textSize" "[I", Cond.methodLink RX11 263 yX11_actOn, Cond.instanceMethod yX11_actOn, Cond.selects RX11 yX11_actOn yX11_actOn]
def wsX11_earns_r4 : List Cond := [Cond.code yX11_actOn cX11_actOn 5 (some .int), Cond.fieldLink RX11 256 "ShipOfficeModel" "acts" "I", Cond.fieldLink RX11 61 "ShipOfficeModel" "purpose" "[I", Cond.fieldLink RX11 64 "ShipOfficeModel" "from" "[I", Cond.methodLink RX11 259 yX11_goesThrough, Cond.instanceMethod yX11_goesThrough, Cond.selects RX11 yX11_goesThrough yX11_goesThrough, Cond.code yX11_goesThrough cX11_goesThrough 3 (some .int), Cond.fieldLink RX11 216 "ShipOfficeModel" "base" "I", Cond.fieldLink RX11 213 "ShipOfficeModel" "size" "I", Cond.fieldLink RX11 210 "ShipOfficeModel" "at" "I", Cond.fieldLink RX11 244 "ShipOfficeModel" "deep" "I", Cond.fieldLink RX11 223 "ShipOfficeModel" "isWell" "Z", Cond.methodLink RX11 250 yX11_sum, Cond.instanceMethod yX11_sum, Cond.selects RX11 yX11_sum yX11_sum, Cond.code yX11_sum cX11_sum 4 (some .int), Cond.methodLink RX11 231 yX11_term, Cond.instanceMethod yX11_term, Cond.selects RX11 yX11_term yX11_term, Cond.methodLink RX11 227 yX11_sign, Cond.instanceMethod yX11_sign, Cond.selects RX11 yX11_sign yX11_sign, Cond.code yX11_sign cX11_sign 1 (some .int)]
def wsX11_earns_r5 : List Cond := [Cond.fieldLink RX11 125 "ShipOfficeModel" "tape" "[I", Cond.fieldLink RX11 67 "ShipOfficeModel" "text" "[I", Cond.methodLink RX11 234 yX11_held, Cond.static yX11_held, Cond.code yX11_held cX11_held 2 (some .int), Cond.constantLong RX11 219 (1000000000), Cond.constantLong RX11 221 (-1000000000), Cond.code yX11_term cX11_term 4 (some .int), Cond.methodLink RX11 238 yX11_unit, Cond.instanceMethod yX11_unit, Cond.selects RX11 yX11_unit yX11_unit, Cond.code yX11_unit cX11_unit 5 (some .int), Cond.methodLink RX11 241 yX11_isLetter, Cond.static yX11_isLetter, Cond.code yX11_isLetter cX11_isLetter 1 (some .boolean), Cond.methodLink RX11 247 yX11_breaks, Cond.instanceMethod yX11_breaks, Cond.selects RX11 yX11_breaks yX11_breaks, Cond.code yX11_breaks cX11_breaks 1 (some .int), Cond.methodLink RX11 253 yX11_takes, Cond.instanceMethod yX11_takes, Cond.selects RX11 yX11_takes yX11_takes, Cond.code yX11_takes cX11_takes 2 (some .boolean)]
def wsX11_earns : List Cond := .code yX11_earns cX11_earns 5 (some .int) :: ((wsX11_earns_r1 ++ (wsX11_earns_r2 ++ (wsX11_earns_r3 ++ (wsX11_earns_r4 ++ wsX11_earns_r5)))) ++ wsX110)
theorem il_X11_earns_1 : ∀ w ∈ wsX11_earns_r1, w ∈ wsX11_earns := fun w h => (List.mem_cons_of_mem _ (List.mem_append_left _ (List.mem_append_left _ h)))
theorem il_X11_earns_2 : ∀ w ∈ wsX11_earns_r2, w ∈ wsX11_earns := fun w h => (List.mem_cons_of_mem _ (List.mem_append_left _ (List.mem_append_right _ (List.mem_append_left _ h))))
theorem il_X11_earns_3 : ∀ w ∈ wsX11_earns_r3, w ∈ wsX11_earns := fun w h => (List.mem_cons_of_mem _ (List.mem_append_left _ (List.mem_append_right _ (List.mem_append_right _ (List.mem_append_left _ h)))))
theorem il_X11_earns_4 : ∀ w ∈ wsX11_earns_r4, w ∈ wsX11_earns := fun w h => (List.mem_cons_of_mem _ (List.mem_append_left _ (List.mem_append_right _ (List.mem_append_right _ (List.mem_append_right _ (List.mem_append_left _ h))))))
theorem il_X11_earns_5 : ∀ w ∈ wsX11_earns_r5, w ∈ wsX11_earns := fun w h => (List.mem_cons_of_mem _ (List.mem_append_left _ (List.mem_append_right _ (List.mem_append_right _ (List.mem_append_right _ (List.mem_append_right _ h))))))
theorem il_X11_earns_6 : ∀ w ∈ wsX110, w ∈ wsX11_earns := fun w h => (List.mem_cons_of_mem _ (List.mem_append_right _ h))
def wsX11_advance_r1 : List Cond := [Cond.fieldLink RX11 91 "ShipOfficeModel" "note" "[I", Cond.fieldLink RX11 171 "ShipOfficeModel" "now" "I", Cond.constant RX11 178 (99999), Cond.methodLink RX11 199 yX11_isAgreement, Cond.instanceMethod yX11_isAgreement, Cond.selects RX11 yX11_isAgreement yX11_isAgreement, Cond.initialized RX11, Cond.code yX11_isAgreement cX11_isAgreement 2 (some .boolean), Cond.fieldLink RX11 168 "ShipOfficeModel" "agreements" "I", Cond.methodLink RX11 161 yX11_isIn, Cond.static yX11_isIn, Cond.code yX11_isIn cX11_isIn 2 (some .boolean), Cond.methodLink RX11 153 yX11_refuse, Cond.instanceMethod yX11_refuse, Cond.selects RX11 yX11_refuse yX11_refuse, Cond.code yX11_refuse cX11_refuse 2 (some .int), Cond.fieldLink RX11 7 "ShipOfficeModel" "refusals" "[I", Cond.methodLink RX11 266 yX11_stateOf, Cond.instanceMethod yX11_stateOf, Cond.selects RX11 yX11_stateOf yX11_stateOf, Cond.code yX11_stateOf cX11_stateOf 5 (some .int), Cond.fieldLink RX11 85 "ShipOfficeModel" "signed" "[I", Cond.fieldLink RX11 88 "ShipOfficeModel" "offOn" "[I", Cond.fieldLink RX11 40 "ShipOfficeModel" "what" "[I"]
def wsX11_advance_r2 : List Cond := [Cond.fieldLink RX11 73 "ShipOfficeModel" "voyage" "[I", Cond.methodLink RX11 288 yX11_isDead, Cond.instanceMethod yX11_isDead, Cond.selects RX11 yX11_isDead yX11_isDead, Cond.code yX11_isDead cX11_isDead 5 (some .boolean), Cond.fieldLink RX11 179 "ShipOfficeModel" "happened" "I", Cond.fieldLink RX11 43 "ShipOfficeModel" "whose" "[I", Cond.fieldLink RX11 49 "ShipOfficeModel" "known" "[I", Cond.fieldLink RX11 46 "ShipOfficeModel" "day" "[I", Cond.methodLink RX11 291 yX11_whereOf, Cond.instanceMethod yX11_whereOf, Cond.selects RX11 yX11_whereOf yX11_whereOf, Cond.code yX11_whereOf cX11_whereOf 6 (some .int), Cond.methodLink RX11 281 yX11_hasSailed, Cond.instanceMethod yX11_hasSailed, Cond.selects RX11 yX11_hasSailed yX11_hasSailed, Cond.code yX11_hasSailed cX11_hasSailed 5 (some .boolean), Cond.methodLink RX11 278 yX11_sailedOn, Cond.instanceMethod yX11_sailedOn, Cond.selects RX11 yX11_sailedOn yX11_sailedOn, Cond.code yX11_sailedOn cX11_sailedOn 4 (some .int), Cond.methodLink RX11 294 yX11_isUnknown, Cond.instanceMethod yX11_isUnknown, Cond.selects RX11 yX11_isUnknown yX11_isUnknown]
def wsX11_advance_r3 : List Cond := [Cond.code yX11_isUnknown cX11_isUnknown 4 (some .boolean), Cond.methodLink RX11 275 yX11_bare, Cond.instanceMethod yX11_bare, Cond.selects RX11 yX11_bare yX11_bare, Cond.code yX11_bare cX11_bare 2 none, Cond.fieldLink RX11 128 "ShipOfficeModel" "letters" "[I", Cond.methodLink RX11 272 yX11_lastHeard, Cond.instanceMethod yX11_lastHeard, Cond.selects RX11 yX11_lastHeard yX11_lastHeard, Cond.code yX11_lastHeard cX11_lastHeard 6 (some .int), Cond.methodLink RX11 285 yX11_worth, Cond.instanceMethod yX11_worth, Cond.selects RX11 yX11_worth yX11_worth, Cond.code yX11_worth cX11_worth 4 (some .int), Cond.fieldLink RX11 58 "ShipOfficeModel" "textSize" "[I", Cond.methodLink RX11 263 yX11_actOn, Cond.instanceMethod yX11_actOn, Cond.selects RX11 yX11_actOn yX11_actOn, Cond.code yX11_actOn cX11_actOn 5 (some .int), Cond.fieldLink RX11 256 "ShipOfficeModel" "acts" "I", Cond.fieldLink RX11 61 "ShipOfficeModel" "purpose" "[I", Cond.fieldLink RX11 64 "ShipOfficeModel" "from" "[I", Cond.methodLink RX11 259 yX11_goesThrough, Cond.instanceMethod yX11_goesThrough]
def wsX11_advance_r4 : List Cond := [Cond.selects RX11 yX11_goesThrough yX11_goesThrough, Cond.code yX11_goesThrough cX11_goesThrough 3 (some .int), Cond.fieldLink RX11 216 "ShipOfficeModel" "base" "I", Cond.fieldLink RX11 213 "ShipOfficeModel" "size" "I", Cond.fieldLink RX11 210 "ShipOfficeModel" "at" "I", Cond.fieldLink RX11 244 "ShipOfficeModel" "deep" "I", Cond.fieldLink RX11 223 "ShipOfficeModel" "isWell" "Z", Cond.methodLink RX11 250 yX11_sum, Cond.instanceMethod yX11_sum, Cond.selects RX11 yX11_sum yX11_sum, Cond.code yX11_sum cX11_sum 4 (some .int), Cond.methodLink RX11 231 yX11_term, Cond.instanceMethod yX11_term, Cond.selects RX11 yX11_term yX11_term, Cond.methodLink RX11 227 yX11_sign, Cond.instanceMethod yX11_sign, Cond.selects RX11 yX11_sign yX11_sign, Cond.code yX11_sign cX11_sign 1 (some .int), Cond.fieldLink RX11 125 "ShipOfficeModel" "tape" "[I", Cond.fieldLink RX11 67 "ShipOfficeModel" "text" "[I", Cond.methodLink RX11 234 yX11_held, Cond.static yX11_held, Cond.code yX11_held cX11_held 2 (some .int), Cond.constantLong RX11 219 (1000000000)]
def wsX11_advance_r5 : List Cond := [Cond.constantLong RX11 221 (-1000000000), Cond.code yX11_term cX11_term 4 (some .int), Cond.methodLink RX11 238 yX11_unit, Cond.instanceMethod yX11_unit, Cond.selects RX11 yX11_unit yX11_unit, Cond.code yX11_unit cX11_unit 5 (some .int), Cond.methodLink RX11 241 yX11_isLetter, Cond.static yX11_isLetter, Cond.code yX11_isLetter cX11_isLetter 1 (some .boolean), Cond.methodLink RX11 247 yX11_breaks, Cond.instanceMethod yX11_breaks, Cond.selects RX11 yX11_breaks yX11_breaks, Cond.code yX11_breaks cX11_breaks 1 (some .int), Cond.methodLink RX11 253 yX11_takes, Cond.instanceMethod yX11_takes, Cond.selects RX11 yX11_takes yX11_takes, Cond.code yX11_takes cX11_takes 2 (some .boolean)]
def wsX11_advance : List Cond := .code yX11_advance cX11_advance 3 (some .int) :: ((wsX11_advance_r1 ++ (wsX11_advance_r2 ++ (wsX11_advance_r3 ++ (wsX11_advance_r4 ++ wsX11_advance_r5)))) ++ wsX110)
theorem il_X11_advance_1 : ∀ w ∈ wsX11_advance_r1, w ∈ wsX11_advance := fun w h => (List.mem_cons_of_mem _ (List.mem_append_left _ (List.mem_append_left _ h)))
theorem il_X11_advance_2 : ∀ w ∈ wsX11_advance_r2, w ∈ wsX11_advance := fun w h => (List.mem_cons_of_mem _ (List.mem_append_left _ (List.mem_append_right _ (List.mem_append_left _ h))))
theorem il_X11_advance_3 : ∀ w ∈ wsX11_advance_r3, w ∈ wsX11_advance := fun w h => (List.mem_cons_of_mem _ (List.mem_append_left _ (List.mem_append_right _ (List.mem_append_right _ (List.mem_append_left _ h)))))
theorem il_X11_advance_4 : ∀ w ∈ wsX11_advance_r4, w ∈ wsX11_advance := fun w h => (List.mem_cons_of_mem _ (List.mem_append_left _ (List.mem_append_right _ (List.mem_append_right _ (List.mem_append_right _ (List.mem_append_left _ h))))))
theorem il_X11_advance_5 : ∀ w ∈ wsX11_advance_r5, w ∈ wsX11_advance := fun w h => (List.mem_cons_of_mem _ (List.mem_append_left _ (List.mem_append_right _ (List.mem_append_right _ (List.mem_append_right _ (List.mem_append_right _ h))))))
theorem il_X11_advance_6 : ∀ w ∈ wsX110, w ∈ wsX11_advance := fun w h => (List.mem_cons_of_mem _ (List.mem_append_right _ h))
theorem iw_X11_advance_1 : Cond.fieldLink RX11 91 "ShipOfficeModel" "note" "[I" ∈ wsX11_advance := (mmI il_X11_advance_1 0 rfl)
theorem iw_X11_advance_2 : Cond.fieldLink RX11 171 "ShipOfficeModel" "now" "I" ∈ wsX11_advance := (mmI il_X11_advance_1 1 rfl)
def wsX11_sold : List Cond := .code yX11_sold cX11_sold 3 (some .int) :: ([.fieldLink RX11 91 "ShipOfficeModel" "note" "[I", .fieldLink RX11 94 "ShipOfficeModel" "given" "[I", .methodLink RX11 199 yX11_isAgreement, .instanceMethod yX11_isAgreement, .selects RX11 yX11_isAgreement yX11_isAgreement, .initialized RX11, .code yX11_isAgreement cX11_isAgreement 2 (some .boolean), .fieldLink RX11 168 "ShipOfficeModel" "agreements" "I", .methodLink RX11 161 yX11_isIn, .static yX11_isIn, .code yX11_isIn cX11_isIn 2 (some .boolean), .methodLink RX11 153 yX11_refuse, .instanceMethod yX11_refuse, .selects RX11 yX11_refuse yX11_refuse, .code yX11_refuse cX11_refuse 2 (some .int), .fieldLink RX11 7 "ShipOfficeModel" "refusals" "[I"] ++ wsX110)
theorem il_X11_sold_1 : ∀ w ∈ ([.fieldLink RX11 91 "ShipOfficeModel" "note" "[I", .fieldLink RX11 94 "ShipOfficeModel" "given" "[I", .methodLink RX11 199 yX11_isAgreement, .instanceMethod yX11_isAgreement, .selects RX11 yX11_isAgreement yX11_isAgreement, .initialized RX11, .code yX11_isAgreement cX11_isAgreement 2 (some .boolean), .fieldLink RX11 168 "ShipOfficeModel" "agreements" "I", .methodLink RX11 161 yX11_isIn, .static yX11_isIn, .code yX11_isIn cX11_isIn 2 (some .boolean), .methodLink RX11 153 yX11_refuse, .instanceMethod yX11_refuse, .selects RX11 yX11_refuse yX11_refuse, .code yX11_refuse cX11_refuse 2 (some .int), .fieldLink RX11 7 "ShipOfficeModel" "refusals" "[I"] : List Cond), w ∈ wsX11_sold := fun w h => (List.mem_cons_of_mem _ (List.mem_append_left _ h))
theorem il_X11_sold_2 : ∀ w ∈ wsX110, w ∈ wsX11_sold := fun w h => (List.mem_cons_of_mem _ (List.mem_append_right _ h))
theorem iw_X11_sold_1 : Cond.fieldLink RX11 91 "ShipOfficeModel" "note" "[I" ∈ wsX11_sold := (mmI il_X11_sold_1 0 rfl)
theorem iw_X11_sold_2 : Cond.fieldLink RX11 94 "ShipOfficeModel" "given" "[I" ∈ wsX11_sold := (mmI il_X11_sold_1 1 rfl)
def wsX11_allot_r1 : List Cond := [Cond.fieldLink RX11 97 "ShipOfficeModel" "allotted" "[I", Cond.fieldLink RX11 171 "ShipOfficeModel" "now" "I", Cond.fieldLink RX11 76 "ShipOfficeModel" "wage" "[I", Cond.constantLong RX11 310 (100), Cond.methodLink RX11 199 yX11_isAgreement, Cond.instanceMethod yX11_isAgreement, Cond.selects RX11 yX11_isAgreement yX11_isAgreement, Cond.initialized RX11, Cond.code yX11_isAgreement cX11_isAgreement 2 (some .boolean), Cond.fieldLink RX11 168 "ShipOfficeModel" "agreements" "I", Cond.methodLink RX11 161 yX11_isIn, Cond.static yX11_isIn, Cond.code yX11_isIn cX11_isIn 2 (some .boolean), Cond.methodLink RX11 153 yX11_refuse, Cond.instanceMethod yX11_refuse, Cond.selects RX11 yX11_refuse yX11_refuse, Cond.code yX11_refuse cX11_refuse 2 (some .int), Cond.fieldLink RX11 7 "ShipOfficeModel" "refusals" "[I", Cond.methodLink RX11 188 yX11_goesOn, Cond.instanceMethod yX11_goesOn, Cond.selects RX11 yX11_goesOn yX11_goesOn, Cond.code yX11_goesOn cX11_goesOn 2 (some .boolean), Cond.fieldLink RX11 88 "ShipOfficeModel" "offOn" "[I", Cond.fieldLink RX11 73 "ShipOfficeModel" "voyage" "[I"]
def wsX11_allot_r2 : List Cond := [Cond.methodLink RX11 182 yX11_wasTold, Cond.instanceMethod yX11_wasTold, Cond.selects RX11 yX11_wasTold yX11_wasTold, Cond.code yX11_wasTold cX11_wasTold 4 (some .boolean), Cond.fieldLink RX11 179 "ShipOfficeModel" "happened" "I", Cond.fieldLink RX11 40 "ShipOfficeModel" "what" "[I", Cond.fieldLink RX11 43 "ShipOfficeModel" "whose" "[I", Cond.methodLink RX11 306 yX11_puts, Cond.instanceMethod yX11_puts, Cond.selects RX11 yX11_puts yX11_puts, Cond.code yX11_puts cX11_puts 9 none, Cond.fieldLink RX11 85 "ShipOfficeModel" "signed" "[I", Cond.fieldLink RX11 128 "ShipOfficeModel" "letters" "[I", Cond.fieldLink RX11 79 "ShipOfficeModel" "rank" "[I", Cond.fieldLink RX11 22 "ShipOfficeModel" "born" "[I", Cond.fieldLink RX11 70 "ShipOfficeModel" "man" "[I", Cond.methodLink RX11 266 yX11_stateOf, Cond.instanceMethod yX11_stateOf, Cond.selects RX11 yX11_stateOf yX11_stateOf, Cond.code yX11_stateOf cX11_stateOf 5 (some .int), Cond.methodLink RX11 288 yX11_isDead, Cond.instanceMethod yX11_isDead, Cond.selects RX11 yX11_isDead yX11_isDead, Cond.code yX11_isDead cX11_isDead 5 (some .boolean)]
def wsX11_allot_r3 : List Cond := [Cond.fieldLink RX11 49 "ShipOfficeModel" "known" "[I", Cond.fieldLink RX11 46 "ShipOfficeModel" "day" "[I", Cond.methodLink RX11 291 yX11_whereOf, Cond.instanceMethod yX11_whereOf, Cond.selects RX11 yX11_whereOf yX11_whereOf, Cond.code yX11_whereOf cX11_whereOf 6 (some .int), Cond.methodLink RX11 281 yX11_hasSailed, Cond.instanceMethod yX11_hasSailed, Cond.selects RX11 yX11_hasSailed yX11_hasSailed, Cond.code yX11_hasSailed cX11_hasSailed 5 (some .boolean), Cond.methodLink RX11 278 yX11_sailedOn, Cond.instanceMethod yX11_sailedOn, Cond.selects RX11 yX11_sailedOn yX11_sailedOn, Cond.code yX11_sailedOn cX11_sailedOn 4 (some .int), Cond.methodLink RX11 294 yX11_isUnknown, Cond.instanceMethod yX11_isUnknown, Cond.selects RX11 yX11_isUnknown yX11_isUnknown, Cond.code yX11_isUnknown cX11_isUnknown 4 (some .boolean), Cond.methodLink RX11 275 yX11_bare, Cond.instanceMethod yX11_bare, Cond.selects RX11 yX11_bare yX11_bare, Cond.code yX11_bare cX11_bare 2 none, Cond.methodLink RX11 272 yX11_lastHeard, Cond.instanceMethod yX11_lastHeard]
def wsX11_allot_r4 : List Cond := [Cond.selects RX11 yX11_lastHeard yX11_lastHeard, Cond.code yX11_lastHeard cX11_lastHeard 6 (some .int), Cond.methodLink RX11 285 yX11_worth, Cond.instanceMethod yX11_worth, Cond.selects RX11 yX11_worth yX11_worth, Cond.code yX11_worth cX11_worth 4 (some .int), Cond.fieldLink RX11 58 "ShipOfficeModel" "textSize" "[I", Cond.methodLink RX11 263 yX11_actOn, Cond.instanceMethod yX11_actOn, Cond.selects RX11 yX11_actOn yX11_actOn, Cond.code yX11_actOn cX11_actOn 5 (some .int), Cond.fieldLink RX11 256 "ShipOfficeModel" "acts" "I", Cond.fieldLink RX11 61 "ShipOfficeModel" "purpose" "[I", Cond.fieldLink RX11 64 "ShipOfficeModel" "from" "[I", Cond.methodLink RX11 259 yX11_goesThrough, Cond.instanceMethod yX11_goesThrough, Cond.selects RX11 yX11_goesThrough yX11_goesThrough, Cond.code yX11_goesThrough cX11_goesThrough 3 (some .int), Cond.fieldLink RX11 216 "ShipOfficeModel" "base" "I", Cond.fieldLink RX11 213 "ShipOfficeModel" "size" "I", Cond.fieldLink RX11 210 "ShipOfficeModel" "at" "I", Cond.fieldLink RX11 244 "ShipOfficeModel" "deep" "I", Cond.fieldLink RX11 223 "ShipOfficeModel" "isWell" "Z", Cond.methodLink RX11 250 yX11_sum]
def wsX11_allot_r5 : List Cond := [Cond.instanceMethod yX11_sum, Cond.selects RX11 yX11_sum yX11_sum, Cond.code yX11_sum cX11_sum 4 (some .int), Cond.methodLink RX11 231 yX11_term, Cond.instanceMethod yX11_term, Cond.selects RX11 yX11_term yX11_term, Cond.methodLink RX11 227 yX11_sign, Cond.instanceMethod yX11_sign, Cond.selects RX11 yX11_sign yX11_sign, Cond.code yX11_sign cX11_sign 1 (some .int), Cond.fieldLink RX11 125 "ShipOfficeModel" "tape" "[I", Cond.fieldLink RX11 67 "ShipOfficeModel" "text" "[I", Cond.methodLink RX11 234 yX11_held, Cond.static yX11_held, Cond.code yX11_held cX11_held 2 (some .int), Cond.constantLong RX11 219 (1000000000), Cond.constantLong RX11 221 (-1000000000), Cond.code yX11_term cX11_term 4 (some .int), Cond.methodLink RX11 238 yX11_unit, Cond.instanceMethod yX11_unit, Cond.selects RX11 yX11_unit yX11_unit, Cond.code yX11_unit cX11_unit 5 (some .int), Cond.methodLink RX11 241 yX11_isLetter, Cond.static yX11_isLetter]
def wsX11_allot_r6 : List Cond := [Cond.code yX11_isLetter cX11_isLetter 1 (some .boolean), Cond.methodLink RX11 247 yX11_breaks, Cond.instanceMethod yX11_breaks, Cond.selects RX11 yX11_breaks yX11_breaks, Cond.code yX11_breaks cX11_breaks 1 (some .int), Cond.methodLink RX11 253 yX11_takes, Cond.instanceMethod yX11_takes, Cond.selects RX11 yX11_takes yX11_takes, Cond.code yX11_takes cX11_takes 2 (some .boolean), Cond.methodLink RX11 269 yX11_aboardOf, Cond.instanceMethod yX11_aboardOf, Cond.selects RX11 yX11_aboardOf yX11_aboardOf, Cond.code yX11_aboardOf cX11_aboardOf 6 (some .int)]
def wsX11_allot : List Cond := .code yX11_allot cX11_allot 3 (some .int) :: ((wsX11_allot_r1 ++ (wsX11_allot_r2 ++ (wsX11_allot_r3 ++ (wsX11_allot_r4 ++ (wsX11_allot_r5 ++ wsX11_allot_r6))))) ++ wsX110)
theorem il_X11_allot_1 : ∀ w ∈ wsX11_allot_r1, w ∈ wsX11_allot := fun w h => (List.mem_cons_of_mem _ (List.mem_append_left _ (List.mem_append_left _ h)))
theorem il_X11_allot_2 : ∀ w ∈ wsX11_allot_r2, w ∈ wsX11_allot := fun w h => (List.mem_cons_of_mem _ (List.mem_append_left _ (List.mem_append_right _ (List.mem_append_left _ h))))
theorem il_X11_allot_3 : ∀ w ∈ wsX11_allot_r3, w ∈ wsX11_allot := fun w h => (List.mem_cons_of_mem _ (List.mem_append_left _ (List.mem_append_right _ (List.mem_append_right _ (List.mem_append_left _ h)))))
theorem il_X11_allot_4 : ∀ w ∈ wsX11_allot_r4, w ∈ wsX11_allot := fun w h => (List.mem_cons_of_mem _ (List.mem_append_left _ (List.mem_append_right _ (List.mem_append_right _ (List.mem_append_right _ (List.mem_append_left _ h))))))
theorem il_X11_allot_5 : ∀ w ∈ wsX11_allot_r5, w ∈ wsX11_allot := fun w h => (List.mem_cons_of_mem _ (List.mem_append_left _ (List.mem_append_right _ (List.mem_append_right _ (List.mem_append_right _ (List.mem_append_right _ (List.mem_append_left _ h)))))))
theorem il_X11_allot_6 : ∀ w ∈ wsX11_allot_r6, w ∈ wsX11_allot := fun w h => (List.mem_cons_of_mem _ (List.mem_append_left _ (List.mem_append_right _ (List.mem_append_right _ (List.mem_append_right _ (List.mem_append_right _ (List.mem_append_right _ h)))))))
theorem il_X11_allot_7 : ∀ w ∈ wsX110, w ∈ wsX11_allot := fun w h => (List.mem_cons_of_mem _ (List.mem_append_right _ h))
theorem iw_X11_allot_1 : Cond.fieldLink RX11 97 "ShipOfficeModel" "allotted" "[I" ∈ wsX11_allot := (mmI il_X11_allot_1 0 rfl)
theorem iw_X11_allot_2 : Cond.fieldLink RX11 171 "ShipOfficeModel" "now" "I" ∈ wsX11_allot := (mmI il_X11_allot_1 1 rfl)
theorem iw_X11_allot_3 : Cond.fieldLink RX11 76 "ShipOfficeModel" "wage" "[I" ∈ wsX11_allot := (mmI il_X11_allot_1 2 rfl)
def wsX11_aboard_r1 : List Cond := [Cond.methodLink RX11 185 yX11_isVoyage, Cond.instanceMethod yX11_isVoyage, Cond.selects RX11 yX11_isVoyage yX11_isVoyage, Cond.initialized RX11, Cond.code yX11_isVoyage cX11_isVoyage 2 (some .boolean), Cond.fieldLink RX11 165 "ShipOfficeModel" "voyages" "I", Cond.methodLink RX11 161 yX11_isIn, Cond.static yX11_isIn, Cond.code yX11_isIn cX11_isIn 2 (some .boolean), Cond.methodLink RX11 300 yX11_wrongTimes, Cond.instanceMethod yX11_wrongTimes, Cond.selects RX11 yX11_wrongTimes yX11_wrongTimes, Cond.code yX11_wrongTimes cX11_wrongTimes 3 (some .int), Cond.fieldLink RX11 171 "ShipOfficeModel" "now" "I", Cond.methodLink RX11 153 yX11_refuse, Cond.instanceMethod yX11_refuse, Cond.selects RX11 yX11_refuse yX11_refuse, Cond.code yX11_refuse cX11_refuse 2 (some .int), Cond.fieldLink RX11 7 "ShipOfficeModel" "refusals" "[I", Cond.methodLink RX11 269 yX11_aboardOf, Cond.instanceMethod yX11_aboardOf, Cond.selects RX11 yX11_aboardOf yX11_aboardOf, Cond.code yX11_aboardOf cX11_aboardOf 6 (some .int), Cond.fieldLink RX11 168 "ShipOfficeModel" "agreements" "I"]
def wsX11_aboard_r2 : List Cond := [Cond.fieldLink RX11 73 "ShipOfficeModel" "voyage" "[I", Cond.methodLink RX11 266 yX11_stateOf, Cond.instanceMethod yX11_stateOf, Cond.selects RX11 yX11_stateOf yX11_stateOf, Cond.code yX11_stateOf cX11_stateOf 5 (some .int), Cond.fieldLink RX11 85 "ShipOfficeModel" "signed" "[I", Cond.fieldLink RX11 88 "ShipOfficeModel" "offOn" "[I", Cond.fieldLink RX11 40 "ShipOfficeModel" "what" "[I", Cond.methodLink RX11 288 yX11_isDead, Cond.instanceMethod yX11_isDead, Cond.selects RX11 yX11_isDead yX11_isDead, Cond.code yX11_isDead cX11_isDead 5 (some .boolean), Cond.fieldLink RX11 179 "ShipOfficeModel" "happened" "I", Cond.fieldLink RX11 43 "ShipOfficeModel" "whose" "[I", Cond.fieldLink RX11 49 "ShipOfficeModel" "known" "[I", Cond.fieldLink RX11 46 "ShipOfficeModel" "day" "[I", Cond.methodLink RX11 291 yX11_whereOf, Cond.instanceMethod yX11_whereOf, Cond.selects RX11 yX11_whereOf yX11_whereOf, Cond.code yX11_whereOf cX11_whereOf 6 (some .int), Cond.methodLink RX11 281 yX11_hasSailed, Cond.instanceMethod yX11_hasSailed, Cond.selects RX11 yX11_hasSailed yX11_hasSailed, Cond.code yX11_hasSailed cX11_hasSailed 5 (some .boolean)]
def wsX11_aboard_r3 : List Cond := [Cond.methodLink RX11 278 yX11_sailedOn, Cond.instanceMethod yX11_sailedOn, Cond.selects RX11 yX11_sailedOn yX11_sailedOn, Cond.code yX11_sailedOn cX11_sailedOn 4 (some .int), Cond.methodLink RX11 294 yX11_isUnknown, Cond.instanceMethod yX11_isUnknown, Cond.selects RX11 yX11_isUnknown yX11_isUnknown, Cond.code yX11_isUnknown cX11_isUnknown 4 (some .boolean), Cond.methodLink RX11 275 yX11_bare, Cond.instanceMethod yX11_bare, Cond.selects RX11 yX11_bare yX11_bare, Cond.code yX11_bare cX11_bare 2 none, Cond.fieldLink RX11 128 "ShipOfficeModel" "letters" "[I", Cond.methodLink RX11 272 yX11_lastHeard, Cond.instanceMethod yX11_lastHeard, Cond.selects RX11 yX11_lastHeard yX11_lastHeard, Cond.code yX11_lastHeard cX11_lastHeard 6 (some .int), Cond.methodLink RX11 285 yX11_worth, Cond.instanceMethod yX11_worth, Cond.selects RX11 yX11_worth yX11_worth, Cond.code yX11_worth cX11_worth 4 (some .int), Cond.fieldLink RX11 58 "ShipOfficeModel" "textSize" "[I", Cond.methodLink RX11 263 yX11_actOn, Cond.instanceMethod yX11_actOn]
def wsX11_aboard_r4 : List Cond := [Cond.selects RX11 yX11_actOn yX11_actOn, Cond.code yX11_actOn cX11_actOn 5 (some .int), Cond.fieldLink RX11 256 "ShipOfficeModel" "acts" "I", Cond.fieldLink RX11 61 "ShipOfficeModel" "purpose" "[I", Cond.fieldLink RX11 64 "ShipOfficeModel" "from" "[I", Cond.methodLink RX11 259 yX11_goesThrough, Cond.instanceMethod yX11_goesThrough, Cond.selects RX11 yX11_goesThrough yX11_goesThrough, Cond.code yX11_goesThrough cX11_goesThrough 3 (some .int), Cond.fieldLink RX11 216 "ShipOfficeModel" "base" "I", Cond.fieldLink RX11 213 "ShipOfficeModel" "size" "I", Cond.fieldLink RX11 210 "ShipOfficeModel" "at" "I", Cond.fieldLink RX11 244 "ShipOfficeModel" "deep" "I", Cond.fieldLink RX11 223 "ShipOfficeModel" "isWell" "Z", Cond.methodLink RX11 250 yX11_sum, Cond.instanceMethod yX11_sum, Cond.selects RX11 yX11_sum yX11_sum, Cond.code yX11_sum cX11_sum 4 (some .int), Cond.methodLink RX11 231 yX11_term, Cond.instanceMethod yX11_term, Cond.selects RX11 yX11_term yX11_term, Cond.methodLink RX11 227 yX11_sign, Cond.instanceMethod yX11_sign, Cond.selects RX11 yX11_sign yX11_sign]
def wsX11_aboard_r5 : List Cond := [Cond.code yX11_sign cX11_sign 1 (some .int), Cond.fieldLink RX11 125 "ShipOfficeModel" "tape" "[I", Cond.fieldLink RX11 67 "ShipOfficeModel" "text" "[I", Cond.methodLink RX11 234 yX11_held, Cond.static yX11_held, Cond.code yX11_held cX11_held 2 (some .int), Cond.constantLong RX11 219 (1000000000), Cond.constantLong RX11 221 (-1000000000), Cond.code yX11_term cX11_term 4 (some .int), Cond.methodLink RX11 238 yX11_unit, Cond.instanceMethod yX11_unit, Cond.selects RX11 yX11_unit yX11_unit, Cond.code yX11_unit cX11_unit 5 (some .int), Cond.methodLink RX11 241 yX11_isLetter, Cond.static yX11_isLetter, Cond.code yX11_isLetter cX11_isLetter 1 (some .boolean), Cond.methodLink RX11 247 yX11_breaks, Cond.instanceMethod yX11_breaks, Cond.selects RX11 yX11_breaks yX11_breaks, Cond.code yX11_breaks cX11_breaks 1 (some .int), Cond.methodLink RX11 253 yX11_takes, Cond.instanceMethod yX11_takes, Cond.selects RX11 yX11_takes yX11_takes, Cond.code yX11_takes cX11_takes 2 (some .boolean)]
def wsX11_aboard : List Cond := .code yX11_aboard cX11_aboard 5 (some .int) :: ((wsX11_aboard_r1 ++ (wsX11_aboard_r2 ++ (wsX11_aboard_r3 ++ (wsX11_aboard_r4 ++ wsX11_aboard_r5)))) ++ wsX110)
theorem il_X11_aboard_1 : ∀ w ∈ wsX11_aboard_r1, w ∈ wsX11_aboard := fun w h => (List.mem_cons_of_mem _ (List.mem_append_left _ (List.mem_append_left _ h)))
theorem il_X11_aboard_2 : ∀ w ∈ wsX11_aboard_r2, w ∈ wsX11_aboard := fun w h => (List.mem_cons_of_mem _ (List.mem_append_left _ (List.mem_append_right _ (List.mem_append_left _ h))))
theorem il_X11_aboard_3 : ∀ w ∈ wsX11_aboard_r3, w ∈ wsX11_aboard := fun w h => (List.mem_cons_of_mem _ (List.mem_append_left _ (List.mem_append_right _ (List.mem_append_right _ (List.mem_append_left _ h)))))
theorem il_X11_aboard_4 : ∀ w ∈ wsX11_aboard_r4, w ∈ wsX11_aboard := fun w h => (List.mem_cons_of_mem _ (List.mem_append_left _ (List.mem_append_right _ (List.mem_append_right _ (List.mem_append_right _ (List.mem_append_left _ h))))))
theorem il_X11_aboard_5 : ∀ w ∈ wsX11_aboard_r5, w ∈ wsX11_aboard := fun w h => (List.mem_cons_of_mem _ (List.mem_append_left _ (List.mem_append_right _ (List.mem_append_right _ (List.mem_append_right _ (List.mem_append_right _ h))))))
theorem il_X11_aboard_6 : ∀ w ∈ wsX110, w ∈ wsX11_aboard := fun w h => (List.mem_cons_of_mem _ (List.mem_append_right _ h))
set_option maxRecDepth 100000 in
theorem ggX11_off_X11_isAgreement : GoodIn wsX11_off wsX11_isAgreement := goodIn_sub (mmC (mmI il_X11_off_1 6 rfl) (mmA (mmC (mmI il_X11_off_1 7 rfl) (mmC (mmI il_X11_off_1 8 rfl) (mmC (mmI il_X11_off_1 9 rfl) (mmC (mmI il_X11_off_1 5 rfl) (mmC (mmI il_X11_off_1 10 rfl) mmN))))) il_X11_off_3)) gw_X11_isAgreement
theorem gX11_off_X11_isAgreement : GoodIn wsX11_off (wsV RX11 199 RX11 yX11_isAgreement wsX11_isAgreement) := goodIn_app (goodIn_sub (mmC (mmI il_X11_off_1 2 rfl) (mmC (mmI il_X11_off_1 3 rfl) (mmC (mmI il_X11_off_1 4 rfl) (mmC (mmI il_X11_off_1 5 rfl) mmN)))) (by decide +kernel)) ggX11_off_X11_isAgreement
set_option maxRecDepth 100000 in
theorem ggX11_off_X11_isPort : GoodIn wsX11_off wsX11_isPort := goodIn_sub (mmC (mmI il_X11_off_1 13 rfl) (mmC (mmI il_X11_off_1 8 rfl) (mmC (mmI il_X11_off_1 9 rfl) (mmC (mmI il_X11_off_1 5 rfl) (mmC (mmI il_X11_off_1 10 rfl) mmN))))) gw_X11_isPort
set_option maxRecDepth 20000 in
theorem gX11_off_X11_isPort : GoodIn wsX11_off (va_wsS RX11 174 yX11_isPort wsX11_isPort) := goodIn_app (goodIn_of _ (by decide +kernel)) ggX11_off_X11_isPort
set_option maxRecDepth 100000 in
theorem ggX11_off_X11_refuse : GoodIn wsX11_off wsX11_refuse := goodIn_sub (mmC (mmI il_X11_off_1 17 rfl) (mmA (mmC (mmI il_X11_off_1 18 rfl) mmN) il_X11_off_3)) gw_X11_refuse
theorem gX11_off_X11_refuse : GoodIn wsX11_off (wsV RX11 153 RX11 yX11_refuse wsX11_refuse) := goodIn_app (goodIn_sub (mmC (mmI il_X11_off_1 14 rfl) (mmC (mmI il_X11_off_1 15 rfl) (mmC (mmI il_X11_off_1 16 rfl) (mmC (mmI il_X11_off_1 5 rfl) mmN)))) (by decide +kernel)) ggX11_off_X11_refuse
set_option maxRecDepth 100000 in
theorem ggX11_off_X11_goesOn : GoodIn wsX11_off wsX11_goesOn := goodIn_sub (mmC (mmI il_X11_off_1 22 rfl) (mmA (mmC (mmI il_X11_off_1 0 rfl) (mmC (mmI il_X11_off_1 23 rfl) (mmC (mmI il_X11_off_2 0 rfl) (mmC (mmI il_X11_off_2 1 rfl) (mmC (mmI il_X11_off_2 2 rfl) (mmC (mmI il_X11_off_1 5 rfl) (mmC (mmI il_X11_off_2 3 rfl) (mmC (mmI il_X11_off_2 4 rfl) (mmC (mmI il_X11_off_2 5 rfl) (mmC (mmI il_X11_off_2 6 rfl) mmN)))))))))) il_X11_off_3)) gw_X11_goesOn
theorem gX11_off_X11_goesOn : GoodIn wsX11_off (wsV RX11 188 RX11 yX11_goesOn wsX11_goesOn) := goodIn_app (goodIn_sub (mmC (mmI il_X11_off_1 19 rfl) (mmC (mmI il_X11_off_1 20 rfl) (mmC (mmI il_X11_off_1 21 rfl) (mmC (mmI il_X11_off_1 5 rfl) mmN)))) (by decide +kernel)) ggX11_off_X11_goesOn
theorem dX11_off_0 : decode cX11_off 0 = .ok (.aload_n 0, 1) := by decide +kernel
theorem dX11_off_1 : decode cX11_off 1 = .ok (.iload_n 1, 1) := by decide +kernel
theorem dX11_off_2 : decode cX11_off 2 = .ok (.invokevirtual 199, 3) := by decide +kernel
theorem dX11_off_5 : decode cX11_off 5 = .ok (.ifCond .eq 10, 3) := by decide +kernel
theorem dX11_off_8 : decode cX11_off 8 = .ok (.iload_n 2, 1) := by decide +kernel
theorem dX11_off_9 : decode cX11_off 9 = .ok (.invokestatic 174, 3) := by decide +kernel
theorem dX11_off_12 : decode cX11_off 12 = .ok (.ifCond .ne 9, 3) := by decide +kernel
theorem dX11_off_15 : decode cX11_off 15 = .ok (.aload_n 0, 1) := by decide +kernel
theorem dX11_off_16 : decode cX11_off 16 = .ok (.iconst (-1), 1) := by decide +kernel
theorem dX11_off_17 : decode cX11_off 17 = .ok (.invokevirtual 153, 3) := by decide +kernel
theorem dX11_off_20 : decode cX11_off 20 = .ok (.ireturn, 1) := by decide +kernel
theorem dX11_off_21 : decode cX11_off 21 = .ok (.aload_n 0, 1) := by decide +kernel
theorem dX11_off_22 : decode cX11_off 22 = .ok (.iload_n 1, 1) := by decide +kernel
theorem dX11_off_23 : decode cX11_off 23 = .ok (.invokevirtual 188, 3) := by decide +kernel
theorem dX11_off_26 : decode cX11_off 26 = .ok (.ifCond .ne 10, 3) := by decide +kernel
theorem dX11_off_29 : decode cX11_off 29 = .ok (.aload_n 0, 1) := by decide +kernel
theorem dX11_off_30 : decode cX11_off 30 = .ok (.bipush (-3), 2) := by decide +kernel
theorem dX11_off_32 : decode cX11_off 32 = .ok (.invokevirtual 153, 3) := by decide +kernel
theorem dX11_off_35 : decode cX11_off 35 = .ok (.ireturn, 1) := by decide +kernel
theorem dX11_off_36 : decode cX11_off 36 = .ok (.aload_n 0, 1) := by decide +kernel
theorem dX11_off_37 : decode cX11_off 37 = .ok (.getfield 88, 3) := by decide +kernel
theorem dX11_off_40 : decode cX11_off 40 = .ok (.iload_n 1, 1) := by decide +kernel
theorem dX11_off_41 : decode cX11_off 41 = .ok (.aload_n 0, 1) := by decide +kernel
theorem dX11_off_42 : decode cX11_off 42 = .ok (.getfield 171, 3) := by decide +kernel
theorem dX11_off_45 : decode cX11_off 45 = .ok (.iastore, 1) := by decide +kernel
theorem dX11_off_46 : decode cX11_off 46 = .ok (.iconst 1, 1) := by decide +kernel
theorem dX11_off_47 : decode cX11_off 47 = .ok (.ireturn, 1) := by decide +kernel
set_option maxRecDepth 100000 in
theorem ggX11_state_X11_isAgreement : GoodIn wsX11_state wsX11_isAgreement := goodIn_sub (mmC (mmI il_X11_state_1 4 rfl) (mmA (mmC (mmI il_X11_state_1 5 rfl) (mmC (mmI il_X11_state_1 6 rfl) (mmC (mmI il_X11_state_1 7 rfl) (mmC (mmI il_X11_state_1 3 rfl) (mmC (mmI il_X11_state_1 8 rfl) mmN))))) il_X11_state_6)) gw_X11_isAgreement
theorem gX11_state_X11_isAgreement : GoodIn wsX11_state (wsV RX11 199 RX11 yX11_isAgreement wsX11_isAgreement) := goodIn_app (goodIn_sub (mmC (mmI il_X11_state_1 0 rfl) (mmC (mmI il_X11_state_1 1 rfl) (mmC (mmI il_X11_state_1 2 rfl) (mmC (mmI il_X11_state_1 3 rfl) mmN)))) (by decide +kernel)) ggX11_state_X11_isAgreement
set_option maxRecDepth 100000 in
theorem ggX11_state_X11_wrongTimes : GoodIn wsX11_state wsX11_wrongTimes := goodIn_sub (mmC (mmI il_X11_state_1 12 rfl) (mmA (mmC (mmI il_X11_state_1 13 rfl) mmN) il_X11_state_6)) gw_X11_wrongTimes
theorem gX11_state_X11_wrongTimes : GoodIn wsX11_state (wsV RX11 300 RX11 yX11_wrongTimes wsX11_wrongTimes) := goodIn_app (goodIn_sub (mmC (mmI il_X11_state_1 9 rfl) (mmC (mmI il_X11_state_1 10 rfl) (mmC (mmI il_X11_state_1 11 rfl) (mmC (mmI il_X11_state_1 3 rfl) mmN)))) (by decide +kernel)) ggX11_state_X11_wrongTimes
set_option maxRecDepth 100000 in
theorem ggX11_state_X11_refuse : GoodIn wsX11_state wsX11_refuse := goodIn_sub (mmC (mmI il_X11_state_1 17 rfl) (mmA (mmC (mmI il_X11_state_1 18 rfl) mmN) il_X11_state_6)) gw_X11_refuse
theorem gX11_state_X11_refuse : GoodIn wsX11_state (wsV RX11 153 RX11 yX11_refuse wsX11_refuse) := goodIn_app (goodIn_sub (mmC (mmI il_X11_state_1 14 rfl) (mmC (mmI il_X11_state_1 15 rfl) (mmC (mmI il_X11_state_1 16 rfl) (mmC (mmI il_X11_state_1 3 rfl) mmN)))) (by decide +kernel)) ggX11_state_X11_refuse
set_option maxRecDepth 100000 in
theorem ggX11_state_X11_stateOf : GoodIn wsX11_state wsX11_stateOf := goodIn_sub (mmC (mmI il_X11_state_1 22 rfl) (mmA (mmA (mmC (mmI il_X11_state_1 23 rfl) (mmC (mmI il_X11_state_2 0 rfl) (mmC (mmI il_X11_state_2 1 rfl) (mmC (mmI il_X11_state_2 2 rfl) (mmC (mmI il_X11_state_2 3 rfl) (mmC (mmI il_X11_state_2 4 rfl) (mmC (mmI il_X11_state_2 5 rfl) (mmC (mmI il_X11_state_1 3 rfl) (mmC (mmI il_X11_state_2 6 rfl) (mmC (mmI il_X11_state_2 7 rfl) (mmC (mmI il_X11_state_2 8 rfl) (mmC (mmI il_X11_state_2 9 rfl) (mmC (mmI il_X11_state_2 10 rfl) (mmC (mmI il_X11_state_2 11 rfl) (mmC (mmI il_X11_state_2 12 rfl) (mmC (mmI il_X11_state_2 13 rfl) (mmC (mmI il_X11_state_2 14 rfl) (mmC (mmI il_X11_state_2 15 rfl) (mmC (mmI il_X11_state_2 16 rfl) (mmC (mmI il_X11_state_2 17 rfl) (mmC (mmI il_X11_state_2 18 rfl) (mmC (mmI il_X11_state_2 19 rfl) (mmC (mmI il_X11_state_2 20 rfl) (mmC (mmI il_X11_state_2 21 rfl) mmN)))))))))))))))))))))))) (mmA (mmC (mmI il_X11_state_2 22 rfl) (mmC (mmI il_X11_state_2 23 rfl) (mmC (mmI il_X11_state_3 0 rfl) (mmC (mmI il_X11_state_3 1 rfl) (mmC (mmI il_X11_state_3 2 rfl) (mmC (mmI il_X11_state_3 3 rfl) (mmC (mmI il_X11_state_3 4 rfl) (mmC (mmI il_X11_state_3 5 rfl) (mmC (mmI il_X11_state_3 6 rfl) (mmC (mmI il_X11_state_3 7 rfl) (mmC (mmI il_X11_state_3 8 rfl) (mmC (mmI il_X11_state_3 9 rfl) (mmC (mmI il_X11_state_3 10 rfl) (mmC (mmI il_X11_state_3 11 rfl) (mmC (mmI il_X11_state_3 12 rfl) (mmC (mmI il_X11_state_3 13 rfl) (mmC (mmI il_X11_state_3 14 rfl) (mmC (mmI il_X11_state_3 15 rfl) (mmC (mmI il_X11_state_3 16 rfl) (mmC (mmI il_X11_state_3 17 rfl) (mmC (mmI il_X11_state_3 18 rfl) (mmC (mmI il_X11_state_3 19 rfl) (mmC (mmI il_X11_state_3 20 rfl) (mmC (mmI il_X11_state_3 21 rfl) mmN)))))))))))))))))))))))) (mmA (mmC (mmI il_X11_state_3 22 rfl) (mmC (mmI il_X11_state_3 23 rfl) (mmC (mmI il_X11_state_4 0 rfl) (mmC (mmI il_X11_state_4 1 rfl) (mmC (mmI il_X11_state_4 2 rfl) (mmC (mmI il_X11_state_4 3 rfl) (mmC (mmI il_X11_state_4 4 rfl) (mmC (mmI il_X11_state_4 5 rfl) (mmC (mmI il_X11_state_4 6 rfl) (mmC (mmI il_X11_state_4 7 rfl) (mmC (mmI il_X11_state_4 8 rfl) (mmC (mmI il_X11_state_4 9 rfl) (mmC (mmI il_X11_state_4 10 rfl) (mmC (mmI il_X11_state_4 11 rfl) (mmC (mmI il_X11_state_4 12 rfl) (mmC (mmI il_X11_state_4 13 rfl) (mmC (mmI il_X11_state_4 14 rfl) (mmC (mmI il_X11_state_4 15 rfl) (mmC (mmI il_X11_state_4 16 rfl) (mmC (mmI il_X11_state_4 17 rfl) (mmC (mmI il_X11_state_4 18 rfl) (mmC (mmI il_X11_state_4 19 rfl) (mmC (mmI il_X11_state_4 20 rfl) (mmC (mmI il_X11_state_4 21 rfl) mmN)))))))))))))))))))))))) (mmC (mmI il_X11_state_4 22 rfl) (mmC (mmI il_X11_state_4 23 rfl) (mmC (mmI il_X11_state_5 0 rfl) (mmC (mmI il_X11_state_5 1 rfl) (mmC (mmI il_X11_state_5 2 rfl) (mmC (mmI il_X11_state_5 3 rfl) (mmC (mmI il_X11_state_5 4 rfl) (mmC (mmI il_X11_state_5 5 rfl) (mmC (mmI il_X11_state_5 6 rfl) (mmC (mmI il_X11_state_5 7 rfl) (mmC (mmI il_X11_state_5 8 rfl) (mmC (mmI il_X11_state_5 9 rfl) (mmC (mmI il_X11_state_5 10 rfl) (mmC (mmI il_X11_state_5 11 rfl) (mmC (mmI il_X11_state_5 12 rfl) (mmC (mmI il_X11_state_5 13 rfl) (mmC (mmI il_X11_state_5 14 rfl) (mmC (mmI il_X11_state_5 15 rfl) (mmC (mmI il_X11_state_5 16 rfl) (mmC (mmI il_X11_state_5 17 rfl) (mmC (mmI il_X11_state_5 18 rfl) mmN)))))))))))))))))))))))) il_X11_state_6)) gw_X11_stateOf
theorem gX11_state_X11_stateOf : GoodIn wsX11_state (wsV RX11 266 RX11 yX11_stateOf wsX11_stateOf) := goodIn_app (goodIn_sub (mmC (mmI il_X11_state_1 19 rfl) (mmC (mmI il_X11_state_1 20 rfl) (mmC (mmI il_X11_state_1 21 rfl) (mmC (mmI il_X11_state_1 3 rfl) mmN)))) (by decide +kernel)) ggX11_state_X11_stateOf
theorem dX11_state_0 : decode cX11_state 0 = .ok (.aload_n 0, 1) := by decide +kernel
theorem dX11_state_1 : decode cX11_state 1 = .ok (.iload_n 1, 1) := by decide +kernel
theorem dX11_state_2 : decode cX11_state 2 = .ok (.invokevirtual 199, 3) := by decide +kernel
theorem dX11_state_5 : decode cX11_state 5 = .ok (.ifCond .eq 12, 3) := by decide +kernel
theorem dX11_state_8 : decode cX11_state 8 = .ok (.aload_n 0, 1) := by decide +kernel
theorem dX11_state_9 : decode cX11_state 9 = .ok (.iload_n 2, 1) := by decide +kernel
theorem dX11_state_10 : decode cX11_state 10 = .ok (.iload_n 3, 1) := by decide +kernel
theorem dX11_state_11 : decode cX11_state 11 = .ok (.invokevirtual 300, 3) := by decide +kernel
theorem dX11_state_14 : decode cX11_state 14 = .ok (.goto 4, 3) := by decide +kernel
theorem dX11_state_17 : decode cX11_state 17 = .ok (.iconst (-1), 1) := by decide +kernel
theorem dX11_state_18 : decode cX11_state 18 = .ok (.istore 4, 2) := by decide +kernel
theorem dX11_state_20 : decode cX11_state 20 = .ok (.iload 4, 2) := by decide +kernel
theorem dX11_state_22 : decode cX11_state 22 = .ok (.ifCond .eq 12, 3) := by decide +kernel
theorem dX11_state_25 : decode cX11_state 25 = .ok (.aload_n 0, 1) := by decide +kernel
theorem dX11_state_26 : decode cX11_state 26 = .ok (.iload 4, 2) := by decide +kernel
theorem dX11_state_28 : decode cX11_state 28 = .ok (.invokevirtual 153, 3) := by decide +kernel
theorem dX11_state_31 : decode cX11_state 31 = .ok (.goto 10, 3) := by decide +kernel
theorem dX11_state_34 : decode cX11_state 34 = .ok (.aload_n 0, 1) := by decide +kernel
theorem dX11_state_35 : decode cX11_state 35 = .ok (.iload_n 1, 1) := by decide +kernel
theorem dX11_state_36 : decode cX11_state 36 = .ok (.iload_n 2, 1) := by decide +kernel
theorem dX11_state_37 : decode cX11_state 37 = .ok (.iload_n 3, 1) := by decide +kernel
theorem dX11_state_38 : decode cX11_state 38 = .ok (.invokevirtual 266, 3) := by decide +kernel
theorem dX11_state_41 : decode cX11_state 41 = .ok (.ireturn, 1) := by decide +kernel
set_option maxRecDepth 100000 in
theorem ggX11_earns_X11_isAgreement : GoodIn wsX11_earns wsX11_isAgreement := goodIn_sub (mmC (mmI il_X11_earns_1 4 rfl) (mmA (mmC (mmI il_X11_earns_1 5 rfl) (mmC (mmI il_X11_earns_1 6 rfl) (mmC (mmI il_X11_earns_1 7 rfl) (mmC (mmI il_X11_earns_1 3 rfl) (mmC (mmI il_X11_earns_1 8 rfl) mmN))))) il_X11_earns_6)) gw_X11_isAgreement
theorem gX11_earns_X11_isAgreement : GoodIn wsX11_earns (wsV RX11 199 RX11 yX11_isAgreement wsX11_isAgreement) := goodIn_app (goodIn_sub (mmC (mmI il_X11_earns_1 0 rfl) (mmC (mmI il_X11_earns_1 1 rfl) (mmC (mmI il_X11_earns_1 2 rfl) (mmC (mmI il_X11_earns_1 3 rfl) mmN)))) (by decide +kernel)) ggX11_earns_X11_isAgreement
set_option maxRecDepth 100000 in
theorem ggX11_earns_X11_wrongTimes : GoodIn wsX11_earns wsX11_wrongTimes := goodIn_sub (mmC (mmI il_X11_earns_1 12 rfl) (mmA (mmC (mmI il_X11_earns_1 13 rfl) mmN) il_X11_earns_6)) gw_X11_wrongTimes
theorem gX11_earns_X11_wrongTimes : GoodIn wsX11_earns (wsV RX11 300 RX11 yX11_wrongTimes wsX11_wrongTimes) := goodIn_app (goodIn_sub (mmC (mmI il_X11_earns_1 9 rfl) (mmC (mmI il_X11_earns_1 10 rfl) (mmC (mmI il_X11_earns_1 11 rfl) (mmC (mmI il_X11_earns_1 3 rfl) mmN)))) (by decide +kernel)) ggX11_earns_X11_wrongTimes
set_option maxRecDepth 100000 in
theorem ggX11_earns_X11_refuse : GoodIn wsX11_earns wsX11_refuse := goodIn_sub (mmC (mmI il_X11_earns_1 17 rfl) (mmA (mmC (mmI il_X11_earns_1 18 rfl) mmN) il_X11_earns_6)) gw_X11_refuse
theorem gX11_earns_X11_refuse : GoodIn wsX11_earns (wsV RX11 153 RX11 yX11_refuse wsX11_refuse) := goodIn_app (goodIn_sub (mmC (mmI il_X11_earns_1 14 rfl) (mmC (mmI il_X11_earns_1 15 rfl) (mmC (mmI il_X11_earns_1 16 rfl) (mmC (mmI il_X11_earns_1 3 rfl) mmN)))) (by decide +kernel)) ggX11_earns_X11_refuse
set_option maxRecDepth 100000 in
theorem ggX11_earns_X11_earnsOf : GoodIn wsX11_earns wsX11_earnsOf := goodIn_sub (mmC (mmI il_X11_earns_1 22 rfl) (mmA (mmA (mmC (mmI il_X11_earns_1 23 rfl) (mmC (mmI il_X11_earns_2 0 rfl) (mmC (mmI il_X11_earns_2 1 rfl) (mmC (mmI il_X11_earns_2 2 rfl) (mmC (mmI il_X11_earns_2 3 rfl) (mmC (mmI il_X11_earns_1 3 rfl) (mmC (mmI il_X11_earns_2 4 rfl) (mmC (mmI il_X11_earns_2 5 rfl) (mmC (mmI il_X11_earns_2 6 rfl) (mmC (mmI il_X11_earns_2 7 rfl) (mmC (mmI il_X11_earns_2 8 rfl) (mmC (mmI il_X11_earns_2 9 rfl) (mmC (mmI il_X11_earns_2 10 rfl) (mmC (mmI il_X11_earns_2 11 rfl) (mmC (mmI il_X11_earns_2 12 rfl) (mmC (mmI il_X11_earns_2 13 rfl) (mmC (mmI il_X11_earns_2 14 rfl) (mmC (mmI il_X11_earns_2 15 rfl) (mmC (mmI il_X11_earns_2 16 rfl) (mmC (mmI il_X11_earns_2 17 rfl) (mmC (mmI il_X11_earns_2 18 rfl) (mmC (mmI il_X11_earns_2 19 rfl) (mmC (mmI il_X11_earns_2 20 rfl) (mmC (mmI il_X11_earns_2 21 rfl) mmN)))))))))))))))))))))))) (mmA (mmC (mmI il_X11_earns_2 22 rfl) (mmC (mmI il_X11_earns_2 23 rfl) (mmC (mmI il_X11_earns_3 0 rfl) (mmC (mmI il_X11_earns_3 1 rfl) (mmC (mmI il_X11_earns_3 2 rfl) (mmC (mmI il_X11_earns_3 3 rfl) (mmC (mmI il_X11_earns_3 4 rfl) (mmC (mmI il_X11_earns_3 5 rfl) (mmC (mmI il_X11_earns_3 6 rfl) (mmC (mmI il_X11_earns_3 7 rfl) (mmC (mmI il_X11_earns_3 8 rfl) (mmC (mmI il_X11_earns_3 9 rfl) (mmC (mmI il_X11_earns_3 10 rfl) (mmC (mmI il_X11_earns_3 11 rfl) (mmC (mmI il_X11_earns_3 12 rfl) (mmC (mmI il_X11_earns_3 13 rfl) (mmC (mmI il_X11_earns_3 14 rfl) (mmC (mmI il_X11_earns_3 15 rfl) (mmC (mmI il_X11_earns_3 16 rfl) (mmC (mmI il_X11_earns_3 17 rfl) (mmC (mmI il_X11_earns_3 18 rfl) (mmC (mmI il_X11_earns_3 19 rfl) (mmC (mmI il_X11_earns_3 20 rfl) (mmC (mmI il_X11_earns_3 21 rfl) mmN)))))))))))))))))))))))) (mmA (mmC (mmI il_X11_earns_3 22 rfl) (mmC (mmI il_X11_earns_3 23 rfl) (mmC (mmI il_X11_earns_4 0 rfl) (mmC (mmI il_X11_earns_4 1 rfl) (mmC (mmI il_X11_earns_4 2 rfl) (mmC (mmI il_X11_earns_4 3 rfl) (mmC (mmI il_X11_earns_4 4 rfl) (mmC (mmI il_X11_earns_4 5 rfl) (mmC (mmI il_X11_earns_4 6 rfl) (mmC (mmI il_X11_earns_4 7 rfl) (mmC (mmI il_X11_earns_4 8 rfl) (mmC (mmI il_X11_earns_4 9 rfl) (mmC (mmI il_X11_earns_4 10 rfl) (mmC (mmI il_X11_earns_4 11 rfl) (mmC (mmI il_X11_earns_4 12 rfl) (mmC (mmI il_X11_earns_4 13 rfl) (mmC (mmI il_X11_earns_4 14 rfl) (mmC (mmI il_X11_earns_4 15 rfl) (mmC (mmI il_X11_earns_4 16 rfl) (mmC (mmI il_X11_earns_4 17 rfl) (mmC (mmI il_X11_earns_4 18 rfl) (mmC (mmI il_X11_earns_4 19 rfl) (mmC (mmI il_X11_earns_4 20 rfl) (mmC (mmI il_X11_earns_4 21 rfl) mmN)))))))))))))))))))))))) (mmA (mmC (mmI il_X11_earns_4 22 rfl) (mmC (mmI il_X11_earns_4 23 rfl) (mmC (mmI il_X11_earns_5 0 rfl) (mmC (mmI il_X11_earns_5 1 rfl) (mmC (mmI il_X11_earns_5 2 rfl) (mmC (mmI il_X11_earns_5 3 rfl) (mmC (mmI il_X11_earns_5 4 rfl) (mmC (mmI il_X11_earns_5 5 rfl) (mmC (mmI il_X11_earns_5 6 rfl) (mmC (mmI il_X11_earns_5 7 rfl) (mmC (mmI il_X11_earns_5 8 rfl) (mmC (mmI il_X11_earns_5 9 rfl) (mmC (mmI il_X11_earns_5 10 rfl) (mmC (mmI il_X11_earns_5 11 rfl) (mmC (mmI il_X11_earns_5 12 rfl) (mmC (mmI il_X11_earns_5 13 rfl) (mmC (mmI il_X11_earns_5 14 rfl) (mmC (mmI il_X11_earns_5 15 rfl) (mmC (mmI il_X11_earns_5 16 rfl) (mmC (mmI il_X11_earns_5 17 rfl) (mmC (mmI il_X11_earns_5 18 rfl) (mmC (mmI il_X11_earns_5 19 rfl) (mmC (mmI il_X11_earns_5 20 rfl) (mmC (mmI il_X11_earns_5 21 rfl) mmN)))))))))))))))))))))))) (mmC (mmI il_X11_earns_5 22 rfl) (mmC (mmI il_X11_earns_1 6 rfl) (mmC (mmI il_X11_earns_1 7 rfl) (mmC (mmI il_X11_earns_1 8 rfl) mmN)))))))) il_X11_earns_6)) gw_X11_earnsOf
theorem gX11_earns_X11_earnsOf : GoodIn wsX11_earns (wsV RX11 303 RX11 yX11_earnsOf wsX11_earnsOf) := goodIn_app (goodIn_sub (mmC (mmI il_X11_earns_1 19 rfl) (mmC (mmI il_X11_earns_1 20 rfl) (mmC (mmI il_X11_earns_1 21 rfl) (mmC (mmI il_X11_earns_1 3 rfl) mmN)))) (by decide +kernel)) ggX11_earns_X11_earnsOf
theorem dX11_earns_0 : decode cX11_earns 0 = .ok (.aload_n 0, 1) := by decide +kernel
theorem dX11_earns_1 : decode cX11_earns 1 = .ok (.iload_n 1, 1) := by decide +kernel
theorem dX11_earns_2 : decode cX11_earns 2 = .ok (.invokevirtual 199, 3) := by decide +kernel
theorem dX11_earns_5 : decode cX11_earns 5 = .ok (.ifCond .eq 12, 3) := by decide +kernel
theorem dX11_earns_8 : decode cX11_earns 8 = .ok (.aload_n 0, 1) := by decide +kernel
theorem dX11_earns_9 : decode cX11_earns 9 = .ok (.iload_n 2, 1) := by decide +kernel
theorem dX11_earns_10 : decode cX11_earns 10 = .ok (.iload_n 3, 1) := by decide +kernel
theorem dX11_earns_11 : decode cX11_earns 11 = .ok (.invokevirtual 300, 3) := by decide +kernel
theorem dX11_earns_14 : decode cX11_earns 14 = .ok (.goto 4, 3) := by decide +kernel
theorem dX11_earns_17 : decode cX11_earns 17 = .ok (.iconst (-1), 1) := by decide +kernel
theorem dX11_earns_18 : decode cX11_earns 18 = .ok (.istore 4, 2) := by decide +kernel
theorem dX11_earns_20 : decode cX11_earns 20 = .ok (.iload 4, 2) := by decide +kernel
theorem dX11_earns_22 : decode cX11_earns 22 = .ok (.ifCond .eq 12, 3) := by decide +kernel
theorem dX11_earns_25 : decode cX11_earns 25 = .ok (.aload_n 0, 1) := by decide +kernel
theorem dX11_earns_26 : decode cX11_earns 26 = .ok (.iload 4, 2) := by decide +kernel
theorem dX11_earns_28 : decode cX11_earns 28 = .ok (.invokevirtual 153, 3) := by decide +kernel
theorem dX11_earns_31 : decode cX11_earns 31 = .ok (.goto 10, 3) := by decide +kernel
theorem dX11_earns_34 : decode cX11_earns 34 = .ok (.aload_n 0, 1) := by decide +kernel
theorem dX11_earns_35 : decode cX11_earns 35 = .ok (.iload_n 1, 1) := by decide +kernel
theorem dX11_earns_36 : decode cX11_earns 36 = .ok (.iload_n 2, 1) := by decide +kernel
theorem dX11_earns_37 : decode cX11_earns 37 = .ok (.iload_n 3, 1) := by decide +kernel
theorem dX11_earns_38 : decode cX11_earns 38 = .ok (.invokevirtual 303, 3) := by decide +kernel
theorem dX11_earns_41 : decode cX11_earns 41 = .ok (.ireturn, 1) := by decide +kernel
set_option maxRecDepth 100000 in
theorem ggX11_advance_X11_isAgreement : GoodIn wsX11_advance wsX11_isAgreement := goodIn_sub (mmC (mmI il_X11_advance_1 7 rfl) (mmA (mmC (mmI il_X11_advance_1 8 rfl) (mmC (mmI il_X11_advance_1 9 rfl) (mmC (mmI il_X11_advance_1 10 rfl) (mmC (mmI il_X11_advance_1 6 rfl) (mmC (mmI il_X11_advance_1 11 rfl) mmN))))) il_X11_advance_6)) gw_X11_isAgreement
theorem gX11_advance_X11_isAgreement : GoodIn wsX11_advance (wsV RX11 199 RX11 yX11_isAgreement wsX11_isAgreement) := goodIn_app (goodIn_sub (mmC (mmI il_X11_advance_1 3 rfl) (mmC (mmI il_X11_advance_1 4 rfl) (mmC (mmI il_X11_advance_1 5 rfl) (mmC (mmI il_X11_advance_1 6 rfl) mmN)))) (by decide +kernel)) ggX11_advance_X11_isAgreement
set_option maxRecDepth 100000 in
theorem ggX11_advance_X11_refuse : GoodIn wsX11_advance wsX11_refuse := goodIn_sub (mmC (mmI il_X11_advance_1 15 rfl) (mmA (mmC (mmI il_X11_advance_1 16 rfl) mmN) il_X11_advance_6)) gw_X11_refuse
theorem gX11_advance_X11_refuse : GoodIn wsX11_advance (wsV RX11 153 RX11 yX11_refuse wsX11_refuse) := goodIn_app (goodIn_sub (mmC (mmI il_X11_advance_1 12 rfl) (mmC (mmI il_X11_advance_1 13 rfl) (mmC (mmI il_X11_advance_1 14 rfl) (mmC (mmI il_X11_advance_1 6 rfl) mmN)))) (by decide +kernel)) ggX11_advance_X11_refuse
set_option maxRecDepth 100000 in
theorem ggX11_advance_X11_stateOf : GoodIn wsX11_advance wsX11_stateOf := goodIn_sub (mmC (mmI il_X11_advance_1 20 rfl) (mmA (mmA (mmC (mmI il_X11_advance_1 21 rfl) (mmC (mmI il_X11_advance_1 22 rfl) (mmC (mmI il_X11_advance_1 23 rfl) (mmC (mmI il_X11_advance_2 0 rfl) (mmC (mmI il_X11_advance_2 1 rfl) (mmC (mmI il_X11_advance_2 2 rfl) (mmC (mmI il_X11_advance_2 3 rfl) (mmC (mmI il_X11_advance_1 6 rfl) (mmC (mmI il_X11_advance_2 4 rfl) (mmC (mmI il_X11_advance_2 5 rfl) (mmC (mmI il_X11_advance_2 6 rfl) (mmC (mmI il_X11_advance_2 7 rfl) (mmC (mmI il_X11_advance_2 8 rfl) (mmC (mmI il_X11_advance_2 9 rfl) (mmC (mmI il_X11_advance_2 10 rfl) (mmC (mmI il_X11_advance_2 11 rfl) (mmC (mmI il_X11_advance_2 12 rfl) (mmC (mmI il_X11_advance_2 13 rfl) (mmC (mmI il_X11_advance_2 14 rfl) (mmC (mmI il_X11_advance_2 15 rfl) (mmC (mmI il_X11_advance_2 16 rfl) (mmC (mmI il_X11_advance_2 17 rfl) (mmC (mmI il_X11_advance_2 18 rfl) (mmC (mmI il_X11_advance_2 19 rfl) mmN)))))))))))))))))))))))) (mmA (mmC (mmI il_X11_advance_2 20 rfl) (mmC (mmI il_X11_advance_2 21 rfl) (mmC (mmI il_X11_advance_2 22 rfl) (mmC (mmI il_X11_advance_2 23 rfl) (mmC (mmI il_X11_advance_3 0 rfl) (mmC (mmI il_X11_advance_3 1 rfl) (mmC (mmI il_X11_advance_3 2 rfl) (mmC (mmI il_X11_advance_3 3 rfl) (mmC (mmI il_X11_advance_3 4 rfl) (mmC (mmI il_X11_advance_3 5 rfl) (mmC (mmI il_X11_advance_3 6 rfl) (mmC (mmI il_X11_advance_3 7 rfl) (mmC (mmI il_X11_advance_3 8 rfl) (mmC (mmI il_X11_advance_3 9 rfl) (mmC (mmI il_X11_advance_3 10 rfl) (mmC (mmI il_X11_advance_3 11 rfl) (mmC (mmI il_X11_advance_3 12 rfl) (mmC (mmI il_X11_advance_3 13 rfl) (mmC (mmI il_X11_advance_3 14 rfl) (mmC (mmI il_X11_advance_3 15 rfl) (mmC (mmI il_X11_advance_3 16 rfl) (mmC (mmI il_X11_advance_3 17 rfl) (mmC (mmI il_X11_advance_3 18 rfl) (mmC (mmI il_X11_advance_3 19 rfl) mmN)))))))))))))))))))))))) (mmA (mmC (mmI il_X11_advance_3 20 rfl) (mmC (mmI il_X11_advance_3 21 rfl) (mmC (mmI il_X11_advance_3 22 rfl) (mmC (mmI il_X11_advance_3 23 rfl) (mmC (mmI il_X11_advance_4 0 rfl) (mmC (mmI il_X11_advance_4 1 rfl) (mmC (mmI il_X11_advance_4 2 rfl) (mmC (mmI il_X11_advance_4 3 rfl) (mmC (mmI il_X11_advance_4 4 rfl) (mmC (mmI il_X11_advance_4 5 rfl) (mmC (mmI il_X11_advance_4 6 rfl) (mmC (mmI il_X11_advance_4 7 rfl) (mmC (mmI il_X11_advance_4 8 rfl) (mmC (mmI il_X11_advance_4 9 rfl) (mmC (mmI il_X11_advance_4 10 rfl) (mmC (mmI il_X11_advance_4 11 rfl) (mmC (mmI il_X11_advance_4 12 rfl) (mmC (mmI il_X11_advance_4 13 rfl) (mmC (mmI il_X11_advance_4 14 rfl) (mmC (mmI il_X11_advance_4 15 rfl) (mmC (mmI il_X11_advance_4 16 rfl) (mmC (mmI il_X11_advance_4 17 rfl) (mmC (mmI il_X11_advance_4 18 rfl) (mmC (mmI il_X11_advance_4 19 rfl) mmN)))))))))))))))))))))))) (mmC (mmI il_X11_advance_4 20 rfl) (mmC (mmI il_X11_advance_4 21 rfl) (mmC (mmI il_X11_advance_4 22 rfl) (mmC (mmI il_X11_advance_4 23 rfl) (mmC (mmI il_X11_advance_5 0 rfl) (mmC (mmI il_X11_advance_5 1 rfl) (mmC (mmI il_X11_advance_5 2 rfl) (mmC (mmI il_X11_advance_5 3 rfl) (mmC (mmI il_X11_advance_5 4 rfl) (mmC (mmI il_X11_advance_5 5 rfl) (mmC (mmI il_X11_advance_5 6 rfl) (mmC (mmI il_X11_advance_5 7 rfl) (mmC (mmI il_X11_advance_5 8 rfl) (mmC (mmI il_X11_advance_5 9 rfl) (mmC (mmI il_X11_advance_5 10 rfl) (mmC (mmI il_X11_advance_5 11 rfl) (mmC (mmI il_X11_advance_5 12 rfl) (mmC (mmI il_X11_advance_5 13 rfl) (mmC (mmI il_X11_advance_5 14 rfl) (mmC (mmI il_X11_advance_5 15 rfl) (mmC (mmI il_X11_advance_5 16 rfl) mmN)))))))))))))))))))))))) il_X11_advance_6)) gw_X11_stateOf
theorem gX11_advance_X11_stateOf : GoodIn wsX11_advance (wsV RX11 266 RX11 yX11_stateOf wsX11_stateOf) := goodIn_app (goodIn_sub (mmC (mmI il_X11_advance_1 17 rfl) (mmC (mmI il_X11_advance_1 18 rfl) (mmC (mmI il_X11_advance_1 19 rfl) (mmC (mmI il_X11_advance_1 6 rfl) mmN)))) (by decide +kernel)) ggX11_advance_X11_stateOf
theorem dX11_advance_0 : decode cX11_advance 0 = .ok (.aload_n 0, 1) := by decide +kernel
theorem dX11_advance_1 : decode cX11_advance 1 = .ok (.iload_n 1, 1) := by decide +kernel
theorem dX11_advance_2 : decode cX11_advance 2 = .ok (.invokevirtual 199, 3) := by decide +kernel
theorem dX11_advance_5 : decode cX11_advance 5 = .ok (.ifCond .ne 9, 3) := by decide +kernel
theorem dX11_advance_8 : decode cX11_advance 8 = .ok (.aload_n 0, 1) := by decide +kernel
theorem dX11_advance_9 : decode cX11_advance 9 = .ok (.iconst (-1), 1) := by decide +kernel
theorem dX11_advance_10 : decode cX11_advance 10 = .ok (.invokevirtual 153, 3) := by decide +kernel
theorem dX11_advance_13 : decode cX11_advance 13 = .ok (.ireturn, 1) := by decide +kernel
theorem dX11_advance_14 : decode cX11_advance 14 = .ok (.aload_n 0, 1) := by decide +kernel
theorem dX11_advance_15 : decode cX11_advance 15 = .ok (.getfield 91, 3) := by decide +kernel
theorem dX11_advance_18 : decode cX11_advance 18 = .ok (.iload_n 1, 1) := by decide +kernel
theorem dX11_advance_19 : decode cX11_advance 19 = .ok (.iaload, 1) := by decide +kernel
theorem dX11_advance_20 : decode cX11_advance 20 = .ok (.ifCond .gt 19, 3) := by decide +kernel
theorem dX11_advance_23 : decode cX11_advance 23 = .ok (.aload_n 0, 1) := by decide +kernel
theorem dX11_advance_24 : decode cX11_advance 24 = .ok (.iload_n 1, 1) := by decide +kernel
theorem dX11_advance_25 : decode cX11_advance 25 = .ok (.aload_n 0, 1) := by decide +kernel
theorem dX11_advance_26 : decode cX11_advance 26 = .ok (.getfield 171, 3) := by decide +kernel
theorem dX11_advance_29 : decode cX11_advance 29 = .ok (.aload_n 0, 1) := by decide +kernel
theorem dX11_advance_30 : decode cX11_advance 30 = .ok (.getfield 171, 3) := by decide +kernel
theorem dX11_advance_33 : decode cX11_advance 33 = .ok (.invokevirtual 266, 3) := by decide +kernel
theorem dX11_advance_36 : decode cX11_advance 36 = .ok (.ifCond .eq 10, 3) := by decide +kernel
theorem dX11_advance_39 : decode cX11_advance 39 = .ok (.aload_n 0, 1) := by decide +kernel
theorem dX11_advance_40 : decode cX11_advance 40 = .ok (.bipush (-3), 2) := by decide +kernel
theorem dX11_advance_42 : decode cX11_advance 42 = .ok (.invokevirtual 153, 3) := by decide +kernel
theorem dX11_advance_45 : decode cX11_advance 45 = .ok (.ireturn, 1) := by decide +kernel
theorem dX11_advance_46 : decode cX11_advance 46 = .ok (.iload_n 2, 1) := by decide +kernel
theorem dX11_advance_47 : decode cX11_advance 47 = .ok (.iconst 1, 1) := by decide +kernel
theorem dX11_advance_48 : decode cX11_advance 48 = .ok (.if_icmp .ge 10, 3) := by decide +kernel
theorem dX11_advance_51 : decode cX11_advance 51 = .ok (.aload_n 0, 1) := by decide +kernel
theorem dX11_advance_52 : decode cX11_advance 52 = .ok (.bipush (-4), 2) := by decide +kernel
theorem dX11_advance_54 : decode cX11_advance 54 = .ok (.invokevirtual 153, 3) := by decide +kernel
theorem dX11_advance_57 : decode cX11_advance 57 = .ok (.ireturn, 1) := by decide +kernel
theorem dX11_advance_58 : decode cX11_advance 58 = .ok (.iload_n 2, 1) := by decide +kernel
theorem dX11_advance_59 : decode cX11_advance 59 = .ok (.ldc 178, 2) := by decide +kernel
theorem dX11_advance_61 : decode cX11_advance 61 = .ok (.if_icmp .le 10, 3) := by decide +kernel
theorem dX11_advance_64 : decode cX11_advance 64 = .ok (.aload_n 0, 1) := by decide +kernel
theorem dX11_advance_65 : decode cX11_advance 65 = .ok (.bipush (-6), 2) := by decide +kernel
theorem dX11_advance_67 : decode cX11_advance 67 = .ok (.invokevirtual 153, 3) := by decide +kernel
theorem dX11_advance_70 : decode cX11_advance 70 = .ok (.ireturn, 1) := by decide +kernel
theorem dX11_advance_71 : decode cX11_advance 71 = .ok (.aload_n 0, 1) := by decide +kernel
theorem dX11_advance_72 : decode cX11_advance 72 = .ok (.getfield 91, 3) := by decide +kernel
theorem dX11_advance_75 : decode cX11_advance 75 = .ok (.iload_n 1, 1) := by decide +kernel
theorem dX11_advance_76 : decode cX11_advance 76 = .ok (.iload_n 2, 1) := by decide +kernel
theorem dX11_advance_77 : decode cX11_advance 77 = .ok (.iastore, 1) := by decide +kernel
theorem dX11_advance_78 : decode cX11_advance 78 = .ok (.iconst 1, 1) := by decide +kernel
theorem dX11_advance_79 : decode cX11_advance 79 = .ok (.ireturn, 1) := by decide +kernel
set_option maxRecDepth 100000 in
theorem ggX11_sold_X11_isAgreement : GoodIn wsX11_sold wsX11_isAgreement := goodIn_sub (mmC (mmI il_X11_sold_1 6 rfl) (mmA (mmC (mmI il_X11_sold_1 7 rfl) (mmC (mmI il_X11_sold_1 8 rfl) (mmC (mmI il_X11_sold_1 9 rfl) (mmC (mmI il_X11_sold_1 5 rfl) (mmC (mmI il_X11_sold_1 10 rfl) mmN))))) il_X11_sold_2)) gw_X11_isAgreement
theorem gX11_sold_X11_isAgreement : GoodIn wsX11_sold (wsV RX11 199 RX11 yX11_isAgreement wsX11_isAgreement) := goodIn_app (goodIn_sub (mmC (mmI il_X11_sold_1 2 rfl) (mmC (mmI il_X11_sold_1 3 rfl) (mmC (mmI il_X11_sold_1 4 rfl) (mmC (mmI il_X11_sold_1 5 rfl) mmN)))) (by decide +kernel)) ggX11_sold_X11_isAgreement
set_option maxRecDepth 100000 in
theorem ggX11_sold_X11_refuse : GoodIn wsX11_sold wsX11_refuse := goodIn_sub (mmC (mmI il_X11_sold_1 14 rfl) (mmA (mmC (mmI il_X11_sold_1 15 rfl) mmN) il_X11_sold_2)) gw_X11_refuse
theorem gX11_sold_X11_refuse : GoodIn wsX11_sold (wsV RX11 153 RX11 yX11_refuse wsX11_refuse) := goodIn_app (goodIn_sub (mmC (mmI il_X11_sold_1 11 rfl) (mmC (mmI il_X11_sold_1 12 rfl) (mmC (mmI il_X11_sold_1 13 rfl) (mmC (mmI il_X11_sold_1 5 rfl) mmN)))) (by decide +kernel)) ggX11_sold_X11_refuse
theorem dX11_sold_0 : decode cX11_sold 0 = .ok (.aload_n 0, 1) := by decide +kernel
theorem dX11_sold_1 : decode cX11_sold 1 = .ok (.iload_n 1, 1) := by decide +kernel
theorem dX11_sold_2 : decode cX11_sold 2 = .ok (.invokevirtual 199, 3) := by decide +kernel
theorem dX11_sold_5 : decode cX11_sold 5 = .ok (.ifCond .ne 9, 3) := by decide +kernel
theorem dX11_sold_8 : decode cX11_sold 8 = .ok (.aload_n 0, 1) := by decide +kernel
theorem dX11_sold_9 : decode cX11_sold 9 = .ok (.iconst (-1), 1) := by decide +kernel
theorem dX11_sold_10 : decode cX11_sold 10 = .ok (.invokevirtual 153, 3) := by decide +kernel
theorem dX11_sold_13 : decode cX11_sold 13 = .ok (.ireturn, 1) := by decide +kernel
theorem dX11_sold_14 : decode cX11_sold 14 = .ok (.aload_n 0, 1) := by decide +kernel
theorem dX11_sold_15 : decode cX11_sold 15 = .ok (.getfield 91, 3) := by decide +kernel
theorem dX11_sold_18 : decode cX11_sold 18 = .ok (.iload_n 1, 1) := by decide +kernel
theorem dX11_sold_19 : decode cX11_sold 19 = .ok (.iaload, 1) := by decide +kernel
theorem dX11_sold_20 : decode cX11_sold 20 = .ok (.ifCond .eq 12, 3) := by decide +kernel
theorem dX11_sold_23 : decode cX11_sold 23 = .ok (.aload_n 0, 1) := by decide +kernel
theorem dX11_sold_24 : decode cX11_sold 24 = .ok (.getfield 94, 3) := by decide +kernel
theorem dX11_sold_27 : decode cX11_sold 27 = .ok (.iload_n 1, 1) := by decide +kernel
theorem dX11_sold_28 : decode cX11_sold 28 = .ok (.iaload, 1) := by decide +kernel
theorem dX11_sold_29 : decode cX11_sold 29 = .ok (.ifCond .le 10, 3) := by decide +kernel
theorem dX11_sold_32 : decode cX11_sold 32 = .ok (.aload_n 0, 1) := by decide +kernel
theorem dX11_sold_33 : decode cX11_sold 33 = .ok (.bipush (-3), 2) := by decide +kernel
theorem dX11_sold_35 : decode cX11_sold 35 = .ok (.invokevirtual 153, 3) := by decide +kernel
theorem dX11_sold_38 : decode cX11_sold 38 = .ok (.ireturn, 1) := by decide +kernel
theorem dX11_sold_39 : decode cX11_sold 39 = .ok (.iload_n 2, 1) := by decide +kernel
theorem dX11_sold_40 : decode cX11_sold 40 = .ok (.iconst 1, 1) := by decide +kernel
theorem dX11_sold_41 : decode cX11_sold 41 = .ok (.if_icmp .ge 10, 3) := by decide +kernel
theorem dX11_sold_44 : decode cX11_sold 44 = .ok (.aload_n 0, 1) := by decide +kernel
theorem dX11_sold_45 : decode cX11_sold 45 = .ok (.bipush (-4), 2) := by decide +kernel
theorem dX11_sold_47 : decode cX11_sold 47 = .ok (.invokevirtual 153, 3) := by decide +kernel
theorem dX11_sold_50 : decode cX11_sold 50 = .ok (.ireturn, 1) := by decide +kernel
theorem dX11_sold_51 : decode cX11_sold 51 = .ok (.iload_n 2, 1) := by decide +kernel
theorem dX11_sold_52 : decode cX11_sold 52 = .ok (.aload_n 0, 1) := by decide +kernel
theorem dX11_sold_53 : decode cX11_sold 53 = .ok (.getfield 91, 3) := by decide +kernel
theorem dX11_sold_56 : decode cX11_sold 56 = .ok (.iload_n 1, 1) := by decide +kernel
theorem dX11_sold_57 : decode cX11_sold 57 = .ok (.iaload, 1) := by decide +kernel
theorem dX11_sold_58 : decode cX11_sold 58 = .ok (.if_icmp .lt 10, 3) := by decide +kernel
theorem dX11_sold_61 : decode cX11_sold 61 = .ok (.aload_n 0, 1) := by decide +kernel
theorem dX11_sold_62 : decode cX11_sold 62 = .ok (.bipush (-6), 2) := by decide +kernel
theorem dX11_sold_64 : decode cX11_sold 64 = .ok (.invokevirtual 153, 3) := by decide +kernel
theorem dX11_sold_67 : decode cX11_sold 67 = .ok (.ireturn, 1) := by decide +kernel
theorem dX11_sold_68 : decode cX11_sold 68 = .ok (.aload_n 0, 1) := by decide +kernel
theorem dX11_sold_69 : decode cX11_sold 69 = .ok (.getfield 94, 3) := by decide +kernel
theorem dX11_sold_72 : decode cX11_sold 72 = .ok (.iload_n 1, 1) := by decide +kernel
theorem dX11_sold_73 : decode cX11_sold 73 = .ok (.iload_n 2, 1) := by decide +kernel
theorem dX11_sold_74 : decode cX11_sold 74 = .ok (.iastore, 1) := by decide +kernel
theorem dX11_sold_75 : decode cX11_sold 75 = .ok (.aload_n 0, 1) := by decide +kernel
theorem dX11_sold_76 : decode cX11_sold 76 = .ok (.getfield 91, 3) := by decide +kernel
theorem dX11_sold_79 : decode cX11_sold 79 = .ok (.iload_n 1, 1) := by decide +kernel
theorem dX11_sold_80 : decode cX11_sold 80 = .ok (.iaload, 1) := by decide +kernel
theorem dX11_sold_81 : decode cX11_sold 81 = .ok (.iload_n 2, 1) := by decide +kernel
theorem dX11_sold_82 : decode cX11_sold 82 = .ok (.isub, 1) := by decide +kernel
theorem dX11_sold_83 : decode cX11_sold 83 = .ok (.ireturn, 1) := by decide +kernel
set_option maxRecDepth 100000 in
theorem ggX11_allot_X11_isAgreement : GoodIn wsX11_allot wsX11_isAgreement := goodIn_sub (mmC (mmI il_X11_allot_1 8 rfl) (mmA (mmC (mmI il_X11_allot_1 9 rfl) (mmC (mmI il_X11_allot_1 10 rfl) (mmC (mmI il_X11_allot_1 11 rfl) (mmC (mmI il_X11_allot_1 7 rfl) (mmC (mmI il_X11_allot_1 12 rfl) mmN))))) il_X11_allot_7)) gw_X11_isAgreement
theorem gX11_allot_X11_isAgreement : GoodIn wsX11_allot (wsV RX11 199 RX11 yX11_isAgreement wsX11_isAgreement) := goodIn_app (goodIn_sub (mmC (mmI il_X11_allot_1 4 rfl) (mmC (mmI il_X11_allot_1 5 rfl) (mmC (mmI il_X11_allot_1 6 rfl) (mmC (mmI il_X11_allot_1 7 rfl) mmN)))) (by decide +kernel)) ggX11_allot_X11_isAgreement
set_option maxRecDepth 100000 in
theorem ggX11_allot_X11_refuse : GoodIn wsX11_allot wsX11_refuse := goodIn_sub (mmC (mmI il_X11_allot_1 16 rfl) (mmA (mmC (mmI il_X11_allot_1 17 rfl) mmN) il_X11_allot_7)) gw_X11_refuse
theorem gX11_allot_X11_refuse : GoodIn wsX11_allot (wsV RX11 153 RX11 yX11_refuse wsX11_refuse) := goodIn_app (goodIn_sub (mmC (mmI il_X11_allot_1 13 rfl) (mmC (mmI il_X11_allot_1 14 rfl) (mmC (mmI il_X11_allot_1 15 rfl) (mmC (mmI il_X11_allot_1 7 rfl) mmN)))) (by decide +kernel)) ggX11_allot_X11_refuse
set_option maxRecDepth 100000 in
theorem ggX11_allot_X11_goesOn : GoodIn wsX11_allot wsX11_goesOn := goodIn_sub (mmC (mmI il_X11_allot_1 21 rfl) (mmA (mmC (mmI il_X11_allot_1 22 rfl) (mmC (mmI il_X11_allot_1 23 rfl) (mmC (mmI il_X11_allot_2 0 rfl) (mmC (mmI il_X11_allot_2 1 rfl) (mmC (mmI il_X11_allot_2 2 rfl) (mmC (mmI il_X11_allot_1 7 rfl) (mmC (mmI il_X11_allot_2 3 rfl) (mmC (mmI il_X11_allot_2 4 rfl) (mmC (mmI il_X11_allot_2 5 rfl) (mmC (mmI il_X11_allot_2 6 rfl) mmN)))))))))) il_X11_allot_7)) gw_X11_goesOn
theorem gX11_allot_X11_goesOn : GoodIn wsX11_allot (wsV RX11 188 RX11 yX11_goesOn wsX11_goesOn) := goodIn_app (goodIn_sub (mmC (mmI il_X11_allot_1 18 rfl) (mmC (mmI il_X11_allot_1 19 rfl) (mmC (mmI il_X11_allot_1 20 rfl) (mmC (mmI il_X11_allot_1 7 rfl) mmN)))) (by decide +kernel)) ggX11_allot_X11_goesOn
set_option maxRecDepth 100000 in
theorem ggX11_allot_X11_puts : GoodIn wsX11_allot wsX11_puts := goodIn_sub (mmC (mmI il_X11_allot_2 10 rfl) (mmA (mmA (mmC (mmI il_X11_allot_2 11 rfl) (mmC (mmI il_X11_allot_1 23 rfl) (mmC (mmI il_X11_allot_2 12 rfl) (mmC (mmI il_X11_allot_1 2 rfl) (mmC (mmI il_X11_allot_2 13 rfl) (mmC (mmI il_X11_allot_2 14 rfl) (mmC (mmI il_X11_allot_2 15 rfl) (mmC (mmI il_X11_allot_2 16 rfl) (mmC (mmI il_X11_allot_2 17 rfl) (mmC (mmI il_X11_allot_2 18 rfl) (mmC (mmI il_X11_allot_1 7 rfl) (mmC (mmI il_X11_allot_2 19 rfl) (mmC (mmI il_X11_allot_1 22 rfl) (mmC (mmI il_X11_allot_2 5 rfl) (mmC (mmI il_X11_allot_2 20 rfl) (mmC (mmI il_X11_allot_2 21 rfl) (mmC (mmI il_X11_allot_2 22 rfl) (mmC (mmI il_X11_allot_2 23 rfl) (mmC (mmI il_X11_allot_2 4 rfl) (mmC (mmI il_X11_allot_2 6 rfl) (mmC (mmI il_X11_allot_3 0 rfl) (mmC (mmI il_X11_allot_3 1 rfl) (mmC (mmI il_X11_allot_3 2 rfl) (mmC (mmI il_X11_allot_3 3 rfl) mmN)))))))))))))))))))))))) (mmA (mmC (mmI il_X11_allot_3 4 rfl) (mmC (mmI il_X11_allot_3 5 rfl) (mmC (mmI il_X11_allot_3 6 rfl) (mmC (mmI il_X11_allot_3 7 rfl) (mmC (mmI il_X11_allot_3 8 rfl) (mmC (mmI il_X11_allot_3 9 rfl) (mmC (mmI il_X11_allot_3 10 rfl) (mmC (mmI il_X11_allot_3 11 rfl) (mmC (mmI il_X11_allot_3 12 rfl) (mmC (mmI il_X11_allot_3 13 rfl) (mmC (mmI il_X11_allot_3 14 rfl) (mmC (mmI il_X11_allot_3 15 rfl) (mmC (mmI il_X11_allot_3 16 rfl) (mmC (mmI il_X11_allot_3 17 rfl) (mmC (mmI il_X11_allot_3 18 rfl) (mmC (mmI il_X11_allot_3 19 rfl) (mmC (mmI il_X11_allot_3 20 rfl) (mmC (mmI il_X11_allot_3 21 rfl) (mmC (mmI il_X11_allot_3 22 rfl) (mmC (mmI il_X11_allot_3 23 rfl) (mmC (mmI il_X11_allot_4 0 rfl) (mmC (mmI il_X11_allot_4 1 rfl) (mmC (mmI il_X11_allot_4 2 rfl) (mmC (mmI il_X11_allot_4 3 rfl) mmN)))))))))))))))))))))))) (mmA (mmC (mmI il_X11_allot_4 4 rfl) (mmC (mmI il_X11_allot_4 5 rfl) (mmC (mmI il_X11_allot_4 6 rfl) (mmC (mmI il_X11_allot_4 7 rfl) (mmC (mmI il_X11_allot_4 8 rfl) (mmC (mmI il_X11_allot_4 9 rfl) (mmC (mmI il_X11_allot_4 10 rfl) (mmC (mmI il_X11_allot_4 11 rfl) (mmC (mmI il_X11_allot_4 12 rfl) (mmC (mmI il_X11_allot_4 13 rfl) (mmC (mmI il_X11_allot_4 14 rfl) (mmC (mmI il_X11_allot_4 15 rfl) (mmC (mmI il_X11_allot_4 16 rfl) (mmC (mmI il_X11_allot_4 17 rfl) (mmC (mmI il_X11_allot_4 18 rfl) (mmC (mmI il_X11_allot_4 19 rfl) (mmC (mmI il_X11_allot_4 20 rfl) (mmC (mmI il_X11_allot_4 21 rfl) (mmC (mmI il_X11_allot_4 22 rfl) (mmC (mmI il_X11_allot_4 23 rfl) (mmC (mmI il_X11_allot_5 0 rfl) (mmC (mmI il_X11_allot_5 1 rfl) (mmC (mmI il_X11_allot_5 2 rfl) (mmC (mmI il_X11_allot_5 3 rfl) mmN)))))))))))))))))))))))) (mmA (mmC (mmI il_X11_allot_5 4 rfl) (mmC (mmI il_X11_allot_5 5 rfl) (mmC (mmI il_X11_allot_5 6 rfl) (mmC (mmI il_X11_allot_5 7 rfl) (mmC (mmI il_X11_allot_5 8 rfl) (mmC (mmI il_X11_allot_5 9 rfl) (mmC (mmI il_X11_allot_5 10 rfl) (mmC (mmI il_X11_allot_5 11 rfl) (mmC (mmI il_X11_allot_5 12 rfl) (mmC (mmI il_X11_allot_5 13 rfl) (mmC (mmI il_X11_allot_5 14 rfl) (mmC (mmI il_X11_allot_5 15 rfl) (mmC (mmI il_X11_allot_5 16 rfl) (mmC (mmI il_X11_allot_5 17 rfl) (mmC (mmI il_X11_allot_5 18 rfl) (mmC (mmI il_X11_allot_5 19 rfl) (mmC (mmI il_X11_allot_5 20 rfl) (mmC (mmI il_X11_allot_5 21 rfl) (mmC (mmI il_X11_allot_5 22 rfl) (mmC (mmI il_X11_allot_5 23 rfl) (mmC (mmI il_X11_allot_6 0 rfl) (mmC (mmI il_X11_allot_6 1 rfl) (mmC (mmI il_X11_allot_6 2 rfl) (mmC (mmI il_X11_allot_6 3 rfl) mmN)))))))))))))))))))))))) (mmC (mmI il_X11_allot_6 4 rfl) (mmC (mmI il_X11_allot_6 5 rfl) (mmC (mmI il_X11_allot_6 6 rfl) (mmC (mmI il_X11_allot_6 7 rfl) (mmC (mmI il_X11_allot_6 8 rfl) (mmC (mmI il_X11_allot_6 9 rfl) (mmC (mmI il_X11_allot_6 10 rfl) (mmC (mmI il_X11_allot_6 11 rfl) (mmC (mmI il_X11_allot_6 12 rfl) (mmC (mmI il_X11_allot_1 9 rfl) mmN)))))))))))))) il_X11_allot_7)) gw_X11_puts
theorem gX11_allot_X11_puts : GoodIn wsX11_allot (wsV RX11 306 RX11 yX11_puts wsX11_puts) := goodIn_app (goodIn_sub (mmC (mmI il_X11_allot_2 7 rfl) (mmC (mmI il_X11_allot_2 8 rfl) (mmC (mmI il_X11_allot_2 9 rfl) (mmC (mmI il_X11_allot_1 7 rfl) mmN)))) (by decide +kernel)) ggX11_allot_X11_puts
set_option maxRecDepth 100000 in
theorem ggX11_allot_X11_worth : GoodIn wsX11_allot wsX11_worth := goodIn_sub (mmC (mmI il_X11_allot_4 5 rfl) (mmA (mmA (mmC (mmI il_X11_allot_4 6 rfl) (mmC (mmI il_X11_allot_2 12 rfl) (mmC (mmI il_X11_allot_4 7 rfl) (mmC (mmI il_X11_allot_4 8 rfl) (mmC (mmI il_X11_allot_4 9 rfl) (mmC (mmI il_X11_allot_1 7 rfl) (mmC (mmI il_X11_allot_4 10 rfl) (mmC (mmI il_X11_allot_4 11 rfl) (mmC (mmI il_X11_allot_4 12 rfl) (mmC (mmI il_X11_allot_4 13 rfl) (mmC (mmI il_X11_allot_4 14 rfl) (mmC (mmI il_X11_allot_4 15 rfl) (mmC (mmI il_X11_allot_4 16 rfl) (mmC (mmI il_X11_allot_4 17 rfl) (mmC (mmI il_X11_allot_4 18 rfl) (mmC (mmI il_X11_allot_4 19 rfl) (mmC (mmI il_X11_allot_4 20 rfl) (mmC (mmI il_X11_allot_4 21 rfl) (mmC (mmI il_X11_allot_4 22 rfl) (mmC (mmI il_X11_allot_4 23 rfl) (mmC (mmI il_X11_allot_5 0 rfl) (mmC (mmI il_X11_allot_5 1 rfl) (mmC (mmI il_X11_allot_5 2 rfl) (mmC (mmI il_X11_allot_5 3 rfl) mmN)))))))))))))))))))))))) (mmA (mmC (mmI il_X11_allot_5 4 rfl) (mmC (mmI il_X11_allot_5 5 rfl) (mmC (mmI il_X11_allot_5 6 rfl) (mmC (mmI il_X11_allot_5 7 rfl) (mmC (mmI il_X11_allot_5 8 rfl) (mmC (mmI il_X11_allot_5 9 rfl) (mmC (mmI il_X11_allot_5 10 rfl) (mmC (mmI il_X11_allot_5 11 rfl) (mmC (mmI il_X11_allot_5 12 rfl) (mmC (mmI il_X11_allot_5 13 rfl) (mmC (mmI il_X11_allot_5 14 rfl) (mmC (mmI il_X11_allot_5 15 rfl) (mmC (mmI il_X11_allot_5 16 rfl) (mmC (mmI il_X11_allot_5 17 rfl) (mmC (mmI il_X11_allot_5 18 rfl) (mmC (mmI il_X11_allot_5 19 rfl) (mmC (mmI il_X11_allot_5 20 rfl) (mmC (mmI il_X11_allot_5 21 rfl) (mmC (mmI il_X11_allot_5 22 rfl) (mmC (mmI il_X11_allot_5 23 rfl) (mmC (mmI il_X11_allot_6 0 rfl) (mmC (mmI il_X11_allot_6 1 rfl) (mmC (mmI il_X11_allot_6 2 rfl) (mmC (mmI il_X11_allot_6 3 rfl) mmN)))))))))))))))))))))))) (mmC (mmI il_X11_allot_6 4 rfl) (mmC (mmI il_X11_allot_6 5 rfl) (mmC (mmI il_X11_allot_6 6 rfl) (mmC (mmI il_X11_allot_6 7 rfl) (mmC (mmI il_X11_allot_6 8 rfl) mmN))))))) il_X11_allot_7)) gw_X11_worth
theorem gX11_allot_X11_worth : GoodIn wsX11_allot (wsV RX11 285 RX11 yX11_worth wsX11_worth) := goodIn_app (goodIn_sub (mmC (mmI il_X11_allot_4 2 rfl) (mmC (mmI il_X11_allot_4 3 rfl) (mmC (mmI il_X11_allot_4 4 rfl) (mmC (mmI il_X11_allot_1 7 rfl) mmN)))) (by decide +kernel)) ggX11_allot_X11_worth
theorem dX11_allot_0 : decode cX11_allot 0 = .ok (.aload_n 0, 1) := by decide +kernel
theorem dX11_allot_1 : decode cX11_allot 1 = .ok (.iload_n 1, 1) := by decide +kernel
theorem dX11_allot_2 : decode cX11_allot 2 = .ok (.invokevirtual 199, 3) := by decide +kernel
theorem dX11_allot_5 : decode cX11_allot 5 = .ok (.ifCond .ne 9, 3) := by decide +kernel
theorem dX11_allot_8 : decode cX11_allot 8 = .ok (.aload_n 0, 1) := by decide +kernel
theorem dX11_allot_9 : decode cX11_allot 9 = .ok (.iconst (-1), 1) := by decide +kernel
theorem dX11_allot_10 : decode cX11_allot 10 = .ok (.invokevirtual 153, 3) := by decide +kernel
theorem dX11_allot_13 : decode cX11_allot 13 = .ok (.ireturn, 1) := by decide +kernel
theorem dX11_allot_14 : decode cX11_allot 14 = .ok (.aload_n 0, 1) := by decide +kernel
theorem dX11_allot_15 : decode cX11_allot 15 = .ok (.getfield 97, 3) := by decide +kernel
theorem dX11_allot_18 : decode cX11_allot 18 = .ok (.iload_n 1, 1) := by decide +kernel
theorem dX11_allot_19 : decode cX11_allot 19 = .ok (.iaload, 1) := by decide +kernel
theorem dX11_allot_20 : decode cX11_allot 20 = .ok (.ifCond .gt 11, 3) := by decide +kernel
theorem dX11_allot_23 : decode cX11_allot 23 = .ok (.aload_n 0, 1) := by decide +kernel
theorem dX11_allot_24 : decode cX11_allot 24 = .ok (.iload_n 1, 1) := by decide +kernel
theorem dX11_allot_25 : decode cX11_allot 25 = .ok (.invokevirtual 188, 3) := by decide +kernel
theorem dX11_allot_28 : decode cX11_allot 28 = .ok (.ifCond .ne 10, 3) := by decide +kernel
theorem dX11_allot_31 : decode cX11_allot 31 = .ok (.aload_n 0, 1) := by decide +kernel
theorem dX11_allot_32 : decode cX11_allot 32 = .ok (.bipush (-3), 2) := by decide +kernel
theorem dX11_allot_34 : decode cX11_allot 34 = .ok (.invokevirtual 153, 3) := by decide +kernel
theorem dX11_allot_37 : decode cX11_allot 37 = .ok (.ireturn, 1) := by decide +kernel
theorem dX11_allot_38 : decode cX11_allot 38 = .ok (.iload_n 2, 1) := by decide +kernel
theorem dX11_allot_39 : decode cX11_allot 39 = .ok (.iconst 1, 1) := by decide +kernel
theorem dX11_allot_40 : decode cX11_allot 40 = .ok (.if_icmp .ge 10, 3) := by decide +kernel
theorem dX11_allot_43 : decode cX11_allot 43 = .ok (.aload_n 0, 1) := by decide +kernel
theorem dX11_allot_44 : decode cX11_allot 44 = .ok (.bipush (-4), 2) := by decide +kernel
theorem dX11_allot_46 : decode cX11_allot 46 = .ok (.invokevirtual 153, 3) := by decide +kernel
theorem dX11_allot_49 : decode cX11_allot 49 = .ok (.ireturn, 1) := by decide +kernel
theorem dX11_allot_50 : decode cX11_allot 50 = .ok (.iload_n 2, 1) := by decide +kernel
theorem dX11_allot_51 : decode cX11_allot 51 = .ok (.sipush 9999, 3) := by decide +kernel
theorem dX11_allot_54 : decode cX11_allot 54 = .ok (.if_icmp .le 10, 3) := by decide +kernel
theorem dX11_allot_57 : decode cX11_allot 57 = .ok (.aload_n 0, 1) := by decide +kernel
theorem dX11_allot_58 : decode cX11_allot 58 = .ok (.bipush (-6), 2) := by decide +kernel
theorem dX11_allot_60 : decode cX11_allot 60 = .ok (.invokevirtual 153, 3) := by decide +kernel
theorem dX11_allot_63 : decode cX11_allot 63 = .ok (.ireturn, 1) := by decide +kernel
theorem dX11_allot_64 : decode cX11_allot 64 = .ok (.aload_n 0, 1) := by decide +kernel
theorem dX11_allot_65 : decode cX11_allot 65 = .ok (.iload_n 1, 1) := by decide +kernel
theorem dX11_allot_66 : decode cX11_allot 66 = .ok (.aload_n 0, 1) := by decide +kernel
theorem dX11_allot_67 : decode cX11_allot 67 = .ok (.getfield 171, 3) := by decide +kernel
theorem dX11_allot_70 : decode cX11_allot 70 = .ok (.aload_n 0, 1) := by decide +kernel
theorem dX11_allot_71 : decode cX11_allot 71 = .ok (.getfield 171, 3) := by decide +kernel
theorem dX11_allot_74 : decode cX11_allot 74 = .ok (.iload_n 2, 1) := by decide +kernel
theorem dX11_allot_75 : decode cX11_allot 75 = .ok (.iconst 0, 1) := by decide +kernel
theorem dX11_allot_76 : decode cX11_allot 76 = .ok (.invokevirtual 306, 3) := by decide +kernel
theorem dX11_allot_79 : decode cX11_allot 79 = .ok (.iload_n 2, 1) := by decide +kernel
theorem dX11_allot_80 : decode cX11_allot 80 = .ok (.i2l, 1) := by decide +kernel
theorem dX11_allot_81 : decode cX11_allot 81 = .ok (.aload_n 0, 1) := by decide +kernel
theorem dX11_allot_82 : decode cX11_allot 82 = .ok (.getfield 76, 3) := by decide +kernel
theorem dX11_allot_85 : decode cX11_allot 85 = .ok (.iload_n 1, 1) := by decide +kernel
theorem dX11_allot_86 : decode cX11_allot 86 = .ok (.iaload, 1) := by decide +kernel
theorem dX11_allot_87 : decode cX11_allot 87 = .ok (.i2l, 1) := by decide +kernel
theorem dX11_allot_88 : decode cX11_allot 88 = .ok (.aload_n 0, 1) := by decide +kernel
theorem dX11_allot_89 : decode cX11_allot 89 = .ok (.iconst 3, 1) := by decide +kernel
theorem dX11_allot_90 : decode cX11_allot 90 = .ok (.aload_n 0, 1) := by decide +kernel
theorem dX11_allot_91 : decode cX11_allot 91 = .ok (.getfield 171, 3) := by decide +kernel
theorem dX11_allot_94 : decode cX11_allot 94 = .ok (.invokevirtual 285, 3) := by decide +kernel
theorem dX11_allot_97 : decode cX11_allot 97 = .ok (.i2l, 1) := by decide +kernel
theorem dX11_allot_98 : decode cX11_allot 98 = .ok (.lmul, 1) := by decide +kernel
theorem dX11_allot_99 : decode cX11_allot 99 = .ok (.ldc2_w 310, 3) := by decide +kernel
theorem dX11_allot_102 : decode cX11_allot 102 = .ok (.ldiv, 1) := by decide +kernel
theorem dX11_allot_103 : decode cX11_allot 103 = .ok (.lcmp, 1) := by decide +kernel
theorem dX11_allot_104 : decode cX11_allot 104 = .ok (.ifCond .le 10, 3) := by decide +kernel
theorem dX11_allot_107 : decode cX11_allot 107 = .ok (.aload_n 0, 1) := by decide +kernel
theorem dX11_allot_108 : decode cX11_allot 108 = .ok (.bipush (-6), 2) := by decide +kernel
theorem dX11_allot_110 : decode cX11_allot 110 = .ok (.invokevirtual 153, 3) := by decide +kernel
theorem dX11_allot_113 : decode cX11_allot 113 = .ok (.ireturn, 1) := by decide +kernel
theorem dX11_allot_114 : decode cX11_allot 114 = .ok (.aload_n 0, 1) := by decide +kernel
theorem dX11_allot_115 : decode cX11_allot 115 = .ok (.getfield 97, 3) := by decide +kernel
theorem dX11_allot_118 : decode cX11_allot 118 = .ok (.iload_n 1, 1) := by decide +kernel
theorem dX11_allot_119 : decode cX11_allot 119 = .ok (.iload_n 2, 1) := by decide +kernel
theorem dX11_allot_120 : decode cX11_allot 120 = .ok (.iastore, 1) := by decide +kernel
theorem dX11_allot_121 : decode cX11_allot 121 = .ok (.iconst 1, 1) := by decide +kernel
theorem dX11_allot_122 : decode cX11_allot 122 = .ok (.ireturn, 1) := by decide +kernel
set_option maxRecDepth 100000 in
theorem ggX11_aboard_X11_isVoyage : GoodIn wsX11_aboard wsX11_isVoyage := goodIn_sub (mmC (mmI il_X11_aboard_1 4 rfl) (mmA (mmC (mmI il_X11_aboard_1 5 rfl) (mmC (mmI il_X11_aboard_1 6 rfl) (mmC (mmI il_X11_aboard_1 7 rfl) (mmC (mmI il_X11_aboard_1 3 rfl) (mmC (mmI il_X11_aboard_1 8 rfl) mmN))))) il_X11_aboard_6)) gw_X11_isVoyage
theorem gX11_aboard_X11_isVoyage : GoodIn wsX11_aboard (wsV RX11 185 RX11 yX11_isVoyage wsX11_isVoyage) := goodIn_app (goodIn_sub (mmC (mmI il_X11_aboard_1 0 rfl) (mmC (mmI il_X11_aboard_1 1 rfl) (mmC (mmI il_X11_aboard_1 2 rfl) (mmC (mmI il_X11_aboard_1 3 rfl) mmN)))) (by decide +kernel)) ggX11_aboard_X11_isVoyage
set_option maxRecDepth 100000 in
theorem ggX11_aboard_X11_wrongTimes : GoodIn wsX11_aboard wsX11_wrongTimes := goodIn_sub (mmC (mmI il_X11_aboard_1 12 rfl) (mmA (mmC (mmI il_X11_aboard_1 13 rfl) mmN) il_X11_aboard_6)) gw_X11_wrongTimes
theorem gX11_aboard_X11_wrongTimes : GoodIn wsX11_aboard (wsV RX11 300 RX11 yX11_wrongTimes wsX11_wrongTimes) := goodIn_app (goodIn_sub (mmC (mmI il_X11_aboard_1 9 rfl) (mmC (mmI il_X11_aboard_1 10 rfl) (mmC (mmI il_X11_aboard_1 11 rfl) (mmC (mmI il_X11_aboard_1 3 rfl) mmN)))) (by decide +kernel)) ggX11_aboard_X11_wrongTimes
set_option maxRecDepth 100000 in
theorem ggX11_aboard_X11_refuse : GoodIn wsX11_aboard wsX11_refuse := goodIn_sub (mmC (mmI il_X11_aboard_1 17 rfl) (mmA (mmC (mmI il_X11_aboard_1 18 rfl) mmN) il_X11_aboard_6)) gw_X11_refuse
theorem gX11_aboard_X11_refuse : GoodIn wsX11_aboard (wsV RX11 153 RX11 yX11_refuse wsX11_refuse) := goodIn_app (goodIn_sub (mmC (mmI il_X11_aboard_1 14 rfl) (mmC (mmI il_X11_aboard_1 15 rfl) (mmC (mmI il_X11_aboard_1 16 rfl) (mmC (mmI il_X11_aboard_1 3 rfl) mmN)))) (by decide +kernel)) ggX11_aboard_X11_refuse
set_option maxRecDepth 100000 in
theorem ggX11_aboard_X11_aboardOf : GoodIn wsX11_aboard wsX11_aboardOf := goodIn_sub (mmC (mmI il_X11_aboard_1 22 rfl) (mmA (mmA (mmC (mmI il_X11_aboard_1 23 rfl) (mmC (mmI il_X11_aboard_2 0 rfl) (mmC (mmI il_X11_aboard_2 1 rfl) (mmC (mmI il_X11_aboard_2 2 rfl) (mmC (mmI il_X11_aboard_2 3 rfl) (mmC (mmI il_X11_aboard_1 3 rfl) (mmC (mmI il_X11_aboard_2 4 rfl) (mmC (mmI il_X11_aboard_2 5 rfl) (mmC (mmI il_X11_aboard_2 6 rfl) (mmC (mmI il_X11_aboard_2 7 rfl) (mmC (mmI il_X11_aboard_2 8 rfl) (mmC (mmI il_X11_aboard_2 9 rfl) (mmC (mmI il_X11_aboard_2 10 rfl) (mmC (mmI il_X11_aboard_2 11 rfl) (mmC (mmI il_X11_aboard_2 12 rfl) (mmC (mmI il_X11_aboard_2 13 rfl) (mmC (mmI il_X11_aboard_2 14 rfl) (mmC (mmI il_X11_aboard_2 15 rfl) (mmC (mmI il_X11_aboard_2 16 rfl) (mmC (mmI il_X11_aboard_2 17 rfl) (mmC (mmI il_X11_aboard_2 18 rfl) (mmC (mmI il_X11_aboard_2 19 rfl) (mmC (mmI il_X11_aboard_2 20 rfl) (mmC (mmI il_X11_aboard_2 21 rfl) mmN)))))))))))))))))))))))) (mmA (mmC (mmI il_X11_aboard_2 22 rfl) (mmC (mmI il_X11_aboard_2 23 rfl) (mmC (mmI il_X11_aboard_3 0 rfl) (mmC (mmI il_X11_aboard_3 1 rfl) (mmC (mmI il_X11_aboard_3 2 rfl) (mmC (mmI il_X11_aboard_3 3 rfl) (mmC (mmI il_X11_aboard_3 4 rfl) (mmC (mmI il_X11_aboard_3 5 rfl) (mmC (mmI il_X11_aboard_3 6 rfl) (mmC (mmI il_X11_aboard_3 7 rfl) (mmC (mmI il_X11_aboard_3 8 rfl) (mmC (mmI il_X11_aboard_3 9 rfl) (mmC (mmI il_X11_aboard_3 10 rfl) (mmC (mmI il_X11_aboard_3 11 rfl) (mmC (mmI il_X11_aboard_3 12 rfl) (mmC (mmI il_X11_aboard_3 13 rfl) (mmC (mmI il_X11_aboard_3 14 rfl) (mmC (mmI il_X11_aboard_3 15 rfl) (mmC (mmI il_X11_aboard_3 16 rfl) (mmC (mmI il_X11_aboard_3 17 rfl) (mmC (mmI il_X11_aboard_3 18 rfl) (mmC (mmI il_X11_aboard_3 19 rfl) (mmC (mmI il_X11_aboard_3 20 rfl) (mmC (mmI il_X11_aboard_3 21 rfl) mmN)))))))))))))))))))))))) (mmA (mmC (mmI il_X11_aboard_3 22 rfl) (mmC (mmI il_X11_aboard_3 23 rfl) (mmC (mmI il_X11_aboard_4 0 rfl) (mmC (mmI il_X11_aboard_4 1 rfl) (mmC (mmI il_X11_aboard_4 2 rfl) (mmC (mmI il_X11_aboard_4 3 rfl) (mmC (mmI il_X11_aboard_4 4 rfl) (mmC (mmI il_X11_aboard_4 5 rfl) (mmC (mmI il_X11_aboard_4 6 rfl) (mmC (mmI il_X11_aboard_4 7 rfl) (mmC (mmI il_X11_aboard_4 8 rfl) (mmC (mmI il_X11_aboard_4 9 rfl) (mmC (mmI il_X11_aboard_4 10 rfl) (mmC (mmI il_X11_aboard_4 11 rfl) (mmC (mmI il_X11_aboard_4 12 rfl) (mmC (mmI il_X11_aboard_4 13 rfl) (mmC (mmI il_X11_aboard_4 14 rfl) (mmC (mmI il_X11_aboard_4 15 rfl) (mmC (mmI il_X11_aboard_4 16 rfl) (mmC (mmI il_X11_aboard_4 17 rfl) (mmC (mmI il_X11_aboard_4 18 rfl) (mmC (mmI il_X11_aboard_4 19 rfl) (mmC (mmI il_X11_aboard_4 20 rfl) (mmC (mmI il_X11_aboard_4 21 rfl) mmN)))))))))))))))))))))))) (mmA (mmC (mmI il_X11_aboard_4 22 rfl) (mmC (mmI il_X11_aboard_4 23 rfl) (mmC (mmI il_X11_aboard_5 0 rfl) (mmC (mmI il_X11_aboard_5 1 rfl) (mmC (mmI il_X11_aboard_5 2 rfl) (mmC (mmI il_X11_aboard_5 3 rfl) (mmC (mmI il_X11_aboard_5 4 rfl) (mmC (mmI il_X11_aboard_5 5 rfl) (mmC (mmI il_X11_aboard_5 6 rfl) (mmC (mmI il_X11_aboard_5 7 rfl) (mmC (mmI il_X11_aboard_5 8 rfl) (mmC (mmI il_X11_aboard_5 9 rfl) (mmC (mmI il_X11_aboard_5 10 rfl) (mmC (mmI il_X11_aboard_5 11 rfl) (mmC (mmI il_X11_aboard_5 12 rfl) (mmC (mmI il_X11_aboard_5 13 rfl) (mmC (mmI il_X11_aboard_5 14 rfl) (mmC (mmI il_X11_aboard_5 15 rfl) (mmC (mmI il_X11_aboard_5 16 rfl) (mmC (mmI il_X11_aboard_5 17 rfl) (mmC (mmI il_X11_aboard_5 18 rfl) (mmC (mmI il_X11_aboard_5 19 rfl) (mmC (mmI il_X11_aboard_5 20 rfl) (mmC (mmI il_X11_aboard_5 21 rfl) mmN)))))))))))))))))))))))) (mmC (mmI il_X11_aboard_5 22 rfl) (mmC (mmI il_X11_aboard_5 23 rfl) mmN)))))) il_X11_aboard_6)) gw_X11_aboardOf
theorem gX11_aboard_X11_aboardOf : GoodIn wsX11_aboard (wsV RX11 269 RX11 yX11_aboardOf wsX11_aboardOf) := goodIn_app (goodIn_sub (mmC (mmI il_X11_aboard_1 19 rfl) (mmC (mmI il_X11_aboard_1 20 rfl) (mmC (mmI il_X11_aboard_1 21 rfl) (mmC (mmI il_X11_aboard_1 3 rfl) mmN)))) (by decide +kernel)) ggX11_aboard_X11_aboardOf
theorem dX11_aboard_0 : decode cX11_aboard 0 = .ok (.aload_n 0, 1) := by decide +kernel
theorem dX11_aboard_1 : decode cX11_aboard 1 = .ok (.iload_n 1, 1) := by decide +kernel
theorem dX11_aboard_2 : decode cX11_aboard 2 = .ok (.invokevirtual 185, 3) := by decide +kernel
theorem dX11_aboard_5 : decode cX11_aboard 5 = .ok (.ifCond .eq 12, 3) := by decide +kernel
theorem dX11_aboard_8 : decode cX11_aboard 8 = .ok (.aload_n 0, 1) := by decide +kernel
theorem dX11_aboard_9 : decode cX11_aboard 9 = .ok (.iload_n 2, 1) := by decide +kernel
theorem dX11_aboard_10 : decode cX11_aboard 10 = .ok (.iload_n 3, 1) := by decide +kernel
theorem dX11_aboard_11 : decode cX11_aboard 11 = .ok (.invokevirtual 300, 3) := by decide +kernel
theorem dX11_aboard_14 : decode cX11_aboard 14 = .ok (.goto 4, 3) := by decide +kernel
theorem dX11_aboard_17 : decode cX11_aboard 17 = .ok (.iconst (-1), 1) := by decide +kernel
theorem dX11_aboard_18 : decode cX11_aboard 18 = .ok (.istore 4, 2) := by decide +kernel
theorem dX11_aboard_20 : decode cX11_aboard 20 = .ok (.iload 4, 2) := by decide +kernel
theorem dX11_aboard_22 : decode cX11_aboard 22 = .ok (.ifCond .eq 12, 3) := by decide +kernel
theorem dX11_aboard_25 : decode cX11_aboard 25 = .ok (.aload_n 0, 1) := by decide +kernel
theorem dX11_aboard_26 : decode cX11_aboard 26 = .ok (.iload 4, 2) := by decide +kernel
theorem dX11_aboard_28 : decode cX11_aboard 28 = .ok (.invokevirtual 153, 3) := by decide +kernel
theorem dX11_aboard_31 : decode cX11_aboard 31 = .ok (.goto 10, 3) := by decide +kernel
theorem dX11_aboard_34 : decode cX11_aboard 34 = .ok (.aload_n 0, 1) := by decide +kernel
theorem dX11_aboard_35 : decode cX11_aboard 35 = .ok (.iload_n 1, 1) := by decide +kernel
theorem dX11_aboard_36 : decode cX11_aboard 36 = .ok (.iload_n 2, 1) := by decide +kernel
theorem dX11_aboard_37 : decode cX11_aboard 37 = .ok (.iload_n 3, 1) := by decide +kernel
theorem dX11_aboard_38 : decode cX11_aboard 38 = .ok (.invokevirtual 269, 3) := by decide +kernel
theorem dX11_aboard_41 : decode cX11_aboard 41 = .ok (.ireturn, 1) := by decide +kernel
theorem in_wsX11_off_X11 : ∀ w ∈ wsX110, w ∈ wsX11_off := fun w h => List.mem_cons_of_mem _ (List.mem_append_right _ h)
theorem in_wsX11_advance_X11 : ∀ w ∈ wsX110, w ∈ wsX11_advance := fun w h => List.mem_cons_of_mem _ (List.mem_append_right _ h)
theorem in_wsX11_sold_X11 : ∀ w ∈ wsX110, w ∈ wsX11_sold := fun w h => List.mem_cons_of_mem _ (List.mem_append_right _ h)
theorem in_wsX11_allot_X11 : ∀ w ∈ wsX110, w ∈ wsX11_allot := fun w h => List.mem_cons_of_mem _ (List.mem_append_right _ h)

set_option maxHeartbeats 4000000 in
set_option maxRecDepth 100000 in
theorem c_X11_state (l : Launch) (dC : Nat → ClassId) (dI : Nat → Nat → Nat) (sz : Nat) (g0 : Nat) (pq : Nat → Nat) (cp : Nat → ClassId) (v : Nat → Int32) (fa : Nat → Nat → Int32) (gV : mV v) (gA : mA fa) (x1 : Int32) (x2 : Int32) (x3 : Int32) : Met l yX11_state wsX11_state ({ frames := 23, cells := 0, slots := 0, locals := 533 }) (va_Pc [.ref g0, .int x1, .int x2, .int x3] (pcW (dC, dI) (mT cp) (mW g0 pq cp v fa) sz)) (va_Qi (fun (r : Int32) (u : (Nat → Int32) × (Nat → Nat → Int32)) => mV u.1 ∧ mA u.2 ∧ mX [0, 45, 47, 48, 49, 50, 51, 52, 53, 54, 55, 56, 57, 58, 59, 60] v fa u.1 u.2) (fun u t => va_P (dC, dI) vwCl (mW g0 pq cp u.1 u.2) t.heap ∧ va_K (dC, dI) vwCl (mT cp) t ∧ va_D (va_A (mW g0 pq cp v fa) sz) (mW g0 pq cp u.1 u.2)) (va_A (mW g0 pq cp v fa) sz)) 0 0 (va_A (mW g0 pq cp v fa) sz) := by
  refine Met.ofW (cc := cX11_state) (maxL := 5) (ret := (some .int)) (by decide +kernel) rfl ?_
  intro p e s m args below meth c s₁ B hml hv
  obtain ⟨rfl, hsz, hP, hK, hD0⟩ := hv
  have hx := B.exec
  have hb := B.bytes
  have hr := B.returns
  have hts := atoms_spec (ws := wsX11_state) B.pre
  have hown : s.vm.findClass RX11 = some m.cls := findClass_of_methodNamed B.named
  have hlocks := B.notSynchronized
  subst hsz
  have hD := hD0.self (sz := s.heap.size)
  generalize hAe : va_A (mW g0 pq cp v fa) s.heap.size = A at hD ⊢
  have hA : ∀ q : Nat, s.heap.size ≤ q → A q := fun q h => by rw [← hAe]; exact Or.inr h
  have hS : va_S A s.heap s.heap [] := va_S.rf
  have hP : va_P (dC, dI) vwCl (mW g0 pq cp v fa) s.heap := hP
  have hl := lv_entry ([.ref g0, .int x1, .int x2, .int x3]) (n := 5) (Nat.le_of_ble_eq_true rfl)
  rw [lg_entry_eq]
  generalize (lg_sl ([.ref g0, .int x1, .int x2, .int x3]) ++ List.replicate (5 - (lg_sl ([.ref g0, .int x1, .int x2, .int x3])).length) Slot.unset).toArray = ls at hl ⊢
  have hl : lv_has ls 5 [(0, .ref g0), (1, .int x1), (2, .int x2), (3, .int x3)] := hl
  refine lv_aload_n hx hb dX11_state_0 rfl (lv_at hl 0 rfl) ?_
  refine lv_iload_n hx hb dX11_state_1 rfl (lv_at hl 1 rfl) ?_
  have hFc : ∀ q, va_A [] s.heap.size q → A q := pu_free hS hA
  refine va_calli (va_runV (As := [.int x1]) (rest := []) ⟨hx, hb, hml, hown, hts⟩ (c_X11_isAgreement l dC dI s.heap.size g0 pq cp v fa x1) (cwV 1 hts gX11_state_X11_isAgreement rfl rfl rfl (by decide +kernel) ⟨(Nat.le_of_ble_eq_true rfl), (Nat.le_of_ble_eq_true rfl)⟩) (pr_V (r := (RX11, TX11, 63)) hP hK hD 0 11 rfl rfl) rfl rfl hl.1 rfl (lv_room (Nat.le_of_ble_eq_true rfl)) dX11_state_2 ⟨(Nat.le_of_ble_eq_true rfl), (Nat.le_of_ble_eq_true rfl)⟩) hS (fun q _ h => hFc q h) hFc (fun r_2 u t H locs ht hvm w_1 hB hz1 hk1 hS => ?_)
  have hP := pu_keep hP hk1
  clear hk1 hz1 hvm hB ht hFc
  have hbr_2 : 0 ≤ r_2.toInt ∧ r_2.toInt ≤ 1 := iv_of w_1 (isI_i _ _)
  refine lv_if_eq (tgt := 17) hx hb dX11_state_5 (by decide +kernel) (fun c_3 => ?_) (fun c_3 => ?_)
  · have dc_3 := c_eq (a := r_2.toInt) (b := 0) rfl (by decide +kernel) c_3
    refine lv_iconst (v := (-1)) hx hb dX11_state_17 (by decide +kernel) ?_
    refine lv_istore (lv' := [(4, .int (-1)), (0, .ref g0), (1, .int x1), (2, .int x2), (3, .int x3)]) hx hb dX11_state_18 hl (by decide +kernel) rfl (fun ls hl => ?_)
    refine lv_iload hx hb dX11_state_20 (lv_at hl 0 rfl) ?_
    refine lv_if_eq (tgt := 34) hx hb dX11_state_22 (by decide +kernel) (fun c_4 => absurd c_4 (by decide +kernel)) (fun _ => ?_)
    refine lv_aload_n hx hb dX11_state_25 rfl (lv_at hl 1 rfl) ?_
    refine lv_iload hx hb dX11_state_26 (lv_at hl 0 rfl) ?_
    have hFc := va_free (wc := (mW g0 pq cp v fa)) hD hS hA (List.range 48) rfl
    refine va_calli (va_runV (As := [.int (-1)]) (rest := []) ⟨hx, hb, hml, hown, hts⟩ (c_X11_refuse l dC dI H.size g0 pq cp v fa (-1) (by unfold vp_in; decide)) (cwV 1 hts gX11_state_X11_refuse rfl rfl rfl (by decide +kernel) ⟨(Nat.le_of_ble_eq_true rfl), (Nat.le_of_ble_eq_true rfl)⟩) (pr_V (r := (RX11, TX11, 63)) hP hK hD 0 11 rfl rfl) rfl rfl hl.1 rfl (lv_room (Nat.le_of_ble_eq_true rfl)) dX11_state_28 ⟨(Nat.le_of_ble_eq_true rfl), (Nat.le_of_ble_eq_true rfl)⟩) hS (fun q _ h => hFc q h) hFc (fun r_6 u t H locs ht hvm w_5 hB hz1 hk1 hS => ?_)
    obtain ⟨v_7, fa_8⟩ := u
    obtain ⟨hP1, hK1, hD1⟩ := hB
    rw [ht] at hP1
    have hP : va_P (dC, dI) vwCl (mW g0 pq cp v_7 fa_8) H := hP1
    have hD : va_D A (mW g0 pq cp v_7 fa_8) := hD1.weaken (fun _ _ _ h => hFc _ h)
    clear hP1 hK1 hD1 hk1 hz1 hvm ht hFc
    obtain ⟨rfl, w_5⟩ := w_5
    have hVv_7 : mV v_7 := sm0_V w_5 gV
    have hAv_7 : mA fa_8 := sm0_A w_5 gA
    have hRv_7 : mX [0, 45, 47, 48, 49, 50, 51, 52, 53, 54, 55, 56, 57, 58, 59, 60] v fa v_7 fa_8 := mX.st mX.rf (mX.s0 w_5) (by decide +kernel)
    refine lv_goto (tgt := 41) hx hb dX11_state_31 (by decide +kernel) ?_
    exact W.iret (v := (-1)) hx hb hr (fun t ht hW => ⟨⟨(-1), (v_7, fa_8), rfl, ⟨hVv_7, hAv_7, hRv_7⟩, ⟨by rw [ht]; exact hP, va_K.moved hW.alike hK, hD⟩⟩, hS.F ht⟩) hS.2.2 dX11_state_41
  · have dc_3 := c_ne (a := r_2.toInt) (b := 0) rfl (by decide +kernel) c_3
    have hi_9 := isI_t w_1 (fun q => c_3 (Int32.toInt_inj.mp q))
    have khi_9 : (v 43).toInt ≤ 60 := (gV 43).2
    refine lv_aload_n hx hb dX11_state_8 rfl (lv_at hl 0 rfl) ?_
    refine lv_iload_n hx hb dX11_state_9 rfl (lv_at hl 2 rfl) ?_
    refine lv_iload_n hx hb dX11_state_10 rfl (lv_at hl 3 rfl) ?_
    have hFc : ∀ q, va_A [] H.size q → A q := pu_free hS hA
    refine va_calli (va_runV (As := [.int x2, .int x3]) (rest := []) ⟨hx, hb, hml, hown, hts⟩ (c_X11_wrongTimes_b l dC dI H.size g0 pq cp v fa gV gA x2 x3) (cwV 2 hts gX11_state_X11_wrongTimes rfl rfl rfl (by decide +kernel) ⟨(Nat.le_of_ble_eq_true rfl), (Nat.le_of_ble_eq_true rfl)⟩) (pr_V (r := (RX11, TX11, 63)) hP hK hD 0 11 rfl rfl) rfl rfl hl.1 rfl (lv_room (Nat.le_of_ble_eq_true rfl)) dX11_state_11 ⟨(Nat.le_of_ble_eq_true rfl), (Nat.le_of_ble_eq_true rfl)⟩) hS (fun q _ h => hFc q h) hFc (fun r_11 u t H locs ht hvm w_10 hB hz1 hk1 hS => ?_)
    have hP := pu_keep hP hk1
    clear hk1 hz1 hvm hB ht hFc
    obtain ⟨hb_12, hx_13⟩ := w_10
    refine lv_goto (tgt := 18) hx hb dX11_state_14 (by decide +kernel) ?_
    refine lv_istore (lv' := [(4, .int r_11), (0, .ref g0), (1, .int x1), (2, .int x2), (3, .int x3)]) hx hb dX11_state_18 hl (by decide +kernel) rfl (fun ls hl => ?_)
    refine lv_iload hx hb dX11_state_20 (lv_at hl 0 rfl) ?_
    refine lv_if_eq (tgt := 34) hx hb dX11_state_22 (by decide +kernel) (fun c_14 => ?_) (fun c_14 => ?_)
    · have dc_14 := c_eq (a := r_11.toInt) (b := 0) rfl (by decide +kernel) c_14
      have hi_15 := hx_13 c_14
      refine lv_aload_n hx hb dX11_state_34 rfl (lv_at hl 1 rfl) ?_
      refine lv_iload_n hx hb dX11_state_35 rfl (lv_at hl 2 rfl) ?_
      refine lv_iload_n hx hb dX11_state_36 rfl (lv_at hl 3 rfl) ?_
      refine lv_iload_n hx hb dX11_state_37 rfl (lv_at hl 4 rfl) ?_
      have hFc := va_free (wc := (mW g0 pq cp v fa)) hD hS hA (List.range 48) rfl
      refine va_calli (va_runV (As := [.int x1, .int x2, .int x3]) (rest := []) ⟨hx, hb, hml, hown, hts⟩ (c_X11_stateOf l dC dI H.size g0 pq cp v fa gV gA x1 (by omega) x2 x3) (cwV 3 hts gX11_state_X11_stateOf rfl rfl rfl (by decide +kernel) ⟨(Nat.le_of_ble_eq_true rfl), (Nat.le_of_ble_eq_true rfl)⟩) (pr_V (r := (RX11, TX11, 63)) hP hK hD 0 11 rfl rfl) rfl rfl hl.1 rfl (lv_room (Nat.le_of_ble_eq_true rfl)) dX11_state_38 ⟨(Nat.le_of_ble_eq_true rfl), (Nat.le_of_ble_eq_true rfl)⟩) hS (fun q _ h => hFc q h) hFc (fun r_17 u t H locs ht hvm w_16 hB hz1 hk1 hS => ?_)
      obtain ⟨v_18, fa_19⟩ := u
      obtain ⟨hP1, hK1, hD1⟩ := hB
      rw [ht] at hP1
      have hP : va_P (dC, dI) vwCl (mW g0 pq cp v_18 fa_19) H := hP1
      have hD : va_D A (mW g0 pq cp v_18 fa_19) := hD1.weaken (fun _ _ _ h => hFc _ h)
      clear hP1 hK1 hD1 hk1 hz1 hvm ht hFc
      obtain ⟨hV_20, hA_21, hR_22, hb_23, hx_24⟩ := w_16
      dsimp only at hV_20 hA_21 hR_22 hb_23 hx_24
      have R_25 : mX [0, 45, 47, 48, 49, 50, 51, 52, 53, 54, 55, 56, 57, 58, 59, 60] v fa v_18 fa_19 := mX.st mX.rf (mX.scr hR_22) (by decide +kernel)
      exact W.iret (v := r_17) hx hb hr (fun t ht hW => ⟨⟨r_17, (v_18, fa_19), rfl, ⟨hV_20, hA_21, R_25⟩, ⟨by rw [ht]; exact hP, va_K.moved hW.alike hK, hD⟩⟩, hS.F ht⟩) hS.2.2 dX11_state_41
    · have dc_14 := c_ne (a := r_11.toInt) (b := 0) rfl (by decide +kernel) c_14
      refine lv_aload_n hx hb dX11_state_25 rfl (lv_at hl 1 rfl) ?_
      refine lv_iload hx hb dX11_state_26 (lv_at hl 0 rfl) ?_
      have hFc := va_free (wc := (mW g0 pq cp v fa)) hD hS hA (List.range 48) rfl
      refine va_calli (va_runV (As := [.int r_11]) (rest := []) ⟨hx, hb, hml, hown, hts⟩ (c_X11_refuse l dC dI H.size g0 pq cp v fa r_11 (by apply vp_in_iff.mpr; rw [ng_i (x := r_11) rfl (by omega) (by omega)]; omega)) (cwV 1 hts gX11_state_X11_refuse rfl rfl rfl (by decide +kernel) ⟨(Nat.le_of_ble_eq_true rfl), (Nat.le_of_ble_eq_true rfl)⟩) (pr_V (r := (RX11, TX11, 63)) hP hK hD 0 11 rfl rfl) rfl rfl hl.1 rfl (lv_room (Nat.le_of_ble_eq_true rfl)) dX11_state_28 ⟨(Nat.le_of_ble_eq_true rfl), (Nat.le_of_ble_eq_true rfl)⟩) hS (fun q _ h => hFc q h) hFc (fun r_27 u t H locs ht hvm w_26 hB hz1 hk1 hS => ?_)
      obtain ⟨v_28, fa_29⟩ := u
      obtain ⟨hP1, hK1, hD1⟩ := hB
      rw [ht] at hP1
      have hP : va_P (dC, dI) vwCl (mW g0 pq cp v_28 fa_29) H := hP1
      have hD : va_D A (mW g0 pq cp v_28 fa_29) := hD1.weaken (fun _ _ _ h => hFc _ h)
      clear hP1 hK1 hD1 hk1 hz1 hvm ht hFc
      obtain ⟨-, w_26⟩ := w_26
      have hVv_28 : mV v_28 := sm0_V w_26 gV
      have hAv_28 : mA fa_29 := sm0_A w_26 gA
      have hRv_28 : mX [0, 45, 47, 48, 49, 50, 51, 52, 53, 54, 55, 56, 57, 58, 59, 60] v fa v_28 fa_29 := mX.st mX.rf (mX.s0 w_26) (by decide +kernel)
      refine lv_goto (tgt := 41) hx hb dX11_state_31 (by decide +kernel) ?_
      exact W.iret (v := r_27) hx hb hr (fun t ht hW => ⟨⟨r_27, (v_28, fa_29), rfl, ⟨hVv_28, hAv_28, hRv_28⟩, ⟨by rw [ht]; exact hP, va_K.moved hW.alike hK, hD⟩⟩, hS.F ht⟩) hS.2.2 dX11_state_41
set_option maxHeartbeats 4000000 in
set_option maxRecDepth 100000 in
theorem c_X11_earns (l : Launch) (dC : Nat → ClassId) (dI : Nat → Nat → Nat) (sz : Nat) (g0 : Nat) (pq : Nat → Nat) (cp : Nat → ClassId) (v : Nat → Int32) (fa : Nat → Nat → Int32) (gV : mV v) (gA : mA fa) (x1 : Int32) (x2 : Int32) (x3 : Int32) : Met l yX11_earns wsX11_earns ({ frames := 24, cells := 0, slots := 0, locals := 559 }) (va_Pc [.ref g0, .int x1, .int x2, .int x3] (pcW (dC, dI) (mT cp) (mW g0 pq cp v fa) sz)) (va_Qi (fun (r : Int32) (u : (Nat → Int32) × (Nat → Nat → Int32)) => mV u.1 ∧ mA u.2 ∧ mX [0, 45, 47, 48, 49, 50, 51, 52, 53, 54, 55, 56, 57, 58, 59, 60] v fa u.1 u.2) (fun u t => va_P (dC, dI) vwCl (mW g0 pq cp u.1 u.2) t.heap ∧ va_K (dC, dI) vwCl (mT cp) t ∧ va_D (va_A (mW g0 pq cp v fa) sz) (mW g0 pq cp u.1 u.2)) (va_A (mW g0 pq cp v fa) sz)) 0 0 (va_A (mW g0 pq cp v fa) sz) := by
  refine Met.ofW (cc := cX11_earns) (maxL := 5) (ret := (some .int)) (by decide +kernel) rfl ?_
  intro p e s m args below meth c s₁ B hml hv
  obtain ⟨rfl, hsz, hP, hK, hD0⟩ := hv
  have hx := B.exec
  have hb := B.bytes
  have hr := B.returns
  have hts := atoms_spec (ws := wsX11_earns) B.pre
  have hown : s.vm.findClass RX11 = some m.cls := findClass_of_methodNamed B.named
  have hlocks := B.notSynchronized
  subst hsz
  have hD := hD0.self (sz := s.heap.size)
  generalize hAe : va_A (mW g0 pq cp v fa) s.heap.size = A at hD ⊢
  have hA : ∀ q : Nat, s.heap.size ≤ q → A q := fun q h => by rw [← hAe]; exact Or.inr h
  have hS : va_S A s.heap s.heap [] := va_S.rf
  have hP : va_P (dC, dI) vwCl (mW g0 pq cp v fa) s.heap := hP
  have hl := lv_entry ([.ref g0, .int x1, .int x2, .int x3]) (n := 5) (Nat.le_of_ble_eq_true rfl)
  rw [lg_entry_eq]
  generalize (lg_sl ([.ref g0, .int x1, .int x2, .int x3]) ++ List.replicate (5 - (lg_sl ([.ref g0, .int x1, .int x2, .int x3])).length) Slot.unset).toArray = ls at hl ⊢
  have hl : lv_has ls 5 [(0, .ref g0), (1, .int x1), (2, .int x2), (3, .int x3)] := hl
  refine lv_aload_n hx hb dX11_earns_0 rfl (lv_at hl 0 rfl) ?_
  refine lv_iload_n hx hb dX11_earns_1 rfl (lv_at hl 1 rfl) ?_
  have hFc : ∀ q, va_A [] s.heap.size q → A q := pu_free hS hA
  refine va_calli (va_runV (As := [.int x1]) (rest := []) ⟨hx, hb, hml, hown, hts⟩ (c_X11_isAgreement l dC dI s.heap.size g0 pq cp v fa x1) (cwV 1 hts gX11_earns_X11_isAgreement rfl rfl rfl (by decide +kernel) ⟨(Nat.le_of_ble_eq_true rfl), (Nat.le_of_ble_eq_true rfl)⟩) (pr_V (r := (RX11, TX11, 63)) hP hK hD 0 11 rfl rfl) rfl rfl hl.1 rfl (lv_room (Nat.le_of_ble_eq_true rfl)) dX11_earns_2 ⟨(Nat.le_of_ble_eq_true rfl), (Nat.le_of_ble_eq_true rfl)⟩) hS (fun q _ h => hFc q h) hFc (fun r_2 u t H locs ht hvm w_1 hB hz1 hk1 hS => ?_)
  have hP := pu_keep hP hk1
  clear hk1 hz1 hvm hB ht hFc
  have hbr_2 : 0 ≤ r_2.toInt ∧ r_2.toInt ≤ 1 := iv_of w_1 (isI_i _ _)
  refine lv_if_eq (tgt := 17) hx hb dX11_earns_5 (by decide +kernel) (fun c_3 => ?_) (fun c_3 => ?_)
  · have dc_3 := c_eq (a := r_2.toInt) (b := 0) rfl (by decide +kernel) c_3
    refine lv_iconst (v := (-1)) hx hb dX11_earns_17 (by decide +kernel) ?_
    refine lv_istore (lv' := [(4, .int (-1)), (0, .ref g0), (1, .int x1), (2, .int x2), (3, .int x3)]) hx hb dX11_earns_18 hl (by decide +kernel) rfl (fun ls hl => ?_)
    refine lv_iload hx hb dX11_earns_20 (lv_at hl 0 rfl) ?_
    refine lv_if_eq (tgt := 34) hx hb dX11_earns_22 (by decide +kernel) (fun c_4 => absurd c_4 (by decide +kernel)) (fun _ => ?_)
    refine lv_aload_n hx hb dX11_earns_25 rfl (lv_at hl 1 rfl) ?_
    refine lv_iload hx hb dX11_earns_26 (lv_at hl 0 rfl) ?_
    have hFc := va_free (wc := (mW g0 pq cp v fa)) hD hS hA (List.range 48) rfl
    refine va_calli (va_runV (As := [.int (-1)]) (rest := []) ⟨hx, hb, hml, hown, hts⟩ (c_X11_refuse l dC dI H.size g0 pq cp v fa (-1) (by unfold vp_in; decide)) (cwV 1 hts gX11_earns_X11_refuse rfl rfl rfl (by decide +kernel) ⟨(Nat.le_of_ble_eq_true rfl), (Nat.le_of_ble_eq_true rfl)⟩) (pr_V (r := (RX11, TX11, 63)) hP hK hD 0 11 rfl rfl) rfl rfl hl.1 rfl (lv_room (Nat.le_of_ble_eq_true rfl)) dX11_earns_28 ⟨(Nat.le_of_ble_eq_true rfl), (Nat.le_of_ble_eq_true rfl)⟩) hS (fun q _ h => hFc q h) hFc (fun r_6 u t H locs ht hvm w_5 hB hz1 hk1 hS => ?_)
    obtain ⟨v_7, fa_8⟩ := u
    obtain ⟨hP1, hK1, hD1⟩ := hB
    rw [ht] at hP1
    have hP : va_P (dC, dI) vwCl (mW g0 pq cp v_7 fa_8) H := hP1
    have hD : va_D A (mW g0 pq cp v_7 fa_8) := hD1.weaken (fun _ _ _ h => hFc _ h)
    clear hP1 hK1 hD1 hk1 hz1 hvm ht hFc
    obtain ⟨rfl, w_5⟩ := w_5
    have hVv_7 : mV v_7 := sm0_V w_5 gV
    have hAv_7 : mA fa_8 := sm0_A w_5 gA
    have hRv_7 : mX [0, 45, 47, 48, 49, 50, 51, 52, 53, 54, 55, 56, 57, 58, 59, 60] v fa v_7 fa_8 := mX.st mX.rf (mX.s0 w_5) (by decide +kernel)
    refine lv_goto (tgt := 41) hx hb dX11_earns_31 (by decide +kernel) ?_
    exact W.iret (v := (-1)) hx hb hr (fun t ht hW => ⟨⟨(-1), (v_7, fa_8), rfl, ⟨hVv_7, hAv_7, hRv_7⟩, ⟨by rw [ht]; exact hP, va_K.moved hW.alike hK, hD⟩⟩, hS.F ht⟩) hS.2.2 dX11_earns_41
  · have dc_3 := c_ne (a := r_2.toInt) (b := 0) rfl (by decide +kernel) c_3
    have hi_9 := isI_t w_1 (fun q => c_3 (Int32.toInt_inj.mp q))
    have khi_9 : (v 43).toInt ≤ 60 := (gV 43).2
    refine lv_aload_n hx hb dX11_earns_8 rfl (lv_at hl 0 rfl) ?_
    refine lv_iload_n hx hb dX11_earns_9 rfl (lv_at hl 2 rfl) ?_
    refine lv_iload_n hx hb dX11_earns_10 rfl (lv_at hl 3 rfl) ?_
    have hFc : ∀ q, va_A [] H.size q → A q := pu_free hS hA
    refine va_calli (va_runV (As := [.int x2, .int x3]) (rest := []) ⟨hx, hb, hml, hown, hts⟩ (c_X11_wrongTimes_b l dC dI H.size g0 pq cp v fa gV gA x2 x3) (cwV 2 hts gX11_earns_X11_wrongTimes rfl rfl rfl (by decide +kernel) ⟨(Nat.le_of_ble_eq_true rfl), (Nat.le_of_ble_eq_true rfl)⟩) (pr_V (r := (RX11, TX11, 63)) hP hK hD 0 11 rfl rfl) rfl rfl hl.1 rfl (lv_room (Nat.le_of_ble_eq_true rfl)) dX11_earns_11 ⟨(Nat.le_of_ble_eq_true rfl), (Nat.le_of_ble_eq_true rfl)⟩) hS (fun q _ h => hFc q h) hFc (fun r_11 u t H locs ht hvm w_10 hB hz1 hk1 hS => ?_)
    have hP := pu_keep hP hk1
    clear hk1 hz1 hvm hB ht hFc
    obtain ⟨hb_12, hx_13⟩ := w_10
    refine lv_goto (tgt := 18) hx hb dX11_earns_14 (by decide +kernel) ?_
    refine lv_istore (lv' := [(4, .int r_11), (0, .ref g0), (1, .int x1), (2, .int x2), (3, .int x3)]) hx hb dX11_earns_18 hl (by decide +kernel) rfl (fun ls hl => ?_)
    refine lv_iload hx hb dX11_earns_20 (lv_at hl 0 rfl) ?_
    refine lv_if_eq (tgt := 34) hx hb dX11_earns_22 (by decide +kernel) (fun c_14 => ?_) (fun c_14 => ?_)
    · have dc_14 := c_eq (a := r_11.toInt) (b := 0) rfl (by decide +kernel) c_14
      have hi_15 := hx_13 c_14
      refine lv_aload_n hx hb dX11_earns_34 rfl (lv_at hl 1 rfl) ?_
      refine lv_iload_n hx hb dX11_earns_35 rfl (lv_at hl 2 rfl) ?_
      refine lv_iload_n hx hb dX11_earns_36 rfl (lv_at hl 3 rfl) ?_
      refine lv_iload_n hx hb dX11_earns_37 rfl (lv_at hl 4 rfl) ?_
      have hFc := va_free (wc := (mW g0 pq cp v fa)) hD hS hA (List.range 48) rfl
      refine va_calli (va_runV (As := [.int x1, .int x2, .int x3]) (rest := []) ⟨hx, hb, hml, hown, hts⟩ (c_X11_earnsOf l dC dI H.size g0 pq cp v fa gV gA x1 (by omega) x2 (by omega) x3) (cwV 3 hts gX11_earns_X11_earnsOf rfl rfl rfl (by decide +kernel) ⟨(Nat.le_of_ble_eq_true rfl), (Nat.le_of_ble_eq_true rfl)⟩) (pr_V (r := (RX11, TX11, 63)) hP hK hD 0 11 rfl rfl) rfl rfl hl.1 rfl (lv_room (Nat.le_of_ble_eq_true rfl)) dX11_earns_38 ⟨(Nat.le_of_ble_eq_true rfl), (Nat.le_of_ble_eq_true rfl)⟩) hS (fun q _ h => hFc q h) hFc (fun r_17 u t H locs ht hvm w_16 hB hz1 hk1 hS => ?_)
      obtain ⟨v_18, fa_19⟩ := u
      obtain ⟨hP1, hK1, hD1⟩ := hB
      rw [ht] at hP1
      have hP : va_P (dC, dI) vwCl (mW g0 pq cp v_18 fa_19) H := hP1
      have hD : va_D A (mW g0 pq cp v_18 fa_19) := hD1.weaken (fun _ _ _ h => hFc _ h)
      clear hP1 hK1 hD1 hk1 hz1 hvm ht hFc
      obtain ⟨hV_20, hA_21, hR_22⟩ := w_16
      dsimp only at hV_20 hA_21 hR_22 
      have R_23 : mX [0, 45, 47, 48, 49, 50, 51, 52, 53, 54, 55, 56, 57, 58, 59, 60] v fa v_18 fa_19 := mX.st mX.rf (mX.scr hR_22) (by decide +kernel)
      exact W.iret (v := r_17) hx hb hr (fun t ht hW => ⟨⟨r_17, (v_18, fa_19), rfl, ⟨hV_20, hA_21, R_23⟩, ⟨by rw [ht]; exact hP, va_K.moved hW.alike hK, hD⟩⟩, hS.F ht⟩) hS.2.2 dX11_earns_41
    · have dc_14 := c_ne (a := r_11.toInt) (b := 0) rfl (by decide +kernel) c_14
      refine lv_aload_n hx hb dX11_earns_25 rfl (lv_at hl 1 rfl) ?_
      refine lv_iload hx hb dX11_earns_26 (lv_at hl 0 rfl) ?_
      have hFc := va_free (wc := (mW g0 pq cp v fa)) hD hS hA (List.range 48) rfl
      refine va_calli (va_runV (As := [.int r_11]) (rest := []) ⟨hx, hb, hml, hown, hts⟩ (c_X11_refuse l dC dI H.size g0 pq cp v fa r_11 (by apply vp_in_iff.mpr; rw [ng_i (x := r_11) rfl (by omega) (by omega)]; omega)) (cwV 1 hts gX11_earns_X11_refuse rfl rfl rfl (by decide +kernel) ⟨(Nat.le_of_ble_eq_true rfl), (Nat.le_of_ble_eq_true rfl)⟩) (pr_V (r := (RX11, TX11, 63)) hP hK hD 0 11 rfl rfl) rfl rfl hl.1 rfl (lv_room (Nat.le_of_ble_eq_true rfl)) dX11_earns_28 ⟨(Nat.le_of_ble_eq_true rfl), (Nat.le_of_ble_eq_true rfl)⟩) hS (fun q _ h => hFc q h) hFc (fun r_25 u t H locs ht hvm w_24 hB hz1 hk1 hS => ?_)
      obtain ⟨v_26, fa_27⟩ := u
      obtain ⟨hP1, hK1, hD1⟩ := hB
      rw [ht] at hP1
      have hP : va_P (dC, dI) vwCl (mW g0 pq cp v_26 fa_27) H := hP1
      have hD : va_D A (mW g0 pq cp v_26 fa_27) := hD1.weaken (fun _ _ _ h => hFc _ h)
      clear hP1 hK1 hD1 hk1 hz1 hvm ht hFc
      obtain ⟨-, w_24⟩ := w_24
      have hVv_26 : mV v_26 := sm0_V w_24 gV
      have hAv_26 : mA fa_27 := sm0_A w_24 gA
      have hRv_26 : mX [0, 45, 47, 48, 49, 50, 51, 52, 53, 54, 55, 56, 57, 58, 59, 60] v fa v_26 fa_27 := mX.st mX.rf (mX.s0 w_24) (by decide +kernel)
      refine lv_goto (tgt := 41) hx hb dX11_earns_31 (by decide +kernel) ?_
      exact W.iret (v := r_25) hx hb hr (fun t ht hW => ⟨⟨r_25, (v_26, fa_27), rfl, ⟨hVv_26, hAv_26, hRv_26⟩, ⟨by rw [ht]; exact hP, va_K.moved hW.alike hK, hD⟩⟩, hS.F ht⟩) hS.2.2 dX11_earns_41
set_option maxHeartbeats 4000000 in
set_option maxRecDepth 100000 in
theorem c_X11_aboard (l : Launch) (dC : Nat → ClassId) (dI : Nat → Nat → Nat) (sz : Nat) (g0 : Nat) (pq : Nat → Nat) (cp : Nat → ClassId) (v : Nat → Int32) (fa : Nat → Nat → Int32) (gV : mV v) (gA : mA fa) (x1 : Int32) (x2 : Int32) (x3 : Int32) : Met l yX11_aboard wsX11_aboard ({ frames := 24, cells := 0, slots := 0, locals := 558 }) (va_Pc [.ref g0, .int x1, .int x2, .int x3] (pcW (dC, dI) (mT cp) (mW g0 pq cp v fa) sz)) (va_Qi (fun (r : Int32) (u : (Nat → Int32) × (Nat → Nat → Int32)) => mV u.1 ∧ mA u.2 ∧ mX [0, 45, 47, 48, 49, 50, 51, 52, 53, 54, 55, 56, 57, 58, 59, 60] v fa u.1 u.2) (fun u t => va_P (dC, dI) vwCl (mW g0 pq cp u.1 u.2) t.heap ∧ va_K (dC, dI) vwCl (mT cp) t ∧ va_D (va_A (mW g0 pq cp v fa) sz) (mW g0 pq cp u.1 u.2)) (va_A (mW g0 pq cp v fa) sz)) 0 0 (va_A (mW g0 pq cp v fa) sz) := by
  refine Met.ofW (cc := cX11_aboard) (maxL := 5) (ret := (some .int)) (by decide +kernel) rfl ?_
  intro p e s m args below meth c s₁ B hml hv
  obtain ⟨rfl, hsz, hP, hK, hD0⟩ := hv
  have hx := B.exec
  have hb := B.bytes
  have hr := B.returns
  have hts := atoms_spec (ws := wsX11_aboard) B.pre
  have hown : s.vm.findClass RX11 = some m.cls := findClass_of_methodNamed B.named
  have hlocks := B.notSynchronized
  subst hsz
  have hD := hD0.self (sz := s.heap.size)
  generalize hAe : va_A (mW g0 pq cp v fa) s.heap.size = A at hD ⊢
  have hA : ∀ q : Nat, s.heap.size ≤ q → A q := fun q h => by rw [← hAe]; exact Or.inr h
  have hS : va_S A s.heap s.heap [] := va_S.rf
  have hP : va_P (dC, dI) vwCl (mW g0 pq cp v fa) s.heap := hP
  have hl := lv_entry ([.ref g0, .int x1, .int x2, .int x3]) (n := 5) (Nat.le_of_ble_eq_true rfl)
  rw [lg_entry_eq]
  generalize (lg_sl ([.ref g0, .int x1, .int x2, .int x3]) ++ List.replicate (5 - (lg_sl ([.ref g0, .int x1, .int x2, .int x3])).length) Slot.unset).toArray = ls at hl ⊢
  have hl : lv_has ls 5 [(0, .ref g0), (1, .int x1), (2, .int x2), (3, .int x3)] := hl
  refine lv_aload_n hx hb dX11_aboard_0 rfl (lv_at hl 0 rfl) ?_
  refine lv_iload_n hx hb dX11_aboard_1 rfl (lv_at hl 1 rfl) ?_
  have hFc : ∀ q, va_A [] s.heap.size q → A q := pu_free hS hA
  refine va_calli (va_runV (As := [.int x1]) (rest := []) ⟨hx, hb, hml, hown, hts⟩ (c_X11_isVoyage l dC dI s.heap.size g0 pq cp v fa x1) (cwV 1 hts gX11_aboard_X11_isVoyage rfl rfl rfl (by decide +kernel) ⟨(Nat.le_of_ble_eq_true rfl), (Nat.le_of_ble_eq_true rfl)⟩) (pr_V (r := (RX11, TX11, 63)) hP hK hD 0 11 rfl rfl) rfl rfl hl.1 rfl (lv_room (Nat.le_of_ble_eq_true rfl)) dX11_aboard_2 ⟨(Nat.le_of_ble_eq_true rfl), (Nat.le_of_ble_eq_true rfl)⟩) hS (fun q _ h => hFc q h) hFc (fun r_2 u t H locs ht hvm w_1 hB hz1 hk1 hS => ?_)
  have hP := pu_keep hP hk1
  clear hk1 hz1 hvm hB ht hFc
  have hbr_2 : 0 ≤ r_2.toInt ∧ r_2.toInt ≤ 1 := iv_of w_1 (isI_i _ _)
  refine lv_if_eq (tgt := 17) hx hb dX11_aboard_5 (by decide +kernel) (fun c_3 => ?_) (fun c_3 => ?_)
  · have dc_3 := c_eq (a := r_2.toInt) (b := 0) rfl (by decide +kernel) c_3
    refine lv_iconst (v := (-1)) hx hb dX11_aboard_17 (by decide +kernel) ?_
    refine lv_istore (lv' := [(4, .int (-1)), (0, .ref g0), (1, .int x1), (2, .int x2), (3, .int x3)]) hx hb dX11_aboard_18 hl (by decide +kernel) rfl (fun ls hl => ?_)
    refine lv_iload hx hb dX11_aboard_20 (lv_at hl 0 rfl) ?_
    refine lv_if_eq (tgt := 34) hx hb dX11_aboard_22 (by decide +kernel) (fun c_4 => absurd c_4 (by decide +kernel)) (fun _ => ?_)
    refine lv_aload_n hx hb dX11_aboard_25 rfl (lv_at hl 1 rfl) ?_
    refine lv_iload hx hb dX11_aboard_26 (lv_at hl 0 rfl) ?_
    have hFc := va_free (wc := (mW g0 pq cp v fa)) hD hS hA (List.range 48) rfl
    refine va_calli (va_runV (As := [.int (-1)]) (rest := []) ⟨hx, hb, hml, hown, hts⟩ (c_X11_refuse l dC dI H.size g0 pq cp v fa (-1) (by unfold vp_in; decide)) (cwV 1 hts gX11_aboard_X11_refuse rfl rfl rfl (by decide +kernel) ⟨(Nat.le_of_ble_eq_true rfl), (Nat.le_of_ble_eq_true rfl)⟩) (pr_V (r := (RX11, TX11, 63)) hP hK hD 0 11 rfl rfl) rfl rfl hl.1 rfl (lv_room (Nat.le_of_ble_eq_true rfl)) dX11_aboard_28 ⟨(Nat.le_of_ble_eq_true rfl), (Nat.le_of_ble_eq_true rfl)⟩) hS (fun q _ h => hFc q h) hFc (fun r_6 u t H locs ht hvm w_5 hB hz1 hk1 hS => ?_)
    obtain ⟨v_7, fa_8⟩ := u
    obtain ⟨hP1, hK1, hD1⟩ := hB
    rw [ht] at hP1
    have hP : va_P (dC, dI) vwCl (mW g0 pq cp v_7 fa_8) H := hP1
    have hD : va_D A (mW g0 pq cp v_7 fa_8) := hD1.weaken (fun _ _ _ h => hFc _ h)
    clear hP1 hK1 hD1 hk1 hz1 hvm ht hFc
    obtain ⟨rfl, w_5⟩ := w_5
    have hVv_7 : mV v_7 := sm0_V w_5 gV
    have hAv_7 : mA fa_8 := sm0_A w_5 gA
    have hRv_7 : mX [0, 45, 47, 48, 49, 50, 51, 52, 53, 54, 55, 56, 57, 58, 59, 60] v fa v_7 fa_8 := mX.st mX.rf (mX.s0 w_5) (by decide +kernel)
    refine lv_goto (tgt := 41) hx hb dX11_aboard_31 (by decide +kernel) ?_
    exact W.iret (v := (-1)) hx hb hr (fun t ht hW => ⟨⟨(-1), (v_7, fa_8), rfl, ⟨hVv_7, hAv_7, hRv_7⟩, ⟨by rw [ht]; exact hP, va_K.moved hW.alike hK, hD⟩⟩, hS.F ht⟩) hS.2.2 dX11_aboard_41
  · have dc_3 := c_ne (a := r_2.toInt) (b := 0) rfl (by decide +kernel) c_3
    have hi_9 := isI_t w_1 (fun q => c_3 (Int32.toInt_inj.mp q))
    have khi_9 : (v 40).toInt ≤ 20 := (gV 40).2
    refine lv_aload_n hx hb dX11_aboard_8 rfl (lv_at hl 0 rfl) ?_
    refine lv_iload_n hx hb dX11_aboard_9 rfl (lv_at hl 2 rfl) ?_
    refine lv_iload_n hx hb dX11_aboard_10 rfl (lv_at hl 3 rfl) ?_
    have hFc : ∀ q, va_A [] H.size q → A q := pu_free hS hA
    refine va_calli (va_runV (As := [.int x2, .int x3]) (rest := []) ⟨hx, hb, hml, hown, hts⟩ (c_X11_wrongTimes_b l dC dI H.size g0 pq cp v fa gV gA x2 x3) (cwV 2 hts gX11_aboard_X11_wrongTimes rfl rfl rfl (by decide +kernel) ⟨(Nat.le_of_ble_eq_true rfl), (Nat.le_of_ble_eq_true rfl)⟩) (pr_V (r := (RX11, TX11, 63)) hP hK hD 0 11 rfl rfl) rfl rfl hl.1 rfl (lv_room (Nat.le_of_ble_eq_true rfl)) dX11_aboard_11 ⟨(Nat.le_of_ble_eq_true rfl), (Nat.le_of_ble_eq_true rfl)⟩) hS (fun q _ h => hFc q h) hFc (fun r_11 u t H locs ht hvm w_10 hB hz1 hk1 hS => ?_)
    have hP := pu_keep hP hk1
    clear hk1 hz1 hvm hB ht hFc
    obtain ⟨hb_12, hx_13⟩ := w_10
    refine lv_goto (tgt := 18) hx hb dX11_aboard_14 (by decide +kernel) ?_
    refine lv_istore (lv' := [(4, .int r_11), (0, .ref g0), (1, .int x1), (2, .int x2), (3, .int x3)]) hx hb dX11_aboard_18 hl (by decide +kernel) rfl (fun ls hl => ?_)
    refine lv_iload hx hb dX11_aboard_20 (lv_at hl 0 rfl) ?_
    refine lv_if_eq (tgt := 34) hx hb dX11_aboard_22 (by decide +kernel) (fun c_14 => ?_) (fun c_14 => ?_)
    · have dc_14 := c_eq (a := r_11.toInt) (b := 0) rfl (by decide +kernel) c_14
      have hi_15 := hx_13 c_14
      refine lv_aload_n hx hb dX11_aboard_34 rfl (lv_at hl 1 rfl) ?_
      refine lv_iload_n hx hb dX11_aboard_35 rfl (lv_at hl 2 rfl) ?_
      refine lv_iload_n hx hb dX11_aboard_36 rfl (lv_at hl 3 rfl) ?_
      refine lv_iload_n hx hb dX11_aboard_37 rfl (lv_at hl 4 rfl) ?_
      have hFc := va_free (wc := (mW g0 pq cp v fa)) hD hS hA (List.range 48) rfl
      refine va_calli (va_runV (As := [.int x1, .int x2, .int x3]) (rest := []) ⟨hx, hb, hml, hown, hts⟩ (c_X11_aboardOf l dC dI H.size g0 pq cp v fa gV gA x1 x2 x3) (cwV 3 hts gX11_aboard_X11_aboardOf rfl rfl rfl (by decide +kernel) ⟨(Nat.le_of_ble_eq_true rfl), (Nat.le_of_ble_eq_true rfl)⟩) (pr_V (r := (RX11, TX11, 63)) hP hK hD 0 11 rfl rfl) rfl rfl hl.1 rfl (lv_room (Nat.le_of_ble_eq_true rfl)) dX11_aboard_38 ⟨(Nat.le_of_ble_eq_true rfl), (Nat.le_of_ble_eq_true rfl)⟩) hS (fun q _ h => hFc q h) hFc (fun r_17 u t H locs ht hvm w_16 hB hz1 hk1 hS => ?_)
      obtain ⟨v_18, fa_19⟩ := u
      obtain ⟨hP1, hK1, hD1⟩ := hB
      rw [ht] at hP1
      have hP : va_P (dC, dI) vwCl (mW g0 pq cp v_18 fa_19) H := hP1
      have hD : va_D A (mW g0 pq cp v_18 fa_19) := hD1.weaken (fun _ _ _ h => hFc _ h)
      clear hP1 hK1 hD1 hk1 hz1 hvm ht hFc
      obtain ⟨hV_20, hA_21, hR_22, hb_23⟩ := w_16
      dsimp only at hV_20 hA_21 hR_22 hb_23
      have R_24 : mX [0, 45, 47, 48, 49, 50, 51, 52, 53, 54, 55, 56, 57, 58, 59, 60] v fa v_18 fa_19 := mX.st mX.rf (mX.scr hR_22) (by decide +kernel)
      exact W.iret (v := r_17) hx hb hr (fun t ht hW => ⟨⟨r_17, (v_18, fa_19), rfl, ⟨hV_20, hA_21, R_24⟩, ⟨by rw [ht]; exact hP, va_K.moved hW.alike hK, hD⟩⟩, hS.F ht⟩) hS.2.2 dX11_aboard_41
    · have dc_14 := c_ne (a := r_11.toInt) (b := 0) rfl (by decide +kernel) c_14
      refine lv_aload_n hx hb dX11_aboard_25 rfl (lv_at hl 1 rfl) ?_
      refine lv_iload hx hb dX11_aboard_26 (lv_at hl 0 rfl) ?_
      have hFc := va_free (wc := (mW g0 pq cp v fa)) hD hS hA (List.range 48) rfl
      refine va_calli (va_runV (As := [.int r_11]) (rest := []) ⟨hx, hb, hml, hown, hts⟩ (c_X11_refuse l dC dI H.size g0 pq cp v fa r_11 (by apply vp_in_iff.mpr; rw [ng_i (x := r_11) rfl (by omega) (by omega)]; omega)) (cwV 1 hts gX11_aboard_X11_refuse rfl rfl rfl (by decide +kernel) ⟨(Nat.le_of_ble_eq_true rfl), (Nat.le_of_ble_eq_true rfl)⟩) (pr_V (r := (RX11, TX11, 63)) hP hK hD 0 11 rfl rfl) rfl rfl hl.1 rfl (lv_room (Nat.le_of_ble_eq_true rfl)) dX11_aboard_28 ⟨(Nat.le_of_ble_eq_true rfl), (Nat.le_of_ble_eq_true rfl)⟩) hS (fun q _ h => hFc q h) hFc (fun r_26 u t H locs ht hvm w_25 hB hz1 hk1 hS => ?_)
      obtain ⟨v_27, fa_28⟩ := u
      obtain ⟨hP1, hK1, hD1⟩ := hB
      rw [ht] at hP1
      have hP : va_P (dC, dI) vwCl (mW g0 pq cp v_27 fa_28) H := hP1
      have hD : va_D A (mW g0 pq cp v_27 fa_28) := hD1.weaken (fun _ _ _ h => hFc _ h)
      clear hP1 hK1 hD1 hk1 hz1 hvm ht hFc
      obtain ⟨-, w_25⟩ := w_25
      have hVv_27 : mV v_27 := sm0_V w_25 gV
      have hAv_27 : mA fa_28 := sm0_A w_25 gA
      have hRv_27 : mX [0, 45, 47, 48, 49, 50, 51, 52, 53, 54, 55, 56, 57, 58, 59, 60] v fa v_27 fa_28 := mX.st mX.rf (mX.s0 w_25) (by decide +kernel)
      refine lv_goto (tgt := 41) hx hb dX11_aboard_31 (by decide +kernel) ?_
      exact W.iret (v := r_26) hx hb hr (fun t ht hW => ⟨⟨r_26, (v_27, fa_28), rfl, ⟨hVv_27, hAv_27, hRv_27⟩, ⟨by rw [ht]; exact hP, va_K.moved hW.alike hK, hD⟩⟩, hS.F ht⟩) hS.2.2 dX11_aboard_41
set_option maxHeartbeats 4000000 in
set_option maxRecDepth 100000 in
theorem c_X11_advance (l : Launch) (dC : Nat → ClassId) (dI : Nat → Nat → Nat) (sz : Nat) (g0 : Nat) (pq : Nat → Nat) (cp : Nat → ClassId) (v : Nat → Int32) (fa : Nat → Nat → Int32) (gV : mV v) (gA : mA fa) (x1 : Int32) (x2 : Int32) : Met l yX11_advance wsX11_advance ({ frames := 23, cells := 0, slots := 0, locals := 533 }) (va_Pc [.ref g0, .int x1, .int x2] (pcW (dC, dI) (mT cp) (mW g0 pq cp v fa) sz)) (va_Qi (fun (r : Int32) (u : (Nat → Int32) × (Nat → Nat → Int32)) => mV u.1 ∧ mA u.2 ∧ mX [0, 27, 45, 47, 48, 49, 50, 51, 52, 53, 54, 55, 56, 57, 58, 59, 60] v fa u.1 u.2) (fun u t => va_P (dC, dI) vwCl (mW g0 pq cp u.1 u.2) t.heap ∧ va_K (dC, dI) vwCl (mT cp) t ∧ va_D (va_A (mW g0 pq cp v fa) sz) (mW g0 pq cp u.1 u.2)) (va_A (mW g0 pq cp v fa) sz)) 0 0 (va_A (mW g0 pq cp v fa) sz) := by
  refine Met.ofW (cc := cX11_advance) (maxL := 3) (ret := (some .int)) (by decide +kernel) rfl ?_
  intro p e s m args below meth c s₁ B hml hv
  obtain ⟨rfl, hsz, hP, hK, hD0⟩ := hv
  have hx := B.exec
  have hb := B.bytes
  have hr := B.returns
  have hts := atoms_spec (ws := wsX11_advance) B.pre
  have hown : s.vm.findClass RX11 = some m.cls := findClass_of_methodNamed B.named
  have hlocks := B.notSynchronized
  subst hsz
  have hD := hD0.self (sz := s.heap.size)
  generalize hAe : va_A (mW g0 pq cp v fa) s.heap.size = A at hD ⊢
  have hA : ∀ q : Nat, s.heap.size ≤ q → A q := fun q h => by rw [← hAe]; exact Or.inr h
  have hS : va_S A s.heap s.heap [] := va_S.rf
  have hP : va_P (dC, dI) vwCl (mW g0 pq cp v fa) s.heap := hP
  have hl := lv_entry ([.ref g0, .int x1, .int x2]) (n := 3) (Nat.le_of_ble_eq_true rfl)
  rw [lg_entry_eq]
  generalize (lg_sl ([.ref g0, .int x1, .int x2]) ++ List.replicate (3 - (lg_sl ([.ref g0, .int x1, .int x2])).length) Slot.unset).toArray = ls at hl ⊢
  have hl : lv_has ls 3 [(0, .ref g0), (1, .int x1), (2, .int x2)] := hl
  refine lv_aload_n hx hb dX11_advance_0 rfl (lv_at hl 0 rfl) ?_
  refine lv_iload_n hx hb dX11_advance_1 rfl (lv_at hl 1 rfl) ?_
  have hFc : ∀ q, va_A [] s.heap.size q → A q := pu_free hS hA
  refine va_calli (va_runV (As := [.int x1]) (rest := []) ⟨hx, hb, hml, hown, hts⟩ (c_X11_isAgreement l dC dI s.heap.size g0 pq cp v fa x1) (cwV 1 hts gX11_advance_X11_isAgreement rfl rfl rfl (by decide +kernel) ⟨(Nat.le_of_ble_eq_true rfl), (Nat.le_of_ble_eq_true rfl)⟩) (pr_V (r := (RX11, TX11, 63)) hP hK hD 0 11 rfl rfl) rfl rfl hl.1 rfl (lv_room (Nat.le_of_ble_eq_true rfl)) dX11_advance_2 ⟨(Nat.le_of_ble_eq_true rfl), (Nat.le_of_ble_eq_true rfl)⟩) hS (fun q _ h => hFc q h) hFc (fun r_2 u t H locs ht hvm w_1 hB hz1 hk1 hS => ?_)
  have hP := pu_keep hP hk1
  clear hk1 hz1 hvm hB ht hFc
  have hbr_2 : 0 ≤ r_2.toInt ∧ r_2.toInt ≤ 1 := iv_of w_1 (isI_i _ _)
  refine lv_if_ne (tgt := 14) hx hb dX11_advance_5 (by decide +kernel) (fun c_3 => ?_) (fun c_3 => ?_)
  · have dc_3 := c_ne (a := r_2.toInt) (b := 0) rfl (by decide +kernel) c_3
    have hi_4 := isI_t w_1 (fun q => c_3 (Int32.toInt_inj.mp q))
    have khi_4 : (v 43).toInt ≤ 60 := (gV 43).2
    refine lv_aload_n hx hb dX11_advance_14 rfl (lv_at hl 0 rfl) ?_
    refine va_get (D := (dC, dI)) (ci := 11) (v := .ref (pq 27)) (C := RX11) (T := TX11) (N := 63) hx hb hts in_wsX11_advance_X11 hown hK hP 0 rfl rfl 27 (by decide +kernel) (hts (.fieldLink RX11 91 "ShipOfficeModel" "note" "[I") iw_X11_advance_1) (fun _ h9 => h9) rfl dX11_advance_15 ?_
    refine lv_iload_n hx hb dX11_advance_18 rfl (lv_at hl 1 rfl) ?_
    refine va_iald hx hb hK hP 28 27 rfl rfl (vp_in_iff.mpr (by omega)) dX11_advance_19 ?_
    refine lv_topi (fun x_5 ex_5 => ?_)
    clear ex_5
    refine lv_if_gt (tgt := 39) hx hb dX11_advance_20 (by decide +kernel) (fun c_6 => ?_) (fun c_6 => ?_)
    · have dc_6 := c_lt (a := 0) (b := x_5.toInt) (by decide +kernel) rfl c_6
      refine lv_aload_n hx hb dX11_advance_39 rfl (lv_at hl 0 rfl) ?_
      refine lv_bipush (v := (-3)) hx hb dX11_advance_40 (by decide +kernel) ?_
      have hFc := va_free (wc := (mW g0 pq cp v fa)) hD hS hA (List.range 48) rfl
      refine va_calli (va_runV (As := [.int (-3)]) (rest := []) ⟨hx, hb, hml, hown, hts⟩ (c_X11_refuse l dC dI H.size g0 pq cp v fa (-3) (by unfold vp_in; decide)) (cwV 1 hts gX11_advance_X11_refuse rfl rfl rfl (by decide +kernel) ⟨(Nat.le_of_ble_eq_true rfl), (Nat.le_of_ble_eq_true rfl)⟩) (pr_V (r := (RX11, TX11, 63)) hP hK hD 0 11 rfl rfl) rfl rfl hl.1 rfl (lv_room (Nat.le_of_ble_eq_true rfl)) dX11_advance_42 ⟨(Nat.le_of_ble_eq_true rfl), (Nat.le_of_ble_eq_true rfl)⟩) hS (fun q _ h => hFc q h) hFc (fun r_8 u t H locs ht hvm w_7 hB hz1 hk1 hS => ?_)
      obtain ⟨v_9, fa_10⟩ := u
      obtain ⟨hP1, hK1, hD1⟩ := hB
      rw [ht] at hP1
      have hP : va_P (dC, dI) vwCl (mW g0 pq cp v_9 fa_10) H := hP1
      have hD : va_D A (mW g0 pq cp v_9 fa_10) := hD1.weaken (fun _ _ _ h => hFc _ h)
      clear hP1 hK1 hD1 hk1 hz1 hvm ht hFc
      obtain ⟨rfl, w_7⟩ := w_7
      have hVv_9 : mV v_9 := sm0_V w_7 gV
      have hAv_9 : mA fa_10 := sm0_A w_7 gA
      have hRv_9 : mX [0, 27, 45, 47, 48, 49, 50, 51, 52, 53, 54, 55, 56, 57, 58, 59, 60] v fa v_9 fa_10 := mX.st mX.rf (mX.s0 w_7) (by decide +kernel)
      exact W.iret (v := (-3)) hx hb hr (fun t ht hW => ⟨⟨(-3), (v_9, fa_10), rfl, ⟨hVv_9, hAv_9, hRv_9⟩, ⟨by rw [ht]; exact hP, va_K.moved hW.alike hK, hD⟩⟩, hS.F ht⟩) hS.2.2 dX11_advance_45
    · have dc_6 := c_nlt (a := 0) (b := x_5.toInt) (by decide +kernel) rfl c_6
      refine lv_aload_n hx hb dX11_advance_23 rfl (lv_at hl 0 rfl) ?_
      refine lv_iload_n hx hb dX11_advance_24 rfl (lv_at hl 1 rfl) ?_
      refine lv_aload_n hx hb dX11_advance_25 rfl (lv_at hl 0 rfl) ?_
      refine va_get (D := (dC, dI)) (ci := 11) (v := .int (v 38)) (C := RX11) (T := TX11) (N := 63) hx hb hts in_wsX11_advance_X11 hown hK hP 0 rfl rfl 38 (by decide +kernel) (hts (.fieldLink RX11 171 "ShipOfficeModel" "now" "I") iw_X11_advance_2) (fun _ h9 => h9) rfl dX11_advance_26 ?_
      refine lv_topi (fun x_11 ex_11 => ?_)
      have hx_11 : 0 ≤ x_11.toInt ∧ x_11.toInt ≤ 3000 := iv_of ex_11 (gV 38)
      clear ex_11
      refine lv_aload_n hx hb dX11_advance_29 rfl (lv_at hl 0 rfl) ?_
      refine va_get (D := (dC, dI)) (ci := 11) (v := .int (v 38)) (C := RX11) (T := TX11) (N := 63) hx hb hts in_wsX11_advance_X11 hown hK hP 0 rfl rfl 38 (by decide +kernel) (hts (.fieldLink RX11 171 "ShipOfficeModel" "now" "I") iw_X11_advance_2) (fun _ h9 => h9) rfl dX11_advance_30 ?_
      refine lv_topi (fun x_12 ex_12 => ?_)
      have hx_12 : 0 ≤ x_12.toInt ∧ x_12.toInt ≤ 3000 := iv_of ex_12 (gV 38)
      clear ex_12
      have hFc := va_free (wc := (mW g0 pq cp v fa)) hD hS hA (List.range 48) rfl
      refine va_calli (va_runV (As := [.int x1, .int x_11, .int x_12]) (rest := []) ⟨hx, hb, hml, hown, hts⟩ (c_X11_stateOf l dC dI H.size g0 pq cp v fa gV gA x1 (by omega) x_11 x_12) (cwV 3 hts gX11_advance_X11_stateOf rfl rfl rfl (by decide +kernel) ⟨(Nat.le_of_ble_eq_true rfl), (Nat.le_of_ble_eq_true rfl)⟩) (pr_V (r := (RX11, TX11, 63)) hP hK hD 0 11 rfl rfl) rfl rfl hl.1 rfl (lv_room (Nat.le_of_ble_eq_true rfl)) dX11_advance_33 ⟨(Nat.le_of_ble_eq_true rfl), (Nat.le_of_ble_eq_true rfl)⟩) hS (fun q _ h => hFc q h) hFc (fun r_14 u t H locs ht hvm w_13 hB hz1 hk1 hS => ?_)
      obtain ⟨v_15, fa_16⟩ := u
      obtain ⟨hP1, hK1, hD1⟩ := hB
      rw [ht] at hP1
      have hP : va_P (dC, dI) vwCl (mW g0 pq cp v_15 fa_16) H := hP1
      have hD : va_D A (mW g0 pq cp v_15 fa_16) := hD1.weaken (fun _ _ _ h => hFc _ h)
      clear hP1 hK1 hD1 hk1 hz1 hvm ht hFc
      obtain ⟨hV_17, hA_18, hR_19, hb_20, hx_21⟩ := w_13
      dsimp only at hV_17 hA_18 hR_19 hb_20 hx_21
      have R_22 : mX [0, 27, 45, 47, 48, 49, 50, 51, 52, 53, 54, 55, 56, 57, 58, 59, 60] v fa v_15 fa_16 := mX.st mX.rf (mX.scr hR_19) (by decide +kernel)
      refine lv_if_eq (tgt := 46) hx hb dX11_advance_36 (by decide +kernel) (fun c_23 => ?_) (fun c_23 => ?_)
      · have dc_23 := c_eq (a := r_14.toInt) (b := 0) rfl (by decide +kernel) c_23
        refine lv_iload_n hx hb dX11_advance_46 rfl (lv_at hl 2 rfl) ?_
        refine lv_iconst (v := 1) hx hb dX11_advance_47 (by decide +kernel) ?_
        refine lv_icmp_ge (tgt := 58) hx hb dX11_advance_48 (by decide +kernel) (fun c_24 => ?_) (fun c_24 => ?_)
        · have dc_24 := c_le (a := 1) (b := x2.toInt) (by decide +kernel) rfl c_24
          refine lv_iload_n hx hb dX11_advance_58 rfl (lv_at hl 2 rfl) ?_
          refine lv_ldc (v := 99999) hx hb hown (hts (.constant RX11 178 (99999)) (by decide +kernel)) dX11_advance_59 ?_
          refine lv_icmp_le (tgt := 71) hx hb dX11_advance_61 (by decide +kernel) (fun c_25 => ?_) (fun c_25 => ?_)
          · have dc_25 := c_le (a := x2.toInt) (b := 99999) rfl (by decide +kernel) c_25
            refine lv_aload_n hx hb dX11_advance_71 rfl (lv_at hl 0 rfl) ?_
            refine va_get (D := (dC, dI)) (ci := 11) (v := .ref (pq 27)) (C := RX11) (T := TX11) (N := 63) hx hb hts in_wsX11_advance_X11 hown hK hP 0 rfl rfl 27 (by decide +kernel) (hts (.fieldLink RX11 91 "ShipOfficeModel" "note" "[I") iw_X11_advance_1) (fun _ h9 => h9) rfl dX11_advance_72 ?_
            refine lv_iload_n hx hb dX11_advance_75 rfl (lv_at hl 1 rfl) ?_
            refine lv_iload_n hx hb dX11_advance_76 rfl (lv_at hl 2 rfl) ?_
            refine va_iast hx hb hK hP hD hS 28 27 rfl rfl (vp_in_iff.mpr (by omega)) dX11_advance_77 (fun H locs hP hD hS => ?_)
            have hP : va_P (dC, dI) vwCl (mW g0 pq cp v_15 (upF fa_16 27 (x1 : Int32).toNatClampNeg x2)) H := hP
            have hD : va_D A (mW g0 pq cp v_15 (upF fa_16 27 (x1 : Int32).toNatClampNeg x2)) := hD
            obtain ⟨fz_26, efz_26⟩ : ∃ zq, zq = (upF fa_16 27 (x1 : Int32).toNatClampNeg x2) := ⟨_, rfl⟩
            rw [← efz_26] at hP hD
            have hAfz_26 : mA fz_26 := by rw [efz_26]; exact mA_upF (lo := -2147483648) (hi := 2147483647) hA_18 rfl rfl (iv_all _)
            have hRfz_26 : mX [0, 27, 45, 47, 48, 49, 50, 51, 52, 53, 54, 55, 56, 57, 58, 59, 60] v fa v_15 fz_26 := by rw [efz_26]; exact mX.uF R_22 (by decide +kernel)
            refine lv_iconst (v := 1) hx hb dX11_advance_78 (by decide +kernel) ?_
            exact W.iret (v := 1) hx hb hr (fun t ht hW => ⟨⟨1, (v_15, fz_26), rfl, ⟨hV_17, hAfz_26, hRfz_26⟩, ⟨by rw [ht]; exact hP, va_K.moved hW.alike hK, hD⟩⟩, hS.F ht⟩) hS.2.2 dX11_advance_79
          · have dc_25 := c_nle (a := x2.toInt) (b := 99999) rfl (by decide +kernel) c_25
            refine lv_aload_n hx hb dX11_advance_64 rfl (lv_at hl 0 rfl) ?_
            refine lv_bipush (v := (-6)) hx hb dX11_advance_65 (by decide +kernel) ?_
            have hFc := va_free (wc := (mW g0 pq cp v_15 fa_16)) hD hS hA (List.range 48) rfl
            refine va_calli (va_runV (As := [.int (-6)]) (rest := []) ⟨hx, hb, hml, hown, hts⟩ (c_X11_refuse l dC dI H.size g0 pq cp v_15 fa_16 (-6) (by unfold vp_in; decide)) (cwV 1 hts gX11_advance_X11_refuse rfl rfl rfl (by decide +kernel) ⟨(Nat.le_of_ble_eq_true rfl), (Nat.le_of_ble_eq_true rfl)⟩) (pr_V (r := (RX11, TX11, 63)) hP hK hD 0 11 rfl rfl) rfl rfl hl.1 rfl (lv_room (Nat.le_of_ble_eq_true rfl)) dX11_advance_67 ⟨(Nat.le_of_ble_eq_true rfl), (Nat.le_of_ble_eq_true rfl)⟩) hS (fun q _ h => hFc q h) hFc (fun r_28 u t H locs ht hvm w_27 hB hz1 hk1 hS => ?_)
            obtain ⟨v_29, fa_30⟩ := u
            obtain ⟨hP1, hK1, hD1⟩ := hB
            rw [ht] at hP1
            have hP : va_P (dC, dI) vwCl (mW g0 pq cp v_29 fa_30) H := hP1
            have hD : va_D A (mW g0 pq cp v_29 fa_30) := hD1.weaken (fun _ _ _ h => hFc _ h)
            clear hP1 hK1 hD1 hk1 hz1 hvm ht hFc
            obtain ⟨rfl, w_27⟩ := w_27
            have hVv_29 : mV v_29 := sm0_V w_27 hV_17
            have hAv_29 : mA fa_30 := sm0_A w_27 hA_18
            have hRv_29 : mX [0, 27, 45, 47, 48, 49, 50, 51, 52, 53, 54, 55, 56, 57, 58, 59, 60] v fa v_29 fa_30 := mX.st R_22 (mX.s0 w_27) (by decide +kernel)
            exact W.iret (v := (-6)) hx hb hr (fun t ht hW => ⟨⟨(-6), (v_29, fa_30), rfl, ⟨hVv_29, hAv_29, hRv_29⟩, ⟨by rw [ht]; exact hP, va_K.moved hW.alike hK, hD⟩⟩, hS.F ht⟩) hS.2.2 dX11_advance_70
        · have dc_24 := c_nle (a := 1) (b := x2.toInt) (by decide +kernel) rfl c_24
          refine lv_aload_n hx hb dX11_advance_51 rfl (lv_at hl 0 rfl) ?_
          refine lv_bipush (v := (-4)) hx hb dX11_advance_52 (by decide +kernel) ?_
          have hFc := va_free (wc := (mW g0 pq cp v_15 fa_16)) hD hS hA (List.range 48) rfl
          refine va_calli (va_runV (As := [.int (-4)]) (rest := []) ⟨hx, hb, hml, hown, hts⟩ (c_X11_refuse l dC dI H.size g0 pq cp v_15 fa_16 (-4) (by unfold vp_in; decide)) (cwV 1 hts gX11_advance_X11_refuse rfl rfl rfl (by decide +kernel) ⟨(Nat.le_of_ble_eq_true rfl), (Nat.le_of_ble_eq_true rfl)⟩) (pr_V (r := (RX11, TX11, 63)) hP hK hD 0 11 rfl rfl) rfl rfl hl.1 rfl (lv_room (Nat.le_of_ble_eq_true rfl)) dX11_advance_54 ⟨(Nat.le_of_ble_eq_true rfl), (Nat.le_of_ble_eq_true rfl)⟩) hS (fun q _ h => hFc q h) hFc (fun r_32 u t H locs ht hvm w_31 hB hz1 hk1 hS => ?_)
          obtain ⟨v_33, fa_34⟩ := u
          obtain ⟨hP1, hK1, hD1⟩ := hB
          rw [ht] at hP1
          have hP : va_P (dC, dI) vwCl (mW g0 pq cp v_33 fa_34) H := hP1
          have hD : va_D A (mW g0 pq cp v_33 fa_34) := hD1.weaken (fun _ _ _ h => hFc _ h)
          clear hP1 hK1 hD1 hk1 hz1 hvm ht hFc
          obtain ⟨rfl, w_31⟩ := w_31
          have hVv_33 : mV v_33 := sm0_V w_31 hV_17
          have hAv_33 : mA fa_34 := sm0_A w_31 hA_18
          have hRv_33 : mX [0, 27, 45, 47, 48, 49, 50, 51, 52, 53, 54, 55, 56, 57, 58, 59, 60] v fa v_33 fa_34 := mX.st R_22 (mX.s0 w_31) (by decide +kernel)
          exact W.iret (v := (-4)) hx hb hr (fun t ht hW => ⟨⟨(-4), (v_33, fa_34), rfl, ⟨hVv_33, hAv_33, hRv_33⟩, ⟨by rw [ht]; exact hP, va_K.moved hW.alike hK, hD⟩⟩, hS.F ht⟩) hS.2.2 dX11_advance_57
      · have dc_23 := c_ne (a := r_14.toInt) (b := 0) rfl (by decide +kernel) c_23
        refine lv_aload_n hx hb dX11_advance_39 rfl (lv_at hl 0 rfl) ?_
        refine lv_bipush (v := (-3)) hx hb dX11_advance_40 (by decide +kernel) ?_
        have hFc := va_free (wc := (mW g0 pq cp v_15 fa_16)) hD hS hA (List.range 48) rfl
        refine va_calli (va_runV (As := [.int (-3)]) (rest := []) ⟨hx, hb, hml, hown, hts⟩ (c_X11_refuse l dC dI H.size g0 pq cp v_15 fa_16 (-3) (by unfold vp_in; decide)) (cwV 1 hts gX11_advance_X11_refuse rfl rfl rfl (by decide +kernel) ⟨(Nat.le_of_ble_eq_true rfl), (Nat.le_of_ble_eq_true rfl)⟩) (pr_V (r := (RX11, TX11, 63)) hP hK hD 0 11 rfl rfl) rfl rfl hl.1 rfl (lv_room (Nat.le_of_ble_eq_true rfl)) dX11_advance_42 ⟨(Nat.le_of_ble_eq_true rfl), (Nat.le_of_ble_eq_true rfl)⟩) hS (fun q _ h => hFc q h) hFc (fun r_36 u t H locs ht hvm w_35 hB hz1 hk1 hS => ?_)
        obtain ⟨v_37, fa_38⟩ := u
        obtain ⟨hP1, hK1, hD1⟩ := hB
        rw [ht] at hP1
        have hP : va_P (dC, dI) vwCl (mW g0 pq cp v_37 fa_38) H := hP1
        have hD : va_D A (mW g0 pq cp v_37 fa_38) := hD1.weaken (fun _ _ _ h => hFc _ h)
        clear hP1 hK1 hD1 hk1 hz1 hvm ht hFc
        obtain ⟨rfl, w_35⟩ := w_35
        have hVv_37 : mV v_37 := sm0_V w_35 hV_17
        have hAv_37 : mA fa_38 := sm0_A w_35 hA_18
        have hRv_37 : mX [0, 27, 45, 47, 48, 49, 50, 51, 52, 53, 54, 55, 56, 57, 58, 59, 60] v fa v_37 fa_38 := mX.st R_22 (mX.s0 w_35) (by decide +kernel)
        exact W.iret (v := (-3)) hx hb hr (fun t ht hW => ⟨⟨(-3), (v_37, fa_38), rfl, ⟨hVv_37, hAv_37, hRv_37⟩, ⟨by rw [ht]; exact hP, va_K.moved hW.alike hK, hD⟩⟩, hS.F ht⟩) hS.2.2 dX11_advance_45
  · have dc_3 := c_eq (a := r_2.toInt) (b := 0) rfl (by decide +kernel) c_3
    refine lv_aload_n hx hb dX11_advance_8 rfl (lv_at hl 0 rfl) ?_
    refine lv_iconst (v := (-1)) hx hb dX11_advance_9 (by decide +kernel) ?_
    have hFc := va_free (wc := (mW g0 pq cp v fa)) hD hS hA (List.range 48) rfl
    refine va_calli (va_runV (As := [.int (-1)]) (rest := []) ⟨hx, hb, hml, hown, hts⟩ (c_X11_refuse l dC dI H.size g0 pq cp v fa (-1) (by unfold vp_in; decide)) (cwV 1 hts gX11_advance_X11_refuse rfl rfl rfl (by decide +kernel) ⟨(Nat.le_of_ble_eq_true rfl), (Nat.le_of_ble_eq_true rfl)⟩) (pr_V (r := (RX11, TX11, 63)) hP hK hD 0 11 rfl rfl) rfl rfl hl.1 rfl (lv_room (Nat.le_of_ble_eq_true rfl)) dX11_advance_10 ⟨(Nat.le_of_ble_eq_true rfl), (Nat.le_of_ble_eq_true rfl)⟩) hS (fun q _ h => hFc q h) hFc (fun r_40 u t H locs ht hvm w_39 hB hz1 hk1 hS => ?_)
    obtain ⟨v_41, fa_42⟩ := u
    obtain ⟨hP1, hK1, hD1⟩ := hB
    rw [ht] at hP1
    have hP : va_P (dC, dI) vwCl (mW g0 pq cp v_41 fa_42) H := hP1
    have hD : va_D A (mW g0 pq cp v_41 fa_42) := hD1.weaken (fun _ _ _ h => hFc _ h)
    clear hP1 hK1 hD1 hk1 hz1 hvm ht hFc
    obtain ⟨rfl, w_39⟩ := w_39
    have hVv_41 : mV v_41 := sm0_V w_39 gV
    have hAv_41 : mA fa_42 := sm0_A w_39 gA
    have hRv_41 : mX [0, 27, 45, 47, 48, 49, 50, 51, 52, 53, 54, 55, 56, 57, 58, 59, 60] v fa v_41 fa_42 := mX.st mX.rf (mX.s0 w_39) (by decide +kernel)
    exact W.iret (v := (-1)) hx hb hr (fun t ht hW => ⟨⟨(-1), (v_41, fa_42), rfl, ⟨hVv_41, hAv_41, hRv_41⟩, ⟨by rw [ht]; exact hP, va_K.moved hW.alike hK, hD⟩⟩, hS.F ht⟩) hS.2.2 dX11_advance_13
set_option maxHeartbeats 4000000 in
set_option maxRecDepth 100000 in
theorem c_X11_sold (l : Launch) (dC : Nat → ClassId) (dI : Nat → Nat → Nat) (sz : Nat) (g0 : Nat) (pq : Nat → Nat) (cp : Nat → ClassId) (v : Nat → Int32) (fa : Nat → Nat → Int32) (gV : mV v) (gA : mA fa) (x1 : Int32) (x2 : Int32) : Met l yX11_sold wsX11_sold ({ frames := 2, cells := 0, slots := 0, locals := 42 }) (va_Pc [.ref g0, .int x1, .int x2] (pcW (dC, dI) (mT cp) (mW g0 pq cp v fa) sz)) (va_Qi (fun (r : Int32) (u : (Nat → Int32) × (Nat → Nat → Int32)) => mV u.1 ∧ mA u.2 ∧ mX [0, 28] v fa u.1 u.2) (fun u t => va_P (dC, dI) vwCl (mW g0 pq cp u.1 u.2) t.heap ∧ va_K (dC, dI) vwCl (mT cp) t ∧ va_D (va_A (mW g0 pq cp v fa) sz) (mW g0 pq cp u.1 u.2)) (va_A (mW g0 pq cp v fa) sz)) 0 0 (va_A (mW g0 pq cp v fa) sz) := by
  refine Met.ofW (cc := cX11_sold) (maxL := 3) (ret := (some .int)) (by decide +kernel) rfl ?_
  intro p e s m args below meth c s₁ B hml hv
  obtain ⟨rfl, hsz, hP, hK, hD0⟩ := hv
  have hx := B.exec
  have hb := B.bytes
  have hr := B.returns
  have hts := atoms_spec (ws := wsX11_sold) B.pre
  have hown : s.vm.findClass RX11 = some m.cls := findClass_of_methodNamed B.named
  have hlocks := B.notSynchronized
  subst hsz
  have hD := hD0.self (sz := s.heap.size)
  generalize hAe : va_A (mW g0 pq cp v fa) s.heap.size = A at hD ⊢
  have hA : ∀ q : Nat, s.heap.size ≤ q → A q := fun q h => by rw [← hAe]; exact Or.inr h
  have hS : va_S A s.heap s.heap [] := va_S.rf
  have hP : va_P (dC, dI) vwCl (mW g0 pq cp v fa) s.heap := hP
  have hl := lv_entry ([.ref g0, .int x1, .int x2]) (n := 3) (Nat.le_of_ble_eq_true rfl)
  rw [lg_entry_eq]
  generalize (lg_sl ([.ref g0, .int x1, .int x2]) ++ List.replicate (3 - (lg_sl ([.ref g0, .int x1, .int x2])).length) Slot.unset).toArray = ls at hl ⊢
  have hl : lv_has ls 3 [(0, .ref g0), (1, .int x1), (2, .int x2)] := hl
  refine lv_aload_n hx hb dX11_sold_0 rfl (lv_at hl 0 rfl) ?_
  refine lv_iload_n hx hb dX11_sold_1 rfl (lv_at hl 1 rfl) ?_
  have hFc : ∀ q, va_A [] s.heap.size q → A q := pu_free hS hA
  refine va_calli (va_runV (As := [.int x1]) (rest := []) ⟨hx, hb, hml, hown, hts⟩ (c_X11_isAgreement l dC dI s.heap.size g0 pq cp v fa x1) (cwV 1 hts gX11_sold_X11_isAgreement rfl rfl rfl (by decide +kernel) ⟨(Nat.le_of_ble_eq_true rfl), (Nat.le_of_ble_eq_true rfl)⟩) (pr_V (r := (RX11, TX11, 63)) hP hK hD 0 11 rfl rfl) rfl rfl hl.1 rfl (lv_room (Nat.le_of_ble_eq_true rfl)) dX11_sold_2 ⟨(Nat.le_of_ble_eq_true rfl), (Nat.le_of_ble_eq_true rfl)⟩) hS (fun q _ h => hFc q h) hFc (fun r_2 u t H locs ht hvm w_1 hB hz1 hk1 hS => ?_)
  have hP := pu_keep hP hk1
  clear hk1 hz1 hvm hB ht hFc
  have hbr_2 : 0 ≤ r_2.toInt ∧ r_2.toInt ≤ 1 := iv_of w_1 (isI_i _ _)
  refine lv_if_ne (tgt := 14) hx hb dX11_sold_5 (by decide +kernel) (fun c_3 => ?_) (fun c_3 => ?_)
  · have dc_3 := c_ne (a := r_2.toInt) (b := 0) rfl (by decide +kernel) c_3
    have hi_4 := isI_t w_1 (fun q => c_3 (Int32.toInt_inj.mp q))
    have khi_4 : (v 43).toInt ≤ 60 := (gV 43).2
    refine lv_aload_n hx hb dX11_sold_14 rfl (lv_at hl 0 rfl) ?_
    refine va_get (D := (dC, dI)) (ci := 11) (v := .ref (pq 27)) (C := RX11) (T := TX11) (N := 63) hx hb hts in_wsX11_sold_X11 hown hK hP 0 rfl rfl 27 (by decide +kernel) (hts (.fieldLink RX11 91 "ShipOfficeModel" "note" "[I") iw_X11_sold_1) (fun _ h9 => h9) rfl dX11_sold_15 ?_
    refine lv_iload_n hx hb dX11_sold_18 rfl (lv_at hl 1 rfl) ?_
    refine va_iald hx hb hK hP 28 27 rfl rfl (vp_in_iff.mpr (by omega)) dX11_sold_19 ?_
    refine lv_topi (fun x_5 ex_5 => ?_)
    clear ex_5
    refine lv_if_eq (tgt := 32) hx hb dX11_sold_20 (by decide +kernel) (fun c_6 => ?_) (fun c_6 => ?_)
    · have dc_6 := c_eq (a := x_5.toInt) (b := 0) rfl (by decide +kernel) c_6
      refine lv_aload_n hx hb dX11_sold_32 rfl (lv_at hl 0 rfl) ?_
      refine lv_bipush (v := (-3)) hx hb dX11_sold_33 (by decide +kernel) ?_
      have hFc := va_free (wc := (mW g0 pq cp v fa)) hD hS hA (List.range 48) rfl
      refine va_calli (va_runV (As := [.int (-3)]) (rest := []) ⟨hx, hb, hml, hown, hts⟩ (c_X11_refuse l dC dI H.size g0 pq cp v fa (-3) (by unfold vp_in; decide)) (cwV 1 hts gX11_sold_X11_refuse rfl rfl rfl (by decide +kernel) ⟨(Nat.le_of_ble_eq_true rfl), (Nat.le_of_ble_eq_true rfl)⟩) (pr_V (r := (RX11, TX11, 63)) hP hK hD 0 11 rfl rfl) rfl rfl hl.1 rfl (lv_room (Nat.le_of_ble_eq_true rfl)) dX11_sold_35 ⟨(Nat.le_of_ble_eq_true rfl), (Nat.le_of_ble_eq_true rfl)⟩) hS (fun q _ h => hFc q h) hFc (fun r_8 u t H locs ht hvm w_7 hB hz1 hk1 hS => ?_)
      obtain ⟨v_9, fa_10⟩ := u
      obtain ⟨hP1, hK1, hD1⟩ := hB
      rw [ht] at hP1
      have hP : va_P (dC, dI) vwCl (mW g0 pq cp v_9 fa_10) H := hP1
      have hD : va_D A (mW g0 pq cp v_9 fa_10) := hD1.weaken (fun _ _ _ h => hFc _ h)
      clear hP1 hK1 hD1 hk1 hz1 hvm ht hFc
      obtain ⟨rfl, w_7⟩ := w_7
      have hVv_9 : mV v_9 := sm0_V w_7 gV
      have hAv_9 : mA fa_10 := sm0_A w_7 gA
      have hRv_9 : mX [0, 28] v fa v_9 fa_10 := mX.st mX.rf (mX.s0 w_7) (by decide +kernel)
      exact W.iret (v := (-3)) hx hb hr (fun t ht hW => ⟨⟨(-3), (v_9, fa_10), rfl, ⟨hVv_9, hAv_9, hRv_9⟩, ⟨by rw [ht]; exact hP, va_K.moved hW.alike hK, hD⟩⟩, hS.F ht⟩) hS.2.2 dX11_sold_38
    · have dc_6 := c_ne (a := x_5.toInt) (b := 0) rfl (by decide +kernel) c_6
      refine lv_aload_n hx hb dX11_sold_23 rfl (lv_at hl 0 rfl) ?_
      refine va_get (D := (dC, dI)) (ci := 11) (v := .ref (pq 28)) (C := RX11) (T := TX11) (N := 63) hx hb hts in_wsX11_sold_X11 hown hK hP 0 rfl rfl 28 (by decide +kernel) (hts (.fieldLink RX11 94 "ShipOfficeModel" "given" "[I") iw_X11_sold_2) (fun _ h9 => h9) rfl dX11_sold_24 ?_
      refine lv_iload_n hx hb dX11_sold_27 rfl (lv_at hl 1 rfl) ?_
      refine va_iald hx hb hK hP 29 28 rfl rfl (vp_in_iff.mpr (by omega)) dX11_sold_28 ?_
      refine lv_topi (fun x_11 ex_11 => ?_)
      clear ex_11
      refine lv_if_le (tgt := 39) hx hb dX11_sold_29 (by decide +kernel) (fun c_12 => ?_) (fun c_12 => ?_)
      · have dc_12 := c_le (a := x_11.toInt) (b := 0) rfl (by decide +kernel) c_12
        refine lv_iload_n hx hb dX11_sold_39 rfl (lv_at hl 2 rfl) ?_
        refine lv_iconst (v := 1) hx hb dX11_sold_40 (by decide +kernel) ?_
        refine lv_icmp_ge (tgt := 51) hx hb dX11_sold_41 (by decide +kernel) (fun c_13 => ?_) (fun c_13 => ?_)
        · have dc_13 := c_le (a := 1) (b := x2.toInt) (by decide +kernel) rfl c_13
          refine lv_iload_n hx hb dX11_sold_51 rfl (lv_at hl 2 rfl) ?_
          refine lv_aload_n hx hb dX11_sold_52 rfl (lv_at hl 0 rfl) ?_
          refine va_get (D := (dC, dI)) (ci := 11) (v := .ref (pq 27)) (C := RX11) (T := TX11) (N := 63) hx hb hts in_wsX11_sold_X11 hown hK hP 0 rfl rfl 27 (by decide +kernel) (hts (.fieldLink RX11 91 "ShipOfficeModel" "note" "[I") iw_X11_sold_1) (fun _ h9 => h9) rfl dX11_sold_53 ?_
          refine lv_iload_n hx hb dX11_sold_56 rfl (lv_at hl 1 rfl) ?_
          refine va_iald hx hb hK hP 28 27 rfl rfl (vp_in_iff.mpr (by omega)) dX11_sold_57 ?_
          refine lv_topi (fun x_14 ex_14 => ?_)
          clear ex_14
          refine lv_icmp_lt (tgt := 68) hx hb dX11_sold_58 (by decide +kernel) (fun c_15 => ?_) (fun c_15 => ?_)
          · have dc_15 := c_lt (a := x2.toInt) (b := x_14.toInt) rfl rfl c_15
            refine lv_aload_n hx hb dX11_sold_68 rfl (lv_at hl 0 rfl) ?_
            refine va_get (D := (dC, dI)) (ci := 11) (v := .ref (pq 28)) (C := RX11) (T := TX11) (N := 63) hx hb hts in_wsX11_sold_X11 hown hK hP 0 rfl rfl 28 (by decide +kernel) (hts (.fieldLink RX11 94 "ShipOfficeModel" "given" "[I") iw_X11_sold_2) (fun _ h9 => h9) rfl dX11_sold_69 ?_
            refine lv_iload_n hx hb dX11_sold_72 rfl (lv_at hl 1 rfl) ?_
            refine lv_iload_n hx hb dX11_sold_73 rfl (lv_at hl 2 rfl) ?_
            refine va_iast hx hb hK hP hD hS 29 28 rfl rfl (vp_in_iff.mpr (by omega)) dX11_sold_74 (fun H locs hP hD hS => ?_)
            have hP : va_P (dC, dI) vwCl (mW g0 pq cp v (upF fa 28 (x1 : Int32).toNatClampNeg x2)) H := hP
            have hD : va_D A (mW g0 pq cp v (upF fa 28 (x1 : Int32).toNatClampNeg x2)) := hD
            obtain ⟨fz_16, efz_16⟩ : ∃ zq, zq = (upF fa 28 (x1 : Int32).toNatClampNeg x2) := ⟨_, rfl⟩
            rw [← efz_16] at hP hD
            have hAfz_16 : mA fz_16 := by rw [efz_16]; exact mA_upF (lo := -2147483648) (hi := 2147483647) gA rfl rfl (iv_all _)
            have hRfz_16 : mX [0, 28] v fa v fz_16 := by rw [efz_16]; exact mX.uF mX.rf (by decide +kernel)
            refine lv_aload_n hx hb dX11_sold_75 rfl (lv_at hl 0 rfl) ?_
            refine va_get (D := (dC, dI)) (ci := 11) (v := .ref (pq 27)) (C := RX11) (T := TX11) (N := 63) hx hb hts in_wsX11_sold_X11 hown hK hP 0 rfl rfl 27 (by decide +kernel) (hts (.fieldLink RX11 91 "ShipOfficeModel" "note" "[I") iw_X11_sold_1) (fun _ h9 => h9) rfl dX11_sold_76 ?_
            refine lv_iload_n hx hb dX11_sold_79 rfl (lv_at hl 1 rfl) ?_
            refine va_iald hx hb hK hP 28 27 rfl rfl (vp_in_iff.mpr (by omega)) dX11_sold_80 ?_
            refine lv_topi (fun x_17 ex_17 => ?_)
            clear ex_17
            refine lv_iload_n hx hb dX11_sold_81 rfl (lv_at hl 2 rfl) ?_
            refine lv_isub hx hb dX11_sold_82 ?_
            refine lv_topi (fun x_18 ex_18 => ?_)
            clear ex_18
            exact W.iret (v := x_18) hx hb hr (fun t ht hW => ⟨⟨x_18, (v, fz_16), rfl, ⟨gV, hAfz_16, hRfz_16⟩, ⟨by rw [ht]; exact hP, va_K.moved hW.alike hK, hD⟩⟩, hS.F ht⟩) hS.2.2 dX11_sold_83
          · have dc_15 := c_nlt (a := x2.toInt) (b := x_14.toInt) rfl rfl c_15
            refine lv_aload_n hx hb dX11_sold_61 rfl (lv_at hl 0 rfl) ?_
            refine lv_bipush (v := (-6)) hx hb dX11_sold_62 (by decide +kernel) ?_
            have hFc := va_free (wc := (mW g0 pq cp v fa)) hD hS hA (List.range 48) rfl
            refine va_calli (va_runV (As := [.int (-6)]) (rest := []) ⟨hx, hb, hml, hown, hts⟩ (c_X11_refuse l dC dI H.size g0 pq cp v fa (-6) (by unfold vp_in; decide)) (cwV 1 hts gX11_sold_X11_refuse rfl rfl rfl (by decide +kernel) ⟨(Nat.le_of_ble_eq_true rfl), (Nat.le_of_ble_eq_true rfl)⟩) (pr_V (r := (RX11, TX11, 63)) hP hK hD 0 11 rfl rfl) rfl rfl hl.1 rfl (lv_room (Nat.le_of_ble_eq_true rfl)) dX11_sold_64 ⟨(Nat.le_of_ble_eq_true rfl), (Nat.le_of_ble_eq_true rfl)⟩) hS (fun q _ h => hFc q h) hFc (fun r_20 u t H locs ht hvm w_19 hB hz1 hk1 hS => ?_)
            obtain ⟨v_21, fa_22⟩ := u
            obtain ⟨hP1, hK1, hD1⟩ := hB
            rw [ht] at hP1
            have hP : va_P (dC, dI) vwCl (mW g0 pq cp v_21 fa_22) H := hP1
            have hD : va_D A (mW g0 pq cp v_21 fa_22) := hD1.weaken (fun _ _ _ h => hFc _ h)
            clear hP1 hK1 hD1 hk1 hz1 hvm ht hFc
            obtain ⟨rfl, w_19⟩ := w_19
            have hVv_21 : mV v_21 := sm0_V w_19 gV
            have hAv_21 : mA fa_22 := sm0_A w_19 gA
            have hRv_21 : mX [0, 28] v fa v_21 fa_22 := mX.st mX.rf (mX.s0 w_19) (by decide +kernel)
            exact W.iret (v := (-6)) hx hb hr (fun t ht hW => ⟨⟨(-6), (v_21, fa_22), rfl, ⟨hVv_21, hAv_21, hRv_21⟩, ⟨by rw [ht]; exact hP, va_K.moved hW.alike hK, hD⟩⟩, hS.F ht⟩) hS.2.2 dX11_sold_67
        · have dc_13 := c_nle (a := 1) (b := x2.toInt) (by decide +kernel) rfl c_13
          refine lv_aload_n hx hb dX11_sold_44 rfl (lv_at hl 0 rfl) ?_
          refine lv_bipush (v := (-4)) hx hb dX11_sold_45 (by decide +kernel) ?_
          have hFc := va_free (wc := (mW g0 pq cp v fa)) hD hS hA (List.range 48) rfl
          refine va_calli (va_runV (As := [.int (-4)]) (rest := []) ⟨hx, hb, hml, hown, hts⟩ (c_X11_refuse l dC dI H.size g0 pq cp v fa (-4) (by unfold vp_in; decide)) (cwV 1 hts gX11_sold_X11_refuse rfl rfl rfl (by decide +kernel) ⟨(Nat.le_of_ble_eq_true rfl), (Nat.le_of_ble_eq_true rfl)⟩) (pr_V (r := (RX11, TX11, 63)) hP hK hD 0 11 rfl rfl) rfl rfl hl.1 rfl (lv_room (Nat.le_of_ble_eq_true rfl)) dX11_sold_47 ⟨(Nat.le_of_ble_eq_true rfl), (Nat.le_of_ble_eq_true rfl)⟩) hS (fun q _ h => hFc q h) hFc (fun r_24 u t H locs ht hvm w_23 hB hz1 hk1 hS => ?_)
          obtain ⟨v_25, fa_26⟩ := u
          obtain ⟨hP1, hK1, hD1⟩ := hB
          rw [ht] at hP1
          have hP : va_P (dC, dI) vwCl (mW g0 pq cp v_25 fa_26) H := hP1
          have hD : va_D A (mW g0 pq cp v_25 fa_26) := hD1.weaken (fun _ _ _ h => hFc _ h)
          clear hP1 hK1 hD1 hk1 hz1 hvm ht hFc
          obtain ⟨rfl, w_23⟩ := w_23
          have hVv_25 : mV v_25 := sm0_V w_23 gV
          have hAv_25 : mA fa_26 := sm0_A w_23 gA
          have hRv_25 : mX [0, 28] v fa v_25 fa_26 := mX.st mX.rf (mX.s0 w_23) (by decide +kernel)
          exact W.iret (v := (-4)) hx hb hr (fun t ht hW => ⟨⟨(-4), (v_25, fa_26), rfl, ⟨hVv_25, hAv_25, hRv_25⟩, ⟨by rw [ht]; exact hP, va_K.moved hW.alike hK, hD⟩⟩, hS.F ht⟩) hS.2.2 dX11_sold_50
      · have dc_12 := c_nle (a := x_11.toInt) (b := 0) rfl (by decide +kernel) c_12
        refine lv_aload_n hx hb dX11_sold_32 rfl (lv_at hl 0 rfl) ?_
        refine lv_bipush (v := (-3)) hx hb dX11_sold_33 (by decide +kernel) ?_
        have hFc := va_free (wc := (mW g0 pq cp v fa)) hD hS hA (List.range 48) rfl
        refine va_calli (va_runV (As := [.int (-3)]) (rest := []) ⟨hx, hb, hml, hown, hts⟩ (c_X11_refuse l dC dI H.size g0 pq cp v fa (-3) (by unfold vp_in; decide)) (cwV 1 hts gX11_sold_X11_refuse rfl rfl rfl (by decide +kernel) ⟨(Nat.le_of_ble_eq_true rfl), (Nat.le_of_ble_eq_true rfl)⟩) (pr_V (r := (RX11, TX11, 63)) hP hK hD 0 11 rfl rfl) rfl rfl hl.1 rfl (lv_room (Nat.le_of_ble_eq_true rfl)) dX11_sold_35 ⟨(Nat.le_of_ble_eq_true rfl), (Nat.le_of_ble_eq_true rfl)⟩) hS (fun q _ h => hFc q h) hFc (fun r_28 u t H locs ht hvm w_27 hB hz1 hk1 hS => ?_)
        obtain ⟨v_29, fa_30⟩ := u
        obtain ⟨hP1, hK1, hD1⟩ := hB
        rw [ht] at hP1
        have hP : va_P (dC, dI) vwCl (mW g0 pq cp v_29 fa_30) H := hP1
        have hD : va_D A (mW g0 pq cp v_29 fa_30) := hD1.weaken (fun _ _ _ h => hFc _ h)
        clear hP1 hK1 hD1 hk1 hz1 hvm ht hFc
        obtain ⟨rfl, w_27⟩ := w_27
        have hVv_29 : mV v_29 := sm0_V w_27 gV
        have hAv_29 : mA fa_30 := sm0_A w_27 gA
        have hRv_29 : mX [0, 28] v fa v_29 fa_30 := mX.st mX.rf (mX.s0 w_27) (by decide +kernel)
        exact W.iret (v := (-3)) hx hb hr (fun t ht hW => ⟨⟨(-3), (v_29, fa_30), rfl, ⟨hVv_29, hAv_29, hRv_29⟩, ⟨by rw [ht]; exact hP, va_K.moved hW.alike hK, hD⟩⟩, hS.F ht⟩) hS.2.2 dX11_sold_38
  · have dc_3 := c_eq (a := r_2.toInt) (b := 0) rfl (by decide +kernel) c_3
    refine lv_aload_n hx hb dX11_sold_8 rfl (lv_at hl 0 rfl) ?_
    refine lv_iconst (v := (-1)) hx hb dX11_sold_9 (by decide +kernel) ?_
    have hFc := va_free (wc := (mW g0 pq cp v fa)) hD hS hA (List.range 48) rfl
    refine va_calli (va_runV (As := [.int (-1)]) (rest := []) ⟨hx, hb, hml, hown, hts⟩ (c_X11_refuse l dC dI H.size g0 pq cp v fa (-1) (by unfold vp_in; decide)) (cwV 1 hts gX11_sold_X11_refuse rfl rfl rfl (by decide +kernel) ⟨(Nat.le_of_ble_eq_true rfl), (Nat.le_of_ble_eq_true rfl)⟩) (pr_V (r := (RX11, TX11, 63)) hP hK hD 0 11 rfl rfl) rfl rfl hl.1 rfl (lv_room (Nat.le_of_ble_eq_true rfl)) dX11_sold_10 ⟨(Nat.le_of_ble_eq_true rfl), (Nat.le_of_ble_eq_true rfl)⟩) hS (fun q _ h => hFc q h) hFc (fun r_32 u t H locs ht hvm w_31 hB hz1 hk1 hS => ?_)
    obtain ⟨v_33, fa_34⟩ := u
    obtain ⟨hP1, hK1, hD1⟩ := hB
    rw [ht] at hP1
    have hP : va_P (dC, dI) vwCl (mW g0 pq cp v_33 fa_34) H := hP1
    have hD : va_D A (mW g0 pq cp v_33 fa_34) := hD1.weaken (fun _ _ _ h => hFc _ h)
    clear hP1 hK1 hD1 hk1 hz1 hvm ht hFc
    obtain ⟨rfl, w_31⟩ := w_31
    have hVv_33 : mV v_33 := sm0_V w_31 gV
    have hAv_33 : mA fa_34 := sm0_A w_31 gA
    have hRv_33 : mX [0, 28] v fa v_33 fa_34 := mX.st mX.rf (mX.s0 w_31) (by decide +kernel)
    exact W.iret (v := (-1)) hx hb hr (fun t ht hW => ⟨⟨(-1), (v_33, fa_34), rfl, ⟨hVv_33, hAv_33, hRv_33⟩, ⟨by rw [ht]; exact hP, va_K.moved hW.alike hK, hD⟩⟩, hS.F ht⟩) hS.2.2 dX11_sold_13
set_option maxHeartbeats 4000000 in
set_option maxRecDepth 100000 in
theorem c_X11_allot (l : Launch) (dC : Nat → ClassId) (dI : Nat → Nat → Nat) (sz : Nat) (g0 : Nat) (pq : Nat → Nat) (cp : Nat → ClassId) (v : Nat → Int32) (fa : Nat → Nat → Int32) (gV : mV v) (gA : mA fa) (x1 : Int32) (x2 : Int32) : Met l yX11_allot wsX11_allot ({ frames := 25, cells := 0, slots := 0, locals := 586 }) (va_Pc [.ref g0, .int x1, .int x2] (pcW (dC, dI) (mT cp) (mW g0 pq cp v fa) sz)) (va_Qi (fun (r : Int32) (u : (Nat → Int32) × (Nat → Nat → Int32)) => mV u.1 ∧ mA u.2 ∧ mX [0, 29, 45, 47, 48, 49, 50, 51, 52, 53, 54, 55, 56, 57, 58, 59, 60] v fa u.1 u.2) (fun u t => va_P (dC, dI) vwCl (mW g0 pq cp u.1 u.2) t.heap ∧ va_K (dC, dI) vwCl (mT cp) t ∧ va_D (va_A (mW g0 pq cp v fa) sz) (mW g0 pq cp u.1 u.2)) (va_A (mW g0 pq cp v fa) sz)) 0 0 (va_A (mW g0 pq cp v fa) sz) := by
  refine Met.ofW (cc := cX11_allot) (maxL := 3) (ret := (some .int)) (by decide +kernel) rfl ?_
  intro p e s m args below meth c s₁ B hml hv
  obtain ⟨rfl, hsz, hP, hK, hD0⟩ := hv
  have hx := B.exec
  have hb := B.bytes
  have hr := B.returns
  have hts := atoms_spec (ws := wsX11_allot) B.pre
  have hown : s.vm.findClass RX11 = some m.cls := findClass_of_methodNamed B.named
  have hlocks := B.notSynchronized
  subst hsz
  have hD := hD0.self (sz := s.heap.size)
  generalize hAe : va_A (mW g0 pq cp v fa) s.heap.size = A at hD ⊢
  have hA : ∀ q : Nat, s.heap.size ≤ q → A q := fun q h => by rw [← hAe]; exact Or.inr h
  have hS : va_S A s.heap s.heap [] := va_S.rf
  have hP : va_P (dC, dI) vwCl (mW g0 pq cp v fa) s.heap := hP
  have hl := lv_entry ([.ref g0, .int x1, .int x2]) (n := 3) (Nat.le_of_ble_eq_true rfl)
  rw [lg_entry_eq]
  generalize (lg_sl ([.ref g0, .int x1, .int x2]) ++ List.replicate (3 - (lg_sl ([.ref g0, .int x1, .int x2])).length) Slot.unset).toArray = ls at hl ⊢
  have hl : lv_has ls 3 [(0, .ref g0), (1, .int x1), (2, .int x2)] := hl
  refine lv_aload_n hx hb dX11_allot_0 rfl (lv_at hl 0 rfl) ?_
  refine lv_iload_n hx hb dX11_allot_1 rfl (lv_at hl 1 rfl) ?_
  have hFc : ∀ q, va_A [] s.heap.size q → A q := pu_free hS hA
  refine va_calli (va_runV (As := [.int x1]) (rest := []) ⟨hx, hb, hml, hown, hts⟩ (c_X11_isAgreement l dC dI s.heap.size g0 pq cp v fa x1) (cwV 1 hts gX11_allot_X11_isAgreement rfl rfl rfl (by decide +kernel) ⟨(Nat.le_of_ble_eq_true rfl), (Nat.le_of_ble_eq_true rfl)⟩) (pr_V (r := (RX11, TX11, 63)) hP hK hD 0 11 rfl rfl) rfl rfl hl.1 rfl (lv_room (Nat.le_of_ble_eq_true rfl)) dX11_allot_2 ⟨(Nat.le_of_ble_eq_true rfl), (Nat.le_of_ble_eq_true rfl)⟩) hS (fun q _ h => hFc q h) hFc (fun r_2 u t H locs ht hvm w_1 hB hz1 hk1 hS => ?_)
  have hP := pu_keep hP hk1
  clear hk1 hz1 hvm hB ht hFc
  have hbr_2 : 0 ≤ r_2.toInt ∧ r_2.toInt ≤ 1 := iv_of w_1 (isI_i _ _)
  refine lv_if_ne (tgt := 14) hx hb dX11_allot_5 (by decide +kernel) (fun c_3 => ?_) (fun c_3 => ?_)
  · have dc_3 := c_ne (a := r_2.toInt) (b := 0) rfl (by decide +kernel) c_3
    have hi_4 := isI_t w_1 (fun q => c_3 (Int32.toInt_inj.mp q))
    have khi_4 : (v 43).toInt ≤ 60 := (gV 43).2
    refine lv_aload_n hx hb dX11_allot_14 rfl (lv_at hl 0 rfl) ?_
    refine va_get (D := (dC, dI)) (ci := 11) (v := .ref (pq 29)) (C := RX11) (T := TX11) (N := 63) hx hb hts in_wsX11_allot_X11 hown hK hP 0 rfl rfl 29 (by decide +kernel) (hts (.fieldLink RX11 97 "ShipOfficeModel" "allotted" "[I") iw_X11_allot_1) (fun _ h9 => h9) rfl dX11_allot_15 ?_
    refine lv_iload_n hx hb dX11_allot_18 rfl (lv_at hl 1 rfl) ?_
    refine va_iald hx hb hK hP 30 29 rfl rfl (vp_in_iff.mpr (by omega)) dX11_allot_19 ?_
    refine lv_topi (fun x_5 ex_5 => ?_)
    clear ex_5
    refine lv_if_gt (tgt := 31) hx hb dX11_allot_20 (by decide +kernel) (fun c_6 => ?_) (fun c_6 => ?_)
    · have dc_6 := c_lt (a := 0) (b := x_5.toInt) (by decide +kernel) rfl c_6
      refine lv_aload_n hx hb dX11_allot_31 rfl (lv_at hl 0 rfl) ?_
      refine lv_bipush (v := (-3)) hx hb dX11_allot_32 (by decide +kernel) ?_
      have hFc := va_free (wc := (mW g0 pq cp v fa)) hD hS hA (List.range 48) rfl
      refine va_calli (va_runV (As := [.int (-3)]) (rest := []) ⟨hx, hb, hml, hown, hts⟩ (c_X11_refuse l dC dI H.size g0 pq cp v fa (-3) (by unfold vp_in; decide)) (cwV 1 hts gX11_allot_X11_refuse rfl rfl rfl (by decide +kernel) ⟨(Nat.le_of_ble_eq_true rfl), (Nat.le_of_ble_eq_true rfl)⟩) (pr_V (r := (RX11, TX11, 63)) hP hK hD 0 11 rfl rfl) rfl rfl hl.1 rfl (lv_room (Nat.le_of_ble_eq_true rfl)) dX11_allot_34 ⟨(Nat.le_of_ble_eq_true rfl), (Nat.le_of_ble_eq_true rfl)⟩) hS (fun q _ h => hFc q h) hFc (fun r_8 u t H locs ht hvm w_7 hB hz1 hk1 hS => ?_)
      obtain ⟨v_9, fa_10⟩ := u
      obtain ⟨hP1, hK1, hD1⟩ := hB
      rw [ht] at hP1
      have hP : va_P (dC, dI) vwCl (mW g0 pq cp v_9 fa_10) H := hP1
      have hD : va_D A (mW g0 pq cp v_9 fa_10) := hD1.weaken (fun _ _ _ h => hFc _ h)
      clear hP1 hK1 hD1 hk1 hz1 hvm ht hFc
      obtain ⟨rfl, w_7⟩ := w_7
      have hVv_9 : mV v_9 := sm0_V w_7 gV
      have hAv_9 : mA fa_10 := sm0_A w_7 gA
      have hRv_9 : mX [0, 29, 45, 47, 48, 49, 50, 51, 52, 53, 54, 55, 56, 57, 58, 59, 60] v fa v_9 fa_10 := mX.st mX.rf (mX.s0 w_7) (by decide +kernel)
      exact W.iret (v := (-3)) hx hb hr (fun t ht hW => ⟨⟨(-3), (v_9, fa_10), rfl, ⟨hVv_9, hAv_9, hRv_9⟩, ⟨by rw [ht]; exact hP, va_K.moved hW.alike hK, hD⟩⟩, hS.F ht⟩) hS.2.2 dX11_allot_37
    · have dc_6 := c_nlt (a := 0) (b := x_5.toInt) (by decide +kernel) rfl c_6
      refine lv_aload_n hx hb dX11_allot_23 rfl (lv_at hl 0 rfl) ?_
      refine lv_iload_n hx hb dX11_allot_24 rfl (lv_at hl 1 rfl) ?_
      have hFc : ∀ q, va_A [] H.size q → A q := pu_free hS hA
      refine va_calli (va_runV (As := [.int x1]) (rest := []) ⟨hx, hb, hml, hown, hts⟩ (c_X11_goesOn l dC dI H.size g0 pq cp v fa (v 41).toNatClampNeg (cn_le (n := 200) (gV 41)) (cn_eq (n := 200) (gV 41)) x1 (vp_in_iff.mpr (by omega))) (cwV 1 hts gX11_allot_X11_goesOn rfl rfl rfl (by decide +kernel) ⟨(Nat.le_of_ble_eq_true rfl), (Nat.le_of_ble_eq_true rfl)⟩) (pr_V (r := (RX11, TX11, 63)) hP hK hD 0 11 rfl rfl) rfl rfl hl.1 rfl (lv_room (Nat.le_of_ble_eq_true rfl)) dX11_allot_25 ⟨(Nat.le_of_ble_eq_true rfl), (Nat.le_of_ble_eq_true rfl)⟩) hS (fun q _ h => hFc q h) hFc (fun r_12 u t H locs ht hvm w_11 hB hz1 hk1 hS => ?_)
      have hP := pu_keep hP hk1
      clear hk1 hz1 hvm hB ht hFc
      have hb_13 : 0 ≤ r_12.toInt ∧ r_12.toInt ≤ 1 := z1_i w_11
      refine lv_if_ne (tgt := 38) hx hb dX11_allot_28 (by decide +kernel) (fun c_14 => ?_) (fun c_14 => ?_)
      · have dc_14 := c_ne (a := r_12.toInt) (b := 0) rfl (by decide +kernel) c_14
        refine lv_iload_n hx hb dX11_allot_38 rfl (lv_at hl 2 rfl) ?_
        refine lv_iconst (v := 1) hx hb dX11_allot_39 (by decide +kernel) ?_
        refine lv_icmp_ge (tgt := 50) hx hb dX11_allot_40 (by decide +kernel) (fun c_15 => ?_) (fun c_15 => ?_)
        · have dc_15 := c_le (a := 1) (b := x2.toInt) (by decide +kernel) rfl c_15
          refine lv_iload_n hx hb dX11_allot_50 rfl (lv_at hl 2 rfl) ?_
          refine lv_sipush (v := 9999) hx hb dX11_allot_51 (by decide +kernel) ?_
          refine lv_icmp_le (tgt := 64) hx hb dX11_allot_54 (by decide +kernel) (fun c_16 => ?_) (fun c_16 => ?_)
          · have dc_16 := c_le (a := x2.toInt) (b := 9999) rfl (by decide +kernel) c_16
            refine lv_aload_n hx hb dX11_allot_64 rfl (lv_at hl 0 rfl) ?_
            refine lv_iload_n hx hb dX11_allot_65 rfl (lv_at hl 1 rfl) ?_
            refine lv_aload_n hx hb dX11_allot_66 rfl (lv_at hl 0 rfl) ?_
            refine va_get (D := (dC, dI)) (ci := 11) (v := .int (v 38)) (C := RX11) (T := TX11) (N := 63) hx hb hts in_wsX11_allot_X11 hown hK hP 0 rfl rfl 38 (by decide +kernel) (hts (.fieldLink RX11 171 "ShipOfficeModel" "now" "I") iw_X11_allot_2) (fun _ h9 => h9) rfl dX11_allot_67 ?_
            refine lv_topi (fun x_17 ex_17 => ?_)
            have hx_17 : 0 ≤ x_17.toInt ∧ x_17.toInt ≤ 3000 := iv_of ex_17 (gV 38)
            clear ex_17
            refine lv_aload_n hx hb dX11_allot_70 rfl (lv_at hl 0 rfl) ?_
            refine va_get (D := (dC, dI)) (ci := 11) (v := .int (v 38)) (C := RX11) (T := TX11) (N := 63) hx hb hts in_wsX11_allot_X11 hown hK hP 0 rfl rfl 38 (by decide +kernel) (hts (.fieldLink RX11 171 "ShipOfficeModel" "now" "I") iw_X11_allot_2) (fun _ h9 => h9) rfl dX11_allot_71 ?_
            refine lv_topi (fun x_18 ex_18 => ?_)
            have hx_18 : 0 ≤ x_18.toInt ∧ x_18.toInt ≤ 3000 := iv_of ex_18 (gV 38)
            clear ex_18
            refine lv_iload_n hx hb dX11_allot_74 rfl (lv_at hl 2 rfl) ?_
            refine lv_iconst (v := 0) hx hb dX11_allot_75 (by decide +kernel) ?_
            have hFc := va_free (wc := (mW g0 pq cp v fa)) hD hS hA (List.range 48) rfl
            refine va_callv (va_runV (As := [.int x1, .int x_17, .int x_18, .int x2, .int 0]) (rest := []) ⟨hx, hb, hml, hown, hts⟩ (c_X11_puts l dC dI H.size g0 pq cp v fa gV gA x1 (by omega) x_17 (by omega) x_18 x2 0) (cwV 5 hts gX11_allot_X11_puts rfl rfl rfl (by decide +kernel) ⟨(Nat.le_of_ble_eq_true rfl), (Nat.le_of_ble_eq_true rfl)⟩) (pr_V (r := (RX11, TX11, 63)) hP hK hD 0 11 rfl rfl) rfl rfl hl.1 rfl (lv_room (Nat.le_of_ble_eq_true rfl)) dX11_allot_76 ⟨(Nat.le_of_ble_eq_true rfl), (Nat.le_of_ble_eq_true rfl)⟩) hS (fun q _ h => hFc q h) hFc (fun u t H locs ht hvm w_19 hB hz1 hk1 hS => ?_)
            obtain ⟨v_21, fa_22⟩ := u
            obtain ⟨hP1, hK1, hD1⟩ := hB
            rw [ht] at hP1
            have hP : va_P (dC, dI) vwCl (mW g0 pq cp v_21 fa_22) H := hP1
            have hD : va_D A (mW g0 pq cp v_21 fa_22) := hD1.weaken (fun _ _ _ h => hFc _ h)
            clear hP1 hK1 hD1 hk1 hz1 hvm ht hFc
            obtain ⟨hV_23, hA_24, hR_25⟩ := w_19
            dsimp only at hV_23 hA_24 hR_25 
            have R_26 : mX [0, 29, 45, 47, 48, 49, 50, 51, 52, 53, 54, 55, 56, 57, 58, 59, 60] v fa v_21 fa_22 := mX.st mX.rf (mX.scr hR_25) (by decide +kernel)
            refine lv_iload_n hx hb dX11_allot_79 rfl (lv_at hl 2 rfl) ?_
            refine lv_i2l (v := (x2 : Int32).toInt64) hx hb dX11_allot_80 rfl ?_
            refine lv_aload_n hx hb dX11_allot_81 rfl (lv_at hl 0 rfl) ?_
            refine va_get (D := (dC, dI)) (ci := 11) (v := .ref (pq 22)) (C := RX11) (T := TX11) (N := 63) hx hb hts in_wsX11_allot_X11 hown hK hP 0 rfl rfl 22 (by decide +kernel) (hts (.fieldLink RX11 76 "ShipOfficeModel" "wage" "[I") iw_X11_allot_3) (fun _ h9 => h9) rfl dX11_allot_82 ?_
            refine lv_iload_n hx hb dX11_allot_85 rfl (lv_at hl 1 rfl) ?_
            refine va_iald hx hb hK hP 23 22 rfl rfl (vp_in_iff.mpr (by omega)) dX11_allot_86 ?_
            refine lv_topi (fun x_27 ex_27 => ?_)
            clear ex_27
            refine lv_i2l (v := (x_27 : Int32).toInt64) hx hb dX11_allot_87 rfl ?_
            refine lv_aload_n hx hb dX11_allot_88 rfl (lv_at hl 0 rfl) ?_
            refine lv_iconst (v := 3) hx hb dX11_allot_89 (by decide +kernel) ?_
            refine lv_aload_n hx hb dX11_allot_90 rfl (lv_at hl 0 rfl) ?_
            refine va_get (D := (dC, dI)) (ci := 11) (v := .int (v_21 38)) (C := RX11) (T := TX11) (N := 63) hx hb hts in_wsX11_allot_X11 hown hK hP 0 rfl rfl 38 (by decide +kernel) (hts (.fieldLink RX11 171 "ShipOfficeModel" "now" "I") iw_X11_allot_2) (fun _ h9 => h9) rfl dX11_allot_91 ?_
            refine lv_topi (fun x_28 ex_28 => ?_)
            have hx_28 : 0 ≤ x_28.toInt ∧ x_28.toInt ≤ 3000 := iv_of ex_28 (hV_23 38)
            clear ex_28
            have hFc := va_free (wc := (mW g0 pq cp v_21 fa_22)) hD hS hA (List.range 48) rfl
            refine va_calli (va_runV (As := [.int 3, .int x_28]) (rest := [.long ((x_27 : Int32).toInt64), .long ((x2 : Int32).toInt64)]) ⟨hx, hb, hml, hown, hts⟩ (c_X11_worth l dC dI H.size g0 pq cp v_21 fa_22 hV_23 hA_24 3 x_28) (cwV 2 hts gX11_allot_X11_worth rfl rfl rfl (by decide +kernel) ⟨(Nat.le_of_ble_eq_true rfl), (Nat.le_of_ble_eq_true rfl)⟩) (pr_V (r := (RX11, TX11, 63)) hP hK hD 0 11 rfl rfl) rfl rfl hl.1 rfl (lv_room (Nat.le_of_ble_eq_true rfl)) dX11_allot_94 ⟨(Nat.le_of_ble_eq_true rfl), (Nat.le_of_ble_eq_true rfl)⟩) hS (fun q _ h => hFc q h) hFc (fun r_30 u t H locs ht hvm w_29 hB hz1 hk1 hS => ?_)
            obtain ⟨v_31, fa_32⟩ := u
            obtain ⟨hP1, hK1, hD1⟩ := hB
            rw [ht] at hP1
            have hP : va_P (dC, dI) vwCl (mW g0 pq cp v_31 fa_32) H := hP1
            have hD : va_D A (mW g0 pq cp v_31 fa_32) := hD1.weaken (fun _ _ _ h => hFc _ h)
            clear hP1 hK1 hD1 hk1 hz1 hvm ht hFc
            obtain ⟨hV_33, hA_34, hR_35⟩ := w_29
            dsimp only at hV_33 hA_34 hR_35 
            have R_36 : mX [0, 29, 45, 47, 48, 49, 50, 51, 52, 53, 54, 55, 56, 57, 58, 59, 60] v fa v_31 fa_32 := mX.st R_26 (mX.scr hR_35) (by decide +kernel)
            refine lv_i2l (v := (r_30 : Int32).toInt64) hx hb dX11_allot_97 rfl ?_
            refine lv_lmul hx hb dX11_allot_98 ?_
            refine lv_ldc2 (v := 100) hx hb hown (hts (.constantLong RX11 310 (100)) (by decide +kernel)) dX11_allot_99 ?_
            refine lv_ldiv hx hb dX11_allot_102 (by decide +kernel) ?_
            refine W.lcmp hx hb dX11_allot_103 ?_
            refine lv_topi (fun x_37 ex_37 => ?_)
            clear ex_37
            refine lv_if_le (tgt := 114) hx hb dX11_allot_104 (by decide +kernel) (fun c_38 => ?_) (fun c_38 => ?_)
            · have dc_38 := c_le (a := x_37.toInt) (b := 0) rfl (by decide +kernel) c_38
              refine lv_aload_n hx hb dX11_allot_114 rfl (lv_at hl 0 rfl) ?_
              refine va_get (D := (dC, dI)) (ci := 11) (v := .ref (pq 29)) (C := RX11) (T := TX11) (N := 63) hx hb hts in_wsX11_allot_X11 hown hK hP 0 rfl rfl 29 (by decide +kernel) (hts (.fieldLink RX11 97 "ShipOfficeModel" "allotted" "[I") iw_X11_allot_1) (fun _ h9 => h9) rfl dX11_allot_115 ?_
              refine lv_iload_n hx hb dX11_allot_118 rfl (lv_at hl 1 rfl) ?_
              refine lv_iload_n hx hb dX11_allot_119 rfl (lv_at hl 2 rfl) ?_
              refine va_iast hx hb hK hP hD hS 30 29 rfl rfl (vp_in_iff.mpr (by omega)) dX11_allot_120 (fun H locs hP hD hS => ?_)
              have hP : va_P (dC, dI) vwCl (mW g0 pq cp v_31 (upF fa_32 29 (x1 : Int32).toNatClampNeg x2)) H := hP
              have hD : va_D A (mW g0 pq cp v_31 (upF fa_32 29 (x1 : Int32).toNatClampNeg x2)) := hD
              obtain ⟨fz_39, efz_39⟩ : ∃ zq, zq = (upF fa_32 29 (x1 : Int32).toNatClampNeg x2) := ⟨_, rfl⟩
              rw [← efz_39] at hP hD
              have hAfz_39 : mA fz_39 := by rw [efz_39]; exact mA_upF (lo := -2147483648) (hi := 2147483647) hA_34 rfl rfl (iv_all _)
              have hRfz_39 : mX [0, 29, 45, 47, 48, 49, 50, 51, 52, 53, 54, 55, 56, 57, 58, 59, 60] v fa v_31 fz_39 := by rw [efz_39]; exact mX.uF R_36 (by decide +kernel)
              refine lv_iconst (v := 1) hx hb dX11_allot_121 (by decide +kernel) ?_
              exact W.iret (v := 1) hx hb hr (fun t ht hW => ⟨⟨1, (v_31, fz_39), rfl, ⟨hV_33, hAfz_39, hRfz_39⟩, ⟨by rw [ht]; exact hP, va_K.moved hW.alike hK, hD⟩⟩, hS.F ht⟩) hS.2.2 dX11_allot_122
            · have dc_38 := c_nle (a := x_37.toInt) (b := 0) rfl (by decide +kernel) c_38
              refine lv_aload_n hx hb dX11_allot_107 rfl (lv_at hl 0 rfl) ?_
              refine lv_bipush (v := (-6)) hx hb dX11_allot_108 (by decide +kernel) ?_
              have hFc := va_free (wc := (mW g0 pq cp v_31 fa_32)) hD hS hA (List.range 48) rfl
              refine va_calli (va_runV (As := [.int (-6)]) (rest := []) ⟨hx, hb, hml, hown, hts⟩ (c_X11_refuse l dC dI H.size g0 pq cp v_31 fa_32 (-6) (by unfold vp_in; decide)) (cwV 1 hts gX11_allot_X11_refuse rfl rfl rfl (by decide +kernel) ⟨(Nat.le_of_ble_eq_true rfl), (Nat.le_of_ble_eq_true rfl)⟩) (pr_V (r := (RX11, TX11, 63)) hP hK hD 0 11 rfl rfl) rfl rfl hl.1 rfl (lv_room (Nat.le_of_ble_eq_true rfl)) dX11_allot_110 ⟨(Nat.le_of_ble_eq_true rfl), (Nat.le_of_ble_eq_true rfl)⟩) hS (fun q _ h => hFc q h) hFc (fun r_41 u t H locs ht hvm w_40 hB hz1 hk1 hS => ?_)
              obtain ⟨v_42, fa_43⟩ := u
              obtain ⟨hP1, hK1, hD1⟩ := hB
              rw [ht] at hP1
              have hP : va_P (dC, dI) vwCl (mW g0 pq cp v_42 fa_43) H := hP1
              have hD : va_D A (mW g0 pq cp v_42 fa_43) := hD1.weaken (fun _ _ _ h => hFc _ h)
              clear hP1 hK1 hD1 hk1 hz1 hvm ht hFc
              obtain ⟨rfl, w_40⟩ := w_40
              have hVv_42 : mV v_42 := sm0_V w_40 hV_33
              have hAv_42 : mA fa_43 := sm0_A w_40 hA_34
              have hRv_42 : mX [0, 29, 45, 47, 48, 49, 50, 51, 52, 53, 54, 55, 56, 57, 58, 59, 60] v fa v_42 fa_43 := mX.st R_36 (mX.s0 w_40) (by decide +kernel)
              exact W.iret (v := (-6)) hx hb hr (fun t ht hW => ⟨⟨(-6), (v_42, fa_43), rfl, ⟨hVv_42, hAv_42, hRv_42⟩, ⟨by rw [ht]; exact hP, va_K.moved hW.alike hK, hD⟩⟩, hS.F ht⟩) hS.2.2 dX11_allot_113
          · have dc_16 := c_nle (a := x2.toInt) (b := 9999) rfl (by decide +kernel) c_16
            refine lv_aload_n hx hb dX11_allot_57 rfl (lv_at hl 0 rfl) ?_
            refine lv_bipush (v := (-6)) hx hb dX11_allot_58 (by decide +kernel) ?_
            have hFc := va_free (wc := (mW g0 pq cp v fa)) hD hS hA (List.range 48) rfl
            refine va_calli (va_runV (As := [.int (-6)]) (rest := []) ⟨hx, hb, hml, hown, hts⟩ (c_X11_refuse l dC dI H.size g0 pq cp v fa (-6) (by unfold vp_in; decide)) (cwV 1 hts gX11_allot_X11_refuse rfl rfl rfl (by decide +kernel) ⟨(Nat.le_of_ble_eq_true rfl), (Nat.le_of_ble_eq_true rfl)⟩) (pr_V (r := (RX11, TX11, 63)) hP hK hD 0 11 rfl rfl) rfl rfl hl.1 rfl (lv_room (Nat.le_of_ble_eq_true rfl)) dX11_allot_60 ⟨(Nat.le_of_ble_eq_true rfl), (Nat.le_of_ble_eq_true rfl)⟩) hS (fun q _ h => hFc q h) hFc (fun r_45 u t H locs ht hvm w_44 hB hz1 hk1 hS => ?_)
            obtain ⟨v_46, fa_47⟩ := u
            obtain ⟨hP1, hK1, hD1⟩ := hB
            rw [ht] at hP1
            have hP : va_P (dC, dI) vwCl (mW g0 pq cp v_46 fa_47) H := hP1
            have hD : va_D A (mW g0 pq cp v_46 fa_47) := hD1.weaken (fun _ _ _ h => hFc _ h)
            clear hP1 hK1 hD1 hk1 hz1 hvm ht hFc
            obtain ⟨rfl, w_44⟩ := w_44
            have hVv_46 : mV v_46 := sm0_V w_44 gV
            have hAv_46 : mA fa_47 := sm0_A w_44 gA
            have hRv_46 : mX [0, 29, 45, 47, 48, 49, 50, 51, 52, 53, 54, 55, 56, 57, 58, 59, 60] v fa v_46 fa_47 := mX.st mX.rf (mX.s0 w_44) (by decide +kernel)
            exact W.iret (v := (-6)) hx hb hr (fun t ht hW => ⟨⟨(-6), (v_46, fa_47), rfl, ⟨hVv_46, hAv_46, hRv_46⟩, ⟨by rw [ht]; exact hP, va_K.moved hW.alike hK, hD⟩⟩, hS.F ht⟩) hS.2.2 dX11_allot_63
        · have dc_15 := c_nle (a := 1) (b := x2.toInt) (by decide +kernel) rfl c_15
          refine lv_aload_n hx hb dX11_allot_43 rfl (lv_at hl 0 rfl) ?_
          refine lv_bipush (v := (-4)) hx hb dX11_allot_44 (by decide +kernel) ?_
          have hFc := va_free (wc := (mW g0 pq cp v fa)) hD hS hA (List.range 48) rfl
          refine va_calli (va_runV (As := [.int (-4)]) (rest := []) ⟨hx, hb, hml, hown, hts⟩ (c_X11_refuse l dC dI H.size g0 pq cp v fa (-4) (by unfold vp_in; decide)) (cwV 1 hts gX11_allot_X11_refuse rfl rfl rfl (by decide +kernel) ⟨(Nat.le_of_ble_eq_true rfl), (Nat.le_of_ble_eq_true rfl)⟩) (pr_V (r := (RX11, TX11, 63)) hP hK hD 0 11 rfl rfl) rfl rfl hl.1 rfl (lv_room (Nat.le_of_ble_eq_true rfl)) dX11_allot_46 ⟨(Nat.le_of_ble_eq_true rfl), (Nat.le_of_ble_eq_true rfl)⟩) hS (fun q _ h => hFc q h) hFc (fun r_49 u t H locs ht hvm w_48 hB hz1 hk1 hS => ?_)
          obtain ⟨v_50, fa_51⟩ := u
          obtain ⟨hP1, hK1, hD1⟩ := hB
          rw [ht] at hP1
          have hP : va_P (dC, dI) vwCl (mW g0 pq cp v_50 fa_51) H := hP1
          have hD : va_D A (mW g0 pq cp v_50 fa_51) := hD1.weaken (fun _ _ _ h => hFc _ h)
          clear hP1 hK1 hD1 hk1 hz1 hvm ht hFc
          obtain ⟨rfl, w_48⟩ := w_48
          have hVv_50 : mV v_50 := sm0_V w_48 gV
          have hAv_50 : mA fa_51 := sm0_A w_48 gA
          have hRv_50 : mX [0, 29, 45, 47, 48, 49, 50, 51, 52, 53, 54, 55, 56, 57, 58, 59, 60] v fa v_50 fa_51 := mX.st mX.rf (mX.s0 w_48) (by decide +kernel)
          exact W.iret (v := (-4)) hx hb hr (fun t ht hW => ⟨⟨(-4), (v_50, fa_51), rfl, ⟨hVv_50, hAv_50, hRv_50⟩, ⟨by rw [ht]; exact hP, va_K.moved hW.alike hK, hD⟩⟩, hS.F ht⟩) hS.2.2 dX11_allot_49
      · have dc_14 := c_eq (a := r_12.toInt) (b := 0) rfl (by decide +kernel) c_14
        refine lv_aload_n hx hb dX11_allot_31 rfl (lv_at hl 0 rfl) ?_
        refine lv_bipush (v := (-3)) hx hb dX11_allot_32 (by decide +kernel) ?_
        have hFc := va_free (wc := (mW g0 pq cp v fa)) hD hS hA (List.range 48) rfl
        refine va_calli (va_runV (As := [.int (-3)]) (rest := []) ⟨hx, hb, hml, hown, hts⟩ (c_X11_refuse l dC dI H.size g0 pq cp v fa (-3) (by unfold vp_in; decide)) (cwV 1 hts gX11_allot_X11_refuse rfl rfl rfl (by decide +kernel) ⟨(Nat.le_of_ble_eq_true rfl), (Nat.le_of_ble_eq_true rfl)⟩) (pr_V (r := (RX11, TX11, 63)) hP hK hD 0 11 rfl rfl) rfl rfl hl.1 rfl (lv_room (Nat.le_of_ble_eq_true rfl)) dX11_allot_34 ⟨(Nat.le_of_ble_eq_true rfl), (Nat.le_of_ble_eq_true rfl)⟩) hS (fun q _ h => hFc q h) hFc (fun r_53 u t H locs ht hvm w_52 hB hz1 hk1 hS => ?_)
        obtain ⟨v_54, fa_55⟩ := u
        obtain ⟨hP1, hK1, hD1⟩ := hB
        rw [ht] at hP1
        have hP : va_P (dC, dI) vwCl (mW g0 pq cp v_54 fa_55) H := hP1
        have hD : va_D A (mW g0 pq cp v_54 fa_55) := hD1.weaken (fun _ _ _ h => hFc _ h)
        clear hP1 hK1 hD1 hk1 hz1 hvm ht hFc
        obtain ⟨rfl, w_52⟩ := w_52
        have hVv_54 : mV v_54 := sm0_V w_52 gV
        have hAv_54 : mA fa_55 := sm0_A w_52 gA
        have hRv_54 : mX [0, 29, 45, 47, 48, 49, 50, 51, 52, 53, 54, 55, 56, 57, 58, 59, 60] v fa v_54 fa_55 := mX.st mX.rf (mX.s0 w_52) (by decide +kernel)
        exact W.iret (v := (-3)) hx hb hr (fun t ht hW => ⟨⟨(-3), (v_54, fa_55), rfl, ⟨hVv_54, hAv_54, hRv_54⟩, ⟨by rw [ht]; exact hP, va_K.moved hW.alike hK, hD⟩⟩, hS.F ht⟩) hS.2.2 dX11_allot_37
  · have dc_3 := c_eq (a := r_2.toInt) (b := 0) rfl (by decide +kernel) c_3
    refine lv_aload_n hx hb dX11_allot_8 rfl (lv_at hl 0 rfl) ?_
    refine lv_iconst (v := (-1)) hx hb dX11_allot_9 (by decide +kernel) ?_
    have hFc := va_free (wc := (mW g0 pq cp v fa)) hD hS hA (List.range 48) rfl
    refine va_calli (va_runV (As := [.int (-1)]) (rest := []) ⟨hx, hb, hml, hown, hts⟩ (c_X11_refuse l dC dI H.size g0 pq cp v fa (-1) (by unfold vp_in; decide)) (cwV 1 hts gX11_allot_X11_refuse rfl rfl rfl (by decide +kernel) ⟨(Nat.le_of_ble_eq_true rfl), (Nat.le_of_ble_eq_true rfl)⟩) (pr_V (r := (RX11, TX11, 63)) hP hK hD 0 11 rfl rfl) rfl rfl hl.1 rfl (lv_room (Nat.le_of_ble_eq_true rfl)) dX11_allot_10 ⟨(Nat.le_of_ble_eq_true rfl), (Nat.le_of_ble_eq_true rfl)⟩) hS (fun q _ h => hFc q h) hFc (fun r_57 u t H locs ht hvm w_56 hB hz1 hk1 hS => ?_)
    obtain ⟨v_58, fa_59⟩ := u
    obtain ⟨hP1, hK1, hD1⟩ := hB
    rw [ht] at hP1
    have hP : va_P (dC, dI) vwCl (mW g0 pq cp v_58 fa_59) H := hP1
    have hD : va_D A (mW g0 pq cp v_58 fa_59) := hD1.weaken (fun _ _ _ h => hFc _ h)
    clear hP1 hK1 hD1 hk1 hz1 hvm ht hFc
    obtain ⟨rfl, w_56⟩ := w_56
    have hVv_58 : mV v_58 := sm0_V w_56 gV
    have hAv_58 : mA fa_59 := sm0_A w_56 gA
    have hRv_58 : mX [0, 29, 45, 47, 48, 49, 50, 51, 52, 53, 54, 55, 56, 57, 58, 59, 60] v fa v_58 fa_59 := mX.st mX.rf (mX.s0 w_56) (by decide +kernel)
    exact W.iret (v := (-1)) hx hb hr (fun t ht hW => ⟨⟨(-1), (v_58, fa_59), rfl, ⟨hVv_58, hAv_58, hRv_58⟩, ⟨by rw [ht]; exact hP, va_K.moved hW.alike hK, hD⟩⟩, hS.F ht⟩) hS.2.2 dX11_allot_13
