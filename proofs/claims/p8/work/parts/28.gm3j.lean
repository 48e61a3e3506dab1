abbrev cX11_owed : ByteArray := prog_13_method_64_code
def yX11_owed : MethodName := ⟨RX11, "owed", "(III)I"⟩
abbrev cX11_agreementOf : ByteArray := prog_13_method_65_code
def yX11_agreementOf : MethodName := ⟨RX11, "agreementOf", "(II)I"⟩
abbrev cX11_check : ByteArray := prog_13_method_80_code
def yX11_check : MethodName := ⟨RX11, "check", "(III)I"⟩
abbrev cX11_count : ByteArray := prog_13_method_81_code
def yX11_count : MethodName := ⟨RX11, "count", "(I)I"⟩
theorem gw_X11_refuseFar : wsX11_refuseFar.all goodWord = true := by decide +kernel
theorem gw_X11_owedOf : wsX11_owedOf.all goodWord = true := by decide +kernel
def wsX11_owed_r1 : List Cond := [Cond.methodLink RX11 199 yX11_isAgreement, Cond.instanceMethod yX11_isAgreement, Cond.selects RX11 yX11_isAgreement yX11_isAgreement, Cond.initialized RX11, Cond.code yX11_isAgreement cX11_isAgreement 2 (some .boolean), Cond.fieldLink RX11 168 "ShipOfficeModel" "agreements" "I", Cond.methodLink RX11 161 yX11_isIn, Cond.static yX11_isIn, Cond.code yX11_isIn cX11_isIn 2 (some .boolean), Cond.methodLink RX11 300 yX11_wrongTimes, Cond.instanceMethod yX11_wrongTimes, Cond.selects RX11 yX11_wrongTimes yX11_wrongTimes, Cond.code yX11_wrongTimes cX11_wrongTimes 3 (some .int), Cond.fieldLink RX11 171 "ShipOfficeModel" "now" "I", Cond.methodLink RX11 320 yX11_refuseFar, Cond.instanceMethod yX11_refuseFar, Cond.selects RX11 yX11_refuseFar yX11_refuseFar, Cond.code yX11_refuseFar cX11_refuseFar 2 (some .int), Cond.constant RX11 152 (1000000000), Cond.methodLink RX11 153 yX11_refuse, Cond.instanceMethod yX11_refuse, Cond.selects RX11 yX11_refuse yX11_refuse, Cond.code yX11_refuse cX11_refuse 2 (some .int), Cond.fieldLink RX11 7 "ShipOfficeModel" "refusals" "[I"]
def wsX11_owed_r2 : List Cond := [Cond.methodLink RX11 323 yX11_owedOf, Cond.instanceMethod yX11_owedOf, Cond.selects RX11 yX11_owedOf yX11_owedOf, Cond.code yX11_owedOf cX11_owedOf 8 (some .int), Cond.fieldLink RX11 85 "ShipOfficeModel" "signed" "[I", Cond.fieldLink RX11 76 "ShipOfficeModel" "wage" "[I", Cond.constantLong RX11 318 (30), Cond.fieldLink RX11 73 "ShipOfficeModel" "voyage" "[I", Cond.fieldLink RX11 91 "ShipOfficeModel" "note" "[I", Cond.fieldLink RX11 97 "ShipOfficeModel" "allotted" "[I", Cond.fieldLink RX11 100 "ShipOfficeModel" "fines" "[I", Cond.fieldLink RX11 109 "ShipOfficeModel" "fineDay" "[I", Cond.fieldLink RX11 103 "ShipOfficeModel" "shorts" "[I", Cond.fieldLink RX11 115 "ShipOfficeModel" "shortOn" "[I", Cond.fieldLink RX11 118 "ShipOfficeModel" "shortSum" "[I", Cond.fieldLink RX11 52 "ShipOfficeModel" "way" "[I", Cond.constantLong RX11 310 (100), Cond.methodLink RX11 303 yX11_earnsOf, Cond.instanceMethod yX11_earnsOf, Cond.selects RX11 yX11_earnsOf yX11_earnsOf, Cond.code yX11_earnsOf cX11_earnsOf 7 (some .int), Cond.methodLink RX11 266 yX11_stateOf, Cond.instanceMethod yX11_stateOf, Cond.selects RX11 yX11_stateOf yX11_stateOf]
def wsX11_owed_r3 : List Cond := [Cond.code yX11_stateOf cX11_stateOf 5 (some .int), Cond.fieldLink RX11 88 "ShipOfficeModel" "offOn" "[I", Cond.fieldLink RX11 40 "ShipOfficeModel" "what" "[I", Cond.methodLink RX11 288 yX11_isDead, Cond.instanceMethod yX11_isDead, Cond.selects RX11 yX11_isDead yX11_isDead, Cond.code yX11_isDead cX11_isDead 5 (some .boolean), Cond.fieldLink RX11 179 "ShipOfficeModel" "happened" "I", Cond.fieldLink RX11 43 "ShipOfficeModel" "whose" "[I", Cond.fieldLink RX11 49 "ShipOfficeModel" "known" "[I", Cond.fieldLink RX11 46 "ShipOfficeModel" "day" "[I", Cond.methodLink RX11 291 yX11_whereOf, Cond.instanceMethod yX11_whereOf, Cond.selects RX11 yX11_whereOf yX11_whereOf, Cond.code yX11_whereOf cX11_whereOf 6 (some .int), Cond.methodLink RX11 281 yX11_hasSailed, Cond.instanceMethod yX11_hasSailed, Cond.selects RX11 yX11_hasSailed yX11_hasSailed, Cond.code yX11_hasSailed cX11_hasSailed 5 (some .boolean), Cond.methodLink RX11 278 yX11_sailedOn, Cond.instanceMethod yX11_sailedOn, Cond.selects RX11 yX11_sailedOn yX11_sailedOn, Cond.code yX11_sailedOn cX11_sailedOn 4 (some .int), Cond.methodLink RX11 294 yX11_isUnknown]
def wsX11_owed_r4 : List Cond := [Cond.instanceMethod yX11_isUnknown, Cond.selects RX11 yX11_isUnknown yX11_isUnknown, Cond.code yX11_isUnknown cX11_isUnknown 4 (some .boolean), Cond.methodLink RX11 275 yX11_bare, Cond.instanceMethod yX11_bare, Cond.selects RX11 yX11_bare yX11_bare, Cond.code yX11_bare cX11_bare 2 none, Cond.fieldLink RX11 128 "ShipOfficeModel" "letters" "[I", Cond.methodLink RX11 272 yX11_lastHeard, Cond.instanceMethod yX11_lastHeard, Cond.selects RX11 yX11_lastHeard yX11_lastHeard, Cond.code yX11_lastHeard cX11_lastHeard 6 (some .int), Cond.methodLink RX11 285 yX11_worth, Cond.instanceMethod yX11_worth, Cond.selects RX11 yX11_worth yX11_worth, Cond.code yX11_worth cX11_worth 4 (some .int), Cond.fieldLink RX11 58 "ShipOfficeModel" "textSize" "[I", Cond.methodLink RX11 263 yX11_actOn, Cond.instanceMethod yX11_actOn, Cond.selects RX11 yX11_actOn yX11_actOn, Cond.code yX11_actOn cX11_actOn 5 (some .int), Cond.fieldLink RX11 256 "ShipOfficeModel" "acts" "I", Cond.fieldLink RX11 61 "ShipOfficeModel" "purpose" "[I", Cond.fieldLink RX11 64 "ShipOfficeModel" "from" "[I"]
def wsX11_owed_r5 : List Cond := [Cond.methodLink RX11 259 yX11_goesThrough, Cond.instanceMethod yX11_goesThrough, Cond.selects RX11 yX11_goesThrough yX11_goesThrough, Cond.code yX11_goesThrough cX11_goesThrough 3 (some .int), Cond.fieldLink RX11 216 "ShipOfficeModel" "base" "I", Cond.fieldLink RX11 213 "ShipOfficeModel" "size" "I", Cond.fieldLink RX11 210 "ShipOfficeModel" "at" "I", Cond.fieldLink RX11 244 "ShipOfficeModel" "deep" "I", Cond.fieldLink RX11 223 "ShipOfficeModel" "isWell" "Z", Cond.methodLink RX11 250 yX11_sum, Cond.instanceMethod yX11_sum, Cond.selects RX11 yX11_sum yX11_sum, Cond.code yX11_sum cX11_sum 4 (some .int), Cond.methodLink RX11 231 yX11_term, Cond.instanceMethod yX11_term, Cond.selects RX11 yX11_term yX11_term, Cond.methodLink RX11 227 yX11_sign, Cond.instanceMethod yX11_sign, Cond.selects RX11 yX11_sign yX11_sign, Cond.code yX11_sign cX11_sign 1 (some .int), Cond.fieldLink RX11 125 "ShipOfficeModel" "tape" "[I", Cond.fieldLink RX11 67 "ShipOfficeModel" "text" "[I", Cond.methodLink RX11 234 yX11_held, Cond.static yX11_held]
def wsX11_owed_r6 : List Cond := [Cond.code yX11_held cX11_held 2 (some .int), Cond.constantLong RX11 219 (1000000000), Cond.constantLong RX11 221 (-1000000000), Cond.code yX11_term cX11_term 4 (some .int), Cond.methodLink RX11 238 yX11_unit, Cond.instanceMethod yX11_unit, Cond.selects RX11 yX11_unit yX11_unit, Cond.code yX11_unit cX11_unit 5 (some .int), Cond.methodLink RX11 241 yX11_isLetter, Cond.static yX11_isLetter, Cond.code yX11_isLetter cX11_isLetter 1 (some .boolean), Cond.methodLink RX11 247 yX11_breaks, Cond.instanceMethod yX11_breaks, Cond.selects RX11 yX11_breaks yX11_breaks, Cond.code yX11_breaks cX11_breaks 1 (some .int), Cond.methodLink RX11 253 yX11_takes, Cond.instanceMethod yX11_takes, Cond.selects RX11 yX11_takes yX11_takes, Cond.code yX11_takes cX11_takes 2 (some .boolean), Cond.methodLink RX11 315 yX11_standsOf, Cond.instanceMethod yX11_standsOf, Cond.selects RX11 yX11_standsOf yX11_standsOf, Cond.code yX11_standsOf cX11_standsOf 6 (some .int), Cond.fieldLink RX11 112 "ShipOfficeModel" "fineSum" "[I"]
def wsX11_owed_r7 : List Cond := [Cond.fieldLink RX11 121 "ShipOfficeModel" "isRead" "[Z", Cond.methodLink RX11 306 yX11_puts, Cond.instanceMethod yX11_puts, Cond.selects RX11 yX11_puts yX11_puts, Cond.code yX11_puts cX11_puts 9 none, Cond.fieldLink RX11 79 "ShipOfficeModel" "rank" "[I", Cond.fieldLink RX11 22 "ShipOfficeModel" "born" "[I", Cond.fieldLink RX11 70 "ShipOfficeModel" "man" "[I", Cond.methodLink RX11 269 yX11_aboardOf, Cond.instanceMethod yX11_aboardOf, Cond.selects RX11 yX11_aboardOf yX11_aboardOf, Cond.code yX11_aboardOf cX11_aboardOf 6 (some .int)]
def wsX11_owed : List Cond := .code yX11_owed cX11_owed 5 (some .int) :: ((wsX11_owed_r1 ++ (wsX11_owed_r2 ++ (wsX11_owed_r3 ++ (wsX11_owed_r4 ++ (wsX11_owed_r5 ++ (wsX11_owed_r6 ++ wsX11_owed_r7)))))) ++ wsX110)
theorem il_X11_owed_1 : ∀ w ∈ wsX11_owed_r1, w ∈ wsX11_owed := fun w h => (List.mem_cons_of_mem _ (List.mem_append_left _ (List.mem_append_left _ h)))
theorem il_X11_owed_2 : ∀ w ∈ wsX11_owed_r2, w ∈ wsX11_owed := fun w h => (List.mem_cons_of_mem _ (List.mem_append_left _ (List.mem_append_right _ (List.mem_append_left _ h))))
theorem il_X11_owed_3 : ∀ w ∈ wsX11_owed_r3, w ∈ wsX11_owed := fun w h => (List.mem_cons_of_mem _ (List.mem_append_left _ (List.mem_append_right _ (List.mem_append_right _ (List.mem_append_left _ h)))))
theorem il_X11_owed_4 : ∀ w ∈ wsX11_owed_r4, w ∈ wsX11_owed := fun w h => (List.mem_cons_of_mem _ (List.mem_append_left _ (List.mem_append_right _ (List.mem_append_right _ (List.mem_append_right _ (List.mem_append_left _ h))))))
theorem il_X11_owed_5 : ∀ w ∈ wsX11_owed_r5, w ∈ wsX11_owed := fun w h => (List.mem_cons_of_mem _ (List.mem_append_left _ (List.mem_append_right _ (List.mem_append_right _ (List.mem_append_right _ (List.mem_append_right _ (List.mem_append_left _ h)))))))
theorem il_X11_owed_6 : ∀ w ∈ wsX11_owed_r6, w ∈ wsX11_owed := fun w h => (List.mem_cons_of_mem _ (List.mem_append_left _ (List.mem_append_right _ (List.mem_append_right _ (List.mem_append_right _ (List.mem_append_right _ (List.mem_append_right _ (List.mem_append_left _ h))))))))
theorem il_X11_owed_7 : ∀ w ∈ wsX11_owed_r7, w ∈ wsX11_owed := fun w h => (List.mem_cons_of_mem _ (List.mem_append_left _ (List.mem_append_right _ (List.mem_append_right _ (List.mem_append_right _ (List.mem_append_right _ (List.mem_append_right _ (List.mem_append_right _ h))))))))
theorem il_X11_owed_8 : ∀ w ∈ wsX110, w ∈ wsX11_owed := fun w h => (List.mem_cons_of_mem _ (List.mem_append_right _ h))
def wsX11_agreementOf_r1 : List Cond := [Cond.fieldLink RX11 70 "ShipOfficeModel" "man" "[I", Cond.fieldLink RX11 73 "ShipOfficeModel" "voyage" "[I", Cond.fieldLink RX11 76 "ShipOfficeModel" "wage" "[I", Cond.fieldLink RX11 79 "ShipOfficeModel" "rank" "[I", Cond.fieldLink RX11 85 "ShipOfficeModel" "signed" "[I", Cond.fieldLink RX11 88 "ShipOfficeModel" "offOn" "[I", Cond.fieldLink RX11 91 "ShipOfficeModel" "note" "[I", Cond.fieldLink RX11 94 "ShipOfficeModel" "given" "[I", Cond.fieldLink RX11 97 "ShipOfficeModel" "allotted" "[I", Cond.methodLink RX11 199 yX11_isAgreement, Cond.instanceMethod yX11_isAgreement, Cond.selects RX11 yX11_isAgreement yX11_isAgreement, Cond.initialized RX11, Cond.code yX11_isAgreement cX11_isAgreement 2 (some .boolean), Cond.fieldLink RX11 168 "ShipOfficeModel" "agreements" "I", Cond.methodLink RX11 161 yX11_isIn, Cond.static yX11_isIn, Cond.code yX11_isIn cX11_isIn 2 (some .boolean), Cond.methodLink RX11 153 yX11_refuse, Cond.instanceMethod yX11_refuse, Cond.selects RX11 yX11_refuse yX11_refuse, Cond.code yX11_refuse cX11_refuse 2 (some .int), Cond.fieldLink RX11 7 "ShipOfficeModel" "refusals" "[I", Cond.methodLink RX11 188 yX11_goesOn]
def wsX11_agreementOf_r2 : List Cond := [Cond.instanceMethod yX11_goesOn, Cond.selects RX11 yX11_goesOn yX11_goesOn, Cond.code yX11_goesOn cX11_goesOn 2 (some .boolean), Cond.methodLink RX11 182 yX11_wasTold, Cond.instanceMethod yX11_wasTold, Cond.selects RX11 yX11_wasTold yX11_wasTold, Cond.code yX11_wasTold cX11_wasTold 4 (some .boolean), Cond.fieldLink RX11 179 "ShipOfficeModel" "happened" "I", Cond.fieldLink RX11 40 "ShipOfficeModel" "what" "[I", Cond.fieldLink RX11 43 "ShipOfficeModel" "whose" "[I"]
def wsX11_agreementOf : List Cond := .code yX11_agreementOf cX11_agreementOf 3 (some .int) :: ((wsX11_agreementOf_r1 ++ wsX11_agreementOf_r2) ++ wsX110)
theorem il_X11_agreementOf_1 : ∀ w ∈ wsX11_agreementOf_r1, w ∈ wsX11_agreementOf := fun w h => (List.mem_cons_of_mem _ (List.mem_append_left _ (List.mem_append_left _ h)))
theorem il_X11_agreementOf_2 : ∀ w ∈ wsX11_agreementOf_r2, w ∈ wsX11_agreementOf := fun w h => (List.mem_cons_of_mem _ (List.mem_append_left _ (List.mem_append_right _ h)))
theorem il_X11_agreementOf_3 : ∀ w ∈ wsX110, w ∈ wsX11_agreementOf := fun w h => (List.mem_cons_of_mem _ (List.mem_append_right _ h))
theorem iw_X11_agreementOf_1 : Cond.fieldLink RX11 70 "ShipOfficeModel" "man" "[I" ∈ wsX11_agreementOf := (mmI il_X11_agreementOf_1 0 rfl)
theorem iw_X11_agreementOf_2 : Cond.fieldLink RX11 73 "ShipOfficeModel" "voyage" "[I" ∈ wsX11_agreementOf := (mmI il_X11_agreementOf_1 1 rfl)
theorem iw_X11_agreementOf_3 : Cond.fieldLink RX11 76 "ShipOfficeModel" "wage" "[I" ∈ wsX11_agreementOf := (mmI il_X11_agreementOf_1 2 rfl)
theorem iw_X11_agreementOf_4 : Cond.fieldLink RX11 79 "ShipOfficeModel" "rank" "[I" ∈ wsX11_agreementOf := (mmI il_X11_agreementOf_1 3 rfl)
theorem iw_X11_agreementOf_5 : Cond.fieldLink RX11 85 "ShipOfficeModel" "signed" "[I" ∈ wsX11_agreementOf := (mmI il_X11_agreementOf_1 4 rfl)
theorem iw_X11_agreementOf_6 : Cond.fieldLink RX11 88 "ShipOfficeModel" "offOn" "[I" ∈ wsX11_agreementOf := (mmI il_X11_agreementOf_1 5 rfl)
theorem iw_X11_agreementOf_7 : Cond.fieldLink RX11 91 "ShipOfficeModel" "note" "[I" ∈ wsX11_agreementOf := (mmI il_X11_agreementOf_1 6 rfl)
theorem iw_X11_agreementOf_8 : Cond.fieldLink RX11 94 "ShipOfficeModel" "given" "[I" ∈ wsX11_agreementOf := (mmI il_X11_agreementOf_1 7 rfl)
theorem iw_X11_agreementOf_9 : Cond.fieldLink RX11 97 "ShipOfficeModel" "allotted" "[I" ∈ wsX11_agreementOf := (mmI il_X11_agreementOf_1 8 rfl)
theorem gw_X11_asksAny : wsX11_asksAny.all goodWord = true := by decide +kernel
def wsX11_check_r1 : List Cond := [Cond.fieldLink RX11 357 "ShipOfficeModel" "rowed" "I", Cond.fieldLink RX11 168 "ShipOfficeModel" "agreements" "I", Cond.fieldLink RX11 73 "ShipOfficeModel" "voyage" "[I", Cond.fieldLink RX11 149 "ShipOfficeModel" "row" "[I", Cond.methodLink RX11 185 yX11_isVoyage, Cond.instanceMethod yX11_isVoyage, Cond.selects RX11 yX11_isVoyage yX11_isVoyage, Cond.initialized RX11, Cond.code yX11_isVoyage cX11_isVoyage 2 (some .boolean), Cond.fieldLink RX11 165 "ShipOfficeModel" "voyages" "I", Cond.methodLink RX11 161 yX11_isIn, Cond.static yX11_isIn, Cond.code yX11_isIn cX11_isIn 2 (some .boolean), Cond.methodLink RX11 300 yX11_wrongTimes, Cond.instanceMethod yX11_wrongTimes, Cond.selects RX11 yX11_wrongTimes yX11_wrongTimes, Cond.code yX11_wrongTimes cX11_wrongTimes 3 (some .int), Cond.fieldLink RX11 171 "ShipOfficeModel" "now" "I", Cond.methodLink RX11 153 yX11_refuse, Cond.instanceMethod yX11_refuse, Cond.selects RX11 yX11_refuse yX11_refuse, Cond.code yX11_refuse cX11_refuse 2 (some .int), Cond.fieldLink RX11 7 "ShipOfficeModel" "refusals" "[I", Cond.methodLink RX11 323 yX11_owedOf]
def wsX11_check_r2 : List Cond := [Cond.instanceMethod yX11_owedOf, Cond.selects RX11 yX11_owedOf yX11_owedOf, Cond.code yX11_owedOf cX11_owedOf 8 (some .int), Cond.fieldLink RX11 85 "ShipOfficeModel" "signed" "[I", Cond.fieldLink RX11 76 "ShipOfficeModel" "wage" "[I", Cond.constantLong RX11 318 (30), Cond.fieldLink RX11 91 "ShipOfficeModel" "note" "[I", Cond.fieldLink RX11 97 "ShipOfficeModel" "allotted" "[I", Cond.fieldLink RX11 100 "ShipOfficeModel" "fines" "[I", Cond.fieldLink RX11 109 "ShipOfficeModel" "fineDay" "[I", Cond.fieldLink RX11 103 "ShipOfficeModel" "shorts" "[I", Cond.fieldLink RX11 115 "ShipOfficeModel" "shortOn" "[I", Cond.fieldLink RX11 118 "ShipOfficeModel" "shortSum" "[I", Cond.fieldLink RX11 52 "ShipOfficeModel" "way" "[I", Cond.constantLong RX11 310 (100), Cond.methodLink RX11 303 yX11_earnsOf, Cond.instanceMethod yX11_earnsOf, Cond.selects RX11 yX11_earnsOf yX11_earnsOf, Cond.code yX11_earnsOf cX11_earnsOf 7 (some .int), Cond.methodLink RX11 266 yX11_stateOf, Cond.instanceMethod yX11_stateOf, Cond.selects RX11 yX11_stateOf yX11_stateOf, Cond.code yX11_stateOf cX11_stateOf 5 (some .int), Cond.fieldLink RX11 88 "ShipOfficeModel" "offOn" "[I"]
def wsX11_check_r3 : List Cond := [Cond.fieldLink RX11 40 "ShipOfficeModel" "what" "[I", Cond.methodLink RX11 288 yX11_isDead, Cond.instanceMethod yX11_isDead, Cond.selects RX11 yX11_isDead yX11_isDead, Cond.code yX11_isDead cX11_isDead 5 (some .boolean), Cond.fieldLink RX11 179 "ShipOfficeModel" "happened" "I", Cond.fieldLink RX11 43 "ShipOfficeModel" "whose" "[I", Cond.fieldLink RX11 49 "ShipOfficeModel" "known" "[I", Cond.fieldLink RX11 46 "ShipOfficeModel" "day" "[I", Cond.methodLink RX11 291 yX11_whereOf, Cond.instanceMethod yX11_whereOf, Cond.selects RX11 yX11_whereOf yX11_whereOf, Cond.code yX11_whereOf cX11_whereOf 6 (some .int), Cond.methodLink RX11 281 yX11_hasSailed, Cond.instanceMethod yX11_hasSailed, Cond.selects RX11 yX11_hasSailed yX11_hasSailed, Cond.code yX11_hasSailed cX11_hasSailed 5 (some .boolean), Cond.methodLink RX11 278 yX11_sailedOn, Cond.instanceMethod yX11_sailedOn, Cond.selects RX11 yX11_sailedOn yX11_sailedOn, Cond.code yX11_sailedOn cX11_sailedOn 4 (some .int), Cond.methodLink RX11 294 yX11_isUnknown, Cond.instanceMethod yX11_isUnknown, Cond.selects RX11 yX11_isUnknown yX11_isUnknown]
def wsX11_check_r4 : List Cond := [Cond.code yX11_isUnknown cX11_isUnknown 4 (some .boolean), Cond.methodLink RX11 275 yX11_bare, Cond.instanceMethod yX11_bare, Cond.selects RX11 yX11_bare yX11_bare, Cond.code yX11_bare cX11_bare 2 none, Cond.fieldLink RX11 128 "ShipOfficeModel" "letters" "[I", Cond.methodLink RX11 272 yX11_lastHeard, Cond.instanceMethod yX11_lastHeard, Cond.selects RX11 yX11_lastHeard yX11_lastHeard, Cond.code yX11_lastHeard cX11_lastHeard 6 (some .int), Cond.methodLink RX11 285 yX11_worth, Cond.instanceMethod yX11_worth, Cond.selects RX11 yX11_worth yX11_worth, Cond.code yX11_worth cX11_worth 4 (some .int), Cond.fieldLink RX11 58 "ShipOfficeModel" "textSize" "[I", Cond.methodLink RX11 263 yX11_actOn, Cond.instanceMethod yX11_actOn, Cond.selects RX11 yX11_actOn yX11_actOn, Cond.code yX11_actOn cX11_actOn 5 (some .int), Cond.fieldLink RX11 256 "ShipOfficeModel" "acts" "I", Cond.fieldLink RX11 61 "ShipOfficeModel" "purpose" "[I", Cond.fieldLink RX11 64 "ShipOfficeModel" "from" "[I", Cond.methodLink RX11 259 yX11_goesThrough, Cond.instanceMethod yX11_goesThrough]
def wsX11_check_r5 : List Cond := [Cond.selects RX11 yX11_goesThrough yX11_goesThrough, Cond.code yX11_goesThrough cX11_goesThrough 3 (some .int), Cond.fieldLink RX11 216 "ShipOfficeModel" "base" "I", Cond.fieldLink RX11 213 "ShipOfficeModel" "size" "I", Cond.fieldLink RX11 210 "ShipOfficeModel" "at" "I", Cond.fieldLink RX11 244 "ShipOfficeModel" "deep" "I", Cond.fieldLink RX11 223 "ShipOfficeModel" "isWell" "Z", Cond.methodLink RX11 250 yX11_sum, Cond.instanceMethod yX11_sum, Cond.selects RX11 yX11_sum yX11_sum, Cond.code yX11_sum cX11_sum 4 (some .int), Cond.methodLink RX11 231 yX11_term, Cond.instanceMethod yX11_term, Cond.selects RX11 yX11_term yX11_term, Cond.methodLink RX11 227 yX11_sign, Cond.instanceMethod yX11_sign, Cond.selects RX11 yX11_sign yX11_sign, Cond.code yX11_sign cX11_sign 1 (some .int), Cond.fieldLink RX11 125 "ShipOfficeModel" "tape" "[I", Cond.fieldLink RX11 67 "ShipOfficeModel" "text" "[I", Cond.methodLink RX11 234 yX11_held, Cond.static yX11_held, Cond.code yX11_held cX11_held 2 (some .int), Cond.constantLong RX11 219 (1000000000)]
def wsX11_check_r6 : List Cond := [Cond.constantLong RX11 221 (-1000000000), Cond.code yX11_term cX11_term 4 (some .int), Cond.methodLink RX11 238 yX11_unit, Cond.instanceMethod yX11_unit, Cond.selects RX11 yX11_unit yX11_unit, Cond.code yX11_unit cX11_unit 5 (some .int), Cond.methodLink RX11 241 yX11_isLetter, Cond.static yX11_isLetter, Cond.code yX11_isLetter cX11_isLetter 1 (some .boolean), Cond.methodLink RX11 247 yX11_breaks, Cond.instanceMethod yX11_breaks, Cond.selects RX11 yX11_breaks yX11_breaks, Cond.code yX11_breaks cX11_breaks 1 (some .int), Cond.methodLink RX11 253 yX11_takes, Cond.instanceMethod yX11_takes, Cond.selects RX11 yX11_takes yX11_takes, Cond.code yX11_takes cX11_takes 2 (some .boolean), Cond.methodLink RX11 315 yX11_standsOf, Cond.instanceMethod yX11_standsOf, Cond.selects RX11 yX11_standsOf yX11_standsOf, Cond.code yX11_standsOf cX11_standsOf 6 (some .int), Cond.fieldLink RX11 112 "ShipOfficeModel" "fineSum" "[I", Cond.fieldLink RX11 121 "ShipOfficeModel" "isRead" "[Z", Cond.methodLink RX11 306 yX11_puts]
def wsX11_check_r7 : List Cond := [Cond.instanceMethod yX11_puts, Cond.selects RX11 yX11_puts yX11_puts, Cond.code yX11_puts cX11_puts 9 none, Cond.fieldLink RX11 79 "ShipOfficeModel" "rank" "[I", Cond.fieldLink RX11 22 "ShipOfficeModel" "born" "[I", Cond.fieldLink RX11 70 "ShipOfficeModel" "man" "[I", Cond.methodLink RX11 269 yX11_aboardOf, Cond.instanceMethod yX11_aboardOf, Cond.selects RX11 yX11_aboardOf yX11_aboardOf, Cond.code yX11_aboardOf cX11_aboardOf 6 (some .int)]
def wsX11_check : List Cond := .code yX11_check cX11_check 8 (some .int) :: ((wsX11_check_r1 ++ (wsX11_check_r2 ++ (wsX11_check_r3 ++ (wsX11_check_r4 ++ (wsX11_check_r5 ++ (wsX11_check_r6 ++ wsX11_check_r7)))))) ++ wsX110)
theorem il_X11_check_1 : ∀ w ∈ wsX11_check_r1, w ∈ wsX11_check := fun w h => (List.mem_cons_of_mem _ (List.mem_append_left _ (List.mem_append_left _ h)))
theorem il_X11_check_2 : ∀ w ∈ wsX11_check_r2, w ∈ wsX11_check := fun w h => (List.mem_cons_of_mem _ (List.mem_append_left _ (List.mem_append_right _ (List.mem_append_left _ h))))
theorem il_X11_check_3 : ∀ w ∈ wsX11_check_r3, w ∈ wsX11_check := fun w h => (List.mem_cons_of_mem _ (List.mem_append_left _ (List.mem_append_right _ (List.mem_append_right _ (List.mem_append_left _ h)))))
theorem il_X11_check_4 : ∀ w ∈ wsX11_check_r4, w ∈ wsX11_check := fun w h => (List.mem_cons_of_mem _ (List.mem_append_left _ (List.mem_append_right _ (List.mem_append_right _ (List.mem_append_right _ (List.mem_append_left _ h))))))
theorem il_X11_check_5 : ∀ w ∈ wsX11_check_r5, w ∈ wsX11_check := fun w h => (List.mem_cons_of_mem _ (List.mem_append_left _ (List.mem_append_right _ (List.mem_append_right _ (List.mem_append_right _ (List.mem_append_right _ (List.mem_append_left _ h)))))))
theorem il_X11_check_6 : ∀ w ∈ wsX11_check_r6, w ∈ wsX11_check := fun w h => (List.mem_cons_of_mem _ (List.mem_append_left _ (List.mem_append_right _ (List.mem_append_right _ (List.mem_append_right _ (List.mem_append_right _ (List.mem_append_right _ (List.mem_append_left _ h))))))))
theorem il_X11_check_7 : ∀ w ∈ wsX11_check_r7, w ∈ wsX11_check := fun w h => (List.mem_cons_of_mem _ (List.mem_append_left _ (List.mem_append_right _ (List.mem_append_right _ (List.mem_append_right _ (List.mem_append_right _ (List.mem_append_right _ (List.mem_append_right _ h))))))))
theorem il_X11_check_8 : ∀ w ∈ wsX110, w ∈ wsX11_check := fun w h => (List.mem_cons_of_mem _ (List.mem_append_right _ h))
theorem iw_X11_check_1 : Cond.fieldLink RX11 357 "ShipOfficeModel" "rowed" "I" ∈ wsX11_check := (mmI il_X11_check_1 0 rfl)
theorem iw_X11_check_2 : Cond.fieldLink RX11 168 "ShipOfficeModel" "agreements" "I" ∈ wsX11_check := (mmI il_X11_check_1 1 rfl)
theorem iw_X11_check_3 : Cond.fieldLink RX11 73 "ShipOfficeModel" "voyage" "[I" ∈ wsX11_check := (mmI il_X11_check_1 2 rfl)
theorem iw_X11_check_4 : Cond.fieldLink RX11 149 "ShipOfficeModel" "row" "[I" ∈ wsX11_check := (mmI il_X11_check_1 3 rfl)
def wsX11_count_r1 : List Cond := [Cond.fieldLink RX11 7 "ShipOfficeModel" "refusals" "[I", Cond.fieldLink RX11 171 "ShipOfficeModel" "now" "I", Cond.fieldLink RX11 157 "ShipOfficeModel" "men" "I", Cond.fieldLink RX11 165 "ShipOfficeModel" "voyages" "I", Cond.fieldLink RX11 37 "ShipOfficeModel" "endedOn" "[I", Cond.fieldLink RX11 168 "ShipOfficeModel" "agreements" "I", Cond.fieldLink RX11 179 "ShipOfficeModel" "happened" "I", Cond.fieldLink RX11 256 "ShipOfficeModel" "acts" "I", Cond.fieldLink RX11 205 "ShipOfficeModel" "taped" "I", Cond.fieldLink RX11 357 "ShipOfficeModel" "rowed" "I", Cond.methodLink RX11 188 yX11_goesOn, Cond.instanceMethod yX11_goesOn, Cond.selects RX11 yX11_goesOn yX11_goesOn, Cond.initialized RX11, Cond.code yX11_goesOn cX11_goesOn 2 (some .boolean), Cond.fieldLink RX11 88 "ShipOfficeModel" "offOn" "[I", Cond.fieldLink RX11 73 "ShipOfficeModel" "voyage" "[I", Cond.methodLink RX11 182 yX11_wasTold, Cond.instanceMethod yX11_wasTold, Cond.selects RX11 yX11_wasTold yX11_wasTold, Cond.code yX11_wasTold cX11_wasTold 4 (some .boolean), Cond.fieldLink RX11 40 "ShipOfficeModel" "what" "[I", Cond.fieldLink RX11 43 "ShipOfficeModel" "whose" "[I", Cond.methodLink RX11 351 yX11_asksAny]
def wsX11_count_r2 : List Cond := [Cond.instanceMethod yX11_asksAny, Cond.selects RX11 yX11_asksAny yX11_asksAny, Cond.code yX11_asksAny cX11_asksAny 2 (some .boolean), Cond.fieldLink RX11 25 "ShipOfficeModel" "asks" "[I"]
def wsX11_count : List Cond := .code yX11_count cX11_count 4 (some .int) :: ((wsX11_count_r1 ++ wsX11_count_r2) ++ wsX110)
theorem il_X11_count_1 : ∀ w ∈ wsX11_count_r1, w ∈ wsX11_count := fun w h => (List.mem_cons_of_mem _ (List.mem_append_left _ (List.mem_append_left _ h)))
theorem il_X11_count_2 : ∀ w ∈ wsX11_count_r2, w ∈ wsX11_count := fun w h => (List.mem_cons_of_mem _ (List.mem_append_left _ (List.mem_append_right _ h)))
theorem il_X11_count_3 : ∀ w ∈ wsX110, w ∈ wsX11_count := fun w h => (List.mem_cons_of_mem _ (List.mem_append_right _ h))
theorem iw_X11_count_1 : Cond.fieldLink RX11 171 "ShipOfficeModel" "now" "I" ∈ wsX11_count := (mmI il_X11_count_1 1 rfl)
theorem iw_X11_count_2 : Cond.fieldLink RX11 157 "ShipOfficeModel" "men" "I" ∈ wsX11_count := (mmI il_X11_count_1 2 rfl)
theorem iw_X11_count_3 : Cond.fieldLink RX11 165 "ShipOfficeModel" "voyages" "I" ∈ wsX11_count := (mmI il_X11_count_1 3 rfl)
theorem iw_X11_count_4 : Cond.fieldLink RX11 37 "ShipOfficeModel" "endedOn" "[I" ∈ wsX11_count := (mmI il_X11_count_1 4 rfl)
theorem iw_X11_count_5 : Cond.fieldLink RX11 168 "ShipOfficeModel" "agreements" "I" ∈ wsX11_count := (mmI il_X11_count_1 5 rfl)
theorem iw_X11_count_6 : Cond.fieldLink RX11 179 "ShipOfficeModel" "happened" "I" ∈ wsX11_count := (mmI il_X11_count_1 6 rfl)
theorem iw_X11_count_7 : Cond.fieldLink RX11 256 "ShipOfficeModel" "acts" "I" ∈ wsX11_count := (mmI il_X11_count_1 7 rfl)
theorem iw_X11_count_8 : Cond.fieldLink RX11 205 "ShipOfficeModel" "taped" "I" ∈ wsX11_count := (mmI il_X11_count_1 8 rfl)
theorem iw_X11_count_9 : Cond.fieldLink RX11 357 "ShipOfficeModel" "rowed" "I" ∈ wsX11_count := (mmI il_X11_count_1 9 rfl)
theorem iw_X11_count_10 : Cond.fieldLink RX11 7 "ShipOfficeModel" "refusals" "[I" ∈ wsX11_count := (mmI il_X11_count_1 0 rfl)
set_option maxRecDepth 100000 in
theorem ggX11_owed_X11_isAgreement : GoodIn wsX11_owed wsX11_isAgreement := goodIn_sub (mmC (mmI il_X11_owed_1 4 rfl) (mmA (mmC (mmI il_X11_owed_1 5 rfl) (mmC (mmI il_X11_owed_1 6 rfl) (mmC (mmI il_X11_owed_1 7 rfl) (mmC (mmI il_X11_owed_1 3 rfl) (mmC (mmI il_X11_owed_1 8 rfl) mmN))))) il_X11_owed_8)) gw_X11_isAgreement
theorem gX11_owed_X11_isAgreement : GoodIn wsX11_owed (wsV RX11 199 RX11 yX11_isAgreement wsX11_isAgreement) := goodIn_app (goodIn_sub (mmC (mmI il_X11_owed_1 0 rfl) (mmC (mmI il_X11_owed_1 1 rfl) (mmC (mmI il_X11_owed_1 2 rfl) (mmC (mmI il_X11_owed_1 3 rfl) mmN)))) (by decide +kernel)) ggX11_owed_X11_isAgreement
set_option maxRecDepth 100000 in
theorem ggX11_owed_X11_wrongTimes : GoodIn wsX11_owed wsX11_wrongTimes := goodIn_sub (mmC (mmI il_X11_owed_1 12 rfl) (mmA (mmC (mmI il_X11_owed_1 13 rfl) mmN) il_X11_owed_8)) gw_X11_wrongTimes
theorem gX11_owed_X11_wrongTimes : GoodIn wsX11_owed (wsV RX11 300 RX11 yX11_wrongTimes wsX11_wrongTimes) := goodIn_app (goodIn_sub (mmC (mmI il_X11_owed_1 9 rfl) (mmC (mmI il_X11_owed_1 10 rfl) (mmC (mmI il_X11_owed_1 11 rfl) (mmC (mmI il_X11_owed_1 3 rfl) mmN)))) (by decide +kernel)) ggX11_owed_X11_wrongTimes
set_option maxRecDepth 100000 in
theorem ggX11_owed_X11_refuseFar : GoodIn wsX11_owed wsX11_refuseFar := goodIn_sub (mmC (mmI il_X11_owed_1 17 rfl) (mmA (mmC (mmI il_X11_owed_1 18 rfl) (mmC (mmI il_X11_owed_1 19 rfl) (mmC (mmI il_X11_owed_1 20 rfl) (mmC (mmI il_X11_owed_1 21 rfl) (mmC (mmI il_X11_owed_1 3 rfl) (mmC (mmI il_X11_owed_1 22 rfl) (mmC (mmI il_X11_owed_1 23 rfl) mmN))))))) il_X11_owed_8)) gw_X11_refuseFar
theorem gX11_owed_X11_refuseFar : GoodIn wsX11_owed (wsV RX11 320 RX11 yX11_refuseFar wsX11_refuseFar) := goodIn_app (goodIn_sub (mmC (mmI il_X11_owed_1 14 rfl) (mmC (mmI il_X11_owed_1 15 rfl) (mmC (mmI il_X11_owed_1 16 rfl) (mmC (mmI il_X11_owed_1 3 rfl) mmN)))) (by decide +kernel)) ggX11_owed_X11_refuseFar
set_option maxRecDepth 100000 in
theorem ggX11_owed_X11_owedOf : GoodIn wsX11_owed wsX11_owedOf := goodIn_sub (mmC (mmI il_X11_owed_2 3 rfl) (mmA (mmA (mmC (mmI il_X11_owed_2 4 rfl) (mmC (mmI il_X11_owed_2 5 rfl) (mmC (mmI il_X11_owed_2 6 rfl) (mmC (mmI il_X11_owed_2 7 rfl) (mmC (mmI il_X11_owed_2 8 rfl) (mmC (mmI il_X11_owed_2 9 rfl) (mmC (mmI il_X11_owed_2 10 rfl) (mmC (mmI il_X11_owed_2 11 rfl) (mmC (mmI il_X11_owed_2 12 rfl) (mmC (mmI il_X11_owed_2 13 rfl) (mmC (mmI il_X11_owed_2 14 rfl) (mmC (mmI il_X11_owed_2 15 rfl) (mmC (mmI il_X11_owed_2 16 rfl) (mmC (mmI il_X11_owed_2 17 rfl) (mmC (mmI il_X11_owed_2 18 rfl) (mmC (mmI il_X11_owed_2 19 rfl) (mmC (mmI il_X11_owed_1 3 rfl) (mmC (mmI il_X11_owed_2 20 rfl) (mmC (mmI il_X11_owed_2 21 rfl) (mmC (mmI il_X11_owed_2 22 rfl) (mmC (mmI il_X11_owed_2 23 rfl) (mmC (mmI il_X11_owed_3 0 rfl) (mmC (mmI il_X11_owed_3 1 rfl) (mmC (mmI il_X11_owed_3 2 rfl) mmN)))))))))))))))))))))))) (mmA (mmC (mmI il_X11_owed_3 3 rfl) (mmC (mmI il_X11_owed_3 4 rfl) (mmC (mmI il_X11_owed_3 5 rfl) (mmC (mmI il_X11_owed_3 6 rfl) (mmC (mmI il_X11_owed_3 7 rfl) (mmC (mmI il_X11_owed_3 8 rfl) (mmC (mmI il_X11_owed_3 9 rfl) (mmC (mmI il_X11_owed_3 10 rfl) (mmC (mmI il_X11_owed_3 11 rfl) (mmC (mmI il_X11_owed_3 12 rfl) (mmC (mmI il_X11_owed_3 13 rfl) (mmC (mmI il_X11_owed_3 14 rfl) (mmC (mmI il_X11_owed_3 15 rfl) (mmC (mmI il_X11_owed_3 16 rfl) (mmC (mmI il_X11_owed_3 17 rfl) (mmC (mmI il_X11_owed_3 18 rfl) (mmC (mmI il_X11_owed_3 19 rfl) (mmC (mmI il_X11_owed_3 20 rfl) (mmC (mmI il_X11_owed_3 21 rfl) (mmC (mmI il_X11_owed_3 22 rfl) (mmC (mmI il_X11_owed_3 23 rfl) (mmC (mmI il_X11_owed_4 0 rfl) (mmC (mmI il_X11_owed_4 1 rfl) (mmC (mmI il_X11_owed_4 2 rfl) mmN)))))))))))))))))))))))) (mmA (mmC (mmI il_X11_owed_4 3 rfl) (mmC (mmI il_X11_owed_4 4 rfl) (mmC (mmI il_X11_owed_4 5 rfl) (mmC (mmI il_X11_owed_4 6 rfl) (mmC (mmI il_X11_owed_4 7 rfl) (mmC (mmI il_X11_owed_4 8 rfl) (mmC (mmI il_X11_owed_4 9 rfl) (mmC (mmI il_X11_owed_4 10 rfl) (mmC (mmI il_X11_owed_4 11 rfl) (mmC (mmI il_X11_owed_4 12 rfl) (mmC (mmI il_X11_owed_4 13 rfl) (mmC (mmI il_X11_owed_4 14 rfl) (mmC (mmI il_X11_owed_4 15 rfl) (mmC (mmI il_X11_owed_4 16 rfl) (mmC (mmI il_X11_owed_4 17 rfl) (mmC (mmI il_X11_owed_4 18 rfl) (mmC (mmI il_X11_owed_4 19 rfl) (mmC (mmI il_X11_owed_4 20 rfl) (mmC (mmI il_X11_owed_4 21 rfl) (mmC (mmI il_X11_owed_4 22 rfl) (mmC (mmI il_X11_owed_4 23 rfl) (mmC (mmI il_X11_owed_5 0 rfl) (mmC (mmI il_X11_owed_5 1 rfl) (mmC (mmI il_X11_owed_5 2 rfl) mmN)))))))))))))))))))))))) (mmA (mmC (mmI il_X11_owed_5 3 rfl) (mmC (mmI il_X11_owed_5 4 rfl) (mmC (mmI il_X11_owed_5 5 rfl) (mmC (mmI il_X11_owed_5 6 rfl) (mmC (mmI il_X11_owed_5 7 rfl) (mmC (mmI il_X11_owed_5 8 rfl) (mmC (mmI il_X11_owed_5 9 rfl) (mmC (mmI il_X11_owed_5 10 rfl) (mmC (mmI il_X11_owed_5 11 rfl) (mmC (mmI il_X11_owed_5 12 rfl) (mmC (mmI il_X11_owed_5 13 rfl) (mmC (mmI il_X11_owed_5 14 rfl) (mmC (mmI il_X11_owed_5 15 rfl) (mmC (mmI il_X11_owed_5 16 rfl) (mmC (mmI il_X11_owed_5 17 rfl) (mmC (mmI il_X11_owed_5 18 rfl) (mmC (mmI il_X11_owed_5 19 rfl) (mmC (mmI il_X11_owed_5 20 rfl) (mmC (mmI il_X11_owed_5 21 rfl) (mmC (mmI il_X11_owed_5 22 rfl) (mmC (mmI il_X11_owed_5 23 rfl) (mmC (mmI il_X11_owed_6 0 rfl) (mmC (mmI il_X11_owed_6 1 rfl) (mmC (mmI il_X11_owed_6 2 rfl) mmN)))))))))))))))))))))))) (mmA (mmC (mmI il_X11_owed_6 3 rfl) (mmC (mmI il_X11_owed_6 4 rfl) (mmC (mmI il_X11_owed_6 5 rfl) (mmC (mmI il_X11_owed_6 6 rfl) (mmC (mmI il_X11_owed_6 7 rfl) (mmC (mmI il_X11_owed_6 8 rfl) (mmC (mmI il_X11_owed_6 9 rfl) (mmC (mmI il_X11_owed_6 10 rfl) (mmC (mmI il_X11_owed_6 11 rfl) (mmC (mmI il_X11_owed_6 12 rfl) (mmC (mmI il_X11_owed_6 13 rfl) (mmC (mmI il_X11_owed_6 14 rfl) (mmC (mmI il_X11_owed_6 15 rfl) (mmC (mmI il_X11_owed_6 16 rfl) (mmC (mmI il_X11_owed_6 17 rfl) (mmC (mmI il_X11_owed_6 18 rfl) (mmC (mmI il_X11_owed_1 6 rfl) (mmC (mmI il_X11_owed_1 7 rfl) (mmC (mmI il_X11_owed_1 8 rfl) (mmC (mmI il_X11_owed_6 19 rfl) (mmC (mmI il_X11_owed_6 20 rfl) (mmC (mmI il_X11_owed_6 21 rfl) (mmC (mmI il_X11_owed_6 22 rfl) (mmC (mmI il_X11_owed_6 23 rfl) mmN)))))))))))))))))))))))) (mmC (mmI il_X11_owed_7 0 rfl) (mmC (mmI il_X11_owed_7 1 rfl) (mmC (mmI il_X11_owed_7 2 rfl) (mmC (mmI il_X11_owed_7 3 rfl) (mmC (mmI il_X11_owed_7 4 rfl) (mmC (mmI il_X11_owed_7 5 rfl) (mmC (mmI il_X11_owed_7 6 rfl) (mmC (mmI il_X11_owed_7 7 rfl) (mmC (mmI il_X11_owed_7 8 rfl) (mmC (mmI il_X11_owed_7 9 rfl) (mmC (mmI il_X11_owed_7 10 rfl) (mmC (mmI il_X11_owed_7 11 rfl) (mmC (mmI il_X11_owed_1 5 rfl) mmN)))))))))))))))))) il_X11_owed_8)) gw_X11_owedOf
theorem gX11_owed_X11_owedOf : GoodIn wsX11_owed (wsV RX11 323 RX11 yX11_owedOf wsX11_owedOf) := goodIn_app (goodIn_sub (mmC (mmI il_X11_owed_2 0 rfl) (mmC (mmI il_X11_owed_2 1 rfl) (mmC (mmI il_X11_owed_2 2 rfl) (mmC (mmI il_X11_owed_1 3 rfl) mmN)))) (by decide +kernel)) ggX11_owed_X11_owedOf
theorem dX11_owed_0 : decode cX11_owed 0 = .ok (.aload_n 0, 1) := by decide +kernel
theorem dX11_owed_1 : decode cX11_owed 1 = .ok (.iload_n 1, 1) := by decide +kernel
theorem dX11_owed_2 : decode cX11_owed 2 = .ok (.invokevirtual 199, 3) := by decide +kernel
theorem dX11_owed_5 : decode cX11_owed 5 = .ok (.ifCond .eq 12, 3) := by decide +kernel
theorem dX11_owed_8 : decode cX11_owed 8 = .ok (.aload_n 0, 1) := by decide +kernel
theorem dX11_owed_9 : decode cX11_owed 9 = .ok (.iload_n 2, 1) := by decide +kernel
theorem dX11_owed_10 : decode cX11_owed 10 = .ok (.iload_n 3, 1) := by decide +kernel
theorem dX11_owed_11 : decode cX11_owed 11 = .ok (.invokevirtual 300, 3) := by decide +kernel
theorem dX11_owed_14 : decode cX11_owed 14 = .ok (.goto 4, 3) := by decide +kernel
theorem dX11_owed_17 : decode cX11_owed 17 = .ok (.iconst (-1), 1) := by decide +kernel
theorem dX11_owed_18 : decode cX11_owed 18 = .ok (.istore 4, 2) := by decide +kernel
theorem dX11_owed_20 : decode cX11_owed 20 = .ok (.iload 4, 2) := by decide +kernel
theorem dX11_owed_22 : decode cX11_owed 22 = .ok (.ifCond .eq 12, 3) := by decide +kernel
theorem dX11_owed_25 : decode cX11_owed 25 = .ok (.aload_n 0, 1) := by decide +kernel
theorem dX11_owed_26 : decode cX11_owed 26 = .ok (.iload 4, 2) := by decide +kernel
theorem dX11_owed_28 : decode cX11_owed 28 = .ok (.invokevirtual 320, 3) := by decide +kernel
theorem dX11_owed_31 : decode cX11_owed 31 = .ok (.goto 10, 3) := by decide +kernel
theorem dX11_owed_34 : decode cX11_owed 34 = .ok (.aload_n 0, 1) := by decide +kernel
theorem dX11_owed_35 : decode cX11_owed 35 = .ok (.iload_n 1, 1) := by decide +kernel
theorem dX11_owed_36 : decode cX11_owed 36 = .ok (.iload_n 2, 1) := by decide +kernel
theorem dX11_owed_37 : decode cX11_owed 37 = .ok (.iload_n 3, 1) := by decide +kernel
theorem dX11_owed_38 : decode cX11_owed 38 = .ok (.invokevirtual 323, 3) := by decide +kernel
theorem dX11_owed_41 : decode cX11_owed 41 = .ok (.ireturn, 1) := by decide +kernel
set_option maxRecDepth 100000 in
theorem ggX11_agreementOf_X11_isAgreement : GoodIn wsX11_agreementOf wsX11_isAgreement := goodIn_sub (mmC (mmI il_X11_agreementOf_1 13 rfl) (mmA (mmC (mmI il_X11_agreementOf_1 14 rfl) (mmC (mmI il_X11_agreementOf_1 15 rfl) (mmC (mmI il_X11_agreementOf_1 16 rfl) (mmC (mmI il_X11_agreementOf_1 12 rfl) (mmC (mmI il_X11_agreementOf_1 17 rfl) mmN))))) il_X11_agreementOf_3)) gw_X11_isAgreement
theorem gX11_agreementOf_X11_isAgreement : GoodIn wsX11_agreementOf (wsV RX11 199 RX11 yX11_isAgreement wsX11_isAgreement) := goodIn_app (goodIn_sub (mmC (mmI il_X11_agreementOf_1 9 rfl) (mmC (mmI il_X11_agreementOf_1 10 rfl) (mmC (mmI il_X11_agreementOf_1 11 rfl) (mmC (mmI il_X11_agreementOf_1 12 rfl) mmN)))) (by decide +kernel)) ggX11_agreementOf_X11_isAgreement
set_option maxRecDepth 100000 in
theorem ggX11_agreementOf_X11_refuse : GoodIn wsX11_agreementOf wsX11_refuse := goodIn_sub (mmC (mmI il_X11_agreementOf_1 21 rfl) (mmA (mmC (mmI il_X11_agreementOf_1 22 rfl) mmN) il_X11_agreementOf_3)) gw_X11_refuse
theorem gX11_agreementOf_X11_refuse : GoodIn wsX11_agreementOf (wsV RX11 153 RX11 yX11_refuse wsX11_refuse) := goodIn_app (goodIn_sub (mmC (mmI il_X11_agreementOf_1 18 rfl) (mmC (mmI il_X11_agreementOf_1 19 rfl) (mmC (mmI il_X11_agreementOf_1 20 rfl) (mmC (mmI il_X11_agreementOf_1 12 rfl) mmN)))) (by decide +kernel)) ggX11_agreementOf_X11_refuse
set_option maxRecDepth 100000 in
theorem ggX11_agreementOf_X11_goesOn : GoodIn wsX11_agreementOf wsX11_goesOn := goodIn_sub (mmC (mmI il_X11_agreementOf_2 2 rfl) (mmA (mmC (mmI il_X11_agreementOf_1 5 rfl) (mmC (mmI il_X11_agreementOf_1 1 rfl) (mmC (mmI il_X11_agreementOf_2 3 rfl) (mmC (mmI il_X11_agreementOf_2 4 rfl) (mmC (mmI il_X11_agreementOf_2 5 rfl) (mmC (mmI il_X11_agreementOf_1 12 rfl) (mmC (mmI il_X11_agreementOf_2 6 rfl) (mmC (mmI il_X11_agreementOf_2 7 rfl) (mmC (mmI il_X11_agreementOf_2 8 rfl) (mmC (mmI il_X11_agreementOf_2 9 rfl) mmN)))))))))) il_X11_agreementOf_3)) gw_X11_goesOn
theorem gX11_agreementOf_X11_goesOn : GoodIn wsX11_agreementOf (wsV RX11 188 RX11 yX11_goesOn wsX11_goesOn) := goodIn_app (goodIn_sub (mmC (mmI il_X11_agreementOf_1 23 rfl) (mmC (mmI il_X11_agreementOf_2 0 rfl) (mmC (mmI il_X11_agreementOf_2 1 rfl) (mmC (mmI il_X11_agreementOf_1 12 rfl) mmN)))) (by decide +kernel)) ggX11_agreementOf_X11_goesOn
theorem dX11_agreementOf_0 : decode cX11_agreementOf 0 = .ok (.aload_n 0, 1) := by decide +kernel
theorem dX11_agreementOf_1 : decode cX11_agreementOf 1 = .ok (.iload_n 1, 1) := by decide +kernel
theorem dX11_agreementOf_2 : decode cX11_agreementOf 2 = .ok (.invokevirtual 199, 3) := by decide +kernel
theorem dX11_agreementOf_5 : decode cX11_agreementOf 5 = .ok (.ifCond .ne 9, 3) := by decide +kernel
theorem dX11_agreementOf_8 : decode cX11_agreementOf 8 = .ok (.aload_n 0, 1) := by decide +kernel
theorem dX11_agreementOf_9 : decode cX11_agreementOf 9 = .ok (.iconst (-1), 1) := by decide +kernel
theorem dX11_agreementOf_10 : decode cX11_agreementOf 10 = .ok (.invokevirtual 153, 3) := by decide +kernel
theorem dX11_agreementOf_13 : decode cX11_agreementOf 13 = .ok (.ireturn, 1) := by decide +kernel
theorem dX11_agreementOf_14 : decode cX11_agreementOf 14 = .ok (.iload_n 2, 1) := by decide +kernel
theorem dX11_agreementOf_15 : decode cX11_agreementOf 15 = .ok (.tableswitch 144 0 9 #[53, 60, 67, 74, 81, 88, 109, 116, 123, 130], 53) := by decide +kernel
theorem dX11_agreementOf_68 : decode cX11_agreementOf 68 = .ok (.aload_n 0, 1) := by decide +kernel
theorem dX11_agreementOf_69 : decode cX11_agreementOf 69 = .ok (.getfield 70, 3) := by decide +kernel
theorem dX11_agreementOf_72 : decode cX11_agreementOf 72 = .ok (.iload_n 1, 1) := by decide +kernel
theorem dX11_agreementOf_73 : decode cX11_agreementOf 73 = .ok (.iaload, 1) := by decide +kernel
theorem dX11_agreementOf_74 : decode cX11_agreementOf 74 = .ok (.ireturn, 1) := by decide +kernel
theorem dX11_agreementOf_75 : decode cX11_agreementOf 75 = .ok (.aload_n 0, 1) := by decide +kernel
theorem dX11_agreementOf_76 : decode cX11_agreementOf 76 = .ok (.getfield 73, 3) := by decide +kernel
theorem dX11_agreementOf_79 : decode cX11_agreementOf 79 = .ok (.iload_n 1, 1) := by decide +kernel
theorem dX11_agreementOf_80 : decode cX11_agreementOf 80 = .ok (.iaload, 1) := by decide +kernel
theorem dX11_agreementOf_81 : decode cX11_agreementOf 81 = .ok (.ireturn, 1) := by decide +kernel
theorem dX11_agreementOf_82 : decode cX11_agreementOf 82 = .ok (.aload_n 0, 1) := by decide +kernel
theorem dX11_agreementOf_83 : decode cX11_agreementOf 83 = .ok (.getfield 76, 3) := by decide +kernel
theorem dX11_agreementOf_86 : decode cX11_agreementOf 86 = .ok (.iload_n 1, 1) := by decide +kernel
theorem dX11_agreementOf_87 : decode cX11_agreementOf 87 = .ok (.iaload, 1) := by decide +kernel
theorem dX11_agreementOf_88 : decode cX11_agreementOf 88 = .ok (.ireturn, 1) := by decide +kernel
theorem dX11_agreementOf_89 : decode cX11_agreementOf 89 = .ok (.aload_n 0, 1) := by decide +kernel
theorem dX11_agreementOf_90 : decode cX11_agreementOf 90 = .ok (.getfield 79, 3) := by decide +kernel
theorem dX11_agreementOf_93 : decode cX11_agreementOf 93 = .ok (.iload_n 1, 1) := by decide +kernel
theorem dX11_agreementOf_94 : decode cX11_agreementOf 94 = .ok (.iaload, 1) := by decide +kernel
theorem dX11_agreementOf_95 : decode cX11_agreementOf 95 = .ok (.ireturn, 1) := by decide +kernel
theorem dX11_agreementOf_96 : decode cX11_agreementOf 96 = .ok (.aload_n 0, 1) := by decide +kernel
theorem dX11_agreementOf_97 : decode cX11_agreementOf 97 = .ok (.getfield 85, 3) := by decide +kernel
theorem dX11_agreementOf_100 : decode cX11_agreementOf 100 = .ok (.iload_n 1, 1) := by decide +kernel
theorem dX11_agreementOf_101 : decode cX11_agreementOf 101 = .ok (.iaload, 1) := by decide +kernel
theorem dX11_agreementOf_102 : decode cX11_agreementOf 102 = .ok (.ireturn, 1) := by decide +kernel
theorem dX11_agreementOf_103 : decode cX11_agreementOf 103 = .ok (.aload_n 0, 1) := by decide +kernel
theorem dX11_agreementOf_104 : decode cX11_agreementOf 104 = .ok (.getfield 88, 3) := by decide +kernel
theorem dX11_agreementOf_107 : decode cX11_agreementOf 107 = .ok (.iload_n 1, 1) := by decide +kernel
theorem dX11_agreementOf_108 : decode cX11_agreementOf 108 = .ok (.iaload, 1) := by decide +kernel
theorem dX11_agreementOf_109 : decode cX11_agreementOf 109 = .ok (.ifCond .ge 8, 3) := by decide +kernel
theorem dX11_agreementOf_112 : decode cX11_agreementOf 112 = .ok (.bipush (-9), 2) := by decide +kernel
theorem dX11_agreementOf_114 : decode cX11_agreementOf 114 = .ok (.goto 9, 3) := by decide +kernel
theorem dX11_agreementOf_117 : decode cX11_agreementOf 117 = .ok (.aload_n 0, 1) := by decide +kernel
theorem dX11_agreementOf_118 : decode cX11_agreementOf 118 = .ok (.getfield 88, 3) := by decide +kernel
theorem dX11_agreementOf_121 : decode cX11_agreementOf 121 = .ok (.iload_n 1, 1) := by decide +kernel
theorem dX11_agreementOf_122 : decode cX11_agreementOf 122 = .ok (.iaload, 1) := by decide +kernel
theorem dX11_agreementOf_123 : decode cX11_agreementOf 123 = .ok (.ireturn, 1) := by decide +kernel
theorem dX11_agreementOf_124 : decode cX11_agreementOf 124 = .ok (.aload_n 0, 1) := by decide +kernel
theorem dX11_agreementOf_125 : decode cX11_agreementOf 125 = .ok (.getfield 91, 3) := by decide +kernel
theorem dX11_agreementOf_128 : decode cX11_agreementOf 128 = .ok (.iload_n 1, 1) := by decide +kernel
theorem dX11_agreementOf_129 : decode cX11_agreementOf 129 = .ok (.iaload, 1) := by decide +kernel
theorem dX11_agreementOf_130 : decode cX11_agreementOf 130 = .ok (.ireturn, 1) := by decide +kernel
theorem dX11_agreementOf_131 : decode cX11_agreementOf 131 = .ok (.aload_n 0, 1) := by decide +kernel
theorem dX11_agreementOf_132 : decode cX11_agreementOf 132 = .ok (.getfield 94, 3) := by decide +kernel
theorem dX11_agreementOf_135 : decode cX11_agreementOf 135 = .ok (.iload_n 1, 1) := by decide +kernel
theorem dX11_agreementOf_136 : decode cX11_agreementOf 136 = .ok (.iaload, 1) := by decide +kernel
theorem dX11_agreementOf_137 : decode cX11_agreementOf 137 = .ok (.ireturn, 1) := by decide +kernel
theorem dX11_agreementOf_138 : decode cX11_agreementOf 138 = .ok (.aload_n 0, 1) := by decide +kernel
theorem dX11_agreementOf_139 : decode cX11_agreementOf 139 = .ok (.getfield 97, 3) := by decide +kernel
theorem dX11_agreementOf_142 : decode cX11_agreementOf 142 = .ok (.iload_n 1, 1) := by decide +kernel
theorem dX11_agreementOf_143 : decode cX11_agreementOf 143 = .ok (.iaload, 1) := by decide +kernel
theorem dX11_agreementOf_144 : decode cX11_agreementOf 144 = .ok (.ireturn, 1) := by decide +kernel
theorem dX11_agreementOf_145 : decode cX11_agreementOf 145 = .ok (.aload_n 0, 1) := by decide +kernel
theorem dX11_agreementOf_146 : decode cX11_agreementOf 146 = .ok (.iload_n 1, 1) := by decide +kernel
theorem dX11_agreementOf_147 : decode cX11_agreementOf 147 = .ok (.invokevirtual 188, 3) := by decide +kernel
theorem dX11_agreementOf_150 : decode cX11_agreementOf 150 = .ok (.ifCond .eq 7, 3) := by decide +kernel
theorem dX11_agreementOf_153 : decode cX11_agreementOf 153 = .ok (.iconst 1, 1) := by decide +kernel
theorem dX11_agreementOf_154 : decode cX11_agreementOf 154 = .ok (.goto 4, 3) := by decide +kernel
theorem dX11_agreementOf_157 : decode cX11_agreementOf 157 = .ok (.iconst 0, 1) := by decide +kernel
theorem dX11_agreementOf_158 : decode cX11_agreementOf 158 = .ok (.ireturn, 1) := by decide +kernel
theorem dX11_agreementOf_159 : decode cX11_agreementOf 159 = .ok (.aload_n 0, 1) := by decide +kernel
theorem dX11_agreementOf_160 : decode cX11_agreementOf 160 = .ok (.bipush (-2), 2) := by decide +kernel
theorem dX11_agreementOf_162 : decode cX11_agreementOf 162 = .ok (.invokevirtual 153, 3) := by decide +kernel
theorem dX11_agreementOf_165 : decode cX11_agreementOf 165 = .ok (.ireturn, 1) := by decide +kernel
set_option maxRecDepth 100000 in
theorem ggX11_check_X11_isVoyage : GoodIn wsX11_check wsX11_isVoyage := goodIn_sub (mmC (mmI il_X11_check_1 8 rfl) (mmA (mmC (mmI il_X11_check_1 9 rfl) (mmC (mmI il_X11_check_1 10 rfl) (mmC (mmI il_X11_check_1 11 rfl) (mmC (mmI il_X11_check_1 7 rfl) (mmC (mmI il_X11_check_1 12 rfl) mmN))))) il_X11_check_8)) gw_X11_isVoyage
theorem gX11_check_X11_isVoyage : GoodIn wsX11_check (wsV RX11 185 RX11 yX11_isVoyage wsX11_isVoyage) := goodIn_app (goodIn_sub (mmC (mmI il_X11_check_1 4 rfl) (mmC (mmI il_X11_check_1 5 rfl) (mmC (mmI il_X11_check_1 6 rfl) (mmC (mmI il_X11_check_1 7 rfl) mmN)))) (by decide +kernel)) ggX11_check_X11_isVoyage
set_option maxRecDepth 100000 in
theorem ggX11_check_X11_wrongTimes : GoodIn wsX11_check wsX11_wrongTimes := goodIn_sub (mmC (mmI il_X11_check_1 16 rfl) (mmA (mmC (mmI il_X11_check_1 17 rfl) mmN) il_X11_check_8)) gw_X11_wrongTimes
theorem gX11_check_X11_wrongTimes : GoodIn wsX11_check (wsV RX11 300 RX11 yX11_wrongTimes wsX11_wrongTimes) := goodIn_app (goodIn_sub (mmC (mmI il_X11_check_1 13 rfl) (mmC (mmI il_X11_check_1 14 rfl) (mmC (mmI il_X11_check_1 15 rfl) (mmC (mmI il_X11_check_1 7 rfl) mmN)))) (by decide +kernel)) ggX11_check_X11_wrongTimes
set_option maxRecDepth 100000 in
theorem ggX11_check_X11_refuse : GoodIn wsX11_check wsX11_refuse := goodIn_sub (mmC (mmI il_X11_check_1 21 rfl) (mmA (mmC (mmI il_X11_check_1 22 rfl) mmN) il_X11_check_8)) gw_X11_refuse
theorem gX11_check_X11_refuse : GoodIn wsX11_check (wsV RX11 153 RX11 yX11_refuse wsX11_refuse) := goodIn_app (goodIn_sub (mmC (mmI il_X11_check_1 18 rfl) (mmC (mmI il_X11_check_1 19 rfl) (mmC (mmI il_X11_check_1 20 rfl) (mmC (mmI il_X11_check_1 7 rfl) mmN)))) (by decide +kernel)) ggX11_check_X11_refuse
set_option maxRecDepth 100000 in
theorem ggX11_check_X11_owedOf : GoodIn wsX11_check wsX11_owedOf := goodIn_sub (mmC (mmI il_X11_check_2 2 rfl) (mmA (mmA (mmC (mmI il_X11_check_2 3 rfl) (mmC (mmI il_X11_check_2 4 rfl) (mmC (mmI il_X11_check_2 5 rfl) (mmC (mmI il_X11_check_1 2 rfl) (mmC (mmI il_X11_check_2 6 rfl) (mmC (mmI il_X11_check_2 7 rfl) (mmC (mmI il_X11_check_2 8 rfl) (mmC (mmI il_X11_check_2 9 rfl) (mmC (mmI il_X11_check_2 10 rfl) (mmC (mmI il_X11_check_2 11 rfl) (mmC (mmI il_X11_check_2 12 rfl) (mmC (mmI il_X11_check_2 13 rfl) (mmC (mmI il_X11_check_2 14 rfl) (mmC (mmI il_X11_check_2 15 rfl) (mmC (mmI il_X11_check_2 16 rfl) (mmC (mmI il_X11_check_2 17 rfl) (mmC (mmI il_X11_check_1 7 rfl) (mmC (mmI il_X11_check_2 18 rfl) (mmC (mmI il_X11_check_2 19 rfl) (mmC (mmI il_X11_check_2 20 rfl) (mmC (mmI il_X11_check_2 21 rfl) (mmC (mmI il_X11_check_2 22 rfl) (mmC (mmI il_X11_check_2 23 rfl) (mmC (mmI il_X11_check_3 0 rfl) mmN)))))))))))))))))))))))) (mmA (mmC (mmI il_X11_check_3 1 rfl) (mmC (mmI il_X11_check_3 2 rfl) (mmC (mmI il_X11_check_3 3 rfl) (mmC (mmI il_X11_check_3 4 rfl) (mmC (mmI il_X11_check_3 5 rfl) (mmC (mmI il_X11_check_3 6 rfl) (mmC (mmI il_X11_check_3 7 rfl) (mmC (mmI il_X11_check_3 8 rfl) (mmC (mmI il_X11_check_3 9 rfl) (mmC (mmI il_X11_check_3 10 rfl) (mmC (mmI il_X11_check_3 11 rfl) (mmC (mmI il_X11_check_3 12 rfl) (mmC (mmI il_X11_check_3 13 rfl) (mmC (mmI il_X11_check_3 14 rfl) (mmC (mmI il_X11_check_3 15 rfl) (mmC (mmI il_X11_check_3 16 rfl) (mmC (mmI il_X11_check_3 17 rfl) (mmC (mmI il_X11_check_3 18 rfl) (mmC (mmI il_X11_check_3 19 rfl) (mmC (mmI il_X11_check_3 20 rfl) (mmC (mmI il_X11_check_3 21 rfl) (mmC (mmI il_X11_check_3 22 rfl) (mmC (mmI il_X11_check_3 23 rfl) (mmC (mmI il_X11_check_4 0 rfl) mmN)))))))))))))))))))))))) (mmA (mmC (mmI il_X11_check_4 1 rfl) (mmC (mmI il_X11_check_4 2 rfl) (mmC (mmI il_X11_check_4 3 rfl) (mmC (mmI il_X11_check_4 4 rfl) (mmC (mmI il_X11_check_4 5 rfl) (mmC (mmI il_X11_check_4 6 rfl) (mmC (mmI il_X11_check_4 7 rfl) (mmC (mmI il_X11_check_4 8 rfl) (mmC (mmI il_X11_check_4 9 rfl) (mmC (mmI il_X11_check_4 10 rfl) (mmC (mmI il_X11_check_4 11 rfl) (mmC (mmI il_X11_check_4 12 rfl) (mmC (mmI il_X11_check_4 13 rfl) (mmC (mmI il_X11_check_4 14 rfl) (mmC (mmI il_X11_check_4 15 rfl) (mmC (mmI il_X11_check_4 16 rfl) (mmC (mmI il_X11_check_4 17 rfl) (mmC (mmI il_X11_check_4 18 rfl) (mmC (mmI il_X11_check_4 19 rfl) (mmC (mmI il_X11_check_4 20 rfl) (mmC (mmI il_X11_check_4 21 rfl) (mmC (mmI il_X11_check_4 22 rfl) (mmC (mmI il_X11_check_4 23 rfl) (mmC (mmI il_X11_check_5 0 rfl) mmN)))))))))))))))))))))))) (mmA (mmC (mmI il_X11_check_5 1 rfl) (mmC (mmI il_X11_check_5 2 rfl) (mmC (mmI il_X11_check_5 3 rfl) (mmC (mmI il_X11_check_5 4 rfl) (mmC (mmI il_X11_check_5 5 rfl) (mmC (mmI il_X11_check_5 6 rfl) (mmC (mmI il_X11_check_5 7 rfl) (mmC (mmI il_X11_check_5 8 rfl) (mmC (mmI il_X11_check_5 9 rfl) (mmC (mmI il_X11_check_5 10 rfl) (mmC (mmI il_X11_check_5 11 rfl) (mmC (mmI il_X11_check_5 12 rfl) (mmC (mmI il_X11_check_5 13 rfl) (mmC (mmI il_X11_check_5 14 rfl) (mmC (mmI il_X11_check_5 15 rfl) (mmC (mmI il_X11_check_5 16 rfl) (mmC (mmI il_X11_check_5 17 rfl) (mmC (mmI il_X11_check_5 18 rfl) (mmC (mmI il_X11_check_5 19 rfl) (mmC (mmI il_X11_check_5 20 rfl) (mmC (mmI il_X11_check_5 21 rfl) (mmC (mmI il_X11_check_5 22 rfl) (mmC (mmI il_X11_check_5 23 rfl) (mmC (mmI il_X11_check_6 0 rfl) mmN)))))))))))))))))))))))) (mmA (mmC (mmI il_X11_check_6 1 rfl) (mmC (mmI il_X11_check_6 2 rfl) (mmC (mmI il_X11_check_6 3 rfl) (mmC (mmI il_X11_check_6 4 rfl) (mmC (mmI il_X11_check_6 5 rfl) (mmC (mmI il_X11_check_6 6 rfl) (mmC (mmI il_X11_check_6 7 rfl) (mmC (mmI il_X11_check_6 8 rfl) (mmC (mmI il_X11_check_6 9 rfl) (mmC (mmI il_X11_check_6 10 rfl) (mmC (mmI il_X11_check_6 11 rfl) (mmC (mmI il_X11_check_6 12 rfl) (mmC (mmI il_X11_check_6 13 rfl) (mmC (mmI il_X11_check_6 14 rfl) (mmC (mmI il_X11_check_6 15 rfl) (mmC (mmI il_X11_check_6 16 rfl) (mmC (mmI il_X11_check_1 10 rfl) (mmC (mmI il_X11_check_1 11 rfl) (mmC (mmI il_X11_check_1 12 rfl) (mmC (mmI il_X11_check_6 17 rfl) (mmC (mmI il_X11_check_6 18 rfl) (mmC (mmI il_X11_check_6 19 rfl) (mmC (mmI il_X11_check_6 20 rfl) (mmC (mmI il_X11_check_6 21 rfl) mmN)))))))))))))))))))))))) (mmC (mmI il_X11_check_6 22 rfl) (mmC (mmI il_X11_check_6 23 rfl) (mmC (mmI il_X11_check_7 0 rfl) (mmC (mmI il_X11_check_7 1 rfl) (mmC (mmI il_X11_check_7 2 rfl) (mmC (mmI il_X11_check_7 3 rfl) (mmC (mmI il_X11_check_7 4 rfl) (mmC (mmI il_X11_check_7 5 rfl) (mmC (mmI il_X11_check_7 6 rfl) (mmC (mmI il_X11_check_7 7 rfl) (mmC (mmI il_X11_check_7 8 rfl) (mmC (mmI il_X11_check_7 9 rfl) (mmC (mmI il_X11_check_1 1 rfl) mmN)))))))))))))))))) il_X11_check_8)) gw_X11_owedOf
theorem gX11_check_X11_owedOf : GoodIn wsX11_check (wsV RX11 323 RX11 yX11_owedOf wsX11_owedOf) := goodIn_app (goodIn_sub (mmC (mmI il_X11_check_1 23 rfl) (mmC (mmI il_X11_check_2 0 rfl) (mmC (mmI il_X11_check_2 1 rfl) (mmC (mmI il_X11_check_1 7 rfl) mmN)))) (by decide +kernel)) ggX11_check_X11_owedOf
theorem dX11_check_0 : decode cX11_check 0 = .ok (.aload_n 0, 1) := by decide +kernel
theorem dX11_check_1 : decode cX11_check 1 = .ok (.iload_n 1, 1) := by decide +kernel
theorem dX11_check_2 : decode cX11_check 2 = .ok (.invokevirtual 185, 3) := by decide +kernel
theorem dX11_check_5 : decode cX11_check 5 = .ok (.ifCond .eq 12, 3) := by decide +kernel
theorem dX11_check_8 : decode cX11_check 8 = .ok (.aload_n 0, 1) := by decide +kernel
theorem dX11_check_9 : decode cX11_check 9 = .ok (.iload_n 2, 1) := by decide +kernel
theorem dX11_check_10 : decode cX11_check 10 = .ok (.iload_n 3, 1) := by decide +kernel
theorem dX11_check_11 : decode cX11_check 11 = .ok (.invokevirtual 300, 3) := by decide +kernel
theorem dX11_check_14 : decode cX11_check 14 = .ok (.goto 4, 3) := by decide +kernel
theorem dX11_check_17 : decode cX11_check 17 = .ok (.iconst (-1), 1) := by decide +kernel
theorem dX11_check_18 : decode cX11_check 18 = .ok (.istore 4, 2) := by decide +kernel
theorem dX11_check_20 : decode cX11_check 20 = .ok (.iload 4, 2) := by decide +kernel
theorem dX11_check_22 : decode cX11_check 22 = .ok (.ifCond .eq 10, 3) := by decide +kernel
theorem dX11_check_25 : decode cX11_check 25 = .ok (.aload_n 0, 1) := by decide +kernel
theorem dX11_check_26 : decode cX11_check 26 = .ok (.iload 4, 2) := by decide +kernel
theorem dX11_check_28 : decode cX11_check 28 = .ok (.invokevirtual 153, 3) := by decide +kernel
theorem dX11_check_31 : decode cX11_check 31 = .ok (.ireturn, 1) := by decide +kernel
theorem dX11_check_32 : decode cX11_check 32 = .ok (.aload_n 0, 1) := by decide +kernel
theorem dX11_check_33 : decode cX11_check 33 = .ok (.getfield 357, 3) := by decide +kernel
theorem dX11_check_36 : decode cX11_check 36 = .ok (.istore 5, 2) := by decide +kernel
theorem dX11_check_38 : decode cX11_check 38 = .ok (.aload_n 0, 1) := by decide +kernel
theorem dX11_check_39 : decode cX11_check 39 = .ok (.iconst 0, 1) := by decide +kernel
theorem dX11_check_40 : decode cX11_check 40 = .ok (.putfield 357, 3) := by decide +kernel
theorem dX11_check_43 : decode cX11_check 43 = .ok (.iconst 0, 1) := by decide +kernel
theorem dX11_check_44 : decode cX11_check 44 = .ok (.istore 6, 2) := by decide +kernel
theorem dX11_check_46 : decode cX11_check 46 = .ok (.iconst 0, 1) := by decide +kernel
theorem dX11_check_47 : decode cX11_check 47 = .ok (.istore 7, 2) := by decide +kernel
theorem dX11_check_49 : decode cX11_check 49 = .ok (.iload 7, 2) := by decide +kernel
theorem dX11_check_51 : decode cX11_check 51 = .ok (.aload_n 0, 1) := by decide +kernel
theorem dX11_check_52 : decode cX11_check 52 = .ok (.getfield 168, 3) := by decide +kernel
theorem dX11_check_55 : decode cX11_check 55 = .ok (.if_icmp .ge 54, 3) := by decide +kernel
theorem dX11_check_58 : decode cX11_check 58 = .ok (.aload_n 0, 1) := by decide +kernel
theorem dX11_check_59 : decode cX11_check 59 = .ok (.getfield 73, 3) := by decide +kernel
theorem dX11_check_62 : decode cX11_check 62 = .ok (.iload 7, 2) := by decide +kernel
theorem dX11_check_64 : decode cX11_check 64 = .ok (.iaload, 1) := by decide +kernel
theorem dX11_check_65 : decode cX11_check 65 = .ok (.iload_n 1, 1) := by decide +kernel
theorem dX11_check_66 : decode cX11_check 66 = .ok (.if_icmp .eq 6, 3) := by decide +kernel
theorem dX11_check_69 : decode cX11_check 69 = .ok (.goto 34, 3) := by decide +kernel
theorem dX11_check_72 : decode cX11_check 72 = .ok (.iload 6, 2) := by decide +kernel
theorem dX11_check_74 : decode cX11_check 74 = .ok (.iload 5, 2) := by decide +kernel
theorem dX11_check_76 : decode cX11_check 76 = .ok (.if_icmp .ge 21, 3) := by decide +kernel
theorem dX11_check_79 : decode cX11_check 79 = .ok (.aload_n 0, 1) := by decide +kernel
theorem dX11_check_80 : decode cX11_check 80 = .ok (.getfield 149, 3) := by decide +kernel
theorem dX11_check_83 : decode cX11_check 83 = .ok (.iload 6, 2) := by decide +kernel
theorem dX11_check_85 : decode cX11_check 85 = .ok (.iaload, 1) := by decide +kernel
theorem dX11_check_86 : decode cX11_check 86 = .ok (.aload_n 0, 1) := by decide +kernel
theorem dX11_check_87 : decode cX11_check 87 = .ok (.iload 7, 2) := by decide +kernel
theorem dX11_check_89 : decode cX11_check 89 = .ok (.iload_n 2, 1) := by decide +kernel
theorem dX11_check_90 : decode cX11_check 90 = .ok (.iload_n 3, 1) := by decide +kernel
theorem dX11_check_91 : decode cX11_check 91 = .ok (.invokevirtual 323, 3) := by decide +kernel
theorem dX11_check_94 : decode cX11_check 94 = .ok (.if_icmp .eq 6, 3) := by decide +kernel
theorem dX11_check_97 : decode cX11_check 97 = .ok (.iload 6, 2) := by decide +kernel
theorem dX11_check_99 : decode cX11_check 99 = .ok (.ireturn, 1) := by decide +kernel
theorem dX11_check_100 : decode cX11_check 100 = .ok (.iinc 6 1, 3) := by decide +kernel
theorem dX11_check_103 : decode cX11_check 103 = .ok (.iinc 7 1, 3) := by decide +kernel
theorem dX11_check_106 : decode cX11_check 106 = .ok (.goto (-57), 3) := by decide +kernel
theorem dX11_check_109 : decode cX11_check 109 = .ok (.iload 6, 2) := by decide +kernel
theorem dX11_check_111 : decode cX11_check 111 = .ok (.iload 5, 2) := by decide +kernel
theorem dX11_check_113 : decode cX11_check 113 = .ok (.if_icmp .ge 8, 3) := by decide +kernel
theorem dX11_check_116 : decode cX11_check 116 = .ok (.iload 6, 2) := by decide +kernel
theorem dX11_check_118 : decode cX11_check 118 = .ok (.goto 5, 3) := by decide +kernel
theorem dX11_check_121 : decode cX11_check 121 = .ok (.bipush (-9), 2) := by decide +kernel
theorem dX11_check_123 : decode cX11_check 123 = .ok (.ireturn, 1) := by decide +kernel
set_option maxRecDepth 100000 in
theorem ggX11_count_X11_goesOn : GoodIn wsX11_count wsX11_goesOn := goodIn_sub (mmC (mmI il_X11_count_1 14 rfl) (mmA (mmC (mmI il_X11_count_1 15 rfl) (mmC (mmI il_X11_count_1 16 rfl) (mmC (mmI il_X11_count_1 17 rfl) (mmC (mmI il_X11_count_1 18 rfl) (mmC (mmI il_X11_count_1 19 rfl) (mmC (mmI il_X11_count_1 13 rfl) (mmC (mmI il_X11_count_1 20 rfl) (mmC (mmI il_X11_count_1 6 rfl) (mmC (mmI il_X11_count_1 21 rfl) (mmC (mmI il_X11_count_1 22 rfl) mmN)))))))))) il_X11_count_3)) gw_X11_goesOn
theorem gX11_count_X11_goesOn : GoodIn wsX11_count (wsV RX11 188 RX11 yX11_goesOn wsX11_goesOn) := goodIn_app (goodIn_sub (mmC (mmI il_X11_count_1 10 rfl) (mmC (mmI il_X11_count_1 11 rfl) (mmC (mmI il_X11_count_1 12 rfl) (mmC (mmI il_X11_count_1 13 rfl) mmN)))) (by decide +kernel)) ggX11_count_X11_goesOn
set_option maxRecDepth 100000 in
theorem ggX11_count_X11_asksAny : GoodIn wsX11_count wsX11_asksAny := goodIn_sub (mmC (mmI il_X11_count_2 2 rfl) (mmA (mmC (mmI il_X11_count_2 3 rfl) mmN) il_X11_count_3)) gw_X11_asksAny
theorem gX11_count_X11_asksAny : GoodIn wsX11_count (wsV RX11 351 RX11 yX11_asksAny wsX11_asksAny) := goodIn_app (goodIn_sub (mmC (mmI il_X11_count_1 23 rfl) (mmC (mmI il_X11_count_2 0 rfl) (mmC (mmI il_X11_count_2 1 rfl) (mmC (mmI il_X11_count_1 13 rfl) mmN)))) (by decide +kernel)) ggX11_count_X11_asksAny
theorem dX11_count_0 : decode cX11_count 0 = .ok (.iload_n 1, 1) := by decide +kernel
theorem dX11_count_1 : decode cX11_count 1 = .ok (.bipush 10, 2) := by decide +kernel
theorem dX11_count_3 : decode cX11_count 3 = .ok (.if_icmp .le 19, 3) := by decide +kernel
theorem dX11_count_6 : decode cX11_count 6 = .ok (.iload_n 1, 1) := by decide +kernel
theorem dX11_count_7 : decode cX11_count 7 = .ok (.bipush 17, 2) := by decide +kernel
theorem dX11_count_9 : decode cX11_count 9 = .ok (.if_icmp .ge 13, 3) := by decide +kernel
theorem dX11_count_12 : decode cX11_count 12 = .ok (.aload_n 0, 1) := by decide +kernel
theorem dX11_count_13 : decode cX11_count 13 = .ok (.getfield 7, 3) := by decide +kernel
theorem dX11_count_16 : decode cX11_count 16 = .ok (.iload_n 1, 1) := by decide +kernel
theorem dX11_count_17 : decode cX11_count 17 = .ok (.bipush 10, 2) := by decide +kernel
theorem dX11_count_19 : decode cX11_count 19 = .ok (.isub, 1) := by decide +kernel
theorem dX11_count_20 : decode cX11_count 20 = .ok (.iaload, 1) := by decide +kernel
theorem dX11_count_21 : decode cX11_count 21 = .ok (.ireturn, 1) := by decide +kernel
theorem dX11_count_22 : decode cX11_count 22 = .ok (.iconst 0, 1) := by decide +kernel
theorem dX11_count_23 : decode cX11_count 23 = .ok (.istore_n 2, 1) := by decide +kernel
theorem dX11_count_24 : decode cX11_count 24 = .ok (.iload_n 1, 1) := by decide +kernel
theorem dX11_count_25 : decode cX11_count 25 = .ok (.tableswitch 230 0 17 #[87, 92, 97, 102, 137, 142, 176, 181, 186, 191, 230, 230, 230, 230, 230, 230, 230, 196], 87) := by decide +kernel
theorem dX11_count_112 : decode cX11_count 112 = .ok (.aload_n 0, 1) := by decide +kernel
theorem dX11_count_113 : decode cX11_count 113 = .ok (.getfield 171, 3) := by decide +kernel
theorem dX11_count_116 : decode cX11_count 116 = .ok (.ireturn, 1) := by decide +kernel
theorem dX11_count_117 : decode cX11_count 117 = .ok (.aload_n 0, 1) := by decide +kernel
theorem dX11_count_118 : decode cX11_count 118 = .ok (.getfield 157, 3) := by decide +kernel
theorem dX11_count_121 : decode cX11_count 121 = .ok (.ireturn, 1) := by decide +kernel
theorem dX11_count_122 : decode cX11_count 122 = .ok (.aload_n 0, 1) := by decide +kernel
theorem dX11_count_123 : decode cX11_count 123 = .ok (.getfield 165, 3) := by decide +kernel
theorem dX11_count_126 : decode cX11_count 126 = .ok (.ireturn, 1) := by decide +kernel
theorem dX11_count_127 : decode cX11_count 127 = .ok (.iconst 0, 1) := by decide +kernel
theorem dX11_count_128 : decode cX11_count 128 = .ok (.istore_n 3, 1) := by decide +kernel
theorem dX11_count_129 : decode cX11_count 129 = .ok (.iload_n 3, 1) := by decide +kernel
theorem dX11_count_130 : decode cX11_count 130 = .ok (.aload_n 0, 1) := by decide +kernel
theorem dX11_count_131 : decode cX11_count 131 = .ok (.getfield 165, 3) := by decide +kernel
theorem dX11_count_134 : decode cX11_count 134 = .ok (.if_icmp .ge 26, 3) := by decide +kernel
theorem dX11_count_137 : decode cX11_count 137 = .ok (.iload_n 2, 1) := by decide +kernel
theorem dX11_count_138 : decode cX11_count 138 = .ok (.aload_n 0, 1) := by decide +kernel
theorem dX11_count_139 : decode cX11_count 139 = .ok (.getfield 37, 3) := by decide +kernel
theorem dX11_count_142 : decode cX11_count 142 = .ok (.iload_n 3, 1) := by decide +kernel
theorem dX11_count_143 : decode cX11_count 143 = .ok (.iaload, 1) := by decide +kernel
theorem dX11_count_144 : decode cX11_count 144 = .ok (.ifCond .ge 7, 3) := by decide +kernel
theorem dX11_count_147 : decode cX11_count 147 = .ok (.iconst 1, 1) := by decide +kernel
theorem dX11_count_148 : decode cX11_count 148 = .ok (.goto 4, 3) := by decide +kernel
theorem dX11_count_151 : decode cX11_count 151 = .ok (.iconst 0, 1) := by decide +kernel
theorem dX11_count_152 : decode cX11_count 152 = .ok (.iadd, 1) := by decide +kernel
theorem dX11_count_153 : decode cX11_count 153 = .ok (.istore_n 2, 1) := by decide +kernel
theorem dX11_count_154 : decode cX11_count 154 = .ok (.iinc 3 1, 3) := by decide +kernel
theorem dX11_count_157 : decode cX11_count 157 = .ok (.goto (-28), 3) := by decide +kernel
theorem dX11_count_160 : decode cX11_count 160 = .ok (.iload_n 2, 1) := by decide +kernel
theorem dX11_count_161 : decode cX11_count 161 = .ok (.ireturn, 1) := by decide +kernel
theorem dX11_count_162 : decode cX11_count 162 = .ok (.aload_n 0, 1) := by decide +kernel
theorem dX11_count_163 : decode cX11_count 163 = .ok (.getfield 168, 3) := by decide +kernel
theorem dX11_count_166 : decode cX11_count 166 = .ok (.ireturn, 1) := by decide +kernel
theorem dX11_count_167 : decode cX11_count 167 = .ok (.iconst 0, 1) := by decide +kernel
theorem dX11_count_168 : decode cX11_count 168 = .ok (.istore_n 3, 1) := by decide +kernel
theorem dX11_count_169 : decode cX11_count 169 = .ok (.iload_n 3, 1) := by decide +kernel
theorem dX11_count_170 : decode cX11_count 170 = .ok (.aload_n 0, 1) := by decide +kernel
theorem dX11_count_171 : decode cX11_count 171 = .ok (.getfield 168, 3) := by decide +kernel
theorem dX11_count_174 : decode cX11_count 174 = .ok (.if_icmp .ge 25, 3) := by decide +kernel
theorem dX11_count_177 : decode cX11_count 177 = .ok (.iload_n 2, 1) := by decide +kernel
theorem dX11_count_178 : decode cX11_count 178 = .ok (.aload_n 0, 1) := by decide +kernel
theorem dX11_count_179 : decode cX11_count 179 = .ok (.iload_n 3, 1) := by decide +kernel
theorem dX11_count_180 : decode cX11_count 180 = .ok (.invokevirtual 188, 3) := by decide +kernel
theorem dX11_count_183 : decode cX11_count 183 = .ok (.ifCond .eq 7, 3) := by decide +kernel
theorem dX11_count_186 : decode cX11_count 186 = .ok (.iconst 1, 1) := by decide +kernel
theorem dX11_count_187 : decode cX11_count 187 = .ok (.goto 4, 3) := by decide +kernel
theorem dX11_count_190 : decode cX11_count 190 = .ok (.iconst 0, 1) := by decide +kernel
theorem dX11_count_191 : decode cX11_count 191 = .ok (.iadd, 1) := by decide +kernel
theorem dX11_count_192 : decode cX11_count 192 = .ok (.istore_n 2, 1) := by decide +kernel
theorem dX11_count_193 : decode cX11_count 193 = .ok (.iinc 3 1, 3) := by decide +kernel
theorem dX11_count_196 : decode cX11_count 196 = .ok (.goto (-27), 3) := by decide +kernel
theorem dX11_count_199 : decode cX11_count 199 = .ok (.iload_n 2, 1) := by decide +kernel
theorem dX11_count_200 : decode cX11_count 200 = .ok (.ireturn, 1) := by decide +kernel
theorem dX11_count_201 : decode cX11_count 201 = .ok (.aload_n 0, 1) := by decide +kernel
theorem dX11_count_202 : decode cX11_count 202 = .ok (.getfield 179, 3) := by decide +kernel
theorem dX11_count_205 : decode cX11_count 205 = .ok (.ireturn, 1) := by decide +kernel
theorem dX11_count_206 : decode cX11_count 206 = .ok (.aload_n 0, 1) := by decide +kernel
theorem dX11_count_207 : decode cX11_count 207 = .ok (.getfield 256, 3) := by decide +kernel
theorem dX11_count_210 : decode cX11_count 210 = .ok (.ireturn, 1) := by decide +kernel
theorem dX11_count_211 : decode cX11_count 211 = .ok (.aload_n 0, 1) := by decide +kernel
theorem dX11_count_212 : decode cX11_count 212 = .ok (.getfield 205, 3) := by decide +kernel
theorem dX11_count_215 : decode cX11_count 215 = .ok (.ireturn, 1) := by decide +kernel
theorem dX11_count_216 : decode cX11_count 216 = .ok (.aload_n 0, 1) := by decide +kernel
theorem dX11_count_217 : decode cX11_count 217 = .ok (.getfield 357, 3) := by decide +kernel
theorem dX11_count_220 : decode cX11_count 220 = .ok (.ireturn, 1) := by decide +kernel
theorem dX11_count_221 : decode cX11_count 221 = .ok (.iconst 0, 1) := by decide +kernel
theorem dX11_count_222 : decode cX11_count 222 = .ok (.istore_n 3, 1) := by decide +kernel
theorem dX11_count_223 : decode cX11_count 223 = .ok (.iload_n 3, 1) := by decide +kernel
theorem dX11_count_224 : decode cX11_count 224 = .ok (.aload_n 0, 1) := by decide +kernel
theorem dX11_count_225 : decode cX11_count 225 = .ok (.getfield 157, 3) := by decide +kernel
theorem dX11_count_228 : decode cX11_count 228 = .ok (.if_icmp .ge 25, 3) := by decide +kernel
theorem dX11_count_231 : decode cX11_count 231 = .ok (.iload_n 2, 1) := by decide +kernel
theorem dX11_count_232 : decode cX11_count 232 = .ok (.aload_n 0, 1) := by decide +kernel
theorem dX11_count_233 : decode cX11_count 233 = .ok (.iload_n 3, 1) := by decide +kernel
theorem dX11_count_234 : decode cX11_count 234 = .ok (.invokevirtual 351, 3) := by decide +kernel
theorem dX11_count_237 : decode cX11_count 237 = .ok (.ifCond .eq 7, 3) := by decide +kernel
theorem dX11_count_240 : decode cX11_count 240 = .ok (.iconst 1, 1) := by decide +kernel
theorem dX11_count_241 : decode cX11_count 241 = .ok (.goto 4, 3) := by decide +kernel
theorem dX11_count_244 : decode cX11_count 244 = .ok (.iconst 0, 1) := by decide +kernel
theorem dX11_count_245 : decode cX11_count 245 = .ok (.iadd, 1) := by decide +kernel
theorem dX11_count_246 : decode cX11_count 246 = .ok (.istore_n 2, 1) := by decide +kernel
theorem dX11_count_247 : decode cX11_count 247 = .ok (.iinc 3 1, 3) := by decide +kernel
theorem dX11_count_250 : decode cX11_count 250 = .ok (.goto (-27), 3) := by decide +kernel
theorem dX11_count_253 : decode cX11_count 253 = .ok (.iload_n 2, 1) := by decide +kernel
theorem dX11_count_254 : decode cX11_count 254 = .ok (.ireturn, 1) := by decide +kernel
theorem dX11_count_255 : decode cX11_count 255 = .ok (.bipush (-9), 2) := by decide +kernel
theorem dX11_count_257 : decode cX11_count 257 = .ok (.ireturn, 1) := by decide +kernel
theorem in_wsX11_check_X11 : ∀ w ∈ wsX110, w ∈ wsX11_check := fun w h => List.mem_cons_of_mem _ (List.mem_append_right _ h)
theorem in_wsX11_agreementOf_X11 : ∀ w ∈ wsX110, w ∈ wsX11_agreementOf := fun w h => List.mem_cons_of_mem _ (List.mem_append_right _ h)
theorem in_wsX11_count_X11 : ∀ w ∈ wsX110, w ∈ wsX11_count := fun w h => List.mem_cons_of_mem _ (List.mem_append_right _ h)

set_option maxHeartbeats 4000000 in
set_option maxRecDepth 100000 in
theorem c_X11_owed (l : Launch) (dC : Nat → ClassId) (dI : Nat → Nat → Nat) (sz : Nat) (g0 : Nat) (pq : Nat → Nat) (cp : Nat → ClassId) (v : Nat → Int32) (fa : Nat → Nat → Int32) (gV : mV v) (gA : mA fa) (x1 : Int32) (x2 : Int32) (x3 : Int32) : Met l yX11_owed wsX11_owed ({ frames := 27, cells := 0, slots := 0, locals := 638 }) (va_Pc [.ref g0, .int x1, .int x2, .int x3] (pcW (dC, dI) (mT cp) (mW g0 pq cp v fa) sz)) (va_Qi (fun (r : Int32) (u : (Nat → Int32) × (Nat → Nat → Int32)) => mV u.1 ∧ mA u.2 ∧ mX [0, 45, 47, 48, 49, 50, 51, 52, 53, 54, 55, 56, 57, 58, 59, 60] v fa u.1 u.2) (fun u t => va_P (dC, dI) vwCl (mW g0 pq cp u.1 u.2) t.heap ∧ va_K (dC, dI) vwCl (mT cp) t ∧ va_D (va_A (mW g0 pq cp v fa) sz) (mW g0 pq cp u.1 u.2)) (va_A (mW g0 pq cp v fa) sz)) 0 0 (va_A (mW g0 pq cp v fa) sz) := by
  refine Met.ofW (cc := cX11_owed) (maxL := 5) (ret := (some .int)) (by decide +kernel) rfl ?_
  intro p e s m args below meth c s₁ B hml hv
  obtain ⟨rfl, hsz, hP, hK, hD0⟩ := hv
  have hx := B.exec
  have hb := B.bytes
  have hr := B.returns
  have hts := atoms_spec (ws := wsX11_owed) B.pre
  have hown : s.vm.findClass RX11 = some m.cls := findClass_of_methodNamed B.named
  have hlocks := B.notSynchronized
  subst hsz
  have hD := hD0.self (sz := s.heap.size)
  generalize hAe : va_A (mW g0 pq cp v fa) s.heap.size = A at hD ⊢
  have hA : ∀ q : Nat, s.heap.size ≤ q → A q := fun q h => by rw [← hAe]; exact Or.inr h
  have hS : va_S A s.heap s.heap [] := va_S.rf
  have hP : va_P (dC, dI) vwCl (mW g0 pq cp v fa) s.heap := hP
  have hl := lv_entry ([.ref g0, .int x1, .int x2, .int x3]) (n := 5) (Nat.le_of_ble_eq_true rfl)
  rw [lg_entry_eq]
  generalize (lg_sl ([.ref g0, .int x1, .int x2, .int x3]) ++ List.replicate (5 - (lg_sl ([.ref g0, .int x1, .int x2, .int x3])).length) Slot.unset).toArray = ls at hl ⊢
  have hl : lv_has ls 5 [(0, .ref g0), (1, .int x1), (2, .int x2), (3, .int x3)] := hl
  refine lv_aload_n hx hb dX11_owed_0 rfl (lv_at hl 0 rfl) ?_
  refine lv_iload_n hx hb dX11_owed_1 rfl (lv_at hl 1 rfl) ?_
  have hFc : ∀ q, va_A [] s.heap.size q → A q := pu_free hS hA
  refine va_calli (va_runV (As := [.int x1]) (rest := []) ⟨hx, hb, hml, hown, hts⟩ (c_X11_isAgreement l dC dI s.heap.size g0 pq cp v fa x1) (cwV 1 hts gX11_owed_X11_isAgreement rfl rfl rfl (by decide +kernel) ⟨(Nat.le_of_ble_eq_true rfl), (Nat.le_of_ble_eq_true rfl)⟩) (pr_V (r := (RX11, TX11, 63)) hP hK hD 0 11 rfl rfl) rfl rfl hl.1 rfl (lv_room (Nat.le_of_ble_eq_true rfl)) dX11_owed_2 ⟨(Nat.le_of_ble_eq_true rfl), (Nat.le_of_ble_eq_true rfl)⟩) hS (fun q _ h => hFc q h) hFc (fun r_2 u t H locs ht hvm w_1 hB hz1 hk1 hS => ?_)
  have hP := pu_keep hP hk1
  clear hk1 hz1 hvm hB ht hFc
  have hbr_2 : 0 ≤ r_2.toInt ∧ r_2.toInt ≤ 1 := iv_of w_1 (isI_i _ _)
  refine lv_if_eq (tgt := 17) hx hb dX11_owed_5 (by decide +kernel) (fun c_3 => ?_) (fun c_3 => ?_)
  · have dc_3 := c_eq (a := r_2.toInt) (b := 0) rfl (by decide +kernel) c_3
    refine lv_iconst (v := (-1)) hx hb dX11_owed_17 (by decide +kernel) ?_
    refine lv_istore (lv' := [(4, .int (-1)), (0, .ref g0), (1, .int x1), (2, .int x2), (3, .int x3)]) hx hb dX11_owed_18 hl (by decide +kernel) rfl (fun ls hl => ?_)
    refine lv_iload hx hb dX11_owed_20 (lv_at hl 0 rfl) ?_
    refine lv_if_eq (tgt := 34) hx hb dX11_owed_22 (by decide +kernel) (fun c_4 => absurd c_4 (by decide +kernel)) (fun _ => ?_)
    refine lv_aload_n hx hb dX11_owed_25 rfl (lv_at hl 1 rfl) ?_
    refine lv_iload hx hb dX11_owed_26 (lv_at hl 0 rfl) ?_
    have hFc := va_free (wc := (mW g0 pq cp v fa)) hD hS hA (List.range 48) rfl
    refine va_calli (va_runV (As := [.int (-1)]) (rest := []) ⟨hx, hb, hml, hown, hts⟩ (c_X11_refuseFar l dC dI H.size g0 pq cp v fa gV gA (-1) (by decide +kernel)) (cwV 1 hts gX11_owed_X11_refuseFar rfl rfl rfl (by decide +kernel) ⟨(Nat.le_of_ble_eq_true rfl), (Nat.le_of_ble_eq_true rfl)⟩) (pr_V (r := (RX11, TX11, 63)) hP hK hD 0 11 rfl rfl) rfl rfl hl.1 rfl (lv_room (Nat.le_of_ble_eq_true rfl)) dX11_owed_28 ⟨(Nat.le_of_ble_eq_true rfl), (Nat.le_of_ble_eq_true rfl)⟩) hS (fun q _ h => hFc q h) hFc (fun r_6 u t H locs ht hvm w_5 hB hz1 hk1 hS => ?_)
    obtain ⟨v_7, fa_8⟩ := u
    obtain ⟨hP1, hK1, hD1⟩ := hB
    rw [ht] at hP1
    have hP : va_P (dC, dI) vwCl (mW g0 pq cp v_7 fa_8) H := hP1
    have hD : va_D A (mW g0 pq cp v_7 fa_8) := hD1.weaken (fun _ _ _ h => hFc _ h)
    clear hP1 hK1 hD1 hk1 hz1 hvm ht hFc
    obtain ⟨hV_9, hA_10, hR_11⟩ := w_5
    dsimp only at hV_9 hA_10 hR_11 
    have R_12 : mX [0, 45, 47, 48, 49, 50, 51, 52, 53, 54, 55, 56, 57, 58, 59, 60] v fa v_7 fa_8 := mX.st mX.rf hR_11 (by decide +kernel)
    refine lv_goto (tgt := 41) hx hb dX11_owed_31 (by decide +kernel) ?_
    exact W.iret (v := r_6) hx hb hr (fun t ht hW => ⟨⟨r_6, (v_7, fa_8), rfl, ⟨hV_9, hA_10, R_12⟩, ⟨by rw [ht]; exact hP, va_K.moved hW.alike hK, hD⟩⟩, hS.F ht⟩) hS.2.2 dX11_owed_41
  · have dc_3 := c_ne (a := r_2.toInt) (b := 0) rfl (by decide +kernel) c_3
    have hi_13 := isI_t w_1 (fun q => c_3 (Int32.toInt_inj.mp q))
    have khi_13 : (v 43).toInt ≤ 60 := (gV 43).2
    refine lv_aload_n hx hb dX11_owed_8 rfl (lv_at hl 0 rfl) ?_
    refine lv_iload_n hx hb dX11_owed_9 rfl (lv_at hl 2 rfl) ?_
    refine lv_iload_n hx hb dX11_owed_10 rfl (lv_at hl 3 rfl) ?_
    have hFc : ∀ q, va_A [] H.size q → A q := pu_free hS hA
    refine va_calli (va_runV (As := [.int x2, .int x3]) (rest := []) ⟨hx, hb, hml, hown, hts⟩ (c_X11_wrongTimes_b l dC dI H.size g0 pq cp v fa gV gA x2 x3) (cwV 2 hts gX11_owed_X11_wrongTimes rfl rfl rfl (by decide +kernel) ⟨(Nat.le_of_ble_eq_true rfl), (Nat.le_of_ble_eq_true rfl)⟩) (pr_V (r := (RX11, TX11, 63)) hP hK hD 0 11 rfl rfl) rfl rfl hl.1 rfl (lv_room (Nat.le_of_ble_eq_true rfl)) dX11_owed_11 ⟨(Nat.le_of_ble_eq_true rfl), (Nat.le_of_ble_eq_true rfl)⟩) hS (fun q _ h => hFc q h) hFc (fun r_15 u t H locs ht hvm w_14 hB hz1 hk1 hS => ?_)
    have hP := pu_keep hP hk1
    clear hk1 hz1 hvm hB ht hFc
    obtain ⟨hb_16, hx_17⟩ := w_14
    refine lv_goto (tgt := 18) hx hb dX11_owed_14 (by decide +kernel) ?_
    refine lv_istore (lv' := [(4, .int r_15), (0, .ref g0), (1, .int x1), (2, .int x2), (3, .int x3)]) hx hb dX11_owed_18 hl (by decide +kernel) rfl (fun ls hl => ?_)
    refine lv_iload hx hb dX11_owed_20 (lv_at hl 0 rfl) ?_
    refine lv_if_eq (tgt := 34) hx hb dX11_owed_22 (by decide +kernel) (fun c_18 => ?_) (fun c_18 => ?_)
    · have dc_18 := c_eq (a := r_15.toInt) (b := 0) rfl (by decide +kernel) c_18
      have hi_19 := hx_17 c_18
      refine lv_aload_n hx hb dX11_owed_34 rfl (lv_at hl 1 rfl) ?_
      refine lv_iload_n hx hb dX11_owed_35 rfl (lv_at hl 2 rfl) ?_
      refine lv_iload_n hx hb dX11_owed_36 rfl (lv_at hl 3 rfl) ?_
      refine lv_iload_n hx hb dX11_owed_37 rfl (lv_at hl 4 rfl) ?_
      have hFc := va_free (wc := (mW g0 pq cp v fa)) hD hS hA (List.range 48) rfl
      refine va_calli (va_runV (As := [.int x1, .int x2, .int x3]) (rest := []) ⟨hx, hb, hml, hown, hts⟩ (c_X11_owedOf l dC dI H.size g0 pq cp v fa gV gA x1 (by omega) x2 (by omega) x3) (cwV 3 hts gX11_owed_X11_owedOf rfl rfl rfl (by decide +kernel) ⟨(Nat.le_of_ble_eq_true rfl), (Nat.le_of_ble_eq_true rfl)⟩) (pr_V (r := (RX11, TX11, 63)) hP hK hD 0 11 rfl rfl) rfl rfl hl.1 rfl (lv_room (Nat.le_of_ble_eq_true rfl)) dX11_owed_38 ⟨(Nat.le_of_ble_eq_true rfl), (Nat.le_of_ble_eq_true rfl)⟩) hS (fun q _ h => hFc q h) hFc (fun r_21 u t H locs ht hvm w_20 hB hz1 hk1 hS => ?_)
      obtain ⟨v_22, fa_23⟩ := u
      obtain ⟨hP1, hK1, hD1⟩ := hB
      rw [ht] at hP1
      have hP : va_P (dC, dI) vwCl (mW g0 pq cp v_22 fa_23) H := hP1
      have hD : va_D A (mW g0 pq cp v_22 fa_23) := hD1.weaken (fun _ _ _ h => hFc _ h)
      clear hP1 hK1 hD1 hk1 hz1 hvm ht hFc
      obtain ⟨hV_24, hA_25, hR_26⟩ := w_20
      dsimp only at hV_24 hA_25 hR_26 
      have R_27 : mX [0, 45, 47, 48, 49, 50, 51, 52, 53, 54, 55, 56, 57, 58, 59, 60] v fa v_22 fa_23 := mX.st mX.rf (mX.scr hR_26) (by decide +kernel)
      exact W.iret (v := r_21) hx hb hr (fun t ht hW => ⟨⟨r_21, (v_22, fa_23), rfl, ⟨hV_24, hA_25, R_27⟩, ⟨by rw [ht]; exact hP, va_K.moved hW.alike hK, hD⟩⟩, hS.F ht⟩) hS.2.2 dX11_owed_41
    · have dc_18 := c_ne (a := r_15.toInt) (b := 0) rfl (by decide +kernel) c_18
      refine lv_aload_n hx hb dX11_owed_25 rfl (lv_at hl 1 rfl) ?_
      refine lv_iload hx hb dX11_owed_26 (lv_at hl 0 rfl) ?_
      have hFc := va_free (wc := (mW g0 pq cp v fa)) hD hS hA (List.range 48) rfl
      refine va_calli (va_runV (As := [.int r_15]) (rest := []) ⟨hx, hb, hml, hown, hts⟩ (c_X11_refuseFar l dC dI H.size g0 pq cp v fa gV gA r_15 (by omega)) (cwV 1 hts gX11_owed_X11_refuseFar rfl rfl rfl (by decide +kernel) ⟨(Nat.le_of_ble_eq_true rfl), (Nat.le_of_ble_eq_true rfl)⟩) (pr_V (r := (RX11, TX11, 63)) hP hK hD 0 11 rfl rfl) rfl rfl hl.1 rfl (lv_room (Nat.le_of_ble_eq_true rfl)) dX11_owed_28 ⟨(Nat.le_of_ble_eq_true rfl), (Nat.le_of_ble_eq_true rfl)⟩) hS (fun q _ h => hFc q h) hFc (fun r_29 u t H locs ht hvm w_28 hB hz1 hk1 hS => ?_)
      obtain ⟨v_30, fa_31⟩ := u
      obtain ⟨hP1, hK1, hD1⟩ := hB
      rw [ht] at hP1
      have hP : va_P (dC, dI) vwCl (mW g0 pq cp v_30 fa_31) H := hP1
      have hD : va_D A (mW g0 pq cp v_30 fa_31) := hD1.weaken (fun _ _ _ h => hFc _ h)
      clear hP1 hK1 hD1 hk1 hz1 hvm ht hFc
      obtain ⟨hV_32, hA_33, hR_34⟩ := w_28
      dsimp only at hV_32 hA_33 hR_34 
      have R_35 : mX [0, 45, 47, 48, 49, 50, 51, 52, 53, 54, 55, 56, 57, 58, 59, 60] v fa v_30 fa_31 := mX.st mX.rf hR_34 (by decide +kernel)
      refine lv_goto (tgt := 41) hx hb dX11_owed_31 (by decide +kernel) ?_
      exact W.iret (v := r_29) hx hb hr (fun t ht hW => ⟨⟨r_29, (v_30, fa_31), rfl, ⟨hV_32, hA_33, R_35⟩, ⟨by rw [ht]; exact hP, va_K.moved hW.alike hK, hD⟩⟩, hS.F ht⟩) hS.2.2 dX11_owed_41
set_option maxHeartbeats 4000000 in
set_option maxRecDepth 100000 in
theorem c_X11_check (l : Launch) (dC : Nat → ClassId) (dI : Nat → Nat → Nat) (sz : Nat) (g0 : Nat) (pq : Nat → Nat) (cp : Nat → ClassId) (v : Nat → Int32) (fa : Nat → Nat → Int32) (gV : mV v) (gA : mA fa) (x1 : Int32) (x2 : Int32) (x3 : Int32) : Met l yX11_check wsX11_check ({ frames := 27, cells := 0, slots := 0, locals := 638 }) (va_Pc [.ref g0, .int x1, .int x2, .int x3] (pcW (dC, dI) (mT cp) (mW g0 pq cp v fa) sz)) (va_Qi (fun (r : Int32) (u : (Nat → Int32) × (Nat → Nat → Int32)) => mV u.1 ∧ mA u.2 ∧ mX [0, 45, 47, 48, 49, 50, 51, 52, 53, 54, 55, 56, 57, 58, 59, 60, 62] v fa u.1 u.2) (fun u t => va_P (dC, dI) vwCl (mW g0 pq cp u.1 u.2) t.heap ∧ va_K (dC, dI) vwCl (mT cp) t ∧ va_D (va_A (mW g0 pq cp v fa) sz) (mW g0 pq cp u.1 u.2)) (va_A (mW g0 pq cp v fa) sz)) 0 0 (va_A (mW g0 pq cp v fa) sz) := by
  refine Met.ofW (cc := cX11_check) (maxL := 8) (ret := (some .int)) (by decide +kernel) rfl ?_
  intro p e s m args below meth c s₁ B hml hv
  obtain ⟨rfl, hsz, hP, hK, hD0⟩ := hv
  have hx := B.exec
  have hb := B.bytes
  have hr := B.returns
  have hts := atoms_spec (ws := wsX11_check) B.pre
  have hown : s.vm.findClass RX11 = some m.cls := findClass_of_methodNamed B.named
  have hlocks := B.notSynchronized
  subst hsz
  have hD := hD0.self (sz := s.heap.size)
  generalize hAe : va_A (mW g0 pq cp v fa) s.heap.size = A at hD ⊢
  have hA : ∀ q : Nat, s.heap.size ≤ q → A q := fun q h => by rw [← hAe]; exact Or.inr h
  have hS : va_S A s.heap s.heap [] := va_S.rf
  have hP : va_P (dC, dI) vwCl (mW g0 pq cp v fa) s.heap := hP
  have hl := lv_entry ([.ref g0, .int x1, .int x2, .int x3]) (n := 8) (Nat.le_of_ble_eq_true rfl)
  rw [lg_entry_eq]
  generalize (lg_sl ([.ref g0, .int x1, .int x2, .int x3]) ++ List.replicate (8 - (lg_sl ([.ref g0, .int x1, .int x2, .int x3])).length) Slot.unset).toArray = ls at hl ⊢
  have hl : lv_has ls 8 [(0, .ref g0), (1, .int x1), (2, .int x2), (3, .int x3)] := hl
  refine lv_aload_n hx hb dX11_check_0 rfl (lv_at hl 0 rfl) ?_
  refine lv_iload_n hx hb dX11_check_1 rfl (lv_at hl 1 rfl) ?_
  have hFc : ∀ q, va_A [] s.heap.size q → A q := pu_free hS hA
  refine va_calli (va_runV (As := [.int x1]) (rest := []) ⟨hx, hb, hml, hown, hts⟩ (c_X11_isVoyage l dC dI s.heap.size g0 pq cp v fa x1) (cwV 1 hts gX11_check_X11_isVoyage rfl rfl rfl (by decide +kernel) ⟨(Nat.le_of_ble_eq_true rfl), (Nat.le_of_ble_eq_true rfl)⟩) (pr_V (r := (RX11, TX11, 63)) hP hK hD 0 11 rfl rfl) rfl rfl hl.1 rfl (lv_room (Nat.le_of_ble_eq_true rfl)) dX11_check_2 ⟨(Nat.le_of_ble_eq_true rfl), (Nat.le_of_ble_eq_true rfl)⟩) hS (fun q _ h => hFc q h) hFc (fun r_2 u t H locs ht hvm w_1 hB hz1 hk1 hS => ?_)
  have hP := pu_keep hP hk1
  clear hk1 hz1 hvm hB ht hFc
  have hbr_2 : 0 ≤ r_2.toInt ∧ r_2.toInt ≤ 1 := iv_of w_1 (isI_i _ _)
  refine lv_if_eq (tgt := 17) hx hb dX11_check_5 (by decide +kernel) (fun c_3 => ?_) (fun c_3 => ?_)
  · have dc_3 := c_eq (a := r_2.toInt) (b := 0) rfl (by decide +kernel) c_3
    refine lv_iconst (v := (-1)) hx hb dX11_check_17 (by decide +kernel) ?_
    refine lv_istore (lv' := [(4, .int (-1)), (0, .ref g0), (1, .int x1), (2, .int x2), (3, .int x3)]) hx hb dX11_check_18 hl (by decide +kernel) rfl (fun ls hl => ?_)
    refine lv_iload hx hb dX11_check_20 (lv_at hl 0 rfl) ?_
    refine lv_if_eq (tgt := 32) hx hb dX11_check_22 (by decide +kernel) (fun c_4 => absurd c_4 (by decide +kernel)) (fun _ => ?_)
    refine lv_aload_n hx hb dX11_check_25 rfl (lv_at hl 1 rfl) ?_
    refine lv_iload hx hb dX11_check_26 (lv_at hl 0 rfl) ?_
    have hFc := va_free (wc := (mW g0 pq cp v fa)) hD hS hA (List.range 48) rfl
    refine va_calli (va_runV (As := [.int (-1)]) (rest := []) ⟨hx, hb, hml, hown, hts⟩ (c_X11_refuse l dC dI H.size g0 pq cp v fa (-1) (by unfold vp_in; decide)) (cwV 1 hts gX11_check_X11_refuse rfl rfl rfl (by decide +kernel) ⟨(Nat.le_of_ble_eq_true rfl), (Nat.le_of_ble_eq_true rfl)⟩) (pr_V (r := (RX11, TX11, 63)) hP hK hD 0 11 rfl rfl) rfl rfl hl.1 rfl (lv_room (Nat.le_of_ble_eq_true rfl)) dX11_check_28 ⟨(Nat.le_of_ble_eq_true rfl), (Nat.le_of_ble_eq_true rfl)⟩) hS (fun q _ h => hFc q h) hFc (fun r_6 u t H locs ht hvm w_5 hB hz1 hk1 hS => ?_)
    obtain ⟨v_7, fa_8⟩ := u
    obtain ⟨hP1, hK1, hD1⟩ := hB
    rw [ht] at hP1
    have hP : va_P (dC, dI) vwCl (mW g0 pq cp v_7 fa_8) H := hP1
    have hD : va_D A (mW g0 pq cp v_7 fa_8) := hD1.weaken (fun _ _ _ h => hFc _ h)
    clear hP1 hK1 hD1 hk1 hz1 hvm ht hFc
    obtain ⟨rfl, w_5⟩ := w_5
    have hVv_7 : mV v_7 := sm0_V w_5 gV
    have hAv_7 : mA fa_8 := sm0_A w_5 gA
    have hRv_7 : mX [0, 45, 47, 48, 49, 50, 51, 52, 53, 54, 55, 56, 57, 58, 59, 60, 62] v fa v_7 fa_8 := mX.st mX.rf (mX.s0 w_5) (by decide +kernel)
    exact W.iret (v := (-1)) hx hb hr (fun t ht hW => ⟨⟨(-1), (v_7, fa_8), rfl, ⟨hVv_7, hAv_7, hRv_7⟩, ⟨by rw [ht]; exact hP, va_K.moved hW.alike hK, hD⟩⟩, hS.F ht⟩) hS.2.2 dX11_check_31
  · have dc_3 := c_ne (a := r_2.toInt) (b := 0) rfl (by decide +kernel) c_3
    have hi_9 := isI_t w_1 (fun q => c_3 (Int32.toInt_inj.mp q))
    have khi_9 : (v 40).toInt ≤ 20 := (gV 40).2
    refine lv_aload_n hx hb dX11_check_8 rfl (lv_at hl 0 rfl) ?_
    refine lv_iload_n hx hb dX11_check_9 rfl (lv_at hl 2 rfl) ?_
    refine lv_iload_n hx hb dX11_check_10 rfl (lv_at hl 3 rfl) ?_
    have hFc : ∀ q, va_A [] H.size q → A q := pu_free hS hA
    refine va_calli (va_runV (As := [.int x2, .int x3]) (rest := []) ⟨hx, hb, hml, hown, hts⟩ (c_X11_wrongTimes_b l dC dI H.size g0 pq cp v fa gV gA x2 x3) (cwV 2 hts gX11_check_X11_wrongTimes rfl rfl rfl (by decide +kernel) ⟨(Nat.le_of_ble_eq_true rfl), (Nat.le_of_ble_eq_true rfl)⟩) (pr_V (r := (RX11, TX11, 63)) hP hK hD 0 11 rfl rfl) rfl rfl hl.1 rfl (lv_room (Nat.le_of_ble_eq_true rfl)) dX11_check_11 ⟨(Nat.le_of_ble_eq_true rfl), (Nat.le_of_ble_eq_true rfl)⟩) hS (fun q _ h => hFc q h) hFc (fun r_11 u t H locs ht hvm w_10 hB hz1 hk1 hS => ?_)
    have hP := pu_keep hP hk1
    clear hk1 hz1 hvm hB ht hFc
    obtain ⟨hb_12, hx_13⟩ := w_10
    refine lv_goto (tgt := 18) hx hb dX11_check_14 (by decide +kernel) ?_
    refine lv_istore (lv' := [(4, .int r_11), (0, .ref g0), (1, .int x1), (2, .int x2), (3, .int x3)]) hx hb dX11_check_18 hl (by decide +kernel) rfl (fun ls hl => ?_)
    refine lv_iload hx hb dX11_check_20 (lv_at hl 0 rfl) ?_
    refine lv_if_eq (tgt := 32) hx hb dX11_check_22 (by decide +kernel) (fun c_14 => ?_) (fun c_14 => ?_)
    · have dc_14 := c_eq (a := r_11.toInt) (b := 0) rfl (by decide +kernel) c_14
      have hi_15 := hx_13 c_14
      refine lv_aload_n hx hb dX11_check_32 rfl (lv_at hl 1 rfl) ?_
      refine va_get (D := (dC, dI)) (ci := 11) (v := .int (v 62)) (C := RX11) (T := TX11) (N := 63) hx hb hts in_wsX11_check_X11 hown hK hP 0 rfl rfl 62 (by decide +kernel) (hts (.fieldLink RX11 357 "ShipOfficeModel" "rowed" "I") iw_X11_check_1) (fun _ h9 => h9) rfl dX11_check_33 ?_
      refine lv_topi (fun x_16 ex_16 => ?_)
      have hx_16 : 0 ≤ x_16.toInt ∧ x_16.toInt ≤ 12 := iv_of ex_16 (gV 62)
      clear ex_16
      refine lv_istore (lv' := [(5, .int x_16), (4, .int r_11), (0, .ref g0), (1, .int x1), (2, .int x2), (3, .int x3)]) hx hb dX11_check_36 hl (by decide +kernel) rfl (fun ls hl => ?_)
      refine lv_aload_n hx hb dX11_check_38 rfl (lv_at hl 2 rfl) ?_
      refine lv_iconst (v := 0) hx hb dX11_check_39 (by decide +kernel) ?_
      refine va_put (D := (dC, dI)) (ci := 11) (v := .int 0) (ty := .int) (C := RX11) (T := TX11) (N := 63) hx hb hts in_wsX11_check_X11 tyX11 tyX11_ok nmX11 hown hK hP hD hS 0 rfl rfl 62 (by decide +kernel) (hts (.fieldLink RX11 357 "ShipOfficeModel" "rowed" "I") iw_X11_check_1) (fun _ h9 => h9) rfl (by decide +kernel) rfl rfl (Nat.le_of_ble_eq_true rfl) dX11_check_40 (fun H locs hP hD hS => ?_)
      have hP : va_P (dC, dI) vwCl (mW g0 pq cp (upd v 62 0) fa) H := hP
      have hD : va_D A (mW g0 pq cp (upd v 62 0) fa) := hD
      obtain ⟨z_17, ez_17⟩ : ∃ zq, zq = (upd v 62 0) := ⟨_, rfl⟩
      rw [← ez_17] at hP hD
      have hVz_17 : mV z_17 := by rw [ez_17]; exact mV_upd (lo := 0) (hi := 12) gV rfl rfl (by decide +kernel)
      have hRz_17 : mX [0, 45, 47, 48, 49, 50, 51, 52, 53, 54, 55, 56, 57, 58, 59, 60, 62] v fa z_17 fa := by rw [ez_17]; exact mX.up mX.rf (by decide +kernel)
      refine lv_iconst (v := 0) hx hb dX11_check_43 (by decide +kernel) ?_
      refine lv_istore (lv' := [(6, .int 0), (5, .int x_16), (4, .int r_11), (0, .ref g0), (1, .int x1), (2, .int x2), (3, .int x3)]) hx hb dX11_check_44 hl (by decide +kernel) rfl (fun ls hl => ?_)
      refine lv_iconst (v := 0) hx hb dX11_check_46 (by decide +kernel) ?_
      refine lv_istore (lv' := [(7, .int 0), (6, .int 0), (5, .int x_16), (4, .int r_11), (0, .ref g0), (1, .int x1), (2, .int x2), (3, .int x3)]) hx hb dX11_check_47 hl (by decide +kernel) rfl (fun ls hl => ?_)
      have cut_18 : ∀ (n : Nat) (y_19 : Int32) (y_20 : Int32) (z_21 : Nat → Int32) (fz_22 : Nat → Nat → Int32) (H : Heap) (locs : List Loc) (ls : Array Slot), 60 - y_20.toInt ≤ (n : Int) → (0 ≤ y_19.toInt ∧ y_19.toInt ≤ 60) → (0 ≤ y_20.toInt ∧ y_20.toInt ≤ 60) → y_19.toInt ≤ y_20.toInt → mV z_21 → mA fz_22 → mX [0, 45, 47, 48, 49, 50, 51, 52, 53, 54, 55, 56, 57, 58, 59, 60, 62] v fa z_21 fz_22 → va_P (dC, dI) vwCl (mW g0 pq cp z_21 fz_22) H → va_D A (mW g0 pq cp z_21 fz_22) → va_S A s.heap H locs → lv_has ls 8 [(6, .int y_19), (7, .int y_20), (5, .int x_16), (4, .int r_11), (0, .ref g0), (1, .int x1), (2, .int x2), (3, .int x3)] → W p l e (headSpec wsX11_check { frames := 27, cells := 0, slots := 0, locals := 638 }).room s m #[Value.ref g0, Value.int x1, Value.int x2, Value.int x3] below meth c H locs 0 0 (MQ below (va_Qi (fun (r : Int32) (u : (Nat → Int32) × (Nat → Nat → Int32)) => mV u.1 ∧ mA u.2 ∧ mX [0, 45, 47, 48, 49, 50, 51, 52, 53, 54, 55, 56, 57, 58, 59, 60, 62] v fa u.1 u.2) (fun u t => va_P (dC, dI) vwCl (mW g0 pq cp u.1 u.2) t.heap ∧ va_K (dC, dI) vwCl (mT cp) t ∧ va_D A (mW g0 pq cp u.1 u.2)) A) #[Value.ref g0, Value.int x1, Value.int x2, Value.int x3] s 0 0 A) (F0 m 49 ls []) := by
        intro n
        induction n using Nat.strongRecOn with
        | ind n ih =>
          intro y_19 y_20 z_21 fz_22 H locs ls hm hy_19 hy_20 hq0_cut_18 hVz_21 hAz_21 hRz_21 hP hD hS hl
          refine lv_iload hx hb dX11_check_49 (lv_at hl 1 rfl) ?_
          refine lv_aload_n hx hb dX11_check_51 rfl (lv_at hl 4 rfl) ?_
          refine va_get (D := (dC, dI)) (ci := 11) (v := .int (z_21 43)) (C := RX11) (T := TX11) (N := 63) hx hb hts in_wsX11_check_X11 hown hK hP 0 rfl rfl 43 (by decide +kernel) (hts (.fieldLink RX11 168 "ShipOfficeModel" "agreements" "I") iw_X11_check_2) (fun _ h9 => h9) rfl dX11_check_52 ?_
          refine lv_topi (fun x_23 ex_23 => ?_)
          have hx_23 : 0 ≤ x_23.toInt ∧ x_23.toInt ≤ 60 := iv_of ex_23 (hVz_21 43)
          clear ex_23
          refine lv_icmp_ge (tgt := 109) hx hb dX11_check_55 (by decide +kernel) (fun c_24 => ?_) (fun c_24 => ?_)
          · have dc_24 := c_le (a := x_23.toInt) (b := y_20.toInt) rfl rfl c_24
            refine lv_iload hx hb dX11_check_109 (lv_at hl 0 rfl) ?_
            refine lv_iload hx hb dX11_check_111 (lv_at hl 2 rfl) ?_
            refine lv_icmp_ge (tgt := 121) hx hb dX11_check_113 (by decide +kernel) (fun c_25 => ?_) (fun c_25 => ?_)
            · have dc_25 := c_le (a := x_16.toInt) (b := y_19.toInt) rfl rfl c_25
              refine lv_bipush (v := (-9)) hx hb dX11_check_121 (by decide +kernel) ?_
              exact W.iret (v := (-9)) hx hb hr (fun t ht hW => ⟨⟨(-9), (z_21, fz_22), rfl, ⟨hVz_21, hAz_21, hRz_21⟩, ⟨by rw [ht]; exact hP, va_K.moved hW.alike hK, hD⟩⟩, hS.F ht⟩) hS.2.2 dX11_check_123
            · have dc_25 := c_nle (a := x_16.toInt) (b := y_19.toInt) rfl rfl c_25
              refine lv_iload hx hb dX11_check_116 (lv_at hl 0 rfl) ?_
              refine lv_goto (tgt := 123) hx hb dX11_check_118 (by decide +kernel) ?_
              exact W.iret (v := y_19) hx hb hr (fun t ht hW => ⟨⟨y_19, (z_21, fz_22), rfl, ⟨hVz_21, hAz_21, hRz_21⟩, ⟨by rw [ht]; exact hP, va_K.moved hW.alike hK, hD⟩⟩, hS.F ht⟩) hS.2.2 dX11_check_123
          · have dc_24 := c_nle (a := x_23.toInt) (b := y_20.toInt) rfl rfl c_24
            refine lv_aload_n hx hb dX11_check_58 rfl (lv_at hl 4 rfl) ?_
            refine va_get (D := (dC, dI)) (ci := 11) (v := .ref (pq 21)) (C := RX11) (T := TX11) (N := 63) hx hb hts in_wsX11_check_X11 hown hK hP 0 rfl rfl 21 (by decide +kernel) (hts (.fieldLink RX11 73 "ShipOfficeModel" "voyage" "[I") iw_X11_check_3) (fun _ h9 => h9) rfl dX11_check_59 ?_
            refine lv_iload hx hb dX11_check_62 (lv_at hl 1 rfl) ?_
            refine va_iald hx hb hK hP 22 21 rfl rfl (vp_in_iff.mpr (by omega)) dX11_check_64 ?_
            refine lv_topi (fun x_26 ex_26 => ?_)
            have hx_26 : 0 ≤ x_26.toInt ∧ x_26.toInt ≤ 19 := iv_of ex_26 (hAz_21 21 _)
            clear ex_26
            refine lv_iload_n hx hb dX11_check_65 rfl (lv_at hl 5 rfl) ?_
            refine lv_icmp_eq (tgt := 72) hx hb dX11_check_66 (by decide +kernel) (fun c_27 => ?_) (fun c_27 => ?_)
            · have dc_27 := c_eq (a := x_26.toInt) (b := x1.toInt) rfl rfl c_27
              refine lv_iload hx hb dX11_check_72 (lv_at hl 0 rfl) ?_
              refine lv_iload hx hb dX11_check_74 (lv_at hl 2 rfl) ?_
              refine lv_icmp_ge (tgt := 97) hx hb dX11_check_76 (by decide +kernel) (fun c_28 => ?_) (fun c_28 => ?_)
              · have dc_28 := c_le (a := x_16.toInt) (b := y_19.toInt) rfl rfl c_28
                refine lv_iload hx hb dX11_check_97 (lv_at hl 0 rfl) ?_
                exact W.iret (v := y_19) hx hb hr (fun t ht hW => ⟨⟨y_19, (z_21, fz_22), rfl, ⟨hVz_21, hAz_21, hRz_21⟩, ⟨by rw [ht]; exact hP, va_K.moved hW.alike hK, hD⟩⟩, hS.F ht⟩) hS.2.2 dX11_check_99
              · have dc_28 := c_nle (a := x_16.toInt) (b := y_19.toInt) rfl rfl c_28
                refine lv_aload_n hx hb dX11_check_79 rfl (lv_at hl 4 rfl) ?_
                refine va_get (D := (dC, dI)) (ci := 11) (v := .ref (pq 61)) (C := RX11) (T := TX11) (N := 63) hx hb hts in_wsX11_check_X11 hown hK hP 0 rfl rfl 61 (by decide +kernel) (hts (.fieldLink RX11 149 "ShipOfficeModel" "row" "[I") iw_X11_check_4) (fun _ h9 => h9) rfl dX11_check_80 ?_
                refine lv_iload hx hb dX11_check_83 (lv_at hl 0 rfl) ?_
                refine va_iald hx hb hK hP 47 46 rfl rfl (vp_in_iff.mpr (by omega)) dX11_check_85 ?_
                refine lv_topi (fun x_29 ex_29 => ?_)
                clear ex_29
                refine lv_aload_n hx hb dX11_check_86 rfl (lv_at hl 4 rfl) ?_
                refine lv_iload hx hb dX11_check_87 (lv_at hl 1 rfl) ?_
                refine lv_iload_n hx hb dX11_check_89 rfl (lv_at hl 6 rfl) ?_
                refine lv_iload_n hx hb dX11_check_90 rfl (lv_at hl 7 rfl) ?_
                have hFc := va_free (wc := (mW g0 pq cp z_21 fz_22)) hD hS hA (List.range 48) rfl
                refine va_calli (va_runV (As := [.int y_20, .int x2, .int x3]) (rest := [.int x_29]) ⟨hx, hb, hml, hown, hts⟩ (c_X11_owedOf l dC dI H.size g0 pq cp z_21 fz_22 hVz_21 hAz_21 y_20 (by omega) x2 (by omega) x3) (cwV 3 hts gX11_check_X11_owedOf rfl rfl rfl (by decide +kernel) ⟨(Nat.le_of_ble_eq_true rfl), (Nat.le_of_ble_eq_true rfl)⟩) (pr_V (r := (RX11, TX11, 63)) hP hK hD 0 11 rfl rfl) rfl rfl hl.1 rfl (lv_room (Nat.le_of_ble_eq_true rfl)) dX11_check_91 ⟨(Nat.le_of_ble_eq_true rfl), (Nat.le_of_ble_eq_true rfl)⟩) hS (fun q _ h => hFc q h) hFc (fun r_31 u t H locs ht hvm w_30 hB hz1 hk1 hS => ?_)
                obtain ⟨v_32, fa_33⟩ := u
                obtain ⟨hP1, hK1, hD1⟩ := hB
                rw [ht] at hP1
                have hP : va_P (dC, dI) vwCl (mW g0 pq cp v_32 fa_33) H := hP1
                have hD : va_D A (mW g0 pq cp v_32 fa_33) := hD1.weaken (fun _ _ _ h => hFc _ h)
                clear hP1 hK1 hD1 hk1 hz1 hvm ht hFc
                obtain ⟨hV_34, hA_35, hR_36⟩ := w_30
                dsimp only at hV_34 hA_35 hR_36 
                have R_37 : mX [0, 45, 47, 48, 49, 50, 51, 52, 53, 54, 55, 56, 57, 58, 59, 60, 62] v fa v_32 fa_33 := mX.st hRz_21 (mX.scr hR_36) (by decide +kernel)
                refine lv_icmp_eq (tgt := 100) hx hb dX11_check_94 (by decide +kernel) (fun c_38 => ?_) (fun c_38 => ?_)
                · have dc_38 := c_eq (a := x_29.toInt) (b := r_31.toInt) rfl rfl c_38
                  obtain ⟨x_39, ex_39⟩ : ∃ zq : Int32, y_19 + 1 = zq := ⟨_, rfl⟩
                  have hx_39 : x_39.toInt = y_19.toInt + 1 := (iv_to ex_39).symm.trans (ad_i rfl (by decide +kernel) (by omega) (by omega))
                  refine lv_iinc (v := x_39) (lv' := [(6, .int x_39), (7, .int y_20), (5, .int x_16), (4, .int r_11), (0, .ref g0), (1, .int x1), (2, .int x2), (3, .int x3)]) hx hb dX11_check_100 hl (k := 0) rfl ex_39 (by decide +kernel) rfl (fun ls hl => ?_)
                  clear ex_39
                  obtain ⟨x_40, ex_40⟩ : ∃ zq : Int32, y_20 + 1 = zq := ⟨_, rfl⟩
                  have hx_40 : x_40.toInt = y_20.toInt + 1 := (iv_to ex_40).symm.trans (ad_i rfl (by decide +kernel) (by omega) (by omega))
                  refine lv_iinc (v := x_40) (lv' := [(7, .int x_40), (6, .int x_39), (5, .int x_16), (4, .int r_11), (0, .ref g0), (1, .int x1), (2, .int x2), (3, .int x3)]) hx hb dX11_check_103 hl (k := 1) rfl ex_40 (by decide +kernel) rfl (fun ls hl => ?_)
                  clear ex_40
                  refine lv_goto (tgt := 49) hx hb dX11_check_106 (by decide +kernel) ?_
                  exact ih (n - 1) (by omega) x_39 x_40 v_32 fa_33 _ _ ls (by omega) (by omega) (by omega) (by omega) hV_34 hA_35 R_37 hP hD hS (lv_sub hl [1, 0, 2, 3, 4, 5, 6, 7] rfl)
                · have dc_38 := c_ne (a := x_29.toInt) (b := r_31.toInt) rfl rfl c_38
                  refine lv_iload hx hb dX11_check_97 (lv_at hl 0 rfl) ?_
                  exact W.iret (v := y_19) hx hb hr (fun t ht hW => ⟨⟨y_19, (v_32, fa_33), rfl, ⟨hV_34, hA_35, R_37⟩, ⟨by rw [ht]; exact hP, va_K.moved hW.alike hK, hD⟩⟩, hS.F ht⟩) hS.2.2 dX11_check_99
            · have dc_27 := c_ne (a := x_26.toInt) (b := x1.toInt) rfl rfl c_27
              refine lv_goto (tgt := 103) hx hb dX11_check_69 (by decide +kernel) ?_
              obtain ⟨x_41, ex_41⟩ : ∃ zq : Int32, y_20 + 1 = zq := ⟨_, rfl⟩
              have hx_41 : x_41.toInt = y_20.toInt + 1 := (iv_to ex_41).symm.trans (ad_i rfl (by decide +kernel) (by omega) (by omega))
              refine lv_iinc (v := x_41) (lv' := [(7, .int x_41), (6, .int y_19), (5, .int x_16), (4, .int r_11), (0, .ref g0), (1, .int x1), (2, .int x2), (3, .int x3)]) hx hb dX11_check_103 hl (k := 1) rfl ex_41 (by decide +kernel) rfl (fun ls hl => ?_)
              clear ex_41
              refine lv_goto (tgt := 49) hx hb dX11_check_106 (by decide +kernel) ?_
              exact ih (n - 1) (by omega) y_19 x_41 z_21 fz_22 _ _ ls (by omega) (by omega) (by omega) (by omega) hVz_21 hAz_21 hRz_21 hP hD hS (lv_sub hl [1, 0, 2, 3, 4, 5, 6, 7] rfl)
      have kc_42 : (0 : Int32).toInt = 0 := by decide
      exact cut_18 61 0 0 z_17 fa _ _ ls (by omega) (by decide +kernel) (by decide +kernel) (by decide +kernel) hVz_17 gA hRz_17 hP hD hS (lv_sub hl [1, 0, 2, 3, 4, 5, 6, 7] rfl)
    · have dc_14 := c_ne (a := r_11.toInt) (b := 0) rfl (by decide +kernel) c_14
      refine lv_aload_n hx hb dX11_check_25 rfl (lv_at hl 1 rfl) ?_
      refine lv_iload hx hb dX11_check_26 (lv_at hl 0 rfl) ?_
      have hFc := va_free (wc := (mW g0 pq cp v fa)) hD hS hA (List.range 48) rfl
      refine va_calli (va_runV (As := [.int r_11]) (rest := []) ⟨hx, hb, hml, hown, hts⟩ (c_X11_refuse l dC dI H.size g0 pq cp v fa r_11 (by apply vp_in_iff.mpr; rw [ng_i (x := r_11) rfl (by omega) (by omega)]; omega)) (cwV 1 hts gX11_check_X11_refuse rfl rfl rfl (by decide +kernel) ⟨(Nat.le_of_ble_eq_true rfl), (Nat.le_of_ble_eq_true rfl)⟩) (pr_V (r := (RX11, TX11, 63)) hP hK hD 0 11 rfl rfl) rfl rfl hl.1 rfl (lv_room (Nat.le_of_ble_eq_true rfl)) dX11_check_28 ⟨(Nat.le_of_ble_eq_true rfl), (Nat.le_of_ble_eq_true rfl)⟩) hS (fun q _ h => hFc q h) hFc (fun r_44 u t H locs ht hvm w_43 hB hz1 hk1 hS => ?_)
      obtain ⟨v_45, fa_46⟩ := u
      obtain ⟨hP1, hK1, hD1⟩ := hB
      rw [ht] at hP1
      have hP : va_P (dC, dI) vwCl (mW g0 pq cp v_45 fa_46) H := hP1
      have hD : va_D A (mW g0 pq cp v_45 fa_46) := hD1.weaken (fun _ _ _ h => hFc _ h)
      clear hP1 hK1 hD1 hk1 hz1 hvm ht hFc
      obtain ⟨-, w_43⟩ := w_43
      have hVv_45 : mV v_45 := sm0_V w_43 gV
      have hAv_45 : mA fa_46 := sm0_A w_43 gA
      have hRv_45 : mX [0, 45, 47, 48, 49, 50, 51, 52, 53, 54, 55, 56, 57, 58, 59, 60, 62] v fa v_45 fa_46 := mX.st mX.rf (mX.s0 w_43) (by decide +kernel)
      exact W.iret (v := r_44) hx hb hr (fun t ht hW => ⟨⟨r_44, (v_45, fa_46), rfl, ⟨hVv_45, hAv_45, hRv_45⟩, ⟨by rw [ht]; exact hP, va_K.moved hW.alike hK, hD⟩⟩, hS.F ht⟩) hS.2.2 dX11_check_31
set_option maxHeartbeats 4000000 in
set_option maxRecDepth 100000 in
theorem c_X11_agreementOf (l : Launch) (dC : Nat → ClassId) (dI : Nat → Nat → Nat) (sz : Nat) (g0 : Nat) (pq : Nat → Nat) (cp : Nat → ClassId) (v : Nat → Int32) (fa : Nat → Nat → Int32) (gV : mV v) (gA : mA fa) (x1 : Int32) (x2 : Int32) : Met l yX11_agreementOf wsX11_agreementOf ({ frames := 2, cells := 0, slots := 0, locals := 44 }) (va_Pc [.ref g0, .int x1, .int x2] (pcW (dC, dI) (mT cp) (mW g0 pq cp v fa) sz)) (va_Qi (fun (r : Int32) (u : (Nat → Int32) × (Nat → Nat → Int32)) => mV u.1 ∧ mA u.2 ∧ mX [0] v fa u.1 u.2) (fun u t => va_P (dC, dI) vwCl (mW g0 pq cp u.1 u.2) t.heap ∧ va_K (dC, dI) vwCl (mT cp) t ∧ va_D (va_A (mW g0 pq cp v fa) sz) (mW g0 pq cp u.1 u.2)) (va_A (mW g0 pq cp v fa) sz)) 0 0 (va_A (mW g0 pq cp v fa) sz) := by
  refine Met.ofW (cc := cX11_agreementOf) (maxL := 3) (ret := (some .int)) (by decide +kernel) rfl ?_
  intro p e s m args below meth c s₁ B hml hv
  obtain ⟨rfl, hsz, hP, hK, hD0⟩ := hv
  have hx := B.exec
  have hb := B.bytes
  have hr := B.returns
  have hts := atoms_spec (ws := wsX11_agreementOf) B.pre
  have hown : s.vm.findClass RX11 = some m.cls := findClass_of_methodNamed B.named
  have hlocks := B.notSynchronized
  subst hsz
  have hD := hD0.self (sz := s.heap.size)
  generalize hAe : va_A (mW g0 pq cp v fa) s.heap.size = A at hD ⊢
  have hA : ∀ q : Nat, s.heap.size ≤ q → A q := fun q h => by rw [← hAe]; exact Or.inr h
  have hS : va_S A s.heap s.heap [] := va_S.rf
  have hP : va_P (dC, dI) vwCl (mW g0 pq cp v fa) s.heap := hP
  have hl := lv_entry ([.ref g0, .int x1, .int x2]) (n := 3) (Nat.le_of_ble_eq_true rfl)
  rw [lg_entry_eq]
  generalize (lg_sl ([.ref g0, .int x1, .int x2]) ++ List.replicate (3 - (lg_sl ([.ref g0, .int x1, .int x2])).length) Slot.unset).toArray = ls at hl ⊢
  have hl : lv_has ls 3 [(0, .ref g0), (1, .int x1), (2, .int x2)] := hl
  refine lv_aload_n hx hb dX11_agreementOf_0 rfl (lv_at hl 0 rfl) ?_
  refine lv_iload_n hx hb dX11_agreementOf_1 rfl (lv_at hl 1 rfl) ?_
  have hFc : ∀ q, va_A [] s.heap.size q → A q := pu_free hS hA
  refine va_calli (va_runV (As := [.int x1]) (rest := []) ⟨hx, hb, hml, hown, hts⟩ (c_X11_isAgreement l dC dI s.heap.size g0 pq cp v fa x1) (cwV 1 hts gX11_agreementOf_X11_isAgreement rfl rfl rfl (by decide +kernel) ⟨(Nat.le_of_ble_eq_true rfl), (Nat.le_of_ble_eq_true rfl)⟩) (pr_V (r := (RX11, TX11, 63)) hP hK hD 0 11 rfl rfl) rfl rfl hl.1 rfl (lv_room (Nat.le_of_ble_eq_true rfl)) dX11_agreementOf_2 ⟨(Nat.le_of_ble_eq_true rfl), (Nat.le_of_ble_eq_true rfl)⟩) hS (fun q _ h => hFc q h) hFc (fun r_2 u t H locs ht hvm w_1 hB hz1 hk1 hS => ?_)
  have hP := pu_keep hP hk1
  clear hk1 hz1 hvm hB ht hFc
  have hbr_2 : 0 ≤ r_2.toInt ∧ r_2.toInt ≤ 1 := iv_of w_1 (isI_i _ _)
  refine lv_if_ne (tgt := 14) hx hb dX11_agreementOf_5 (by decide +kernel) (fun c_3 => ?_) (fun c_3 => ?_)
  · have dc_3 := c_ne (a := r_2.toInt) (b := 0) rfl (by decide +kernel) c_3
    have hi_4 := isI_t w_1 (fun q => c_3 (Int32.toInt_inj.mp q))
    have khi_4 : (v 43).toInt ≤ 60 := (gV 43).2
    refine lv_iload_n hx hb dX11_agreementOf_14 rfl (lv_at hl 2 rfl) ?_
    by_cases q_5 : x2 = 0
    · refine lv_topi (fun y ey => ?_)
      obtain rfl : y = 0 := ey.trans q_5
      refine lv_tableIn (x := 0) (off := 53) (tgt := 68) hx hb dX11_agreementOf_15 (by decide +kernel) (by decide +kernel) (by decide +kernel) (by decide +kernel) ?_
      refine lv_aload_n hx hb dX11_agreementOf_68 rfl (lv_at hl 0 rfl) ?_
      refine va_get (D := (dC, dI)) (ci := 11) (v := .ref (pq 20)) (C := RX11) (T := TX11) (N := 63) hx hb hts in_wsX11_agreementOf_X11 hown hK hP 0 rfl rfl 20 (by decide +kernel) (hts (.fieldLink RX11 70 "ShipOfficeModel" "man" "[I") iw_X11_agreementOf_1) (fun _ h9 => h9) rfl dX11_agreementOf_69 ?_
      refine lv_iload_n hx hb dX11_agreementOf_72 rfl (lv_at hl 1 rfl) ?_
      refine va_iald hx hb hK hP 21 20 rfl rfl (vp_in_iff.mpr (by omega)) dX11_agreementOf_73 ?_
      refine lv_topi (fun x_6 ex_6 => ?_)
      have hx_6 : 0 ≤ x_6.toInt ∧ x_6.toInt ≤ 39 := iv_of ex_6 (gA 20 _)
      clear ex_6
      exact W.iret (v := x_6) hx hb hr (fun t ht hW => ⟨⟨x_6, (v, fa), rfl, ⟨gV, gA, mX.rf⟩, ⟨by rw [ht]; exact hP, va_K.moved hW.alike hK, hD⟩⟩, hS.F ht⟩) hS.2.2 dX11_agreementOf_74
    have n_7 := c_ne (a := x2.toInt) (b := 0) rfl (by decide +kernel) q_5
    by_cases q_8 : x2 = 1
    · refine lv_topi (fun y ey => ?_)
      obtain rfl : y = 1 := ey.trans q_8
      refine lv_tableIn (x := 1) (off := 60) (tgt := 75) hx hb dX11_agreementOf_15 (by decide +kernel) (by decide +kernel) (by decide +kernel) (by decide +kernel) ?_
      refine lv_aload_n hx hb dX11_agreementOf_75 rfl (lv_at hl 0 rfl) ?_
      refine va_get (D := (dC, dI)) (ci := 11) (v := .ref (pq 21)) (C := RX11) (T := TX11) (N := 63) hx hb hts in_wsX11_agreementOf_X11 hown hK hP 0 rfl rfl 21 (by decide +kernel) (hts (.fieldLink RX11 73 "ShipOfficeModel" "voyage" "[I") iw_X11_agreementOf_2) (fun _ h9 => h9) rfl dX11_agreementOf_76 ?_
      refine lv_iload_n hx hb dX11_agreementOf_79 rfl (lv_at hl 1 rfl) ?_
      refine va_iald hx hb hK hP 22 21 rfl rfl (vp_in_iff.mpr (by omega)) dX11_agreementOf_80 ?_
      refine lv_topi (fun x_9 ex_9 => ?_)
      have hx_9 : 0 ≤ x_9.toInt ∧ x_9.toInt ≤ 19 := iv_of ex_9 (gA 21 _)
      clear ex_9
      exact W.iret (v := x_9) hx hb hr (fun t ht hW => ⟨⟨x_9, (v, fa), rfl, ⟨gV, gA, mX.rf⟩, ⟨by rw [ht]; exact hP, va_K.moved hW.alike hK, hD⟩⟩, hS.F ht⟩) hS.2.2 dX11_agreementOf_81
    have n_10 := c_ne (a := x2.toInt) (b := 1) rfl (by decide +kernel) q_8
    by_cases q_11 : x2 = 2
    · refine lv_topi (fun y ey => ?_)
      obtain rfl : y = 2 := ey.trans q_11
      refine lv_tableIn (x := 2) (off := 67) (tgt := 82) hx hb dX11_agreementOf_15 (by decide +kernel) (by decide +kernel) (by decide +kernel) (by decide +kernel) ?_
      refine lv_aload_n hx hb dX11_agreementOf_82 rfl (lv_at hl 0 rfl) ?_
      refine va_get (D := (dC, dI)) (ci := 11) (v := .ref (pq 22)) (C := RX11) (T := TX11) (N := 63) hx hb hts in_wsX11_agreementOf_X11 hown hK hP 0 rfl rfl 22 (by decide +kernel) (hts (.fieldLink RX11 76 "ShipOfficeModel" "wage" "[I") iw_X11_agreementOf_3) (fun _ h9 => h9) rfl dX11_agreementOf_83 ?_
      refine lv_iload_n hx hb dX11_agreementOf_86 rfl (lv_at hl 1 rfl) ?_
      refine va_iald hx hb hK hP 23 22 rfl rfl (vp_in_iff.mpr (by omega)) dX11_agreementOf_87 ?_
      refine lv_topi (fun x_12 ex_12 => ?_)
      clear ex_12
      exact W.iret (v := x_12) hx hb hr (fun t ht hW => ⟨⟨x_12, (v, fa), rfl, ⟨gV, gA, mX.rf⟩, ⟨by rw [ht]; exact hP, va_K.moved hW.alike hK, hD⟩⟩, hS.F ht⟩) hS.2.2 dX11_agreementOf_88
    have n_13 := c_ne (a := x2.toInt) (b := 2) rfl (by decide +kernel) q_11
    by_cases q_14 : x2 = 3
    · refine lv_topi (fun y ey => ?_)
      obtain rfl : y = 3 := ey.trans q_14
      refine lv_tableIn (x := 3) (off := 74) (tgt := 89) hx hb dX11_agreementOf_15 (by decide +kernel) (by decide +kernel) (by decide +kernel) (by decide +kernel) ?_
      refine lv_aload_n hx hb dX11_agreementOf_89 rfl (lv_at hl 0 rfl) ?_
      refine va_get (D := (dC, dI)) (ci := 11) (v := .ref (pq 23)) (C := RX11) (T := TX11) (N := 63) hx hb hts in_wsX11_agreementOf_X11 hown hK hP 0 rfl rfl 23 (by decide +kernel) (hts (.fieldLink RX11 79 "ShipOfficeModel" "rank" "[I") iw_X11_agreementOf_4) (fun _ h9 => h9) rfl dX11_agreementOf_90 ?_
      refine lv_iload_n hx hb dX11_agreementOf_93 rfl (lv_at hl 1 rfl) ?_
      refine va_iald hx hb hK hP 24 23 rfl rfl (vp_in_iff.mpr (by omega)) dX11_agreementOf_94 ?_
      refine lv_topi (fun x_15 ex_15 => ?_)
      clear ex_15
      exact W.iret (v := x_15) hx hb hr (fun t ht hW => ⟨⟨x_15, (v, fa), rfl, ⟨gV, gA, mX.rf⟩, ⟨by rw [ht]; exact hP, va_K.moved hW.alike hK, hD⟩⟩, hS.F ht⟩) hS.2.2 dX11_agreementOf_95
    have n_16 := c_ne (a := x2.toInt) (b := 3) rfl (by decide +kernel) q_14
    by_cases q_17 : x2 = 4
    · refine lv_topi (fun y ey => ?_)
      obtain rfl : y = 4 := ey.trans q_17
      refine lv_tableIn (x := 4) (off := 81) (tgt := 96) hx hb dX11_agreementOf_15 (by decide +kernel) (by decide +kernel) (by decide +kernel) (by decide +kernel) ?_
      refine lv_aload_n hx hb dX11_agreementOf_96 rfl (lv_at hl 0 rfl) ?_
      refine va_get (D := (dC, dI)) (ci := 11) (v := .ref (pq 25)) (C := RX11) (T := TX11) (N := 63) hx hb hts in_wsX11_agreementOf_X11 hown hK hP 0 rfl rfl 25 (by decide +kernel) (hts (.fieldLink RX11 85 "ShipOfficeModel" "signed" "[I") iw_X11_agreementOf_5) (fun _ h9 => h9) rfl dX11_agreementOf_97 ?_
      refine lv_iload_n hx hb dX11_agreementOf_100 rfl (lv_at hl 1 rfl) ?_
      refine va_iald hx hb hK hP 26 25 rfl rfl (vp_in_iff.mpr (by omega)) dX11_agreementOf_101 ?_
      refine lv_topi (fun x_18 ex_18 => ?_)
      have hx_18 : 0 ≤ x_18.toInt ∧ x_18.toInt ≤ 3000 := iv_of ex_18 (gA 25 _)
      clear ex_18
      exact W.iret (v := x_18) hx hb hr (fun t ht hW => ⟨⟨x_18, (v, fa), rfl, ⟨gV, gA, mX.rf⟩, ⟨by rw [ht]; exact hP, va_K.moved hW.alike hK, hD⟩⟩, hS.F ht⟩) hS.2.2 dX11_agreementOf_102
    have n_19 := c_ne (a := x2.toInt) (b := 4) rfl (by decide +kernel) q_17
    by_cases q_20 : x2 = 5
    · refine lv_topi (fun y ey => ?_)
      obtain rfl : y = 5 := ey.trans q_20
      refine lv_tableIn (x := 5) (off := 88) (tgt := 103) hx hb dX11_agreementOf_15 (by decide +kernel) (by decide +kernel) (by decide +kernel) (by decide +kernel) ?_
      refine lv_aload_n hx hb dX11_agreementOf_103 rfl (lv_at hl 0 rfl) ?_
      refine va_get (D := (dC, dI)) (ci := 11) (v := .ref (pq 26)) (C := RX11) (T := TX11) (N := 63) hx hb hts in_wsX11_agreementOf_X11 hown hK hP 0 rfl rfl 26 (by decide +kernel) (hts (.fieldLink RX11 88 "ShipOfficeModel" "offOn" "[I") iw_X11_agreementOf_6) (fun _ h9 => h9) rfl dX11_agreementOf_104 ?_
      refine lv_iload_n hx hb dX11_agreementOf_107 rfl (lv_at hl 1 rfl) ?_
      refine va_iald hx hb hK hP 27 26 rfl rfl (vp_in_iff.mpr (by omega)) dX11_agreementOf_108 ?_
      refine lv_topi (fun x_21 ex_21 => ?_)
      clear ex_21
      refine lv_if_ge (tgt := 117) hx hb dX11_agreementOf_109 (by decide +kernel) (fun c_22 => ?_) (fun c_22 => ?_)
      · have dc_22 := c_le (a := 0) (b := x_21.toInt) (by decide +kernel) rfl c_22
        refine lv_aload_n hx hb dX11_agreementOf_117 rfl (lv_at hl 0 rfl) ?_
        refine va_get (D := (dC, dI)) (ci := 11) (v := .ref (pq 26)) (C := RX11) (T := TX11) (N := 63) hx hb hts in_wsX11_agreementOf_X11 hown hK hP 0 rfl rfl 26 (by decide +kernel) (hts (.fieldLink RX11 88 "ShipOfficeModel" "offOn" "[I") iw_X11_agreementOf_6) (fun _ h9 => h9) rfl dX11_agreementOf_118 ?_
        refine lv_iload_n hx hb dX11_agreementOf_121 rfl (lv_at hl 1 rfl) ?_
        refine va_iald hx hb hK hP 27 26 rfl rfl (vp_in_iff.mpr (by omega)) dX11_agreementOf_122 ?_
        refine lv_topi (fun x_23 ex_23 => ?_)
        clear ex_23
        exact W.iret (v := x_23) hx hb hr (fun t ht hW => ⟨⟨x_23, (v, fa), rfl, ⟨gV, gA, mX.rf⟩, ⟨by rw [ht]; exact hP, va_K.moved hW.alike hK, hD⟩⟩, hS.F ht⟩) hS.2.2 dX11_agreementOf_123
      · have dc_22 := c_nle (a := 0) (b := x_21.toInt) (by decide +kernel) rfl c_22
        refine lv_bipush (v := (-9)) hx hb dX11_agreementOf_112 (by decide +kernel) ?_
        refine lv_goto (tgt := 123) hx hb dX11_agreementOf_114 (by decide +kernel) ?_
        exact W.iret (v := (-9)) hx hb hr (fun t ht hW => ⟨⟨(-9), (v, fa), rfl, ⟨gV, gA, mX.rf⟩, ⟨by rw [ht]; exact hP, va_K.moved hW.alike hK, hD⟩⟩, hS.F ht⟩) hS.2.2 dX11_agreementOf_123
    have n_24 := c_ne (a := x2.toInt) (b := 5) rfl (by decide +kernel) q_20
    by_cases q_25 : x2 = 6
    · refine lv_topi (fun y ey => ?_)
      obtain rfl : y = 6 := ey.trans q_25
      refine lv_tableIn (x := 6) (off := 109) (tgt := 124) hx hb dX11_agreementOf_15 (by decide +kernel) (by decide +kernel) (by decide +kernel) (by decide +kernel) ?_
      refine lv_aload_n hx hb dX11_agreementOf_124 rfl (lv_at hl 0 rfl) ?_
      refine va_get (D := (dC, dI)) (ci := 11) (v := .ref (pq 27)) (C := RX11) (T := TX11) (N := 63) hx hb hts in_wsX11_agreementOf_X11 hown hK hP 0 rfl rfl 27 (by decide +kernel) (hts (.fieldLink RX11 91 "ShipOfficeModel" "note" "[I") iw_X11_agreementOf_7) (fun _ h9 => h9) rfl dX11_agreementOf_125 ?_
      refine lv_iload_n hx hb dX11_agreementOf_128 rfl (lv_at hl 1 rfl) ?_
      refine va_iald hx hb hK hP 28 27 rfl rfl (vp_in_iff.mpr (by omega)) dX11_agreementOf_129 ?_
      refine lv_topi (fun x_26 ex_26 => ?_)
      clear ex_26
      exact W.iret (v := x_26) hx hb hr (fun t ht hW => ⟨⟨x_26, (v, fa), rfl, ⟨gV, gA, mX.rf⟩, ⟨by rw [ht]; exact hP, va_K.moved hW.alike hK, hD⟩⟩, hS.F ht⟩) hS.2.2 dX11_agreementOf_130
    have n_27 := c_ne (a := x2.toInt) (b := 6) rfl (by decide +kernel) q_25
    by_cases q_28 : x2 = 7
    · refine lv_topi (fun y ey => ?_)
      obtain rfl : y = 7 := ey.trans q_28
      refine lv_tableIn (x := 7) (off := 116) (tgt := 131) hx hb dX11_agreementOf_15 (by decide +kernel) (by decide +kernel) (by decide +kernel) (by decide +kernel) ?_
      refine lv_aload_n hx hb dX11_agreementOf_131 rfl (lv_at hl 0 rfl) ?_
      refine va_get (D := (dC, dI)) (ci := 11) (v := .ref (pq 28)) (C := RX11) (T := TX11) (N := 63) hx hb hts in_wsX11_agreementOf_X11 hown hK hP 0 rfl rfl 28 (by decide +kernel) (hts (.fieldLink RX11 94 "ShipOfficeModel" "given" "[I") iw_X11_agreementOf_8) (fun _ h9 => h9) rfl dX11_agreementOf_132 ?_
      refine lv_iload_n hx hb dX11_agreementOf_135 rfl (lv_at hl 1 rfl) ?_
      refine va_iald hx hb hK hP 29 28 rfl rfl (vp_in_iff.mpr (by omega)) dX11_agreementOf_136 ?_
      refine lv_topi (fun x_29 ex_29 => ?_)
      clear ex_29
      exact W.iret (v := x_29) hx hb hr (fun t ht hW => ⟨⟨x_29, (v, fa), rfl, ⟨gV, gA, mX.rf⟩, ⟨by rw [ht]; exact hP, va_K.moved hW.alike hK, hD⟩⟩, hS.F ht⟩) hS.2.2 dX11_agreementOf_137
    have n_30 := c_ne (a := x2.toInt) (b := 7) rfl (by decide +kernel) q_28
    by_cases q_31 : x2 = 8
    · refine lv_topi (fun y ey => ?_)
      obtain rfl : y = 8 := ey.trans q_31
      refine lv_tableIn (x := 8) (off := 123) (tgt := 138) hx hb dX11_agreementOf_15 (by decide +kernel) (by decide +kernel) (by decide +kernel) (by decide +kernel) ?_
      refine lv_aload_n hx hb dX11_agreementOf_138 rfl (lv_at hl 0 rfl) ?_
      refine va_get (D := (dC, dI)) (ci := 11) (v := .ref (pq 29)) (C := RX11) (T := TX11) (N := 63) hx hb hts in_wsX11_agreementOf_X11 hown hK hP 0 rfl rfl 29 (by decide +kernel) (hts (.fieldLink RX11 97 "ShipOfficeModel" "allotted" "[I") iw_X11_agreementOf_9) (fun _ h9 => h9) rfl dX11_agreementOf_139 ?_
      refine lv_iload_n hx hb dX11_agreementOf_142 rfl (lv_at hl 1 rfl) ?_
      refine va_iald hx hb hK hP 30 29 rfl rfl (vp_in_iff.mpr (by omega)) dX11_agreementOf_143 ?_
      refine lv_topi (fun x_32 ex_32 => ?_)
      clear ex_32
      exact W.iret (v := x_32) hx hb hr (fun t ht hW => ⟨⟨x_32, (v, fa), rfl, ⟨gV, gA, mX.rf⟩, ⟨by rw [ht]; exact hP, va_K.moved hW.alike hK, hD⟩⟩, hS.F ht⟩) hS.2.2 dX11_agreementOf_144
    have n_33 := c_ne (a := x2.toInt) (b := 8) rfl (by decide +kernel) q_31
    by_cases q_34 : x2 = 9
    · refine lv_topi (fun y ey => ?_)
      obtain rfl : y = 9 := ey.trans q_34
      refine lv_tableIn (x := 9) (off := 130) (tgt := 145) hx hb dX11_agreementOf_15 (by decide +kernel) (by decide +kernel) (by decide +kernel) (by decide +kernel) ?_
      refine lv_aload_n hx hb dX11_agreementOf_145 rfl (lv_at hl 0 rfl) ?_
      refine lv_iload_n hx hb dX11_agreementOf_146 rfl (lv_at hl 1 rfl) ?_
      have hFc : ∀ q, va_A [] H.size q → A q := pu_free hS hA
      refine va_calli (va_runV (As := [.int x1]) (rest := []) ⟨hx, hb, hml, hown, hts⟩ (c_X11_goesOn l dC dI H.size g0 pq cp v fa (v 41).toNatClampNeg (cn_le (n := 200) (gV 41)) (cn_eq (n := 200) (gV 41)) x1 (vp_in_iff.mpr (by omega))) (cwV 1 hts gX11_agreementOf_X11_goesOn rfl rfl rfl (by decide +kernel) ⟨(Nat.le_of_ble_eq_true rfl), (Nat.le_of_ble_eq_true rfl)⟩) (pr_V (r := (RX11, TX11, 63)) hP hK hD 0 11 rfl rfl) rfl rfl hl.1 rfl (lv_room (Nat.le_of_ble_eq_true rfl)) dX11_agreementOf_147 ⟨(Nat.le_of_ble_eq_true rfl), (Nat.le_of_ble_eq_true rfl)⟩) hS (fun q _ h => hFc q h) hFc (fun r_36 u t H locs ht hvm w_35 hB hz1 hk1 hS => ?_)
      have hP := pu_keep hP hk1
      clear hk1 hz1 hvm hB ht hFc
      have hb_37 : 0 ≤ r_36.toInt ∧ r_36.toInt ≤ 1 := z1_i w_35
      refine lv_if_eq (tgt := 157) hx hb dX11_agreementOf_150 (by decide +kernel) (fun c_38 => ?_) (fun c_38 => ?_)
      · have dc_38 := c_eq (a := r_36.toInt) (b := 0) rfl (by decide +kernel) c_38
        refine lv_iconst (v := 0) hx hb dX11_agreementOf_157 (by decide +kernel) ?_
        exact W.iret (v := 0) hx hb hr (fun t ht hW => ⟨⟨0, (v, fa), rfl, ⟨gV, gA, mX.rf⟩, ⟨by rw [ht]; exact hP, va_K.moved hW.alike hK, hD⟩⟩, hS.F ht⟩) hS.2.2 dX11_agreementOf_158
      · have dc_38 := c_ne (a := r_36.toInt) (b := 0) rfl (by decide +kernel) c_38
        refine lv_iconst (v := 1) hx hb dX11_agreementOf_153 (by decide +kernel) ?_
        refine lv_goto (tgt := 158) hx hb dX11_agreementOf_154 (by decide +kernel) ?_
        exact W.iret (v := 1) hx hb hr (fun t ht hW => ⟨⟨1, (v, fa), rfl, ⟨gV, gA, mX.rf⟩, ⟨by rw [ht]; exact hP, va_K.moved hW.alike hK, hD⟩⟩, hS.F ht⟩) hS.2.2 dX11_agreementOf_158
    have n_39 := c_ne (a := x2.toInt) (b := 9) rfl (by decide +kernel) q_34
    refine lv_tableOut (tgt := 159) hx hb dX11_agreementOf_15 (by omega) (by decide +kernel) ?_
    refine lv_aload_n hx hb dX11_agreementOf_159 rfl (lv_at hl 0 rfl) ?_
    refine lv_bipush (v := (-2)) hx hb dX11_agreementOf_160 (by decide +kernel) ?_
    have hFc := va_free (wc := (mW g0 pq cp v fa)) hD hS hA (List.range 48) rfl
    refine va_calli (va_runV (As := [.int (-2)]) (rest := []) ⟨hx, hb, hml, hown, hts⟩ (c_X11_refuse l dC dI H.size g0 pq cp v fa (-2) (by unfold vp_in; decide)) (cwV 1 hts gX11_agreementOf_X11_refuse rfl rfl rfl (by decide +kernel) ⟨(Nat.le_of_ble_eq_true rfl), (Nat.le_of_ble_eq_true rfl)⟩) (pr_V (r := (RX11, TX11, 63)) hP hK hD 0 11 rfl rfl) rfl rfl hl.1 rfl (lv_room (Nat.le_of_ble_eq_true rfl)) dX11_agreementOf_162 ⟨(Nat.le_of_ble_eq_true rfl), (Nat.le_of_ble_eq_true rfl)⟩) hS (fun q _ h => hFc q h) hFc (fun r_41 u t H locs ht hvm w_40 hB hz1 hk1 hS => ?_)
    obtain ⟨v_42, fa_43⟩ := u
    obtain ⟨hP1, hK1, hD1⟩ := hB
    rw [ht] at hP1
    have hP : va_P (dC, dI) vwCl (mW g0 pq cp v_42 fa_43) H := hP1
    have hD : va_D A (mW g0 pq cp v_42 fa_43) := hD1.weaken (fun _ _ _ h => hFc _ h)
    clear hP1 hK1 hD1 hk1 hz1 hvm ht hFc
    obtain ⟨rfl, w_40⟩ := w_40
    have hVv_42 : mV v_42 := sm0_V w_40 gV
    have hAv_42 : mA fa_43 := sm0_A w_40 gA
    have hRv_42 : mX [0] v fa v_42 fa_43 := mX.st mX.rf (mX.s0 w_40) (by decide +kernel)
    exact W.iret (v := (-2)) hx hb hr (fun t ht hW => ⟨⟨(-2), (v_42, fa_43), rfl, ⟨hVv_42, hAv_42, hRv_42⟩, ⟨by rw [ht]; exact hP, va_K.moved hW.alike hK, hD⟩⟩, hS.F ht⟩) hS.2.2 dX11_agreementOf_165
  · have dc_3 := c_eq (a := r_2.toInt) (b := 0) rfl (by decide +kernel) c_3
    refine lv_aload_n hx hb dX11_agreementOf_8 rfl (lv_at hl 0 rfl) ?_
    refine lv_iconst (v := (-1)) hx hb dX11_agreementOf_9 (by decide +kernel) ?_
    have hFc := va_free (wc := (mW g0 pq cp v fa)) hD hS hA (List.range 48) rfl
    refine va_calli (va_runV (As := [.int (-1)]) (rest := []) ⟨hx, hb, hml, hown, hts⟩ (c_X11_refuse l dC dI H.size g0 pq cp v fa (-1) (by unfold vp_in; decide)) (cwV 1 hts gX11_agreementOf_X11_refuse rfl rfl rfl (by decide +kernel) ⟨(Nat.le_of_ble_eq_true rfl), (Nat.le_of_ble_eq_true rfl)⟩) (pr_V (r := (RX11, TX11, 63)) hP hK hD 0 11 rfl rfl) rfl rfl hl.1 rfl (lv_room (Nat.le_of_ble_eq_true rfl)) dX11_agreementOf_10 ⟨(Nat.le_of_ble_eq_true rfl), (Nat.le_of_ble_eq_true rfl)⟩) hS (fun q _ h => hFc q h) hFc (fun r_45 u t H locs ht hvm w_44 hB hz1 hk1 hS => ?_)
    obtain ⟨v_46, fa_47⟩ := u
    obtain ⟨hP1, hK1, hD1⟩ := hB
    rw [ht] at hP1
    have hP : va_P (dC, dI) vwCl (mW g0 pq cp v_46 fa_47) H := hP1
    have hD : va_D A (mW g0 pq cp v_46 fa_47) := hD1.weaken (fun _ _ _ h => hFc _ h)
    clear hP1 hK1 hD1 hk1 hz1 hvm ht hFc
    obtain ⟨rfl, w_44⟩ := w_44
    have hVv_46 : mV v_46 := sm0_V w_44 gV
    have hAv_46 : mA fa_47 := sm0_A w_44 gA
    have hRv_46 : mX [0] v fa v_46 fa_47 := mX.st mX.rf (mX.s0 w_44) (by decide +kernel)
    exact W.iret (v := (-1)) hx hb hr (fun t ht hW => ⟨⟨(-1), (v_46, fa_47), rfl, ⟨hVv_46, hAv_46, hRv_46⟩, ⟨by rw [ht]; exact hP, va_K.moved hW.alike hK, hD⟩⟩, hS.F ht⟩) hS.2.2 dX11_agreementOf_13
set_option maxHeartbeats 4000000 in
set_option maxRecDepth 100000 in
theorem c_X11_count (l : Launch) (dC : Nat → ClassId) (dI : Nat → Nat → Nat) (sz : Nat) (g0 : Nat) (pq : Nat → Nat) (cp : Nat → ClassId) (v : Nat → Int32) (fa : Nat → Nat → Int32) (gV : mV v) (gA : mA fa) (x1 : Int32) : Met l yX11_count wsX11_count ({ frames := 2, cells := 0, slots := 0, locals := 44 }) (va_Pc [.ref g0, .int x1] (pcW (dC, dI) (mT cp) (mW g0 pq cp v fa) sz)) (va_Qi (fun (r : Int32) (u : Unit) => True) (fun _ _ => True) (va_A [] sz)) 0 0 (va_A [] sz) := by
  refine Met.ofW (cc := cX11_count) (maxL := 4) (ret := (some .int)) (by decide +kernel) rfl ?_
  intro p e s m args below meth c s₁ B hml hv
  obtain ⟨rfl, hsz, hP, hK, hD0⟩ := hv
  have hx := B.exec
  have hb := B.bytes
  have hr := B.returns
  have hts := atoms_spec (ws := wsX11_count) B.pre
  have hown : s.vm.findClass RX11 = some m.cls := findClass_of_methodNamed B.named
  have hlocks := B.notSynchronized
  subst hsz
  have hD := hD0
  generalize hAe : va_A [] s.heap.size = A at ⊢
  have hA : ∀ q : Nat, s.heap.size ≤ q → A q := fun q h => by rw [← hAe]; exact Or.inr h
  have hS : va_S A s.heap s.heap [] := va_S.rf
  have hP : va_P (dC, dI) vwCl (mW g0 pq cp v fa) s.heap := hP
  have hl := lv_entry ([.ref g0, .int x1]) (n := 4) (Nat.le_of_ble_eq_true rfl)
  rw [lg_entry_eq]
  generalize (lg_sl ([.ref g0, .int x1]) ++ List.replicate (4 - (lg_sl ([.ref g0, .int x1])).length) Slot.unset).toArray = ls at hl ⊢
  have hl : lv_has ls 4 [(0, .ref g0), (1, .int x1)] := hl
  refine lv_iload_n hx hb dX11_count_0 rfl (lv_at hl 1 rfl) ?_
  refine lv_bipush (v := 10) hx hb dX11_count_1 (by decide +kernel) ?_
  refine lv_icmp_le (tgt := 22) hx hb dX11_count_3 (by decide +kernel) (fun c_1 => ?_) (fun c_1 => ?_)
  · have dc_1 := c_le (a := x1.toInt) (b := 10) rfl (by decide +kernel) c_1
    refine lv_iconst (v := 0) hx hb dX11_count_22 (by decide +kernel) ?_
    refine lv_istore_n (lv' := [(2, .int 0), (0, .ref g0), (1, .int x1)]) hx hb dX11_count_23 rfl hl (by decide +kernel) rfl (fun ls hl => ?_)
    refine lv_iload_n hx hb dX11_count_24 rfl (lv_at hl 2 rfl) ?_
    by_cases q_2 : x1 = 0
    · refine lv_topi (fun y ey => ?_)
      obtain rfl : y = 0 := ey.trans q_2
      refine lv_tableIn (x := 0) (off := 87) (tgt := 112) hx hb dX11_count_25 (by decide +kernel) (by decide +kernel) (by decide +kernel) (by decide +kernel) ?_
      refine lv_aload_n hx hb dX11_count_112 rfl (lv_at hl 1 rfl) ?_
      refine va_get (D := (dC, dI)) (ci := 11) (v := .int (v 38)) (C := RX11) (T := TX11) (N := 63) hx hb hts in_wsX11_count_X11 hown hK hP 0 rfl rfl 38 (by decide +kernel) (hts (.fieldLink RX11 171 "ShipOfficeModel" "now" "I") iw_X11_count_1) (fun _ h9 => h9) rfl dX11_count_113 ?_
      refine lv_topi (fun x_3 ex_3 => ?_)
      have hx_3 : 0 ≤ x_3.toInt ∧ x_3.toInt ≤ 3000 := iv_of ex_3 (gV 38)
      clear ex_3
      exact W.iret (v := x_3) hx hb hr (fun t ht hW => ⟨⟨x_3, (), rfl, trivial, trivial⟩, hS.F ht⟩) hS.2.2 dX11_count_116
    have n_4 := c_ne (a := x1.toInt) (b := 0) rfl (by decide +kernel) q_2
    by_cases q_5 : x1 = 1
    · refine lv_topi (fun y ey => ?_)
      obtain rfl : y = 1 := ey.trans q_5
      refine lv_tableIn (x := 1) (off := 92) (tgt := 117) hx hb dX11_count_25 (by decide +kernel) (by decide +kernel) (by decide +kernel) (by decide +kernel) ?_
      refine lv_aload_n hx hb dX11_count_117 rfl (lv_at hl 1 rfl) ?_
      refine va_get (D := (dC, dI)) (ci := 11) (v := .int (v 39)) (C := RX11) (T := TX11) (N := 63) hx hb hts in_wsX11_count_X11 hown hK hP 0 rfl rfl 39 (by decide +kernel) (hts (.fieldLink RX11 157 "ShipOfficeModel" "men" "I") iw_X11_count_2) (fun _ h9 => h9) rfl dX11_count_118 ?_
      refine lv_topi (fun x_6 ex_6 => ?_)
      have hx_6 : 0 ≤ x_6.toInt ∧ x_6.toInt ≤ 40 := iv_of ex_6 (gV 39)
      clear ex_6
      exact W.iret (v := x_6) hx hb hr (fun t ht hW => ⟨⟨x_6, (), rfl, trivial, trivial⟩, hS.F ht⟩) hS.2.2 dX11_count_121
    have n_7 := c_ne (a := x1.toInt) (b := 1) rfl (by decide +kernel) q_5
    by_cases q_8 : x1 = 2
    · refine lv_topi (fun y ey => ?_)
      obtain rfl : y = 2 := ey.trans q_8
      refine lv_tableIn (x := 2) (off := 97) (tgt := 122) hx hb dX11_count_25 (by decide +kernel) (by decide +kernel) (by decide +kernel) (by decide +kernel) ?_
      refine lv_aload_n hx hb dX11_count_122 rfl (lv_at hl 1 rfl) ?_
      refine va_get (D := (dC, dI)) (ci := 11) (v := .int (v 40)) (C := RX11) (T := TX11) (N := 63) hx hb hts in_wsX11_count_X11 hown hK hP 0 rfl rfl 40 (by decide +kernel) (hts (.fieldLink RX11 165 "ShipOfficeModel" "voyages" "I") iw_X11_count_3) (fun _ h9 => h9) rfl dX11_count_123 ?_
      refine lv_topi (fun x_9 ex_9 => ?_)
      have hx_9 : 0 ≤ x_9.toInt ∧ x_9.toInt ≤ 20 := iv_of ex_9 (gV 40)
      clear ex_9
      exact W.iret (v := x_9) hx hb hr (fun t ht hW => ⟨⟨x_9, (), rfl, trivial, trivial⟩, hS.F ht⟩) hS.2.2 dX11_count_126
    have n_10 := c_ne (a := x1.toInt) (b := 2) rfl (by decide +kernel) q_8
    by_cases q_11 : x1 = 3
    · refine lv_topi (fun y ey => ?_)
      obtain rfl : y = 3 := ey.trans q_11
      refine lv_tableIn (x := 3) (off := 102) (tgt := 127) hx hb dX11_count_25 (by decide +kernel) (by decide +kernel) (by decide +kernel) (by decide +kernel) ?_
      refine lv_iconst (v := 0) hx hb dX11_count_127 (by decide +kernel) ?_
      refine lv_istore_n (lv' := [(3, .int 0), (2, .int 0), (0, .ref g0), (1, .int x1)]) hx hb dX11_count_128 rfl hl (by decide +kernel) rfl (fun ls hl => ?_)
      have cut_12 : ∀ (n : Nat) (y_13 : Int32) (y_14 : Int32) (H : Heap) (locs : List Loc) (ls : Array Slot), 20 - y_13.toInt ≤ (n : Int) → (0 ≤ y_13.toInt ∧ y_13.toInt ≤ 20) → va_P (dC, dI) vwCl (mW g0 pq cp v fa) H → va_S A s.heap H locs → lv_has ls 4 [(3, .int y_13), (2, .int y_14), (0, .ref g0), (1, .int x1)] → W p l e (headSpec wsX11_count { frames := 2, cells := 0, slots := 0, locals := 44 }).room s m #[Value.ref g0, Value.int x1] below meth c H locs 0 0 (MQ below (va_Qi (fun (r : Int32) (u : Unit) => True) (fun _ _ => True) A) #[Value.ref g0, Value.int x1] s 0 0 A) (F0 m 129 ls []) := by
        intro n
        induction n using Nat.strongRecOn with
        | ind n ih =>
          intro y_13 y_14 H locs ls hm hy_13 hP hS hl
          refine lv_iload_n hx hb dX11_count_129 rfl (lv_at hl 0 rfl) ?_
          refine lv_aload_n hx hb dX11_count_130 rfl (lv_at hl 2 rfl) ?_
          refine va_get (D := (dC, dI)) (ci := 11) (v := .int (v 40)) (C := RX11) (T := TX11) (N := 63) hx hb hts in_wsX11_count_X11 hown hK hP 0 rfl rfl 40 (by decide +kernel) (hts (.fieldLink RX11 165 "ShipOfficeModel" "voyages" "I") iw_X11_count_3) (fun _ h9 => h9) rfl dX11_count_131 ?_
          refine lv_topi (fun x_15 ex_15 => ?_)
          have hx_15 : 0 ≤ x_15.toInt ∧ x_15.toInt ≤ 20 := iv_of ex_15 (gV 40)
          clear ex_15
          refine lv_icmp_ge (tgt := 160) hx hb dX11_count_134 (by decide +kernel) (fun c_16 => ?_) (fun c_16 => ?_)
          · have dc_16 := c_le (a := x_15.toInt) (b := y_13.toInt) rfl rfl c_16
            refine lv_iload_n hx hb dX11_count_160 rfl (lv_at hl 1 rfl) ?_
            exact W.iret (v := y_14) hx hb hr (fun t ht hW => ⟨⟨y_14, (), rfl, trivial, trivial⟩, hS.F ht⟩) hS.2.2 dX11_count_161
          · have dc_16 := c_nle (a := x_15.toInt) (b := y_13.toInt) rfl rfl c_16
            refine lv_iload_n hx hb dX11_count_137 rfl (lv_at hl 1 rfl) ?_
            refine lv_aload_n hx hb dX11_count_138 rfl (lv_at hl 2 rfl) ?_
            refine va_get (D := (dC, dI)) (ci := 11) (v := .ref (pq 9)) (C := RX11) (T := TX11) (N := 63) hx hb hts in_wsX11_count_X11 hown hK hP 0 rfl rfl 9 (by decide +kernel) (hts (.fieldLink RX11 37 "ShipOfficeModel" "endedOn" "[I") iw_X11_count_4) (fun _ h9 => h9) rfl dX11_count_139 ?_
            refine lv_iload_n hx hb dX11_count_142 rfl (lv_at hl 0 rfl) ?_
            refine va_iald hx hb hK hP 10 9 rfl rfl (vp_in_iff.mpr (by omega)) dX11_count_143 ?_
            refine lv_topi (fun x_17 ex_17 => ?_)
            clear ex_17
            refine lv_if_ge (tgt := 151) hx hb dX11_count_144 (by decide +kernel) (fun c_18 => ?_) (fun c_18 => ?_)
            · have dc_18 := c_le (a := 0) (b := x_17.toInt) (by decide +kernel) rfl c_18
              refine lv_iconst (v := 0) hx hb dX11_count_151 (by decide +kernel) ?_
              refine lv_iadd hx hb dX11_count_152 ?_
              refine lv_topi (fun x_19 ex_19 => ?_)
              clear ex_19
              refine lv_istore_n (lv' := [(2, .int x_19), (3, .int y_13), (0, .ref g0), (1, .int x1)]) hx hb dX11_count_153 rfl hl (by decide +kernel) rfl (fun ls hl => ?_)
              obtain ⟨x_20, ex_20⟩ : ∃ zq : Int32, y_13 + 1 = zq := ⟨_, rfl⟩
              have hx_20 : x_20.toInt = y_13.toInt + 1 := (iv_to ex_20).symm.trans (ad_i rfl (by decide +kernel) (by omega) (by omega))
              refine lv_iinc (v := x_20) (lv' := [(3, .int x_20), (2, .int x_19), (0, .ref g0), (1, .int x1)]) hx hb dX11_count_154 hl (k := 1) rfl ex_20 (by decide +kernel) rfl (fun ls hl => ?_)
              clear ex_20
              refine lv_goto (tgt := 129) hx hb dX11_count_157 (by decide +kernel) ?_
              exact ih (n - 1) (by omega) x_20 x_19 _ _ ls (by omega) (by omega) hP hS (lv_sub hl [0, 1, 2, 3] rfl)
            · have dc_18 := c_nle (a := 0) (b := x_17.toInt) (by decide +kernel) rfl c_18
              refine lv_iconst (v := 1) hx hb dX11_count_147 (by decide +kernel) ?_
              refine lv_goto (tgt := 152) hx hb dX11_count_148 (by decide +kernel) ?_
              refine lv_iadd hx hb dX11_count_152 ?_
              refine lv_topi (fun x_21 ex_21 => ?_)
              clear ex_21
              refine lv_istore_n (lv' := [(2, .int x_21), (3, .int y_13), (0, .ref g0), (1, .int x1)]) hx hb dX11_count_153 rfl hl (by decide +kernel) rfl (fun ls hl => ?_)
              obtain ⟨x_22, ex_22⟩ : ∃ zq : Int32, y_13 + 1 = zq := ⟨_, rfl⟩
              have hx_22 : x_22.toInt = y_13.toInt + 1 := (iv_to ex_22).symm.trans (ad_i rfl (by decide +kernel) (by omega) (by omega))
              refine lv_iinc (v := x_22) (lv' := [(3, .int x_22), (2, .int x_21), (0, .ref g0), (1, .int x1)]) hx hb dX11_count_154 hl (k := 1) rfl ex_22 (by decide +kernel) rfl (fun ls hl => ?_)
              clear ex_22
              refine lv_goto (tgt := 129) hx hb dX11_count_157 (by decide +kernel) ?_
              exact ih (n - 1) (by omega) x_22 x_21 _ _ ls (by omega) (by omega) hP hS (lv_sub hl [0, 1, 2, 3] rfl)
      have kc_23 : (0 : Int32).toInt = 0 := by decide
      exact cut_12 21 0 0 _ _ ls (by omega) (by decide +kernel) hP hS (lv_sub hl [0, 1, 2, 3] rfl)
    have n_24 := c_ne (a := x1.toInt) (b := 3) rfl (by decide +kernel) q_11
    by_cases q_25 : x1 = 4
    · refine lv_topi (fun y ey => ?_)
      obtain rfl : y = 4 := ey.trans q_25
      refine lv_tableIn (x := 4) (off := 137) (tgt := 162) hx hb dX11_count_25 (by decide +kernel) (by decide +kernel) (by decide +kernel) (by decide +kernel) ?_
      refine lv_aload_n hx hb dX11_count_162 rfl (lv_at hl 1 rfl) ?_
      refine va_get (D := (dC, dI)) (ci := 11) (v := .int (v 43)) (C := RX11) (T := TX11) (N := 63) hx hb hts in_wsX11_count_X11 hown hK hP 0 rfl rfl 43 (by decide +kernel) (hts (.fieldLink RX11 168 "ShipOfficeModel" "agreements" "I") iw_X11_count_5) (fun _ h9 => h9) rfl dX11_count_163 ?_
      refine lv_topi (fun x_26 ex_26 => ?_)
      have hx_26 : 0 ≤ x_26.toInt ∧ x_26.toInt ≤ 60 := iv_of ex_26 (gV 43)
      clear ex_26
      exact W.iret (v := x_26) hx hb hr (fun t ht hW => ⟨⟨x_26, (), rfl, trivial, trivial⟩, hS.F ht⟩) hS.2.2 dX11_count_166
    have n_27 := c_ne (a := x1.toInt) (b := 4) rfl (by decide +kernel) q_25
    by_cases q_28 : x1 = 5
    · refine lv_topi (fun y ey => ?_)
      obtain rfl : y = 5 := ey.trans q_28
      refine lv_tableIn (x := 5) (off := 142) (tgt := 167) hx hb dX11_count_25 (by decide +kernel) (by decide +kernel) (by decide +kernel) (by decide +kernel) ?_
      refine lv_iconst (v := 0) hx hb dX11_count_167 (by decide +kernel) ?_
      refine lv_istore_n (lv' := [(3, .int 0), (2, .int 0), (0, .ref g0), (1, .int x1)]) hx hb dX11_count_168 rfl hl (by decide +kernel) rfl (fun ls hl => ?_)
      have cut_29 : ∀ (n : Nat) (y_30 : Int32) (y_31 : Int32) (H : Heap) (locs : List Loc) (ls : Array Slot), 60 - y_30.toInt ≤ (n : Int) → (0 ≤ y_30.toInt ∧ y_30.toInt ≤ 60) → va_P (dC, dI) vwCl (mW g0 pq cp v fa) H → va_S A s.heap H locs → lv_has ls 4 [(3, .int y_30), (2, .int y_31), (0, .ref g0), (1, .int x1)] → W p l e (headSpec wsX11_count { frames := 2, cells := 0, slots := 0, locals := 44 }).room s m #[Value.ref g0, Value.int x1] below meth c H locs 0 0 (MQ below (va_Qi (fun (r : Int32) (u : Unit) => True) (fun _ _ => True) A) #[Value.ref g0, Value.int x1] s 0 0 A) (F0 m 169 ls []) := by
        intro n
        induction n using Nat.strongRecOn with
        | ind n ih =>
          intro y_30 y_31 H locs ls hm hy_30 hP hS hl
          refine lv_iload_n hx hb dX11_count_169 rfl (lv_at hl 0 rfl) ?_
          refine lv_aload_n hx hb dX11_count_170 rfl (lv_at hl 2 rfl) ?_
          refine va_get (D := (dC, dI)) (ci := 11) (v := .int (v 43)) (C := RX11) (T := TX11) (N := 63) hx hb hts in_wsX11_count_X11 hown hK hP 0 rfl rfl 43 (by decide +kernel) (hts (.fieldLink RX11 168 "ShipOfficeModel" "agreements" "I") iw_X11_count_5) (fun _ h9 => h9) rfl dX11_count_171 ?_
          refine lv_topi (fun x_32 ex_32 => ?_)
          have hx_32 : 0 ≤ x_32.toInt ∧ x_32.toInt ≤ 60 := iv_of ex_32 (gV 43)
          clear ex_32
          refine lv_icmp_ge (tgt := 199) hx hb dX11_count_174 (by decide +kernel) (fun c_33 => ?_) (fun c_33 => ?_)
          · have dc_33 := c_le (a := x_32.toInt) (b := y_30.toInt) rfl rfl c_33
            refine lv_iload_n hx hb dX11_count_199 rfl (lv_at hl 1 rfl) ?_
            exact W.iret (v := y_31) hx hb hr (fun t ht hW => ⟨⟨y_31, (), rfl, trivial, trivial⟩, hS.F ht⟩) hS.2.2 dX11_count_200
          · have dc_33 := c_nle (a := x_32.toInt) (b := y_30.toInt) rfl rfl c_33
            refine lv_iload_n hx hb dX11_count_177 rfl (lv_at hl 1 rfl) ?_
            refine lv_aload_n hx hb dX11_count_178 rfl (lv_at hl 2 rfl) ?_
            refine lv_iload_n hx hb dX11_count_179 rfl (lv_at hl 0 rfl) ?_
            have hFc : ∀ q, va_A [] H.size q → A q := pu_free hS hA
            refine va_calli (va_runV (As := [.int y_30]) (rest := [.int y_31]) ⟨hx, hb, hml, hown, hts⟩ (c_X11_goesOn l dC dI H.size g0 pq cp v fa (v 41).toNatClampNeg (cn_le (n := 200) (gV 41)) (cn_eq (n := 200) (gV 41)) y_30 (vp_in_iff.mpr (by omega))) (cwV 1 hts gX11_count_X11_goesOn rfl rfl rfl (by decide +kernel) ⟨(Nat.le_of_ble_eq_true rfl), (Nat.le_of_ble_eq_true rfl)⟩) (pr_V (r := (RX11, TX11, 63)) hP hK hD 0 11 rfl rfl) rfl rfl hl.1 rfl (lv_room (Nat.le_of_ble_eq_true rfl)) dX11_count_180 ⟨(Nat.le_of_ble_eq_true rfl), (Nat.le_of_ble_eq_true rfl)⟩) hS (fun q _ h => hFc q h) hFc (fun r_35 u t H locs ht hvm w_34 hB hz1 hk1 hS => ?_)
            have hP := pu_keep hP hk1
            clear hk1 hz1 hvm hB ht hFc
            have hb_36 : 0 ≤ r_35.toInt ∧ r_35.toInt ≤ 1 := z1_i w_34
            refine lv_if_eq (tgt := 190) hx hb dX11_count_183 (by decide +kernel) (fun c_37 => ?_) (fun c_37 => ?_)
            · have dc_37 := c_eq (a := r_35.toInt) (b := 0) rfl (by decide +kernel) c_37
              refine lv_iconst (v := 0) hx hb dX11_count_190 (by decide +kernel) ?_
              refine lv_iadd hx hb dX11_count_191 ?_
              refine lv_topi (fun x_38 ex_38 => ?_)
              clear ex_38
              refine lv_istore_n (lv' := [(2, .int x_38), (3, .int y_30), (0, .ref g0), (1, .int x1)]) hx hb dX11_count_192 rfl hl (by decide +kernel) rfl (fun ls hl => ?_)
              obtain ⟨x_39, ex_39⟩ : ∃ zq : Int32, y_30 + 1 = zq := ⟨_, rfl⟩
              have hx_39 : x_39.toInt = y_30.toInt + 1 := (iv_to ex_39).symm.trans (ad_i rfl (by decide +kernel) (by omega) (by omega))
              refine lv_iinc (v := x_39) (lv' := [(3, .int x_39), (2, .int x_38), (0, .ref g0), (1, .int x1)]) hx hb dX11_count_193 hl (k := 1) rfl ex_39 (by decide +kernel) rfl (fun ls hl => ?_)
              clear ex_39
              refine lv_goto (tgt := 169) hx hb dX11_count_196 (by decide +kernel) ?_
              exact ih (n - 1) (by omega) x_39 x_38 _ _ ls (by omega) (by omega) hP hS (lv_sub hl [0, 1, 2, 3] rfl)
            · have dc_37 := c_ne (a := r_35.toInt) (b := 0) rfl (by decide +kernel) c_37
              refine lv_iconst (v := 1) hx hb dX11_count_186 (by decide +kernel) ?_
              refine lv_goto (tgt := 191) hx hb dX11_count_187 (by decide +kernel) ?_
              refine lv_iadd hx hb dX11_count_191 ?_
              refine lv_topi (fun x_40 ex_40 => ?_)
              clear ex_40
              refine lv_istore_n (lv' := [(2, .int x_40), (3, .int y_30), (0, .ref g0), (1, .int x1)]) hx hb dX11_count_192 rfl hl (by decide +kernel) rfl (fun ls hl => ?_)
              obtain ⟨x_41, ex_41⟩ : ∃ zq : Int32, y_30 + 1 = zq := ⟨_, rfl⟩
              have hx_41 : x_41.toInt = y_30.toInt + 1 := (iv_to ex_41).symm.trans (ad_i rfl (by decide +kernel) (by omega) (by omega))
              refine lv_iinc (v := x_41) (lv' := [(3, .int x_41), (2, .int x_40), (0, .ref g0), (1, .int x1)]) hx hb dX11_count_193 hl (k := 1) rfl ex_41 (by decide +kernel) rfl (fun ls hl => ?_)
              clear ex_41
              refine lv_goto (tgt := 169) hx hb dX11_count_196 (by decide +kernel) ?_
              exact ih (n - 1) (by omega) x_41 x_40 _ _ ls (by omega) (by omega) hP hS (lv_sub hl [0, 1, 2, 3] rfl)
      have kc_42 : (0 : Int32).toInt = 0 := by decide
      exact cut_29 61 0 0 _ _ ls (by omega) (by decide +kernel) hP hS (lv_sub hl [0, 1, 2, 3] rfl)
    have n_43 := c_ne (a := x1.toInt) (b := 5) rfl (by decide +kernel) q_28
    by_cases q_44 : x1 = 6
    · refine lv_topi (fun y ey => ?_)
      obtain rfl : y = 6 := ey.trans q_44
      refine lv_tableIn (x := 6) (off := 176) (tgt := 201) hx hb dX11_count_25 (by decide +kernel) (by decide +kernel) (by decide +kernel) (by decide +kernel) ?_
      refine lv_aload_n hx hb dX11_count_201 rfl (lv_at hl 1 rfl) ?_
      refine va_get (D := (dC, dI)) (ci := 11) (v := .int (v 41)) (C := RX11) (T := TX11) (N := 63) hx hb hts in_wsX11_count_X11 hown hK hP 0 rfl rfl 41 (by decide +kernel) (hts (.fieldLink RX11 179 "ShipOfficeModel" "happened" "I") iw_X11_count_6) (fun _ h9 => h9) rfl dX11_count_202 ?_
      refine lv_topi (fun x_45 ex_45 => ?_)
      have hx_45 : 0 ≤ x_45.toInt ∧ x_45.toInt ≤ 200 := iv_of ex_45 (gV 41)
      clear ex_45
      exact W.iret (v := x_45) hx hb hr (fun t ht hW => ⟨⟨x_45, (), rfl, trivial, trivial⟩, hS.F ht⟩) hS.2.2 dX11_count_205
    have n_46 := c_ne (a := x1.toInt) (b := 6) rfl (by decide +kernel) q_44
    by_cases q_47 : x1 = 7
    · refine lv_topi (fun y ey => ?_)
      obtain rfl : y = 7 := ey.trans q_47
      refine lv_tableIn (x := 7) (off := 181) (tgt := 206) hx hb dX11_count_25 (by decide +kernel) (by decide +kernel) (by decide +kernel) (by decide +kernel) ?_
      refine lv_aload_n hx hb dX11_count_206 rfl (lv_at hl 1 rfl) ?_
      refine va_get (D := (dC, dI)) (ci := 11) (v := .int (v 42)) (C := RX11) (T := TX11) (N := 63) hx hb hts in_wsX11_count_X11 hown hK hP 0 rfl rfl 42 (by decide +kernel) (hts (.fieldLink RX11 256 "ShipOfficeModel" "acts" "I") iw_X11_count_7) (fun _ h9 => h9) rfl dX11_count_207 ?_
      refine lv_topi (fun x_48 ex_48 => ?_)
      have hx_48 : 0 ≤ x_48.toInt ∧ x_48.toInt ≤ 30 := iv_of ex_48 (gV 42)
      clear ex_48
      exact W.iret (v := x_48) hx hb hr (fun t ht hW => ⟨⟨x_48, (), rfl, trivial, trivial⟩, hS.F ht⟩) hS.2.2 dX11_count_210
    have n_49 := c_ne (a := x1.toInt) (b := 7) rfl (by decide +kernel) q_47
    by_cases q_50 : x1 = 8
    · refine lv_topi (fun y ey => ?_)
      obtain rfl : y = 8 := ey.trans q_50
      refine lv_tableIn (x := 8) (off := 186) (tgt := 211) hx hb dX11_count_25 (by decide +kernel) (by decide +kernel) (by decide +kernel) (by decide +kernel) ?_
      refine lv_aload_n hx hb dX11_count_211 rfl (lv_at hl 1 rfl) ?_
      refine va_get (D := (dC, dI)) (ci := 11) (v := .int (v 46)) (C := RX11) (T := TX11) (N := 63) hx hb hts in_wsX11_count_X11 hown hK hP 0 rfl rfl 46 (by decide +kernel) (hts (.fieldLink RX11 205 "ShipOfficeModel" "taped" "I") iw_X11_count_8) (fun _ h9 => h9) rfl dX11_count_212 ?_
      refine lv_topi (fun x_51 ex_51 => ?_)
      have hx_51 : 0 ≤ x_51.toInt ∧ x_51.toInt ≤ 60 := iv_of ex_51 (gV 46)
      clear ex_51
      exact W.iret (v := x_51) hx hb hr (fun t ht hW => ⟨⟨x_51, (), rfl, trivial, trivial⟩, hS.F ht⟩) hS.2.2 dX11_count_215
    have n_52 := c_ne (a := x1.toInt) (b := 8) rfl (by decide +kernel) q_50
    by_cases q_53 : x1 = 9
    · refine lv_topi (fun y ey => ?_)
      obtain rfl : y = 9 := ey.trans q_53
      refine lv_tableIn (x := 9) (off := 191) (tgt := 216) hx hb dX11_count_25 (by decide +kernel) (by decide +kernel) (by decide +kernel) (by decide +kernel) ?_
      refine lv_aload_n hx hb dX11_count_216 rfl (lv_at hl 1 rfl) ?_
      refine va_get (D := (dC, dI)) (ci := 11) (v := .int (v 62)) (C := RX11) (T := TX11) (N := 63) hx hb hts in_wsX11_count_X11 hown hK hP 0 rfl rfl 62 (by decide +kernel) (hts (.fieldLink RX11 357 "ShipOfficeModel" "rowed" "I") iw_X11_count_9) (fun _ h9 => h9) rfl dX11_count_217 ?_
      refine lv_topi (fun x_54 ex_54 => ?_)
      have hx_54 : 0 ≤ x_54.toInt ∧ x_54.toInt ≤ 12 := iv_of ex_54 (gV 62)
      clear ex_54
      exact W.iret (v := x_54) hx hb hr (fun t ht hW => ⟨⟨x_54, (), rfl, trivial, trivial⟩, hS.F ht⟩) hS.2.2 dX11_count_220
    have n_55 := c_ne (a := x1.toInt) (b := 9) rfl (by decide +kernel) q_53
    by_cases q_56 : x1 = 10
    · refine lv_topi (fun y ey => ?_)
      obtain rfl : y = 10 := ey.trans q_56
      refine lv_tableIn (x := 10) (off := 230) (tgt := 255) hx hb dX11_count_25 (by decide +kernel) (by decide +kernel) (by decide +kernel) (by decide +kernel) ?_
      refine lv_bipush (v := (-9)) hx hb dX11_count_255 (by decide +kernel) ?_
      exact W.iret (v := (-9)) hx hb hr (fun t ht hW => ⟨⟨(-9), (), rfl, trivial, trivial⟩, hS.F ht⟩) hS.2.2 dX11_count_257
    have n_57 := c_ne (a := x1.toInt) (b := 10) rfl (by decide +kernel) q_56
    by_cases q_58 : x1 = 11
    · refine lv_topi (fun y ey => ?_)
      obtain rfl : y = 11 := ey.trans q_58
      refine lv_tableIn (x := 11) (off := 230) (tgt := 255) hx hb dX11_count_25 (by decide +kernel) (by decide +kernel) (by decide +kernel) (by decide +kernel) ?_
      refine lv_bipush (v := (-9)) hx hb dX11_count_255 (by decide +kernel) ?_
      exact W.iret (v := (-9)) hx hb hr (fun t ht hW => ⟨⟨(-9), (), rfl, trivial, trivial⟩, hS.F ht⟩) hS.2.2 dX11_count_257
    have n_59 := c_ne (a := x1.toInt) (b := 11) rfl (by decide +kernel) q_58
    by_cases q_60 : x1 = 12
    · refine lv_topi (fun y ey => ?_)
      obtain rfl : y = 12 := ey.trans q_60
      refine lv_tableIn (x := 12) (off := 230) (tgt := 255) hx hb dX11_count_25 (by decide +kernel) (by decide +kernel) (by decide +kernel) (by decide +kernel) ?_
      refine lv_bipush (v := (-9)) hx hb dX11_count_255 (by decide +kernel) ?_
      exact W.iret (v := (-9)) hx hb hr (fun t ht hW => ⟨⟨(-9), (), rfl, trivial, trivial⟩, hS.F ht⟩) hS.2.2 dX11_count_257
    have n_61 := c_ne (a := x1.toInt) (b := 12) rfl (by decide +kernel) q_60
    by_cases q_62 : x1 = 13
    · refine lv_topi (fun y ey => ?_)
      obtain rfl : y = 13 := ey.trans q_62
      refine lv_tableIn (x := 13) (off := 230) (tgt := 255) hx hb dX11_count_25 (by decide +kernel) (by decide +kernel) (by decide +kernel) (by decide +kernel) ?_
      refine lv_bipush (v := (-9)) hx hb dX11_count_255 (by decide +kernel) ?_
      exact W.iret (v := (-9)) hx hb hr (fun t ht hW => ⟨⟨(-9), (), rfl, trivial, trivial⟩, hS.F ht⟩) hS.2.2 dX11_count_257
    have n_63 := c_ne (a := x1.toInt) (b := 13) rfl (by decide +kernel) q_62
    by_cases q_64 : x1 = 14
    · refine lv_topi (fun y ey => ?_)
      obtain rfl : y = 14 := ey.trans q_64
      refine lv_tableIn (x := 14) (off := 230) (tgt := 255) hx hb dX11_count_25 (by decide +kernel) (by decide +kernel) (by decide +kernel) (by decide +kernel) ?_
      refine lv_bipush (v := (-9)) hx hb dX11_count_255 (by decide +kernel) ?_
      exact W.iret (v := (-9)) hx hb hr (fun t ht hW => ⟨⟨(-9), (), rfl, trivial, trivial⟩, hS.F ht⟩) hS.2.2 dX11_count_257
    have n_65 := c_ne (a := x1.toInt) (b := 14) rfl (by decide +kernel) q_64
    by_cases q_66 : x1 = 15
    · refine lv_topi (fun y ey => ?_)
      obtain rfl : y = 15 := ey.trans q_66
      refine lv_tableIn (x := 15) (off := 230) (tgt := 255) hx hb dX11_count_25 (by decide +kernel) (by decide +kernel) (by decide +kernel) (by decide +kernel) ?_
      refine lv_bipush (v := (-9)) hx hb dX11_count_255 (by decide +kernel) ?_
      exact W.iret (v := (-9)) hx hb hr (fun t ht hW => ⟨⟨(-9), (), rfl, trivial, trivial⟩, hS.F ht⟩) hS.2.2 dX11_count_257
    have n_67 := c_ne (a := x1.toInt) (b := 15) rfl (by decide +kernel) q_66
    by_cases q_68 : x1 = 16
    · refine lv_topi (fun y ey => ?_)
      obtain rfl : y = 16 := ey.trans q_68
      refine lv_tableIn (x := 16) (off := 230) (tgt := 255) hx hb dX11_count_25 (by decide +kernel) (by decide +kernel) (by decide +kernel) (by decide +kernel) ?_
      refine lv_bipush (v := (-9)) hx hb dX11_count_255 (by decide +kernel) ?_
      exact W.iret (v := (-9)) hx hb hr (fun t ht hW => ⟨⟨(-9), (), rfl, trivial, trivial⟩, hS.F ht⟩) hS.2.2 dX11_count_257
    have n_69 := c_ne (a := x1.toInt) (b := 16) rfl (by decide +kernel) q_68
    by_cases q_70 : x1 = 17
    · refine lv_topi (fun y ey => ?_)
      obtain rfl : y = 17 := ey.trans q_70
      refine lv_tableIn (x := 17) (off := 196) (tgt := 221) hx hb dX11_count_25 (by decide +kernel) (by decide +kernel) (by decide +kernel) (by decide +kernel) ?_
      refine lv_iconst (v := 0) hx hb dX11_count_221 (by decide +kernel) ?_
      refine lv_istore_n (lv' := [(3, .int 0), (2, .int 0), (0, .ref g0), (1, .int x1)]) hx hb dX11_count_222 rfl hl (by decide +kernel) rfl (fun ls hl => ?_)
      have cut_71 : ∀ (n : Nat) (y_72 : Int32) (y_73 : Int32) (H : Heap) (locs : List Loc) (ls : Array Slot), 40 - y_72.toInt ≤ (n : Int) → (0 ≤ y_72.toInt ∧ y_72.toInt ≤ 40) → va_P (dC, dI) vwCl (mW g0 pq cp v fa) H → va_S A s.heap H locs → lv_has ls 4 [(3, .int y_72), (2, .int y_73), (0, .ref g0), (1, .int x1)] → W p l e (headSpec wsX11_count { frames := 2, cells := 0, slots := 0, locals := 44 }).room s m #[Value.ref g0, Value.int x1] below meth c H locs 0 0 (MQ below (va_Qi (fun (r : Int32) (u : Unit) => True) (fun _ _ => True) A) #[Value.ref g0, Value.int x1] s 0 0 A) (F0 m 223 ls []) := by
        intro n
        induction n using Nat.strongRecOn with
        | ind n ih =>
          intro y_72 y_73 H locs ls hm hy_72 hP hS hl
          refine lv_iload_n hx hb dX11_count_223 rfl (lv_at hl 0 rfl) ?_
          refine lv_aload_n hx hb dX11_count_224 rfl (lv_at hl 2 rfl) ?_
          refine va_get (D := (dC, dI)) (ci := 11) (v := .int (v 39)) (C := RX11) (T := TX11) (N := 63) hx hb hts in_wsX11_count_X11 hown hK hP 0 rfl rfl 39 (by decide +kernel) (hts (.fieldLink RX11 157 "ShipOfficeModel" "men" "I") iw_X11_count_2) (fun _ h9 => h9) rfl dX11_count_225 ?_
          refine lv_topi (fun x_74 ex_74 => ?_)
          have hx_74 : 0 ≤ x_74.toInt ∧ x_74.toInt ≤ 40 := iv_of ex_74 (gV 39)
          clear ex_74
          refine lv_icmp_ge (tgt := 253) hx hb dX11_count_228 (by decide +kernel) (fun c_75 => ?_) (fun c_75 => ?_)
          · have dc_75 := c_le (a := x_74.toInt) (b := y_72.toInt) rfl rfl c_75
            refine lv_iload_n hx hb dX11_count_253 rfl (lv_at hl 1 rfl) ?_
            exact W.iret (v := y_73) hx hb hr (fun t ht hW => ⟨⟨y_73, (), rfl, trivial, trivial⟩, hS.F ht⟩) hS.2.2 dX11_count_254
          · have dc_75 := c_nle (a := x_74.toInt) (b := y_72.toInt) rfl rfl c_75
            refine lv_iload_n hx hb dX11_count_231 rfl (lv_at hl 1 rfl) ?_
            refine lv_aload_n hx hb dX11_count_232 rfl (lv_at hl 2 rfl) ?_
            refine lv_iload_n hx hb dX11_count_233 rfl (lv_at hl 0 rfl) ?_
            have hFc : ∀ q, va_A [] H.size q → A q := pu_free hS hA
            refine va_calli (va_runV (As := [.int y_72]) (rest := [.int y_73]) ⟨hx, hb, hml, hown, hts⟩ (c_X11_asksAny l dC dI H.size g0 pq cp v fa y_72 (vp_in_iff.mpr (by omega))) (cwV 1 hts gX11_count_X11_asksAny rfl rfl rfl (by decide +kernel) ⟨(Nat.le_of_ble_eq_true rfl), (Nat.le_of_ble_eq_true rfl)⟩) (pr_V (r := (RX11, TX11, 63)) hP hK hD 0 11 rfl rfl) rfl rfl hl.1 rfl (lv_room (Nat.le_of_ble_eq_true rfl)) dX11_count_234 ⟨(Nat.le_of_ble_eq_true rfl), (Nat.le_of_ble_eq_true rfl)⟩) hS (fun q _ h => hFc q h) hFc (fun r_77 u t H locs ht hvm w_76 hB hz1 hk1 hS => ?_)
            have hP := pu_keep hP hk1
            clear hk1 hz1 hvm hB ht hFc
            have hb_78 : 0 ≤ r_77.toInt ∧ r_77.toInt ≤ 1 := z1_i w_76
            refine lv_if_eq (tgt := 244) hx hb dX11_count_237 (by decide +kernel) (fun c_79 => ?_) (fun c_79 => ?_)
            · have dc_79 := c_eq (a := r_77.toInt) (b := 0) rfl (by decide +kernel) c_79
              refine lv_iconst (v := 0) hx hb dX11_count_244 (by decide +kernel) ?_
              refine lv_iadd hx hb dX11_count_245 ?_
              refine lv_topi (fun x_80 ex_80 => ?_)
              clear ex_80
              refine lv_istore_n (lv' := [(2, .int x_80), (3, .int y_72), (0, .ref g0), (1, .int x1)]) hx hb dX11_count_246 rfl hl (by decide +kernel) rfl (fun ls hl => ?_)
              obtain ⟨x_81, ex_81⟩ : ∃ zq : Int32, y_72 + 1 = zq := ⟨_, rfl⟩
              have hx_81 : x_81.toInt = y_72.toInt + 1 := (iv_to ex_81).symm.trans (ad_i rfl (by decide +kernel) (by omega) (by omega))
              refine lv_iinc (v := x_81) (lv' := [(3, .int x_81), (2, .int x_80), (0, .ref g0), (1, .int x1)]) hx hb dX11_count_247 hl (k := 1) rfl ex_81 (by decide +kernel) rfl (fun ls hl => ?_)
              clear ex_81
              refine lv_goto (tgt := 223) hx hb dX11_count_250 (by decide +kernel) ?_
              exact ih (n - 1) (by omega) x_81 x_80 _ _ ls (by omega) (by omega) hP hS (lv_sub hl [0, 1, 2, 3] rfl)
            · have dc_79 := c_ne (a := r_77.toInt) (b := 0) rfl (by decide +kernel) c_79
              refine lv_iconst (v := 1) hx hb dX11_count_240 (by decide +kernel) ?_
              refine lv_goto (tgt := 245) hx hb dX11_count_241 (by decide +kernel) ?_
              refine lv_iadd hx hb dX11_count_245 ?_
              refine lv_topi (fun x_82 ex_82 => ?_)
              clear ex_82
              refine lv_istore_n (lv' := [(2, .int x_82), (3, .int y_72), (0, .ref g0), (1, .int x1)]) hx hb dX11_count_246 rfl hl (by decide +kernel) rfl (fun ls hl => ?_)
              obtain ⟨x_83, ex_83⟩ : ∃ zq : Int32, y_72 + 1 = zq := ⟨_, rfl⟩
              have hx_83 : x_83.toInt = y_72.toInt + 1 := (iv_to ex_83).symm.trans (ad_i rfl (by decide +kernel) (by omega) (by omega))
              refine lv_iinc (v := x_83) (lv' := [(3, .int x_83), (2, .int x_82), (0, .ref g0), (1, .int x1)]) hx hb dX11_count_247 hl (k := 1) rfl ex_83 (by decide +kernel) rfl (fun ls hl => ?_)
              clear ex_83
              refine lv_goto (tgt := 223) hx hb dX11_count_250 (by decide +kernel) ?_
              exact ih (n - 1) (by omega) x_83 x_82 _ _ ls (by omega) (by omega) hP hS (lv_sub hl [0, 1, 2, 3] rfl)
      have kc_84 : (0 : Int32).toInt = 0 := by decide
      exact cut_71 41 0 0 _ _ ls (by omega) (by decide +kernel) hP hS (lv_sub hl [0, 1, 2, 3] rfl)
    have n_85 := c_ne (a := x1.toInt) (b := 17) rfl (by decide +kernel) q_70
    refine lv_tableOut (tgt := 255) hx hb dX11_count_25 (by omega) (by decide +kernel) ?_
    refine lv_bipush (v := (-9)) hx hb dX11_count_255 (by decide +kernel) ?_
    exact W.iret (v := (-9)) hx hb hr (fun t ht hW => ⟨⟨(-9), (), rfl, trivial, trivial⟩, hS.F ht⟩) hS.2.2 dX11_count_257
  · have dc_1 := c_nle (a := x1.toInt) (b := 10) rfl (by decide +kernel) c_1
    refine lv_iload_n hx hb dX11_count_6 rfl (lv_at hl 1 rfl) ?_
    refine lv_bipush (v := 17) hx hb dX11_count_7 (by decide +kernel) ?_
    refine lv_icmp_ge (tgt := 22) hx hb dX11_count_9 (by decide +kernel) (fun c_86 => ?_) (fun c_86 => ?_)
    · have dc_86 := c_le (a := 17) (b := x1.toInt) (by decide +kernel) rfl c_86
      refine lv_iconst (v := 0) hx hb dX11_count_22 (by decide +kernel) ?_
      refine lv_istore_n (lv' := [(2, .int 0), (0, .ref g0), (1, .int x1)]) hx hb dX11_count_23 rfl hl (by decide +kernel) rfl (fun ls hl => ?_)
      refine lv_iload_n hx hb dX11_count_24 rfl (lv_at hl 2 rfl) ?_
      by_cases q_87 : x1 = 0
      · refine lv_topi (fun y ey => ?_)
        obtain rfl : y = 0 := ey.trans q_87
        refine lv_tableIn (x := 0) (off := 87) (tgt := 112) hx hb dX11_count_25 (by decide +kernel) (by decide +kernel) (by decide +kernel) (by decide +kernel) ?_
        refine lv_aload_n hx hb dX11_count_112 rfl (lv_at hl 1 rfl) ?_
        refine va_get (D := (dC, dI)) (ci := 11) (v := .int (v 38)) (C := RX11) (T := TX11) (N := 63) hx hb hts in_wsX11_count_X11 hown hK hP 0 rfl rfl 38 (by decide +kernel) (hts (.fieldLink RX11 171 "ShipOfficeModel" "now" "I") iw_X11_count_1) (fun _ h9 => h9) rfl dX11_count_113 ?_
        refine lv_topi (fun x_88 ex_88 => ?_)
        have hx_88 : 0 ≤ x_88.toInt ∧ x_88.toInt ≤ 3000 := iv_of ex_88 (gV 38)
        clear ex_88
        exact W.iret (v := x_88) hx hb hr (fun t ht hW => ⟨⟨x_88, (), rfl, trivial, trivial⟩, hS.F ht⟩) hS.2.2 dX11_count_116
      have n_89 := c_ne (a := x1.toInt) (b := 0) rfl (by decide +kernel) q_87
      by_cases q_90 : x1 = 1
      · refine lv_topi (fun y ey => ?_)
        obtain rfl : y = 1 := ey.trans q_90
        refine lv_tableIn (x := 1) (off := 92) (tgt := 117) hx hb dX11_count_25 (by decide +kernel) (by decide +kernel) (by decide +kernel) (by decide +kernel) ?_
        refine lv_aload_n hx hb dX11_count_117 rfl (lv_at hl 1 rfl) ?_
        refine va_get (D := (dC, dI)) (ci := 11) (v := .int (v 39)) (C := RX11) (T := TX11) (N := 63) hx hb hts in_wsX11_count_X11 hown hK hP 0 rfl rfl 39 (by decide +kernel) (hts (.fieldLink RX11 157 "ShipOfficeModel" "men" "I") iw_X11_count_2) (fun _ h9 => h9) rfl dX11_count_118 ?_
        refine lv_topi (fun x_91 ex_91 => ?_)
        have hx_91 : 0 ≤ x_91.toInt ∧ x_91.toInt ≤ 40 := iv_of ex_91 (gV 39)
        clear ex_91
        exact W.iret (v := x_91) hx hb hr (fun t ht hW => ⟨⟨x_91, (), rfl, trivial, trivial⟩, hS.F ht⟩) hS.2.2 dX11_count_121
      have n_92 := c_ne (a := x1.toInt) (b := 1) rfl (by decide +kernel) q_90
      by_cases q_93 : x1 = 2
      · refine lv_topi (fun y ey => ?_)
        obtain rfl : y = 2 := ey.trans q_93
        refine lv_tableIn (x := 2) (off := 97) (tgt := 122) hx hb dX11_count_25 (by decide +kernel) (by decide +kernel) (by decide +kernel) (by decide +kernel) ?_
        refine lv_aload_n hx hb dX11_count_122 rfl (lv_at hl 1 rfl) ?_
        refine va_get (D := (dC, dI)) (ci := 11) (v := .int (v 40)) (C := RX11) (T := TX11) (N := 63) hx hb hts in_wsX11_count_X11 hown hK hP 0 rfl rfl 40 (by decide +kernel) (hts (.fieldLink RX11 165 "ShipOfficeModel" "voyages" "I") iw_X11_count_3) (fun _ h9 => h9) rfl dX11_count_123 ?_
        refine lv_topi (fun x_94 ex_94 => ?_)
        have hx_94 : 0 ≤ x_94.toInt ∧ x_94.toInt ≤ 20 := iv_of ex_94 (gV 40)
        clear ex_94
        exact W.iret (v := x_94) hx hb hr (fun t ht hW => ⟨⟨x_94, (), rfl, trivial, trivial⟩, hS.F ht⟩) hS.2.2 dX11_count_126
      have n_95 := c_ne (a := x1.toInt) (b := 2) rfl (by decide +kernel) q_93
      by_cases q_96 : x1 = 3
      · refine lv_topi (fun y ey => ?_)
        obtain rfl : y = 3 := ey.trans q_96
        refine lv_tableIn (x := 3) (off := 102) (tgt := 127) hx hb dX11_count_25 (by decide +kernel) (by decide +kernel) (by decide +kernel) (by decide +kernel) ?_
        refine lv_iconst (v := 0) hx hb dX11_count_127 (by decide +kernel) ?_
        refine lv_istore_n (lv' := [(3, .int 0), (2, .int 0), (0, .ref g0), (1, .int x1)]) hx hb dX11_count_128 rfl hl (by decide +kernel) rfl (fun ls hl => ?_)
        have cut_97 : ∀ (n : Nat) (y_98 : Int32) (y_99 : Int32) (H : Heap) (locs : List Loc) (ls : Array Slot), 20 - y_98.toInt ≤ (n : Int) → (0 ≤ y_98.toInt ∧ y_98.toInt ≤ 20) → va_P (dC, dI) vwCl (mW g0 pq cp v fa) H → va_S A s.heap H locs → lv_has ls 4 [(3, .int y_98), (2, .int y_99), (0, .ref g0), (1, .int x1)] → W p l e (headSpec wsX11_count { frames := 2, cells := 0, slots := 0, locals := 44 }).room s m #[Value.ref g0, Value.int x1] below meth c H locs 0 0 (MQ below (va_Qi (fun (r : Int32) (u : Unit) => True) (fun _ _ => True) A) #[Value.ref g0, Value.int x1] s 0 0 A) (F0 m 129 ls []) := by
          intro n
          induction n using Nat.strongRecOn with
          | ind n ih =>
            intro y_98 y_99 H locs ls hm hy_98 hP hS hl
            refine lv_iload_n hx hb dX11_count_129 rfl (lv_at hl 0 rfl) ?_
            refine lv_aload_n hx hb dX11_count_130 rfl (lv_at hl 2 rfl) ?_
            refine va_get (D := (dC, dI)) (ci := 11) (v := .int (v 40)) (C := RX11) (T := TX11) (N := 63) hx hb hts in_wsX11_count_X11 hown hK hP 0 rfl rfl 40 (by decide +kernel) (hts (.fieldLink RX11 165 "ShipOfficeModel" "voyages" "I") iw_X11_count_3) (fun _ h9 => h9) rfl dX11_count_131 ?_
            refine lv_topi (fun x_100 ex_100 => ?_)
            have hx_100 : 0 ≤ x_100.toInt ∧ x_100.toInt ≤ 20 := iv_of ex_100 (gV 40)
            clear ex_100
            refine lv_icmp_ge (tgt := 160) hx hb dX11_count_134 (by decide +kernel) (fun c_101 => ?_) (fun c_101 => ?_)
            · have dc_101 := c_le (a := x_100.toInt) (b := y_98.toInt) rfl rfl c_101
              refine lv_iload_n hx hb dX11_count_160 rfl (lv_at hl 1 rfl) ?_
              exact W.iret (v := y_99) hx hb hr (fun t ht hW => ⟨⟨y_99, (), rfl, trivial, trivial⟩, hS.F ht⟩) hS.2.2 dX11_count_161
            · have dc_101 := c_nle (a := x_100.toInt) (b := y_98.toInt) rfl rfl c_101
              refine lv_iload_n hx hb dX11_count_137 rfl (lv_at hl 1 rfl) ?_
              refine lv_aload_n hx hb dX11_count_138 rfl (lv_at hl 2 rfl) ?_
              refine va_get (D := (dC, dI)) (ci := 11) (v := .ref (pq 9)) (C := RX11) (T := TX11) (N := 63) hx hb hts in_wsX11_count_X11 hown hK hP 0 rfl rfl 9 (by decide +kernel) (hts (.fieldLink RX11 37 "ShipOfficeModel" "endedOn" "[I") iw_X11_count_4) (fun _ h9 => h9) rfl dX11_count_139 ?_
              refine lv_iload_n hx hb dX11_count_142 rfl (lv_at hl 0 rfl) ?_
              refine va_iald hx hb hK hP 10 9 rfl rfl (vp_in_iff.mpr (by omega)) dX11_count_143 ?_
              refine lv_topi (fun x_102 ex_102 => ?_)
              clear ex_102
              refine lv_if_ge (tgt := 151) hx hb dX11_count_144 (by decide +kernel) (fun c_103 => ?_) (fun c_103 => ?_)
              · have dc_103 := c_le (a := 0) (b := x_102.toInt) (by decide +kernel) rfl c_103
                refine lv_iconst (v := 0) hx hb dX11_count_151 (by decide +kernel) ?_
                refine lv_iadd hx hb dX11_count_152 ?_
                refine lv_topi (fun x_104 ex_104 => ?_)
                clear ex_104
                refine lv_istore_n (lv' := [(2, .int x_104), (3, .int y_98), (0, .ref g0), (1, .int x1)]) hx hb dX11_count_153 rfl hl (by decide +kernel) rfl (fun ls hl => ?_)
                obtain ⟨x_105, ex_105⟩ : ∃ zq : Int32, y_98 + 1 = zq := ⟨_, rfl⟩
                have hx_105 : x_105.toInt = y_98.toInt + 1 := (iv_to ex_105).symm.trans (ad_i rfl (by decide +kernel) (by omega) (by omega))
                refine lv_iinc (v := x_105) (lv' := [(3, .int x_105), (2, .int x_104), (0, .ref g0), (1, .int x1)]) hx hb dX11_count_154 hl (k := 1) rfl ex_105 (by decide +kernel) rfl (fun ls hl => ?_)
                clear ex_105
                refine lv_goto (tgt := 129) hx hb dX11_count_157 (by decide +kernel) ?_
                exact ih (n - 1) (by omega) x_105 x_104 _ _ ls (by omega) (by omega) hP hS (lv_sub hl [0, 1, 2, 3] rfl)
              · have dc_103 := c_nle (a := 0) (b := x_102.toInt) (by decide +kernel) rfl c_103
                refine lv_iconst (v := 1) hx hb dX11_count_147 (by decide +kernel) ?_
                refine lv_goto (tgt := 152) hx hb dX11_count_148 (by decide +kernel) ?_
                refine lv_iadd hx hb dX11_count_152 ?_
                refine lv_topi (fun x_106 ex_106 => ?_)
                clear ex_106
                refine lv_istore_n (lv' := [(2, .int x_106), (3, .int y_98), (0, .ref g0), (1, .int x1)]) hx hb dX11_count_153 rfl hl (by decide +kernel) rfl (fun ls hl => ?_)
                obtain ⟨x_107, ex_107⟩ : ∃ zq : Int32, y_98 + 1 = zq := ⟨_, rfl⟩
                have hx_107 : x_107.toInt = y_98.toInt + 1 := (iv_to ex_107).symm.trans (ad_i rfl (by decide +kernel) (by omega) (by omega))
                refine lv_iinc (v := x_107) (lv' := [(3, .int x_107), (2, .int x_106), (0, .ref g0), (1, .int x1)]) hx hb dX11_count_154 hl (k := 1) rfl ex_107 (by decide +kernel) rfl (fun ls hl => ?_)
                clear ex_107
                refine lv_goto (tgt := 129) hx hb dX11_count_157 (by decide +kernel) ?_
                exact ih (n - 1) (by omega) x_107 x_106 _ _ ls (by omega) (by omega) hP hS (lv_sub hl [0, 1, 2, 3] rfl)
        have kc_108 : (0 : Int32).toInt = 0 := by decide
        exact cut_97 21 0 0 _ _ ls (by omega) (by decide +kernel) hP hS (lv_sub hl [0, 1, 2, 3] rfl)
      have n_109 := c_ne (a := x1.toInt) (b := 3) rfl (by decide +kernel) q_96
      by_cases q_110 : x1 = 4
      · refine lv_topi (fun y ey => ?_)
        obtain rfl : y = 4 := ey.trans q_110
        refine lv_tableIn (x := 4) (off := 137) (tgt := 162) hx hb dX11_count_25 (by decide +kernel) (by decide +kernel) (by decide +kernel) (by decide +kernel) ?_
        refine lv_aload_n hx hb dX11_count_162 rfl (lv_at hl 1 rfl) ?_
        refine va_get (D := (dC, dI)) (ci := 11) (v := .int (v 43)) (C := RX11) (T := TX11) (N := 63) hx hb hts in_wsX11_count_X11 hown hK hP 0 rfl rfl 43 (by decide +kernel) (hts (.fieldLink RX11 168 "ShipOfficeModel" "agreements" "I") iw_X11_count_5) (fun _ h9 => h9) rfl dX11_count_163 ?_
        refine lv_topi (fun x_111 ex_111 => ?_)
        have hx_111 : 0 ≤ x_111.toInt ∧ x_111.toInt ≤ 60 := iv_of ex_111 (gV 43)
        clear ex_111
        exact W.iret (v := x_111) hx hb hr (fun t ht hW => ⟨⟨x_111, (), rfl, trivial, trivial⟩, hS.F ht⟩) hS.2.2 dX11_count_166
      have n_112 := c_ne (a := x1.toInt) (b := 4) rfl (by decide +kernel) q_110
      by_cases q_113 : x1 = 5
      · refine lv_topi (fun y ey => ?_)
        obtain rfl : y = 5 := ey.trans q_113
        refine lv_tableIn (x := 5) (off := 142) (tgt := 167) hx hb dX11_count_25 (by decide +kernel) (by decide +kernel) (by decide +kernel) (by decide +kernel) ?_
        refine lv_iconst (v := 0) hx hb dX11_count_167 (by decide +kernel) ?_
        refine lv_istore_n (lv' := [(3, .int 0), (2, .int 0), (0, .ref g0), (1, .int x1)]) hx hb dX11_count_168 rfl hl (by decide +kernel) rfl (fun ls hl => ?_)
        have cut_114 : ∀ (n : Nat) (y_115 : Int32) (y_116 : Int32) (H : Heap) (locs : List Loc) (ls : Array Slot), 60 - y_115.toInt ≤ (n : Int) → (0 ≤ y_115.toInt ∧ y_115.toInt ≤ 60) → va_P (dC, dI) vwCl (mW g0 pq cp v fa) H → va_S A s.heap H locs → lv_has ls 4 [(3, .int y_115), (2, .int y_116), (0, .ref g0), (1, .int x1)] → W p l e (headSpec wsX11_count { frames := 2, cells := 0, slots := 0, locals := 44 }).room s m #[Value.ref g0, Value.int x1] below meth c H locs 0 0 (MQ below (va_Qi (fun (r : Int32) (u : Unit) => True) (fun _ _ => True) A) #[Value.ref g0, Value.int x1] s 0 0 A) (F0 m 169 ls []) := by
          intro n
          induction n using Nat.strongRecOn with
          | ind n ih =>
            intro y_115 y_116 H locs ls hm hy_115 hP hS hl
            refine lv_iload_n hx hb dX11_count_169 rfl (lv_at hl 0 rfl) ?_
            refine lv_aload_n hx hb dX11_count_170 rfl (lv_at hl 2 rfl) ?_
            refine va_get (D := (dC, dI)) (ci := 11) (v := .int (v 43)) (C := RX11) (T := TX11) (N := 63) hx hb hts in_wsX11_count_X11 hown hK hP 0 rfl rfl 43 (by decide +kernel) (hts (.fieldLink RX11 168 "ShipOfficeModel" "agreements" "I") iw_X11_count_5) (fun _ h9 => h9) rfl dX11_count_171 ?_
            refine lv_topi (fun x_117 ex_117 => ?_)
            have hx_117 : 0 ≤ x_117.toInt ∧ x_117.toInt ≤ 60 := iv_of ex_117 (gV 43)
            clear ex_117
            refine lv_icmp_ge (tgt := 199) hx hb dX11_count_174 (by decide +kernel) (fun c_118 => ?_) (fun c_118 => ?_)
            · have dc_118 := c_le (a := x_117.toInt) (b := y_115.toInt) rfl rfl c_118
              refine lv_iload_n hx hb dX11_count_199 rfl (lv_at hl 1 rfl) ?_
              exact W.iret (v := y_116) hx hb hr (fun t ht hW => ⟨⟨y_116, (), rfl, trivial, trivial⟩, hS.F ht⟩) hS.2.2 dX11_count_200
            · have dc_118 := c_nle (a := x_117.toInt) (b := y_115.toInt) rfl rfl c_118
              refine lv_iload_n hx hb dX11_count_177 rfl (lv_at hl 1 rfl) ?_
              refine lv_aload_n hx hb dX11_count_178 rfl (lv_at hl 2 rfl) ?_
              refine lv_iload_n hx hb dX11_count_179 rfl (lv_at hl 0 rfl) ?_
              have hFc : ∀ q, va_A [] H.size q → A q := pu_free hS hA
              refine va_calli (va_runV (As := [.int y_115]) (rest := [.int y_116]) ⟨hx, hb, hml, hown, hts⟩ (c_X11_goesOn l dC dI H.size g0 pq cp v fa (v 41).toNatClampNeg (cn_le (n := 200) (gV 41)) (cn_eq (n := 200) (gV 41)) y_115 (vp_in_iff.mpr (by omega))) (cwV 1 hts gX11_count_X11_goesOn rfl rfl rfl (by decide +kernel) ⟨(Nat.le_of_ble_eq_true rfl), (Nat.le_of_ble_eq_true rfl)⟩) (pr_V (r := (RX11, TX11, 63)) hP hK hD 0 11 rfl rfl) rfl rfl hl.1 rfl (lv_room (Nat.le_of_ble_eq_true rfl)) dX11_count_180 ⟨(Nat.le_of_ble_eq_true rfl), (Nat.le_of_ble_eq_true rfl)⟩) hS (fun q _ h => hFc q h) hFc (fun r_120 u t H locs ht hvm w_119 hB hz1 hk1 hS => ?_)
              have hP := pu_keep hP hk1
              clear hk1 hz1 hvm hB ht hFc
              have hb_121 : 0 ≤ r_120.toInt ∧ r_120.toInt ≤ 1 := z1_i w_119
              refine lv_if_eq (tgt := 190) hx hb dX11_count_183 (by decide +kernel) (fun c_122 => ?_) (fun c_122 => ?_)
              · have dc_122 := c_eq (a := r_120.toInt) (b := 0) rfl (by decide +kernel) c_122
                refine lv_iconst (v := 0) hx hb dX11_count_190 (by decide +kernel) ?_
                refine lv_iadd hx hb dX11_count_191 ?_
                refine lv_topi (fun x_123 ex_123 => ?_)
                clear ex_123
                refine lv_istore_n (lv' := [(2, .int x_123), (3, .int y_115), (0, .ref g0), (1, .int x1)]) hx hb dX11_count_192 rfl hl (by decide +kernel) rfl (fun ls hl => ?_)
                obtain ⟨x_124, ex_124⟩ : ∃ zq : Int32, y_115 + 1 = zq := ⟨_, rfl⟩
                have hx_124 : x_124.toInt = y_115.toInt + 1 := (iv_to ex_124).symm.trans (ad_i rfl (by decide +kernel) (by omega) (by omega))
                refine lv_iinc (v := x_124) (lv' := [(3, .int x_124), (2, .int x_123), (0, .ref g0), (1, .int x1)]) hx hb dX11_count_193 hl (k := 1) rfl ex_124 (by decide +kernel) rfl (fun ls hl => ?_)
                clear ex_124
                refine lv_goto (tgt := 169) hx hb dX11_count_196 (by decide +kernel) ?_
                exact ih (n - 1) (by omega) x_124 x_123 _ _ ls (by omega) (by omega) hP hS (lv_sub hl [0, 1, 2, 3] rfl)
              · have dc_122 := c_ne (a := r_120.toInt) (b := 0) rfl (by decide +kernel) c_122
                refine lv_iconst (v := 1) hx hb dX11_count_186 (by decide +kernel) ?_
                refine lv_goto (tgt := 191) hx hb dX11_count_187 (by decide +kernel) ?_
                refine lv_iadd hx hb dX11_count_191 ?_
                refine lv_topi (fun x_125 ex_125 => ?_)
                clear ex_125
                refine lv_istore_n (lv' := [(2, .int x_125), (3, .int y_115), (0, .ref g0), (1, .int x1)]) hx hb dX11_count_192 rfl hl (by decide +kernel) rfl (fun ls hl => ?_)
                obtain ⟨x_126, ex_126⟩ : ∃ zq : Int32, y_115 + 1 = zq := ⟨_, rfl⟩
                have hx_126 : x_126.toInt = y_115.toInt + 1 := (iv_to ex_126).symm.trans (ad_i rfl (by decide +kernel) (by omega) (by omega))
                refine lv_iinc (v := x_126) (lv' := [(3, .int x_126), (2, .int x_125), (0, .ref g0), (1, .int x1)]) hx hb dX11_count_193 hl (k := 1) rfl ex_126 (by decide +kernel) rfl (fun ls hl => ?_)
                clear ex_126
                refine lv_goto (tgt := 169) hx hb dX11_count_196 (by decide +kernel) ?_
                exact ih (n - 1) (by omega) x_126 x_125 _ _ ls (by omega) (by omega) hP hS (lv_sub hl [0, 1, 2, 3] rfl)
        have kc_127 : (0 : Int32).toInt = 0 := by decide
        exact cut_114 61 0 0 _ _ ls (by omega) (by decide +kernel) hP hS (lv_sub hl [0, 1, 2, 3] rfl)
      have n_128 := c_ne (a := x1.toInt) (b := 5) rfl (by decide +kernel) q_113
      by_cases q_129 : x1 = 6
      · refine lv_topi (fun y ey => ?_)
        obtain rfl : y = 6 := ey.trans q_129
        refine lv_tableIn (x := 6) (off := 176) (tgt := 201) hx hb dX11_count_25 (by decide +kernel) (by decide +kernel) (by decide +kernel) (by decide +kernel) ?_
        refine lv_aload_n hx hb dX11_count_201 rfl (lv_at hl 1 rfl) ?_
        refine va_get (D := (dC, dI)) (ci := 11) (v := .int (v 41)) (C := RX11) (T := TX11) (N := 63) hx hb hts in_wsX11_count_X11 hown hK hP 0 rfl rfl 41 (by decide +kernel) (hts (.fieldLink RX11 179 "ShipOfficeModel" "happened" "I") iw_X11_count_6) (fun _ h9 => h9) rfl dX11_count_202 ?_
        refine lv_topi (fun x_130 ex_130 => ?_)
        have hx_130 : 0 ≤ x_130.toInt ∧ x_130.toInt ≤ 200 := iv_of ex_130 (gV 41)
        clear ex_130
        exact W.iret (v := x_130) hx hb hr (fun t ht hW => ⟨⟨x_130, (), rfl, trivial, trivial⟩, hS.F ht⟩) hS.2.2 dX11_count_205
      have n_131 := c_ne (a := x1.toInt) (b := 6) rfl (by decide +kernel) q_129
      by_cases q_132 : x1 = 7
      · refine lv_topi (fun y ey => ?_)
        obtain rfl : y = 7 := ey.trans q_132
        refine lv_tableIn (x := 7) (off := 181) (tgt := 206) hx hb dX11_count_25 (by decide +kernel) (by decide +kernel) (by decide +kernel) (by decide +kernel) ?_
        refine lv_aload_n hx hb dX11_count_206 rfl (lv_at hl 1 rfl) ?_
        refine va_get (D := (dC, dI)) (ci := 11) (v := .int (v 42)) (C := RX11) (T := TX11) (N := 63) hx hb hts in_wsX11_count_X11 hown hK hP 0 rfl rfl 42 (by decide +kernel) (hts (.fieldLink RX11 256 "ShipOfficeModel" "acts" "I") iw_X11_count_7) (fun _ h9 => h9) rfl dX11_count_207 ?_
        refine lv_topi (fun x_133 ex_133 => ?_)
        have hx_133 : 0 ≤ x_133.toInt ∧ x_133.toInt ≤ 30 := iv_of ex_133 (gV 42)
        clear ex_133
        exact W.iret (v := x_133) hx hb hr (fun t ht hW => ⟨⟨x_133, (), rfl, trivial, trivial⟩, hS.F ht⟩) hS.2.2 dX11_count_210
      have n_134 := c_ne (a := x1.toInt) (b := 7) rfl (by decide +kernel) q_132
      by_cases q_135 : x1 = 8
      · refine lv_topi (fun y ey => ?_)
        obtain rfl : y = 8 := ey.trans q_135
        refine lv_tableIn (x := 8) (off := 186) (tgt := 211) hx hb dX11_count_25 (by decide +kernel) (by decide +kernel) (by decide +kernel) (by decide +kernel) ?_
        refine lv_aload_n hx hb dX11_count_211 rfl (lv_at hl 1 rfl) ?_
        refine va_get (D := (dC, dI)) (ci := 11) (v := .int (v 46)) (C := RX11) (T := TX11) (N := 63) hx hb hts in_wsX11_count_X11 hown hK hP 0 rfl rfl 46 (by decide +kernel) (hts (.fieldLink RX11 205 "ShipOfficeModel" "taped" "I") iw_X11_count_8) (fun _ h9 => h9) rfl dX11_count_212 ?_
        refine lv_topi (fun x_136 ex_136 => ?_)
        have hx_136 : 0 ≤ x_136.toInt ∧ x_136.toInt ≤ 60 := iv_of ex_136 (gV 46)
        clear ex_136
        exact W.iret (v := x_136) hx hb hr (fun t ht hW => ⟨⟨x_136, (), rfl, trivial, trivial⟩, hS.F ht⟩) hS.2.2 dX11_count_215
      have n_137 := c_ne (a := x1.toInt) (b := 8) rfl (by decide +kernel) q_135
      by_cases q_138 : x1 = 9
      · refine lv_topi (fun y ey => ?_)
        obtain rfl : y = 9 := ey.trans q_138
        refine lv_tableIn (x := 9) (off := 191) (tgt := 216) hx hb dX11_count_25 (by decide +kernel) (by decide +kernel) (by decide +kernel) (by decide +kernel) ?_
        refine lv_aload_n hx hb dX11_count_216 rfl (lv_at hl 1 rfl) ?_
        refine va_get (D := (dC, dI)) (ci := 11) (v := .int (v 62)) (C := RX11) (T := TX11) (N := 63) hx hb hts in_wsX11_count_X11 hown hK hP 0 rfl rfl 62 (by decide +kernel) (hts (.fieldLink RX11 357 "ShipOfficeModel" "rowed" "I") iw_X11_count_9) (fun _ h9 => h9) rfl dX11_count_217 ?_
        refine lv_topi (fun x_139 ex_139 => ?_)
        have hx_139 : 0 ≤ x_139.toInt ∧ x_139.toInt ≤ 12 := iv_of ex_139 (gV 62)
        clear ex_139
        exact W.iret (v := x_139) hx hb hr (fun t ht hW => ⟨⟨x_139, (), rfl, trivial, trivial⟩, hS.F ht⟩) hS.2.2 dX11_count_220
      have n_140 := c_ne (a := x1.toInt) (b := 9) rfl (by decide +kernel) q_138
      by_cases q_141 : x1 = 10
      · refine lv_topi (fun y ey => ?_)
        obtain rfl : y = 10 := ey.trans q_141
        refine lv_tableIn (x := 10) (off := 230) (tgt := 255) hx hb dX11_count_25 (by decide +kernel) (by decide +kernel) (by decide +kernel) (by decide +kernel) ?_
        refine lv_bipush (v := (-9)) hx hb dX11_count_255 (by decide +kernel) ?_
        exact W.iret (v := (-9)) hx hb hr (fun t ht hW => ⟨⟨(-9), (), rfl, trivial, trivial⟩, hS.F ht⟩) hS.2.2 dX11_count_257
      have n_142 := c_ne (a := x1.toInt) (b := 10) rfl (by decide +kernel) q_141
      by_cases q_143 : x1 = 11
      · refine lv_topi (fun y ey => ?_)
        obtain rfl : y = 11 := ey.trans q_143
        refine lv_tableIn (x := 11) (off := 230) (tgt := 255) hx hb dX11_count_25 (by decide +kernel) (by decide +kernel) (by decide +kernel) (by decide +kernel) ?_
        refine lv_bipush (v := (-9)) hx hb dX11_count_255 (by decide +kernel) ?_
        exact W.iret (v := (-9)) hx hb hr (fun t ht hW => ⟨⟨(-9), (), rfl, trivial, trivial⟩, hS.F ht⟩) hS.2.2 dX11_count_257
      have n_144 := c_ne (a := x1.toInt) (b := 11) rfl (by decide +kernel) q_143
      by_cases q_145 : x1 = 12
      · refine lv_topi (fun y ey => ?_)
        obtain rfl : y = 12 := ey.trans q_145
        refine lv_tableIn (x := 12) (off := 230) (tgt := 255) hx hb dX11_count_25 (by decide +kernel) (by decide +kernel) (by decide +kernel) (by decide +kernel) ?_
        refine lv_bipush (v := (-9)) hx hb dX11_count_255 (by decide +kernel) ?_
        exact W.iret (v := (-9)) hx hb hr (fun t ht hW => ⟨⟨(-9), (), rfl, trivial, trivial⟩, hS.F ht⟩) hS.2.2 dX11_count_257
      have n_146 := c_ne (a := x1.toInt) (b := 12) rfl (by decide +kernel) q_145
      by_cases q_147 : x1 = 13
      · refine lv_topi (fun y ey => ?_)
        obtain rfl : y = 13 := ey.trans q_147
        refine lv_tableIn (x := 13) (off := 230) (tgt := 255) hx hb dX11_count_25 (by decide +kernel) (by decide +kernel) (by decide +kernel) (by decide +kernel) ?_
        refine lv_bipush (v := (-9)) hx hb dX11_count_255 (by decide +kernel) ?_
        exact W.iret (v := (-9)) hx hb hr (fun t ht hW => ⟨⟨(-9), (), rfl, trivial, trivial⟩, hS.F ht⟩) hS.2.2 dX11_count_257
      have n_148 := c_ne (a := x1.toInt) (b := 13) rfl (by decide +kernel) q_147
      by_cases q_149 : x1 = 14
      · refine lv_topi (fun y ey => ?_)
        obtain rfl : y = 14 := ey.trans q_149
        refine lv_tableIn (x := 14) (off := 230) (tgt := 255) hx hb dX11_count_25 (by decide +kernel) (by decide +kernel) (by decide +kernel) (by decide +kernel) ?_
        refine lv_bipush (v := (-9)) hx hb dX11_count_255 (by decide +kernel) ?_
        exact W.iret (v := (-9)) hx hb hr (fun t ht hW => ⟨⟨(-9), (), rfl, trivial, trivial⟩, hS.F ht⟩) hS.2.2 dX11_count_257
      have n_150 := c_ne (a := x1.toInt) (b := 14) rfl (by decide +kernel) q_149
      by_cases q_151 : x1 = 15
      · refine lv_topi (fun y ey => ?_)
        obtain rfl : y = 15 := ey.trans q_151
        refine lv_tableIn (x := 15) (off := 230) (tgt := 255) hx hb dX11_count_25 (by decide +kernel) (by decide +kernel) (by decide +kernel) (by decide +kernel) ?_
        refine lv_bipush (v := (-9)) hx hb dX11_count_255 (by decide +kernel) ?_
        exact W.iret (v := (-9)) hx hb hr (fun t ht hW => ⟨⟨(-9), (), rfl, trivial, trivial⟩, hS.F ht⟩) hS.2.2 dX11_count_257
      have n_152 := c_ne (a := x1.toInt) (b := 15) rfl (by decide +kernel) q_151
      by_cases q_153 : x1 = 16
      · refine lv_topi (fun y ey => ?_)
        obtain rfl : y = 16 := ey.trans q_153
        refine lv_tableIn (x := 16) (off := 230) (tgt := 255) hx hb dX11_count_25 (by decide +kernel) (by decide +kernel) (by decide +kernel) (by decide +kernel) ?_
        refine lv_bipush (v := (-9)) hx hb dX11_count_255 (by decide +kernel) ?_
        exact W.iret (v := (-9)) hx hb hr (fun t ht hW => ⟨⟨(-9), (), rfl, trivial, trivial⟩, hS.F ht⟩) hS.2.2 dX11_count_257
      have n_154 := c_ne (a := x1.toInt) (b := 16) rfl (by decide +kernel) q_153
      by_cases q_155 : x1 = 17
      · refine lv_topi (fun y ey => ?_)
        obtain rfl : y = 17 := ey.trans q_155
        refine lv_tableIn (x := 17) (off := 196) (tgt := 221) hx hb dX11_count_25 (by decide +kernel) (by decide +kernel) (by decide +kernel) (by decide +kernel) ?_
        refine lv_iconst (v := 0) hx hb dX11_count_221 (by decide +kernel) ?_
        refine lv_istore_n (lv' := [(3, .int 0), (2, .int 0), (0, .ref g0), (1, .int x1)]) hx hb dX11_count_222 rfl hl (by decide +kernel) rfl (fun ls hl => ?_)
        have cut_156 : ∀ (n : Nat) (y_157 : Int32) (y_158 : Int32) (H : Heap) (locs : List Loc) (ls : Array Slot), 40 - y_157.toInt ≤ (n : Int) → (0 ≤ y_157.toInt ∧ y_157.toInt ≤ 40) → va_P (dC, dI) vwCl (mW g0 pq cp v fa) H → va_S A s.heap H locs → lv_has ls 4 [(3, .int y_157), (2, .int y_158), (0, .ref g0), (1, .int x1)] → W p l e (headSpec wsX11_count { frames := 2, cells := 0, slots := 0, locals := 44 }).room s m #[Value.ref g0, Value.int x1] below meth c H locs 0 0 (MQ below (va_Qi (fun (r : Int32) (u : Unit) => True) (fun _ _ => True) A) #[Value.ref g0, Value.int x1] s 0 0 A) (F0 m 223 ls []) := by
          intro n
          induction n using Nat.strongRecOn with
          | ind n ih =>
            intro y_157 y_158 H locs ls hm hy_157 hP hS hl
            refine lv_iload_n hx hb dX11_count_223 rfl (lv_at hl 0 rfl) ?_
            refine lv_aload_n hx hb dX11_count_224 rfl (lv_at hl 2 rfl) ?_
            refine va_get (D := (dC, dI)) (ci := 11) (v := .int (v 39)) (C := RX11) (T := TX11) (N := 63) hx hb hts in_wsX11_count_X11 hown hK hP 0 rfl rfl 39 (by decide +kernel) (hts (.fieldLink RX11 157 "ShipOfficeModel" "men" "I") iw_X11_count_2) (fun _ h9 => h9) rfl dX11_count_225 ?_
            refine lv_topi (fun x_159 ex_159 => ?_)
            have hx_159 : 0 ≤ x_159.toInt ∧ x_159.toInt ≤ 40 := iv_of ex_159 (gV 39)
            clear ex_159
            refine lv_icmp_ge (tgt := 253) hx hb dX11_count_228 (by decide +kernel) (fun c_160 => ?_) (fun c_160 => ?_)
            · have dc_160 := c_le (a := x_159.toInt) (b := y_157.toInt) rfl rfl c_160
              refine lv_iload_n hx hb dX11_count_253 rfl (lv_at hl 1 rfl) ?_
              exact W.iret (v := y_158) hx hb hr (fun t ht hW => ⟨⟨y_158, (), rfl, trivial, trivial⟩, hS.F ht⟩) hS.2.2 dX11_count_254
            · have dc_160 := c_nle (a := x_159.toInt) (b := y_157.toInt) rfl rfl c_160
              refine lv_iload_n hx hb dX11_count_231 rfl (lv_at hl 1 rfl) ?_
              refine lv_aload_n hx hb dX11_count_232 rfl (lv_at hl 2 rfl) ?_
              refine lv_iload_n hx hb dX11_count_233 rfl (lv_at hl 0 rfl) ?_
              have hFc : ∀ q, va_A [] H.size q → A q := pu_free hS hA
              refine va_calli (va_runV (As := [.int y_157]) (rest := [.int y_158]) ⟨hx, hb, hml, hown, hts⟩ (c_X11_asksAny l dC dI H.size g0 pq cp v fa y_157 (vp_in_iff.mpr (by omega))) (cwV 1 hts gX11_count_X11_asksAny rfl rfl rfl (by decide +kernel) ⟨(Nat.le_of_ble_eq_true rfl), (Nat.le_of_ble_eq_true rfl)⟩) (pr_V (r := (RX11, TX11, 63)) hP hK hD 0 11 rfl rfl) rfl rfl hl.1 rfl (lv_room (Nat.le_of_ble_eq_true rfl)) dX11_count_234 ⟨(Nat.le_of_ble_eq_true rfl), (Nat.le_of_ble_eq_true rfl)⟩) hS (fun q _ h => hFc q h) hFc (fun r_162 u t H locs ht hvm w_161 hB hz1 hk1 hS => ?_)
              have hP := pu_keep hP hk1
              clear hk1 hz1 hvm hB ht hFc
              have hb_163 : 0 ≤ r_162.toInt ∧ r_162.toInt ≤ 1 := z1_i w_161
              refine lv_if_eq (tgt := 244) hx hb dX11_count_237 (by decide +kernel) (fun c_164 => ?_) (fun c_164 => ?_)
              · have dc_164 := c_eq (a := r_162.toInt) (b := 0) rfl (by decide +kernel) c_164
                refine lv_iconst (v := 0) hx hb dX11_count_244 (by decide +kernel) ?_
                refine lv_iadd hx hb dX11_count_245 ?_
                refine lv_topi (fun x_165 ex_165 => ?_)
                clear ex_165
                refine lv_istore_n (lv' := [(2, .int x_165), (3, .int y_157), (0, .ref g0), (1, .int x1)]) hx hb dX11_count_246 rfl hl (by decide +kernel) rfl (fun ls hl => ?_)
                obtain ⟨x_166, ex_166⟩ : ∃ zq : Int32, y_157 + 1 = zq := ⟨_, rfl⟩
                have hx_166 : x_166.toInt = y_157.toInt + 1 := (iv_to ex_166).symm.trans (ad_i rfl (by decide +kernel) (by omega) (by omega))
                refine lv_iinc (v := x_166) (lv' := [(3, .int x_166), (2, .int x_165), (0, .ref g0), (1, .int x1)]) hx hb dX11_count_247 hl (k := 1) rfl ex_166 (by decide +kernel) rfl (fun ls hl => ?_)
                clear ex_166
                refine lv_goto (tgt := 223) hx hb dX11_count_250 (by decide +kernel) ?_
                exact ih (n - 1) (by omega) x_166 x_165 _ _ ls (by omega) (by omega) hP hS (lv_sub hl [0, 1, 2, 3] rfl)
              · have dc_164 := c_ne (a := r_162.toInt) (b := 0) rfl (by decide +kernel) c_164
                refine lv_iconst (v := 1) hx hb dX11_count_240 (by decide +kernel) ?_
                refine lv_goto (tgt := 245) hx hb dX11_count_241 (by decide +kernel) ?_
                refine lv_iadd hx hb dX11_count_245 ?_
                refine lv_topi (fun x_167 ex_167 => ?_)
                clear ex_167
                refine lv_istore_n (lv' := [(2, .int x_167), (3, .int y_157), (0, .ref g0), (1, .int x1)]) hx hb dX11_count_246 rfl hl (by decide +kernel) rfl (fun ls hl => ?_)
                obtain ⟨x_168, ex_168⟩ : ∃ zq : Int32, y_157 + 1 = zq := ⟨_, rfl⟩
                have hx_168 : x_168.toInt = y_157.toInt + 1 := (iv_to ex_168).symm.trans (ad_i rfl (by decide +kernel) (by omega) (by omega))
                refine lv_iinc (v := x_168) (lv' := [(3, .int x_168), (2, .int x_167), (0, .ref g0), (1, .int x1)]) hx hb dX11_count_247 hl (k := 1) rfl ex_168 (by decide +kernel) rfl (fun ls hl => ?_)
                clear ex_168
                refine lv_goto (tgt := 223) hx hb dX11_count_250 (by decide +kernel) ?_
                exact ih (n - 1) (by omega) x_168 x_167 _ _ ls (by omega) (by omega) hP hS (lv_sub hl [0, 1, 2, 3] rfl)
        have kc_169 : (0 : Int32).toInt = 0 := by decide
        exact cut_156 41 0 0 _ _ ls (by omega) (by decide +kernel) hP hS (lv_sub hl [0, 1, 2, 3] rfl)
      have n_170 := c_ne (a := x1.toInt) (b := 17) rfl (by decide +kernel) q_155
      refine lv_tableOut (tgt := 255) hx hb dX11_count_25 (by omega) (by decide +kernel) ?_
      refine lv_bipush (v := (-9)) hx hb dX11_count_255 (by decide +kernel) ?_
      exact W.iret (v := (-9)) hx hb hr (fun t ht hW => ⟨⟨(-9), (), rfl, trivial, trivial⟩, hS.F ht⟩) hS.2.2 dX11_count_257
    · have dc_86 := c_nle (a := 17) (b := x1.toInt) (by decide +kernel) rfl c_86
      refine lv_aload_n hx hb dX11_count_12 rfl (lv_at hl 0 rfl) ?_
      refine va_get (D := (dC, dI)) (ci := 11) (v := .ref (pq 0)) (C := RX11) (T := TX11) (N := 63) hx hb hts in_wsX11_count_X11 hown hK hP 0 rfl rfl 0 (by decide +kernel) (hts (.fieldLink RX11 7 "ShipOfficeModel" "refusals" "[I") iw_X11_count_10) (fun _ h9 => h9) rfl dX11_count_13 ?_
      refine lv_iload_n hx hb dX11_count_16 rfl (lv_at hl 1 rfl) ?_
      refine lv_bipush (v := 10) hx hb dX11_count_17 (by decide +kernel) ?_
      refine lv_isub hx hb dX11_count_19 ?_
      refine lv_topi (fun x_171 ex_171 => ?_)
      have hx_171 : x_171.toInt = x1.toInt - 10 := (iv_to ex_171).trans (sb_i rfl (by decide +kernel) (by omega) (by omega))
      clear ex_171
      refine va_iald hx hb hK hP 1 0 rfl rfl (vp_in_iff.mpr (by omega)) dX11_count_20 ?_
      refine lv_topi (fun x_172 ex_172 => ?_)
      clear ex_172
      exact W.iret (v := x_172) hx hb hr (fun t ht hW => ⟨⟨x_172, (), rfl, trivial, trivial⟩, hS.F ht⟩) hS.2.2 dX11_count_21
