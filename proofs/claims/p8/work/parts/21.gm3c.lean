abbrev cX11_fine : ByteArray := prog_13_method_57_code
def yX11_fine : MethodName := ⟨RX11, "fine", "(IIIZ)I"⟩
abbrev cX11_read : ByteArray := prog_13_method_59_code
def yX11_read : MethodName := ⟨RX11, "read", "(II)I"⟩
abbrev cX11_standsOf : ByteArray := prog_13_method_60_code
def yX11_standsOf : MethodName := ⟨RX11, "standsOf", "(III)I"⟩
abbrev cX11_stands : ByteArray := prog_13_method_61_code
def yX11_stands : MethodName := ⟨RX11, "stands", "(III)I"⟩
abbrev cX11_rations : ByteArray := prog_13_method_62_code
def yX11_rations : MethodName := ⟨RX11, "rations", "(III)I"⟩
theorem gw_X11_puts : wsX11_puts.all goodWord = true := by decide +kernel
def wsX11_fine : List Cond := .code yX11_fine cX11_fine 6 (some .int) :: ([.fieldLink RX11 88 "ShipOfficeModel" "offOn" "[I", .fieldLink RX11 85 "ShipOfficeModel" "signed" "[I", .fieldLink RX11 171 "ShipOfficeModel" "now" "I", .fieldLink RX11 100 "ShipOfficeModel" "fines" "[I", .fieldLink RX11 109 "ShipOfficeModel" "fineDay" "[I", .fieldLink RX11 112 "ShipOfficeModel" "fineSum" "[I", .fieldLink RX11 121 "ShipOfficeModel" "isRead" "[Z", .methodLink RX11 199 yX11_isAgreement, .instanceMethod yX11_isAgreement, .selects RX11 yX11_isAgreement yX11_isAgreement, .initialized RX11, .code yX11_isAgreement cX11_isAgreement 2 (some .boolean), .fieldLink RX11 168 "ShipOfficeModel" "agreements" "I", .methodLink RX11 161 yX11_isIn, .static yX11_isIn, .code yX11_isIn cX11_isIn 2 (some .boolean), .methodLink RX11 153 yX11_refuse, .instanceMethod yX11_refuse, .selects RX11 yX11_refuse yX11_refuse, .code yX11_refuse cX11_refuse 2 (some .int), .fieldLink RX11 7 "ShipOfficeModel" "refusals" "[I"] ++ wsX110)
theorem il_X11_fine_1 : ∀ w ∈ ([.fieldLink RX11 88 "ShipOfficeModel" "offOn" "[I", .fieldLink RX11 85 "ShipOfficeModel" "signed" "[I", .fieldLink RX11 171 "ShipOfficeModel" "now" "I", .fieldLink RX11 100 "ShipOfficeModel" "fines" "[I", .fieldLink RX11 109 "ShipOfficeModel" "fineDay" "[I", .fieldLink RX11 112 "ShipOfficeModel" "fineSum" "[I", .fieldLink RX11 121 "ShipOfficeModel" "isRead" "[Z", .methodLink RX11 199 yX11_isAgreement, .instanceMethod yX11_isAgreement, .selects RX11 yX11_isAgreement yX11_isAgreement, .initialized RX11, .code yX11_isAgreement cX11_isAgreement 2 (some .boolean), .fieldLink RX11 168 "ShipOfficeModel" "agreements" "I", .methodLink RX11 161 yX11_isIn, .static yX11_isIn, .code yX11_isIn cX11_isIn 2 (some .boolean), .methodLink RX11 153 yX11_refuse, .instanceMethod yX11_refuse, .selects RX11 yX11_refuse yX11_refuse, .code yX11_refuse cX11_refuse 2 (some .int), .fieldLink RX11 7 "ShipOfficeModel" "refusals" "[I"] : List Cond), w ∈ wsX11_fine := fun w h => (List.mem_cons_of_mem _ (List.mem_append_left _ h))
theorem il_X11_fine_2 : ∀ w ∈ wsX110, w ∈ wsX11_fine := fun w h => (List.mem_cons_of_mem _ (List.mem_append_right _ h))
theorem iw_X11_fine_1 : Cond.fieldLink RX11 88 "ShipOfficeModel" "offOn" "[I" ∈ wsX11_fine := (mmI il_X11_fine_1 0 rfl)
theorem iw_X11_fine_2 : Cond.fieldLink RX11 85 "ShipOfficeModel" "signed" "[I" ∈ wsX11_fine := (mmI il_X11_fine_1 1 rfl)
theorem iw_X11_fine_3 : Cond.fieldLink RX11 171 "ShipOfficeModel" "now" "I" ∈ wsX11_fine := (mmI il_X11_fine_1 2 rfl)
theorem iw_X11_fine_4 : Cond.fieldLink RX11 100 "ShipOfficeModel" "fines" "[I" ∈ wsX11_fine := (mmI il_X11_fine_1 3 rfl)
theorem iw_X11_fine_5 : Cond.fieldLink RX11 109 "ShipOfficeModel" "fineDay" "[I" ∈ wsX11_fine := (mmI il_X11_fine_1 4 rfl)
theorem iw_X11_fine_6 : Cond.fieldLink RX11 112 "ShipOfficeModel" "fineSum" "[I" ∈ wsX11_fine := (mmI il_X11_fine_1 5 rfl)
theorem iw_X11_fine_7 : Cond.fieldLink RX11 121 "ShipOfficeModel" "isRead" "[Z" ∈ wsX11_fine := (mmI il_X11_fine_1 6 rfl)
theorem gw_X11_isFine : wsX11_isFine.all goodWord = true := by decide +kernel
def wsX11_read : List Cond := .code yX11_read cX11_read 3 (some .int) :: ([.fieldLink RX11 121 "ShipOfficeModel" "isRead" "[Z", .fieldLink RX11 109 "ShipOfficeModel" "fineDay" "[I", .fieldLink RX11 171 "ShipOfficeModel" "now" "I", .methodLink RX11 312 yX11_isFine, .instanceMethod yX11_isFine, .selects RX11 yX11_isFine yX11_isFine, .initialized RX11, .code yX11_isFine cX11_isFine 3 (some .boolean), .fieldLink RX11 100 "ShipOfficeModel" "fines" "[I", .methodLink RX11 199 yX11_isAgreement, .instanceMethod yX11_isAgreement, .selects RX11 yX11_isAgreement yX11_isAgreement, .code yX11_isAgreement cX11_isAgreement 2 (some .boolean), .fieldLink RX11 168 "ShipOfficeModel" "agreements" "I", .methodLink RX11 161 yX11_isIn, .static yX11_isIn, .code yX11_isIn cX11_isIn 2 (some .boolean), .methodLink RX11 153 yX11_refuse, .instanceMethod yX11_refuse, .selects RX11 yX11_refuse yX11_refuse, .code yX11_refuse cX11_refuse 2 (some .int), .fieldLink RX11 7 "ShipOfficeModel" "refusals" "[I"] ++ wsX110)
theorem il_X11_read_1 : ∀ w ∈ ([.fieldLink RX11 121 "ShipOfficeModel" "isRead" "[Z", .fieldLink RX11 109 "ShipOfficeModel" "fineDay" "[I", .fieldLink RX11 171 "ShipOfficeModel" "now" "I", .methodLink RX11 312 yX11_isFine, .instanceMethod yX11_isFine, .selects RX11 yX11_isFine yX11_isFine, .initialized RX11, .code yX11_isFine cX11_isFine 3 (some .boolean), .fieldLink RX11 100 "ShipOfficeModel" "fines" "[I", .methodLink RX11 199 yX11_isAgreement, .instanceMethod yX11_isAgreement, .selects RX11 yX11_isAgreement yX11_isAgreement, .code yX11_isAgreement cX11_isAgreement 2 (some .boolean), .fieldLink RX11 168 "ShipOfficeModel" "agreements" "I", .methodLink RX11 161 yX11_isIn, .static yX11_isIn, .code yX11_isIn cX11_isIn 2 (some .boolean), .methodLink RX11 153 yX11_refuse, .instanceMethod yX11_refuse, .selects RX11 yX11_refuse yX11_refuse, .code yX11_refuse cX11_refuse 2 (some .int), .fieldLink RX11 7 "ShipOfficeModel" "refusals" "[I"] : List Cond), w ∈ wsX11_read := fun w h => (List.mem_cons_of_mem _ (List.mem_append_left _ h))
theorem il_X11_read_2 : ∀ w ∈ wsX110, w ∈ wsX11_read := fun w h => (List.mem_cons_of_mem _ (List.mem_append_right _ h))
theorem iw_X11_read_1 : Cond.fieldLink RX11 121 "ShipOfficeModel" "isRead" "[Z" ∈ wsX11_read := (mmI il_X11_read_1 0 rfl)
theorem iw_X11_read_2 : Cond.fieldLink RX11 109 "ShipOfficeModel" "fineDay" "[I" ∈ wsX11_read := (mmI il_X11_read_1 1 rfl)
theorem iw_X11_read_3 : Cond.fieldLink RX11 171 "ShipOfficeModel" "now" "I" ∈ wsX11_read := (mmI il_X11_read_1 2 rfl)
def wsX11_standsOf_r1 : List Cond := [Cond.fieldLink RX11 109 "ShipOfficeModel" "fineDay" "[I", Cond.fieldLink RX11 112 "ShipOfficeModel" "fineSum" "[I", Cond.fieldLink RX11 121 "ShipOfficeModel" "isRead" "[Z", Cond.methodLink RX11 306 yX11_puts, Cond.instanceMethod yX11_puts, Cond.selects RX11 yX11_puts yX11_puts, Cond.initialized RX11, Cond.code yX11_puts cX11_puts 9 none, Cond.fieldLink RX11 85 "ShipOfficeModel" "signed" "[I", Cond.fieldLink RX11 73 "ShipOfficeModel" "voyage" "[I", Cond.fieldLink RX11 128 "ShipOfficeModel" "letters" "[I", Cond.fieldLink RX11 76 "ShipOfficeModel" "wage" "[I", Cond.fieldLink RX11 79 "ShipOfficeModel" "rank" "[I", Cond.fieldLink RX11 22 "ShipOfficeModel" "born" "[I", Cond.fieldLink RX11 70 "ShipOfficeModel" "man" "[I", Cond.methodLink RX11 266 yX11_stateOf, Cond.instanceMethod yX11_stateOf, Cond.selects RX11 yX11_stateOf yX11_stateOf, Cond.code yX11_stateOf cX11_stateOf 5 (some .int), Cond.fieldLink RX11 88 "ShipOfficeModel" "offOn" "[I", Cond.fieldLink RX11 40 "ShipOfficeModel" "what" "[I", Cond.methodLink RX11 288 yX11_isDead, Cond.instanceMethod yX11_isDead, Cond.selects RX11 yX11_isDead yX11_isDead]
def wsX11_standsOf_r2 : List Cond := [Cond.code yX11_isDead cX11_isDead 5 (some .boolean), Cond.fieldLink RX11 179 "ShipOfficeModel" "happened" "I", Cond.fieldLink RX11 43 "ShipOfficeModel" "whose" "[I", Cond.fieldLink RX11 49 "ShipOfficeModel" "known" "[I", Cond.fieldLink RX11 46 "ShipOfficeModel" "day" "[I", Cond.methodLink RX11 291 yX11_whereOf, Cond.instanceMethod yX11_whereOf, Cond.selects RX11 yX11_whereOf yX11_whereOf, Cond.code yX11_whereOf cX11_whereOf 6 (some .int), Cond.methodLink RX11 281 yX11_hasSailed, Cond.instanceMethod yX11_hasSailed, Cond.selects RX11 yX11_hasSailed yX11_hasSailed, Cond.code yX11_hasSailed cX11_hasSailed 5 (some .boolean), Cond.methodLink RX11 278 yX11_sailedOn, Cond.instanceMethod yX11_sailedOn, Cond.selects RX11 yX11_sailedOn yX11_sailedOn, Cond.code yX11_sailedOn cX11_sailedOn 4 (some .int), Cond.methodLink RX11 294 yX11_isUnknown, Cond.instanceMethod yX11_isUnknown, Cond.selects RX11 yX11_isUnknown yX11_isUnknown, Cond.code yX11_isUnknown cX11_isUnknown 4 (some .boolean), Cond.methodLink RX11 275 yX11_bare, Cond.instanceMethod yX11_bare, Cond.selects RX11 yX11_bare yX11_bare]
def wsX11_standsOf_r3 : List Cond := [Cond.code yX11_bare cX11_bare 2 none, Cond.methodLink RX11 272 yX11_lastHeard, Cond.instanceMethod yX11_lastHeard, Cond.selects RX11 yX11_lastHeard yX11_lastHeard, Cond.code yX11_lastHeard cX11_lastHeard 6 (some .int), Cond.methodLink RX11 285 yX11_worth, Cond.instanceMethod yX11_worth, Cond.selects RX11 yX11_worth yX11_worth, Cond.code yX11_worth cX11_worth 4 (some .int), Cond.fieldLink RX11 58 "ShipOfficeModel" "textSize" "[I", Cond.methodLink RX11 263 yX11_actOn, Cond.instanceMethod yX11_actOn, Cond.selects RX11 yX11_actOn yX11_actOn, Cond.code yX11_actOn cX11_actOn 5 (some .int), Cond.fieldLink RX11 256 "ShipOfficeModel" "acts" "I", Cond.fieldLink RX11 61 "ShipOfficeModel" "purpose" "[I", Cond.fieldLink RX11 64 "ShipOfficeModel" "from" "[I", Cond.methodLink RX11 259 yX11_goesThrough, Cond.instanceMethod yX11_goesThrough, Cond.selects RX11 yX11_goesThrough yX11_goesThrough, Cond.code yX11_goesThrough cX11_goesThrough 3 (some .int), Cond.fieldLink RX11 216 "ShipOfficeModel" "base" "I", Cond.fieldLink RX11 213 "ShipOfficeModel" "size" "I", Cond.fieldLink RX11 210 "ShipOfficeModel" "at" "I"]
def wsX11_standsOf_r4 : List Cond := [Cond.fieldLink RX11 244 "ShipOfficeModel" "deep" "I", Cond.fieldLink RX11 223 "ShipOfficeModel" "isWell" "Z", Cond.methodLink RX11 250 yX11_sum, Cond.instanceMethod yX11_sum, Cond.selects RX11 yX11_sum yX11_sum, Cond.code yX11_sum cX11_sum 4 (some .int), Cond.methodLink RX11 231 yX11_term, Cond.instanceMethod yX11_term, Cond.selects RX11 yX11_term yX11_term, Cond.methodLink RX11 227 yX11_sign, Cond.instanceMethod yX11_sign, Cond.selects RX11 yX11_sign yX11_sign, Cond.code yX11_sign cX11_sign 1 (some .int), Cond.fieldLink RX11 125 "ShipOfficeModel" "tape" "[I", Cond.fieldLink RX11 67 "ShipOfficeModel" "text" "[I", Cond.methodLink RX11 234 yX11_held, Cond.static yX11_held, Cond.code yX11_held cX11_held 2 (some .int), Cond.constantLong RX11 219 (1000000000), Cond.constantLong RX11 221 (-1000000000), Cond.code yX11_term cX11_term 4 (some .int), Cond.methodLink RX11 238 yX11_unit, Cond.instanceMethod yX11_unit, Cond.selects RX11 yX11_unit yX11_unit]
def wsX11_standsOf_r5 : List Cond := [Cond.code yX11_unit cX11_unit 5 (some .int), Cond.methodLink RX11 241 yX11_isLetter, Cond.static yX11_isLetter, Cond.code yX11_isLetter cX11_isLetter 1 (some .boolean), Cond.methodLink RX11 247 yX11_breaks, Cond.instanceMethod yX11_breaks, Cond.selects RX11 yX11_breaks yX11_breaks, Cond.code yX11_breaks cX11_breaks 1 (some .int), Cond.methodLink RX11 253 yX11_takes, Cond.instanceMethod yX11_takes, Cond.selects RX11 yX11_takes yX11_takes, Cond.code yX11_takes cX11_takes 2 (some .boolean), Cond.methodLink RX11 269 yX11_aboardOf, Cond.instanceMethod yX11_aboardOf, Cond.selects RX11 yX11_aboardOf yX11_aboardOf, Cond.code yX11_aboardOf cX11_aboardOf 6 (some .int), Cond.fieldLink RX11 168 "ShipOfficeModel" "agreements" "I"]
def wsX11_standsOf : List Cond := .code yX11_standsOf cX11_standsOf 6 (some .int) :: ((wsX11_standsOf_r1 ++ (wsX11_standsOf_r2 ++ (wsX11_standsOf_r3 ++ (wsX11_standsOf_r4 ++ wsX11_standsOf_r5)))) ++ wsX110)
theorem gw_X11_standsOf : wsX11_standsOf.all goodWord = true := by decide +kernel
theorem il_X11_standsOf_1 : ∀ w ∈ wsX11_standsOf_r1, w ∈ wsX11_standsOf := fun w h => (List.mem_cons_of_mem _ (List.mem_append_left _ (List.mem_append_left _ h)))
theorem il_X11_standsOf_2 : ∀ w ∈ wsX11_standsOf_r2, w ∈ wsX11_standsOf := fun w h => (List.mem_cons_of_mem _ (List.mem_append_left _ (List.mem_append_right _ (List.mem_append_left _ h))))
theorem il_X11_standsOf_3 : ∀ w ∈ wsX11_standsOf_r3, w ∈ wsX11_standsOf := fun w h => (List.mem_cons_of_mem _ (List.mem_append_left _ (List.mem_append_right _ (List.mem_append_right _ (List.mem_append_left _ h)))))
theorem il_X11_standsOf_4 : ∀ w ∈ wsX11_standsOf_r4, w ∈ wsX11_standsOf := fun w h => (List.mem_cons_of_mem _ (List.mem_append_left _ (List.mem_append_right _ (List.mem_append_right _ (List.mem_append_right _ (List.mem_append_left _ h))))))
theorem il_X11_standsOf_5 : ∀ w ∈ wsX11_standsOf_r5, w ∈ wsX11_standsOf := fun w h => (List.mem_cons_of_mem _ (List.mem_append_left _ (List.mem_append_right _ (List.mem_append_right _ (List.mem_append_right _ (List.mem_append_right _ h))))))
theorem il_X11_standsOf_6 : ∀ w ∈ wsX110, w ∈ wsX11_standsOf := fun w h => (List.mem_cons_of_mem _ (List.mem_append_right _ h))
theorem iw_X11_standsOf_1 : Cond.fieldLink RX11 109 "ShipOfficeModel" "fineDay" "[I" ∈ wsX11_standsOf := (mmI il_X11_standsOf_1 0 rfl)
theorem iw_X11_standsOf_2 : Cond.fieldLink RX11 112 "ShipOfficeModel" "fineSum" "[I" ∈ wsX11_standsOf := (mmI il_X11_standsOf_1 1 rfl)
theorem iw_X11_standsOf_3 : Cond.fieldLink RX11 121 "ShipOfficeModel" "isRead" "[Z" ∈ wsX11_standsOf := (mmI il_X11_standsOf_1 2 rfl)
def wsX11_stands_r1 : List Cond := [Cond.fieldLink RX11 171 "ShipOfficeModel" "now" "I", Cond.methodLink RX11 312 yX11_isFine, Cond.instanceMethod yX11_isFine, Cond.selects RX11 yX11_isFine yX11_isFine, Cond.initialized RX11, Cond.code yX11_isFine cX11_isFine 3 (some .boolean), Cond.fieldLink RX11 100 "ShipOfficeModel" "fines" "[I", Cond.methodLink RX11 199 yX11_isAgreement, Cond.instanceMethod yX11_isAgreement, Cond.selects RX11 yX11_isAgreement yX11_isAgreement, Cond.code yX11_isAgreement cX11_isAgreement 2 (some .boolean), Cond.fieldLink RX11 168 "ShipOfficeModel" "agreements" "I", Cond.methodLink RX11 161 yX11_isIn, Cond.static yX11_isIn, Cond.code yX11_isIn cX11_isIn 2 (some .boolean), Cond.methodLink RX11 153 yX11_refuse, Cond.instanceMethod yX11_refuse, Cond.selects RX11 yX11_refuse yX11_refuse, Cond.code yX11_refuse cX11_refuse 2 (some .int), Cond.fieldLink RX11 7 "ShipOfficeModel" "refusals" "[I", Cond.methodLink RX11 315 yX11_standsOf, Cond.instanceMethod yX11_standsOf, Cond.selects RX11 yX11_standsOf yX11_standsOf, Cond.code yX11_standsOf cX11_standsOf 6 (some .int)]
def wsX11_stands_r2 : List Cond := [Cond.fieldLink RX11 109 "ShipOfficeModel" "fineDay" "[I", Cond.fieldLink RX11 112 "ShipOfficeModel" "fineSum" "[I", Cond.fieldLink RX11 121 "ShipOfficeModel" "isRead" "[Z", Cond.methodLink RX11 306 yX11_puts, Cond.instanceMethod yX11_puts, Cond.selects RX11 yX11_puts yX11_puts, Cond.code yX11_puts cX11_puts 9 none, Cond.fieldLink RX11 85 "ShipOfficeModel" "signed" "[I", Cond.fieldLink RX11 73 "ShipOfficeModel" "voyage" "[I", Cond.fieldLink RX11 128 "ShipOfficeModel" "letters" "[I", Cond.fieldLink RX11 76 "ShipOfficeModel" "wage" "[I", Cond.fieldLink RX11 79 "ShipOfficeModel" "rank" "[I", Cond.fieldLink RX11 22 "ShipOfficeModel" "born" "[I", Cond.fieldLink RX11 70 "ShipOfficeModel" "man" "[I", Cond.methodLink RX11 266 yX11_stateOf, Cond.instanceMethod yX11_stateOf, Cond.selects RX11 yX11_stateOf yX11_stateOf, Cond.code yX11_stateOf cX11_stateOf 5 (some .int), Cond.fieldLink RX11 88 "ShipOfficeModel" "offOn" "[I", Cond.fieldLink RX11 40 "ShipOfficeModel" "what" "[I", Cond.methodLink RX11 288 yX11_isDead, Cond.instanceMethod yX11_isDead, Cond.selects RX11 yX11_isDead yX11_isDead, Cond.code yX11_isDead cX11_isDead 5 (some .boolean)]
def wsX11_stands_r3 : List Cond := [Cond.fieldLink RX11 179 "ShipOfficeModel" "happened" "I", Cond.fieldLink RX11 43 "ShipOfficeModel" "whose" "[I", Cond.fieldLink RX11 49 "ShipOfficeModel" "known" "[I", Cond.fieldLink RX11 46 "ShipOfficeModel" "day" "[I", Cond.methodLink RX11 291 yX11_whereOf, Cond.instanceMethod yX11_whereOf, Cond.selects RX11 yX11_whereOf yX11_whereOf, Cond.code yX11_whereOf cX11_whereOf 6 (some .int), Cond.methodLink RX11 281 yX11_hasSailed, Cond.instanceMethod yX11_hasSailed, Cond.selects RX11 yX11_hasSailed yX11_hasSailed, Cond.code yX11_hasSailed cX11_hasSailed 5 (some .boolean), Cond.methodLink RX11 278 yX11_sailedOn, Cond.instanceMethod yX11_sailedOn, Cond.selects RX11 yX11_sailedOn yX11_sailedOn, Cond.code yX11_sailedOn cX11_sailedOn 4 (some .int), Cond.methodLink RX11 294 yX11_isUnknown, Cond.instanceMethod yX11_isUnknown, Cond.selects RX11 yX11_isUnknown yX11_isUnknown, Cond.code yX11_isUnknown cX11_isUnknown 4 (some .boolean), Cond.methodLink RX11 275 yX11_bare, Cond.instanceMethod yX11_bare, Cond.selects RX11 yX11_bare yX11_bare, Cond.code yX11_bare cX11_bare 2 none]
def wsX11_stands_r4 : List Cond := [Cond.methodLink RX11 272 yX11_lastHeard, Cond.instanceMethod yX11_lastHeard, Cond.selects RX11 yX11_lastHeard yX11_lastHeard, Cond.code yX11_lastHeard cX11_lastHeard 6 (some .int), Cond.methodLink RX11 285 yX11_worth, Cond.instanceMethod yX11_worth, Cond.selects RX11 yX11_worth yX11_worth, Cond.code yX11_worth cX11_worth 4 (some .int), Cond.fieldLink RX11 58 "ShipOfficeModel" "textSize" "[I", Cond.methodLink RX11 263 yX11_actOn, Cond.instanceMethod yX11_actOn, Cond.selects RX11 yX11_actOn yX11_actOn, Cond.code yX11_actOn cX11_actOn 5 (some .int), Cond.fieldLink RX11 256 "ShipOfficeModel" "acts" "I", Cond.fieldLink RX11 61 "ShipOfficeModel" "purpose" "[I", Cond.fieldLink RX11 64 "ShipOfficeModel" "from" "[I", Cond.methodLink RX11 259 yX11_goesThrough, Cond.instanceMethod yX11_goesThrough, Cond.selects RX11 yX11_goesThrough yX11_goesThrough, Cond.code yX11_goesThrough cX11_goesThrough 3 (some .int), Cond.fieldLink RX11 216 "ShipOfficeModel" "base" "I", Cond.fieldLink RX11 213 "ShipOfficeModel" "size" "I", Cond.fieldLink RX11 210 "ShipOfficeModel" "at" "I", Cond.fieldLink RX11 244 "ShipOfficeModel" "deep" "I"]
def wsX11_stands_r5 : List Cond := [Cond.fieldLink RX11 223 "ShipOfficeModel" "isWell" "Z", Cond.methodLink RX11 250 yX11_sum, Cond.instanceMethod yX11_sum, Cond.selects RX11 yX11_sum yX11_sum, Cond.code yX11_sum cX11_sum 4 (some .int), Cond.methodLink RX11 231 yX11_term, Cond.instanceMethod yX11_term, Cond.selects RX11 yX11_term yX11_term, Cond.methodLink RX11 227 yX11_sign, Cond.instanceMethod yX11_sign, Cond.selects RX11 yX11_sign yX11_sign, Cond.code yX11_sign cX11_sign 1 (some .int), Cond.fieldLink RX11 125 "ShipOfficeModel" "tape" "[I", Cond.fieldLink RX11 67 "ShipOfficeModel" "text" "[I", Cond.methodLink RX11 234 yX11_held, Cond.static yX11_held, Cond.code yX11_held cX11_held 2 (some .int), Cond.constantLong RX11 219 (1000000000), Cond.constantLong RX11 221 (-1000000000), Cond.code yX11_term cX11_term 4 (some .int), Cond.methodLink RX11 238 yX11_unit, Cond.instanceMethod yX11_unit, Cond.selects RX11 yX11_unit yX11_unit, Cond.code yX11_unit cX11_unit 5 (some .int)]
def wsX11_stands_r6 : List Cond := [Cond.methodLink RX11 241 yX11_isLetter, Cond.static yX11_isLetter, Cond.code yX11_isLetter cX11_isLetter 1 (some .boolean), Cond.methodLink RX11 247 yX11_breaks, Cond.instanceMethod yX11_breaks, Cond.selects RX11 yX11_breaks yX11_breaks, Cond.code yX11_breaks cX11_breaks 1 (some .int), Cond.methodLink RX11 253 yX11_takes, Cond.instanceMethod yX11_takes, Cond.selects RX11 yX11_takes yX11_takes, Cond.code yX11_takes cX11_takes 2 (some .boolean), Cond.methodLink RX11 269 yX11_aboardOf, Cond.instanceMethod yX11_aboardOf, Cond.selects RX11 yX11_aboardOf yX11_aboardOf, Cond.code yX11_aboardOf cX11_aboardOf 6 (some .int)]
def wsX11_stands : List Cond := .code yX11_stands cX11_stands 4 (some .int) :: ((wsX11_stands_r1 ++ (wsX11_stands_r2 ++ (wsX11_stands_r3 ++ (wsX11_stands_r4 ++ (wsX11_stands_r5 ++ wsX11_stands_r6))))) ++ wsX110)
theorem il_X11_stands_1 : ∀ w ∈ wsX11_stands_r1, w ∈ wsX11_stands := fun w h => (List.mem_cons_of_mem _ (List.mem_append_left _ (List.mem_append_left _ h)))
theorem il_X11_stands_2 : ∀ w ∈ wsX11_stands_r2, w ∈ wsX11_stands := fun w h => (List.mem_cons_of_mem _ (List.mem_append_left _ (List.mem_append_right _ (List.mem_append_left _ h))))
theorem il_X11_stands_3 : ∀ w ∈ wsX11_stands_r3, w ∈ wsX11_stands := fun w h => (List.mem_cons_of_mem _ (List.mem_append_left _ (List.mem_append_right _ (List.mem_append_right _ (List.mem_append_left _ h)))))
theorem il_X11_stands_4 : ∀ w ∈ wsX11_stands_r4, w ∈ wsX11_stands := fun w h => (List.mem_cons_of_mem _ (List.mem_append_left _ (List.mem_append_right _ (List.mem_append_right _ (List.mem_append_right _ (List.mem_append_left _ h))))))
theorem il_X11_stands_5 : ∀ w ∈ wsX11_stands_r5, w ∈ wsX11_stands := fun w h => (List.mem_cons_of_mem _ (List.mem_append_left _ (List.mem_append_right _ (List.mem_append_right _ (List.mem_append_right _ (List.mem_append_right _ (List.mem_append_left _ h)))))))
theorem il_X11_stands_6 : ∀ w ∈ wsX11_stands_r6, w ∈ wsX11_stands := fun w h => (List.mem_cons_of_mem _ (List.mem_append_left _ (List.mem_append_right _ (List.mem_append_right _ (List.mem_append_right _ (List.mem_append_right _ (List.mem_append_right _ h)))))))
theorem il_X11_stands_7 : ∀ w ∈ wsX110, w ∈ wsX11_stands := fun w h => (List.mem_cons_of_mem _ (List.mem_append_right _ h))
theorem iw_X11_stands_1 : Cond.fieldLink RX11 171 "ShipOfficeModel" "now" "I" ∈ wsX11_stands := (mmI il_X11_stands_1 0 rfl)
def wsX11_rations : List Cond := .code yX11_rations cX11_rations 5 (some .int) :: ([.fieldLink RX11 106 "ShipOfficeModel" "shortDays" "[I", .fieldLink RX11 103 "ShipOfficeModel" "shorts" "[I", .fieldLink RX11 115 "ShipOfficeModel" "shortOn" "[I", .fieldLink RX11 171 "ShipOfficeModel" "now" "I", .fieldLink RX11 118 "ShipOfficeModel" "shortSum" "[I", .methodLink RX11 199 yX11_isAgreement, .instanceMethod yX11_isAgreement, .selects RX11 yX11_isAgreement yX11_isAgreement, .initialized RX11, .code yX11_isAgreement cX11_isAgreement 2 (some .boolean), .fieldLink RX11 168 "ShipOfficeModel" "agreements" "I", .methodLink RX11 161 yX11_isIn, .static yX11_isIn, .code yX11_isIn cX11_isIn 2 (some .boolean), .methodLink RX11 153 yX11_refuse, .instanceMethod yX11_refuse, .selects RX11 yX11_refuse yX11_refuse, .code yX11_refuse cX11_refuse 2 (some .int), .fieldLink RX11 7 "ShipOfficeModel" "refusals" "[I"] ++ wsX110)
theorem il_X11_rations_1 : ∀ w ∈ ([.fieldLink RX11 106 "ShipOfficeModel" "shortDays" "[I", .fieldLink RX11 103 "ShipOfficeModel" "shorts" "[I", .fieldLink RX11 115 "ShipOfficeModel" "shortOn" "[I", .fieldLink RX11 171 "ShipOfficeModel" "now" "I", .fieldLink RX11 118 "ShipOfficeModel" "shortSum" "[I", .methodLink RX11 199 yX11_isAgreement, .instanceMethod yX11_isAgreement, .selects RX11 yX11_isAgreement yX11_isAgreement, .initialized RX11, .code yX11_isAgreement cX11_isAgreement 2 (some .boolean), .fieldLink RX11 168 "ShipOfficeModel" "agreements" "I", .methodLink RX11 161 yX11_isIn, .static yX11_isIn, .code yX11_isIn cX11_isIn 2 (some .boolean), .methodLink RX11 153 yX11_refuse, .instanceMethod yX11_refuse, .selects RX11 yX11_refuse yX11_refuse, .code yX11_refuse cX11_refuse 2 (some .int), .fieldLink RX11 7 "ShipOfficeModel" "refusals" "[I"] : List Cond), w ∈ wsX11_rations := fun w h => (List.mem_cons_of_mem _ (List.mem_append_left _ h))
theorem il_X11_rations_2 : ∀ w ∈ wsX110, w ∈ wsX11_rations := fun w h => (List.mem_cons_of_mem _ (List.mem_append_right _ h))
theorem iw_X11_rations_1 : Cond.fieldLink RX11 106 "ShipOfficeModel" "shortDays" "[I" ∈ wsX11_rations := (mmI il_X11_rations_1 0 rfl)
theorem iw_X11_rations_2 : Cond.fieldLink RX11 103 "ShipOfficeModel" "shorts" "[I" ∈ wsX11_rations := (mmI il_X11_rations_1 1 rfl)
theorem iw_X11_rations_3 : Cond.fieldLink RX11 115 "ShipOfficeModel" "shortOn" "[I" ∈ wsX11_rations := (mmI il_X11_rations_1 2 rfl)
theorem iw_X11_rations_4 : Cond.fieldLink RX11 171 "ShipOfficeModel" "now" "I" ∈ wsX11_rations := (mmI il_X11_rations_1 3 rfl)
theorem iw_X11_rations_5 : Cond.fieldLink RX11 118 "ShipOfficeModel" "shortSum" "[I" ∈ wsX11_rations := (mmI il_X11_rations_1 4 rfl)
set_option maxRecDepth 100000 in
theorem ggX11_fine_X11_isAgreement : GoodIn wsX11_fine wsX11_isAgreement := goodIn_sub (mmC (mmI il_X11_fine_1 11 rfl) (mmA (mmC (mmI il_X11_fine_1 12 rfl) (mmC (mmI il_X11_fine_1 13 rfl) (mmC (mmI il_X11_fine_1 14 rfl) (mmC (mmI il_X11_fine_1 10 rfl) (mmC (mmI il_X11_fine_1 15 rfl) mmN))))) il_X11_fine_2)) gw_X11_isAgreement
theorem gX11_fine_X11_isAgreement : GoodIn wsX11_fine (wsV RX11 199 RX11 yX11_isAgreement wsX11_isAgreement) := goodIn_app (goodIn_sub (mmC (mmI il_X11_fine_1 7 rfl) (mmC (mmI il_X11_fine_1 8 rfl) (mmC (mmI il_X11_fine_1 9 rfl) (mmC (mmI il_X11_fine_1 10 rfl) mmN)))) (by decide +kernel)) ggX11_fine_X11_isAgreement
set_option maxRecDepth 100000 in
theorem ggX11_fine_X11_refuse : GoodIn wsX11_fine wsX11_refuse := goodIn_sub (mmC (mmI il_X11_fine_1 19 rfl) (mmA (mmC (mmI il_X11_fine_1 20 rfl) mmN) il_X11_fine_2)) gw_X11_refuse
theorem gX11_fine_X11_refuse : GoodIn wsX11_fine (wsV RX11 153 RX11 yX11_refuse wsX11_refuse) := goodIn_app (goodIn_sub (mmC (mmI il_X11_fine_1 16 rfl) (mmC (mmI il_X11_fine_1 17 rfl) (mmC (mmI il_X11_fine_1 18 rfl) (mmC (mmI il_X11_fine_1 10 rfl) mmN)))) (by decide +kernel)) ggX11_fine_X11_refuse
theorem dX11_fine_0 : decode cX11_fine 0 = .ok (.aload_n 0, 1) := by decide +kernel
theorem dX11_fine_1 : decode cX11_fine 1 = .ok (.iload_n 1, 1) := by decide +kernel
theorem dX11_fine_2 : decode cX11_fine 2 = .ok (.invokevirtual 199, 3) := by decide +kernel
theorem dX11_fine_5 : decode cX11_fine 5 = .ok (.ifCond .ne 9, 3) := by decide +kernel
theorem dX11_fine_8 : decode cX11_fine 8 = .ok (.aload_n 0, 1) := by decide +kernel
theorem dX11_fine_9 : decode cX11_fine 9 = .ok (.iconst (-1), 1) := by decide +kernel
theorem dX11_fine_10 : decode cX11_fine 10 = .ok (.invokevirtual 153, 3) := by decide +kernel
theorem dX11_fine_13 : decode cX11_fine 13 = .ok (.ireturn, 1) := by decide +kernel
theorem dX11_fine_14 : decode cX11_fine 14 = .ok (.aload_n 0, 1) := by decide +kernel
theorem dX11_fine_15 : decode cX11_fine 15 = .ok (.getfield 88, 3) := by decide +kernel
theorem dX11_fine_18 : decode cX11_fine 18 = .ok (.iload_n 1, 1) := by decide +kernel
theorem dX11_fine_19 : decode cX11_fine 19 = .ok (.iaload, 1) := by decide +kernel
theorem dX11_fine_20 : decode cX11_fine 20 = .ok (.ifCond .lt 10, 3) := by decide +kernel
theorem dX11_fine_23 : decode cX11_fine 23 = .ok (.aload_n 0, 1) := by decide +kernel
theorem dX11_fine_24 : decode cX11_fine 24 = .ok (.bipush (-3), 2) := by decide +kernel
theorem dX11_fine_26 : decode cX11_fine 26 = .ok (.invokevirtual 153, 3) := by decide +kernel
theorem dX11_fine_29 : decode cX11_fine 29 = .ok (.ireturn, 1) := by decide +kernel
theorem dX11_fine_30 : decode cX11_fine 30 = .ok (.iload_n 2, 1) := by decide +kernel
theorem dX11_fine_31 : decode cX11_fine 31 = .ok (.aload_n 0, 1) := by decide +kernel
theorem dX11_fine_32 : decode cX11_fine 32 = .ok (.getfield 85, 3) := by decide +kernel
theorem dX11_fine_35 : decode cX11_fine 35 = .ok (.iload_n 1, 1) := by decide +kernel
theorem dX11_fine_36 : decode cX11_fine 36 = .ok (.iaload, 1) := by decide +kernel
theorem dX11_fine_37 : decode cX11_fine 37 = .ok (.if_icmp .lt 8, 3) := by decide +kernel
theorem dX11_fine_40 : decode cX11_fine 40 = .ok (.iload_n 3, 1) := by decide +kernel
theorem dX11_fine_41 : decode cX11_fine 41 = .ok (.iconst 1, 1) := by decide +kernel
theorem dX11_fine_42 : decode cX11_fine 42 = .ok (.if_icmp .ge 10, 3) := by decide +kernel
theorem dX11_fine_45 : decode cX11_fine 45 = .ok (.aload_n 0, 1) := by decide +kernel
theorem dX11_fine_46 : decode cX11_fine 46 = .ok (.bipush (-4), 2) := by decide +kernel
theorem dX11_fine_48 : decode cX11_fine 48 = .ok (.invokevirtual 153, 3) := by decide +kernel
theorem dX11_fine_51 : decode cX11_fine 51 = .ok (.ireturn, 1) := by decide +kernel
theorem dX11_fine_52 : decode cX11_fine 52 = .ok (.iload_n 2, 1) := by decide +kernel
theorem dX11_fine_53 : decode cX11_fine 53 = .ok (.aload_n 0, 1) := by decide +kernel
theorem dX11_fine_54 : decode cX11_fine 54 = .ok (.getfield 171, 3) := by decide +kernel
theorem dX11_fine_57 : decode cX11_fine 57 = .ok (.if_icmp .gt 21, 3) := by decide +kernel
theorem dX11_fine_60 : decode cX11_fine 60 = .ok (.iload_n 3, 1) := by decide +kernel
theorem dX11_fine_61 : decode cX11_fine 61 = .ok (.sipush 9999, 3) := by decide +kernel
theorem dX11_fine_64 : decode cX11_fine 64 = .ok (.if_icmp .gt 14, 3) := by decide +kernel
theorem dX11_fine_67 : decode cX11_fine 67 = .ok (.aload_n 0, 1) := by decide +kernel
theorem dX11_fine_68 : decode cX11_fine 68 = .ok (.getfield 100, 3) := by decide +kernel
theorem dX11_fine_71 : decode cX11_fine 71 = .ok (.iload_n 1, 1) := by decide +kernel
theorem dX11_fine_72 : decode cX11_fine 72 = .ok (.iaload, 1) := by decide +kernel
theorem dX11_fine_73 : decode cX11_fine 73 = .ok (.bipush 6, 2) := by decide +kernel
theorem dX11_fine_75 : decode cX11_fine 75 = .ok (.if_icmp .ne 10, 3) := by decide +kernel
theorem dX11_fine_78 : decode cX11_fine 78 = .ok (.aload_n 0, 1) := by decide +kernel
theorem dX11_fine_79 : decode cX11_fine 79 = .ok (.bipush (-6), 2) := by decide +kernel
theorem dX11_fine_81 : decode cX11_fine 81 = .ok (.invokevirtual 153, 3) := by decide +kernel
theorem dX11_fine_84 : decode cX11_fine 84 = .ok (.ireturn, 1) := by decide +kernel
theorem dX11_fine_85 : decode cX11_fine 85 = .ok (.bipush 6, 2) := by decide +kernel
theorem dX11_fine_87 : decode cX11_fine 87 = .ok (.iload_n 1, 1) := by decide +kernel
theorem dX11_fine_88 : decode cX11_fine 88 = .ok (.imul, 1) := by decide +kernel
theorem dX11_fine_89 : decode cX11_fine 89 = .ok (.aload_n 0, 1) := by decide +kernel
theorem dX11_fine_90 : decode cX11_fine 90 = .ok (.getfield 100, 3) := by decide +kernel
theorem dX11_fine_93 : decode cX11_fine 93 = .ok (.iload_n 1, 1) := by decide +kernel
theorem dX11_fine_94 : decode cX11_fine 94 = .ok (.iaload, 1) := by decide +kernel
theorem dX11_fine_95 : decode cX11_fine 95 = .ok (.iadd, 1) := by decide +kernel
theorem dX11_fine_96 : decode cX11_fine 96 = .ok (.istore 5, 2) := by decide +kernel
theorem dX11_fine_98 : decode cX11_fine 98 = .ok (.aload_n 0, 1) := by decide +kernel
theorem dX11_fine_99 : decode cX11_fine 99 = .ok (.getfield 109, 3) := by decide +kernel
theorem dX11_fine_102 : decode cX11_fine 102 = .ok (.iload 5, 2) := by decide +kernel
theorem dX11_fine_104 : decode cX11_fine 104 = .ok (.iload_n 2, 1) := by decide +kernel
theorem dX11_fine_105 : decode cX11_fine 105 = .ok (.iastore, 1) := by decide +kernel
theorem dX11_fine_106 : decode cX11_fine 106 = .ok (.aload_n 0, 1) := by decide +kernel
theorem dX11_fine_107 : decode cX11_fine 107 = .ok (.getfield 112, 3) := by decide +kernel
theorem dX11_fine_110 : decode cX11_fine 110 = .ok (.iload 5, 2) := by decide +kernel
theorem dX11_fine_112 : decode cX11_fine 112 = .ok (.iload_n 3, 1) := by decide +kernel
theorem dX11_fine_113 : decode cX11_fine 113 = .ok (.iastore, 1) := by decide +kernel
theorem dX11_fine_114 : decode cX11_fine 114 = .ok (.aload_n 0, 1) := by decide +kernel
theorem dX11_fine_115 : decode cX11_fine 115 = .ok (.getfield 121, 3) := by decide +kernel
theorem dX11_fine_118 : decode cX11_fine 118 = .ok (.iload 5, 2) := by decide +kernel
theorem dX11_fine_120 : decode cX11_fine 120 = .ok (.iload 4, 2) := by decide +kernel
theorem dX11_fine_122 : decode cX11_fine 122 = .ok (.bastore, 1) := by decide +kernel
theorem dX11_fine_123 : decode cX11_fine 123 = .ok (.aload_n 0, 1) := by decide +kernel
theorem dX11_fine_124 : decode cX11_fine 124 = .ok (.getfield 100, 3) := by decide +kernel
theorem dX11_fine_127 : decode cX11_fine 127 = .ok (.iload_n 1, 1) := by decide +kernel
theorem dX11_fine_128 : decode cX11_fine 128 = .ok (.dup2, 1) := by decide +kernel
theorem dX11_fine_129 : decode cX11_fine 129 = .ok (.iaload, 1) := by decide +kernel
theorem dX11_fine_130 : decode cX11_fine 130 = .ok (.iconst 1, 1) := by decide +kernel
theorem dX11_fine_131 : decode cX11_fine 131 = .ok (.iadd, 1) := by decide +kernel
theorem dX11_fine_132 : decode cX11_fine 132 = .ok (.iastore, 1) := by decide +kernel
theorem dX11_fine_133 : decode cX11_fine 133 = .ok (.aload_n 0, 1) := by decide +kernel
theorem dX11_fine_134 : decode cX11_fine 134 = .ok (.getfield 100, 3) := by decide +kernel
theorem dX11_fine_137 : decode cX11_fine 137 = .ok (.iload_n 1, 1) := by decide +kernel
theorem dX11_fine_138 : decode cX11_fine 138 = .ok (.iaload, 1) := by decide +kernel
theorem dX11_fine_139 : decode cX11_fine 139 = .ok (.ireturn, 1) := by decide +kernel
set_option maxRecDepth 100000 in
theorem ggX11_read_X11_isFine : GoodIn wsX11_read wsX11_isFine := goodIn_sub (mmC (mmI il_X11_read_1 7 rfl) (mmA (mmC (mmI il_X11_read_1 8 rfl) (mmC (mmI il_X11_read_1 9 rfl) (mmC (mmI il_X11_read_1 10 rfl) (mmC (mmI il_X11_read_1 11 rfl) (mmC (mmI il_X11_read_1 6 rfl) (mmC (mmI il_X11_read_1 12 rfl) (mmC (mmI il_X11_read_1 13 rfl) (mmC (mmI il_X11_read_1 14 rfl) (mmC (mmI il_X11_read_1 15 rfl) (mmC (mmI il_X11_read_1 16 rfl) mmN)))))))))) il_X11_read_2)) gw_X11_isFine
theorem gX11_read_X11_isFine : GoodIn wsX11_read (wsV RX11 312 RX11 yX11_isFine wsX11_isFine) := goodIn_app (goodIn_sub (mmC (mmI il_X11_read_1 3 rfl) (mmC (mmI il_X11_read_1 4 rfl) (mmC (mmI il_X11_read_1 5 rfl) (mmC (mmI il_X11_read_1 6 rfl) mmN)))) (by decide +kernel)) ggX11_read_X11_isFine
set_option maxRecDepth 100000 in
theorem ggX11_read_X11_refuse : GoodIn wsX11_read wsX11_refuse := goodIn_sub (mmC (mmI il_X11_read_1 20 rfl) (mmA (mmC (mmI il_X11_read_1 21 rfl) mmN) il_X11_read_2)) gw_X11_refuse
theorem gX11_read_X11_refuse : GoodIn wsX11_read (wsV RX11 153 RX11 yX11_refuse wsX11_refuse) := goodIn_app (goodIn_sub (mmC (mmI il_X11_read_1 17 rfl) (mmC (mmI il_X11_read_1 18 rfl) (mmC (mmI il_X11_read_1 19 rfl) (mmC (mmI il_X11_read_1 6 rfl) mmN)))) (by decide +kernel)) ggX11_read_X11_refuse
theorem dX11_read_0 : decode cX11_read 0 = .ok (.aload_n 0, 1) := by decide +kernel
theorem dX11_read_1 : decode cX11_read 1 = .ok (.iload_n 1, 1) := by decide +kernel
theorem dX11_read_2 : decode cX11_read 2 = .ok (.iload_n 2, 1) := by decide +kernel
theorem dX11_read_3 : decode cX11_read 3 = .ok (.invokevirtual 312, 3) := by decide +kernel
theorem dX11_read_6 : decode cX11_read 6 = .ok (.ifCond .ne 9, 3) := by decide +kernel
theorem dX11_read_9 : decode cX11_read 9 = .ok (.aload_n 0, 1) := by decide +kernel
theorem dX11_read_10 : decode cX11_read 10 = .ok (.iconst (-1), 1) := by decide +kernel
theorem dX11_read_11 : decode cX11_read 11 = .ok (.invokevirtual 153, 3) := by decide +kernel
theorem dX11_read_14 : decode cX11_read 14 = .ok (.ireturn, 1) := by decide +kernel
theorem dX11_read_15 : decode cX11_read 15 = .ok (.aload_n 0, 1) := by decide +kernel
theorem dX11_read_16 : decode cX11_read 16 = .ok (.getfield 121, 3) := by decide +kernel
theorem dX11_read_19 : decode cX11_read 19 = .ok (.bipush 6, 2) := by decide +kernel
theorem dX11_read_21 : decode cX11_read 21 = .ok (.iload_n 1, 1) := by decide +kernel
theorem dX11_read_22 : decode cX11_read 22 = .ok (.imul, 1) := by decide +kernel
theorem dX11_read_23 : decode cX11_read 23 = .ok (.iload_n 2, 1) := by decide +kernel
theorem dX11_read_24 : decode cX11_read 24 = .ok (.iadd, 1) := by decide +kernel
theorem dX11_read_25 : decode cX11_read 25 = .ok (.baload, 1) := by decide +kernel
theorem dX11_read_26 : decode cX11_read 26 = .ok (.ifCond .ne 21, 3) := by decide +kernel
theorem dX11_read_29 : decode cX11_read 29 = .ok (.aload_n 0, 1) := by decide +kernel
theorem dX11_read_30 : decode cX11_read 30 = .ok (.getfield 109, 3) := by decide +kernel
theorem dX11_read_33 : decode cX11_read 33 = .ok (.bipush 6, 2) := by decide +kernel
theorem dX11_read_35 : decode cX11_read 35 = .ok (.iload_n 1, 1) := by decide +kernel
theorem dX11_read_36 : decode cX11_read 36 = .ok (.imul, 1) := by decide +kernel
theorem dX11_read_37 : decode cX11_read 37 = .ok (.iload_n 2, 1) := by decide +kernel
theorem dX11_read_38 : decode cX11_read 38 = .ok (.iadd, 1) := by decide +kernel
theorem dX11_read_39 : decode cX11_read 39 = .ok (.iaload, 1) := by decide +kernel
theorem dX11_read_40 : decode cX11_read 40 = .ok (.aload_n 0, 1) := by decide +kernel
theorem dX11_read_41 : decode cX11_read 41 = .ok (.getfield 171, 3) := by decide +kernel
theorem dX11_read_44 : decode cX11_read 44 = .ok (.if_icmp .eq 10, 3) := by decide +kernel
theorem dX11_read_47 : decode cX11_read 47 = .ok (.aload_n 0, 1) := by decide +kernel
theorem dX11_read_48 : decode cX11_read 48 = .ok (.bipush (-3), 2) := by decide +kernel
theorem dX11_read_50 : decode cX11_read 50 = .ok (.invokevirtual 153, 3) := by decide +kernel
theorem dX11_read_53 : decode cX11_read 53 = .ok (.ireturn, 1) := by decide +kernel
theorem dX11_read_54 : decode cX11_read 54 = .ok (.aload_n 0, 1) := by decide +kernel
theorem dX11_read_55 : decode cX11_read 55 = .ok (.getfield 121, 3) := by decide +kernel
theorem dX11_read_58 : decode cX11_read 58 = .ok (.bipush 6, 2) := by decide +kernel
theorem dX11_read_60 : decode cX11_read 60 = .ok (.iload_n 1, 1) := by decide +kernel
theorem dX11_read_61 : decode cX11_read 61 = .ok (.imul, 1) := by decide +kernel
theorem dX11_read_62 : decode cX11_read 62 = .ok (.iload_n 2, 1) := by decide +kernel
theorem dX11_read_63 : decode cX11_read 63 = .ok (.iadd, 1) := by decide +kernel
theorem dX11_read_64 : decode cX11_read 64 = .ok (.iconst 1, 1) := by decide +kernel
theorem dX11_read_65 : decode cX11_read 65 = .ok (.bastore, 1) := by decide +kernel
theorem dX11_read_66 : decode cX11_read 66 = .ok (.iconst 1, 1) := by decide +kernel
theorem dX11_read_67 : decode cX11_read 67 = .ok (.ireturn, 1) := by decide +kernel
set_option maxRecDepth 100000 in
theorem ggX11_standsOf_X11_puts : GoodIn wsX11_standsOf wsX11_puts := goodIn_sub (mmC (mmI il_X11_standsOf_1 7 rfl) (mmA (mmA (mmC (mmI il_X11_standsOf_1 8 rfl) (mmC (mmI il_X11_standsOf_1 9 rfl) (mmC (mmI il_X11_standsOf_1 10 rfl) (mmC (mmI il_X11_standsOf_1 11 rfl) (mmC (mmI il_X11_standsOf_1 12 rfl) (mmC (mmI il_X11_standsOf_1 13 rfl) (mmC (mmI il_X11_standsOf_1 14 rfl) (mmC (mmI il_X11_standsOf_1 15 rfl) (mmC (mmI il_X11_standsOf_1 16 rfl) (mmC (mmI il_X11_standsOf_1 17 rfl) (mmC (mmI il_X11_standsOf_1 6 rfl) (mmC (mmI il_X11_standsOf_1 18 rfl) (mmC (mmI il_X11_standsOf_1 19 rfl) (mmC (mmI il_X11_standsOf_1 20 rfl) (mmC (mmI il_X11_standsOf_1 21 rfl) (mmC (mmI il_X11_standsOf_1 22 rfl) (mmC (mmI il_X11_standsOf_1 23 rfl) (mmC (mmI il_X11_standsOf_2 0 rfl) (mmC (mmI il_X11_standsOf_2 1 rfl) (mmC (mmI il_X11_standsOf_2 2 rfl) (mmC (mmI il_X11_standsOf_2 3 rfl) (mmC (mmI il_X11_standsOf_2 4 rfl) (mmC (mmI il_X11_standsOf_2 5 rfl) (mmC (mmI il_X11_standsOf_2 6 rfl) mmN)))))))))))))))))))))))) (mmA (mmC (mmI il_X11_standsOf_2 7 rfl) (mmC (mmI il_X11_standsOf_2 8 rfl) (mmC (mmI il_X11_standsOf_2 9 rfl) (mmC (mmI il_X11_standsOf_2 10 rfl) (mmC (mmI il_X11_standsOf_2 11 rfl) (mmC (mmI il_X11_standsOf_2 12 rfl) (mmC (mmI il_X11_standsOf_2 13 rfl) (mmC (mmI il_X11_standsOf_2 14 rfl) (mmC (mmI il_X11_standsOf_2 15 rfl) (mmC (mmI il_X11_standsOf_2 16 rfl) (mmC (mmI il_X11_standsOf_2 17 rfl) (mmC (mmI il_X11_standsOf_2 18 rfl) (mmC (mmI il_X11_standsOf_2 19 rfl) (mmC (mmI il_X11_standsOf_2 20 rfl) (mmC (mmI il_X11_standsOf_2 21 rfl) (mmC (mmI il_X11_standsOf_2 22 rfl) (mmC (mmI il_X11_standsOf_2 23 rfl) (mmC (mmI il_X11_standsOf_3 0 rfl) (mmC (mmI il_X11_standsOf_3 1 rfl) (mmC (mmI il_X11_standsOf_3 2 rfl) (mmC (mmI il_X11_standsOf_3 3 rfl) (mmC (mmI il_X11_standsOf_3 4 rfl) (mmC (mmI il_X11_standsOf_3 5 rfl) (mmC (mmI il_X11_standsOf_3 6 rfl) mmN)))))))))))))))))))))))) (mmA (mmC (mmI il_X11_standsOf_3 7 rfl) (mmC (mmI il_X11_standsOf_3 8 rfl) (mmC (mmI il_X11_standsOf_3 9 rfl) (mmC (mmI il_X11_standsOf_3 10 rfl) (mmC (mmI il_X11_standsOf_3 11 rfl) (mmC (mmI il_X11_standsOf_3 12 rfl) (mmC (mmI il_X11_standsOf_3 13 rfl) (mmC (mmI il_X11_standsOf_3 14 rfl) (mmC (mmI il_X11_standsOf_3 15 rfl) (mmC (mmI il_X11_standsOf_3 16 rfl) (mmC (mmI il_X11_standsOf_3 17 rfl) (mmC (mmI il_X11_standsOf_3 18 rfl) (mmC (mmI il_X11_standsOf_3 19 rfl) (mmC (mmI il_X11_standsOf_3 20 rfl) (mmC (mmI il_X11_standsOf_3 21 rfl) (mmC (mmI il_X11_standsOf_3 22 rfl) (mmC (mmI il_X11_standsOf_3 23 rfl) (mmC (mmI il_X11_standsOf_4 0 rfl) (mmC (mmI il_X11_standsOf_4 1 rfl) (mmC (mmI il_X11_standsOf_4 2 rfl) (mmC (mmI il_X11_standsOf_4 3 rfl) (mmC (mmI il_X11_standsOf_4 4 rfl) (mmC (mmI il_X11_standsOf_4 5 rfl) (mmC (mmI il_X11_standsOf_4 6 rfl) mmN)))))))))))))))))))))))) (mmA (mmC (mmI il_X11_standsOf_4 7 rfl) (mmC (mmI il_X11_standsOf_4 8 rfl) (mmC (mmI il_X11_standsOf_4 9 rfl) (mmC (mmI il_X11_standsOf_4 10 rfl) (mmC (mmI il_X11_standsOf_4 11 rfl) (mmC (mmI il_X11_standsOf_4 12 rfl) (mmC (mmI il_X11_standsOf_4 13 rfl) (mmC (mmI il_X11_standsOf_4 14 rfl) (mmC (mmI il_X11_standsOf_4 15 rfl) (mmC (mmI il_X11_standsOf_4 16 rfl) (mmC (mmI il_X11_standsOf_4 17 rfl) (mmC (mmI il_X11_standsOf_4 18 rfl) (mmC (mmI il_X11_standsOf_4 19 rfl) (mmC (mmI il_X11_standsOf_4 20 rfl) (mmC (mmI il_X11_standsOf_4 21 rfl) (mmC (mmI il_X11_standsOf_4 22 rfl) (mmC (mmI il_X11_standsOf_4 23 rfl) (mmC (mmI il_X11_standsOf_5 0 rfl) (mmC (mmI il_X11_standsOf_5 1 rfl) (mmC (mmI il_X11_standsOf_5 2 rfl) (mmC (mmI il_X11_standsOf_5 3 rfl) (mmC (mmI il_X11_standsOf_5 4 rfl) (mmC (mmI il_X11_standsOf_5 5 rfl) (mmC (mmI il_X11_standsOf_5 6 rfl) mmN)))))))))))))))))))))))) (mmC (mmI il_X11_standsOf_5 7 rfl) (mmC (mmI il_X11_standsOf_5 8 rfl) (mmC (mmI il_X11_standsOf_5 9 rfl) (mmC (mmI il_X11_standsOf_5 10 rfl) (mmC (mmI il_X11_standsOf_5 11 rfl) (mmC (mmI il_X11_standsOf_5 12 rfl) (mmC (mmI il_X11_standsOf_5 13 rfl) (mmC (mmI il_X11_standsOf_5 14 rfl) (mmC (mmI il_X11_standsOf_5 15 rfl) (mmC (mmI il_X11_standsOf_5 16 rfl) mmN)))))))))))))) il_X11_standsOf_6)) gw_X11_puts
theorem gX11_standsOf_X11_puts : GoodIn wsX11_standsOf (wsV RX11 306 RX11 yX11_puts wsX11_puts) := goodIn_app (goodIn_sub (mmC (mmI il_X11_standsOf_1 3 rfl) (mmC (mmI il_X11_standsOf_1 4 rfl) (mmC (mmI il_X11_standsOf_1 5 rfl) (mmC (mmI il_X11_standsOf_1 6 rfl) mmN)))) (by decide +kernel)) ggX11_standsOf_X11_puts
set_option maxRecDepth 100000 in
theorem ggX11_standsOf_X11_worth : GoodIn wsX11_standsOf wsX11_worth := goodIn_sub (mmC (mmI il_X11_standsOf_3 8 rfl) (mmA (mmA (mmC (mmI il_X11_standsOf_3 9 rfl) (mmC (mmI il_X11_standsOf_1 10 rfl) (mmC (mmI il_X11_standsOf_3 10 rfl) (mmC (mmI il_X11_standsOf_3 11 rfl) (mmC (mmI il_X11_standsOf_3 12 rfl) (mmC (mmI il_X11_standsOf_1 6 rfl) (mmC (mmI il_X11_standsOf_3 13 rfl) (mmC (mmI il_X11_standsOf_3 14 rfl) (mmC (mmI il_X11_standsOf_3 15 rfl) (mmC (mmI il_X11_standsOf_3 16 rfl) (mmC (mmI il_X11_standsOf_3 17 rfl) (mmC (mmI il_X11_standsOf_3 18 rfl) (mmC (mmI il_X11_standsOf_3 19 rfl) (mmC (mmI il_X11_standsOf_3 20 rfl) (mmC (mmI il_X11_standsOf_3 21 rfl) (mmC (mmI il_X11_standsOf_3 22 rfl) (mmC (mmI il_X11_standsOf_3 23 rfl) (mmC (mmI il_X11_standsOf_4 0 rfl) (mmC (mmI il_X11_standsOf_4 1 rfl) (mmC (mmI il_X11_standsOf_4 2 rfl) (mmC (mmI il_X11_standsOf_4 3 rfl) (mmC (mmI il_X11_standsOf_4 4 rfl) (mmC (mmI il_X11_standsOf_4 5 rfl) (mmC (mmI il_X11_standsOf_4 6 rfl) mmN)))))))))))))))))))))))) (mmA (mmC (mmI il_X11_standsOf_4 7 rfl) (mmC (mmI il_X11_standsOf_4 8 rfl) (mmC (mmI il_X11_standsOf_4 9 rfl) (mmC (mmI il_X11_standsOf_4 10 rfl) (mmC (mmI il_X11_standsOf_4 11 rfl) (mmC (mmI il_X11_standsOf_4 12 rfl) (mmC (mmI il_X11_standsOf_4 13 rfl) (mmC (mmI il_X11_standsOf_4 14 rfl) (mmC (mmI il_X11_standsOf_4 15 rfl) (mmC (mmI il_X11_standsOf_4 16 rfl) (mmC (mmI il_X11_standsOf_4 17 rfl) (mmC (mmI il_X11_standsOf_4 18 rfl) (mmC (mmI il_X11_standsOf_4 19 rfl) (mmC (mmI il_X11_standsOf_4 20 rfl) (mmC (mmI il_X11_standsOf_4 21 rfl) (mmC (mmI il_X11_standsOf_4 22 rfl) (mmC (mmI il_X11_standsOf_4 23 rfl) (mmC (mmI il_X11_standsOf_5 0 rfl) (mmC (mmI il_X11_standsOf_5 1 rfl) (mmC (mmI il_X11_standsOf_5 2 rfl) (mmC (mmI il_X11_standsOf_5 3 rfl) (mmC (mmI il_X11_standsOf_5 4 rfl) (mmC (mmI il_X11_standsOf_5 5 rfl) (mmC (mmI il_X11_standsOf_5 6 rfl) mmN)))))))))))))))))))))))) (mmC (mmI il_X11_standsOf_5 7 rfl) (mmC (mmI il_X11_standsOf_5 8 rfl) (mmC (mmI il_X11_standsOf_5 9 rfl) (mmC (mmI il_X11_standsOf_5 10 rfl) (mmC (mmI il_X11_standsOf_5 11 rfl) mmN))))))) il_X11_standsOf_6)) gw_X11_worth
theorem gX11_standsOf_X11_worth : GoodIn wsX11_standsOf (wsV RX11 285 RX11 yX11_worth wsX11_worth) := goodIn_app (goodIn_sub (mmC (mmI il_X11_standsOf_3 5 rfl) (mmC (mmI il_X11_standsOf_3 6 rfl) (mmC (mmI il_X11_standsOf_3 7 rfl) (mmC (mmI il_X11_standsOf_1 6 rfl) mmN)))) (by decide +kernel)) ggX11_standsOf_X11_worth
theorem dX11_standsOf_0 : decode cX11_standsOf 0 = .ok (.bipush 6, 2) := by decide +kernel
theorem dX11_standsOf_2 : decode cX11_standsOf 2 = .ok (.iload_n 1, 1) := by decide +kernel
theorem dX11_standsOf_3 : decode cX11_standsOf 3 = .ok (.imul, 1) := by decide +kernel
theorem dX11_standsOf_4 : decode cX11_standsOf 4 = .ok (.iload_n 2, 1) := by decide +kernel
theorem dX11_standsOf_5 : decode cX11_standsOf 5 = .ok (.iadd, 1) := by decide +kernel
theorem dX11_standsOf_6 : decode cX11_standsOf 6 = .ok (.istore 4, 2) := by decide +kernel
theorem dX11_standsOf_8 : decode cX11_standsOf 8 = .ok (.aload_n 0, 1) := by decide +kernel
theorem dX11_standsOf_9 : decode cX11_standsOf 9 = .ok (.iload_n 1, 1) := by decide +kernel
theorem dX11_standsOf_10 : decode cX11_standsOf 10 = .ok (.aload_n 0, 1) := by decide +kernel
theorem dX11_standsOf_11 : decode cX11_standsOf 11 = .ok (.getfield 109, 3) := by decide +kernel
theorem dX11_standsOf_14 : decode cX11_standsOf 14 = .ok (.iload 4, 2) := by decide +kernel
theorem dX11_standsOf_16 : decode cX11_standsOf 16 = .ok (.iaload, 1) := by decide +kernel
theorem dX11_standsOf_17 : decode cX11_standsOf 17 = .ok (.iload_n 3, 1) := by decide +kernel
theorem dX11_standsOf_18 : decode cX11_standsOf 18 = .ok (.aload_n 0, 1) := by decide +kernel
theorem dX11_standsOf_19 : decode cX11_standsOf 19 = .ok (.getfield 112, 3) := by decide +kernel
theorem dX11_standsOf_22 : decode cX11_standsOf 22 = .ok (.iload 4, 2) := by decide +kernel
theorem dX11_standsOf_24 : decode cX11_standsOf 24 = .ok (.iaload, 1) := by decide +kernel
theorem dX11_standsOf_25 : decode cX11_standsOf 25 = .ok (.aload_n 0, 1) := by decide +kernel
theorem dX11_standsOf_26 : decode cX11_standsOf 26 = .ok (.getfield 121, 3) := by decide +kernel
theorem dX11_standsOf_29 : decode cX11_standsOf 29 = .ok (.iload 4, 2) := by decide +kernel
theorem dX11_standsOf_31 : decode cX11_standsOf 31 = .ok (.baload, 1) := by decide +kernel
theorem dX11_standsOf_32 : decode cX11_standsOf 32 = .ok (.invokevirtual 306, 3) := by decide +kernel
theorem dX11_standsOf_35 : decode cX11_standsOf 35 = .ok (.aload_n 0, 1) := by decide +kernel
theorem dX11_standsOf_36 : decode cX11_standsOf 36 = .ok (.iconst 1, 1) := by decide +kernel
theorem dX11_standsOf_37 : decode cX11_standsOf 37 = .ok (.aload_n 0, 1) := by decide +kernel
theorem dX11_standsOf_38 : decode cX11_standsOf 38 = .ok (.getfield 109, 3) := by decide +kernel
theorem dX11_standsOf_41 : decode cX11_standsOf 41 = .ok (.iload 4, 2) := by decide +kernel
theorem dX11_standsOf_43 : decode cX11_standsOf 43 = .ok (.iaload, 1) := by decide +kernel
theorem dX11_standsOf_44 : decode cX11_standsOf 44 = .ok (.invokevirtual 285, 3) := by decide +kernel
theorem dX11_standsOf_47 : decode cX11_standsOf 47 = .ok (.istore 5, 2) := by decide +kernel
theorem dX11_standsOf_49 : decode cX11_standsOf 49 = .ok (.iload 5, 2) := by decide +kernel
theorem dX11_standsOf_51 : decode cX11_standsOf 51 = .ok (.ifCond .ge 7, 3) := by decide +kernel
theorem dX11_standsOf_54 : decode cX11_standsOf 54 = .ok (.iconst 0, 1) := by decide +kernel
theorem dX11_standsOf_55 : decode cX11_standsOf 55 = .ok (.goto 27, 3) := by decide +kernel
theorem dX11_standsOf_58 : decode cX11_standsOf 58 = .ok (.iload 5, 2) := by decide +kernel
theorem dX11_standsOf_60 : decode cX11_standsOf 60 = .ok (.aload_n 0, 1) := by decide +kernel
theorem dX11_standsOf_61 : decode cX11_standsOf 61 = .ok (.getfield 112, 3) := by decide +kernel
theorem dX11_standsOf_64 : decode cX11_standsOf 64 = .ok (.iload 4, 2) := by decide +kernel
theorem dX11_standsOf_66 : decode cX11_standsOf 66 = .ok (.iaload, 1) := by decide +kernel
theorem dX11_standsOf_67 : decode cX11_standsOf 67 = .ok (.if_icmp .ge 8, 3) := by decide +kernel
theorem dX11_standsOf_70 : decode cX11_standsOf 70 = .ok (.iload 5, 2) := by decide +kernel
theorem dX11_standsOf_72 : decode cX11_standsOf 72 = .ok (.goto 10, 3) := by decide +kernel
theorem dX11_standsOf_75 : decode cX11_standsOf 75 = .ok (.aload_n 0, 1) := by decide +kernel
theorem dX11_standsOf_76 : decode cX11_standsOf 76 = .ok (.getfield 112, 3) := by decide +kernel
theorem dX11_standsOf_79 : decode cX11_standsOf 79 = .ok (.iload 4, 2) := by decide +kernel
theorem dX11_standsOf_81 : decode cX11_standsOf 81 = .ok (.iaload, 1) := by decide +kernel
theorem dX11_standsOf_82 : decode cX11_standsOf 82 = .ok (.ireturn, 1) := by decide +kernel
set_option maxRecDepth 100000 in
theorem ggX11_stands_X11_isFine : GoodIn wsX11_stands wsX11_isFine := goodIn_sub (mmC (mmI il_X11_stands_1 5 rfl) (mmA (mmC (mmI il_X11_stands_1 6 rfl) (mmC (mmI il_X11_stands_1 7 rfl) (mmC (mmI il_X11_stands_1 8 rfl) (mmC (mmI il_X11_stands_1 9 rfl) (mmC (mmI il_X11_stands_1 4 rfl) (mmC (mmI il_X11_stands_1 10 rfl) (mmC (mmI il_X11_stands_1 11 rfl) (mmC (mmI il_X11_stands_1 12 rfl) (mmC (mmI il_X11_stands_1 13 rfl) (mmC (mmI il_X11_stands_1 14 rfl) mmN)))))))))) il_X11_stands_7)) gw_X11_isFine
theorem gX11_stands_X11_isFine : GoodIn wsX11_stands (wsV RX11 312 RX11 yX11_isFine wsX11_isFine) := goodIn_app (goodIn_sub (mmC (mmI il_X11_stands_1 1 rfl) (mmC (mmI il_X11_stands_1 2 rfl) (mmC (mmI il_X11_stands_1 3 rfl) (mmC (mmI il_X11_stands_1 4 rfl) mmN)))) (by decide +kernel)) ggX11_stands_X11_isFine
set_option maxRecDepth 100000 in
theorem ggX11_stands_X11_refuse : GoodIn wsX11_stands wsX11_refuse := goodIn_sub (mmC (mmI il_X11_stands_1 18 rfl) (mmA (mmC (mmI il_X11_stands_1 19 rfl) mmN) il_X11_stands_7)) gw_X11_refuse
theorem gX11_stands_X11_refuse : GoodIn wsX11_stands (wsV RX11 153 RX11 yX11_refuse wsX11_refuse) := goodIn_app (goodIn_sub (mmC (mmI il_X11_stands_1 15 rfl) (mmC (mmI il_X11_stands_1 16 rfl) (mmC (mmI il_X11_stands_1 17 rfl) (mmC (mmI il_X11_stands_1 4 rfl) mmN)))) (by decide +kernel)) ggX11_stands_X11_refuse
set_option maxRecDepth 100000 in
theorem ggX11_stands_X11_standsOf : GoodIn wsX11_stands wsX11_standsOf := goodIn_sub (mmC (mmI il_X11_stands_1 23 rfl) (mmA (mmA (mmC (mmI il_X11_stands_2 0 rfl) (mmC (mmI il_X11_stands_2 1 rfl) (mmC (mmI il_X11_stands_2 2 rfl) (mmC (mmI il_X11_stands_2 3 rfl) (mmC (mmI il_X11_stands_2 4 rfl) (mmC (mmI il_X11_stands_2 5 rfl) (mmC (mmI il_X11_stands_1 4 rfl) (mmC (mmI il_X11_stands_2 6 rfl) (mmC (mmI il_X11_stands_2 7 rfl) (mmC (mmI il_X11_stands_2 8 rfl) (mmC (mmI il_X11_stands_2 9 rfl) (mmC (mmI il_X11_stands_2 10 rfl) (mmC (mmI il_X11_stands_2 11 rfl) (mmC (mmI il_X11_stands_2 12 rfl) (mmC (mmI il_X11_stands_2 13 rfl) (mmC (mmI il_X11_stands_2 14 rfl) (mmC (mmI il_X11_stands_2 15 rfl) (mmC (mmI il_X11_stands_2 16 rfl) (mmC (mmI il_X11_stands_2 17 rfl) (mmC (mmI il_X11_stands_2 18 rfl) (mmC (mmI il_X11_stands_2 19 rfl) (mmC (mmI il_X11_stands_2 20 rfl) (mmC (mmI il_X11_stands_2 21 rfl) (mmC (mmI il_X11_stands_2 22 rfl) mmN)))))))))))))))))))))))) (mmA (mmC (mmI il_X11_stands_2 23 rfl) (mmC (mmI il_X11_stands_3 0 rfl) (mmC (mmI il_X11_stands_3 1 rfl) (mmC (mmI il_X11_stands_3 2 rfl) (mmC (mmI il_X11_stands_3 3 rfl) (mmC (mmI il_X11_stands_3 4 rfl) (mmC (mmI il_X11_stands_3 5 rfl) (mmC (mmI il_X11_stands_3 6 rfl) (mmC (mmI il_X11_stands_3 7 rfl) (mmC (mmI il_X11_stands_3 8 rfl) (mmC (mmI il_X11_stands_3 9 rfl) (mmC (mmI il_X11_stands_3 10 rfl) (mmC (mmI il_X11_stands_3 11 rfl) (mmC (mmI il_X11_stands_3 12 rfl) (mmC (mmI il_X11_stands_3 13 rfl) (mmC (mmI il_X11_stands_3 14 rfl) (mmC (mmI il_X11_stands_3 15 rfl) (mmC (mmI il_X11_stands_3 16 rfl) (mmC (mmI il_X11_stands_3 17 rfl) (mmC (mmI il_X11_stands_3 18 rfl) (mmC (mmI il_X11_stands_3 19 rfl) (mmC (mmI il_X11_stands_3 20 rfl) (mmC (mmI il_X11_stands_3 21 rfl) (mmC (mmI il_X11_stands_3 22 rfl) mmN)))))))))))))))))))))))) (mmA (mmC (mmI il_X11_stands_3 23 rfl) (mmC (mmI il_X11_stands_4 0 rfl) (mmC (mmI il_X11_stands_4 1 rfl) (mmC (mmI il_X11_stands_4 2 rfl) (mmC (mmI il_X11_stands_4 3 rfl) (mmC (mmI il_X11_stands_4 4 rfl) (mmC (mmI il_X11_stands_4 5 rfl) (mmC (mmI il_X11_stands_4 6 rfl) (mmC (mmI il_X11_stands_4 7 rfl) (mmC (mmI il_X11_stands_4 8 rfl) (mmC (mmI il_X11_stands_4 9 rfl) (mmC (mmI il_X11_stands_4 10 rfl) (mmC (mmI il_X11_stands_4 11 rfl) (mmC (mmI il_X11_stands_4 12 rfl) (mmC (mmI il_X11_stands_4 13 rfl) (mmC (mmI il_X11_stands_4 14 rfl) (mmC (mmI il_X11_stands_4 15 rfl) (mmC (mmI il_X11_stands_4 16 rfl) (mmC (mmI il_X11_stands_4 17 rfl) (mmC (mmI il_X11_stands_4 18 rfl) (mmC (mmI il_X11_stands_4 19 rfl) (mmC (mmI il_X11_stands_4 20 rfl) (mmC (mmI il_X11_stands_4 21 rfl) (mmC (mmI il_X11_stands_4 22 rfl) mmN)))))))))))))))))))))))) (mmA (mmC (mmI il_X11_stands_4 23 rfl) (mmC (mmI il_X11_stands_5 0 rfl) (mmC (mmI il_X11_stands_5 1 rfl) (mmC (mmI il_X11_stands_5 2 rfl) (mmC (mmI il_X11_stands_5 3 rfl) (mmC (mmI il_X11_stands_5 4 rfl) (mmC (mmI il_X11_stands_5 5 rfl) (mmC (mmI il_X11_stands_5 6 rfl) (mmC (mmI il_X11_stands_5 7 rfl) (mmC (mmI il_X11_stands_5 8 rfl) (mmC (mmI il_X11_stands_5 9 rfl) (mmC (mmI il_X11_stands_5 10 rfl) (mmC (mmI il_X11_stands_5 11 rfl) (mmC (mmI il_X11_stands_5 12 rfl) (mmC (mmI il_X11_stands_5 13 rfl) (mmC (mmI il_X11_stands_5 14 rfl) (mmC (mmI il_X11_stands_5 15 rfl) (mmC (mmI il_X11_stands_5 16 rfl) (mmC (mmI il_X11_stands_5 17 rfl) (mmC (mmI il_X11_stands_5 18 rfl) (mmC (mmI il_X11_stands_5 19 rfl) (mmC (mmI il_X11_stands_5 20 rfl) (mmC (mmI il_X11_stands_5 21 rfl) (mmC (mmI il_X11_stands_5 22 rfl) mmN)))))))))))))))))))))))) (mmC (mmI il_X11_stands_5 23 rfl) (mmC (mmI il_X11_stands_6 0 rfl) (mmC (mmI il_X11_stands_6 1 rfl) (mmC (mmI il_X11_stands_6 2 rfl) (mmC (mmI il_X11_stands_6 3 rfl) (mmC (mmI il_X11_stands_6 4 rfl) (mmC (mmI il_X11_stands_6 5 rfl) (mmC (mmI il_X11_stands_6 6 rfl) (mmC (mmI il_X11_stands_6 7 rfl) (mmC (mmI il_X11_stands_6 8 rfl) (mmC (mmI il_X11_stands_6 9 rfl) (mmC (mmI il_X11_stands_6 10 rfl) (mmC (mmI il_X11_stands_6 11 rfl) (mmC (mmI il_X11_stands_6 12 rfl) (mmC (mmI il_X11_stands_6 13 rfl) (mmC (mmI il_X11_stands_6 14 rfl) (mmC (mmI il_X11_stands_1 11 rfl) mmN))))))))))))))))))))) il_X11_stands_7)) gw_X11_standsOf
theorem gX11_stands_X11_standsOf : GoodIn wsX11_stands (wsV RX11 315 RX11 yX11_standsOf wsX11_standsOf) := goodIn_app (goodIn_sub (mmC (mmI il_X11_stands_1 20 rfl) (mmC (mmI il_X11_stands_1 21 rfl) (mmC (mmI il_X11_stands_1 22 rfl) (mmC (mmI il_X11_stands_1 4 rfl) mmN)))) (by decide +kernel)) ggX11_stands_X11_standsOf
theorem dX11_stands_0 : decode cX11_stands 0 = .ok (.aload_n 0, 1) := by decide +kernel
theorem dX11_stands_1 : decode cX11_stands 1 = .ok (.iload_n 1, 1) := by decide +kernel
theorem dX11_stands_2 : decode cX11_stands 2 = .ok (.iload_n 2, 1) := by decide +kernel
theorem dX11_stands_3 : decode cX11_stands 3 = .ok (.invokevirtual 312, 3) := by decide +kernel
theorem dX11_stands_6 : decode cX11_stands 6 = .ok (.ifCond .ne 9, 3) := by decide +kernel
theorem dX11_stands_9 : decode cX11_stands 9 = .ok (.aload_n 0, 1) := by decide +kernel
theorem dX11_stands_10 : decode cX11_stands 10 = .ok (.iconst (-1), 1) := by decide +kernel
theorem dX11_stands_11 : decode cX11_stands 11 = .ok (.invokevirtual 153, 3) := by decide +kernel
theorem dX11_stands_14 : decode cX11_stands 14 = .ok (.ireturn, 1) := by decide +kernel
theorem dX11_stands_15 : decode cX11_stands 15 = .ok (.iload_n 3, 1) := by decide +kernel
theorem dX11_stands_16 : decode cX11_stands 16 = .ok (.ifCond .ge 10, 3) := by decide +kernel
theorem dX11_stands_19 : decode cX11_stands 19 = .ok (.aload_n 0, 1) := by decide +kernel
theorem dX11_stands_20 : decode cX11_stands 20 = .ok (.bipush (-4), 2) := by decide +kernel
theorem dX11_stands_22 : decode cX11_stands 22 = .ok (.invokevirtual 153, 3) := by decide +kernel
theorem dX11_stands_25 : decode cX11_stands 25 = .ok (.ireturn, 1) := by decide +kernel
theorem dX11_stands_26 : decode cX11_stands 26 = .ok (.iload_n 3, 1) := by decide +kernel
theorem dX11_stands_27 : decode cX11_stands 27 = .ok (.aload_n 0, 1) := by decide +kernel
theorem dX11_stands_28 : decode cX11_stands 28 = .ok (.getfield 171, 3) := by decide +kernel
theorem dX11_stands_31 : decode cX11_stands 31 = .ok (.if_icmp .le 12, 3) := by decide +kernel
theorem dX11_stands_34 : decode cX11_stands 34 = .ok (.aload_n 0, 1) := by decide +kernel
theorem dX11_stands_35 : decode cX11_stands 35 = .ok (.bipush (-6), 2) := by decide +kernel
theorem dX11_stands_37 : decode cX11_stands 37 = .ok (.invokevirtual 153, 3) := by decide +kernel
theorem dX11_stands_40 : decode cX11_stands 40 = .ok (.goto 10, 3) := by decide +kernel
theorem dX11_stands_43 : decode cX11_stands 43 = .ok (.aload_n 0, 1) := by decide +kernel
theorem dX11_stands_44 : decode cX11_stands 44 = .ok (.iload_n 1, 1) := by decide +kernel
theorem dX11_stands_45 : decode cX11_stands 45 = .ok (.iload_n 2, 1) := by decide +kernel
theorem dX11_stands_46 : decode cX11_stands 46 = .ok (.iload_n 3, 1) := by decide +kernel
theorem dX11_stands_47 : decode cX11_stands 47 = .ok (.invokevirtual 315, 3) := by decide +kernel
theorem dX11_stands_50 : decode cX11_stands 50 = .ok (.ireturn, 1) := by decide +kernel
set_option maxRecDepth 100000 in
theorem ggX11_rations_X11_isAgreement : GoodIn wsX11_rations wsX11_isAgreement := goodIn_sub (mmC (mmI il_X11_rations_1 9 rfl) (mmA (mmC (mmI il_X11_rations_1 10 rfl) (mmC (mmI il_X11_rations_1 11 rfl) (mmC (mmI il_X11_rations_1 12 rfl) (mmC (mmI il_X11_rations_1 8 rfl) (mmC (mmI il_X11_rations_1 13 rfl) mmN))))) il_X11_rations_2)) gw_X11_isAgreement
theorem gX11_rations_X11_isAgreement : GoodIn wsX11_rations (wsV RX11 199 RX11 yX11_isAgreement wsX11_isAgreement) := goodIn_app (goodIn_sub (mmC (mmI il_X11_rations_1 5 rfl) (mmC (mmI il_X11_rations_1 6 rfl) (mmC (mmI il_X11_rations_1 7 rfl) (mmC (mmI il_X11_rations_1 8 rfl) mmN)))) (by decide +kernel)) ggX11_rations_X11_isAgreement
set_option maxRecDepth 100000 in
theorem ggX11_rations_X11_refuse : GoodIn wsX11_rations wsX11_refuse := goodIn_sub (mmC (mmI il_X11_rations_1 17 rfl) (mmA (mmC (mmI il_X11_rations_1 18 rfl) mmN) il_X11_rations_2)) gw_X11_refuse
theorem gX11_rations_X11_refuse : GoodIn wsX11_rations (wsV RX11 153 RX11 yX11_refuse wsX11_refuse) := goodIn_app (goodIn_sub (mmC (mmI il_X11_rations_1 14 rfl) (mmC (mmI il_X11_rations_1 15 rfl) (mmC (mmI il_X11_rations_1 16 rfl) (mmC (mmI il_X11_rations_1 8 rfl) mmN)))) (by decide +kernel)) ggX11_rations_X11_refuse
theorem dX11_rations_0 : decode cX11_rations 0 = .ok (.aload_n 0, 1) := by decide +kernel
theorem dX11_rations_1 : decode cX11_rations 1 = .ok (.iload_n 1, 1) := by decide +kernel
theorem dX11_rations_2 : decode cX11_rations 2 = .ok (.invokevirtual 199, 3) := by decide +kernel
theorem dX11_rations_5 : decode cX11_rations 5 = .ok (.ifCond .ne 9, 3) := by decide +kernel
theorem dX11_rations_8 : decode cX11_rations 8 = .ok (.aload_n 0, 1) := by decide +kernel
theorem dX11_rations_9 : decode cX11_rations 9 = .ok (.iconst (-1), 1) := by decide +kernel
theorem dX11_rations_10 : decode cX11_rations 10 = .ok (.invokevirtual 153, 3) := by decide +kernel
theorem dX11_rations_13 : decode cX11_rations 13 = .ok (.ireturn, 1) := by decide +kernel
theorem dX11_rations_14 : decode cX11_rations 14 = .ok (.iload_n 2, 1) := by decide +kernel
theorem dX11_rations_15 : decode cX11_rations 15 = .ok (.iconst 1, 1) := by decide +kernel
theorem dX11_rations_16 : decode cX11_rations 16 = .ok (.if_icmp .lt 8, 3) := by decide +kernel
theorem dX11_rations_19 : decode cX11_rations 19 = .ok (.iload_n 3, 1) := by decide +kernel
theorem dX11_rations_20 : decode cX11_rations 20 = .ok (.iconst 1, 1) := by decide +kernel
theorem dX11_rations_21 : decode cX11_rations 21 = .ok (.if_icmp .ge 10, 3) := by decide +kernel
theorem dX11_rations_24 : decode cX11_rations 24 = .ok (.aload_n 0, 1) := by decide +kernel
theorem dX11_rations_25 : decode cX11_rations 25 = .ok (.bipush (-4), 2) := by decide +kernel
theorem dX11_rations_27 : decode cX11_rations 27 = .ok (.invokevirtual 153, 3) := by decide +kernel
theorem dX11_rations_30 : decode cX11_rations 30 = .ok (.ireturn, 1) := by decide +kernel
theorem dX11_rations_31 : decode cX11_rations 31 = .ok (.iload_n 2, 1) := by decide +kernel
theorem dX11_rations_32 : decode cX11_rations 32 = .ok (.sipush 999, 3) := by decide +kernel
theorem dX11_rations_35 : decode cX11_rations 35 = .ok (.aload_n 0, 1) := by decide +kernel
theorem dX11_rations_36 : decode cX11_rations 36 = .ok (.getfield 106, 3) := by decide +kernel
theorem dX11_rations_39 : decode cX11_rations 39 = .ok (.iload_n 1, 1) := by decide +kernel
theorem dX11_rations_40 : decode cX11_rations 40 = .ok (.iaload, 1) := by decide +kernel
theorem dX11_rations_41 : decode cX11_rations 41 = .ok (.isub, 1) := by decide +kernel
theorem dX11_rations_42 : decode cX11_rations 42 = .ok (.if_icmp .gt 20, 3) := by decide +kernel
theorem dX11_rations_45 : decode cX11_rations 45 = .ok (.iload_n 3, 1) := by decide +kernel
theorem dX11_rations_46 : decode cX11_rations 46 = .ok (.bipush 99, 2) := by decide +kernel
theorem dX11_rations_48 : decode cX11_rations 48 = .ok (.if_icmp .gt 14, 3) := by decide +kernel
theorem dX11_rations_51 : decode cX11_rations 51 = .ok (.aload_n 0, 1) := by decide +kernel
theorem dX11_rations_52 : decode cX11_rations 52 = .ok (.getfield 103, 3) := by decide +kernel
theorem dX11_rations_55 : decode cX11_rations 55 = .ok (.iload_n 1, 1) := by decide +kernel
theorem dX11_rations_56 : decode cX11_rations 56 = .ok (.iaload, 1) := by decide +kernel
theorem dX11_rations_57 : decode cX11_rations 57 = .ok (.bipush 20, 2) := by decide +kernel
theorem dX11_rations_59 : decode cX11_rations 59 = .ok (.if_icmp .ne 10, 3) := by decide +kernel
theorem dX11_rations_62 : decode cX11_rations 62 = .ok (.aload_n 0, 1) := by decide +kernel
theorem dX11_rations_63 : decode cX11_rations 63 = .ok (.bipush (-6), 2) := by decide +kernel
theorem dX11_rations_65 : decode cX11_rations 65 = .ok (.invokevirtual 153, 3) := by decide +kernel
theorem dX11_rations_68 : decode cX11_rations 68 = .ok (.ireturn, 1) := by decide +kernel
theorem dX11_rations_69 : decode cX11_rations 69 = .ok (.bipush 20, 2) := by decide +kernel
theorem dX11_rations_71 : decode cX11_rations 71 = .ok (.iload_n 1, 1) := by decide +kernel
theorem dX11_rations_72 : decode cX11_rations 72 = .ok (.imul, 1) := by decide +kernel
theorem dX11_rations_73 : decode cX11_rations 73 = .ok (.aload_n 0, 1) := by decide +kernel
theorem dX11_rations_74 : decode cX11_rations 74 = .ok (.getfield 103, 3) := by decide +kernel
theorem dX11_rations_77 : decode cX11_rations 77 = .ok (.iload_n 1, 1) := by decide +kernel
theorem dX11_rations_78 : decode cX11_rations 78 = .ok (.iaload, 1) := by decide +kernel
theorem dX11_rations_79 : decode cX11_rations 79 = .ok (.iadd, 1) := by decide +kernel
theorem dX11_rations_80 : decode cX11_rations 80 = .ok (.istore 4, 2) := by decide +kernel
theorem dX11_rations_82 : decode cX11_rations 82 = .ok (.aload_n 0, 1) := by decide +kernel
theorem dX11_rations_83 : decode cX11_rations 83 = .ok (.getfield 115, 3) := by decide +kernel
theorem dX11_rations_86 : decode cX11_rations 86 = .ok (.iload 4, 2) := by decide +kernel
theorem dX11_rations_88 : decode cX11_rations 88 = .ok (.aload_n 0, 1) := by decide +kernel
theorem dX11_rations_89 : decode cX11_rations 89 = .ok (.getfield 171, 3) := by decide +kernel
theorem dX11_rations_92 : decode cX11_rations 92 = .ok (.iastore, 1) := by decide +kernel
theorem dX11_rations_93 : decode cX11_rations 93 = .ok (.aload_n 0, 1) := by decide +kernel
theorem dX11_rations_94 : decode cX11_rations 94 = .ok (.getfield 118, 3) := by decide +kernel
theorem dX11_rations_97 : decode cX11_rations 97 = .ok (.iload 4, 2) := by decide +kernel
theorem dX11_rations_99 : decode cX11_rations 99 = .ok (.iload_n 2, 1) := by decide +kernel
theorem dX11_rations_100 : decode cX11_rations 100 = .ok (.iload_n 3, 1) := by decide +kernel
theorem dX11_rations_101 : decode cX11_rations 101 = .ok (.imul, 1) := by decide +kernel
theorem dX11_rations_102 : decode cX11_rations 102 = .ok (.iastore, 1) := by decide +kernel
theorem dX11_rations_103 : decode cX11_rations 103 = .ok (.aload_n 0, 1) := by decide +kernel
theorem dX11_rations_104 : decode cX11_rations 104 = .ok (.getfield 103, 3) := by decide +kernel
theorem dX11_rations_107 : decode cX11_rations 107 = .ok (.iload_n 1, 1) := by decide +kernel
theorem dX11_rations_108 : decode cX11_rations 108 = .ok (.dup2, 1) := by decide +kernel
theorem dX11_rations_109 : decode cX11_rations 109 = .ok (.iaload, 1) := by decide +kernel
theorem dX11_rations_110 : decode cX11_rations 110 = .ok (.iconst 1, 1) := by decide +kernel
theorem dX11_rations_111 : decode cX11_rations 111 = .ok (.iadd, 1) := by decide +kernel
theorem dX11_rations_112 : decode cX11_rations 112 = .ok (.iastore, 1) := by decide +kernel
theorem dX11_rations_113 : decode cX11_rations 113 = .ok (.aload_n 0, 1) := by decide +kernel
theorem dX11_rations_114 : decode cX11_rations 114 = .ok (.getfield 106, 3) := by decide +kernel
theorem dX11_rations_117 : decode cX11_rations 117 = .ok (.iload_n 1, 1) := by decide +kernel
theorem dX11_rations_118 : decode cX11_rations 118 = .ok (.dup2, 1) := by decide +kernel
theorem dX11_rations_119 : decode cX11_rations 119 = .ok (.iaload, 1) := by decide +kernel
theorem dX11_rations_120 : decode cX11_rations 120 = .ok (.iload_n 2, 1) := by decide +kernel
theorem dX11_rations_121 : decode cX11_rations 121 = .ok (.iadd, 1) := by decide +kernel
theorem dX11_rations_122 : decode cX11_rations 122 = .ok (.iastore, 1) := by decide +kernel
theorem dX11_rations_123 : decode cX11_rations 123 = .ok (.aload_n 0, 1) := by decide +kernel
theorem dX11_rations_124 : decode cX11_rations 124 = .ok (.getfield 106, 3) := by decide +kernel
theorem dX11_rations_127 : decode cX11_rations 127 = .ok (.iload_n 1, 1) := by decide +kernel
theorem dX11_rations_128 : decode cX11_rations 128 = .ok (.iaload, 1) := by decide +kernel
theorem dX11_rations_129 : decode cX11_rations 129 = .ok (.ireturn, 1) := by decide +kernel
theorem in_wsX11_standsOf_X11 : ∀ w ∈ wsX110, w ∈ wsX11_standsOf := fun w h => List.mem_cons_of_mem _ (List.mem_append_right _ h)
theorem in_wsX11_read_X11 : ∀ w ∈ wsX110, w ∈ wsX11_read := fun w h => List.mem_cons_of_mem _ (List.mem_append_right _ h)
theorem in_wsX11_stands_X11 : ∀ w ∈ wsX110, w ∈ wsX11_stands := fun w h => List.mem_cons_of_mem _ (List.mem_append_right _ h)
theorem in_wsX11_fine_X11 : ∀ w ∈ wsX110, w ∈ wsX11_fine := fun w h => List.mem_cons_of_mem _ (List.mem_append_right _ h)
theorem in_wsX11_rations_X11 : ∀ w ∈ wsX110, w ∈ wsX11_rations := fun w h => List.mem_cons_of_mem _ (List.mem_append_right _ h)

set_option maxHeartbeats 4000000 in
set_option maxRecDepth 100000 in
theorem c_X11_isFine_b (l : Launch) (dC : Nat → ClassId) (dI : Nat → Nat → Nat) (sz : Nat) (g0 : Nat) (pq : Nat → Nat) (cp : Nat → ClassId) (v : Nat → Int32) (fa : Nat → Nat → Int32) (gV : mV v) (gA : mA fa) (x1 : Int32) (x2 : Int32) : Met l yX11_isFine wsX11_isFine ({ frames := 2, cells := 0, slots := 0, locals := 42 }) (va_Pc [.ref g0, .int x1, .int x2] (pcW (dC, dI) (mT cp) (mW g0 pq cp v fa) sz)) (va_Qi (fun (r : Int32) (u : Unit) => (0 ≤ r.toInt ∧ r.toInt ≤ 1) ∧ (r = 1 → (0 ≤ x1.toInt ∧ x1.toInt ≤ 59 ∧ 0 ≤ x2.toInt ∧ x2.toInt ≤ 5))) (fun _ _ => True) (va_A [] sz)) 0 0 (va_A [] sz) := by
  refine Met.ofW (cc := cX11_isFine) (maxL := 3) (ret := (some .boolean)) (by decide +kernel) rfl ?_
  intro p e s m args below meth c s₁ B hml hv
  obtain ⟨rfl, hsz, hP, hK, hD0⟩ := hv
  have hx := B.exec
  have hb := B.bytes
  have hr := B.returns
  have hts := atoms_spec (ws := wsX11_isFine) B.pre
  have hown : s.vm.findClass RX11 = some m.cls := findClass_of_methodNamed B.named
  have hlocks := B.notSynchronized
  subst hsz
  have hD := hD0
  generalize hAe : va_A [] s.heap.size = A at ⊢
  have hA : ∀ q : Nat, s.heap.size ≤ q → A q := fun q h => by rw [← hAe]; exact Or.inr h
  have hS : va_S A s.heap s.heap [] := va_S.rf
  have hP : va_P (dC, dI) vwCl (mW g0 pq cp v fa) s.heap := hP
  have hl := lv_entry ([.ref g0, .int x1, .int x2]) (n := 3) (Nat.le_of_ble_eq_true rfl)
  rw [lg_entry_eq]
  generalize (lg_sl ([.ref g0, .int x1, .int x2]) ++ List.replicate (3 - (lg_sl ([.ref g0, .int x1, .int x2])).length) Slot.unset).toArray = ls at hl ⊢
  have hl : lv_has ls 3 [(0, .ref g0), (1, .int x1), (2, .int x2)] := hl
  refine lv_aload_n hx hb dX11_isFine_0 rfl (lv_at hl 0 rfl) ?_
  refine lv_iload_n hx hb dX11_isFine_1 rfl (lv_at hl 1 rfl) ?_
  have hFc : ∀ q, va_A [] s.heap.size q → A q := pu_free hS hA
  refine va_calli (va_runV (As := [.int x1]) (rest := []) ⟨hx, hb, hml, hown, hts⟩ (c_X11_isAgreement l dC dI s.heap.size g0 pq cp v fa x1) (cwV 1 hts gX11_isFine_X11_isAgreement rfl rfl rfl (by decide +kernel) ⟨(Nat.le_of_ble_eq_true rfl), (Nat.le_of_ble_eq_true rfl)⟩) (pr_V (r := (RX11, TX11, 63)) hP hK hD 0 11 rfl rfl) rfl rfl hl.1 rfl (lv_room (Nat.le_of_ble_eq_true rfl)) dX11_isFine_2 ⟨(Nat.le_of_ble_eq_true rfl), (Nat.le_of_ble_eq_true rfl)⟩) hS (fun q _ h => hFc q h) hFc (fun r_2 u t H locs ht hvm w_1 hB hz1 hk1 hS => ?_)
  have hP := pu_keep hP hk1
  clear hk1 hz1 hvm hB ht hFc
  have hbr_2 : 0 ≤ r_2.toInt ∧ r_2.toInt ≤ 1 := iv_of w_1 (isI_i _ _)
  refine lv_if_eq (tgt := 25) hx hb dX11_isFine_5 (by decide +kernel) (fun c_3 => ?_) (fun c_3 => ?_)
  · have dc_3 := c_eq (a := r_2.toInt) (b := 0) rfl (by decide +kernel) c_3
    refine lv_iconst (v := 0) hx hb dX11_isFine_25 (by decide +kernel) ?_
    exact W.zret (v := 0) hx hb hr rfl (fun t ht hW => ⟨⟨0, (), rfl, ⟨(by decide +kernel), (fun h => absurd h (by decide +kernel))⟩, trivial⟩, hS.F ht⟩) hS.2.2 dX11_isFine_26
  · have dc_3 := c_ne (a := r_2.toInt) (b := 0) rfl (by decide +kernel) c_3
    have hi_4 := isI_t w_1 (fun q => c_3 (Int32.toInt_inj.mp q))
    have khi_4 : (v 43).toInt ≤ 60 := (gV 43).2
    refine lv_iload_n hx hb dX11_isFine_8 rfl (lv_at hl 2 rfl) ?_
    refine lv_aload_n hx hb dX11_isFine_9 rfl (lv_at hl 0 rfl) ?_
    refine va_get (D := (dC, dI)) (ci := 11) (v := .ref (pq 30)) (C := RX11) (T := TX11) (N := 63) hx hb hts in_wsX11_isFine_X11 hown hK hP 0 rfl rfl 30 (by decide +kernel) (hts (.fieldLink RX11 100 "ShipOfficeModel" "fines" "[I") iw_X11_isFine_1) (fun _ h9 => h9) rfl dX11_isFine_10 ?_
    refine lv_iload_n hx hb dX11_isFine_13 rfl (lv_at hl 1 rfl) ?_
    refine va_iald hx hb hK hP 31 30 rfl rfl (vp_in_iff.mpr (by omega)) dX11_isFine_14 ?_
    refine lv_topi (fun x_5 ex_5 => ?_)
    have hx_5 : 0 ≤ x_5.toInt ∧ x_5.toInt ≤ 6 := iv_of ex_5 (gA 30 _)
    clear ex_5
    have hFc : ∀ q, va_A [] H.size q → A q := pu_free hS hA
    have hPc := hP.sub (ws' := []) [] rfl
    have hDc := hD.sub (ws' := []) [] (by decide +kernel) rfl
    have hKc := hK.sub (tys' := []) [] rfl
    refine va_calli (va_runS (As := [.int x2, .int x_5]) (rest := []) ⟨hx, hb, hml, hown, hts⟩ (c_X11_isIn l dC dI H.size x2 x_5) (va_cwS 2 hts gX11_isFine_X11_isIn rfl rfl rfl (by decide +kernel) ⟨(Nat.le_of_ble_eq_true rfl), (Nat.le_of_ble_eq_true rfl)⟩) (pr_S hPc hKc hDc) rfl rfl hl.1 rfl (lv_room (Nat.le_of_ble_eq_true rfl)) dX11_isFine_15 ⟨(Nat.le_of_ble_eq_true rfl), (Nat.le_of_ble_eq_true rfl)⟩) hS (fun q _ h => hFc q h) hFc (fun r_7 u t H locs ht hvm w_6 hB hz1 hk1 hS => ?_)
    have hP := pu_keep hP hk1
    clear hk1 hz1 hvm hB ht hFc hPc hDc hKc
    have hbr_7 : 0 ≤ r_7.toInt ∧ r_7.toInt ≤ 1 := iv_of w_6 (isI_i _ _)
    refine lv_if_eq (tgt := 25) hx hb dX11_isFine_18 (by decide +kernel) (fun c_8 => ?_) (fun c_8 => ?_)
    · have dc_8 := c_eq (a := r_7.toInt) (b := 0) rfl (by decide +kernel) c_8
      refine lv_iconst (v := 0) hx hb dX11_isFine_25 (by decide +kernel) ?_
      exact W.zret (v := 0) hx hb hr rfl (fun t ht hW => ⟨⟨0, (), rfl, ⟨(by decide +kernel), (fun h => absurd h (by decide +kernel))⟩, trivial⟩, hS.F ht⟩) hS.2.2 dX11_isFine_26
    · have dc_8 := c_ne (a := r_7.toInt) (b := 0) rfl (by decide +kernel) c_8
      have hi_9 := isI_t w_6 (fun q => c_8 (Int32.toInt_inj.mp q))
      refine lv_iconst (v := 1) hx hb dX11_isFine_21 (by decide +kernel) ?_
      refine lv_goto (tgt := 26) hx hb dX11_isFine_22 (by decide +kernel) ?_
      exact W.zret (v := 1) hx hb hr rfl (fun t ht hW => ⟨⟨1, (), rfl, ⟨(by decide +kernel), (fun _ => by omega)⟩, trivial⟩, hS.F ht⟩) hS.2.2 dX11_isFine_26
set_option maxHeartbeats 4000000 in
set_option maxRecDepth 100000 in
theorem c_X11_standsOf (l : Launch) (dC : Nat → ClassId) (dI : Nat → Nat → Nat) (sz : Nat) (g0 : Nat) (pq : Nat → Nat) (cp : Nat → ClassId) (v : Nat → Int32) (fa : Nat → Nat → Int32) (gV : mV v) (gA : mA fa) (x1 : Int32) (hx1 : 0 ≤ x1.toInt ∧ x1.toInt ≤ 59) (x2 : Int32) (hx2 : 0 ≤ x2.toInt ∧ x2.toInt ≤ 5) (x3 : Int32) : Met l yX11_standsOf wsX11_standsOf ({ frames := 25, cells := 0, slots := 0, locals := 586 }) (va_Pc [.ref g0, .int x1, .int x2, .int x3] (pcW (dC, dI) (mT cp) (mW g0 pq cp v fa) sz)) (va_Qi (fun (r : Int32) (u : (Nat → Int32) × (Nat → Nat → Int32)) => mV u.1 ∧ mA u.2 ∧ scr v fa u.1 u.2) (fun u t => va_P (dC, dI) vwCl (mW g0 pq cp u.1 u.2) t.heap ∧ va_K (dC, dI) vwCl (mT cp) t ∧ va_D (va_A (mW g0 pq cp v fa) sz) (mW g0 pq cp u.1 u.2)) (va_A (mW g0 pq cp v fa) sz)) 0 0 (va_A (mW g0 pq cp v fa) sz) := by
  refine Met.ofW (cc := cX11_standsOf) (maxL := 6) (ret := (some .int)) (by decide +kernel) rfl ?_
  intro p e s m args below meth c s₁ B hml hv
  obtain ⟨rfl, hsz, hP, hK, hD0⟩ := hv
  have hx := B.exec
  have hb := B.bytes
  have hr := B.returns
  have hts := atoms_spec (ws := wsX11_standsOf) B.pre
  have hown : s.vm.findClass RX11 = some m.cls := findClass_of_methodNamed B.named
  have hlocks := B.notSynchronized
  subst hsz
  have hD := hD0.self (sz := s.heap.size)
  generalize hAe : va_A (mW g0 pq cp v fa) s.heap.size = A at hD ⊢
  have hA : ∀ q : Nat, s.heap.size ≤ q → A q := fun q h => by rw [← hAe]; exact Or.inr h
  have hS : va_S A s.heap s.heap [] := va_S.rf
  have hP : va_P (dC, dI) vwCl (mW g0 pq cp v fa) s.heap := hP
  have hl := lv_entry ([.ref g0, .int x1, .int x2, .int x3]) (n := 6) (Nat.le_of_ble_eq_true rfl)
  rw [lg_entry_eq]
  generalize (lg_sl ([.ref g0, .int x1, .int x2, .int x3]) ++ List.replicate (6 - (lg_sl ([.ref g0, .int x1, .int x2, .int x3])).length) Slot.unset).toArray = ls at hl ⊢
  have hl : lv_has ls 6 [(0, .ref g0), (1, .int x1), (2, .int x2), (3, .int x3)] := hl
  refine lv_bipush (v := 6) hx hb dX11_standsOf_0 (by decide +kernel) ?_
  refine lv_iload_n hx hb dX11_standsOf_2 rfl (lv_at hl 1 rfl) ?_
  refine lv_imul hx hb dX11_standsOf_3 ?_
  refine lv_topi (fun x_1 ex_1 => ?_)
  have hx_1 : x_1.toInt = 6 * x1.toInt := (iv_to ex_1).trans (mu_i (by decide +kernel) rfl (by omega) (by omega))
  clear ex_1
  refine lv_iload_n hx hb dX11_standsOf_4 rfl (lv_at hl 2 rfl) ?_
  refine lv_iadd hx hb dX11_standsOf_5 ?_
  refine lv_topi (fun x_2 ex_2 => ?_)
  have hx_2 : x_2.toInt = x_1.toInt + x2.toInt := (iv_to ex_2).trans (ad_i rfl rfl (by omega) (by omega))
  clear ex_2
  refine lv_istore (lv' := [(4, .int x_2), (0, .ref g0), (1, .int x1), (2, .int x2), (3, .int x3)]) hx hb dX11_standsOf_6 hl (by decide +kernel) rfl (fun ls hl => ?_)
  refine lv_aload_n hx hb dX11_standsOf_8 rfl (lv_at hl 1 rfl) ?_
  refine lv_iload_n hx hb dX11_standsOf_9 rfl (lv_at hl 2 rfl) ?_
  refine lv_aload_n hx hb dX11_standsOf_10 rfl (lv_at hl 1 rfl) ?_
  refine va_get (D := (dC, dI)) (ci := 11) (v := .ref (pq 33)) (C := RX11) (T := TX11) (N := 63) hx hb hts in_wsX11_standsOf_X11 hown hK hP 0 rfl rfl 33 (by decide +kernel) (hts (.fieldLink RX11 109 "ShipOfficeModel" "fineDay" "[I") iw_X11_standsOf_1) (fun _ h9 => h9) rfl dX11_standsOf_11 ?_
  refine lv_iload hx hb dX11_standsOf_14 (lv_at hl 0 rfl) ?_
  refine va_iald hx hb hK hP 34 33 rfl rfl (vp_in_iff.mpr (by omega)) dX11_standsOf_16 ?_
  refine lv_topi (fun x_3 ex_3 => ?_)
  have hx_3 : 0 ≤ x_3.toInt ∧ x_3.toInt ≤ 3000 := iv_of ex_3 (gA 33 _)
  clear ex_3
  refine lv_iload_n hx hb dX11_standsOf_17 rfl (lv_at hl 4 rfl) ?_
  refine lv_aload_n hx hb dX11_standsOf_18 rfl (lv_at hl 1 rfl) ?_
  refine va_get (D := (dC, dI)) (ci := 11) (v := .ref (pq 34)) (C := RX11) (T := TX11) (N := 63) hx hb hts in_wsX11_standsOf_X11 hown hK hP 0 rfl rfl 34 (by decide +kernel) (hts (.fieldLink RX11 112 "ShipOfficeModel" "fineSum" "[I") iw_X11_standsOf_2) (fun _ h9 => h9) rfl dX11_standsOf_19 ?_
  refine lv_iload hx hb dX11_standsOf_22 (lv_at hl 0 rfl) ?_
  refine va_iald hx hb hK hP 35 34 rfl rfl (vp_in_iff.mpr (by omega)) dX11_standsOf_24 ?_
  refine lv_topi (fun x_4 ex_4 => ?_)
  clear ex_4
  refine lv_aload_n hx hb dX11_standsOf_25 rfl (lv_at hl 1 rfl) ?_
  refine va_get (D := (dC, dI)) (ci := 11) (v := .ref (pq 37)) (C := RX11) (T := TX11) (N := 63) hx hb hts in_wsX11_standsOf_X11 hown hK hP 0 rfl rfl 37 (by decide +kernel) (hts (.fieldLink RX11 121 "ShipOfficeModel" "isRead" "[Z") iw_X11_standsOf_3) (fun _ h9 => h9) rfl dX11_standsOf_26 ?_
  refine lv_iload hx hb dX11_standsOf_29 (lv_at hl 0 rfl) ?_
  refine va_zald hx hb hK hP 38 37 rfl rfl (vp_in_iff.mpr (by omega)) dX11_standsOf_31 ?_
  refine lv_topi (fun x_5 ex_5 => ?_)
  clear ex_5
  have hFc := va_free (wc := (mW g0 pq cp v fa)) hD hS hA (List.range 48) rfl
  refine va_callv (va_runV (As := [.int x1, .int x_3, .int x3, .int x_4, .int x_5]) (rest := []) ⟨hx, hb, hml, hown, hts⟩ (c_X11_puts l dC dI s.heap.size g0 pq cp v fa gV gA x1 (by omega) x_3 (by omega) x3 x_4 x_5) (cwV 5 hts gX11_standsOf_X11_puts rfl rfl rfl (by decide +kernel) ⟨(Nat.le_of_ble_eq_true rfl), (Nat.le_of_ble_eq_true rfl)⟩) (pr_V (r := (RX11, TX11, 63)) hP hK hD 0 11 rfl rfl) rfl rfl hl.1 rfl (lv_room (Nat.le_of_ble_eq_true rfl)) dX11_standsOf_32 ⟨(Nat.le_of_ble_eq_true rfl), (Nat.le_of_ble_eq_true rfl)⟩) hS (fun q _ h => hFc q h) hFc (fun u t H locs ht hvm w_6 hB hz1 hk1 hS => ?_)
  obtain ⟨v_8, fa_9⟩ := u
  obtain ⟨hP1, hK1, hD1⟩ := hB
  rw [ht] at hP1
  have hP : va_P (dC, dI) vwCl (mW g0 pq cp v_8 fa_9) H := hP1
  have hD : va_D A (mW g0 pq cp v_8 fa_9) := hD1.weaken (fun _ _ _ h => hFc _ h)
  clear hP1 hK1 hD1 hk1 hz1 hvm ht hFc
  obtain ⟨hV_10, hA_11, hR_12⟩ := w_6
  dsimp only at hV_10 hA_11 hR_12 
  have R_13 := scr.tr scr.rf hR_12
  refine lv_aload_n hx hb dX11_standsOf_35 rfl (lv_at hl 1 rfl) ?_
  refine lv_iconst (v := 1) hx hb dX11_standsOf_36 (by decide +kernel) ?_
  refine lv_aload_n hx hb dX11_standsOf_37 rfl (lv_at hl 1 rfl) ?_
  refine va_get (D := (dC, dI)) (ci := 11) (v := .ref (pq 33)) (C := RX11) (T := TX11) (N := 63) hx hb hts in_wsX11_standsOf_X11 hown hK hP 0 rfl rfl 33 (by decide +kernel) (hts (.fieldLink RX11 109 "ShipOfficeModel" "fineDay" "[I") iw_X11_standsOf_1) (fun _ h9 => h9) rfl dX11_standsOf_38 ?_
  refine lv_iload hx hb dX11_standsOf_41 (lv_at hl 0 rfl) ?_
  refine va_iald hx hb hK hP 34 33 rfl rfl (vp_in_iff.mpr (by omega)) dX11_standsOf_43 ?_
  refine lv_topi (fun x_14 ex_14 => ?_)
  have hx_14 : 0 ≤ x_14.toInt ∧ x_14.toInt ≤ 3000 := iv_of ex_14 (hA_11 33 _)
  clear ex_14
  have hFc := va_free (wc := (mW g0 pq cp v_8 fa_9)) hD hS hA (List.range 48) rfl
  refine va_calli (va_runV (As := [.int 1, .int x_14]) (rest := []) ⟨hx, hb, hml, hown, hts⟩ (c_X11_worth l dC dI H.size g0 pq cp v_8 fa_9 hV_10 hA_11 1 x_14) (cwV 2 hts gX11_standsOf_X11_worth rfl rfl rfl (by decide +kernel) ⟨(Nat.le_of_ble_eq_true rfl), (Nat.le_of_ble_eq_true rfl)⟩) (pr_V (r := (RX11, TX11, 63)) hP hK hD 0 11 rfl rfl) rfl rfl hl.1 rfl (lv_room (Nat.le_of_ble_eq_true rfl)) dX11_standsOf_44 ⟨(Nat.le_of_ble_eq_true rfl), (Nat.le_of_ble_eq_true rfl)⟩) hS (fun q _ h => hFc q h) hFc (fun r_16 u t H locs ht hvm w_15 hB hz1 hk1 hS => ?_)
  obtain ⟨v_17, fa_18⟩ := u
  obtain ⟨hP1, hK1, hD1⟩ := hB
  rw [ht] at hP1
  have hP : va_P (dC, dI) vwCl (mW g0 pq cp v_17 fa_18) H := hP1
  have hD : va_D A (mW g0 pq cp v_17 fa_18) := hD1.weaken (fun _ _ _ h => hFc _ h)
  clear hP1 hK1 hD1 hk1 hz1 hvm ht hFc
  obtain ⟨hV_19, hA_20, hR_21⟩ := w_15
  dsimp only at hV_19 hA_20 hR_21 
  have R_22 := scr.tr R_13 hR_21
  refine lv_istore (lv' := [(5, .int r_16), (4, .int x_2), (0, .ref g0), (1, .int x1), (2, .int x2), (3, .int x3)]) hx hb dX11_standsOf_47 hl (by decide +kernel) rfl (fun ls hl => ?_)
  refine lv_iload hx hb dX11_standsOf_49 (lv_at hl 0 rfl) ?_
  refine lv_if_ge (tgt := 58) hx hb dX11_standsOf_51 (by decide +kernel) (fun c_23 => ?_) (fun c_23 => ?_)
  · have dc_23 := c_le (a := 0) (b := r_16.toInt) (by decide +kernel) rfl c_23
    refine lv_iload hx hb dX11_standsOf_58 (lv_at hl 0 rfl) ?_
    refine lv_aload_n hx hb dX11_standsOf_60 rfl (lv_at hl 2 rfl) ?_
    refine va_get (D := (dC, dI)) (ci := 11) (v := .ref (pq 34)) (C := RX11) (T := TX11) (N := 63) hx hb hts in_wsX11_standsOf_X11 hown hK hP 0 rfl rfl 34 (by decide +kernel) (hts (.fieldLink RX11 112 "ShipOfficeModel" "fineSum" "[I") iw_X11_standsOf_2) (fun _ h9 => h9) rfl dX11_standsOf_61 ?_
    refine lv_iload hx hb dX11_standsOf_64 (lv_at hl 1 rfl) ?_
    refine va_iald hx hb hK hP 35 34 rfl rfl (vp_in_iff.mpr (by omega)) dX11_standsOf_66 ?_
    refine lv_topi (fun x_24 ex_24 => ?_)
    clear ex_24
    refine lv_icmp_ge (tgt := 75) hx hb dX11_standsOf_67 (by decide +kernel) (fun c_25 => ?_) (fun c_25 => ?_)
    · have dc_25 := c_le (a := x_24.toInt) (b := r_16.toInt) rfl rfl c_25
      refine lv_aload_n hx hb dX11_standsOf_75 rfl (lv_at hl 2 rfl) ?_
      refine va_get (D := (dC, dI)) (ci := 11) (v := .ref (pq 34)) (C := RX11) (T := TX11) (N := 63) hx hb hts in_wsX11_standsOf_X11 hown hK hP 0 rfl rfl 34 (by decide +kernel) (hts (.fieldLink RX11 112 "ShipOfficeModel" "fineSum" "[I") iw_X11_standsOf_2) (fun _ h9 => h9) rfl dX11_standsOf_76 ?_
      refine lv_iload hx hb dX11_standsOf_79 (lv_at hl 1 rfl) ?_
      refine va_iald hx hb hK hP 35 34 rfl rfl (vp_in_iff.mpr (by omega)) dX11_standsOf_81 ?_
      refine lv_topi (fun x_26 ex_26 => ?_)
      clear ex_26
      exact W.iret (v := x_26) hx hb hr (fun t ht hW => ⟨⟨x_26, (v_17, fa_18), rfl, ⟨hV_19, hA_20, R_22⟩, ⟨by rw [ht]; exact hP, va_K.moved hW.alike hK, hD⟩⟩, hS.F ht⟩) hS.2.2 dX11_standsOf_82
    · have dc_25 := c_nle (a := x_24.toInt) (b := r_16.toInt) rfl rfl c_25
      refine lv_iload hx hb dX11_standsOf_70 (lv_at hl 0 rfl) ?_
      refine lv_goto (tgt := 82) hx hb dX11_standsOf_72 (by decide +kernel) ?_
      exact W.iret (v := r_16) hx hb hr (fun t ht hW => ⟨⟨r_16, (v_17, fa_18), rfl, ⟨hV_19, hA_20, R_22⟩, ⟨by rw [ht]; exact hP, va_K.moved hW.alike hK, hD⟩⟩, hS.F ht⟩) hS.2.2 dX11_standsOf_82
  · have dc_23 := c_nle (a := 0) (b := r_16.toInt) (by decide +kernel) rfl c_23
    refine lv_iconst (v := 0) hx hb dX11_standsOf_54 (by decide +kernel) ?_
    refine lv_goto (tgt := 82) hx hb dX11_standsOf_55 (by decide +kernel) ?_
    exact W.iret (v := 0) hx hb hr (fun t ht hW => ⟨⟨0, (v_17, fa_18), rfl, ⟨hV_19, hA_20, R_22⟩, ⟨by rw [ht]; exact hP, va_K.moved hW.alike hK, hD⟩⟩, hS.F ht⟩) hS.2.2 dX11_standsOf_82
set_option maxHeartbeats 4000000 in
set_option maxRecDepth 100000 in
theorem c_X11_read (l : Launch) (dC : Nat → ClassId) (dI : Nat → Nat → Nat) (sz : Nat) (g0 : Nat) (pq : Nat → Nat) (cp : Nat → ClassId) (v : Nat → Int32) (fa : Nat → Nat → Int32) (gV : mV v) (gA : mA fa) (x1 : Int32) (x2 : Int32) : Met l yX11_read wsX11_read ({ frames := 3, cells := 0, slots := 0, locals := 64 }) (va_Pc [.ref g0, .int x1, .int x2] (pcW (dC, dI) (mT cp) (mW g0 pq cp v fa) sz)) (va_Qi (fun (r : Int32) (u : (Nat → Int32) × (Nat → Nat → Int32)) => mV u.1 ∧ mA u.2 ∧ mX [0, 37] v fa u.1 u.2) (fun u t => va_P (dC, dI) vwCl (mW g0 pq cp u.1 u.2) t.heap ∧ va_K (dC, dI) vwCl (mT cp) t ∧ va_D (va_A (mW g0 pq cp v fa) sz) (mW g0 pq cp u.1 u.2)) (va_A (mW g0 pq cp v fa) sz)) 0 0 (va_A (mW g0 pq cp v fa) sz) := by
  refine Met.ofW (cc := cX11_read) (maxL := 3) (ret := (some .int)) (by decide +kernel) rfl ?_
  intro p e s m args below meth c s₁ B hml hv
  obtain ⟨rfl, hsz, hP, hK, hD0⟩ := hv
  have hx := B.exec
  have hb := B.bytes
  have hr := B.returns
  have hts := atoms_spec (ws := wsX11_read) B.pre
  have hown : s.vm.findClass RX11 = some m.cls := findClass_of_methodNamed B.named
  have hlocks := B.notSynchronized
  subst hsz
  have hD := hD0.self (sz := s.heap.size)
  generalize hAe : va_A (mW g0 pq cp v fa) s.heap.size = A at hD ⊢
  have hA : ∀ q : Nat, s.heap.size ≤ q → A q := fun q h => by rw [← hAe]; exact Or.inr h
  have hS : va_S A s.heap s.heap [] := va_S.rf
  have hP : va_P (dC, dI) vwCl (mW g0 pq cp v fa) s.heap := hP
  have hl := lv_entry ([.ref g0, .int x1, .int x2]) (n := 3) (Nat.le_of_ble_eq_true rfl)
  rw [lg_entry_eq]
  generalize (lg_sl ([.ref g0, .int x1, .int x2]) ++ List.replicate (3 - (lg_sl ([.ref g0, .int x1, .int x2])).length) Slot.unset).toArray = ls at hl ⊢
  have hl : lv_has ls 3 [(0, .ref g0), (1, .int x1), (2, .int x2)] := hl
  refine lv_aload_n hx hb dX11_read_0 rfl (lv_at hl 0 rfl) ?_
  refine lv_iload_n hx hb dX11_read_1 rfl (lv_at hl 1 rfl) ?_
  refine lv_iload_n hx hb dX11_read_2 rfl (lv_at hl 2 rfl) ?_
  have hFc : ∀ q, va_A [] s.heap.size q → A q := pu_free hS hA
  refine va_calli (va_runV (As := [.int x1, .int x2]) (rest := []) ⟨hx, hb, hml, hown, hts⟩ (c_X11_isFine_b l dC dI s.heap.size g0 pq cp v fa gV gA x1 x2) (cwV 2 hts gX11_read_X11_isFine rfl rfl rfl (by decide +kernel) ⟨(Nat.le_of_ble_eq_true rfl), (Nat.le_of_ble_eq_true rfl)⟩) (pr_V (r := (RX11, TX11, 63)) hP hK hD 0 11 rfl rfl) rfl rfl hl.1 rfl (lv_room (Nat.le_of_ble_eq_true rfl)) dX11_read_3 ⟨(Nat.le_of_ble_eq_true rfl), (Nat.le_of_ble_eq_true rfl)⟩) hS (fun q _ h => hFc q h) hFc (fun r_2 u t H locs ht hvm w_1 hB hz1 hk1 hS => ?_)
  have hP := pu_keep hP hk1
  clear hk1 hz1 hvm hB ht hFc
  obtain ⟨hb_3, hx_4⟩ := w_1
  refine lv_if_ne (tgt := 15) hx hb dX11_read_6 (by decide +kernel) (fun c_5 => ?_) (fun c_5 => ?_)
  · have dc_5 := c_ne (a := r_2.toInt) (b := 0) rfl (by decide +kernel) c_5
    have hfi := hx_4 (Int32.toInt_inj.mp (by show _ = (1 : Int); omega))
    refine lv_aload_n hx hb dX11_read_15 rfl (lv_at hl 0 rfl) ?_
    refine va_get (D := (dC, dI)) (ci := 11) (v := .ref (pq 37)) (C := RX11) (T := TX11) (N := 63) hx hb hts in_wsX11_read_X11 hown hK hP 0 rfl rfl 37 (by decide +kernel) (hts (.fieldLink RX11 121 "ShipOfficeModel" "isRead" "[Z") iw_X11_read_1) (fun _ h9 => h9) rfl dX11_read_16 ?_
    refine lv_bipush (v := 6) hx hb dX11_read_19 (by decide +kernel) ?_
    refine lv_iload_n hx hb dX11_read_21 rfl (lv_at hl 1 rfl) ?_
    refine lv_imul hx hb dX11_read_22 ?_
    refine lv_topi (fun x_6 ex_6 => ?_)
    have hx_6 : x_6.toInt = 6 * x1.toInt := (iv_to ex_6).trans (mu_i (by decide +kernel) rfl (by omega) (by omega))
    clear ex_6
    refine lv_iload_n hx hb dX11_read_23 rfl (lv_at hl 2 rfl) ?_
    refine lv_iadd hx hb dX11_read_24 ?_
    refine lv_topi (fun x_7 ex_7 => ?_)
    have hx_7 : x_7.toInt = x_6.toInt + x2.toInt := (iv_to ex_7).trans (ad_i rfl rfl (by omega) (by omega))
    clear ex_7
    refine va_zald hx hb hK hP 38 37 rfl rfl (vp_in_iff.mpr (by omega)) dX11_read_25 ?_
    refine lv_topi (fun x_8 ex_8 => ?_)
    clear ex_8
    refine lv_if_ne (tgt := 47) hx hb dX11_read_26 (by decide +kernel) (fun c_9 => ?_) (fun c_9 => ?_)
    · have dc_9 := c_ne (a := x_8.toInt) (b := 0) rfl (by decide +kernel) c_9
      refine lv_aload_n hx hb dX11_read_47 rfl (lv_at hl 0 rfl) ?_
      refine lv_bipush (v := (-3)) hx hb dX11_read_48 (by decide +kernel) ?_
      have hFc := va_free (wc := (mW g0 pq cp v fa)) hD hS hA (List.range 48) rfl
      refine va_calli (va_runV (As := [.int (-3)]) (rest := []) ⟨hx, hb, hml, hown, hts⟩ (c_X11_refuse l dC dI H.size g0 pq cp v fa (-3) (by unfold vp_in; decide)) (cwV 1 hts gX11_read_X11_refuse rfl rfl rfl (by decide +kernel) ⟨(Nat.le_of_ble_eq_true rfl), (Nat.le_of_ble_eq_true rfl)⟩) (pr_V (r := (RX11, TX11, 63)) hP hK hD 0 11 rfl rfl) rfl rfl hl.1 rfl (lv_room (Nat.le_of_ble_eq_true rfl)) dX11_read_50 ⟨(Nat.le_of_ble_eq_true rfl), (Nat.le_of_ble_eq_true rfl)⟩) hS (fun q _ h => hFc q h) hFc (fun r_11 u t H locs ht hvm w_10 hB hz1 hk1 hS => ?_)
      obtain ⟨v_12, fa_13⟩ := u
      obtain ⟨hP1, hK1, hD1⟩ := hB
      rw [ht] at hP1
      have hP : va_P (dC, dI) vwCl (mW g0 pq cp v_12 fa_13) H := hP1
      have hD : va_D A (mW g0 pq cp v_12 fa_13) := hD1.weaken (fun _ _ _ h => hFc _ h)
      clear hP1 hK1 hD1 hk1 hz1 hvm ht hFc
      obtain ⟨rfl, w_10⟩ := w_10
      have hVv_12 : mV v_12 := sm0_V w_10 gV
      have hAv_12 : mA fa_13 := sm0_A w_10 gA
      have hRv_12 : mX [0, 37] v fa v_12 fa_13 := mX.st mX.rf (mX.s0 w_10) (by decide +kernel)
      exact W.iret (v := (-3)) hx hb hr (fun t ht hW => ⟨⟨(-3), (v_12, fa_13), rfl, ⟨hVv_12, hAv_12, hRv_12⟩, ⟨by rw [ht]; exact hP, va_K.moved hW.alike hK, hD⟩⟩, hS.F ht⟩) hS.2.2 dX11_read_53
    · have dc_9 := c_eq (a := x_8.toInt) (b := 0) rfl (by decide +kernel) c_9
      refine lv_aload_n hx hb dX11_read_29 rfl (lv_at hl 0 rfl) ?_
      refine va_get (D := (dC, dI)) (ci := 11) (v := .ref (pq 33)) (C := RX11) (T := TX11) (N := 63) hx hb hts in_wsX11_read_X11 hown hK hP 0 rfl rfl 33 (by decide +kernel) (hts (.fieldLink RX11 109 "ShipOfficeModel" "fineDay" "[I") iw_X11_read_2) (fun _ h9 => h9) rfl dX11_read_30 ?_
      refine lv_bipush (v := 6) hx hb dX11_read_33 (by decide +kernel) ?_
      refine lv_iload_n hx hb dX11_read_35 rfl (lv_at hl 1 rfl) ?_
      refine lv_imul hx hb dX11_read_36 ?_
      refine lv_topi (fun x_14 ex_14 => ?_)
      have hx_14 : x_14.toInt = 6 * x1.toInt := (iv_to ex_14).trans (mu_i (by decide +kernel) rfl (by omega) (by omega))
      clear ex_14
      refine lv_iload_n hx hb dX11_read_37 rfl (lv_at hl 2 rfl) ?_
      refine lv_iadd hx hb dX11_read_38 ?_
      refine lv_topi (fun x_15 ex_15 => ?_)
      have hx_15 : x_15.toInt = x_14.toInt + x2.toInt := (iv_to ex_15).trans (ad_i rfl rfl (by omega) (by omega))
      clear ex_15
      refine va_iald hx hb hK hP 34 33 rfl rfl (vp_in_iff.mpr (by omega)) dX11_read_39 ?_
      refine lv_topi (fun x_16 ex_16 => ?_)
      have hx_16 : 0 ≤ x_16.toInt ∧ x_16.toInt ≤ 3000 := iv_of ex_16 (gA 33 _)
      clear ex_16
      refine lv_aload_n hx hb dX11_read_40 rfl (lv_at hl 0 rfl) ?_
      refine va_get (D := (dC, dI)) (ci := 11) (v := .int (v 38)) (C := RX11) (T := TX11) (N := 63) hx hb hts in_wsX11_read_X11 hown hK hP 0 rfl rfl 38 (by decide +kernel) (hts (.fieldLink RX11 171 "ShipOfficeModel" "now" "I") iw_X11_read_3) (fun _ h9 => h9) rfl dX11_read_41 ?_
      refine lv_topi (fun x_17 ex_17 => ?_)
      have hx_17 : 0 ≤ x_17.toInt ∧ x_17.toInt ≤ 3000 := iv_of ex_17 (gV 38)
      clear ex_17
      refine lv_icmp_eq (tgt := 54) hx hb dX11_read_44 (by decide +kernel) (fun c_18 => ?_) (fun c_18 => ?_)
      · have dc_18 := c_eq (a := x_16.toInt) (b := x_17.toInt) rfl rfl c_18
        refine lv_aload_n hx hb dX11_read_54 rfl (lv_at hl 0 rfl) ?_
        refine va_get (D := (dC, dI)) (ci := 11) (v := .ref (pq 37)) (C := RX11) (T := TX11) (N := 63) hx hb hts in_wsX11_read_X11 hown hK hP 0 rfl rfl 37 (by decide +kernel) (hts (.fieldLink RX11 121 "ShipOfficeModel" "isRead" "[Z") iw_X11_read_1) (fun _ h9 => h9) rfl dX11_read_55 ?_
        refine lv_bipush (v := 6) hx hb dX11_read_58 (by decide +kernel) ?_
        refine lv_iload_n hx hb dX11_read_60 rfl (lv_at hl 1 rfl) ?_
        refine lv_imul hx hb dX11_read_61 ?_
        refine lv_topi (fun x_19 ex_19 => ?_)
        have hx_19 : x_19.toInt = 6 * x1.toInt := (iv_to ex_19).trans (mu_i (by decide +kernel) rfl (by omega) (by omega))
        clear ex_19
        refine lv_iload_n hx hb dX11_read_62 rfl (lv_at hl 2 rfl) ?_
        refine lv_iadd hx hb dX11_read_63 ?_
        refine lv_topi (fun x_20 ex_20 => ?_)
        have hx_20 : x_20.toInt = x_19.toInt + x2.toInt := (iv_to ex_20).trans (ad_i rfl rfl (by omega) (by omega))
        clear ex_20
        refine lv_iconst (v := 1) hx hb dX11_read_64 (by decide +kernel) ?_
        refine va_zast hx hb hK hP hD hS 38 37 rfl rfl (vp_in_iff.mpr (by omega)) dX11_read_65 (fun H locs hP hD hS => ?_)
        have hP : va_P (dC, dI) vwCl (mW g0 pq cp v (upF fa 37 (x_20 : Int32).toNatClampNeg (vp_nar .boolean 1))) H := hP
        have hD : va_D A (mW g0 pq cp v (upF fa 37 (x_20 : Int32).toNatClampNeg (vp_nar .boolean 1))) := hD
        obtain ⟨fz_21, efz_21⟩ : ∃ zq, zq = (upF fa 37 (x_20 : Int32).toNatClampNeg (vp_nar .boolean 1)) := ⟨_, rfl⟩
        rw [← efz_21] at hP hD
        have hAfz_21 : mA fz_21 := by rw [efz_21]; exact mA_upF (lo := -2147483648) (hi := 2147483647) gA rfl rfl (iv_all _)
        have hRfz_21 : mX [0, 37] v fa v fz_21 := by rw [efz_21]; exact mX.uF mX.rf (by decide +kernel)
        refine lv_iconst (v := 1) hx hb dX11_read_66 (by decide +kernel) ?_
        exact W.iret (v := 1) hx hb hr (fun t ht hW => ⟨⟨1, (v, fz_21), rfl, ⟨gV, hAfz_21, hRfz_21⟩, ⟨by rw [ht]; exact hP, va_K.moved hW.alike hK, hD⟩⟩, hS.F ht⟩) hS.2.2 dX11_read_67
      · have dc_18 := c_ne (a := x_16.toInt) (b := x_17.toInt) rfl rfl c_18
        refine lv_aload_n hx hb dX11_read_47 rfl (lv_at hl 0 rfl) ?_
        refine lv_bipush (v := (-3)) hx hb dX11_read_48 (by decide +kernel) ?_
        have hFc := va_free (wc := (mW g0 pq cp v fa)) hD hS hA (List.range 48) rfl
        refine va_calli (va_runV (As := [.int (-3)]) (rest := []) ⟨hx, hb, hml, hown, hts⟩ (c_X11_refuse l dC dI H.size g0 pq cp v fa (-3) (by unfold vp_in; decide)) (cwV 1 hts gX11_read_X11_refuse rfl rfl rfl (by decide +kernel) ⟨(Nat.le_of_ble_eq_true rfl), (Nat.le_of_ble_eq_true rfl)⟩) (pr_V (r := (RX11, TX11, 63)) hP hK hD 0 11 rfl rfl) rfl rfl hl.1 rfl (lv_room (Nat.le_of_ble_eq_true rfl)) dX11_read_50 ⟨(Nat.le_of_ble_eq_true rfl), (Nat.le_of_ble_eq_true rfl)⟩) hS (fun q _ h => hFc q h) hFc (fun r_23 u t H locs ht hvm w_22 hB hz1 hk1 hS => ?_)
        obtain ⟨v_24, fa_25⟩ := u
        obtain ⟨hP1, hK1, hD1⟩ := hB
        rw [ht] at hP1
        have hP : va_P (dC, dI) vwCl (mW g0 pq cp v_24 fa_25) H := hP1
        have hD : va_D A (mW g0 pq cp v_24 fa_25) := hD1.weaken (fun _ _ _ h => hFc _ h)
        clear hP1 hK1 hD1 hk1 hz1 hvm ht hFc
        obtain ⟨rfl, w_22⟩ := w_22
        have hVv_24 : mV v_24 := sm0_V w_22 gV
        have hAv_24 : mA fa_25 := sm0_A w_22 gA
        have hRv_24 : mX [0, 37] v fa v_24 fa_25 := mX.st mX.rf (mX.s0 w_22) (by decide +kernel)
        exact W.iret (v := (-3)) hx hb hr (fun t ht hW => ⟨⟨(-3), (v_24, fa_25), rfl, ⟨hVv_24, hAv_24, hRv_24⟩, ⟨by rw [ht]; exact hP, va_K.moved hW.alike hK, hD⟩⟩, hS.F ht⟩) hS.2.2 dX11_read_53
  · have dc_5 := c_eq (a := r_2.toInt) (b := 0) rfl (by decide +kernel) c_5
    refine lv_aload_n hx hb dX11_read_9 rfl (lv_at hl 0 rfl) ?_
    refine lv_iconst (v := (-1)) hx hb dX11_read_10 (by decide +kernel) ?_
    have hFc := va_free (wc := (mW g0 pq cp v fa)) hD hS hA (List.range 48) rfl
    refine va_calli (va_runV (As := [.int (-1)]) (rest := []) ⟨hx, hb, hml, hown, hts⟩ (c_X11_refuse l dC dI H.size g0 pq cp v fa (-1) (by unfold vp_in; decide)) (cwV 1 hts gX11_read_X11_refuse rfl rfl rfl (by decide +kernel) ⟨(Nat.le_of_ble_eq_true rfl), (Nat.le_of_ble_eq_true rfl)⟩) (pr_V (r := (RX11, TX11, 63)) hP hK hD 0 11 rfl rfl) rfl rfl hl.1 rfl (lv_room (Nat.le_of_ble_eq_true rfl)) dX11_read_11 ⟨(Nat.le_of_ble_eq_true rfl), (Nat.le_of_ble_eq_true rfl)⟩) hS (fun q _ h => hFc q h) hFc (fun r_27 u t H locs ht hvm w_26 hB hz1 hk1 hS => ?_)
    obtain ⟨v_28, fa_29⟩ := u
    obtain ⟨hP1, hK1, hD1⟩ := hB
    rw [ht] at hP1
    have hP : va_P (dC, dI) vwCl (mW g0 pq cp v_28 fa_29) H := hP1
    have hD : va_D A (mW g0 pq cp v_28 fa_29) := hD1.weaken (fun _ _ _ h => hFc _ h)
    clear hP1 hK1 hD1 hk1 hz1 hvm ht hFc
    obtain ⟨rfl, w_26⟩ := w_26
    have hVv_28 : mV v_28 := sm0_V w_26 gV
    have hAv_28 : mA fa_29 := sm0_A w_26 gA
    have hRv_28 : mX [0, 37] v fa v_28 fa_29 := mX.st mX.rf (mX.s0 w_26) (by decide +kernel)
    exact W.iret (v := (-1)) hx hb hr (fun t ht hW => ⟨⟨(-1), (v_28, fa_29), rfl, ⟨hVv_28, hAv_28, hRv_28⟩, ⟨by rw [ht]; exact hP, va_K.moved hW.alike hK, hD⟩⟩, hS.F ht⟩) hS.2.2 dX11_read_14
set_option maxHeartbeats 4000000 in
set_option maxRecDepth 100000 in
theorem c_X11_stands (l : Launch) (dC : Nat → ClassId) (dI : Nat → Nat → Nat) (sz : Nat) (g0 : Nat) (pq : Nat → Nat) (cp : Nat → ClassId) (v : Nat → Int32) (fa : Nat → Nat → Int32) (gV : mV v) (gA : mA fa) (x1 : Int32) (x2 : Int32) (x3 : Int32) : Met l yX11_stands wsX11_stands ({ frames := 26, cells := 0, slots := 0, locals := 611 }) (va_Pc [.ref g0, .int x1, .int x2, .int x3] (pcW (dC, dI) (mT cp) (mW g0 pq cp v fa) sz)) (va_Qi (fun (r : Int32) (u : (Nat → Int32) × (Nat → Nat → Int32)) => mV u.1 ∧ mA u.2 ∧ mX [0, 45, 47, 48, 49, 50, 51, 52, 53, 54, 55, 56, 57, 58, 59, 60] v fa u.1 u.2) (fun u t => va_P (dC, dI) vwCl (mW g0 pq cp u.1 u.2) t.heap ∧ va_K (dC, dI) vwCl (mT cp) t ∧ va_D (va_A (mW g0 pq cp v fa) sz) (mW g0 pq cp u.1 u.2)) (va_A (mW g0 pq cp v fa) sz)) 0 0 (va_A (mW g0 pq cp v fa) sz) := by
  refine Met.ofW (cc := cX11_stands) (maxL := 4) (ret := (some .int)) (by decide +kernel) rfl ?_
  intro p e s m args below meth c s₁ B hml hv
  obtain ⟨rfl, hsz, hP, hK, hD0⟩ := hv
  have hx := B.exec
  have hb := B.bytes
  have hr := B.returns
  have hts := atoms_spec (ws := wsX11_stands) B.pre
  have hown : s.vm.findClass RX11 = some m.cls := findClass_of_methodNamed B.named
  have hlocks := B.notSynchronized
  subst hsz
  have hD := hD0.self (sz := s.heap.size)
  generalize hAe : va_A (mW g0 pq cp v fa) s.heap.size = A at hD ⊢
  have hA : ∀ q : Nat, s.heap.size ≤ q → A q := fun q h => by rw [← hAe]; exact Or.inr h
  have hS : va_S A s.heap s.heap [] := va_S.rf
  have hP : va_P (dC, dI) vwCl (mW g0 pq cp v fa) s.heap := hP
  have hl := lv_entry ([.ref g0, .int x1, .int x2, .int x3]) (n := 4) (Nat.le_of_ble_eq_true rfl)
  rw [lg_entry_eq]
  generalize (lg_sl ([.ref g0, .int x1, .int x2, .int x3]) ++ List.replicate (4 - (lg_sl ([.ref g0, .int x1, .int x2, .int x3])).length) Slot.unset).toArray = ls at hl ⊢
  have hl : lv_has ls 4 [(0, .ref g0), (1, .int x1), (2, .int x2), (3, .int x3)] := hl
  refine lv_aload_n hx hb dX11_stands_0 rfl (lv_at hl 0 rfl) ?_
  refine lv_iload_n hx hb dX11_stands_1 rfl (lv_at hl 1 rfl) ?_
  refine lv_iload_n hx hb dX11_stands_2 rfl (lv_at hl 2 rfl) ?_
  have hFc : ∀ q, va_A [] s.heap.size q → A q := pu_free hS hA
  refine va_calli (va_runV (As := [.int x1, .int x2]) (rest := []) ⟨hx, hb, hml, hown, hts⟩ (c_X11_isFine_b l dC dI s.heap.size g0 pq cp v fa gV gA x1 x2) (cwV 2 hts gX11_stands_X11_isFine rfl rfl rfl (by decide +kernel) ⟨(Nat.le_of_ble_eq_true rfl), (Nat.le_of_ble_eq_true rfl)⟩) (pr_V (r := (RX11, TX11, 63)) hP hK hD 0 11 rfl rfl) rfl rfl hl.1 rfl (lv_room (Nat.le_of_ble_eq_true rfl)) dX11_stands_3 ⟨(Nat.le_of_ble_eq_true rfl), (Nat.le_of_ble_eq_true rfl)⟩) hS (fun q _ h => hFc q h) hFc (fun r_2 u t H locs ht hvm w_1 hB hz1 hk1 hS => ?_)
  have hP := pu_keep hP hk1
  clear hk1 hz1 hvm hB ht hFc
  obtain ⟨hb_3, hx_4⟩ := w_1
  refine lv_if_ne (tgt := 15) hx hb dX11_stands_6 (by decide +kernel) (fun c_5 => ?_) (fun c_5 => ?_)
  · have dc_5 := c_ne (a := r_2.toInt) (b := 0) rfl (by decide +kernel) c_5
    have hfi := hx_4 (Int32.toInt_inj.mp (by show _ = (1 : Int); omega))
    refine lv_iload_n hx hb dX11_stands_15 rfl (lv_at hl 3 rfl) ?_
    refine lv_if_ge (tgt := 26) hx hb dX11_stands_16 (by decide +kernel) (fun c_6 => ?_) (fun c_6 => ?_)
    · have dc_6 := c_le (a := 0) (b := x3.toInt) (by decide +kernel) rfl c_6
      refine lv_iload_n hx hb dX11_stands_26 rfl (lv_at hl 3 rfl) ?_
      refine lv_aload_n hx hb dX11_stands_27 rfl (lv_at hl 0 rfl) ?_
      refine va_get (D := (dC, dI)) (ci := 11) (v := .int (v 38)) (C := RX11) (T := TX11) (N := 63) hx hb hts in_wsX11_stands_X11 hown hK hP 0 rfl rfl 38 (by decide +kernel) (hts (.fieldLink RX11 171 "ShipOfficeModel" "now" "I") iw_X11_stands_1) (fun _ h9 => h9) rfl dX11_stands_28 ?_
      refine lv_topi (fun x_7 ex_7 => ?_)
      have hx_7 : 0 ≤ x_7.toInt ∧ x_7.toInt ≤ 3000 := iv_of ex_7 (gV 38)
      clear ex_7
      refine lv_icmp_le (tgt := 43) hx hb dX11_stands_31 (by decide +kernel) (fun c_8 => ?_) (fun c_8 => ?_)
      · have dc_8 := c_le (a := x3.toInt) (b := x_7.toInt) rfl rfl c_8
        refine lv_aload_n hx hb dX11_stands_43 rfl (lv_at hl 0 rfl) ?_
        refine lv_iload_n hx hb dX11_stands_44 rfl (lv_at hl 1 rfl) ?_
        refine lv_iload_n hx hb dX11_stands_45 rfl (lv_at hl 2 rfl) ?_
        refine lv_iload_n hx hb dX11_stands_46 rfl (lv_at hl 3 rfl) ?_
        have hFc := va_free (wc := (mW g0 pq cp v fa)) hD hS hA (List.range 48) rfl
        refine va_calli (va_runV (As := [.int x1, .int x2, .int x3]) (rest := []) ⟨hx, hb, hml, hown, hts⟩ (c_X11_standsOf l dC dI H.size g0 pq cp v fa gV gA x1 (by omega) x2 (by omega) x3) (cwV 3 hts gX11_stands_X11_standsOf rfl rfl rfl (by decide +kernel) ⟨(Nat.le_of_ble_eq_true rfl), (Nat.le_of_ble_eq_true rfl)⟩) (pr_V (r := (RX11, TX11, 63)) hP hK hD 0 11 rfl rfl) rfl rfl hl.1 rfl (lv_room (Nat.le_of_ble_eq_true rfl)) dX11_stands_47 ⟨(Nat.le_of_ble_eq_true rfl), (Nat.le_of_ble_eq_true rfl)⟩) hS (fun q _ h => hFc q h) hFc (fun r_10 u t H locs ht hvm w_9 hB hz1 hk1 hS => ?_)
        obtain ⟨v_11, fa_12⟩ := u
        obtain ⟨hP1, hK1, hD1⟩ := hB
        rw [ht] at hP1
        have hP : va_P (dC, dI) vwCl (mW g0 pq cp v_11 fa_12) H := hP1
        have hD : va_D A (mW g0 pq cp v_11 fa_12) := hD1.weaken (fun _ _ _ h => hFc _ h)
        clear hP1 hK1 hD1 hk1 hz1 hvm ht hFc
        obtain ⟨hV_13, hA_14, hR_15⟩ := w_9
        dsimp only at hV_13 hA_14 hR_15 
        have R_16 : mX [0, 45, 47, 48, 49, 50, 51, 52, 53, 54, 55, 56, 57, 58, 59, 60] v fa v_11 fa_12 := mX.st mX.rf (mX.scr hR_15) (by decide +kernel)
        exact W.iret (v := r_10) hx hb hr (fun t ht hW => ⟨⟨r_10, (v_11, fa_12), rfl, ⟨hV_13, hA_14, R_16⟩, ⟨by rw [ht]; exact hP, va_K.moved hW.alike hK, hD⟩⟩, hS.F ht⟩) hS.2.2 dX11_stands_50
      · have dc_8 := c_nle (a := x3.toInt) (b := x_7.toInt) rfl rfl c_8
        refine lv_aload_n hx hb dX11_stands_34 rfl (lv_at hl 0 rfl) ?_
        refine lv_bipush (v := (-6)) hx hb dX11_stands_35 (by decide +kernel) ?_
        have hFc := va_free (wc := (mW g0 pq cp v fa)) hD hS hA (List.range 48) rfl
        refine va_calli (va_runV (As := [.int (-6)]) (rest := []) ⟨hx, hb, hml, hown, hts⟩ (c_X11_refuse l dC dI H.size g0 pq cp v fa (-6) (by unfold vp_in; decide)) (cwV 1 hts gX11_stands_X11_refuse rfl rfl rfl (by decide +kernel) ⟨(Nat.le_of_ble_eq_true rfl), (Nat.le_of_ble_eq_true rfl)⟩) (pr_V (r := (RX11, TX11, 63)) hP hK hD 0 11 rfl rfl) rfl rfl hl.1 rfl (lv_room (Nat.le_of_ble_eq_true rfl)) dX11_stands_37 ⟨(Nat.le_of_ble_eq_true rfl), (Nat.le_of_ble_eq_true rfl)⟩) hS (fun q _ h => hFc q h) hFc (fun r_18 u t H locs ht hvm w_17 hB hz1 hk1 hS => ?_)
        obtain ⟨v_19, fa_20⟩ := u
        obtain ⟨hP1, hK1, hD1⟩ := hB
        rw [ht] at hP1
        have hP : va_P (dC, dI) vwCl (mW g0 pq cp v_19 fa_20) H := hP1
        have hD : va_D A (mW g0 pq cp v_19 fa_20) := hD1.weaken (fun _ _ _ h => hFc _ h)
        clear hP1 hK1 hD1 hk1 hz1 hvm ht hFc
        obtain ⟨rfl, w_17⟩ := w_17
        have hVv_19 : mV v_19 := sm0_V w_17 gV
        have hAv_19 : mA fa_20 := sm0_A w_17 gA
        have hRv_19 : mX [0, 45, 47, 48, 49, 50, 51, 52, 53, 54, 55, 56, 57, 58, 59, 60] v fa v_19 fa_20 := mX.st mX.rf (mX.s0 w_17) (by decide +kernel)
        refine lv_goto (tgt := 50) hx hb dX11_stands_40 (by decide +kernel) ?_
        exact W.iret (v := (-6)) hx hb hr (fun t ht hW => ⟨⟨(-6), (v_19, fa_20), rfl, ⟨hVv_19, hAv_19, hRv_19⟩, ⟨by rw [ht]; exact hP, va_K.moved hW.alike hK, hD⟩⟩, hS.F ht⟩) hS.2.2 dX11_stands_50
    · have dc_6 := c_nle (a := 0) (b := x3.toInt) (by decide +kernel) rfl c_6
      refine lv_aload_n hx hb dX11_stands_19 rfl (lv_at hl 0 rfl) ?_
      refine lv_bipush (v := (-4)) hx hb dX11_stands_20 (by decide +kernel) ?_
      have hFc := va_free (wc := (mW g0 pq cp v fa)) hD hS hA (List.range 48) rfl
      refine va_calli (va_runV (As := [.int (-4)]) (rest := []) ⟨hx, hb, hml, hown, hts⟩ (c_X11_refuse l dC dI H.size g0 pq cp v fa (-4) (by unfold vp_in; decide)) (cwV 1 hts gX11_stands_X11_refuse rfl rfl rfl (by decide +kernel) ⟨(Nat.le_of_ble_eq_true rfl), (Nat.le_of_ble_eq_true rfl)⟩) (pr_V (r := (RX11, TX11, 63)) hP hK hD 0 11 rfl rfl) rfl rfl hl.1 rfl (lv_room (Nat.le_of_ble_eq_true rfl)) dX11_stands_22 ⟨(Nat.le_of_ble_eq_true rfl), (Nat.le_of_ble_eq_true rfl)⟩) hS (fun q _ h => hFc q h) hFc (fun r_22 u t H locs ht hvm w_21 hB hz1 hk1 hS => ?_)
      obtain ⟨v_23, fa_24⟩ := u
      obtain ⟨hP1, hK1, hD1⟩ := hB
      rw [ht] at hP1
      have hP : va_P (dC, dI) vwCl (mW g0 pq cp v_23 fa_24) H := hP1
      have hD : va_D A (mW g0 pq cp v_23 fa_24) := hD1.weaken (fun _ _ _ h => hFc _ h)
      clear hP1 hK1 hD1 hk1 hz1 hvm ht hFc
      obtain ⟨rfl, w_21⟩ := w_21
      have hVv_23 : mV v_23 := sm0_V w_21 gV
      have hAv_23 : mA fa_24 := sm0_A w_21 gA
      have hRv_23 : mX [0, 45, 47, 48, 49, 50, 51, 52, 53, 54, 55, 56, 57, 58, 59, 60] v fa v_23 fa_24 := mX.st mX.rf (mX.s0 w_21) (by decide +kernel)
      exact W.iret (v := (-4)) hx hb hr (fun t ht hW => ⟨⟨(-4), (v_23, fa_24), rfl, ⟨hVv_23, hAv_23, hRv_23⟩, ⟨by rw [ht]; exact hP, va_K.moved hW.alike hK, hD⟩⟩, hS.F ht⟩) hS.2.2 dX11_stands_25
  · have dc_5 := c_eq (a := r_2.toInt) (b := 0) rfl (by decide +kernel) c_5
    refine lv_aload_n hx hb dX11_stands_9 rfl (lv_at hl 0 rfl) ?_
    refine lv_iconst (v := (-1)) hx hb dX11_stands_10 (by decide +kernel) ?_
    have hFc := va_free (wc := (mW g0 pq cp v fa)) hD hS hA (List.range 48) rfl
    refine va_calli (va_runV (As := [.int (-1)]) (rest := []) ⟨hx, hb, hml, hown, hts⟩ (c_X11_refuse l dC dI H.size g0 pq cp v fa (-1) (by unfold vp_in; decide)) (cwV 1 hts gX11_stands_X11_refuse rfl rfl rfl (by decide +kernel) ⟨(Nat.le_of_ble_eq_true rfl), (Nat.le_of_ble_eq_true rfl)⟩) (pr_V (r := (RX11, TX11, 63)) hP hK hD 0 11 rfl rfl) rfl rfl hl.1 rfl (lv_room (Nat.le_of_ble_eq_true rfl)) dX11_stands_11 ⟨(Nat.le_of_ble_eq_true rfl), (Nat.le_of_ble_eq_true rfl)⟩) hS (fun q _ h => hFc q h) hFc (fun r_26 u t H locs ht hvm w_25 hB hz1 hk1 hS => ?_)
    obtain ⟨v_27, fa_28⟩ := u
    obtain ⟨hP1, hK1, hD1⟩ := hB
    rw [ht] at hP1
    have hP : va_P (dC, dI) vwCl (mW g0 pq cp v_27 fa_28) H := hP1
    have hD : va_D A (mW g0 pq cp v_27 fa_28) := hD1.weaken (fun _ _ _ h => hFc _ h)
    clear hP1 hK1 hD1 hk1 hz1 hvm ht hFc
    obtain ⟨rfl, w_25⟩ := w_25
    have hVv_27 : mV v_27 := sm0_V w_25 gV
    have hAv_27 : mA fa_28 := sm0_A w_25 gA
    have hRv_27 : mX [0, 45, 47, 48, 49, 50, 51, 52, 53, 54, 55, 56, 57, 58, 59, 60] v fa v_27 fa_28 := mX.st mX.rf (mX.s0 w_25) (by decide +kernel)
    exact W.iret (v := (-1)) hx hb hr (fun t ht hW => ⟨⟨(-1), (v_27, fa_28), rfl, ⟨hVv_27, hAv_27, hRv_27⟩, ⟨by rw [ht]; exact hP, va_K.moved hW.alike hK, hD⟩⟩, hS.F ht⟩) hS.2.2 dX11_stands_14
set_option maxHeartbeats 4000000 in
set_option maxRecDepth 100000 in
theorem c_X11_fine (l : Launch) (dC : Nat → ClassId) (dI : Nat → Nat → Nat) (sz : Nat) (g0 : Nat) (pq : Nat → Nat) (cp : Nat → ClassId) (v : Nat → Int32) (fa : Nat → Nat → Int32) (gV : mV v) (gA : mA fa) (x1 : Int32) (x2 : Int32) (x3 : Int32) (x4 : Int32) : Met l yX11_fine wsX11_fine ({ frames := 2, cells := 0, slots := 0, locals := 42 }) (va_Pc [.ref g0, .int x1, .int x2, .int x3, .int x4] (pcW (dC, dI) (mT cp) (mW g0 pq cp v fa) sz)) (va_Qi (fun (r : Int32) (u : (Nat → Int32) × (Nat → Nat → Int32)) => mV u.1 ∧ mA u.2 ∧ mX [0, 30, 33, 34, 37] v fa u.1 u.2) (fun u t => va_P (dC, dI) vwCl (mW g0 pq cp u.1 u.2) t.heap ∧ va_K (dC, dI) vwCl (mT cp) t ∧ va_D (va_A (mW g0 pq cp v fa) sz) (mW g0 pq cp u.1 u.2)) (va_A (mW g0 pq cp v fa) sz)) 0 0 (va_A (mW g0 pq cp v fa) sz) := by
  refine Met.ofW (cc := cX11_fine) (maxL := 6) (ret := (some .int)) (by decide +kernel) rfl ?_
  intro p e s m args below meth c s₁ B hml hv
  obtain ⟨rfl, hsz, hP, hK, hD0⟩ := hv
  have hx := B.exec
  have hb := B.bytes
  have hr := B.returns
  have hts := atoms_spec (ws := wsX11_fine) B.pre
  have hown : s.vm.findClass RX11 = some m.cls := findClass_of_methodNamed B.named
  have hlocks := B.notSynchronized
  subst hsz
  have hD := hD0.self (sz := s.heap.size)
  generalize hAe : va_A (mW g0 pq cp v fa) s.heap.size = A at hD ⊢
  have hA : ∀ q : Nat, s.heap.size ≤ q → A q := fun q h => by rw [← hAe]; exact Or.inr h
  have hS : va_S A s.heap s.heap [] := va_S.rf
  have hP : va_P (dC, dI) vwCl (mW g0 pq cp v fa) s.heap := hP
  have hl := lv_entry ([.ref g0, .int x1, .int x2, .int x3, .int x4]) (n := 6) (Nat.le_of_ble_eq_true rfl)
  rw [lg_entry_eq]
  generalize (lg_sl ([.ref g0, .int x1, .int x2, .int x3, .int x4]) ++ List.replicate (6 - (lg_sl ([.ref g0, .int x1, .int x2, .int x3, .int x4])).length) Slot.unset).toArray = ls at hl ⊢
  have hl : lv_has ls 6 [(0, .ref g0), (1, .int x1), (2, .int x2), (3, .int x3), (4, .int x4)] := hl
  refine lv_aload_n hx hb dX11_fine_0 rfl (lv_at hl 0 rfl) ?_
  refine lv_iload_n hx hb dX11_fine_1 rfl (lv_at hl 1 rfl) ?_
  have hFc : ∀ q, va_A [] s.heap.size q → A q := pu_free hS hA
  refine va_calli (va_runV (As := [.int x1]) (rest := []) ⟨hx, hb, hml, hown, hts⟩ (c_X11_isAgreement l dC dI s.heap.size g0 pq cp v fa x1) (cwV 1 hts gX11_fine_X11_isAgreement rfl rfl rfl (by decide +kernel) ⟨(Nat.le_of_ble_eq_true rfl), (Nat.le_of_ble_eq_true rfl)⟩) (pr_V (r := (RX11, TX11, 63)) hP hK hD 0 11 rfl rfl) rfl rfl hl.1 rfl (lv_room (Nat.le_of_ble_eq_true rfl)) dX11_fine_2 ⟨(Nat.le_of_ble_eq_true rfl), (Nat.le_of_ble_eq_true rfl)⟩) hS (fun q _ h => hFc q h) hFc (fun r_2 u t H locs ht hvm w_1 hB hz1 hk1 hS => ?_)
  have hP := pu_keep hP hk1
  clear hk1 hz1 hvm hB ht hFc
  have hbr_2 : 0 ≤ r_2.toInt ∧ r_2.toInt ≤ 1 := iv_of w_1 (isI_i _ _)
  refine lv_if_ne (tgt := 14) hx hb dX11_fine_5 (by decide +kernel) (fun c_3 => ?_) (fun c_3 => ?_)
  · have dc_3 := c_ne (a := r_2.toInt) (b := 0) rfl (by decide +kernel) c_3
    have hi_4 := isI_t w_1 (fun q => c_3 (Int32.toInt_inj.mp q))
    have khi_4 : (v 43).toInt ≤ 60 := (gV 43).2
    refine lv_aload_n hx hb dX11_fine_14 rfl (lv_at hl 0 rfl) ?_
    refine va_get (D := (dC, dI)) (ci := 11) (v := .ref (pq 26)) (C := RX11) (T := TX11) (N := 63) hx hb hts in_wsX11_fine_X11 hown hK hP 0 rfl rfl 26 (by decide +kernel) (hts (.fieldLink RX11 88 "ShipOfficeModel" "offOn" "[I") iw_X11_fine_1) (fun _ h9 => h9) rfl dX11_fine_15 ?_
    refine lv_iload_n hx hb dX11_fine_18 rfl (lv_at hl 1 rfl) ?_
    refine va_iald hx hb hK hP 27 26 rfl rfl (vp_in_iff.mpr (by omega)) dX11_fine_19 ?_
    refine lv_topi (fun x_5 ex_5 => ?_)
    clear ex_5
    refine lv_if_lt (tgt := 30) hx hb dX11_fine_20 (by decide +kernel) (fun c_6 => ?_) (fun c_6 => ?_)
    · have dc_6 := c_lt (a := x_5.toInt) (b := 0) rfl (by decide +kernel) c_6
      refine lv_iload_n hx hb dX11_fine_30 rfl (lv_at hl 2 rfl) ?_
      refine lv_aload_n hx hb dX11_fine_31 rfl (lv_at hl 0 rfl) ?_
      refine va_get (D := (dC, dI)) (ci := 11) (v := .ref (pq 25)) (C := RX11) (T := TX11) (N := 63) hx hb hts in_wsX11_fine_X11 hown hK hP 0 rfl rfl 25 (by decide +kernel) (hts (.fieldLink RX11 85 "ShipOfficeModel" "signed" "[I") iw_X11_fine_2) (fun _ h9 => h9) rfl dX11_fine_32 ?_
      refine lv_iload_n hx hb dX11_fine_35 rfl (lv_at hl 1 rfl) ?_
      refine va_iald hx hb hK hP 26 25 rfl rfl (vp_in_iff.mpr (by omega)) dX11_fine_36 ?_
      refine lv_topi (fun x_7 ex_7 => ?_)
      have hx_7 : 0 ≤ x_7.toInt ∧ x_7.toInt ≤ 3000 := iv_of ex_7 (gA 25 _)
      clear ex_7
      refine lv_icmp_lt (tgt := 45) hx hb dX11_fine_37 (by decide +kernel) (fun c_8 => ?_) (fun c_8 => ?_)
      · have dc_8 := c_lt (a := x2.toInt) (b := x_7.toInt) rfl rfl c_8
        refine lv_aload_n hx hb dX11_fine_45 rfl (lv_at hl 0 rfl) ?_
        refine lv_bipush (v := (-4)) hx hb dX11_fine_46 (by decide +kernel) ?_
        have hFc := va_free (wc := (mW g0 pq cp v fa)) hD hS hA (List.range 48) rfl
        refine va_calli (va_runV (As := [.int (-4)]) (rest := []) ⟨hx, hb, hml, hown, hts⟩ (c_X11_refuse l dC dI H.size g0 pq cp v fa (-4) (by unfold vp_in; decide)) (cwV 1 hts gX11_fine_X11_refuse rfl rfl rfl (by decide +kernel) ⟨(Nat.le_of_ble_eq_true rfl), (Nat.le_of_ble_eq_true rfl)⟩) (pr_V (r := (RX11, TX11, 63)) hP hK hD 0 11 rfl rfl) rfl rfl hl.1 rfl (lv_room (Nat.le_of_ble_eq_true rfl)) dX11_fine_48 ⟨(Nat.le_of_ble_eq_true rfl), (Nat.le_of_ble_eq_true rfl)⟩) hS (fun q _ h => hFc q h) hFc (fun r_10 u t H locs ht hvm w_9 hB hz1 hk1 hS => ?_)
        obtain ⟨v_11, fa_12⟩ := u
        obtain ⟨hP1, hK1, hD1⟩ := hB
        rw [ht] at hP1
        have hP : va_P (dC, dI) vwCl (mW g0 pq cp v_11 fa_12) H := hP1
        have hD : va_D A (mW g0 pq cp v_11 fa_12) := hD1.weaken (fun _ _ _ h => hFc _ h)
        clear hP1 hK1 hD1 hk1 hz1 hvm ht hFc
        obtain ⟨rfl, w_9⟩ := w_9
        have hVv_11 : mV v_11 := sm0_V w_9 gV
        have hAv_11 : mA fa_12 := sm0_A w_9 gA
        have hRv_11 : mX [0, 30, 33, 34, 37] v fa v_11 fa_12 := mX.st mX.rf (mX.s0 w_9) (by decide +kernel)
        exact W.iret (v := (-4)) hx hb hr (fun t ht hW => ⟨⟨(-4), (v_11, fa_12), rfl, ⟨hVv_11, hAv_11, hRv_11⟩, ⟨by rw [ht]; exact hP, va_K.moved hW.alike hK, hD⟩⟩, hS.F ht⟩) hS.2.2 dX11_fine_51
      · have dc_8 := c_nlt (a := x2.toInt) (b := x_7.toInt) rfl rfl c_8
        refine lv_iload_n hx hb dX11_fine_40 rfl (lv_at hl 3 rfl) ?_
        refine lv_iconst (v := 1) hx hb dX11_fine_41 (by decide +kernel) ?_
        refine lv_icmp_ge (tgt := 52) hx hb dX11_fine_42 (by decide +kernel) (fun c_13 => ?_) (fun c_13 => ?_)
        · have dc_13 := c_le (a := 1) (b := x3.toInt) (by decide +kernel) rfl c_13
          refine lv_iload_n hx hb dX11_fine_52 rfl (lv_at hl 2 rfl) ?_
          refine lv_aload_n hx hb dX11_fine_53 rfl (lv_at hl 0 rfl) ?_
          refine va_get (D := (dC, dI)) (ci := 11) (v := .int (v 38)) (C := RX11) (T := TX11) (N := 63) hx hb hts in_wsX11_fine_X11 hown hK hP 0 rfl rfl 38 (by decide +kernel) (hts (.fieldLink RX11 171 "ShipOfficeModel" "now" "I") iw_X11_fine_3) (fun _ h9 => h9) rfl dX11_fine_54 ?_
          refine lv_topi (fun x_14 ex_14 => ?_)
          have hx_14 : 0 ≤ x_14.toInt ∧ x_14.toInt ≤ 3000 := iv_of ex_14 (gV 38)
          clear ex_14
          refine lv_icmp_gt (tgt := 78) hx hb dX11_fine_57 (by decide +kernel) (fun c_15 => ?_) (fun c_15 => ?_)
          · have dc_15 := c_lt (a := x_14.toInt) (b := x2.toInt) rfl rfl c_15
            refine lv_aload_n hx hb dX11_fine_78 rfl (lv_at hl 0 rfl) ?_
            refine lv_bipush (v := (-6)) hx hb dX11_fine_79 (by decide +kernel) ?_
            have hFc := va_free (wc := (mW g0 pq cp v fa)) hD hS hA (List.range 48) rfl
            refine va_calli (va_runV (As := [.int (-6)]) (rest := []) ⟨hx, hb, hml, hown, hts⟩ (c_X11_refuse l dC dI H.size g0 pq cp v fa (-6) (by unfold vp_in; decide)) (cwV 1 hts gX11_fine_X11_refuse rfl rfl rfl (by decide +kernel) ⟨(Nat.le_of_ble_eq_true rfl), (Nat.le_of_ble_eq_true rfl)⟩) (pr_V (r := (RX11, TX11, 63)) hP hK hD 0 11 rfl rfl) rfl rfl hl.1 rfl (lv_room (Nat.le_of_ble_eq_true rfl)) dX11_fine_81 ⟨(Nat.le_of_ble_eq_true rfl), (Nat.le_of_ble_eq_true rfl)⟩) hS (fun q _ h => hFc q h) hFc (fun r_17 u t H locs ht hvm w_16 hB hz1 hk1 hS => ?_)
            obtain ⟨v_18, fa_19⟩ := u
            obtain ⟨hP1, hK1, hD1⟩ := hB
            rw [ht] at hP1
            have hP : va_P (dC, dI) vwCl (mW g0 pq cp v_18 fa_19) H := hP1
            have hD : va_D A (mW g0 pq cp v_18 fa_19) := hD1.weaken (fun _ _ _ h => hFc _ h)
            clear hP1 hK1 hD1 hk1 hz1 hvm ht hFc
            obtain ⟨rfl, w_16⟩ := w_16
            have hVv_18 : mV v_18 := sm0_V w_16 gV
            have hAv_18 : mA fa_19 := sm0_A w_16 gA
            have hRv_18 : mX [0, 30, 33, 34, 37] v fa v_18 fa_19 := mX.st mX.rf (mX.s0 w_16) (by decide +kernel)
            exact W.iret (v := (-6)) hx hb hr (fun t ht hW => ⟨⟨(-6), (v_18, fa_19), rfl, ⟨hVv_18, hAv_18, hRv_18⟩, ⟨by rw [ht]; exact hP, va_K.moved hW.alike hK, hD⟩⟩, hS.F ht⟩) hS.2.2 dX11_fine_84
          · have dc_15 := c_nlt (a := x_14.toInt) (b := x2.toInt) rfl rfl c_15
            refine lv_iload_n hx hb dX11_fine_60 rfl (lv_at hl 3 rfl) ?_
            refine lv_sipush (v := 9999) hx hb dX11_fine_61 (by decide +kernel) ?_
            refine lv_icmp_gt (tgt := 78) hx hb dX11_fine_64 (by decide +kernel) (fun c_20 => ?_) (fun c_20 => ?_)
            · have dc_20 := c_lt (a := 9999) (b := x3.toInt) (by decide +kernel) rfl c_20
              refine lv_aload_n hx hb dX11_fine_78 rfl (lv_at hl 0 rfl) ?_
              refine lv_bipush (v := (-6)) hx hb dX11_fine_79 (by decide +kernel) ?_
              have hFc := va_free (wc := (mW g0 pq cp v fa)) hD hS hA (List.range 48) rfl
              refine va_calli (va_runV (As := [.int (-6)]) (rest := []) ⟨hx, hb, hml, hown, hts⟩ (c_X11_refuse l dC dI H.size g0 pq cp v fa (-6) (by unfold vp_in; decide)) (cwV 1 hts gX11_fine_X11_refuse rfl rfl rfl (by decide +kernel) ⟨(Nat.le_of_ble_eq_true rfl), (Nat.le_of_ble_eq_true rfl)⟩) (pr_V (r := (RX11, TX11, 63)) hP hK hD 0 11 rfl rfl) rfl rfl hl.1 rfl (lv_room (Nat.le_of_ble_eq_true rfl)) dX11_fine_81 ⟨(Nat.le_of_ble_eq_true rfl), (Nat.le_of_ble_eq_true rfl)⟩) hS (fun q _ h => hFc q h) hFc (fun r_22 u t H locs ht hvm w_21 hB hz1 hk1 hS => ?_)
              obtain ⟨v_23, fa_24⟩ := u
              obtain ⟨hP1, hK1, hD1⟩ := hB
              rw [ht] at hP1
              have hP : va_P (dC, dI) vwCl (mW g0 pq cp v_23 fa_24) H := hP1
              have hD : va_D A (mW g0 pq cp v_23 fa_24) := hD1.weaken (fun _ _ _ h => hFc _ h)
              clear hP1 hK1 hD1 hk1 hz1 hvm ht hFc
              obtain ⟨rfl, w_21⟩ := w_21
              have hVv_23 : mV v_23 := sm0_V w_21 gV
              have hAv_23 : mA fa_24 := sm0_A w_21 gA
              have hRv_23 : mX [0, 30, 33, 34, 37] v fa v_23 fa_24 := mX.st mX.rf (mX.s0 w_21) (by decide +kernel)
              exact W.iret (v := (-6)) hx hb hr (fun t ht hW => ⟨⟨(-6), (v_23, fa_24), rfl, ⟨hVv_23, hAv_23, hRv_23⟩, ⟨by rw [ht]; exact hP, va_K.moved hW.alike hK, hD⟩⟩, hS.F ht⟩) hS.2.2 dX11_fine_84
            · have dc_20 := c_nlt (a := 9999) (b := x3.toInt) (by decide +kernel) rfl c_20
              refine lv_aload_n hx hb dX11_fine_67 rfl (lv_at hl 0 rfl) ?_
              refine va_get (D := (dC, dI)) (ci := 11) (v := .ref (pq 30)) (C := RX11) (T := TX11) (N := 63) hx hb hts in_wsX11_fine_X11 hown hK hP 0 rfl rfl 30 (by decide +kernel) (hts (.fieldLink RX11 100 "ShipOfficeModel" "fines" "[I") iw_X11_fine_4) (fun _ h9 => h9) rfl dX11_fine_68 ?_
              refine lv_iload_n hx hb dX11_fine_71 rfl (lv_at hl 1 rfl) ?_
              refine va_iald hx hb hK hP 31 30 rfl rfl (vp_in_iff.mpr (by omega)) dX11_fine_72 ?_
              refine lv_topi (fun x_25 ex_25 => ?_)
              have hx_25 : 0 ≤ x_25.toInt ∧ x_25.toInt ≤ 6 := iv_of ex_25 (gA 30 _)
              have gx_25 : x_25.toInt = (fa 30 (x1 : Int32).toNatClampNeg).toInt := iv_to ex_25
              clear ex_25
              refine lv_bipush (v := 6) hx hb dX11_fine_73 (by decide +kernel) ?_
              refine lv_icmp_ne (tgt := 85) hx hb dX11_fine_75 (by decide +kernel) (fun c_26 => ?_) (fun c_26 => ?_)
              · have dc_26 := c_ne (a := x_25.toInt) (b := 6) rfl (by decide +kernel) c_26
                refine lv_bipush (v := 6) hx hb dX11_fine_85 (by decide +kernel) ?_
                refine lv_iload_n hx hb dX11_fine_87 rfl (lv_at hl 1 rfl) ?_
                refine lv_imul hx hb dX11_fine_88 ?_
                refine lv_topi (fun x_27 ex_27 => ?_)
                have hx_27 : x_27.toInt = 6 * x1.toInt := (iv_to ex_27).trans (mu_i (by decide +kernel) rfl (by omega) (by omega))
                clear ex_27
                refine lv_aload_n hx hb dX11_fine_89 rfl (lv_at hl 0 rfl) ?_
                refine va_get (D := (dC, dI)) (ci := 11) (v := .ref (pq 30)) (C := RX11) (T := TX11) (N := 63) hx hb hts in_wsX11_fine_X11 hown hK hP 0 rfl rfl 30 (by decide +kernel) (hts (.fieldLink RX11 100 "ShipOfficeModel" "fines" "[I") iw_X11_fine_4) (fun _ h9 => h9) rfl dX11_fine_90 ?_
                refine lv_iload_n hx hb dX11_fine_93 rfl (lv_at hl 1 rfl) ?_
                refine va_iald hx hb hK hP 31 30 rfl rfl (vp_in_iff.mpr (by omega)) dX11_fine_94 ?_
                refine lv_topi (fun x_28 ex_28 => ?_)
                have hx_28 : 0 ≤ x_28.toInt ∧ x_28.toInt ≤ 6 := iv_of ex_28 (gA 30 _)
                have gx_28 : x_28.toInt = (fa 30 (x1 : Int32).toNatClampNeg).toInt := iv_to ex_28
                clear ex_28
                refine lv_iadd hx hb dX11_fine_95 ?_
                refine lv_topi (fun x_29 ex_29 => ?_)
                have hx_29 : x_29.toInt = x_27.toInt + x_28.toInt := (iv_to ex_29).trans (ad_i rfl rfl (by omega) (by omega))
                clear ex_29
                refine lv_istore (lv' := [(5, .int x_29), (0, .ref g0), (1, .int x1), (2, .int x2), (3, .int x3), (4, .int x4)]) hx hb dX11_fine_96 hl (by decide +kernel) rfl (fun ls hl => ?_)
                refine lv_aload_n hx hb dX11_fine_98 rfl (lv_at hl 1 rfl) ?_
                refine va_get (D := (dC, dI)) (ci := 11) (v := .ref (pq 33)) (C := RX11) (T := TX11) (N := 63) hx hb hts in_wsX11_fine_X11 hown hK hP 0 rfl rfl 33 (by decide +kernel) (hts (.fieldLink RX11 109 "ShipOfficeModel" "fineDay" "[I") iw_X11_fine_5) (fun _ h9 => h9) rfl dX11_fine_99 ?_
                refine lv_iload hx hb dX11_fine_102 (lv_at hl 0 rfl) ?_
                refine lv_iload_n hx hb dX11_fine_104 rfl (lv_at hl 3 rfl) ?_
                refine va_iast hx hb hK hP hD hS 34 33 rfl rfl (vp_in_iff.mpr (by omega)) dX11_fine_105 (fun H locs hP hD hS => ?_)
                have hP : va_P (dC, dI) vwCl (mW g0 pq cp v (upF fa 33 (x_29 : Int32).toNatClampNeg x2)) H := hP
                have hD : va_D A (mW g0 pq cp v (upF fa 33 (x_29 : Int32).toNatClampNeg x2)) := hD
                obtain ⟨fz_30, efz_30⟩ : ∃ zq, zq = (upF fa 33 (x_29 : Int32).toNatClampNeg x2) := ⟨_, rfl⟩
                rw [← efz_30] at hP hD
                have hAfz_30 : mA fz_30 := by rw [efz_30]; exact mA_upF (lo := 0) (hi := 3000) gA rfl rfl (by omega)
                have hRfz_30 : mX [0, 30, 33, 34, 37] v fa v fz_30 := by rw [efz_30]; exact mX.uF mX.rf (by decide +kernel)
                have g_31 : (fz_30 30 (x1 : Int32).toNatClampNeg).toInt = (fa 30 (x1 : Int32).toNatClampNeg).toInt := by rw [efz_30]; exact uF_ne (by decide +kernel)
                refine lv_aload_n hx hb dX11_fine_106 rfl (lv_at hl 1 rfl) ?_
                refine va_get (D := (dC, dI)) (ci := 11) (v := .ref (pq 34)) (C := RX11) (T := TX11) (N := 63) hx hb hts in_wsX11_fine_X11 hown hK hP 0 rfl rfl 34 (by decide +kernel) (hts (.fieldLink RX11 112 "ShipOfficeModel" "fineSum" "[I") iw_X11_fine_6) (fun _ h9 => h9) rfl dX11_fine_107 ?_
                refine lv_iload hx hb dX11_fine_110 (lv_at hl 0 rfl) ?_
                refine lv_iload_n hx hb dX11_fine_112 rfl (lv_at hl 4 rfl) ?_
                refine va_iast hx hb hK hP hD hS 35 34 rfl rfl (vp_in_iff.mpr (by omega)) dX11_fine_113 (fun H locs hP hD hS => ?_)
                have hP : va_P (dC, dI) vwCl (mW g0 pq cp v (upF fz_30 34 (x_29 : Int32).toNatClampNeg x3)) H := hP
                have hD : va_D A (mW g0 pq cp v (upF fz_30 34 (x_29 : Int32).toNatClampNeg x3)) := hD
                obtain ⟨fz_32, efz_32⟩ : ∃ zq, zq = (upF fz_30 34 (x_29 : Int32).toNatClampNeg x3) := ⟨_, rfl⟩
                rw [← efz_32] at hP hD
                have hAfz_32 : mA fz_32 := by rw [efz_32]; exact mA_upF (lo := -2147483648) (hi := 2147483647) hAfz_30 rfl rfl (iv_all _)
                have hRfz_32 : mX [0, 30, 33, 34, 37] v fa v fz_32 := by rw [efz_32]; exact mX.uF hRfz_30 (by decide +kernel)
                have g_33 : (fz_32 30 (x1 : Int32).toNatClampNeg).toInt = (fz_30 30 (x1 : Int32).toNatClampNeg).toInt := by rw [efz_32]; exact uF_ne (by decide +kernel)
                refine lv_aload_n hx hb dX11_fine_114 rfl (lv_at hl 1 rfl) ?_
                refine va_get (D := (dC, dI)) (ci := 11) (v := .ref (pq 37)) (C := RX11) (T := TX11) (N := 63) hx hb hts in_wsX11_fine_X11 hown hK hP 0 rfl rfl 37 (by decide +kernel) (hts (.fieldLink RX11 121 "ShipOfficeModel" "isRead" "[Z") iw_X11_fine_7) (fun _ h9 => h9) rfl dX11_fine_115 ?_
                refine lv_iload hx hb dX11_fine_118 (lv_at hl 0 rfl) ?_
                refine lv_iload hx hb dX11_fine_120 (lv_at hl 5 rfl) ?_
                refine va_zast hx hb hK hP hD hS 38 37 rfl rfl (vp_in_iff.mpr (by omega)) dX11_fine_122 (fun H locs hP hD hS => ?_)
                have hP : va_P (dC, dI) vwCl (mW g0 pq cp v (upF fz_32 37 (x_29 : Int32).toNatClampNeg (vp_nar .boolean x4))) H := hP
                have hD : va_D A (mW g0 pq cp v (upF fz_32 37 (x_29 : Int32).toNatClampNeg (vp_nar .boolean x4))) := hD
                obtain ⟨fz_34, efz_34⟩ : ∃ zq, zq = (upF fz_32 37 (x_29 : Int32).toNatClampNeg (vp_nar .boolean x4)) := ⟨_, rfl⟩
                rw [← efz_34] at hP hD
                have hAfz_34 : mA fz_34 := by rw [efz_34]; exact mA_upF (lo := -2147483648) (hi := 2147483647) hAfz_32 rfl rfl (iv_all _)
                have hRfz_34 : mX [0, 30, 33, 34, 37] v fa v fz_34 := by rw [efz_34]; exact mX.uF hRfz_32 (by decide +kernel)
                have g_35 : (fz_34 30 (x1 : Int32).toNatClampNeg).toInt = (fz_32 30 (x1 : Int32).toNatClampNeg).toInt := by rw [efz_34]; exact uF_ne (by decide +kernel)
                refine lv_aload_n hx hb dX11_fine_123 rfl (lv_at hl 1 rfl) ?_
                refine va_get (D := (dC, dI)) (ci := 11) (v := .ref (pq 30)) (C := RX11) (T := TX11) (N := 63) hx hb hts in_wsX11_fine_X11 hown hK hP 0 rfl rfl 30 (by decide +kernel) (hts (.fieldLink RX11 100 "ShipOfficeModel" "fines" "[I") iw_X11_fine_4) (fun _ h9 => h9) rfl dX11_fine_124 ?_
                refine lv_iload_n hx hb dX11_fine_127 rfl (lv_at hl 2 rfl) ?_
                refine lv_dup2_11 hx hb dX11_fine_128 rfl rfl ?_
                refine va_iald hx hb hK hP 31 30 rfl rfl (vp_in_iff.mpr (by omega)) dX11_fine_129 ?_
                refine lv_topi (fun x_36 ex_36 => ?_)
                have hx_36 : 0 ≤ x_36.toInt ∧ x_36.toInt ≤ 6 := iv_of ex_36 (hAfz_34 30 _)
                have gx_36 : x_36.toInt = (fz_34 30 (x1 : Int32).toNatClampNeg).toInt := iv_to ex_36
                clear ex_36
                refine lv_iconst (v := 1) hx hb dX11_fine_130 (by decide +kernel) ?_
                refine lv_iadd hx hb dX11_fine_131 ?_
                refine lv_topi (fun x_37 ex_37 => ?_)
                have hx_37 : x_37.toInt = x_36.toInt + 1 := (iv_to ex_37).trans (ad_i rfl (by decide +kernel) (by omega) (by omega))
                clear ex_37
                refine va_iast hx hb hK hP hD hS 31 30 rfl rfl (vp_in_iff.mpr (by omega)) dX11_fine_132 (fun H locs hP hD hS => ?_)
                have hP : va_P (dC, dI) vwCl (mW g0 pq cp v (upF fz_34 30 (x1 : Int32).toNatClampNeg x_37)) H := hP
                have hD : va_D A (mW g0 pq cp v (upF fz_34 30 (x1 : Int32).toNatClampNeg x_37)) := hD
                obtain ⟨fz_38, efz_38⟩ : ∃ zq, zq = (upF fz_34 30 (x1 : Int32).toNatClampNeg x_37) := ⟨_, rfl⟩
                rw [← efz_38] at hP hD
                have hAfz_38 : mA fz_38 := by rw [efz_38]; exact mA_upF (lo := 0) (hi := 6) hAfz_34 rfl rfl (by omega)
                have hRfz_38 : mX [0, 30, 33, 34, 37] v fa v fz_38 := by rw [efz_38]; exact mX.uF hRfz_34 (by decide +kernel)
                refine lv_aload_n hx hb dX11_fine_133 rfl (lv_at hl 1 rfl) ?_
                refine va_get (D := (dC, dI)) (ci := 11) (v := .ref (pq 30)) (C := RX11) (T := TX11) (N := 63) hx hb hts in_wsX11_fine_X11 hown hK hP 0 rfl rfl 30 (by decide +kernel) (hts (.fieldLink RX11 100 "ShipOfficeModel" "fines" "[I") iw_X11_fine_4) (fun _ h9 => h9) rfl dX11_fine_134 ?_
                refine lv_iload_n hx hb dX11_fine_137 rfl (lv_at hl 2 rfl) ?_
                refine va_iald hx hb hK hP 31 30 rfl rfl (vp_in_iff.mpr (by omega)) dX11_fine_138 ?_
                refine lv_topi (fun x_39 ex_39 => ?_)
                have hx_39 : 0 ≤ x_39.toInt ∧ x_39.toInt ≤ 6 := iv_of ex_39 (hAfz_38 30 _)
                have gx_39 : x_39.toInt = (fz_38 30 (x1 : Int32).toNatClampNeg).toInt := iv_to ex_39
                clear ex_39
                exact W.iret (v := x_39) hx hb hr (fun t ht hW => ⟨⟨x_39, (v, fz_38), rfl, ⟨gV, hAfz_38, hRfz_38⟩, ⟨by rw [ht]; exact hP, va_K.moved hW.alike hK, hD⟩⟩, hS.F ht⟩) hS.2.2 dX11_fine_139
              · have dc_26 := c_eq (a := x_25.toInt) (b := 6) rfl (by decide +kernel) c_26
                refine lv_aload_n hx hb dX11_fine_78 rfl (lv_at hl 0 rfl) ?_
                refine lv_bipush (v := (-6)) hx hb dX11_fine_79 (by decide +kernel) ?_
                have hFc := va_free (wc := (mW g0 pq cp v fa)) hD hS hA (List.range 48) rfl
                refine va_calli (va_runV (As := [.int (-6)]) (rest := []) ⟨hx, hb, hml, hown, hts⟩ (c_X11_refuse l dC dI H.size g0 pq cp v fa (-6) (by unfold vp_in; decide)) (cwV 1 hts gX11_fine_X11_refuse rfl rfl rfl (by decide +kernel) ⟨(Nat.le_of_ble_eq_true rfl), (Nat.le_of_ble_eq_true rfl)⟩) (pr_V (r := (RX11, TX11, 63)) hP hK hD 0 11 rfl rfl) rfl rfl hl.1 rfl (lv_room (Nat.le_of_ble_eq_true rfl)) dX11_fine_81 ⟨(Nat.le_of_ble_eq_true rfl), (Nat.le_of_ble_eq_true rfl)⟩) hS (fun q _ h => hFc q h) hFc (fun r_41 u t H locs ht hvm w_40 hB hz1 hk1 hS => ?_)
                obtain ⟨v_42, fa_43⟩ := u
                obtain ⟨hP1, hK1, hD1⟩ := hB
                rw [ht] at hP1
                have hP : va_P (dC, dI) vwCl (mW g0 pq cp v_42 fa_43) H := hP1
                have hD : va_D A (mW g0 pq cp v_42 fa_43) := hD1.weaken (fun _ _ _ h => hFc _ h)
                clear hP1 hK1 hD1 hk1 hz1 hvm ht hFc
                obtain ⟨rfl, w_40⟩ := w_40
                have hVv_42 : mV v_42 := sm0_V w_40 gV
                have hAv_42 : mA fa_43 := sm0_A w_40 gA
                have hRv_42 : mX [0, 30, 33, 34, 37] v fa v_42 fa_43 := mX.st mX.rf (mX.s0 w_40) (by decide +kernel)
                exact W.iret (v := (-6)) hx hb hr (fun t ht hW => ⟨⟨(-6), (v_42, fa_43), rfl, ⟨hVv_42, hAv_42, hRv_42⟩, ⟨by rw [ht]; exact hP, va_K.moved hW.alike hK, hD⟩⟩, hS.F ht⟩) hS.2.2 dX11_fine_84
        · have dc_13 := c_nle (a := 1) (b := x3.toInt) (by decide +kernel) rfl c_13
          refine lv_aload_n hx hb dX11_fine_45 rfl (lv_at hl 0 rfl) ?_
          refine lv_bipush (v := (-4)) hx hb dX11_fine_46 (by decide +kernel) ?_
          have hFc := va_free (wc := (mW g0 pq cp v fa)) hD hS hA (List.range 48) rfl
          refine va_calli (va_runV (As := [.int (-4)]) (rest := []) ⟨hx, hb, hml, hown, hts⟩ (c_X11_refuse l dC dI H.size g0 pq cp v fa (-4) (by unfold vp_in; decide)) (cwV 1 hts gX11_fine_X11_refuse rfl rfl rfl (by decide +kernel) ⟨(Nat.le_of_ble_eq_true rfl), (Nat.le_of_ble_eq_true rfl)⟩) (pr_V (r := (RX11, TX11, 63)) hP hK hD 0 11 rfl rfl) rfl rfl hl.1 rfl (lv_room (Nat.le_of_ble_eq_true rfl)) dX11_fine_48 ⟨(Nat.le_of_ble_eq_true rfl), (Nat.le_of_ble_eq_true rfl)⟩) hS (fun q _ h => hFc q h) hFc (fun r_45 u t H locs ht hvm w_44 hB hz1 hk1 hS => ?_)
          obtain ⟨v_46, fa_47⟩ := u
          obtain ⟨hP1, hK1, hD1⟩ := hB
          rw [ht] at hP1
          have hP : va_P (dC, dI) vwCl (mW g0 pq cp v_46 fa_47) H := hP1
          have hD : va_D A (mW g0 pq cp v_46 fa_47) := hD1.weaken (fun _ _ _ h => hFc _ h)
          clear hP1 hK1 hD1 hk1 hz1 hvm ht hFc
          obtain ⟨rfl, w_44⟩ := w_44
          have hVv_46 : mV v_46 := sm0_V w_44 gV
          have hAv_46 : mA fa_47 := sm0_A w_44 gA
          have hRv_46 : mX [0, 30, 33, 34, 37] v fa v_46 fa_47 := mX.st mX.rf (mX.s0 w_44) (by decide +kernel)
          exact W.iret (v := (-4)) hx hb hr (fun t ht hW => ⟨⟨(-4), (v_46, fa_47), rfl, ⟨hVv_46, hAv_46, hRv_46⟩, ⟨by rw [ht]; exact hP, va_K.moved hW.alike hK, hD⟩⟩, hS.F ht⟩) hS.2.2 dX11_fine_51
    · have dc_6 := c_nlt (a := x_5.toInt) (b := 0) rfl (by decide +kernel) c_6
      refine lv_aload_n hx hb dX11_fine_23 rfl (lv_at hl 0 rfl) ?_
      refine lv_bipush (v := (-3)) hx hb dX11_fine_24 (by decide +kernel) ?_
      have hFc := va_free (wc := (mW g0 pq cp v fa)) hD hS hA (List.range 48) rfl
      refine va_calli (va_runV (As := [.int (-3)]) (rest := []) ⟨hx, hb, hml, hown, hts⟩ (c_X11_refuse l dC dI H.size g0 pq cp v fa (-3) (by unfold vp_in; decide)) (cwV 1 hts gX11_fine_X11_refuse rfl rfl rfl (by decide +kernel) ⟨(Nat.le_of_ble_eq_true rfl), (Nat.le_of_ble_eq_true rfl)⟩) (pr_V (r := (RX11, TX11, 63)) hP hK hD 0 11 rfl rfl) rfl rfl hl.1 rfl (lv_room (Nat.le_of_ble_eq_true rfl)) dX11_fine_26 ⟨(Nat.le_of_ble_eq_true rfl), (Nat.le_of_ble_eq_true rfl)⟩) hS (fun q _ h => hFc q h) hFc (fun r_49 u t H locs ht hvm w_48 hB hz1 hk1 hS => ?_)
      obtain ⟨v_50, fa_51⟩ := u
      obtain ⟨hP1, hK1, hD1⟩ := hB
      rw [ht] at hP1
      have hP : va_P (dC, dI) vwCl (mW g0 pq cp v_50 fa_51) H := hP1
      have hD : va_D A (mW g0 pq cp v_50 fa_51) := hD1.weaken (fun _ _ _ h => hFc _ h)
      clear hP1 hK1 hD1 hk1 hz1 hvm ht hFc
      obtain ⟨rfl, w_48⟩ := w_48
      have hVv_50 : mV v_50 := sm0_V w_48 gV
      have hAv_50 : mA fa_51 := sm0_A w_48 gA
      have hRv_50 : mX [0, 30, 33, 34, 37] v fa v_50 fa_51 := mX.st mX.rf (mX.s0 w_48) (by decide +kernel)
      exact W.iret (v := (-3)) hx hb hr (fun t ht hW => ⟨⟨(-3), (v_50, fa_51), rfl, ⟨hVv_50, hAv_50, hRv_50⟩, ⟨by rw [ht]; exact hP, va_K.moved hW.alike hK, hD⟩⟩, hS.F ht⟩) hS.2.2 dX11_fine_29
  · have dc_3 := c_eq (a := r_2.toInt) (b := 0) rfl (by decide +kernel) c_3
    refine lv_aload_n hx hb dX11_fine_8 rfl (lv_at hl 0 rfl) ?_
    refine lv_iconst (v := (-1)) hx hb dX11_fine_9 (by decide +kernel) ?_
    have hFc := va_free (wc := (mW g0 pq cp v fa)) hD hS hA (List.range 48) rfl
    refine va_calli (va_runV (As := [.int (-1)]) (rest := []) ⟨hx, hb, hml, hown, hts⟩ (c_X11_refuse l dC dI H.size g0 pq cp v fa (-1) (by unfold vp_in; decide)) (cwV 1 hts gX11_fine_X11_refuse rfl rfl rfl (by decide +kernel) ⟨(Nat.le_of_ble_eq_true rfl), (Nat.le_of_ble_eq_true rfl)⟩) (pr_V (r := (RX11, TX11, 63)) hP hK hD 0 11 rfl rfl) rfl rfl hl.1 rfl (lv_room (Nat.le_of_ble_eq_true rfl)) dX11_fine_10 ⟨(Nat.le_of_ble_eq_true rfl), (Nat.le_of_ble_eq_true rfl)⟩) hS (fun q _ h => hFc q h) hFc (fun r_53 u t H locs ht hvm w_52 hB hz1 hk1 hS => ?_)
    obtain ⟨v_54, fa_55⟩ := u
    obtain ⟨hP1, hK1, hD1⟩ := hB
    rw [ht] at hP1
    have hP : va_P (dC, dI) vwCl (mW g0 pq cp v_54 fa_55) H := hP1
    have hD : va_D A (mW g0 pq cp v_54 fa_55) := hD1.weaken (fun _ _ _ h => hFc _ h)
    clear hP1 hK1 hD1 hk1 hz1 hvm ht hFc
    obtain ⟨rfl, w_52⟩ := w_52
    have hVv_54 : mV v_54 := sm0_V w_52 gV
    have hAv_54 : mA fa_55 := sm0_A w_52 gA
    have hRv_54 : mX [0, 30, 33, 34, 37] v fa v_54 fa_55 := mX.st mX.rf (mX.s0 w_52) (by decide +kernel)
    exact W.iret (v := (-1)) hx hb hr (fun t ht hW => ⟨⟨(-1), (v_54, fa_55), rfl, ⟨hVv_54, hAv_54, hRv_54⟩, ⟨by rw [ht]; exact hP, va_K.moved hW.alike hK, hD⟩⟩, hS.F ht⟩) hS.2.2 dX11_fine_13
set_option maxHeartbeats 4000000 in
set_option maxRecDepth 100000 in
theorem c_X11_rations (l : Launch) (dC : Nat → ClassId) (dI : Nat → Nat → Nat) (sz : Nat) (g0 : Nat) (pq : Nat → Nat) (cp : Nat → ClassId) (v : Nat → Int32) (fa : Nat → Nat → Int32) (gV : mV v) (gA : mA fa) (x1 : Int32) (x2 : Int32) (x3 : Int32) : Met l yX11_rations wsX11_rations ({ frames := 2, cells := 0, slots := 0, locals := 42 }) (va_Pc [.ref g0, .int x1, .int x2, .int x3] (pcW (dC, dI) (mT cp) (mW g0 pq cp v fa) sz)) (va_Qi (fun (r : Int32) (u : (Nat → Int32) × (Nat → Nat → Int32)) => mV u.1 ∧ mA u.2 ∧ mX [0, 31, 32, 35, 36] v fa u.1 u.2) (fun u t => va_P (dC, dI) vwCl (mW g0 pq cp u.1 u.2) t.heap ∧ va_K (dC, dI) vwCl (mT cp) t ∧ va_D (va_A (mW g0 pq cp v fa) sz) (mW g0 pq cp u.1 u.2)) (va_A (mW g0 pq cp v fa) sz)) 0 0 (va_A (mW g0 pq cp v fa) sz) := by
  refine Met.ofW (cc := cX11_rations) (maxL := 5) (ret := (some .int)) (by decide +kernel) rfl ?_
  intro p e s m args below meth c s₁ B hml hv
  obtain ⟨rfl, hsz, hP, hK, hD0⟩ := hv
  have hx := B.exec
  have hb := B.bytes
  have hr := B.returns
  have hts := atoms_spec (ws := wsX11_rations) B.pre
  have hown : s.vm.findClass RX11 = some m.cls := findClass_of_methodNamed B.named
  have hlocks := B.notSynchronized
  subst hsz
  have hD := hD0.self (sz := s.heap.size)
  generalize hAe : va_A (mW g0 pq cp v fa) s.heap.size = A at hD ⊢
  have hA : ∀ q : Nat, s.heap.size ≤ q → A q := fun q h => by rw [← hAe]; exact Or.inr h
  have hS : va_S A s.heap s.heap [] := va_S.rf
  have hP : va_P (dC, dI) vwCl (mW g0 pq cp v fa) s.heap := hP
  have hl := lv_entry ([.ref g0, .int x1, .int x2, .int x3]) (n := 5) (Nat.le_of_ble_eq_true rfl)
  rw [lg_entry_eq]
  generalize (lg_sl ([.ref g0, .int x1, .int x2, .int x3]) ++ List.replicate (5 - (lg_sl ([.ref g0, .int x1, .int x2, .int x3])).length) Slot.unset).toArray = ls at hl ⊢
  have hl : lv_has ls 5 [(0, .ref g0), (1, .int x1), (2, .int x2), (3, .int x3)] := hl
  refine lv_aload_n hx hb dX11_rations_0 rfl (lv_at hl 0 rfl) ?_
  refine lv_iload_n hx hb dX11_rations_1 rfl (lv_at hl 1 rfl) ?_
  have hFc : ∀ q, va_A [] s.heap.size q → A q := pu_free hS hA
  refine va_calli (va_runV (As := [.int x1]) (rest := []) ⟨hx, hb, hml, hown, hts⟩ (c_X11_isAgreement l dC dI s.heap.size g0 pq cp v fa x1) (cwV 1 hts gX11_rations_X11_isAgreement rfl rfl rfl (by decide +kernel) ⟨(Nat.le_of_ble_eq_true rfl), (Nat.le_of_ble_eq_true rfl)⟩) (pr_V (r := (RX11, TX11, 63)) hP hK hD 0 11 rfl rfl) rfl rfl hl.1 rfl (lv_room (Nat.le_of_ble_eq_true rfl)) dX11_rations_2 ⟨(Nat.le_of_ble_eq_true rfl), (Nat.le_of_ble_eq_true rfl)⟩) hS (fun q _ h => hFc q h) hFc (fun r_2 u t H locs ht hvm w_1 hB hz1 hk1 hS => ?_)
  have hP := pu_keep hP hk1
  clear hk1 hz1 hvm hB ht hFc
  have hbr_2 : 0 ≤ r_2.toInt ∧ r_2.toInt ≤ 1 := iv_of w_1 (isI_i _ _)
  refine lv_if_ne (tgt := 14) hx hb dX11_rations_5 (by decide +kernel) (fun c_3 => ?_) (fun c_3 => ?_)
  · have dc_3 := c_ne (a := r_2.toInt) (b := 0) rfl (by decide +kernel) c_3
    have hi_4 := isI_t w_1 (fun q => c_3 (Int32.toInt_inj.mp q))
    have khi_4 : (v 43).toInt ≤ 60 := (gV 43).2
    refine lv_iload_n hx hb dX11_rations_14 rfl (lv_at hl 2 rfl) ?_
    refine lv_iconst (v := 1) hx hb dX11_rations_15 (by decide +kernel) ?_
    refine lv_icmp_lt (tgt := 24) hx hb dX11_rations_16 (by decide +kernel) (fun c_5 => ?_) (fun c_5 => ?_)
    · have dc_5 := c_lt (a := x2.toInt) (b := 1) rfl (by decide +kernel) c_5
      refine lv_aload_n hx hb dX11_rations_24 rfl (lv_at hl 0 rfl) ?_
      refine lv_bipush (v := (-4)) hx hb dX11_rations_25 (by decide +kernel) ?_
      have hFc := va_free (wc := (mW g0 pq cp v fa)) hD hS hA (List.range 48) rfl
      refine va_calli (va_runV (As := [.int (-4)]) (rest := []) ⟨hx, hb, hml, hown, hts⟩ (c_X11_refuse l dC dI H.size g0 pq cp v fa (-4) (by unfold vp_in; decide)) (cwV 1 hts gX11_rations_X11_refuse rfl rfl rfl (by decide +kernel) ⟨(Nat.le_of_ble_eq_true rfl), (Nat.le_of_ble_eq_true rfl)⟩) (pr_V (r := (RX11, TX11, 63)) hP hK hD 0 11 rfl rfl) rfl rfl hl.1 rfl (lv_room (Nat.le_of_ble_eq_true rfl)) dX11_rations_27 ⟨(Nat.le_of_ble_eq_true rfl), (Nat.le_of_ble_eq_true rfl)⟩) hS (fun q _ h => hFc q h) hFc (fun r_7 u t H locs ht hvm w_6 hB hz1 hk1 hS => ?_)
      obtain ⟨v_8, fa_9⟩ := u
      obtain ⟨hP1, hK1, hD1⟩ := hB
      rw [ht] at hP1
      have hP : va_P (dC, dI) vwCl (mW g0 pq cp v_8 fa_9) H := hP1
      have hD : va_D A (mW g0 pq cp v_8 fa_9) := hD1.weaken (fun _ _ _ h => hFc _ h)
      clear hP1 hK1 hD1 hk1 hz1 hvm ht hFc
      obtain ⟨rfl, w_6⟩ := w_6
      have hVv_8 : mV v_8 := sm0_V w_6 gV
      have hAv_8 : mA fa_9 := sm0_A w_6 gA
      have hRv_8 : mX [0, 31, 32, 35, 36] v fa v_8 fa_9 := mX.st mX.rf (mX.s0 w_6) (by decide +kernel)
      exact W.iret (v := (-4)) hx hb hr (fun t ht hW => ⟨⟨(-4), (v_8, fa_9), rfl, ⟨hVv_8, hAv_8, hRv_8⟩, ⟨by rw [ht]; exact hP, va_K.moved hW.alike hK, hD⟩⟩, hS.F ht⟩) hS.2.2 dX11_rations_30
    · have dc_5 := c_nlt (a := x2.toInt) (b := 1) rfl (by decide +kernel) c_5
      refine lv_iload_n hx hb dX11_rations_19 rfl (lv_at hl 3 rfl) ?_
      refine lv_iconst (v := 1) hx hb dX11_rations_20 (by decide +kernel) ?_
      refine lv_icmp_ge (tgt := 31) hx hb dX11_rations_21 (by decide +kernel) (fun c_10 => ?_) (fun c_10 => ?_)
      · have dc_10 := c_le (a := 1) (b := x3.toInt) (by decide +kernel) rfl c_10
        refine lv_iload_n hx hb dX11_rations_31 rfl (lv_at hl 2 rfl) ?_
        refine lv_sipush (v := 999) hx hb dX11_rations_32 (by decide +kernel) ?_
        refine lv_aload_n hx hb dX11_rations_35 rfl (lv_at hl 0 rfl) ?_
        refine va_get (D := (dC, dI)) (ci := 11) (v := .ref (pq 32)) (C := RX11) (T := TX11) (N := 63) hx hb hts in_wsX11_rations_X11 hown hK hP 0 rfl rfl 32 (by decide +kernel) (hts (.fieldLink RX11 106 "ShipOfficeModel" "shortDays" "[I") iw_X11_rations_1) (fun _ h9 => h9) rfl dX11_rations_36 ?_
        refine lv_iload_n hx hb dX11_rations_39 rfl (lv_at hl 1 rfl) ?_
        refine va_iald hx hb hK hP 33 32 rfl rfl (vp_in_iff.mpr (by omega)) dX11_rations_40 ?_
        refine lv_topi (fun x_11 ex_11 => ?_)
        clear ex_11
        refine lv_isub hx hb dX11_rations_41 ?_
        refine lv_topi (fun x_12 ex_12 => ?_)
        clear ex_12
        refine lv_icmp_gt (tgt := 62) hx hb dX11_rations_42 (by decide +kernel) (fun c_13 => ?_) (fun c_13 => ?_)
        · have dc_13 := c_lt (a := x_12.toInt) (b := x2.toInt) rfl rfl c_13
          refine lv_aload_n hx hb dX11_rations_62 rfl (lv_at hl 0 rfl) ?_
          refine lv_bipush (v := (-6)) hx hb dX11_rations_63 (by decide +kernel) ?_
          have hFc := va_free (wc := (mW g0 pq cp v fa)) hD hS hA (List.range 48) rfl
          refine va_calli (va_runV (As := [.int (-6)]) (rest := []) ⟨hx, hb, hml, hown, hts⟩ (c_X11_refuse l dC dI H.size g0 pq cp v fa (-6) (by unfold vp_in; decide)) (cwV 1 hts gX11_rations_X11_refuse rfl rfl rfl (by decide +kernel) ⟨(Nat.le_of_ble_eq_true rfl), (Nat.le_of_ble_eq_true rfl)⟩) (pr_V (r := (RX11, TX11, 63)) hP hK hD 0 11 rfl rfl) rfl rfl hl.1 rfl (lv_room (Nat.le_of_ble_eq_true rfl)) dX11_rations_65 ⟨(Nat.le_of_ble_eq_true rfl), (Nat.le_of_ble_eq_true rfl)⟩) hS (fun q _ h => hFc q h) hFc (fun r_15 u t H locs ht hvm w_14 hB hz1 hk1 hS => ?_)
          obtain ⟨v_16, fa_17⟩ := u
          obtain ⟨hP1, hK1, hD1⟩ := hB
          rw [ht] at hP1
          have hP : va_P (dC, dI) vwCl (mW g0 pq cp v_16 fa_17) H := hP1
          have hD : va_D A (mW g0 pq cp v_16 fa_17) := hD1.weaken (fun _ _ _ h => hFc _ h)
          clear hP1 hK1 hD1 hk1 hz1 hvm ht hFc
          obtain ⟨rfl, w_14⟩ := w_14
          have hVv_16 : mV v_16 := sm0_V w_14 gV
          have hAv_16 : mA fa_17 := sm0_A w_14 gA
          have hRv_16 : mX [0, 31, 32, 35, 36] v fa v_16 fa_17 := mX.st mX.rf (mX.s0 w_14) (by decide +kernel)
          exact W.iret (v := (-6)) hx hb hr (fun t ht hW => ⟨⟨(-6), (v_16, fa_17), rfl, ⟨hVv_16, hAv_16, hRv_16⟩, ⟨by rw [ht]; exact hP, va_K.moved hW.alike hK, hD⟩⟩, hS.F ht⟩) hS.2.2 dX11_rations_68
        · have dc_13 := c_nlt (a := x_12.toInt) (b := x2.toInt) rfl rfl c_13
          refine lv_iload_n hx hb dX11_rations_45 rfl (lv_at hl 3 rfl) ?_
          refine lv_bipush (v := 99) hx hb dX11_rations_46 (by decide +kernel) ?_
          refine lv_icmp_gt (tgt := 62) hx hb dX11_rations_48 (by decide +kernel) (fun c_18 => ?_) (fun c_18 => ?_)
          · have dc_18 := c_lt (a := 99) (b := x3.toInt) (by decide +kernel) rfl c_18
            refine lv_aload_n hx hb dX11_rations_62 rfl (lv_at hl 0 rfl) ?_
            refine lv_bipush (v := (-6)) hx hb dX11_rations_63 (by decide +kernel) ?_
            have hFc := va_free (wc := (mW g0 pq cp v fa)) hD hS hA (List.range 48) rfl
            refine va_calli (va_runV (As := [.int (-6)]) (rest := []) ⟨hx, hb, hml, hown, hts⟩ (c_X11_refuse l dC dI H.size g0 pq cp v fa (-6) (by unfold vp_in; decide)) (cwV 1 hts gX11_rations_X11_refuse rfl rfl rfl (by decide +kernel) ⟨(Nat.le_of_ble_eq_true rfl), (Nat.le_of_ble_eq_true rfl)⟩) (pr_V (r := (RX11, TX11, 63)) hP hK hD 0 11 rfl rfl) rfl rfl hl.1 rfl (lv_room (Nat.le_of_ble_eq_true rfl)) dX11_rations_65 ⟨(Nat.le_of_ble_eq_true rfl), (Nat.le_of_ble_eq_true rfl)⟩) hS (fun q _ h => hFc q h) hFc (fun r_20 u t H locs ht hvm w_19 hB hz1 hk1 hS => ?_)
            obtain ⟨v_21, fa_22⟩ := u
            obtain ⟨hP1, hK1, hD1⟩ := hB
            rw [ht] at hP1
            have hP : va_P (dC, dI) vwCl (mW g0 pq cp v_21 fa_22) H := hP1
            have hD : va_D A (mW g0 pq cp v_21 fa_22) := hD1.weaken (fun _ _ _ h => hFc _ h)
            clear hP1 hK1 hD1 hk1 hz1 hvm ht hFc
            obtain ⟨rfl, w_19⟩ := w_19
            have hVv_21 : mV v_21 := sm0_V w_19 gV
            have hAv_21 : mA fa_22 := sm0_A w_19 gA
            have hRv_21 : mX [0, 31, 32, 35, 36] v fa v_21 fa_22 := mX.st mX.rf (mX.s0 w_19) (by decide +kernel)
            exact W.iret (v := (-6)) hx hb hr (fun t ht hW => ⟨⟨(-6), (v_21, fa_22), rfl, ⟨hVv_21, hAv_21, hRv_21⟩, ⟨by rw [ht]; exact hP, va_K.moved hW.alike hK, hD⟩⟩, hS.F ht⟩) hS.2.2 dX11_rations_68
          · have dc_18 := c_nlt (a := 99) (b := x3.toInt) (by decide +kernel) rfl c_18
            refine lv_aload_n hx hb dX11_rations_51 rfl (lv_at hl 0 rfl) ?_
            refine va_get (D := (dC, dI)) (ci := 11) (v := .ref (pq 31)) (C := RX11) (T := TX11) (N := 63) hx hb hts in_wsX11_rations_X11 hown hK hP 0 rfl rfl 31 (by decide +kernel) (hts (.fieldLink RX11 103 "ShipOfficeModel" "shorts" "[I") iw_X11_rations_2) (fun _ h9 => h9) rfl dX11_rations_52 ?_
            refine lv_iload_n hx hb dX11_rations_55 rfl (lv_at hl 1 rfl) ?_
            refine va_iald hx hb hK hP 32 31 rfl rfl (vp_in_iff.mpr (by omega)) dX11_rations_56 ?_
            refine lv_topi (fun x_23 ex_23 => ?_)
            have hx_23 : 0 ≤ x_23.toInt ∧ x_23.toInt ≤ 20 := iv_of ex_23 (gA 31 _)
            have gx_23 : x_23.toInt = (fa 31 (x1 : Int32).toNatClampNeg).toInt := iv_to ex_23
            clear ex_23
            refine lv_bipush (v := 20) hx hb dX11_rations_57 (by decide +kernel) ?_
            refine lv_icmp_ne (tgt := 69) hx hb dX11_rations_59 (by decide +kernel) (fun c_24 => ?_) (fun c_24 => ?_)
            · have dc_24 := c_ne (a := x_23.toInt) (b := 20) rfl (by decide +kernel) c_24
              refine lv_bipush (v := 20) hx hb dX11_rations_69 (by decide +kernel) ?_
              refine lv_iload_n hx hb dX11_rations_71 rfl (lv_at hl 1 rfl) ?_
              refine lv_imul hx hb dX11_rations_72 ?_
              refine lv_topi (fun x_25 ex_25 => ?_)
              have hx_25 : x_25.toInt = 20 * x1.toInt := (iv_to ex_25).trans (mu_i (by decide +kernel) rfl (by omega) (by omega))
              clear ex_25
              refine lv_aload_n hx hb dX11_rations_73 rfl (lv_at hl 0 rfl) ?_
              refine va_get (D := (dC, dI)) (ci := 11) (v := .ref (pq 31)) (C := RX11) (T := TX11) (N := 63) hx hb hts in_wsX11_rations_X11 hown hK hP 0 rfl rfl 31 (by decide +kernel) (hts (.fieldLink RX11 103 "ShipOfficeModel" "shorts" "[I") iw_X11_rations_2) (fun _ h9 => h9) rfl dX11_rations_74 ?_
              refine lv_iload_n hx hb dX11_rations_77 rfl (lv_at hl 1 rfl) ?_
              refine va_iald hx hb hK hP 32 31 rfl rfl (vp_in_iff.mpr (by omega)) dX11_rations_78 ?_
              refine lv_topi (fun x_26 ex_26 => ?_)
              have hx_26 : 0 ≤ x_26.toInt ∧ x_26.toInt ≤ 20 := iv_of ex_26 (gA 31 _)
              have gx_26 : x_26.toInt = (fa 31 (x1 : Int32).toNatClampNeg).toInt := iv_to ex_26
              clear ex_26
              refine lv_iadd hx hb dX11_rations_79 ?_
              refine lv_topi (fun x_27 ex_27 => ?_)
              have hx_27 : x_27.toInt = x_25.toInt + x_26.toInt := (iv_to ex_27).trans (ad_i rfl rfl (by omega) (by omega))
              clear ex_27
              refine lv_istore (lv' := [(4, .int x_27), (0, .ref g0), (1, .int x1), (2, .int x2), (3, .int x3)]) hx hb dX11_rations_80 hl (by decide +kernel) rfl (fun ls hl => ?_)
              refine lv_aload_n hx hb dX11_rations_82 rfl (lv_at hl 1 rfl) ?_
              refine va_get (D := (dC, dI)) (ci := 11) (v := .ref (pq 35)) (C := RX11) (T := TX11) (N := 63) hx hb hts in_wsX11_rations_X11 hown hK hP 0 rfl rfl 35 (by decide +kernel) (hts (.fieldLink RX11 115 "ShipOfficeModel" "shortOn" "[I") iw_X11_rations_3) (fun _ h9 => h9) rfl dX11_rations_83 ?_
              refine lv_iload hx hb dX11_rations_86 (lv_at hl 0 rfl) ?_
              refine lv_aload_n hx hb dX11_rations_88 rfl (lv_at hl 1 rfl) ?_
              refine va_get (D := (dC, dI)) (ci := 11) (v := .int (v 38)) (C := RX11) (T := TX11) (N := 63) hx hb hts in_wsX11_rations_X11 hown hK hP 0 rfl rfl 38 (by decide +kernel) (hts (.fieldLink RX11 171 "ShipOfficeModel" "now" "I") iw_X11_rations_4) (fun _ h9 => h9) rfl dX11_rations_89 ?_
              refine lv_topi (fun x_28 ex_28 => ?_)
              have hx_28 : 0 ≤ x_28.toInt ∧ x_28.toInt ≤ 3000 := iv_of ex_28 (gV 38)
              clear ex_28
              refine va_iast hx hb hK hP hD hS 36 35 rfl rfl (vp_in_iff.mpr (by omega)) dX11_rations_92 (fun H locs hP hD hS => ?_)
              have hP : va_P (dC, dI) vwCl (mW g0 pq cp v (upF fa 35 (x_27 : Int32).toNatClampNeg x_28)) H := hP
              have hD : va_D A (mW g0 pq cp v (upF fa 35 (x_27 : Int32).toNatClampNeg x_28)) := hD
              obtain ⟨fz_29, efz_29⟩ : ∃ zq, zq = (upF fa 35 (x_27 : Int32).toNatClampNeg x_28) := ⟨_, rfl⟩
              rw [← efz_29] at hP hD
              have hAfz_29 : mA fz_29 := by rw [efz_29]; exact mA_upF (lo := -2147483648) (hi := 2147483647) gA rfl rfl (iv_all _)
              have hRfz_29 : mX [0, 31, 32, 35, 36] v fa v fz_29 := by rw [efz_29]; exact mX.uF mX.rf (by decide +kernel)
              have g_30 : (fz_29 31 (x1 : Int32).toNatClampNeg).toInt = (fa 31 (x1 : Int32).toNatClampNeg).toInt := by rw [efz_29]; exact uF_ne (by decide +kernel)
              refine lv_aload_n hx hb dX11_rations_93 rfl (lv_at hl 1 rfl) ?_
              refine va_get (D := (dC, dI)) (ci := 11) (v := .ref (pq 36)) (C := RX11) (T := TX11) (N := 63) hx hb hts in_wsX11_rations_X11 hown hK hP 0 rfl rfl 36 (by decide +kernel) (hts (.fieldLink RX11 118 "ShipOfficeModel" "shortSum" "[I") iw_X11_rations_5) (fun _ h9 => h9) rfl dX11_rations_94 ?_
              refine lv_iload hx hb dX11_rations_97 (lv_at hl 0 rfl) ?_
              refine lv_iload_n hx hb dX11_rations_99 rfl (lv_at hl 3 rfl) ?_
              refine lv_iload_n hx hb dX11_rations_100 rfl (lv_at hl 4 rfl) ?_
              refine lv_imul hx hb dX11_rations_101 ?_
              refine lv_topi (fun x_31 ex_31 => ?_)
              clear ex_31
              refine va_iast hx hb hK hP hD hS 37 36 rfl rfl (vp_in_iff.mpr (by omega)) dX11_rations_102 (fun H locs hP hD hS => ?_)
              have hP : va_P (dC, dI) vwCl (mW g0 pq cp v (upF fz_29 36 (x_27 : Int32).toNatClampNeg x_31)) H := hP
              have hD : va_D A (mW g0 pq cp v (upF fz_29 36 (x_27 : Int32).toNatClampNeg x_31)) := hD
              obtain ⟨fz_32, efz_32⟩ : ∃ zq, zq = (upF fz_29 36 (x_27 : Int32).toNatClampNeg x_31) := ⟨_, rfl⟩
              rw [← efz_32] at hP hD
              have hAfz_32 : mA fz_32 := by rw [efz_32]; exact mA_upF (lo := -2147483648) (hi := 2147483647) hAfz_29 rfl rfl (iv_all _)
              have hRfz_32 : mX [0, 31, 32, 35, 36] v fa v fz_32 := by rw [efz_32]; exact mX.uF hRfz_29 (by decide +kernel)
              have g_33 : (fz_32 31 (x1 : Int32).toNatClampNeg).toInt = (fz_29 31 (x1 : Int32).toNatClampNeg).toInt := by rw [efz_32]; exact uF_ne (by decide +kernel)
              refine lv_aload_n hx hb dX11_rations_103 rfl (lv_at hl 1 rfl) ?_
              refine va_get (D := (dC, dI)) (ci := 11) (v := .ref (pq 31)) (C := RX11) (T := TX11) (N := 63) hx hb hts in_wsX11_rations_X11 hown hK hP 0 rfl rfl 31 (by decide +kernel) (hts (.fieldLink RX11 103 "ShipOfficeModel" "shorts" "[I") iw_X11_rations_2) (fun _ h9 => h9) rfl dX11_rations_104 ?_
              refine lv_iload_n hx hb dX11_rations_107 rfl (lv_at hl 2 rfl) ?_
              refine lv_dup2_11 hx hb dX11_rations_108 rfl rfl ?_
              refine va_iald hx hb hK hP 32 31 rfl rfl (vp_in_iff.mpr (by omega)) dX11_rations_109 ?_
              refine lv_topi (fun x_34 ex_34 => ?_)
              have hx_34 : 0 ≤ x_34.toInt ∧ x_34.toInt ≤ 20 := iv_of ex_34 (hAfz_32 31 _)
              have gx_34 : x_34.toInt = (fz_32 31 (x1 : Int32).toNatClampNeg).toInt := iv_to ex_34
              clear ex_34
              refine lv_iconst (v := 1) hx hb dX11_rations_110 (by decide +kernel) ?_
              refine lv_iadd hx hb dX11_rations_111 ?_
              refine lv_topi (fun x_35 ex_35 => ?_)
              have hx_35 : x_35.toInt = x_34.toInt + 1 := (iv_to ex_35).trans (ad_i rfl (by decide +kernel) (by omega) (by omega))
              clear ex_35
              refine va_iast hx hb hK hP hD hS 32 31 rfl rfl (vp_in_iff.mpr (by omega)) dX11_rations_112 (fun H locs hP hD hS => ?_)
              have hP : va_P (dC, dI) vwCl (mW g0 pq cp v (upF fz_32 31 (x1 : Int32).toNatClampNeg x_35)) H := hP
              have hD : va_D A (mW g0 pq cp v (upF fz_32 31 (x1 : Int32).toNatClampNeg x_35)) := hD
              obtain ⟨fz_36, efz_36⟩ : ∃ zq, zq = (upF fz_32 31 (x1 : Int32).toNatClampNeg x_35) := ⟨_, rfl⟩
              rw [← efz_36] at hP hD
              have hAfz_36 : mA fz_36 := by rw [efz_36]; exact mA_upF (lo := 0) (hi := 20) hAfz_32 rfl rfl (by omega)
              have hRfz_36 : mX [0, 31, 32, 35, 36] v fa v fz_36 := by rw [efz_36]; exact mX.uF hRfz_32 (by decide +kernel)
              refine lv_aload_n hx hb dX11_rations_113 rfl (lv_at hl 1 rfl) ?_
              refine va_get (D := (dC, dI)) (ci := 11) (v := .ref (pq 32)) (C := RX11) (T := TX11) (N := 63) hx hb hts in_wsX11_rations_X11 hown hK hP 0 rfl rfl 32 (by decide +kernel) (hts (.fieldLink RX11 106 "ShipOfficeModel" "shortDays" "[I") iw_X11_rations_1) (fun _ h9 => h9) rfl dX11_rations_114 ?_
              refine lv_iload_n hx hb dX11_rations_117 rfl (lv_at hl 2 rfl) ?_
              refine lv_dup2_11 hx hb dX11_rations_118 rfl rfl ?_
              refine va_iald hx hb hK hP 33 32 rfl rfl (vp_in_iff.mpr (by omega)) dX11_rations_119 ?_
              refine lv_topi (fun x_37 ex_37 => ?_)
              clear ex_37
              refine lv_iload_n hx hb dX11_rations_120 rfl (lv_at hl 3 rfl) ?_
              refine lv_iadd hx hb dX11_rations_121 ?_
              refine lv_topi (fun x_38 ex_38 => ?_)
              clear ex_38
              refine va_iast hx hb hK hP hD hS 33 32 rfl rfl (vp_in_iff.mpr (by omega)) dX11_rations_122 (fun H locs hP hD hS => ?_)
              have hP : va_P (dC, dI) vwCl (mW g0 pq cp v (upF fz_36 32 (x1 : Int32).toNatClampNeg x_38)) H := hP
              have hD : va_D A (mW g0 pq cp v (upF fz_36 32 (x1 : Int32).toNatClampNeg x_38)) := hD
              obtain ⟨fz_39, efz_39⟩ : ∃ zq, zq = (upF fz_36 32 (x1 : Int32).toNatClampNeg x_38) := ⟨_, rfl⟩
              rw [← efz_39] at hP hD
              have hAfz_39 : mA fz_39 := by rw [efz_39]; exact mA_upF (lo := -2147483648) (hi := 2147483647) hAfz_36 rfl rfl (iv_all _)
              have hRfz_39 : mX [0, 31, 32, 35, 36] v fa v fz_39 := by rw [efz_39]; exact mX.uF hRfz_36 (by decide +kernel)
              refine lv_aload_n hx hb dX11_rations_123 rfl (lv_at hl 1 rfl) ?_
              refine va_get (D := (dC, dI)) (ci := 11) (v := .ref (pq 32)) (C := RX11) (T := TX11) (N := 63) hx hb hts in_wsX11_rations_X11 hown hK hP 0 rfl rfl 32 (by decide +kernel) (hts (.fieldLink RX11 106 "ShipOfficeModel" "shortDays" "[I") iw_X11_rations_1) (fun _ h9 => h9) rfl dX11_rations_124 ?_
              refine lv_iload_n hx hb dX11_rations_127 rfl (lv_at hl 2 rfl) ?_
              refine va_iald hx hb hK hP 33 32 rfl rfl (vp_in_iff.mpr (by omega)) dX11_rations_128 ?_
              refine lv_topi (fun x_40 ex_40 => ?_)
              clear ex_40
              exact W.iret (v := x_40) hx hb hr (fun t ht hW => ⟨⟨x_40, (v, fz_39), rfl, ⟨gV, hAfz_39, hRfz_39⟩, ⟨by rw [ht]; exact hP, va_K.moved hW.alike hK, hD⟩⟩, hS.F ht⟩) hS.2.2 dX11_rations_129
            · have dc_24 := c_eq (a := x_23.toInt) (b := 20) rfl (by decide +kernel) c_24
              refine lv_aload_n hx hb dX11_rations_62 rfl (lv_at hl 0 rfl) ?_
              refine lv_bipush (v := (-6)) hx hb dX11_rations_63 (by decide +kernel) ?_
              have hFc := va_free (wc := (mW g0 pq cp v fa)) hD hS hA (List.range 48) rfl
              refine va_calli (va_runV (As := [.int (-6)]) (rest := []) ⟨hx, hb, hml, hown, hts⟩ (c_X11_refuse l dC dI H.size g0 pq cp v fa (-6) (by unfold vp_in; decide)) (cwV 1 hts gX11_rations_X11_refuse rfl rfl rfl (by decide +kernel) ⟨(Nat.le_of_ble_eq_true rfl), (Nat.le_of_ble_eq_true rfl)⟩) (pr_V (r := (RX11, TX11, 63)) hP hK hD 0 11 rfl rfl) rfl rfl hl.1 rfl (lv_room (Nat.le_of_ble_eq_true rfl)) dX11_rations_65 ⟨(Nat.le_of_ble_eq_true rfl), (Nat.le_of_ble_eq_true rfl)⟩) hS (fun q _ h => hFc q h) hFc (fun r_42 u t H locs ht hvm w_41 hB hz1 hk1 hS => ?_)
              obtain ⟨v_43, fa_44⟩ := u
              obtain ⟨hP1, hK1, hD1⟩ := hB
              rw [ht] at hP1
              have hP : va_P (dC, dI) vwCl (mW g0 pq cp v_43 fa_44) H := hP1
              have hD : va_D A (mW g0 pq cp v_43 fa_44) := hD1.weaken (fun _ _ _ h => hFc _ h)
              clear hP1 hK1 hD1 hk1 hz1 hvm ht hFc
              obtain ⟨rfl, w_41⟩ := w_41
              have hVv_43 : mV v_43 := sm0_V w_41 gV
              have hAv_43 : mA fa_44 := sm0_A w_41 gA
              have hRv_43 : mX [0, 31, 32, 35, 36] v fa v_43 fa_44 := mX.st mX.rf (mX.s0 w_41) (by decide +kernel)
              exact W.iret (v := (-6)) hx hb hr (fun t ht hW => ⟨⟨(-6), (v_43, fa_44), rfl, ⟨hVv_43, hAv_43, hRv_43⟩, ⟨by rw [ht]; exact hP, va_K.moved hW.alike hK, hD⟩⟩, hS.F ht⟩) hS.2.2 dX11_rations_68
      · have dc_10 := c_nle (a := 1) (b := x3.toInt) (by decide +kernel) rfl c_10
        refine lv_aload_n hx hb dX11_rations_24 rfl (lv_at hl 0 rfl) ?_
        refine lv_bipush (v := (-4)) hx hb dX11_rations_25 (by decide +kernel) ?_
        have hFc := va_free (wc := (mW g0 pq cp v fa)) hD hS hA (List.range 48) rfl
        refine va_calli (va_runV (As := [.int (-4)]) (rest := []) ⟨hx, hb, hml, hown, hts⟩ (c_X11_refuse l dC dI H.size g0 pq cp v fa (-4) (by unfold vp_in; decide)) (cwV 1 hts gX11_rations_X11_refuse rfl rfl rfl (by decide +kernel) ⟨(Nat.le_of_ble_eq_true rfl), (Nat.le_of_ble_eq_true rfl)⟩) (pr_V (r := (RX11, TX11, 63)) hP hK hD 0 11 rfl rfl) rfl rfl hl.1 rfl (lv_room (Nat.le_of_ble_eq_true rfl)) dX11_rations_27 ⟨(Nat.le_of_ble_eq_true rfl), (Nat.le_of_ble_eq_true rfl)⟩) hS (fun q _ h => hFc q h) hFc (fun r_46 u t H locs ht hvm w_45 hB hz1 hk1 hS => ?_)
        obtain ⟨v_47, fa_48⟩ := u
        obtain ⟨hP1, hK1, hD1⟩ := hB
        rw [ht] at hP1
        have hP : va_P (dC, dI) vwCl (mW g0 pq cp v_47 fa_48) H := hP1
        have hD : va_D A (mW g0 pq cp v_47 fa_48) := hD1.weaken (fun _ _ _ h => hFc _ h)
        clear hP1 hK1 hD1 hk1 hz1 hvm ht hFc
        obtain ⟨rfl, w_45⟩ := w_45
        have hVv_47 : mV v_47 := sm0_V w_45 gV
        have hAv_47 : mA fa_48 := sm0_A w_45 gA
        have hRv_47 : mX [0, 31, 32, 35, 36] v fa v_47 fa_48 := mX.st mX.rf (mX.s0 w_45) (by decide +kernel)
        exact W.iret (v := (-4)) hx hb hr (fun t ht hW => ⟨⟨(-4), (v_47, fa_48), rfl, ⟨hVv_47, hAv_47, hRv_47⟩, ⟨by rw [ht]; exact hP, va_K.moved hW.alike hK, hD⟩⟩, hS.F ht⟩) hS.2.2 dX11_rations_30
  · have dc_3 := c_eq (a := r_2.toInt) (b := 0) rfl (by decide +kernel) c_3
    refine lv_aload_n hx hb dX11_rations_8 rfl (lv_at hl 0 rfl) ?_
    refine lv_iconst (v := (-1)) hx hb dX11_rations_9 (by decide +kernel) ?_
    have hFc := va_free (wc := (mW g0 pq cp v fa)) hD hS hA (List.range 48) rfl
    refine va_calli (va_runV (As := [.int (-1)]) (rest := []) ⟨hx, hb, hml, hown, hts⟩ (c_X11_refuse l dC dI H.size g0 pq cp v fa (-1) (by unfold vp_in; decide)) (cwV 1 hts gX11_rations_X11_refuse rfl rfl rfl (by decide +kernel) ⟨(Nat.le_of_ble_eq_true rfl), (Nat.le_of_ble_eq_true rfl)⟩) (pr_V (r := (RX11, TX11, 63)) hP hK hD 0 11 rfl rfl) rfl rfl hl.1 rfl (lv_room (Nat.le_of_ble_eq_true rfl)) dX11_rations_10 ⟨(Nat.le_of_ble_eq_true rfl), (Nat.le_of_ble_eq_true rfl)⟩) hS (fun q _ h => hFc q h) hFc (fun r_50 u t H locs ht hvm w_49 hB hz1 hk1 hS => ?_)
    obtain ⟨v_51, fa_52⟩ := u
    obtain ⟨hP1, hK1, hD1⟩ := hB
    rw [ht] at hP1
    have hP : va_P (dC, dI) vwCl (mW g0 pq cp v_51 fa_52) H := hP1
    have hD : va_D A (mW g0 pq cp v_51 fa_52) := hD1.weaken (fun _ _ _ h => hFc _ h)
    clear hP1 hK1 hD1 hk1 hz1 hvm ht hFc
    obtain ⟨rfl, w_49⟩ := w_49
    have hVv_51 : mV v_51 := sm0_V w_49 gV
    have hAv_51 : mA fa_52 := sm0_A w_49 gA
    have hRv_51 : mX [0, 31, 32, 35, 36] v fa v_51 fa_52 := mX.st mX.rf (mX.s0 w_49) (by decide +kernel)
    exact W.iret (v := (-1)) hx hb hr (fun t ht hW => ⟨⟨(-1), (v_51, fa_52), rfl, ⟨hVv_51, hAv_51, hRv_51⟩, ⟨by rw [ht]; exact hP, va_K.moved hW.alike hK, hD⟩⟩, hS.F ht⟩) hS.2.2 dX11_rations_13
