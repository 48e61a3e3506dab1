abbrev cX11_worth : ByteArray := prog_13_method_37_code
def yX11_worth : MethodName := ⟨RX11, "worth", "(II)I"⟩
abbrev cX11_puts : ByteArray := prog_13_method_39_code
def yX11_puts : MethodName := ⟨RX11, "puts", "(IIIIZ)V"⟩
abbrev cX11_isUnknown : ByteArray := prog_13_method_45_code
def yX11_isUnknown : MethodName := ⟨RX11, "isUnknown", "(III)Z"⟩
abbrev cX11_stateOf : ByteArray := prog_13_method_46_code
def yX11_stateOf : MethodName := ⟨RX11, "stateOf", "(III)I"⟩
abbrev cX11_aboardOf : ByteArray := prog_13_method_47_code
def yX11_aboardOf : MethodName := ⟨RX11, "aboardOf", "(III)I"⟩
abbrev cX11_earnsOf : ByteArray := prog_13_method_48_code
def yX11_earnsOf : MethodName := ⟨RX11, "earnsOf", "(III)I"⟩
theorem gw_X11_goesThrough : wsX11_goesThrough.all goodWord = true := by decide +kernel
theorem gw_X11_actOn : wsX11_actOn.all goodWord = true := by decide +kernel
def wsX11_worth_r1 : List Cond := [Cond.fieldLink RX11 58 "ShipOfficeModel" "textSize" "[I", Cond.fieldLink RX11 128 "ShipOfficeModel" "letters" "[I", Cond.methodLink RX11 263 yX11_actOn, Cond.instanceMethod yX11_actOn, Cond.selects RX11 yX11_actOn yX11_actOn, Cond.initialized RX11, Cond.code yX11_actOn cX11_actOn 5 (some .int), Cond.fieldLink RX11 256 "ShipOfficeModel" "acts" "I", Cond.fieldLink RX11 61 "ShipOfficeModel" "purpose" "[I", Cond.fieldLink RX11 64 "ShipOfficeModel" "from" "[I", Cond.methodLink RX11 259 yX11_goesThrough, Cond.instanceMethod yX11_goesThrough, Cond.selects RX11 yX11_goesThrough yX11_goesThrough, Cond.code yX11_goesThrough cX11_goesThrough 3 (some .int), Cond.fieldLink RX11 216 "ShipOfficeModel" "base" "I", Cond.fieldLink RX11 213 "ShipOfficeModel" "size" "I", Cond.fieldLink RX11 210 "ShipOfficeModel" "at" "I", Cond.fieldLink RX11 244 "ShipOfficeModel" "deep" "I", Cond.fieldLink RX11 223 "ShipOfficeModel" "isWell" "Z", Cond.methodLink RX11 250 yX11_sum, Cond.instanceMethod yX11_sum, Cond.selects RX11 yX11_sum yX11_sum, Cond.code yX11_sum cX11_sum 4 (some .int), Cond.methodLink RX11 231 yX11_term]
def wsX11_worth_r2 : List Cond := [Cond.instanceMethod yX11_term, Cond.selects RX11 yX11_term yX11_term, Cond.methodLink RX11 227 yX11_sign, Cond.instanceMethod yX11_sign, Cond.selects RX11 yX11_sign yX11_sign, Cond.code yX11_sign cX11_sign 1 (some .int), Cond.fieldLink RX11 125 "ShipOfficeModel" "tape" "[I", Cond.fieldLink RX11 67 "ShipOfficeModel" "text" "[I", Cond.methodLink RX11 234 yX11_held, Cond.static yX11_held, Cond.code yX11_held cX11_held 2 (some .int), Cond.constantLong RX11 219 (1000000000), Cond.constantLong RX11 221 (-1000000000), Cond.code yX11_term cX11_term 4 (some .int), Cond.methodLink RX11 238 yX11_unit, Cond.instanceMethod yX11_unit, Cond.selects RX11 yX11_unit yX11_unit, Cond.code yX11_unit cX11_unit 5 (some .int), Cond.methodLink RX11 241 yX11_isLetter, Cond.static yX11_isLetter, Cond.code yX11_isLetter cX11_isLetter 1 (some .boolean), Cond.methodLink RX11 247 yX11_breaks, Cond.instanceMethod yX11_breaks, Cond.selects RX11 yX11_breaks yX11_breaks]
def wsX11_worth_r3 : List Cond := [Cond.code yX11_breaks cX11_breaks 1 (some .int), Cond.methodLink RX11 253 yX11_takes, Cond.instanceMethod yX11_takes, Cond.selects RX11 yX11_takes yX11_takes, Cond.code yX11_takes cX11_takes 2 (some .boolean)]
def wsX11_worth : List Cond := .code yX11_worth cX11_worth 4 (some .int) :: ((wsX11_worth_r1 ++ (wsX11_worth_r2 ++ wsX11_worth_r3)) ++ wsX110)
theorem gw_X11_worth : wsX11_worth.all goodWord = true := by decide +kernel
theorem il_X11_worth_1 : ∀ w ∈ wsX11_worth_r1, w ∈ wsX11_worth := fun w h => (List.mem_cons_of_mem _ (List.mem_append_left _ (List.mem_append_left _ h)))
theorem il_X11_worth_2 : ∀ w ∈ wsX11_worth_r2, w ∈ wsX11_worth := fun w h => (List.mem_cons_of_mem _ (List.mem_append_left _ (List.mem_append_right _ (List.mem_append_left _ h))))
theorem il_X11_worth_3 : ∀ w ∈ wsX11_worth_r3, w ∈ wsX11_worth := fun w h => (List.mem_cons_of_mem _ (List.mem_append_left _ (List.mem_append_right _ (List.mem_append_right _ h))))
theorem il_X11_worth_4 : ∀ w ∈ wsX110, w ∈ wsX11_worth := fun w h => (List.mem_cons_of_mem _ (List.mem_append_right _ h))
theorem iw_X11_worth_1 : Cond.fieldLink RX11 128 "ShipOfficeModel" "letters" "[I" ∈ wsX11_worth := (mmI il_X11_worth_1 1 rfl)
theorem iw_X11_worth_2 : Cond.fieldLink RX11 58 "ShipOfficeModel" "textSize" "[I" ∈ wsX11_worth := (mmI il_X11_worth_1 0 rfl)
theorem gw_X11_bare : wsX11_bare.all goodWord = true := by decide +kernel
theorem gw_X11_isDead : wsX11_isDead.all goodWord = true := by decide +kernel
theorem gw_X11_whereOf : wsX11_whereOf.all goodWord = true := by decide +kernel
theorem gw_X11_hasSailed : wsX11_hasSailed.all goodWord = true := by decide +kernel
theorem gw_X11_lastHeard : wsX11_lastHeard.all goodWord = true := by decide +kernel
def wsX11_isUnknown_r1 : List Cond := [Cond.methodLink RX11 281 yX11_hasSailed, Cond.instanceMethod yX11_hasSailed, Cond.selects RX11 yX11_hasSailed yX11_hasSailed, Cond.initialized RX11, Cond.code yX11_hasSailed cX11_hasSailed 5 (some .boolean), Cond.methodLink RX11 278 yX11_sailedOn, Cond.instanceMethod yX11_sailedOn, Cond.selects RX11 yX11_sailedOn yX11_sailedOn, Cond.code yX11_sailedOn cX11_sailedOn 4 (some .int), Cond.fieldLink RX11 179 "ShipOfficeModel" "happened" "I", Cond.fieldLink RX11 40 "ShipOfficeModel" "what" "[I", Cond.fieldLink RX11 43 "ShipOfficeModel" "whose" "[I", Cond.fieldLink RX11 49 "ShipOfficeModel" "known" "[I", Cond.fieldLink RX11 46 "ShipOfficeModel" "day" "[I", Cond.methodLink RX11 275 yX11_bare, Cond.instanceMethod yX11_bare, Cond.selects RX11 yX11_bare yX11_bare, Cond.code yX11_bare cX11_bare 2 none, Cond.fieldLink RX11 128 "ShipOfficeModel" "letters" "[I", Cond.methodLink RX11 272 yX11_lastHeard, Cond.instanceMethod yX11_lastHeard, Cond.selects RX11 yX11_lastHeard yX11_lastHeard, Cond.code yX11_lastHeard cX11_lastHeard 6 (some .int), Cond.methodLink RX11 285 yX11_worth]
def wsX11_isUnknown_r2 : List Cond := [Cond.instanceMethod yX11_worth, Cond.selects RX11 yX11_worth yX11_worth, Cond.code yX11_worth cX11_worth 4 (some .int), Cond.fieldLink RX11 58 "ShipOfficeModel" "textSize" "[I", Cond.methodLink RX11 263 yX11_actOn, Cond.instanceMethod yX11_actOn, Cond.selects RX11 yX11_actOn yX11_actOn, Cond.code yX11_actOn cX11_actOn 5 (some .int), Cond.fieldLink RX11 256 "ShipOfficeModel" "acts" "I", Cond.fieldLink RX11 61 "ShipOfficeModel" "purpose" "[I", Cond.fieldLink RX11 64 "ShipOfficeModel" "from" "[I", Cond.methodLink RX11 259 yX11_goesThrough, Cond.instanceMethod yX11_goesThrough, Cond.selects RX11 yX11_goesThrough yX11_goesThrough, Cond.code yX11_goesThrough cX11_goesThrough 3 (some .int), Cond.fieldLink RX11 216 "ShipOfficeModel" "base" "I", Cond.fieldLink RX11 213 "ShipOfficeModel" "size" "I", Cond.fieldLink RX11 210 "ShipOfficeModel" "at" "I", Cond.fieldLink RX11 244 "ShipOfficeModel" "deep" "I", Cond.fieldLink RX11 223 "ShipOfficeModel" "isWell" "Z", Cond.methodLink RX11 250 yX11_sum, Cond.instanceMethod yX11_sum, Cond.selects RX11 yX11_sum yX11_sum, Cond.code yX11_sum cX11_sum 4 (some .int)]
def wsX11_isUnknown_r3 : List Cond := [Cond.methodLink RX11 231 yX11_term, Cond.instanceMethod yX11_term, Cond.selects RX11 yX11_term yX11_term, Cond.methodLink RX11 227 yX11_sign, Cond.instanceMethod yX11_sign, Cond.selects RX11 yX11_sign yX11_sign, Cond.code yX11_sign cX11_sign 1 (some .int), Cond.fieldLink RX11 125 "ShipOfficeModel" "tape" "[I", Cond.fieldLink RX11 67 "ShipOfficeModel" "text" "[I", Cond.methodLink RX11 234 yX11_held, Cond.static yX11_held, Cond.code yX11_held cX11_held 2 (some .int), Cond.constantLong RX11 219 (1000000000), Cond.constantLong RX11 221 (-1000000000), Cond.code yX11_term cX11_term 4 (some .int), Cond.methodLink RX11 238 yX11_unit, Cond.instanceMethod yX11_unit, Cond.selects RX11 yX11_unit yX11_unit, Cond.code yX11_unit cX11_unit 5 (some .int), Cond.methodLink RX11 241 yX11_isLetter, Cond.static yX11_isLetter, Cond.code yX11_isLetter cX11_isLetter 1 (some .boolean), Cond.methodLink RX11 247 yX11_breaks, Cond.instanceMethod yX11_breaks]
def wsX11_isUnknown_r4 : List Cond := [Cond.selects RX11 yX11_breaks yX11_breaks, Cond.code yX11_breaks cX11_breaks 1 (some .int), Cond.methodLink RX11 253 yX11_takes, Cond.instanceMethod yX11_takes, Cond.selects RX11 yX11_takes yX11_takes, Cond.code yX11_takes cX11_takes 2 (some .boolean)]
def wsX11_isUnknown : List Cond := .code yX11_isUnknown cX11_isUnknown 4 (some .boolean) :: ((wsX11_isUnknown_r1 ++ (wsX11_isUnknown_r2 ++ (wsX11_isUnknown_r3 ++ wsX11_isUnknown_r4))) ++ wsX110)
theorem gw_X11_isUnknown : wsX11_isUnknown.all goodWord = true := by decide +kernel
theorem il_X11_isUnknown_1 : ∀ w ∈ wsX11_isUnknown_r1, w ∈ wsX11_isUnknown := fun w h => (List.mem_cons_of_mem _ (List.mem_append_left _ (List.mem_append_left _ h)))
theorem il_X11_isUnknown_2 : ∀ w ∈ wsX11_isUnknown_r2, w ∈ wsX11_isUnknown := fun w h => (List.mem_cons_of_mem _ (List.mem_append_left _ (List.mem_append_right _ (List.mem_append_left _ h))))
theorem il_X11_isUnknown_3 : ∀ w ∈ wsX11_isUnknown_r3, w ∈ wsX11_isUnknown := fun w h => (List.mem_cons_of_mem _ (List.mem_append_left _ (List.mem_append_right _ (List.mem_append_right _ (List.mem_append_left _ h)))))
theorem il_X11_isUnknown_4 : ∀ w ∈ wsX11_isUnknown_r4, w ∈ wsX11_isUnknown := fun w h => (List.mem_cons_of_mem _ (List.mem_append_left _ (List.mem_append_right _ (List.mem_append_right _ (List.mem_append_right _ h)))))
theorem il_X11_isUnknown_5 : ∀ w ∈ wsX110, w ∈ wsX11_isUnknown := fun w h => (List.mem_cons_of_mem _ (List.mem_append_right _ h))
def wsX11_stateOf_r1 : List Cond := [Cond.fieldLink RX11 85 "ShipOfficeModel" "signed" "[I", Cond.fieldLink RX11 88 "ShipOfficeModel" "offOn" "[I", Cond.fieldLink RX11 40 "ShipOfficeModel" "what" "[I", Cond.fieldLink RX11 73 "ShipOfficeModel" "voyage" "[I", Cond.methodLink RX11 288 yX11_isDead, Cond.instanceMethod yX11_isDead, Cond.selects RX11 yX11_isDead yX11_isDead, Cond.initialized RX11, Cond.code yX11_isDead cX11_isDead 5 (some .boolean), Cond.fieldLink RX11 179 "ShipOfficeModel" "happened" "I", Cond.fieldLink RX11 43 "ShipOfficeModel" "whose" "[I", Cond.fieldLink RX11 49 "ShipOfficeModel" "known" "[I", Cond.fieldLink RX11 46 "ShipOfficeModel" "day" "[I", Cond.methodLink RX11 291 yX11_whereOf, Cond.instanceMethod yX11_whereOf, Cond.selects RX11 yX11_whereOf yX11_whereOf, Cond.code yX11_whereOf cX11_whereOf 6 (some .int), Cond.methodLink RX11 281 yX11_hasSailed, Cond.instanceMethod yX11_hasSailed, Cond.selects RX11 yX11_hasSailed yX11_hasSailed, Cond.code yX11_hasSailed cX11_hasSailed 5 (some .boolean), Cond.methodLink RX11 278 yX11_sailedOn, Cond.instanceMethod yX11_sailedOn, Cond.selects RX11 yX11_sailedOn yX11_sailedOn]
def wsX11_stateOf_r2 : List Cond := [Cond.code yX11_sailedOn cX11_sailedOn 4 (some .int), Cond.methodLink RX11 294 yX11_isUnknown, Cond.instanceMethod yX11_isUnknown, Cond.selects RX11 yX11_isUnknown yX11_isUnknown, Cond.code yX11_isUnknown cX11_isUnknown 4 (some .boolean), Cond.methodLink RX11 275 yX11_bare, Cond.instanceMethod yX11_bare, Cond.selects RX11 yX11_bare yX11_bare, Cond.code yX11_bare cX11_bare 2 none, Cond.fieldLink RX11 128 "ShipOfficeModel" "letters" "[I", Cond.methodLink RX11 272 yX11_lastHeard, Cond.instanceMethod yX11_lastHeard, Cond.selects RX11 yX11_lastHeard yX11_lastHeard, Cond.code yX11_lastHeard cX11_lastHeard 6 (some .int), Cond.methodLink RX11 285 yX11_worth, Cond.instanceMethod yX11_worth, Cond.selects RX11 yX11_worth yX11_worth, Cond.code yX11_worth cX11_worth 4 (some .int), Cond.fieldLink RX11 58 "ShipOfficeModel" "textSize" "[I", Cond.methodLink RX11 263 yX11_actOn, Cond.instanceMethod yX11_actOn, Cond.selects RX11 yX11_actOn yX11_actOn, Cond.code yX11_actOn cX11_actOn 5 (some .int), Cond.fieldLink RX11 256 "ShipOfficeModel" "acts" "I"]
def wsX11_stateOf_r3 : List Cond := [Cond.fieldLink RX11 61 "ShipOfficeModel" "purpose" "[I", Cond.fieldLink RX11 64 "ShipOfficeModel" "from" "[I", Cond.methodLink RX11 259 yX11_goesThrough, Cond.instanceMethod yX11_goesThrough, Cond.selects RX11 yX11_goesThrough yX11_goesThrough, Cond.code yX11_goesThrough cX11_goesThrough 3 (some .int), Cond.fieldLink RX11 216 "ShipOfficeModel" "base" "I", Cond.fieldLink RX11 213 "ShipOfficeModel" "size" "I", Cond.fieldLink RX11 210 "ShipOfficeModel" "at" "I", Cond.fieldLink RX11 244 "ShipOfficeModel" "deep" "I", Cond.fieldLink RX11 223 "ShipOfficeModel" "isWell" "Z", Cond.methodLink RX11 250 yX11_sum, Cond.instanceMethod yX11_sum, Cond.selects RX11 yX11_sum yX11_sum, Cond.code yX11_sum cX11_sum 4 (some .int), Cond.methodLink RX11 231 yX11_term, Cond.instanceMethod yX11_term, Cond.selects RX11 yX11_term yX11_term, Cond.methodLink RX11 227 yX11_sign, Cond.instanceMethod yX11_sign, Cond.selects RX11 yX11_sign yX11_sign, Cond.code yX11_sign cX11_sign 1 (some .int), Cond.fieldLink RX11 125 "ShipOfficeModel" "tape" "[I", Cond.fieldLink RX11 67 "ShipOfficeModel" "text" "[I"]
def wsX11_stateOf_r4 : List Cond := [Cond.methodLink RX11 234 yX11_held, Cond.static yX11_held, Cond.code yX11_held cX11_held 2 (some .int), Cond.constantLong RX11 219 (1000000000), Cond.constantLong RX11 221 (-1000000000), Cond.code yX11_term cX11_term 4 (some .int), Cond.methodLink RX11 238 yX11_unit, Cond.instanceMethod yX11_unit, Cond.selects RX11 yX11_unit yX11_unit, Cond.code yX11_unit cX11_unit 5 (some .int), Cond.methodLink RX11 241 yX11_isLetter, Cond.static yX11_isLetter, Cond.code yX11_isLetter cX11_isLetter 1 (some .boolean), Cond.methodLink RX11 247 yX11_breaks, Cond.instanceMethod yX11_breaks, Cond.selects RX11 yX11_breaks yX11_breaks, Cond.code yX11_breaks cX11_breaks 1 (some .int), Cond.methodLink RX11 253 yX11_takes, Cond.instanceMethod yX11_takes, Cond.selects RX11 yX11_takes yX11_takes, Cond.code yX11_takes cX11_takes 2 (some .boolean)]
def wsX11_stateOf : List Cond := .code yX11_stateOf cX11_stateOf 5 (some .int) :: ((wsX11_stateOf_r1 ++ (wsX11_stateOf_r2 ++ (wsX11_stateOf_r3 ++ wsX11_stateOf_r4))) ++ wsX110)
theorem gw_X11_stateOf : wsX11_stateOf.all goodWord = true := by decide +kernel
theorem il_X11_stateOf_1 : ∀ w ∈ wsX11_stateOf_r1, w ∈ wsX11_stateOf := fun w h => (List.mem_cons_of_mem _ (List.mem_append_left _ (List.mem_append_left _ h)))
theorem il_X11_stateOf_2 : ∀ w ∈ wsX11_stateOf_r2, w ∈ wsX11_stateOf := fun w h => (List.mem_cons_of_mem _ (List.mem_append_left _ (List.mem_append_right _ (List.mem_append_left _ h))))
theorem il_X11_stateOf_3 : ∀ w ∈ wsX11_stateOf_r3, w ∈ wsX11_stateOf := fun w h => (List.mem_cons_of_mem _ (List.mem_append_left _ (List.mem_append_right _ (List.mem_append_right _ (List.mem_append_left _ h)))))
theorem il_X11_stateOf_4 : ∀ w ∈ wsX11_stateOf_r4, w ∈ wsX11_stateOf := fun w h => (List.mem_cons_of_mem _ (List.mem_append_left _ (List.mem_append_right _ (List.mem_append_right _ (List.mem_append_right _ h)))))
theorem il_X11_stateOf_5 : ∀ w ∈ wsX110, w ∈ wsX11_stateOf := fun w h => (List.mem_cons_of_mem _ (List.mem_append_right _ h))
theorem iw_X11_stateOf_1 : Cond.fieldLink RX11 85 "ShipOfficeModel" "signed" "[I" ∈ wsX11_stateOf := (mmI il_X11_stateOf_1 0 rfl)
theorem iw_X11_stateOf_2 : Cond.fieldLink RX11 88 "ShipOfficeModel" "offOn" "[I" ∈ wsX11_stateOf := (mmI il_X11_stateOf_1 1 rfl)
theorem iw_X11_stateOf_3 : Cond.fieldLink RX11 73 "ShipOfficeModel" "voyage" "[I" ∈ wsX11_stateOf := (mmI il_X11_stateOf_1 3 rfl)
theorem iw_X11_stateOf_4 : Cond.fieldLink RX11 40 "ShipOfficeModel" "what" "[I" ∈ wsX11_stateOf := (mmI il_X11_stateOf_1 2 rfl)
def wsX11_aboardOf_r1 : List Cond := [Cond.fieldLink RX11 168 "ShipOfficeModel" "agreements" "I", Cond.fieldLink RX11 73 "ShipOfficeModel" "voyage" "[I", Cond.methodLink RX11 266 yX11_stateOf, Cond.instanceMethod yX11_stateOf, Cond.selects RX11 yX11_stateOf yX11_stateOf, Cond.initialized RX11, Cond.code yX11_stateOf cX11_stateOf 5 (some .int), Cond.fieldLink RX11 85 "ShipOfficeModel" "signed" "[I", Cond.fieldLink RX11 88 "ShipOfficeModel" "offOn" "[I", Cond.fieldLink RX11 40 "ShipOfficeModel" "what" "[I", Cond.methodLink RX11 288 yX11_isDead, Cond.instanceMethod yX11_isDead, Cond.selects RX11 yX11_isDead yX11_isDead, Cond.code yX11_isDead cX11_isDead 5 (some .boolean), Cond.fieldLink RX11 179 "ShipOfficeModel" "happened" "I", Cond.fieldLink RX11 43 "ShipOfficeModel" "whose" "[I", Cond.fieldLink RX11 49 "ShipOfficeModel" "known" "[I", Cond.fieldLink RX11 46 "ShipOfficeModel" "day" "[I", Cond.methodLink RX11 291 yX11_whereOf, Cond.instanceMethod yX11_whereOf, Cond.selects RX11 yX11_whereOf yX11_whereOf, Cond.code yX11_whereOf cX11_whereOf 6 (some .int), Cond.methodLink RX11 281 yX11_hasSailed, Cond.instanceMethod yX11_hasSailed]
def wsX11_aboardOf_r2 : List Cond := [Cond.selects RX11 yX11_hasSailed yX11_hasSailed, Cond.code yX11_hasSailed cX11_hasSailed 5 (some .boolean), Cond.methodLink RX11 278 yX11_sailedOn, Cond.instanceMethod yX11_sailedOn, Cond.selects RX11 yX11_sailedOn yX11_sailedOn, Cond.code yX11_sailedOn cX11_sailedOn 4 (some .int), Cond.methodLink RX11 294 yX11_isUnknown, Cond.instanceMethod yX11_isUnknown, Cond.selects RX11 yX11_isUnknown yX11_isUnknown, Cond.code yX11_isUnknown cX11_isUnknown 4 (some .boolean), Cond.methodLink RX11 275 yX11_bare, Cond.instanceMethod yX11_bare, Cond.selects RX11 yX11_bare yX11_bare, Cond.code yX11_bare cX11_bare 2 none, Cond.fieldLink RX11 128 "ShipOfficeModel" "letters" "[I", Cond.methodLink RX11 272 yX11_lastHeard, Cond.instanceMethod yX11_lastHeard, Cond.selects RX11 yX11_lastHeard yX11_lastHeard, Cond.code yX11_lastHeard cX11_lastHeard 6 (some .int), Cond.methodLink RX11 285 yX11_worth, Cond.instanceMethod yX11_worth, Cond.selects RX11 yX11_worth yX11_worth, Cond.code yX11_worth cX11_worth 4 (some .int), Cond.fieldLink RX11 58 "ShipOfficeModel" "textSize" "[I"]
def wsX11_aboardOf_r3 : List Cond := [Cond.methodLink RX11 263 yX11_actOn, Cond.instanceMethod yX11_actOn, Cond.selects RX11 yX11_actOn yX11_actOn, Cond.code yX11_actOn cX11_actOn 5 (some .int), Cond.fieldLink RX11 256 "ShipOfficeModel" "acts" "I", Cond.fieldLink RX11 61 "ShipOfficeModel" "purpose" "[I", Cond.fieldLink RX11 64 "ShipOfficeModel" "from" "[I", Cond.methodLink RX11 259 yX11_goesThrough, Cond.instanceMethod yX11_goesThrough, Cond.selects RX11 yX11_goesThrough yX11_goesThrough, Cond.code yX11_goesThrough cX11_goesThrough 3 (some .int), Cond.fieldLink RX11 216 "ShipOfficeModel" "base" "I", Cond.fieldLink RX11 213 "ShipOfficeModel" "size" "I", Cond.fieldLink RX11 210 "ShipOfficeModel" "at" "I", Cond.fieldLink RX11 244 "ShipOfficeModel" "deep" "I", Cond.fieldLink RX11 223 "ShipOfficeModel" "isWell" "Z", Cond.methodLink RX11 250 yX11_sum, Cond.instanceMethod yX11_sum, Cond.selects RX11 yX11_sum yX11_sum, Cond.code yX11_sum cX11_sum 4 (some .int), Cond.methodLink RX11 231 yX11_term, Cond.instanceMethod yX11_term, Cond.selects RX11 yX11_term yX11_term, Cond.methodLink RX11 227 yX11_sign]
def wsX11_aboardOf_r4 : List Cond := [Cond.instanceMethod yX11_sign, Cond.selects RX11 yX11_sign yX11_sign, Cond.code yX11_sign cX11_sign 1 (some .int), Cond.fieldLink RX11 125 "ShipOfficeModel" "tape" "[I", Cond.fieldLink RX11 67 "ShipOfficeModel" "text" "[I", Cond.methodLink RX11 234 yX11_held, Cond.static yX11_held, Cond.code yX11_held cX11_held 2 (some .int), Cond.constantLong RX11 219 (1000000000), Cond.constantLong RX11 221 (-1000000000), Cond.code yX11_term cX11_term 4 (some .int), Cond.methodLink RX11 238 yX11_unit, Cond.instanceMethod yX11_unit, Cond.selects RX11 yX11_unit yX11_unit, Cond.code yX11_unit cX11_unit 5 (some .int), Cond.methodLink RX11 241 yX11_isLetter, Cond.static yX11_isLetter, Cond.code yX11_isLetter cX11_isLetter 1 (some .boolean), Cond.methodLink RX11 247 yX11_breaks, Cond.instanceMethod yX11_breaks, Cond.selects RX11 yX11_breaks yX11_breaks, Cond.code yX11_breaks cX11_breaks 1 (some .int), Cond.methodLink RX11 253 yX11_takes, Cond.instanceMethod yX11_takes]
def wsX11_aboardOf_r5 : List Cond := [Cond.selects RX11 yX11_takes yX11_takes, Cond.code yX11_takes cX11_takes 2 (some .boolean)]
def wsX11_aboardOf : List Cond := .code yX11_aboardOf cX11_aboardOf 6 (some .int) :: ((wsX11_aboardOf_r1 ++ (wsX11_aboardOf_r2 ++ (wsX11_aboardOf_r3 ++ (wsX11_aboardOf_r4 ++ wsX11_aboardOf_r5)))) ++ wsX110)
theorem gw_X11_aboardOf : wsX11_aboardOf.all goodWord = true := by decide +kernel
theorem il_X11_aboardOf_1 : ∀ w ∈ wsX11_aboardOf_r1, w ∈ wsX11_aboardOf := fun w h => (List.mem_cons_of_mem _ (List.mem_append_left _ (List.mem_append_left _ h)))
theorem il_X11_aboardOf_2 : ∀ w ∈ wsX11_aboardOf_r2, w ∈ wsX11_aboardOf := fun w h => (List.mem_cons_of_mem _ (List.mem_append_left _ (List.mem_append_right _ (List.mem_append_left _ h))))
theorem il_X11_aboardOf_3 : ∀ w ∈ wsX11_aboardOf_r3, w ∈ wsX11_aboardOf := fun w h => (List.mem_cons_of_mem _ (List.mem_append_left _ (List.mem_append_right _ (List.mem_append_right _ (List.mem_append_left _ h)))))
theorem il_X11_aboardOf_4 : ∀ w ∈ wsX11_aboardOf_r4, w ∈ wsX11_aboardOf := fun w h => (List.mem_cons_of_mem _ (List.mem_append_left _ (List.mem_append_right _ (List.mem_append_right _ (List.mem_append_right _ (List.mem_append_left _ h))))))
theorem il_X11_aboardOf_5 : ∀ w ∈ wsX11_aboardOf_r5, w ∈ wsX11_aboardOf := fun w h => (List.mem_cons_of_mem _ (List.mem_append_left _ (List.mem_append_right _ (List.mem_append_right _ (List.mem_append_right _ (List.mem_append_right _ h))))))
theorem il_X11_aboardOf_6 : ∀ w ∈ wsX110, w ∈ wsX11_aboardOf := fun w h => (List.mem_cons_of_mem _ (List.mem_append_right _ h))
theorem iw_X11_aboardOf_1 : Cond.fieldLink RX11 168 "ShipOfficeModel" "agreements" "I" ∈ wsX11_aboardOf := (mmI il_X11_aboardOf_1 0 rfl)
theorem iw_X11_aboardOf_2 : Cond.fieldLink RX11 73 "ShipOfficeModel" "voyage" "[I" ∈ wsX11_aboardOf := (mmI il_X11_aboardOf_1 1 rfl)
def wsX11_puts_r1 : List Cond := [Cond.fieldLink RX11 85 "ShipOfficeModel" "signed" "[I", Cond.fieldLink RX11 73 "ShipOfficeModel" "voyage" "[I", Cond.fieldLink RX11 128 "ShipOfficeModel" "letters" "[I", Cond.fieldLink RX11 76 "ShipOfficeModel" "wage" "[I", Cond.fieldLink RX11 79 "ShipOfficeModel" "rank" "[I", Cond.fieldLink RX11 22 "ShipOfficeModel" "born" "[I", Cond.fieldLink RX11 70 "ShipOfficeModel" "man" "[I", Cond.methodLink RX11 266 yX11_stateOf, Cond.instanceMethod yX11_stateOf, Cond.selects RX11 yX11_stateOf yX11_stateOf, Cond.initialized RX11, Cond.code yX11_stateOf cX11_stateOf 5 (some .int), Cond.fieldLink RX11 88 "ShipOfficeModel" "offOn" "[I", Cond.fieldLink RX11 40 "ShipOfficeModel" "what" "[I", Cond.methodLink RX11 288 yX11_isDead, Cond.instanceMethod yX11_isDead, Cond.selects RX11 yX11_isDead yX11_isDead, Cond.code yX11_isDead cX11_isDead 5 (some .boolean), Cond.fieldLink RX11 179 "ShipOfficeModel" "happened" "I", Cond.fieldLink RX11 43 "ShipOfficeModel" "whose" "[I", Cond.fieldLink RX11 49 "ShipOfficeModel" "known" "[I", Cond.fieldLink RX11 46 "ShipOfficeModel" "day" "[I", Cond.methodLink RX11 291 yX11_whereOf, Cond.instanceMethod yX11_whereOf]
def wsX11_puts_r2 : List Cond := [Cond.selects RX11 yX11_whereOf yX11_whereOf, Cond.code yX11_whereOf cX11_whereOf 6 (some .int), Cond.methodLink RX11 281 yX11_hasSailed, Cond.instanceMethod yX11_hasSailed, Cond.selects RX11 yX11_hasSailed yX11_hasSailed, Cond.code yX11_hasSailed cX11_hasSailed 5 (some .boolean), Cond.methodLink RX11 278 yX11_sailedOn, Cond.instanceMethod yX11_sailedOn, Cond.selects RX11 yX11_sailedOn yX11_sailedOn, Cond.code yX11_sailedOn cX11_sailedOn 4 (some .int), Cond.methodLink RX11 294 yX11_isUnknown, Cond.instanceMethod yX11_isUnknown, Cond.selects RX11 yX11_isUnknown yX11_isUnknown, Cond.code yX11_isUnknown cX11_isUnknown 4 (some .boolean), Cond.methodLink RX11 275 yX11_bare, Cond.instanceMethod yX11_bare, Cond.selects RX11 yX11_bare yX11_bare, Cond.code yX11_bare cX11_bare 2 none, Cond.methodLink RX11 272 yX11_lastHeard, Cond.instanceMethod yX11_lastHeard, Cond.selects RX11 yX11_lastHeard yX11_lastHeard, Cond.code yX11_lastHeard cX11_lastHeard 6 (some .int), Cond.methodLink RX11 285 yX11_worth, Cond.instanceMethod yX11_worth]
def wsX11_puts_r3 : List Cond := [Cond.selects RX11 yX11_worth yX11_worth, Cond.code yX11_worth cX11_worth 4 (some .int), Cond.fieldLink RX11 58 "ShipOfficeModel" "textSize" "[I", Cond.methodLink RX11 263 yX11_actOn, Cond.instanceMethod yX11_actOn, Cond.selects RX11 yX11_actOn yX11_actOn, Cond.code yX11_actOn cX11_actOn 5 (some .int), Cond.fieldLink RX11 256 "ShipOfficeModel" "acts" "I", Cond.fieldLink RX11 61 "ShipOfficeModel" "purpose" "[I", Cond.fieldLink RX11 64 "ShipOfficeModel" "from" "[I", Cond.methodLink RX11 259 yX11_goesThrough, Cond.instanceMethod yX11_goesThrough, Cond.selects RX11 yX11_goesThrough yX11_goesThrough, Cond.code yX11_goesThrough cX11_goesThrough 3 (some .int), Cond.fieldLink RX11 216 "ShipOfficeModel" "base" "I", Cond.fieldLink RX11 213 "ShipOfficeModel" "size" "I", Cond.fieldLink RX11 210 "ShipOfficeModel" "at" "I", Cond.fieldLink RX11 244 "ShipOfficeModel" "deep" "I", Cond.fieldLink RX11 223 "ShipOfficeModel" "isWell" "Z", Cond.methodLink RX11 250 yX11_sum, Cond.instanceMethod yX11_sum, Cond.selects RX11 yX11_sum yX11_sum, Cond.code yX11_sum cX11_sum 4 (some .int), Cond.methodLink RX11 231 yX11_term]
def wsX11_puts_r4 : List Cond := [Cond.instanceMethod yX11_term, Cond.selects RX11 yX11_term yX11_term, Cond.methodLink RX11 227 yX11_sign, Cond.instanceMethod yX11_sign, Cond.selects RX11 yX11_sign yX11_sign, Cond.code yX11_sign cX11_sign 1 (some .int), Cond.fieldLink RX11 125 "ShipOfficeModel" "tape" "[I", Cond.fieldLink RX11 67 "ShipOfficeModel" "text" "[I", Cond.methodLink RX11 234 yX11_held, Cond.static yX11_held, Cond.code yX11_held cX11_held 2 (some .int), Cond.constantLong RX11 219 (1000000000), Cond.constantLong RX11 221 (-1000000000), Cond.code yX11_term cX11_term 4 (some .int), Cond.methodLink RX11 238 yX11_unit, Cond.instanceMethod yX11_unit, Cond.selects RX11 yX11_unit yX11_unit, Cond.code yX11_unit cX11_unit 5 (some .int), Cond.methodLink RX11 241 yX11_isLetter, Cond.static yX11_isLetter, Cond.code yX11_isLetter cX11_isLetter 1 (some .boolean), Cond.methodLink RX11 247 yX11_breaks, Cond.instanceMethod yX11_breaks, Cond.selects RX11 yX11_breaks yX11_breaks]
def wsX11_puts_r5 : List Cond := [Cond.code yX11_breaks cX11_breaks 1 (some .int), Cond.methodLink RX11 253 yX11_takes, Cond.instanceMethod yX11_takes, Cond.selects RX11 yX11_takes yX11_takes, Cond.code yX11_takes cX11_takes 2 (some .boolean), Cond.methodLink RX11 269 yX11_aboardOf, Cond.instanceMethod yX11_aboardOf, Cond.selects RX11 yX11_aboardOf yX11_aboardOf, Cond.code yX11_aboardOf cX11_aboardOf 6 (some .int), Cond.fieldLink RX11 168 "ShipOfficeModel" "agreements" "I"]
def wsX11_puts : List Cond := .code yX11_puts cX11_puts 9 none :: ((wsX11_puts_r1 ++ (wsX11_puts_r2 ++ (wsX11_puts_r3 ++ (wsX11_puts_r4 ++ wsX11_puts_r5)))) ++ wsX110)
theorem il_X11_puts_1 : ∀ w ∈ wsX11_puts_r1, w ∈ wsX11_puts := fun w h => (List.mem_cons_of_mem _ (List.mem_append_left _ (List.mem_append_left _ h)))
theorem il_X11_puts_2 : ∀ w ∈ wsX11_puts_r2, w ∈ wsX11_puts := fun w h => (List.mem_cons_of_mem _ (List.mem_append_left _ (List.mem_append_right _ (List.mem_append_left _ h))))
theorem il_X11_puts_3 : ∀ w ∈ wsX11_puts_r3, w ∈ wsX11_puts := fun w h => (List.mem_cons_of_mem _ (List.mem_append_left _ (List.mem_append_right _ (List.mem_append_right _ (List.mem_append_left _ h)))))
theorem il_X11_puts_4 : ∀ w ∈ wsX11_puts_r4, w ∈ wsX11_puts := fun w h => (List.mem_cons_of_mem _ (List.mem_append_left _ (List.mem_append_right _ (List.mem_append_right _ (List.mem_append_right _ (List.mem_append_left _ h))))))
theorem il_X11_puts_5 : ∀ w ∈ wsX11_puts_r5, w ∈ wsX11_puts := fun w h => (List.mem_cons_of_mem _ (List.mem_append_left _ (List.mem_append_right _ (List.mem_append_right _ (List.mem_append_right _ (List.mem_append_right _ h))))))
theorem il_X11_puts_6 : ∀ w ∈ wsX110, w ∈ wsX11_puts := fun w h => (List.mem_cons_of_mem _ (List.mem_append_right _ h))
theorem iw_X11_puts_1 : Cond.fieldLink RX11 85 "ShipOfficeModel" "signed" "[I" ∈ wsX11_puts := (mmI il_X11_puts_1 0 rfl)
theorem iw_X11_puts_2 : Cond.fieldLink RX11 73 "ShipOfficeModel" "voyage" "[I" ∈ wsX11_puts := (mmI il_X11_puts_1 1 rfl)
theorem iw_X11_puts_3 : Cond.fieldLink RX11 128 "ShipOfficeModel" "letters" "[I" ∈ wsX11_puts := (mmI il_X11_puts_1 2 rfl)
theorem iw_X11_puts_4 : Cond.fieldLink RX11 76 "ShipOfficeModel" "wage" "[I" ∈ wsX11_puts := (mmI il_X11_puts_1 3 rfl)
theorem iw_X11_puts_5 : Cond.fieldLink RX11 79 "ShipOfficeModel" "rank" "[I" ∈ wsX11_puts := (mmI il_X11_puts_1 4 rfl)
theorem iw_X11_puts_6 : Cond.fieldLink RX11 22 "ShipOfficeModel" "born" "[I" ∈ wsX11_puts := (mmI il_X11_puts_1 5 rfl)
theorem iw_X11_puts_7 : Cond.fieldLink RX11 70 "ShipOfficeModel" "man" "[I" ∈ wsX11_puts := (mmI il_X11_puts_1 6 rfl)
def wsX11_earnsOf_r1 : List Cond := [Cond.fieldLink RX11 73 "ShipOfficeModel" "voyage" "[I", Cond.fieldLink RX11 85 "ShipOfficeModel" "signed" "[I", Cond.methodLink RX11 266 yX11_stateOf, Cond.instanceMethod yX11_stateOf, Cond.selects RX11 yX11_stateOf yX11_stateOf, Cond.initialized RX11, Cond.code yX11_stateOf cX11_stateOf 5 (some .int), Cond.fieldLink RX11 88 "ShipOfficeModel" "offOn" "[I", Cond.fieldLink RX11 40 "ShipOfficeModel" "what" "[I", Cond.methodLink RX11 288 yX11_isDead, Cond.instanceMethod yX11_isDead, Cond.selects RX11 yX11_isDead yX11_isDead, Cond.code yX11_isDead cX11_isDead 5 (some .boolean), Cond.fieldLink RX11 179 "ShipOfficeModel" "happened" "I", Cond.fieldLink RX11 43 "ShipOfficeModel" "whose" "[I", Cond.fieldLink RX11 49 "ShipOfficeModel" "known" "[I", Cond.fieldLink RX11 46 "ShipOfficeModel" "day" "[I", Cond.methodLink RX11 291 yX11_whereOf, Cond.instanceMethod yX11_whereOf, Cond.selects RX11 yX11_whereOf yX11_whereOf, Cond.code yX11_whereOf cX11_whereOf 6 (some .int), Cond.methodLink RX11 281 yX11_hasSailed, Cond.instanceMethod yX11_hasSailed, Cond.selects RX11 yX11_hasSailed yX11_hasSailed]
def wsX11_earnsOf_r2 : List Cond := [Cond.code yX11_hasSailed cX11_hasSailed 5 (some .boolean), Cond.methodLink RX11 278 yX11_sailedOn, Cond.instanceMethod yX11_sailedOn, Cond.selects RX11 yX11_sailedOn yX11_sailedOn, Cond.code yX11_sailedOn cX11_sailedOn 4 (some .int), Cond.methodLink RX11 294 yX11_isUnknown, Cond.instanceMethod yX11_isUnknown, Cond.selects RX11 yX11_isUnknown yX11_isUnknown, Cond.code yX11_isUnknown cX11_isUnknown 4 (some .boolean), Cond.methodLink RX11 275 yX11_bare, Cond.instanceMethod yX11_bare, Cond.selects RX11 yX11_bare yX11_bare, Cond.code yX11_bare cX11_bare 2 none, Cond.fieldLink RX11 128 "ShipOfficeModel" "letters" "[I", Cond.methodLink RX11 272 yX11_lastHeard, Cond.instanceMethod yX11_lastHeard, Cond.selects RX11 yX11_lastHeard yX11_lastHeard, Cond.code yX11_lastHeard cX11_lastHeard 6 (some .int), Cond.methodLink RX11 285 yX11_worth, Cond.instanceMethod yX11_worth, Cond.selects RX11 yX11_worth yX11_worth, Cond.code yX11_worth cX11_worth 4 (some .int), Cond.fieldLink RX11 58 "ShipOfficeModel" "textSize" "[I", Cond.methodLink RX11 263 yX11_actOn]
def wsX11_earnsOf_r3 : List Cond := [Cond.instanceMethod yX11_actOn, Cond.selects RX11 yX11_actOn yX11_actOn, Cond.code yX11_actOn cX11_actOn 5 (some .int), Cond.fieldLink RX11 256 "ShipOfficeModel" "acts" "I", Cond.fieldLink RX11 61 "ShipOfficeModel" "purpose" "[I", Cond.fieldLink RX11 64 "ShipOfficeModel" "from" "[I", Cond.methodLink RX11 259 yX11_goesThrough, Cond.instanceMethod yX11_goesThrough, Cond.selects RX11 yX11_goesThrough yX11_goesThrough, Cond.code yX11_goesThrough cX11_goesThrough 3 (some .int), Cond.fieldLink RX11 216 "ShipOfficeModel" "base" "I", Cond.fieldLink RX11 213 "ShipOfficeModel" "size" "I", Cond.fieldLink RX11 210 "ShipOfficeModel" "at" "I", Cond.fieldLink RX11 244 "ShipOfficeModel" "deep" "I", Cond.fieldLink RX11 223 "ShipOfficeModel" "isWell" "Z", Cond.methodLink RX11 250 yX11_sum, Cond.instanceMethod yX11_sum, Cond.selects RX11 yX11_sum yX11_sum, Cond.code yX11_sum cX11_sum 4 (some .int), Cond.methodLink RX11 231 yX11_term, Cond.instanceMethod yX11_term, Cond.selects RX11 yX11_term yX11_term, Cond.methodLink RX11 227 yX11_sign, Cond.instanceMethod yX11_sign]
def wsX11_earnsOf_r4 : List Cond := [Cond.selects RX11 yX11_sign yX11_sign, Cond.code yX11_sign cX11_sign 1 (some .int), Cond.fieldLink RX11 125 "ShipOfficeModel" "tape" "[I", Cond.fieldLink RX11 67 "ShipOfficeModel" "text" "[I", Cond.methodLink RX11 234 yX11_held, Cond.static yX11_held, Cond.code yX11_held cX11_held 2 (some .int), Cond.constantLong RX11 219 (1000000000), Cond.constantLong RX11 221 (-1000000000), Cond.code yX11_term cX11_term 4 (some .int), Cond.methodLink RX11 238 yX11_unit, Cond.instanceMethod yX11_unit, Cond.selects RX11 yX11_unit yX11_unit, Cond.code yX11_unit cX11_unit 5 (some .int), Cond.methodLink RX11 241 yX11_isLetter, Cond.static yX11_isLetter, Cond.code yX11_isLetter cX11_isLetter 1 (some .boolean), Cond.methodLink RX11 247 yX11_breaks, Cond.instanceMethod yX11_breaks, Cond.selects RX11 yX11_breaks yX11_breaks, Cond.code yX11_breaks cX11_breaks 1 (some .int), Cond.methodLink RX11 253 yX11_takes, Cond.instanceMethod yX11_takes, Cond.selects RX11 yX11_takes yX11_takes]
def wsX11_earnsOf_r5 : List Cond := [Cond.code yX11_takes cX11_takes 2 (some .boolean), Cond.methodLink RX11 161 yX11_isIn, Cond.static yX11_isIn, Cond.code yX11_isIn cX11_isIn 2 (some .boolean)]
def wsX11_earnsOf : List Cond := .code yX11_earnsOf cX11_earnsOf 7 (some .int) :: ((wsX11_earnsOf_r1 ++ (wsX11_earnsOf_r2 ++ (wsX11_earnsOf_r3 ++ (wsX11_earnsOf_r4 ++ wsX11_earnsOf_r5)))) ++ wsX110)
theorem il_X11_earnsOf_1 : ∀ w ∈ wsX11_earnsOf_r1, w ∈ wsX11_earnsOf := fun w h => (List.mem_cons_of_mem _ (List.mem_append_left _ (List.mem_append_left _ h)))
theorem il_X11_earnsOf_2 : ∀ w ∈ wsX11_earnsOf_r2, w ∈ wsX11_earnsOf := fun w h => (List.mem_cons_of_mem _ (List.mem_append_left _ (List.mem_append_right _ (List.mem_append_left _ h))))
theorem il_X11_earnsOf_3 : ∀ w ∈ wsX11_earnsOf_r3, w ∈ wsX11_earnsOf := fun w h => (List.mem_cons_of_mem _ (List.mem_append_left _ (List.mem_append_right _ (List.mem_append_right _ (List.mem_append_left _ h)))))
theorem il_X11_earnsOf_4 : ∀ w ∈ wsX11_earnsOf_r4, w ∈ wsX11_earnsOf := fun w h => (List.mem_cons_of_mem _ (List.mem_append_left _ (List.mem_append_right _ (List.mem_append_right _ (List.mem_append_right _ (List.mem_append_left _ h))))))
theorem il_X11_earnsOf_5 : ∀ w ∈ wsX11_earnsOf_r5, w ∈ wsX11_earnsOf := fun w h => (List.mem_cons_of_mem _ (List.mem_append_left _ (List.mem_append_right _ (List.mem_append_right _ (List.mem_append_right _ (List.mem_append_right _ h))))))
theorem il_X11_earnsOf_6 : ∀ w ∈ wsX110, w ∈ wsX11_earnsOf := fun w h => (List.mem_cons_of_mem _ (List.mem_append_right _ h))
theorem iw_X11_earnsOf_1 : Cond.fieldLink RX11 85 "ShipOfficeModel" "signed" "[I" ∈ wsX11_earnsOf := (mmI il_X11_earnsOf_1 1 rfl)
theorem iw_X11_earnsOf_2 : Cond.fieldLink RX11 73 "ShipOfficeModel" "voyage" "[I" ∈ wsX11_earnsOf := (mmI il_X11_earnsOf_1 0 rfl)
set_option maxRecDepth 100000 in
theorem ggX11_worth_X11_actOn : GoodIn wsX11_worth wsX11_actOn := goodIn_sub (mmC (mmI il_X11_worth_1 6 rfl) (mmA (mmC (mmI il_X11_worth_1 7 rfl) (mmC (mmI il_X11_worth_1 8 rfl) (mmC (mmI il_X11_worth_1 9 rfl) mmN))) il_X11_worth_4)) gw_X11_actOn
theorem gX11_worth_X11_actOn : GoodIn wsX11_worth (wsV RX11 263 RX11 yX11_actOn wsX11_actOn) := goodIn_app (goodIn_sub (mmC (mmI il_X11_worth_1 2 rfl) (mmC (mmI il_X11_worth_1 3 rfl) (mmC (mmI il_X11_worth_1 4 rfl) (mmC (mmI il_X11_worth_1 5 rfl) mmN)))) (by decide +kernel)) ggX11_worth_X11_actOn
set_option maxRecDepth 100000 in
theorem ggX11_worth_X11_goesThrough : GoodIn wsX11_worth wsX11_goesThrough := goodIn_sub (mmC (mmI il_X11_worth_1 13 rfl) (mmA (mmA (mmC (mmI il_X11_worth_1 14 rfl) (mmC (mmI il_X11_worth_1 15 rfl) (mmC (mmI il_X11_worth_1 16 rfl) (mmC (mmI il_X11_worth_1 17 rfl) (mmC (mmI il_X11_worth_1 18 rfl) (mmC (mmI il_X11_worth_1 19 rfl) (mmC (mmI il_X11_worth_1 20 rfl) (mmC (mmI il_X11_worth_1 21 rfl) (mmC (mmI il_X11_worth_1 5 rfl) (mmC (mmI il_X11_worth_1 22 rfl) (mmC (mmI il_X11_worth_1 23 rfl) (mmC (mmI il_X11_worth_2 0 rfl) (mmC (mmI il_X11_worth_2 1 rfl) (mmC (mmI il_X11_worth_2 2 rfl) (mmC (mmI il_X11_worth_2 3 rfl) (mmC (mmI il_X11_worth_2 4 rfl) (mmC (mmI il_X11_worth_2 5 rfl) (mmC (mmI il_X11_worth_2 6 rfl) (mmC (mmI il_X11_worth_2 7 rfl) (mmC (mmI il_X11_worth_2 8 rfl) (mmC (mmI il_X11_worth_2 9 rfl) (mmC (mmI il_X11_worth_2 10 rfl) (mmC (mmI il_X11_worth_2 11 rfl) (mmC (mmI il_X11_worth_2 12 rfl) mmN)))))))))))))))))))))))) (mmC (mmI il_X11_worth_2 13 rfl) (mmC (mmI il_X11_worth_2 14 rfl) (mmC (mmI il_X11_worth_2 15 rfl) (mmC (mmI il_X11_worth_2 16 rfl) (mmC (mmI il_X11_worth_2 17 rfl) (mmC (mmI il_X11_worth_1 1 rfl) (mmC (mmI il_X11_worth_2 18 rfl) (mmC (mmI il_X11_worth_2 19 rfl) (mmC (mmI il_X11_worth_2 20 rfl) (mmC (mmI il_X11_worth_2 21 rfl) (mmC (mmI il_X11_worth_2 22 rfl) (mmC (mmI il_X11_worth_2 23 rfl) (mmC (mmI il_X11_worth_3 0 rfl) (mmC (mmI il_X11_worth_3 1 rfl) (mmC (mmI il_X11_worth_3 2 rfl) (mmC (mmI il_X11_worth_3 3 rfl) (mmC (mmI il_X11_worth_3 4 rfl) mmN)))))))))))))))))) il_X11_worth_4)) gw_X11_goesThrough
theorem gX11_worth_X11_goesThrough : GoodIn wsX11_worth (wsV RX11 259 RX11 yX11_goesThrough wsX11_goesThrough) := goodIn_app (goodIn_sub (mmC (mmI il_X11_worth_1 10 rfl) (mmC (mmI il_X11_worth_1 11 rfl) (mmC (mmI il_X11_worth_1 12 rfl) (mmC (mmI il_X11_worth_1 5 rfl) mmN)))) (by decide +kernel)) ggX11_worth_X11_goesThrough
theorem dX11_worth_0 : decode cX11_worth 0 = .ok (.aload_n 0, 1) := by decide +kernel
theorem dX11_worth_1 : decode cX11_worth 1 = .ok (.iload_n 1, 1) := by decide +kernel
theorem dX11_worth_2 : decode cX11_worth 2 = .ok (.iload_n 2, 1) := by decide +kernel
theorem dX11_worth_3 : decode cX11_worth 3 = .ok (.invokevirtual 263, 3) := by decide +kernel
theorem dX11_worth_6 : decode cX11_worth 6 = .ok (.istore_n 3, 1) := by decide +kernel
theorem dX11_worth_7 : decode cX11_worth 7 = .ok (.iload_n 3, 1) := by decide +kernel
theorem dX11_worth_8 : decode cX11_worth 8 = .ok (.ifCond .lt 18, 3) := by decide +kernel
theorem dX11_worth_11 : decode cX11_worth 11 = .ok (.aload_n 0, 1) := by decide +kernel
theorem dX11_worth_12 : decode cX11_worth 12 = .ok (.bipush 60, 2) := by decide +kernel
theorem dX11_worth_14 : decode cX11_worth 14 = .ok (.iload_n 3, 1) := by decide +kernel
theorem dX11_worth_15 : decode cX11_worth 15 = .ok (.imul, 1) := by decide +kernel
theorem dX11_worth_16 : decode cX11_worth 16 = .ok (.aload_n 0, 1) := by decide +kernel
theorem dX11_worth_17 : decode cX11_worth 17 = .ok (.getfield 58, 3) := by decide +kernel
theorem dX11_worth_20 : decode cX11_worth 20 = .ok (.iload_n 3, 1) := by decide +kernel
theorem dX11_worth_21 : decode cX11_worth 21 = .ok (.iaload, 1) := by decide +kernel
theorem dX11_worth_22 : decode cX11_worth 22 = .ok (.invokevirtual 259, 3) := by decide +kernel
theorem dX11_worth_25 : decode cX11_worth 25 = .ok (.ireturn, 1) := by decide +kernel
theorem dX11_worth_26 : decode cX11_worth 26 = .ok (.iload_n 1, 1) := by decide +kernel
theorem dX11_worth_27 : decode cX11_worth 27 = .ok (.ifCond .ne 7, 3) := by decide +kernel
theorem dX11_worth_30 : decode cX11_worth 30 = .ok (.iconst 1, 1) := by decide +kernel
theorem dX11_worth_31 : decode cX11_worth 31 = .ok (.goto 40, 3) := by decide +kernel
theorem dX11_worth_34 : decode cX11_worth 34 = .ok (.iload_n 1, 1) := by decide +kernel
theorem dX11_worth_35 : decode cX11_worth 35 = .ok (.iconst 1, 1) := by decide +kernel
theorem dX11_worth_36 : decode cX11_worth 36 = .ok (.if_icmp .ne 13, 3) := by decide +kernel
theorem dX11_worth_39 : decode cX11_worth 39 = .ok (.aload_n 0, 1) := by decide +kernel
theorem dX11_worth_40 : decode cX11_worth 40 = .ok (.getfield 128, 3) := by decide +kernel
theorem dX11_worth_43 : decode cX11_worth 43 = .ok (.bipush 115, 2) := by decide +kernel
theorem dX11_worth_45 : decode cX11_worth 45 = .ok (.iaload, 1) := by decide +kernel
theorem dX11_worth_46 : decode cX11_worth 46 = .ok (.goto 25, 3) := by decide +kernel
theorem dX11_worth_49 : decode cX11_worth 49 = .ok (.iload_n 1, 1) := by decide +kernel
theorem dX11_worth_50 : decode cX11_worth 50 = .ok (.iconst 2, 1) := by decide +kernel
theorem dX11_worth_51 : decode cX11_worth 51 = .ok (.if_icmp .ne 8, 3) := by decide +kernel
theorem dX11_worth_54 : decode cX11_worth 54 = .ok (.bipush 100, 2) := by decide +kernel
theorem dX11_worth_56 : decode cX11_worth 56 = .ok (.goto 15, 3) := by decide +kernel
theorem dX11_worth_59 : decode cX11_worth 59 = .ok (.iload_n 1, 1) := by decide +kernel
theorem dX11_worth_60 : decode cX11_worth 60 = .ok (.iconst 3, 1) := by decide +kernel
theorem dX11_worth_61 : decode cX11_worth 61 = .ok (.if_icmp .ne 8, 3) := by decide +kernel
theorem dX11_worth_64 : decode cX11_worth 64 = .ok (.bipush 50, 2) := by decide +kernel
theorem dX11_worth_66 : decode cX11_worth 66 = .ok (.goto 5, 3) := by decide +kernel
theorem dX11_worth_69 : decode cX11_worth 69 = .ok (.bipush 90, 2) := by decide +kernel
theorem dX11_worth_71 : decode cX11_worth 71 = .ok (.ireturn, 1) := by decide +kernel
set_option maxRecDepth 100000 in
theorem ggX11_puts_X11_stateOf : GoodIn wsX11_puts wsX11_stateOf := goodIn_sub (mmC (mmI il_X11_puts_1 11 rfl) (mmA (mmA (mmC (mmI il_X11_puts_1 0 rfl) (mmC (mmI il_X11_puts_1 12 rfl) (mmC (mmI il_X11_puts_1 13 rfl) (mmC (mmI il_X11_puts_1 1 rfl) (mmC (mmI il_X11_puts_1 14 rfl) (mmC (mmI il_X11_puts_1 15 rfl) (mmC (mmI il_X11_puts_1 16 rfl) (mmC (mmI il_X11_puts_1 10 rfl) (mmC (mmI il_X11_puts_1 17 rfl) (mmC (mmI il_X11_puts_1 18 rfl) (mmC (mmI il_X11_puts_1 19 rfl) (mmC (mmI il_X11_puts_1 20 rfl) (mmC (mmI il_X11_puts_1 21 rfl) (mmC (mmI il_X11_puts_1 22 rfl) (mmC (mmI il_X11_puts_1 23 rfl) (mmC (mmI il_X11_puts_2 0 rfl) (mmC (mmI il_X11_puts_2 1 rfl) (mmC (mmI il_X11_puts_2 2 rfl) (mmC (mmI il_X11_puts_2 3 rfl) (mmC (mmI il_X11_puts_2 4 rfl) (mmC (mmI il_X11_puts_2 5 rfl) (mmC (mmI il_X11_puts_2 6 rfl) (mmC (mmI il_X11_puts_2 7 rfl) (mmC (mmI il_X11_puts_2 8 rfl) mmN)))))))))))))))))))))))) (mmA (mmC (mmI il_X11_puts_2 9 rfl) (mmC (mmI il_X11_puts_2 10 rfl) (mmC (mmI il_X11_puts_2 11 rfl) (mmC (mmI il_X11_puts_2 12 rfl) (mmC (mmI il_X11_puts_2 13 rfl) (mmC (mmI il_X11_puts_2 14 rfl) (mmC (mmI il_X11_puts_2 15 rfl) (mmC (mmI il_X11_puts_2 16 rfl) (mmC (mmI il_X11_puts_2 17 rfl) (mmC (mmI il_X11_puts_1 2 rfl) (mmC (mmI il_X11_puts_2 18 rfl) (mmC (mmI il_X11_puts_2 19 rfl) (mmC (mmI il_X11_puts_2 20 rfl) (mmC (mmI il_X11_puts_2 21 rfl) (mmC (mmI il_X11_puts_2 22 rfl) (mmC (mmI il_X11_puts_2 23 rfl) (mmC (mmI il_X11_puts_3 0 rfl) (mmC (mmI il_X11_puts_3 1 rfl) (mmC (mmI il_X11_puts_3 2 rfl) (mmC (mmI il_X11_puts_3 3 rfl) (mmC (mmI il_X11_puts_3 4 rfl) (mmC (mmI il_X11_puts_3 5 rfl) (mmC (mmI il_X11_puts_3 6 rfl) (mmC (mmI il_X11_puts_3 7 rfl) mmN)))))))))))))))))))))))) (mmA (mmC (mmI il_X11_puts_3 8 rfl) (mmC (mmI il_X11_puts_3 9 rfl) (mmC (mmI il_X11_puts_3 10 rfl) (mmC (mmI il_X11_puts_3 11 rfl) (mmC (mmI il_X11_puts_3 12 rfl) (mmC (mmI il_X11_puts_3 13 rfl) (mmC (mmI il_X11_puts_3 14 rfl) (mmC (mmI il_X11_puts_3 15 rfl) (mmC (mmI il_X11_puts_3 16 rfl) (mmC (mmI il_X11_puts_3 17 rfl) (mmC (mmI il_X11_puts_3 18 rfl) (mmC (mmI il_X11_puts_3 19 rfl) (mmC (mmI il_X11_puts_3 20 rfl) (mmC (mmI il_X11_puts_3 21 rfl) (mmC (mmI il_X11_puts_3 22 rfl) (mmC (mmI il_X11_puts_3 23 rfl) (mmC (mmI il_X11_puts_4 0 rfl) (mmC (mmI il_X11_puts_4 1 rfl) (mmC (mmI il_X11_puts_4 2 rfl) (mmC (mmI il_X11_puts_4 3 rfl) (mmC (mmI il_X11_puts_4 4 rfl) (mmC (mmI il_X11_puts_4 5 rfl) (mmC (mmI il_X11_puts_4 6 rfl) (mmC (mmI il_X11_puts_4 7 rfl) mmN)))))))))))))))))))))))) (mmC (mmI il_X11_puts_4 8 rfl) (mmC (mmI il_X11_puts_4 9 rfl) (mmC (mmI il_X11_puts_4 10 rfl) (mmC (mmI il_X11_puts_4 11 rfl) (mmC (mmI il_X11_puts_4 12 rfl) (mmC (mmI il_X11_puts_4 13 rfl) (mmC (mmI il_X11_puts_4 14 rfl) (mmC (mmI il_X11_puts_4 15 rfl) (mmC (mmI il_X11_puts_4 16 rfl) (mmC (mmI il_X11_puts_4 17 rfl) (mmC (mmI il_X11_puts_4 18 rfl) (mmC (mmI il_X11_puts_4 19 rfl) (mmC (mmI il_X11_puts_4 20 rfl) (mmC (mmI il_X11_puts_4 21 rfl) (mmC (mmI il_X11_puts_4 22 rfl) (mmC (mmI il_X11_puts_4 23 rfl) (mmC (mmI il_X11_puts_5 0 rfl) (mmC (mmI il_X11_puts_5 1 rfl) (mmC (mmI il_X11_puts_5 2 rfl) (mmC (mmI il_X11_puts_5 3 rfl) (mmC (mmI il_X11_puts_5 4 rfl) mmN)))))))))))))))))))))))) il_X11_puts_6)) gw_X11_stateOf
theorem gX11_puts_X11_stateOf : GoodIn wsX11_puts (wsV RX11 266 RX11 yX11_stateOf wsX11_stateOf) := goodIn_app (goodIn_sub (mmC (mmI il_X11_puts_1 7 rfl) (mmC (mmI il_X11_puts_1 8 rfl) (mmC (mmI il_X11_puts_1 9 rfl) (mmC (mmI il_X11_puts_1 10 rfl) mmN)))) (by decide +kernel)) ggX11_puts_X11_stateOf
set_option maxRecDepth 100000 in
theorem ggX11_puts_X11_aboardOf : GoodIn wsX11_puts wsX11_aboardOf := goodIn_sub (mmC (mmI il_X11_puts_5 8 rfl) (mmA (mmA (mmC (mmI il_X11_puts_5 9 rfl) (mmC (mmI il_X11_puts_1 1 rfl) (mmC (mmI il_X11_puts_1 7 rfl) (mmC (mmI il_X11_puts_1 8 rfl) (mmC (mmI il_X11_puts_1 9 rfl) (mmC (mmI il_X11_puts_1 10 rfl) (mmC (mmI il_X11_puts_1 11 rfl) (mmC (mmI il_X11_puts_1 0 rfl) (mmC (mmI il_X11_puts_1 12 rfl) (mmC (mmI il_X11_puts_1 13 rfl) (mmC (mmI il_X11_puts_1 14 rfl) (mmC (mmI il_X11_puts_1 15 rfl) (mmC (mmI il_X11_puts_1 16 rfl) (mmC (mmI il_X11_puts_1 17 rfl) (mmC (mmI il_X11_puts_1 18 rfl) (mmC (mmI il_X11_puts_1 19 rfl) (mmC (mmI il_X11_puts_1 20 rfl) (mmC (mmI il_X11_puts_1 21 rfl) (mmC (mmI il_X11_puts_1 22 rfl) (mmC (mmI il_X11_puts_1 23 rfl) (mmC (mmI il_X11_puts_2 0 rfl) (mmC (mmI il_X11_puts_2 1 rfl) (mmC (mmI il_X11_puts_2 2 rfl) (mmC (mmI il_X11_puts_2 3 rfl) mmN)))))))))))))))))))))))) (mmA (mmC (mmI il_X11_puts_2 4 rfl) (mmC (mmI il_X11_puts_2 5 rfl) (mmC (mmI il_X11_puts_2 6 rfl) (mmC (mmI il_X11_puts_2 7 rfl) (mmC (mmI il_X11_puts_2 8 rfl) (mmC (mmI il_X11_puts_2 9 rfl) (mmC (mmI il_X11_puts_2 10 rfl) (mmC (mmI il_X11_puts_2 11 rfl) (mmC (mmI il_X11_puts_2 12 rfl) (mmC (mmI il_X11_puts_2 13 rfl) (mmC (mmI il_X11_puts_2 14 rfl) (mmC (mmI il_X11_puts_2 15 rfl) (mmC (mmI il_X11_puts_2 16 rfl) (mmC (mmI il_X11_puts_2 17 rfl) (mmC (mmI il_X11_puts_1 2 rfl) (mmC (mmI il_X11_puts_2 18 rfl) (mmC (mmI il_X11_puts_2 19 rfl) (mmC (mmI il_X11_puts_2 20 rfl) (mmC (mmI il_X11_puts_2 21 rfl) (mmC (mmI il_X11_puts_2 22 rfl) (mmC (mmI il_X11_puts_2 23 rfl) (mmC (mmI il_X11_puts_3 0 rfl) (mmC (mmI il_X11_puts_3 1 rfl) (mmC (mmI il_X11_puts_3 2 rfl) mmN)))))))))))))))))))))))) (mmA (mmC (mmI il_X11_puts_3 3 rfl) (mmC (mmI il_X11_puts_3 4 rfl) (mmC (mmI il_X11_puts_3 5 rfl) (mmC (mmI il_X11_puts_3 6 rfl) (mmC (mmI il_X11_puts_3 7 rfl) (mmC (mmI il_X11_puts_3 8 rfl) (mmC (mmI il_X11_puts_3 9 rfl) (mmC (mmI il_X11_puts_3 10 rfl) (mmC (mmI il_X11_puts_3 11 rfl) (mmC (mmI il_X11_puts_3 12 rfl) (mmC (mmI il_X11_puts_3 13 rfl) (mmC (mmI il_X11_puts_3 14 rfl) (mmC (mmI il_X11_puts_3 15 rfl) (mmC (mmI il_X11_puts_3 16 rfl) (mmC (mmI il_X11_puts_3 17 rfl) (mmC (mmI il_X11_puts_3 18 rfl) (mmC (mmI il_X11_puts_3 19 rfl) (mmC (mmI il_X11_puts_3 20 rfl) (mmC (mmI il_X11_puts_3 21 rfl) (mmC (mmI il_X11_puts_3 22 rfl) (mmC (mmI il_X11_puts_3 23 rfl) (mmC (mmI il_X11_puts_4 0 rfl) (mmC (mmI il_X11_puts_4 1 rfl) (mmC (mmI il_X11_puts_4 2 rfl) mmN)))))))))))))))))))))))) (mmA (mmC (mmI il_X11_puts_4 3 rfl) (mmC (mmI il_X11_puts_4 4 rfl) (mmC (mmI il_X11_puts_4 5 rfl) (mmC (mmI il_X11_puts_4 6 rfl) (mmC (mmI il_X11_puts_4 7 rfl) (mmC (mmI il_X11_puts_4 8 rfl) (mmC (mmI il_X11_puts_4 9 rfl) (mmC (mmI il_X11_puts_4 10 rfl) (mmC (mmI il_X11_puts_4 11 rfl) (mmC (mmI il_X11_puts_4 12 rfl) (mmC (mmI il_X11_puts_4 13 rfl) (mmC (mmI il_X11_puts_4 14 rfl) (mmC (mmI il_X11_puts_4 15 rfl) (mmC (mmI il_X11_puts_4 16 rfl) (mmC (mmI il_X11_puts_4 17 rfl) (mmC (mmI il_X11_puts_4 18 rfl) (mmC (mmI il_X11_puts_4 19 rfl) (mmC (mmI il_X11_puts_4 20 rfl) (mmC (mmI il_X11_puts_4 21 rfl) (mmC (mmI il_X11_puts_4 22 rfl) (mmC (mmI il_X11_puts_4 23 rfl) (mmC (mmI il_X11_puts_5 0 rfl) (mmC (mmI il_X11_puts_5 1 rfl) (mmC (mmI il_X11_puts_5 2 rfl) mmN)))))))))))))))))))))))) (mmC (mmI il_X11_puts_5 3 rfl) (mmC (mmI il_X11_puts_5 4 rfl) mmN)))))) il_X11_puts_6)) gw_X11_aboardOf
theorem gX11_puts_X11_aboardOf : GoodIn wsX11_puts (wsV RX11 269 RX11 yX11_aboardOf wsX11_aboardOf) := goodIn_app (goodIn_sub (mmC (mmI il_X11_puts_5 5 rfl) (mmC (mmI il_X11_puts_5 6 rfl) (mmC (mmI il_X11_puts_5 7 rfl) (mmC (mmI il_X11_puts_1 10 rfl) mmN)))) (by decide +kernel)) ggX11_puts_X11_aboardOf
set_option maxRecDepth 100000 in
theorem ggX11_puts_X11_lastHeard : GoodIn wsX11_puts wsX11_lastHeard := goodIn_sub (mmC (mmI il_X11_puts_2 21 rfl) (mmA (mmC (mmI il_X11_puts_1 18 rfl) (mmC (mmI il_X11_puts_1 13 rfl) (mmC (mmI il_X11_puts_1 19 rfl) (mmC (mmI il_X11_puts_1 20 rfl) (mmC (mmI il_X11_puts_1 21 rfl) mmN))))) il_X11_puts_6)) gw_X11_lastHeard
theorem gX11_puts_X11_lastHeard : GoodIn wsX11_puts (wsV RX11 272 RX11 yX11_lastHeard wsX11_lastHeard) := goodIn_app (goodIn_sub (mmC (mmI il_X11_puts_2 18 rfl) (mmC (mmI il_X11_puts_2 19 rfl) (mmC (mmI il_X11_puts_2 20 rfl) (mmC (mmI il_X11_puts_1 10 rfl) mmN)))) (by decide +kernel)) ggX11_puts_X11_lastHeard
set_option maxRecDepth 100000 in
theorem ggX11_puts_X11_bare : GoodIn wsX11_puts wsX11_bare := goodIn_sub (mmC (mmI il_X11_puts_2 17 rfl) (mmA (mmC (mmI il_X11_puts_1 2 rfl) mmN) il_X11_puts_6)) gw_X11_bare
theorem gX11_puts_X11_bare : GoodIn wsX11_puts (wsV RX11 275 RX11 yX11_bare wsX11_bare) := goodIn_app (goodIn_sub (mmC (mmI il_X11_puts_2 14 rfl) (mmC (mmI il_X11_puts_2 15 rfl) (mmC (mmI il_X11_puts_2 16 rfl) (mmC (mmI il_X11_puts_1 10 rfl) mmN)))) (by decide +kernel)) ggX11_puts_X11_bare
theorem dX11_puts_0 : decode cX11_puts 0 = .ok (.iconst 0, 1) := by decide +kernel
theorem dX11_puts_1 : decode cX11_puts 1 = .ok (.istore 6, 2) := by decide +kernel
theorem dX11_puts_3 : decode cX11_puts 3 = .ok (.aload_n 0, 1) := by decide +kernel
theorem dX11_puts_4 : decode cX11_puts 4 = .ok (.getfield 85, 3) := by decide +kernel
theorem dX11_puts_7 : decode cX11_puts 7 = .ok (.iload_n 1, 1) := by decide +kernel
theorem dX11_puts_8 : decode cX11_puts 8 = .ok (.iaload, 1) := by decide +kernel
theorem dX11_puts_9 : decode cX11_puts 9 = .ok (.istore 7, 2) := by decide +kernel
theorem dX11_puts_11 : decode cX11_puts 11 = .ok (.iload 7, 2) := by decide +kernel
theorem dX11_puts_13 : decode cX11_puts 13 = .ok (.iload_n 2, 1) := by decide +kernel
theorem dX11_puts_14 : decode cX11_puts 14 = .ok (.if_icmp .gt 31, 3) := by decide +kernel
theorem dX11_puts_17 : decode cX11_puts 17 = .ok (.iload 6, 2) := by decide +kernel
theorem dX11_puts_19 : decode cX11_puts 19 = .ok (.aload_n 0, 1) := by decide +kernel
theorem dX11_puts_20 : decode cX11_puts 20 = .ok (.iload_n 1, 1) := by decide +kernel
theorem dX11_puts_21 : decode cX11_puts 21 = .ok (.iload 7, 2) := by decide +kernel
theorem dX11_puts_23 : decode cX11_puts 23 = .ok (.iload_n 3, 1) := by decide +kernel
theorem dX11_puts_24 : decode cX11_puts 24 = .ok (.invokevirtual 266, 3) := by decide +kernel
theorem dX11_puts_27 : decode cX11_puts 27 = .ok (.iconst 1, 1) := by decide +kernel
theorem dX11_puts_28 : decode cX11_puts 28 = .ok (.if_icmp .ne 7, 3) := by decide +kernel
theorem dX11_puts_31 : decode cX11_puts 31 = .ok (.iconst 1, 1) := by decide +kernel
theorem dX11_puts_32 : decode cX11_puts 32 = .ok (.goto 4, 3) := by decide +kernel
theorem dX11_puts_35 : decode cX11_puts 35 = .ok (.iconst 0, 1) := by decide +kernel
theorem dX11_puts_36 : decode cX11_puts 36 = .ok (.iadd, 1) := by decide +kernel
theorem dX11_puts_37 : decode cX11_puts 37 = .ok (.istore 6, 2) := by decide +kernel
theorem dX11_puts_39 : decode cX11_puts 39 = .ok (.iinc 7 1, 3) := by decide +kernel
theorem dX11_puts_42 : decode cX11_puts 42 = .ok (.goto (-31), 3) := by decide +kernel
theorem dX11_puts_45 : decode cX11_puts 45 = .ok (.aload_n 0, 1) := by decide +kernel
theorem dX11_puts_46 : decode cX11_puts 46 = .ok (.aload_n 0, 1) := by decide +kernel
theorem dX11_puts_47 : decode cX11_puts 47 = .ok (.getfield 73, 3) := by decide +kernel
theorem dX11_puts_50 : decode cX11_puts 50 = .ok (.iload_n 1, 1) := by decide +kernel
theorem dX11_puts_51 : decode cX11_puts 51 = .ok (.iaload, 1) := by decide +kernel
theorem dX11_puts_52 : decode cX11_puts 52 = .ok (.iload_n 2, 1) := by decide +kernel
theorem dX11_puts_53 : decode cX11_puts 53 = .ok (.iload_n 3, 1) := by decide +kernel
theorem dX11_puts_54 : decode cX11_puts 54 = .ok (.invokevirtual 269, 3) := by decide +kernel
theorem dX11_puts_57 : decode cX11_puts 57 = .ok (.istore 7, 2) := by decide +kernel
theorem dX11_puts_59 : decode cX11_puts 59 = .ok (.aload_n 0, 1) := by decide +kernel
theorem dX11_puts_60 : decode cX11_puts 60 = .ok (.aload_n 0, 1) := by decide +kernel
theorem dX11_puts_61 : decode cX11_puts 61 = .ok (.getfield 73, 3) := by decide +kernel
theorem dX11_puts_64 : decode cX11_puts 64 = .ok (.iload_n 1, 1) := by decide +kernel
theorem dX11_puts_65 : decode cX11_puts 65 = .ok (.iaload, 1) := by decide +kernel
theorem dX11_puts_66 : decode cX11_puts 66 = .ok (.iload_n 2, 1) := by decide +kernel
theorem dX11_puts_67 : decode cX11_puts 67 = .ok (.iload_n 3, 1) := by decide +kernel
theorem dX11_puts_68 : decode cX11_puts 68 = .ok (.invokevirtual 272, 3) := by decide +kernel
theorem dX11_puts_71 : decode cX11_puts 71 = .ok (.istore 8, 2) := by decide +kernel
theorem dX11_puts_73 : decode cX11_puts 73 = .ok (.aload_n 0, 1) := by decide +kernel
theorem dX11_puts_74 : decode cX11_puts 74 = .ok (.invokevirtual 275, 3) := by decide +kernel
theorem dX11_puts_77 : decode cX11_puts 77 = .ok (.aload_n 0, 1) := by decide +kernel
theorem dX11_puts_78 : decode cX11_puts 78 = .ok (.getfield 128, 3) := by decide +kernel
theorem dX11_puts_81 : decode cX11_puts 81 = .ok (.bipush 119, 2) := by decide +kernel
theorem dX11_puts_83 : decode cX11_puts 83 = .ok (.aload_n 0, 1) := by decide +kernel
theorem dX11_puts_84 : decode cX11_puts 84 = .ok (.getfield 76, 3) := by decide +kernel
theorem dX11_puts_87 : decode cX11_puts 87 = .ok (.iload_n 1, 1) := by decide +kernel
theorem dX11_puts_88 : decode cX11_puts 88 = .ok (.iaload, 1) := by decide +kernel
theorem dX11_puts_89 : decode cX11_puts 89 = .ok (.iastore, 1) := by decide +kernel
theorem dX11_puts_90 : decode cX11_puts 90 = .ok (.aload_n 0, 1) := by decide +kernel
theorem dX11_puts_91 : decode cX11_puts 91 = .ok (.getfield 128, 3) := by decide +kernel
theorem dX11_puts_94 : decode cX11_puts 94 = .ok (.bipush 114, 2) := by decide +kernel
theorem dX11_puts_96 : decode cX11_puts 96 = .ok (.aload_n 0, 1) := by decide +kernel
theorem dX11_puts_97 : decode cX11_puts 97 = .ok (.getfield 79, 3) := by decide +kernel
theorem dX11_puts_100 : decode cX11_puts 100 = .ok (.iload_n 1, 1) := by decide +kernel
theorem dX11_puts_101 : decode cX11_puts 101 = .ok (.iaload, 1) := by decide +kernel
theorem dX11_puts_102 : decode cX11_puts 102 = .ok (.iastore, 1) := by decide +kernel
theorem dX11_puts_103 : decode cX11_puts 103 = .ok (.aload_n 0, 1) := by decide +kernel
theorem dX11_puts_104 : decode cX11_puts 104 = .ok (.getfield 128, 3) := by decide +kernel
theorem dX11_puts_107 : decode cX11_puts 107 = .ok (.bipush 97, 2) := by decide +kernel
theorem dX11_puts_109 : decode cX11_puts 109 = .ok (.iload_n 2, 1) := by decide +kernel
theorem dX11_puts_110 : decode cX11_puts 110 = .ok (.aload_n 0, 1) := by decide +kernel
theorem dX11_puts_111 : decode cX11_puts 111 = .ok (.getfield 22, 3) := by decide +kernel
theorem dX11_puts_114 : decode cX11_puts 114 = .ok (.aload_n 0, 1) := by decide +kernel
theorem dX11_puts_115 : decode cX11_puts 115 = .ok (.getfield 70, 3) := by decide +kernel
theorem dX11_puts_118 : decode cX11_puts 118 = .ok (.iload_n 1, 1) := by decide +kernel
theorem dX11_puts_119 : decode cX11_puts 119 = .ok (.iaload, 1) := by decide +kernel
theorem dX11_puts_120 : decode cX11_puts 120 = .ok (.iaload, 1) := by decide +kernel
theorem dX11_puts_121 : decode cX11_puts 121 = .ok (.isub, 1) := by decide +kernel
theorem dX11_puts_122 : decode cX11_puts 122 = .ok (.sipush 365, 3) := by decide +kernel
theorem dX11_puts_125 : decode cX11_puts 125 = .ok (.idiv, 1) := by decide +kernel
theorem dX11_puts_126 : decode cX11_puts 126 = .ok (.iastore, 1) := by decide +kernel
theorem dX11_puts_127 : decode cX11_puts 127 = .ok (.aload_n 0, 1) := by decide +kernel
theorem dX11_puts_128 : decode cX11_puts 128 = .ok (.getfield 128, 3) := by decide +kernel
theorem dX11_puts_131 : decode cX11_puts 131 = .ok (.bipush 100, 2) := by decide +kernel
theorem dX11_puts_133 : decode cX11_puts 133 = .ok (.iload 6, 2) := by decide +kernel
theorem dX11_puts_135 : decode cX11_puts 135 = .ok (.iastore, 1) := by decide +kernel
theorem dX11_puts_136 : decode cX11_puts 136 = .ok (.aload_n 0, 1) := by decide +kernel
theorem dX11_puts_137 : decode cX11_puts 137 = .ok (.getfield 128, 3) := by decide +kernel
theorem dX11_puts_140 : decode cX11_puts 140 = .ok (.bipush 110, 2) := by decide +kernel
theorem dX11_puts_142 : decode cX11_puts 142 = .ok (.iload 7, 2) := by decide +kernel
theorem dX11_puts_144 : decode cX11_puts 144 = .ok (.iastore, 1) := by decide +kernel
theorem dX11_puts_145 : decode cX11_puts 145 = .ok (.aload_n 0, 1) := by decide +kernel
theorem dX11_puts_146 : decode cX11_puts 146 = .ok (.getfield 128, 3) := by decide +kernel
theorem dX11_puts_149 : decode cX11_puts 149 = .ok (.bipush 115, 2) := by decide +kernel
theorem dX11_puts_151 : decode cX11_puts 151 = .ok (.iload 4, 2) := by decide +kernel
theorem dX11_puts_153 : decode cX11_puts 153 = .ok (.iastore, 1) := by decide +kernel
theorem dX11_puts_154 : decode cX11_puts 154 = .ok (.aload_n 0, 1) := by decide +kernel
theorem dX11_puts_155 : decode cX11_puts 155 = .ok (.getfield 128, 3) := by decide +kernel
theorem dX11_puts_158 : decode cX11_puts 158 = .ok (.bipush 108, 2) := by decide +kernel
theorem dX11_puts_160 : decode cX11_puts 160 = .ok (.iload 8, 2) := by decide +kernel
theorem dX11_puts_162 : decode cX11_puts 162 = .ok (.ifCond .ge 7, 3) := by decide +kernel
theorem dX11_puts_165 : decode cX11_puts 165 = .ok (.iconst 0, 1) := by decide +kernel
theorem dX11_puts_166 : decode cX11_puts 166 = .ok (.goto 7, 3) := by decide +kernel
theorem dX11_puts_169 : decode cX11_puts 169 = .ok (.iload_n 2, 1) := by decide +kernel
theorem dX11_puts_170 : decode cX11_puts 170 = .ok (.iload 8, 2) := by decide +kernel
theorem dX11_puts_172 : decode cX11_puts 172 = .ok (.isub, 1) := by decide +kernel
theorem dX11_puts_173 : decode cX11_puts 173 = .ok (.iastore, 1) := by decide +kernel
theorem dX11_puts_174 : decode cX11_puts 174 = .ok (.aload_n 0, 1) := by decide +kernel
theorem dX11_puts_175 : decode cX11_puts 175 = .ok (.getfield 128, 3) := by decide +kernel
theorem dX11_puts_178 : decode cX11_puts 178 = .ok (.bipush 120, 2) := by decide +kernel
theorem dX11_puts_180 : decode cX11_puts 180 = .ok (.iload 5, 2) := by decide +kernel
theorem dX11_puts_182 : decode cX11_puts 182 = .ok (.ifCond .eq 7, 3) := by decide +kernel
theorem dX11_puts_185 : decode cX11_puts 185 = .ok (.iconst 1, 1) := by decide +kernel
theorem dX11_puts_186 : decode cX11_puts 186 = .ok (.goto 4, 3) := by decide +kernel
theorem dX11_puts_189 : decode cX11_puts 189 = .ok (.iconst 0, 1) := by decide +kernel
theorem dX11_puts_190 : decode cX11_puts 190 = .ok (.iastore, 1) := by decide +kernel
theorem dX11_puts_191 : decode cX11_puts 191 = .ok (.return_, 1) := by decide +kernel
set_option maxRecDepth 100000 in
theorem ggX11_isUnknown_X11_hasSailed : GoodIn wsX11_isUnknown wsX11_hasSailed := goodIn_sub (mmC (mmI il_X11_isUnknown_1 4 rfl) (mmA (mmC (mmI il_X11_isUnknown_1 5 rfl) (mmC (mmI il_X11_isUnknown_1 6 rfl) (mmC (mmI il_X11_isUnknown_1 7 rfl) (mmC (mmI il_X11_isUnknown_1 3 rfl) (mmC (mmI il_X11_isUnknown_1 8 rfl) (mmC (mmI il_X11_isUnknown_1 9 rfl) (mmC (mmI il_X11_isUnknown_1 10 rfl) (mmC (mmI il_X11_isUnknown_1 11 rfl) (mmC (mmI il_X11_isUnknown_1 12 rfl) (mmC (mmI il_X11_isUnknown_1 13 rfl) mmN)))))))))) il_X11_isUnknown_5)) gw_X11_hasSailed
theorem gX11_isUnknown_X11_hasSailed : GoodIn wsX11_isUnknown (wsV RX11 281 RX11 yX11_hasSailed wsX11_hasSailed) := goodIn_app (goodIn_sub (mmC (mmI il_X11_isUnknown_1 0 rfl) (mmC (mmI il_X11_isUnknown_1 1 rfl) (mmC (mmI il_X11_isUnknown_1 2 rfl) (mmC (mmI il_X11_isUnknown_1 3 rfl) mmN)))) (by decide +kernel)) ggX11_isUnknown_X11_hasSailed
set_option maxRecDepth 100000 in
theorem ggX11_isUnknown_X11_bare : GoodIn wsX11_isUnknown wsX11_bare := goodIn_sub (mmC (mmI il_X11_isUnknown_1 17 rfl) (mmA (mmC (mmI il_X11_isUnknown_1 18 rfl) mmN) il_X11_isUnknown_5)) gw_X11_bare
theorem gX11_isUnknown_X11_bare : GoodIn wsX11_isUnknown (wsV RX11 275 RX11 yX11_bare wsX11_bare) := goodIn_app (goodIn_sub (mmC (mmI il_X11_isUnknown_1 14 rfl) (mmC (mmI il_X11_isUnknown_1 15 rfl) (mmC (mmI il_X11_isUnknown_1 16 rfl) (mmC (mmI il_X11_isUnknown_1 3 rfl) mmN)))) (by decide +kernel)) ggX11_isUnknown_X11_bare
set_option maxRecDepth 100000 in
theorem ggX11_isUnknown_X11_lastHeard : GoodIn wsX11_isUnknown wsX11_lastHeard := goodIn_sub (mmC (mmI il_X11_isUnknown_1 22 rfl) (mmA (mmC (mmI il_X11_isUnknown_1 9 rfl) (mmC (mmI il_X11_isUnknown_1 10 rfl) (mmC (mmI il_X11_isUnknown_1 11 rfl) (mmC (mmI il_X11_isUnknown_1 12 rfl) (mmC (mmI il_X11_isUnknown_1 13 rfl) mmN))))) il_X11_isUnknown_5)) gw_X11_lastHeard
theorem gX11_isUnknown_X11_lastHeard : GoodIn wsX11_isUnknown (wsV RX11 272 RX11 yX11_lastHeard wsX11_lastHeard) := goodIn_app (goodIn_sub (mmC (mmI il_X11_isUnknown_1 19 rfl) (mmC (mmI il_X11_isUnknown_1 20 rfl) (mmC (mmI il_X11_isUnknown_1 21 rfl) (mmC (mmI il_X11_isUnknown_1 3 rfl) mmN)))) (by decide +kernel)) ggX11_isUnknown_X11_lastHeard
set_option maxRecDepth 100000 in
theorem ggX11_isUnknown_X11_worth : GoodIn wsX11_isUnknown wsX11_worth := goodIn_sub (mmC (mmI il_X11_isUnknown_2 2 rfl) (mmA (mmA (mmC (mmI il_X11_isUnknown_2 3 rfl) (mmC (mmI il_X11_isUnknown_1 18 rfl) (mmC (mmI il_X11_isUnknown_2 4 rfl) (mmC (mmI il_X11_isUnknown_2 5 rfl) (mmC (mmI il_X11_isUnknown_2 6 rfl) (mmC (mmI il_X11_isUnknown_1 3 rfl) (mmC (mmI il_X11_isUnknown_2 7 rfl) (mmC (mmI il_X11_isUnknown_2 8 rfl) (mmC (mmI il_X11_isUnknown_2 9 rfl) (mmC (mmI il_X11_isUnknown_2 10 rfl) (mmC (mmI il_X11_isUnknown_2 11 rfl) (mmC (mmI il_X11_isUnknown_2 12 rfl) (mmC (mmI il_X11_isUnknown_2 13 rfl) (mmC (mmI il_X11_isUnknown_2 14 rfl) (mmC (mmI il_X11_isUnknown_2 15 rfl) (mmC (mmI il_X11_isUnknown_2 16 rfl) (mmC (mmI il_X11_isUnknown_2 17 rfl) (mmC (mmI il_X11_isUnknown_2 18 rfl) (mmC (mmI il_X11_isUnknown_2 19 rfl) (mmC (mmI il_X11_isUnknown_2 20 rfl) (mmC (mmI il_X11_isUnknown_2 21 rfl) (mmC (mmI il_X11_isUnknown_2 22 rfl) (mmC (mmI il_X11_isUnknown_2 23 rfl) (mmC (mmI il_X11_isUnknown_3 0 rfl) mmN)))))))))))))))))))))))) (mmA (mmC (mmI il_X11_isUnknown_3 1 rfl) (mmC (mmI il_X11_isUnknown_3 2 rfl) (mmC (mmI il_X11_isUnknown_3 3 rfl) (mmC (mmI il_X11_isUnknown_3 4 rfl) (mmC (mmI il_X11_isUnknown_3 5 rfl) (mmC (mmI il_X11_isUnknown_3 6 rfl) (mmC (mmI il_X11_isUnknown_3 7 rfl) (mmC (mmI il_X11_isUnknown_3 8 rfl) (mmC (mmI il_X11_isUnknown_3 9 rfl) (mmC (mmI il_X11_isUnknown_3 10 rfl) (mmC (mmI il_X11_isUnknown_3 11 rfl) (mmC (mmI il_X11_isUnknown_3 12 rfl) (mmC (mmI il_X11_isUnknown_3 13 rfl) (mmC (mmI il_X11_isUnknown_3 14 rfl) (mmC (mmI il_X11_isUnknown_3 15 rfl) (mmC (mmI il_X11_isUnknown_3 16 rfl) (mmC (mmI il_X11_isUnknown_3 17 rfl) (mmC (mmI il_X11_isUnknown_3 18 rfl) (mmC (mmI il_X11_isUnknown_3 19 rfl) (mmC (mmI il_X11_isUnknown_3 20 rfl) (mmC (mmI il_X11_isUnknown_3 21 rfl) (mmC (mmI il_X11_isUnknown_3 22 rfl) (mmC (mmI il_X11_isUnknown_3 23 rfl) (mmC (mmI il_X11_isUnknown_4 0 rfl) mmN)))))))))))))))))))))))) (mmC (mmI il_X11_isUnknown_4 1 rfl) (mmC (mmI il_X11_isUnknown_4 2 rfl) (mmC (mmI il_X11_isUnknown_4 3 rfl) (mmC (mmI il_X11_isUnknown_4 4 rfl) (mmC (mmI il_X11_isUnknown_4 5 rfl) mmN))))))) il_X11_isUnknown_5)) gw_X11_worth
theorem gX11_isUnknown_X11_worth : GoodIn wsX11_isUnknown (wsV RX11 285 RX11 yX11_worth wsX11_worth) := goodIn_app (goodIn_sub (mmC (mmI il_X11_isUnknown_1 23 rfl) (mmC (mmI il_X11_isUnknown_2 0 rfl) (mmC (mmI il_X11_isUnknown_2 1 rfl) (mmC (mmI il_X11_isUnknown_1 3 rfl) mmN)))) (by decide +kernel)) ggX11_isUnknown_X11_worth
theorem dX11_isUnknown_0 : decode cX11_isUnknown 0 = .ok (.aload_n 0, 1) := by decide +kernel
theorem dX11_isUnknown_1 : decode cX11_isUnknown 1 = .ok (.iload_n 1, 1) := by decide +kernel
theorem dX11_isUnknown_2 : decode cX11_isUnknown 2 = .ok (.iload_n 2, 1) := by decide +kernel
theorem dX11_isUnknown_3 : decode cX11_isUnknown 3 = .ok (.iload_n 3, 1) := by decide +kernel
theorem dX11_isUnknown_4 : decode cX11_isUnknown 4 = .ok (.invokevirtual 281, 3) := by decide +kernel
theorem dX11_isUnknown_7 : decode cX11_isUnknown 7 = .ok (.ifCond .ne 5, 3) := by decide +kernel
theorem dX11_isUnknown_10 : decode cX11_isUnknown 10 = .ok (.iconst 0, 1) := by decide +kernel
theorem dX11_isUnknown_11 : decode cX11_isUnknown 11 = .ok (.ireturn, 1) := by decide +kernel
theorem dX11_isUnknown_12 : decode cX11_isUnknown 12 = .ok (.aload_n 0, 1) := by decide +kernel
theorem dX11_isUnknown_13 : decode cX11_isUnknown 13 = .ok (.invokevirtual 275, 3) := by decide +kernel
theorem dX11_isUnknown_16 : decode cX11_isUnknown 16 = .ok (.aload_n 0, 1) := by decide +kernel
theorem dX11_isUnknown_17 : decode cX11_isUnknown 17 = .ok (.iload_n 1, 1) := by decide +kernel
theorem dX11_isUnknown_18 : decode cX11_isUnknown 18 = .ok (.iload_n 2, 1) := by decide +kernel
theorem dX11_isUnknown_19 : decode cX11_isUnknown 19 = .ok (.iload_n 3, 1) := by decide +kernel
theorem dX11_isUnknown_20 : decode cX11_isUnknown 20 = .ok (.invokevirtual 272, 3) := by decide +kernel
theorem dX11_isUnknown_23 : decode cX11_isUnknown 23 = .ok (.i2l, 1) := by decide +kernel
theorem dX11_isUnknown_24 : decode cX11_isUnknown 24 = .ok (.iload_n 2, 1) := by decide +kernel
theorem dX11_isUnknown_25 : decode cX11_isUnknown 25 = .ok (.i2l, 1) := by decide +kernel
theorem dX11_isUnknown_26 : decode cX11_isUnknown 26 = .ok (.aload_n 0, 1) := by decide +kernel
theorem dX11_isUnknown_27 : decode cX11_isUnknown 27 = .ok (.iconst 4, 1) := by decide +kernel
theorem dX11_isUnknown_28 : decode cX11_isUnknown 28 = .ok (.iload_n 2, 1) := by decide +kernel
theorem dX11_isUnknown_29 : decode cX11_isUnknown 29 = .ok (.invokevirtual 285, 3) := by decide +kernel
theorem dX11_isUnknown_32 : decode cX11_isUnknown 32 = .ok (.i2l, 1) := by decide +kernel
theorem dX11_isUnknown_33 : decode cX11_isUnknown 33 = .ok (.lsub, 1) := by decide +kernel
theorem dX11_isUnknown_34 : decode cX11_isUnknown 34 = .ok (.lcmp, 1) := by decide +kernel
theorem dX11_isUnknown_35 : decode cX11_isUnknown 35 = .ok (.ifCond .ge 7, 3) := by decide +kernel
theorem dX11_isUnknown_38 : decode cX11_isUnknown 38 = .ok (.iconst 1, 1) := by decide +kernel
theorem dX11_isUnknown_39 : decode cX11_isUnknown 39 = .ok (.goto 4, 3) := by decide +kernel
theorem dX11_isUnknown_42 : decode cX11_isUnknown 42 = .ok (.iconst 0, 1) := by decide +kernel
theorem dX11_isUnknown_43 : decode cX11_isUnknown 43 = .ok (.ireturn, 1) := by decide +kernel
set_option maxRecDepth 100000 in
theorem ggX11_stateOf_X11_isDead : GoodIn wsX11_stateOf wsX11_isDead := goodIn_sub (mmC (mmI il_X11_stateOf_1 8 rfl) (mmA (mmC (mmI il_X11_stateOf_1 9 rfl) (mmC (mmI il_X11_stateOf_1 2 rfl) (mmC (mmI il_X11_stateOf_1 10 rfl) (mmC (mmI il_X11_stateOf_1 3 rfl) (mmC (mmI il_X11_stateOf_1 11 rfl) (mmC (mmI il_X11_stateOf_1 12 rfl) mmN)))))) il_X11_stateOf_5)) gw_X11_isDead
theorem gX11_stateOf_X11_isDead : GoodIn wsX11_stateOf (wsV RX11 288 RX11 yX11_isDead wsX11_isDead) := goodIn_app (goodIn_sub (mmC (mmI il_X11_stateOf_1 4 rfl) (mmC (mmI il_X11_stateOf_1 5 rfl) (mmC (mmI il_X11_stateOf_1 6 rfl) (mmC (mmI il_X11_stateOf_1 7 rfl) mmN)))) (by decide +kernel)) ggX11_stateOf_X11_isDead
set_option maxRecDepth 100000 in
theorem ggX11_stateOf_X11_whereOf : GoodIn wsX11_stateOf wsX11_whereOf := goodIn_sub (mmC (mmI il_X11_stateOf_1 16 rfl) (mmA (mmC (mmI il_X11_stateOf_1 9 rfl) (mmC (mmI il_X11_stateOf_1 2 rfl) (mmC (mmI il_X11_stateOf_1 10 rfl) (mmC (mmI il_X11_stateOf_1 11 rfl) (mmC (mmI il_X11_stateOf_1 12 rfl) mmN))))) il_X11_stateOf_5)) gw_X11_whereOf
theorem gX11_stateOf_X11_whereOf : GoodIn wsX11_stateOf (wsV RX11 291 RX11 yX11_whereOf wsX11_whereOf) := goodIn_app (goodIn_sub (mmC (mmI il_X11_stateOf_1 13 rfl) (mmC (mmI il_X11_stateOf_1 14 rfl) (mmC (mmI il_X11_stateOf_1 15 rfl) (mmC (mmI il_X11_stateOf_1 7 rfl) mmN)))) (by decide +kernel)) ggX11_stateOf_X11_whereOf
set_option maxRecDepth 100000 in
theorem ggX11_stateOf_X11_hasSailed : GoodIn wsX11_stateOf wsX11_hasSailed := goodIn_sub (mmC (mmI il_X11_stateOf_1 20 rfl) (mmA (mmC (mmI il_X11_stateOf_1 21 rfl) (mmC (mmI il_X11_stateOf_1 22 rfl) (mmC (mmI il_X11_stateOf_1 23 rfl) (mmC (mmI il_X11_stateOf_1 7 rfl) (mmC (mmI il_X11_stateOf_2 0 rfl) (mmC (mmI il_X11_stateOf_1 9 rfl) (mmC (mmI il_X11_stateOf_1 2 rfl) (mmC (mmI il_X11_stateOf_1 10 rfl) (mmC (mmI il_X11_stateOf_1 11 rfl) (mmC (mmI il_X11_stateOf_1 12 rfl) mmN)))))))))) il_X11_stateOf_5)) gw_X11_hasSailed
theorem gX11_stateOf_X11_hasSailed : GoodIn wsX11_stateOf (wsV RX11 281 RX11 yX11_hasSailed wsX11_hasSailed) := goodIn_app (goodIn_sub (mmC (mmI il_X11_stateOf_1 17 rfl) (mmC (mmI il_X11_stateOf_1 18 rfl) (mmC (mmI il_X11_stateOf_1 19 rfl) (mmC (mmI il_X11_stateOf_1 7 rfl) mmN)))) (by decide +kernel)) ggX11_stateOf_X11_hasSailed
set_option maxRecDepth 100000 in
theorem ggX11_stateOf_X11_isUnknown : GoodIn wsX11_stateOf wsX11_isUnknown := goodIn_sub (mmC (mmI il_X11_stateOf_2 4 rfl) (mmA (mmA (mmC (mmI il_X11_stateOf_1 17 rfl) (mmC (mmI il_X11_stateOf_1 18 rfl) (mmC (mmI il_X11_stateOf_1 19 rfl) (mmC (mmI il_X11_stateOf_1 7 rfl) (mmC (mmI il_X11_stateOf_1 20 rfl) (mmC (mmI il_X11_stateOf_1 21 rfl) (mmC (mmI il_X11_stateOf_1 22 rfl) (mmC (mmI il_X11_stateOf_1 23 rfl) (mmC (mmI il_X11_stateOf_2 0 rfl) (mmC (mmI il_X11_stateOf_1 9 rfl) (mmC (mmI il_X11_stateOf_1 2 rfl) (mmC (mmI il_X11_stateOf_1 10 rfl) (mmC (mmI il_X11_stateOf_1 11 rfl) (mmC (mmI il_X11_stateOf_1 12 rfl) (mmC (mmI il_X11_stateOf_2 5 rfl) (mmC (mmI il_X11_stateOf_2 6 rfl) (mmC (mmI il_X11_stateOf_2 7 rfl) (mmC (mmI il_X11_stateOf_2 8 rfl) (mmC (mmI il_X11_stateOf_2 9 rfl) (mmC (mmI il_X11_stateOf_2 10 rfl) (mmC (mmI il_X11_stateOf_2 11 rfl) (mmC (mmI il_X11_stateOf_2 12 rfl) (mmC (mmI il_X11_stateOf_2 13 rfl) (mmC (mmI il_X11_stateOf_2 14 rfl) mmN)))))))))))))))))))))))) (mmA (mmC (mmI il_X11_stateOf_2 15 rfl) (mmC (mmI il_X11_stateOf_2 16 rfl) (mmC (mmI il_X11_stateOf_2 17 rfl) (mmC (mmI il_X11_stateOf_2 18 rfl) (mmC (mmI il_X11_stateOf_2 19 rfl) (mmC (mmI il_X11_stateOf_2 20 rfl) (mmC (mmI il_X11_stateOf_2 21 rfl) (mmC (mmI il_X11_stateOf_2 22 rfl) (mmC (mmI il_X11_stateOf_2 23 rfl) (mmC (mmI il_X11_stateOf_3 0 rfl) (mmC (mmI il_X11_stateOf_3 1 rfl) (mmC (mmI il_X11_stateOf_3 2 rfl) (mmC (mmI il_X11_stateOf_3 3 rfl) (mmC (mmI il_X11_stateOf_3 4 rfl) (mmC (mmI il_X11_stateOf_3 5 rfl) (mmC (mmI il_X11_stateOf_3 6 rfl) (mmC (mmI il_X11_stateOf_3 7 rfl) (mmC (mmI il_X11_stateOf_3 8 rfl) (mmC (mmI il_X11_stateOf_3 9 rfl) (mmC (mmI il_X11_stateOf_3 10 rfl) (mmC (mmI il_X11_stateOf_3 11 rfl) (mmC (mmI il_X11_stateOf_3 12 rfl) (mmC (mmI il_X11_stateOf_3 13 rfl) (mmC (mmI il_X11_stateOf_3 14 rfl) mmN)))))))))))))))))))))))) (mmA (mmC (mmI il_X11_stateOf_3 15 rfl) (mmC (mmI il_X11_stateOf_3 16 rfl) (mmC (mmI il_X11_stateOf_3 17 rfl) (mmC (mmI il_X11_stateOf_3 18 rfl) (mmC (mmI il_X11_stateOf_3 19 rfl) (mmC (mmI il_X11_stateOf_3 20 rfl) (mmC (mmI il_X11_stateOf_3 21 rfl) (mmC (mmI il_X11_stateOf_3 22 rfl) (mmC (mmI il_X11_stateOf_3 23 rfl) (mmC (mmI il_X11_stateOf_4 0 rfl) (mmC (mmI il_X11_stateOf_4 1 rfl) (mmC (mmI il_X11_stateOf_4 2 rfl) (mmC (mmI il_X11_stateOf_4 3 rfl) (mmC (mmI il_X11_stateOf_4 4 rfl) (mmC (mmI il_X11_stateOf_4 5 rfl) (mmC (mmI il_X11_stateOf_4 6 rfl) (mmC (mmI il_X11_stateOf_4 7 rfl) (mmC (mmI il_X11_stateOf_4 8 rfl) (mmC (mmI il_X11_stateOf_4 9 rfl) (mmC (mmI il_X11_stateOf_4 10 rfl) (mmC (mmI il_X11_stateOf_4 11 rfl) (mmC (mmI il_X11_stateOf_4 12 rfl) (mmC (mmI il_X11_stateOf_4 13 rfl) (mmC (mmI il_X11_stateOf_4 14 rfl) mmN)))))))))))))))))))))))) (mmC (mmI il_X11_stateOf_4 15 rfl) (mmC (mmI il_X11_stateOf_4 16 rfl) (mmC (mmI il_X11_stateOf_4 17 rfl) (mmC (mmI il_X11_stateOf_4 18 rfl) (mmC (mmI il_X11_stateOf_4 19 rfl) (mmC (mmI il_X11_stateOf_4 20 rfl) mmN))))))))) il_X11_stateOf_5)) gw_X11_isUnknown
theorem gX11_stateOf_X11_isUnknown : GoodIn wsX11_stateOf (wsV RX11 294 RX11 yX11_isUnknown wsX11_isUnknown) := goodIn_app (goodIn_sub (mmC (mmI il_X11_stateOf_2 1 rfl) (mmC (mmI il_X11_stateOf_2 2 rfl) (mmC (mmI il_X11_stateOf_2 3 rfl) (mmC (mmI il_X11_stateOf_1 7 rfl) mmN)))) (by decide +kernel)) ggX11_stateOf_X11_isUnknown
theorem dX11_stateOf_0 : decode cX11_stateOf 0 = .ok (.iload_n 2, 1) := by decide +kernel
theorem dX11_stateOf_1 : decode cX11_stateOf 1 = .ok (.aload_n 0, 1) := by decide +kernel
theorem dX11_stateOf_2 : decode cX11_stateOf 2 = .ok (.getfield 85, 3) := by decide +kernel
theorem dX11_stateOf_5 : decode cX11_stateOf 5 = .ok (.iload_n 1, 1) := by decide +kernel
theorem dX11_stateOf_6 : decode cX11_stateOf 6 = .ok (.iaload, 1) := by decide +kernel
theorem dX11_stateOf_7 : decode cX11_stateOf 7 = .ok (.if_icmp .ge 6, 3) := by decide +kernel
theorem dX11_stateOf_10 : decode cX11_stateOf 10 = .ok (.bipush (-9), 2) := by decide +kernel
theorem dX11_stateOf_12 : decode cX11_stateOf 12 = .ok (.ireturn, 1) := by decide +kernel
theorem dX11_stateOf_13 : decode cX11_stateOf 13 = .ok (.aload_n 0, 1) := by decide +kernel
theorem dX11_stateOf_14 : decode cX11_stateOf 14 = .ok (.iload_n 1, 1) := by decide +kernel
theorem dX11_stateOf_15 : decode cX11_stateOf 15 = .ok (.iload_n 2, 1) := by decide +kernel
theorem dX11_stateOf_16 : decode cX11_stateOf 16 = .ok (.iload_n 3, 1) := by decide +kernel
theorem dX11_stateOf_17 : decode cX11_stateOf 17 = .ok (.invokevirtual 288, 3) := by decide +kernel
theorem dX11_stateOf_20 : decode cX11_stateOf 20 = .ok (.ifCond .eq 5, 3) := by decide +kernel
theorem dX11_stateOf_23 : decode cX11_stateOf 23 = .ok (.iconst 4, 1) := by decide +kernel
theorem dX11_stateOf_24 : decode cX11_stateOf 24 = .ok (.ireturn, 1) := by decide +kernel
theorem dX11_stateOf_25 : decode cX11_stateOf 25 = .ok (.aload_n 0, 1) := by decide +kernel
theorem dX11_stateOf_26 : decode cX11_stateOf 26 = .ok (.getfield 88, 3) := by decide +kernel
theorem dX11_stateOf_29 : decode cX11_stateOf 29 = .ok (.iload_n 1, 1) := by decide +kernel
theorem dX11_stateOf_30 : decode cX11_stateOf 30 = .ok (.iaload, 1) := by decide +kernel
theorem dX11_stateOf_31 : decode cX11_stateOf 31 = .ok (.ifCond .lt 15, 3) := by decide +kernel
theorem dX11_stateOf_34 : decode cX11_stateOf 34 = .ok (.aload_n 0, 1) := by decide +kernel
theorem dX11_stateOf_35 : decode cX11_stateOf 35 = .ok (.getfield 88, 3) := by decide +kernel
theorem dX11_stateOf_38 : decode cX11_stateOf 38 = .ok (.iload_n 1, 1) := by decide +kernel
theorem dX11_stateOf_39 : decode cX11_stateOf 39 = .ok (.iaload, 1) := by decide +kernel
theorem dX11_stateOf_40 : decode cX11_stateOf 40 = .ok (.iload_n 2, 1) := by decide +kernel
theorem dX11_stateOf_41 : decode cX11_stateOf 41 = .ok (.if_icmp .gt 5, 3) := by decide +kernel
theorem dX11_stateOf_44 : decode cX11_stateOf 44 = .ok (.iconst 5, 1) := by decide +kernel
theorem dX11_stateOf_45 : decode cX11_stateOf 45 = .ok (.ireturn, 1) := by decide +kernel
theorem dX11_stateOf_46 : decode cX11_stateOf 46 = .ok (.aload_n 0, 1) := by decide +kernel
theorem dX11_stateOf_47 : decode cX11_stateOf 47 = .ok (.iload_n 1, 1) := by decide +kernel
theorem dX11_stateOf_48 : decode cX11_stateOf 48 = .ok (.iload_n 2, 1) := by decide +kernel
theorem dX11_stateOf_49 : decode cX11_stateOf 49 = .ok (.iload_n 3, 1) := by decide +kernel
theorem dX11_stateOf_50 : decode cX11_stateOf 50 = .ok (.invokevirtual 291, 3) := by decide +kernel
theorem dX11_stateOf_53 : decode cX11_stateOf 53 = .ok (.istore 4, 2) := by decide +kernel
theorem dX11_stateOf_55 : decode cX11_stateOf 55 = .ok (.iload 4, 2) := by decide +kernel
theorem dX11_stateOf_57 : decode cX11_stateOf 57 = .ok (.ifCond .lt 16, 3) := by decide +kernel
theorem dX11_stateOf_60 : decode cX11_stateOf 60 = .ok (.aload_n 0, 1) := by decide +kernel
theorem dX11_stateOf_61 : decode cX11_stateOf 61 = .ok (.getfield 40, 3) := by decide +kernel
theorem dX11_stateOf_64 : decode cX11_stateOf 64 = .ok (.iload 4, 2) := by decide +kernel
theorem dX11_stateOf_66 : decode cX11_stateOf 66 = .ok (.iaload, 1) := by decide +kernel
theorem dX11_stateOf_67 : decode cX11_stateOf 67 = .ok (.iconst 3, 1) := by decide +kernel
theorem dX11_stateOf_68 : decode cX11_stateOf 68 = .ok (.if_icmp .ne 5, 3) := by decide +kernel
theorem dX11_stateOf_71 : decode cX11_stateOf 71 = .ok (.iconst 3, 1) := by decide +kernel
theorem dX11_stateOf_72 : decode cX11_stateOf 72 = .ok (.ireturn, 1) := by decide +kernel
theorem dX11_stateOf_73 : decode cX11_stateOf 73 = .ok (.aload_n 0, 1) := by decide +kernel
theorem dX11_stateOf_74 : decode cX11_stateOf 74 = .ok (.aload_n 0, 1) := by decide +kernel
theorem dX11_stateOf_75 : decode cX11_stateOf 75 = .ok (.getfield 73, 3) := by decide +kernel
theorem dX11_stateOf_78 : decode cX11_stateOf 78 = .ok (.iload_n 1, 1) := by decide +kernel
theorem dX11_stateOf_79 : decode cX11_stateOf 79 = .ok (.iaload, 1) := by decide +kernel
theorem dX11_stateOf_80 : decode cX11_stateOf 80 = .ok (.iload_n 2, 1) := by decide +kernel
theorem dX11_stateOf_81 : decode cX11_stateOf 81 = .ok (.iload_n 3, 1) := by decide +kernel
theorem dX11_stateOf_82 : decode cX11_stateOf 82 = .ok (.invokevirtual 281, 3) := by decide +kernel
theorem dX11_stateOf_85 : decode cX11_stateOf 85 = .ok (.ifCond .ne 5, 3) := by decide +kernel
theorem dX11_stateOf_88 : decode cX11_stateOf 88 = .ok (.iconst 0, 1) := by decide +kernel
theorem dX11_stateOf_89 : decode cX11_stateOf 89 = .ok (.ireturn, 1) := by decide +kernel
theorem dX11_stateOf_90 : decode cX11_stateOf 90 = .ok (.aload_n 0, 1) := by decide +kernel
theorem dX11_stateOf_91 : decode cX11_stateOf 91 = .ok (.aload_n 0, 1) := by decide +kernel
theorem dX11_stateOf_92 : decode cX11_stateOf 92 = .ok (.getfield 73, 3) := by decide +kernel
theorem dX11_stateOf_95 : decode cX11_stateOf 95 = .ok (.iload_n 1, 1) := by decide +kernel
theorem dX11_stateOf_96 : decode cX11_stateOf 96 = .ok (.iaload, 1) := by decide +kernel
theorem dX11_stateOf_97 : decode cX11_stateOf 97 = .ok (.iload_n 2, 1) := by decide +kernel
theorem dX11_stateOf_98 : decode cX11_stateOf 98 = .ok (.iload_n 3, 1) := by decide +kernel
theorem dX11_stateOf_99 : decode cX11_stateOf 99 = .ok (.invokevirtual 294, 3) := by decide +kernel
theorem dX11_stateOf_102 : decode cX11_stateOf 102 = .ok (.ifCond .eq 7, 3) := by decide +kernel
theorem dX11_stateOf_105 : decode cX11_stateOf 105 = .ok (.iconst 2, 1) := by decide +kernel
theorem dX11_stateOf_106 : decode cX11_stateOf 106 = .ok (.goto 4, 3) := by decide +kernel
theorem dX11_stateOf_109 : decode cX11_stateOf 109 = .ok (.iconst 1, 1) := by decide +kernel
theorem dX11_stateOf_110 : decode cX11_stateOf 110 = .ok (.ireturn, 1) := by decide +kernel
set_option maxRecDepth 100000 in
theorem ggX11_aboardOf_X11_stateOf : GoodIn wsX11_aboardOf wsX11_stateOf := goodIn_sub (mmC (mmI il_X11_aboardOf_1 6 rfl) (mmA (mmA (mmC (mmI il_X11_aboardOf_1 7 rfl) (mmC (mmI il_X11_aboardOf_1 8 rfl) (mmC (mmI il_X11_aboardOf_1 9 rfl) (mmC (mmI il_X11_aboardOf_1 1 rfl) (mmC (mmI il_X11_aboardOf_1 10 rfl) (mmC (mmI il_X11_aboardOf_1 11 rfl) (mmC (mmI il_X11_aboardOf_1 12 rfl) (mmC (mmI il_X11_aboardOf_1 5 rfl) (mmC (mmI il_X11_aboardOf_1 13 rfl) (mmC (mmI il_X11_aboardOf_1 14 rfl) (mmC (mmI il_X11_aboardOf_1 15 rfl) (mmC (mmI il_X11_aboardOf_1 16 rfl) (mmC (mmI il_X11_aboardOf_1 17 rfl) (mmC (mmI il_X11_aboardOf_1 18 rfl) (mmC (mmI il_X11_aboardOf_1 19 rfl) (mmC (mmI il_X11_aboardOf_1 20 rfl) (mmC (mmI il_X11_aboardOf_1 21 rfl) (mmC (mmI il_X11_aboardOf_1 22 rfl) (mmC (mmI il_X11_aboardOf_1 23 rfl) (mmC (mmI il_X11_aboardOf_2 0 rfl) (mmC (mmI il_X11_aboardOf_2 1 rfl) (mmC (mmI il_X11_aboardOf_2 2 rfl) (mmC (mmI il_X11_aboardOf_2 3 rfl) (mmC (mmI il_X11_aboardOf_2 4 rfl) mmN)))))))))))))))))))))))) (mmA (mmC (mmI il_X11_aboardOf_2 5 rfl) (mmC (mmI il_X11_aboardOf_2 6 rfl) (mmC (mmI il_X11_aboardOf_2 7 rfl) (mmC (mmI il_X11_aboardOf_2 8 rfl) (mmC (mmI il_X11_aboardOf_2 9 rfl) (mmC (mmI il_X11_aboardOf_2 10 rfl) (mmC (mmI il_X11_aboardOf_2 11 rfl) (mmC (mmI il_X11_aboardOf_2 12 rfl) (mmC (mmI il_X11_aboardOf_2 13 rfl) (mmC (mmI il_X11_aboardOf_2 14 rfl) (mmC (mmI il_X11_aboardOf_2 15 rfl) (mmC (mmI il_X11_aboardOf_2 16 rfl) (mmC (mmI il_X11_aboardOf_2 17 rfl) (mmC (mmI il_X11_aboardOf_2 18 rfl) (mmC (mmI il_X11_aboardOf_2 19 rfl) (mmC (mmI il_X11_aboardOf_2 20 rfl) (mmC (mmI il_X11_aboardOf_2 21 rfl) (mmC (mmI il_X11_aboardOf_2 22 rfl) (mmC (mmI il_X11_aboardOf_2 23 rfl) (mmC (mmI il_X11_aboardOf_3 0 rfl) (mmC (mmI il_X11_aboardOf_3 1 rfl) (mmC (mmI il_X11_aboardOf_3 2 rfl) (mmC (mmI il_X11_aboardOf_3 3 rfl) (mmC (mmI il_X11_aboardOf_3 4 rfl) mmN)))))))))))))))))))))))) (mmA (mmC (mmI il_X11_aboardOf_3 5 rfl) (mmC (mmI il_X11_aboardOf_3 6 rfl) (mmC (mmI il_X11_aboardOf_3 7 rfl) (mmC (mmI il_X11_aboardOf_3 8 rfl) (mmC (mmI il_X11_aboardOf_3 9 rfl) (mmC (mmI il_X11_aboardOf_3 10 rfl) (mmC (mmI il_X11_aboardOf_3 11 rfl) (mmC (mmI il_X11_aboardOf_3 12 rfl) (mmC (mmI il_X11_aboardOf_3 13 rfl) (mmC (mmI il_X11_aboardOf_3 14 rfl) (mmC (mmI il_X11_aboardOf_3 15 rfl) (mmC (mmI il_X11_aboardOf_3 16 rfl) (mmC (mmI il_X11_aboardOf_3 17 rfl) (mmC (mmI il_X11_aboardOf_3 18 rfl) (mmC (mmI il_X11_aboardOf_3 19 rfl) (mmC (mmI il_X11_aboardOf_3 20 rfl) (mmC (mmI il_X11_aboardOf_3 21 rfl) (mmC (mmI il_X11_aboardOf_3 22 rfl) (mmC (mmI il_X11_aboardOf_3 23 rfl) (mmC (mmI il_X11_aboardOf_4 0 rfl) (mmC (mmI il_X11_aboardOf_4 1 rfl) (mmC (mmI il_X11_aboardOf_4 2 rfl) (mmC (mmI il_X11_aboardOf_4 3 rfl) (mmC (mmI il_X11_aboardOf_4 4 rfl) mmN)))))))))))))))))))))))) (mmC (mmI il_X11_aboardOf_4 5 rfl) (mmC (mmI il_X11_aboardOf_4 6 rfl) (mmC (mmI il_X11_aboardOf_4 7 rfl) (mmC (mmI il_X11_aboardOf_4 8 rfl) (mmC (mmI il_X11_aboardOf_4 9 rfl) (mmC (mmI il_X11_aboardOf_4 10 rfl) (mmC (mmI il_X11_aboardOf_4 11 rfl) (mmC (mmI il_X11_aboardOf_4 12 rfl) (mmC (mmI il_X11_aboardOf_4 13 rfl) (mmC (mmI il_X11_aboardOf_4 14 rfl) (mmC (mmI il_X11_aboardOf_4 15 rfl) (mmC (mmI il_X11_aboardOf_4 16 rfl) (mmC (mmI il_X11_aboardOf_4 17 rfl) (mmC (mmI il_X11_aboardOf_4 18 rfl) (mmC (mmI il_X11_aboardOf_4 19 rfl) (mmC (mmI il_X11_aboardOf_4 20 rfl) (mmC (mmI il_X11_aboardOf_4 21 rfl) (mmC (mmI il_X11_aboardOf_4 22 rfl) (mmC (mmI il_X11_aboardOf_4 23 rfl) (mmC (mmI il_X11_aboardOf_5 0 rfl) (mmC (mmI il_X11_aboardOf_5 1 rfl) mmN)))))))))))))))))))))))) il_X11_aboardOf_6)) gw_X11_stateOf
theorem gX11_aboardOf_X11_stateOf : GoodIn wsX11_aboardOf (wsV RX11 266 RX11 yX11_stateOf wsX11_stateOf) := goodIn_app (goodIn_sub (mmC (mmI il_X11_aboardOf_1 2 rfl) (mmC (mmI il_X11_aboardOf_1 3 rfl) (mmC (mmI il_X11_aboardOf_1 4 rfl) (mmC (mmI il_X11_aboardOf_1 5 rfl) mmN)))) (by decide +kernel)) ggX11_aboardOf_X11_stateOf
theorem dX11_aboardOf_0 : decode cX11_aboardOf 0 = .ok (.iconst 0, 1) := by decide +kernel
theorem dX11_aboardOf_1 : decode cX11_aboardOf 1 = .ok (.istore 4, 2) := by decide +kernel
theorem dX11_aboardOf_3 : decode cX11_aboardOf 3 = .ok (.iconst 0, 1) := by decide +kernel
theorem dX11_aboardOf_4 : decode cX11_aboardOf 4 = .ok (.istore 5, 2) := by decide +kernel
theorem dX11_aboardOf_6 : decode cX11_aboardOf 6 = .ok (.iload 5, 2) := by decide +kernel
theorem dX11_aboardOf_8 : decode cX11_aboardOf 8 = .ok (.aload_n 0, 1) := by decide +kernel
theorem dX11_aboardOf_9 : decode cX11_aboardOf 9 = .ok (.getfield 168, 3) := by decide +kernel
theorem dX11_aboardOf_12 : decode cX11_aboardOf 12 = .ok (.if_icmp .ge 42, 3) := by decide +kernel
theorem dX11_aboardOf_15 : decode cX11_aboardOf 15 = .ok (.iload 4, 2) := by decide +kernel
theorem dX11_aboardOf_17 : decode cX11_aboardOf 17 = .ok (.aload_n 0, 1) := by decide +kernel
theorem dX11_aboardOf_18 : decode cX11_aboardOf 18 = .ok (.getfield 73, 3) := by decide +kernel
theorem dX11_aboardOf_21 : decode cX11_aboardOf 21 = .ok (.iload 5, 2) := by decide +kernel
theorem dX11_aboardOf_23 : decode cX11_aboardOf 23 = .ok (.iaload, 1) := by decide +kernel
theorem dX11_aboardOf_24 : decode cX11_aboardOf 24 = .ok (.iload_n 1, 1) := by decide +kernel
theorem dX11_aboardOf_25 : decode cX11_aboardOf 25 = .ok (.if_icmp .ne 19, 3) := by decide +kernel
theorem dX11_aboardOf_28 : decode cX11_aboardOf 28 = .ok (.aload_n 0, 1) := by decide +kernel
theorem dX11_aboardOf_29 : decode cX11_aboardOf 29 = .ok (.iload 5, 2) := by decide +kernel
theorem dX11_aboardOf_31 : decode cX11_aboardOf 31 = .ok (.iload_n 2, 1) := by decide +kernel
theorem dX11_aboardOf_32 : decode cX11_aboardOf 32 = .ok (.iload_n 3, 1) := by decide +kernel
theorem dX11_aboardOf_33 : decode cX11_aboardOf 33 = .ok (.invokevirtual 266, 3) := by decide +kernel
theorem dX11_aboardOf_36 : decode cX11_aboardOf 36 = .ok (.iconst 1, 1) := by decide +kernel
theorem dX11_aboardOf_37 : decode cX11_aboardOf 37 = .ok (.if_icmp .ne 7, 3) := by decide +kernel
theorem dX11_aboardOf_40 : decode cX11_aboardOf 40 = .ok (.iconst 1, 1) := by decide +kernel
theorem dX11_aboardOf_41 : decode cX11_aboardOf 41 = .ok (.goto 4, 3) := by decide +kernel
theorem dX11_aboardOf_44 : decode cX11_aboardOf 44 = .ok (.iconst 0, 1) := by decide +kernel
theorem dX11_aboardOf_45 : decode cX11_aboardOf 45 = .ok (.iadd, 1) := by decide +kernel
theorem dX11_aboardOf_46 : decode cX11_aboardOf 46 = .ok (.istore 4, 2) := by decide +kernel
theorem dX11_aboardOf_48 : decode cX11_aboardOf 48 = .ok (.iinc 5 1, 3) := by decide +kernel
theorem dX11_aboardOf_51 : decode cX11_aboardOf 51 = .ok (.goto (-45), 3) := by decide +kernel
theorem dX11_aboardOf_54 : decode cX11_aboardOf 54 = .ok (.iload 4, 2) := by decide +kernel
theorem dX11_aboardOf_56 : decode cX11_aboardOf 56 = .ok (.ireturn, 1) := by decide +kernel
set_option maxRecDepth 100000 in
theorem ggX11_earnsOf_X11_stateOf : GoodIn wsX11_earnsOf wsX11_stateOf := goodIn_sub (mmC (mmI il_X11_earnsOf_1 6 rfl) (mmA (mmA (mmC (mmI il_X11_earnsOf_1 1 rfl) (mmC (mmI il_X11_earnsOf_1 7 rfl) (mmC (mmI il_X11_earnsOf_1 8 rfl) (mmC (mmI il_X11_earnsOf_1 0 rfl) (mmC (mmI il_X11_earnsOf_1 9 rfl) (mmC (mmI il_X11_earnsOf_1 10 rfl) (mmC (mmI il_X11_earnsOf_1 11 rfl) (mmC (mmI il_X11_earnsOf_1 5 rfl) (mmC (mmI il_X11_earnsOf_1 12 rfl) (mmC (mmI il_X11_earnsOf_1 13 rfl) (mmC (mmI il_X11_earnsOf_1 14 rfl) (mmC (mmI il_X11_earnsOf_1 15 rfl) (mmC (mmI il_X11_earnsOf_1 16 rfl) (mmC (mmI il_X11_earnsOf_1 17 rfl) (mmC (mmI il_X11_earnsOf_1 18 rfl) (mmC (mmI il_X11_earnsOf_1 19 rfl) (mmC (mmI il_X11_earnsOf_1 20 rfl) (mmC (mmI il_X11_earnsOf_1 21 rfl) (mmC (mmI il_X11_earnsOf_1 22 rfl) (mmC (mmI il_X11_earnsOf_1 23 rfl) (mmC (mmI il_X11_earnsOf_2 0 rfl) (mmC (mmI il_X11_earnsOf_2 1 rfl) (mmC (mmI il_X11_earnsOf_2 2 rfl) (mmC (mmI il_X11_earnsOf_2 3 rfl) mmN)))))))))))))))))))))))) (mmA (mmC (mmI il_X11_earnsOf_2 4 rfl) (mmC (mmI il_X11_earnsOf_2 5 rfl) (mmC (mmI il_X11_earnsOf_2 6 rfl) (mmC (mmI il_X11_earnsOf_2 7 rfl) (mmC (mmI il_X11_earnsOf_2 8 rfl) (mmC (mmI il_X11_earnsOf_2 9 rfl) (mmC (mmI il_X11_earnsOf_2 10 rfl) (mmC (mmI il_X11_earnsOf_2 11 rfl) (mmC (mmI il_X11_earnsOf_2 12 rfl) (mmC (mmI il_X11_earnsOf_2 13 rfl) (mmC (mmI il_X11_earnsOf_2 14 rfl) (mmC (mmI il_X11_earnsOf_2 15 rfl) (mmC (mmI il_X11_earnsOf_2 16 rfl) (mmC (mmI il_X11_earnsOf_2 17 rfl) (mmC (mmI il_X11_earnsOf_2 18 rfl) (mmC (mmI il_X11_earnsOf_2 19 rfl) (mmC (mmI il_X11_earnsOf_2 20 rfl) (mmC (mmI il_X11_earnsOf_2 21 rfl) (mmC (mmI il_X11_earnsOf_2 22 rfl) (mmC (mmI il_X11_earnsOf_2 23 rfl) (mmC (mmI il_X11_earnsOf_3 0 rfl) (mmC (mmI il_X11_earnsOf_3 1 rfl) (mmC (mmI il_X11_earnsOf_3 2 rfl) (mmC (mmI il_X11_earnsOf_3 3 rfl) mmN)))))))))))))))))))))))) (mmA (mmC (mmI il_X11_earnsOf_3 4 rfl) (mmC (mmI il_X11_earnsOf_3 5 rfl) (mmC (mmI il_X11_earnsOf_3 6 rfl) (mmC (mmI il_X11_earnsOf_3 7 rfl) (mmC (mmI il_X11_earnsOf_3 8 rfl) (mmC (mmI il_X11_earnsOf_3 9 rfl) (mmC (mmI il_X11_earnsOf_3 10 rfl) (mmC (mmI il_X11_earnsOf_3 11 rfl) (mmC (mmI il_X11_earnsOf_3 12 rfl) (mmC (mmI il_X11_earnsOf_3 13 rfl) (mmC (mmI il_X11_earnsOf_3 14 rfl) (mmC (mmI il_X11_earnsOf_3 15 rfl) (mmC (mmI il_X11_earnsOf_3 16 rfl) (mmC (mmI il_X11_earnsOf_3 17 rfl) (mmC (mmI il_X11_earnsOf_3 18 rfl) (mmC (mmI il_X11_earnsOf_3 19 rfl) (mmC (mmI il_X11_earnsOf_3 20 rfl) (mmC (mmI il_X11_earnsOf_3 21 rfl) (mmC (mmI il_X11_earnsOf_3 22 rfl) (mmC (mmI il_X11_earnsOf_3 23 rfl) (mmC (mmI il_X11_earnsOf_4 0 rfl) (mmC (mmI il_X11_earnsOf_4 1 rfl) (mmC (mmI il_X11_earnsOf_4 2 rfl) (mmC (mmI il_X11_earnsOf_4 3 rfl) mmN)))))))))))))))))))))))) (mmC (mmI il_X11_earnsOf_4 4 rfl) (mmC (mmI il_X11_earnsOf_4 5 rfl) (mmC (mmI il_X11_earnsOf_4 6 rfl) (mmC (mmI il_X11_earnsOf_4 7 rfl) (mmC (mmI il_X11_earnsOf_4 8 rfl) (mmC (mmI il_X11_earnsOf_4 9 rfl) (mmC (mmI il_X11_earnsOf_4 10 rfl) (mmC (mmI il_X11_earnsOf_4 11 rfl) (mmC (mmI il_X11_earnsOf_4 12 rfl) (mmC (mmI il_X11_earnsOf_4 13 rfl) (mmC (mmI il_X11_earnsOf_4 14 rfl) (mmC (mmI il_X11_earnsOf_4 15 rfl) (mmC (mmI il_X11_earnsOf_4 16 rfl) (mmC (mmI il_X11_earnsOf_4 17 rfl) (mmC (mmI il_X11_earnsOf_4 18 rfl) (mmC (mmI il_X11_earnsOf_4 19 rfl) (mmC (mmI il_X11_earnsOf_4 20 rfl) (mmC (mmI il_X11_earnsOf_4 21 rfl) (mmC (mmI il_X11_earnsOf_4 22 rfl) (mmC (mmI il_X11_earnsOf_4 23 rfl) (mmC (mmI il_X11_earnsOf_5 0 rfl) mmN)))))))))))))))))))))))) il_X11_earnsOf_6)) gw_X11_stateOf
theorem gX11_earnsOf_X11_stateOf : GoodIn wsX11_earnsOf (wsV RX11 266 RX11 yX11_stateOf wsX11_stateOf) := goodIn_app (goodIn_sub (mmC (mmI il_X11_earnsOf_1 2 rfl) (mmC (mmI il_X11_earnsOf_1 3 rfl) (mmC (mmI il_X11_earnsOf_1 4 rfl) (mmC (mmI il_X11_earnsOf_1 5 rfl) mmN)))) (by decide +kernel)) ggX11_earnsOf_X11_stateOf
set_option maxRecDepth 100000 in
theorem ggX11_earnsOf_X11_lastHeard : GoodIn wsX11_earnsOf wsX11_lastHeard := goodIn_sub (mmC (mmI il_X11_earnsOf_2 17 rfl) (mmA (mmC (mmI il_X11_earnsOf_1 13 rfl) (mmC (mmI il_X11_earnsOf_1 8 rfl) (mmC (mmI il_X11_earnsOf_1 14 rfl) (mmC (mmI il_X11_earnsOf_1 15 rfl) (mmC (mmI il_X11_earnsOf_1 16 rfl) mmN))))) il_X11_earnsOf_6)) gw_X11_lastHeard
theorem gX11_earnsOf_X11_lastHeard : GoodIn wsX11_earnsOf (wsV RX11 272 RX11 yX11_lastHeard wsX11_lastHeard) := goodIn_app (goodIn_sub (mmC (mmI il_X11_earnsOf_2 14 rfl) (mmC (mmI il_X11_earnsOf_2 15 rfl) (mmC (mmI il_X11_earnsOf_2 16 rfl) (mmC (mmI il_X11_earnsOf_1 5 rfl) mmN)))) (by decide +kernel)) ggX11_earnsOf_X11_lastHeard
set_option maxRecDepth 100000 in
theorem ggX11_earnsOf_X11_isIn : GoodIn wsX11_earnsOf wsX11_isIn := goodIn_sub (mmC (mmI il_X11_earnsOf_5 3 rfl) mmN) gw_X11_isIn
set_option maxRecDepth 20000 in
theorem gX11_earnsOf_X11_isIn : GoodIn wsX11_earnsOf (va_wsS RX11 161 yX11_isIn wsX11_isIn) := goodIn_app (goodIn_of _ (by decide +kernel)) ggX11_earnsOf_X11_isIn
theorem dX11_earnsOf_0 : decode cX11_earnsOf 0 = .ok (.aload_n 0, 1) := by decide +kernel
theorem dX11_earnsOf_1 : decode cX11_earnsOf 1 = .ok (.iload_n 1, 1) := by decide +kernel
theorem dX11_earnsOf_2 : decode cX11_earnsOf 2 = .ok (.iload_n 2, 1) := by decide +kernel
theorem dX11_earnsOf_3 : decode cX11_earnsOf 3 = .ok (.iload_n 3, 1) := by decide +kernel
theorem dX11_earnsOf_4 : decode cX11_earnsOf 4 = .ok (.invokevirtual 266, 3) := by decide +kernel
theorem dX11_earnsOf_7 : decode cX11_earnsOf 7 = .ok (.iconst 2, 1) := by decide +kernel
theorem dX11_earnsOf_8 : decode cX11_earnsOf 8 = .ok (.if_icmp .ne 18, 3) := by decide +kernel
theorem dX11_earnsOf_11 : decode cX11_earnsOf 11 = .ok (.aload_n 0, 1) := by decide +kernel
theorem dX11_earnsOf_12 : decode cX11_earnsOf 12 = .ok (.aload_n 0, 1) := by decide +kernel
theorem dX11_earnsOf_13 : decode cX11_earnsOf 13 = .ok (.getfield 73, 3) := by decide +kernel
theorem dX11_earnsOf_16 : decode cX11_earnsOf 16 = .ok (.iload_n 1, 1) := by decide +kernel
theorem dX11_earnsOf_17 : decode cX11_earnsOf 17 = .ok (.iaload, 1) := by decide +kernel
theorem dX11_earnsOf_18 : decode cX11_earnsOf 18 = .ok (.iload_n 2, 1) := by decide +kernel
theorem dX11_earnsOf_19 : decode cX11_earnsOf 19 = .ok (.iload_n 3, 1) := by decide +kernel
theorem dX11_earnsOf_20 : decode cX11_earnsOf 20 = .ok (.invokevirtual 272, 3) := by decide +kernel
theorem dX11_earnsOf_23 : decode cX11_earnsOf 23 = .ok (.goto 4, 3) := by decide +kernel
theorem dX11_earnsOf_26 : decode cX11_earnsOf 26 = .ok (.iload_n 2, 1) := by decide +kernel
theorem dX11_earnsOf_27 : decode cX11_earnsOf 27 = .ok (.istore 4, 2) := by decide +kernel
theorem dX11_earnsOf_29 : decode cX11_earnsOf 29 = .ok (.iconst 0, 1) := by decide +kernel
theorem dX11_earnsOf_30 : decode cX11_earnsOf 30 = .ok (.istore 5, 2) := by decide +kernel
theorem dX11_earnsOf_32 : decode cX11_earnsOf 32 = .ok (.aload_n 0, 1) := by decide +kernel
theorem dX11_earnsOf_33 : decode cX11_earnsOf 33 = .ok (.getfield 85, 3) := by decide +kernel
theorem dX11_earnsOf_36 : decode cX11_earnsOf 36 = .ok (.iload_n 1, 1) := by decide +kernel
theorem dX11_earnsOf_37 : decode cX11_earnsOf 37 = .ok (.iaload, 1) := by decide +kernel
theorem dX11_earnsOf_38 : decode cX11_earnsOf 38 = .ok (.istore 6, 2) := by decide +kernel
theorem dX11_earnsOf_40 : decode cX11_earnsOf 40 = .ok (.iload 6, 2) := by decide +kernel
theorem dX11_earnsOf_42 : decode cX11_earnsOf 42 = .ok (.iload 4, 2) := by decide +kernel
theorem dX11_earnsOf_44 : decode cX11_earnsOf 44 = .ok (.if_icmp .gt 34, 3) := by decide +kernel
theorem dX11_earnsOf_47 : decode cX11_earnsOf 47 = .ok (.iload 5, 2) := by decide +kernel
theorem dX11_earnsOf_49 : decode cX11_earnsOf 49 = .ok (.aload_n 0, 1) := by decide +kernel
theorem dX11_earnsOf_50 : decode cX11_earnsOf 50 = .ok (.iload_n 1, 1) := by decide +kernel
theorem dX11_earnsOf_51 : decode cX11_earnsOf 51 = .ok (.iload 6, 2) := by decide +kernel
theorem dX11_earnsOf_53 : decode cX11_earnsOf 53 = .ok (.iload_n 3, 1) := by decide +kernel
theorem dX11_earnsOf_54 : decode cX11_earnsOf 54 = .ok (.invokevirtual 266, 3) := by decide +kernel
theorem dX11_earnsOf_57 : decode cX11_earnsOf 57 = .ok (.iconst 3, 1) := by decide +kernel
theorem dX11_earnsOf_58 : decode cX11_earnsOf 58 = .ok (.invokestatic 161, 3) := by decide +kernel
theorem dX11_earnsOf_61 : decode cX11_earnsOf 61 = .ok (.ifCond .eq 7, 3) := by decide +kernel
theorem dX11_earnsOf_64 : decode cX11_earnsOf 64 = .ok (.iconst 1, 1) := by decide +kernel
theorem dX11_earnsOf_65 : decode cX11_earnsOf 65 = .ok (.goto 4, 3) := by decide +kernel
theorem dX11_earnsOf_68 : decode cX11_earnsOf 68 = .ok (.iconst 0, 1) := by decide +kernel
theorem dX11_earnsOf_69 : decode cX11_earnsOf 69 = .ok (.iadd, 1) := by decide +kernel
theorem dX11_earnsOf_70 : decode cX11_earnsOf 70 = .ok (.istore 5, 2) := by decide +kernel
theorem dX11_earnsOf_72 : decode cX11_earnsOf 72 = .ok (.iinc 6 1, 3) := by decide +kernel
theorem dX11_earnsOf_75 : decode cX11_earnsOf 75 = .ok (.goto (-35), 3) := by decide +kernel
theorem dX11_earnsOf_78 : decode cX11_earnsOf 78 = .ok (.iload 5, 2) := by decide +kernel
theorem dX11_earnsOf_80 : decode cX11_earnsOf 80 = .ok (.ireturn, 1) := by decide +kernel
theorem in_wsX11_worth_X11 : ∀ w ∈ wsX110, w ∈ wsX11_worth := fun w h => List.mem_cons_of_mem _ (List.mem_append_right _ h)
theorem in_wsX11_stateOf_X11 : ∀ w ∈ wsX110, w ∈ wsX11_stateOf := fun w h => List.mem_cons_of_mem _ (List.mem_append_right _ h)
theorem in_wsX11_aboardOf_X11 : ∀ w ∈ wsX110, w ∈ wsX11_aboardOf := fun w h => List.mem_cons_of_mem _ (List.mem_append_right _ h)
theorem in_wsX11_earnsOf_X11 : ∀ w ∈ wsX110, w ∈ wsX11_earnsOf := fun w h => List.mem_cons_of_mem _ (List.mem_append_right _ h)
theorem in_wsX11_puts_X11 : ∀ w ∈ wsX110, w ∈ wsX11_puts := fun w h => List.mem_cons_of_mem _ (List.mem_append_right _ h)
