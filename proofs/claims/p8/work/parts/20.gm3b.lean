abbrev cX11_worth : ByteArray := prog_13_method_37_code
def yX11_worth : MethodName := ⟨RX11, "worth", "(II)I"⟩
abbrev cX11_puts : ByteArray := prog_13_method_39_code
def yX11_puts : MethodName := ⟨RX11, "puts", "(IIIIZ)V"⟩
abbrev cX11_isUnknown : ByteArray := prog_13_method_45_code
def yX11_isUnknown : MethodName := ⟨RX11, "isUnknown", "(III)Z"⟩
abbrev cX11_stateOf : ByteArray := prog_13_method_46_code
def yX11_stateOf : MethodName := ⟨RX11, "stateOf", "(III)I"⟩
abbrev cX11_aboardOf : ByteArray := prog_13_method_47_code
def yX11_aboardOf : MethodName := ⟨RX11, "aboardOf", "(III)I"⟩
abbrev cX11_earnsOf : ByteArray := prog_13_method_48_code
def yX11_earnsOf : MethodName := ⟨RX11, "earnsOf", "(III)I"⟩
theorem gw_X11_goesThrough : wsX11_goesThrough.all goodWord = true := by decide +kernel
theorem gw_X11_actOn : wsX11_actOn.all goodWord = true := by decide +kernel
def wsX11_worth_r1 : List Cond := [Cond.fieldLink RX11 58 "ShipOfficeModel" "textSize" "[I", Cond.fieldLink RX11 128 "ShipOfficeModel" "letters" "[I", Cond.methodLink RX11 263 yX11_actOn, Cond.instanceMethod yX11_actOn, Cond.selects RX11 yX11_actOn yX11_actOn, Cond.initialized RX11, Cond.code yX11_actOn cX11_actOn 5 (some .int), Cond.fieldLink RX11 256 "ShipOfficeModel" "acts" "I", Cond.fieldLink RX11 61 "ShipOfficeModel" "purpose" "[I", Cond.fieldLink RX11 64 "ShipOfficeModel" "from" "[I", Cond.methodLink RX11 259 yX11_goesThrough, Cond.instanceMethod yX11_goesThrough, Cond.selects RX11 yX11_goesThrough yX11_goesThrough, Cond.code yX11_goesThrough cX11_goesThrough 3 (some .int), Cond.fieldLink RX11 216 "ShipOfficeModel" "base" "I", Cond.fieldLink RX11 213 "ShipOfficeModel" "size" "I", Cond.fieldLink RX11 210 "ShipOfficeModel" "at" "I", Cond.fieldLink RX11 244 "ShipOfficeModel" "deep" "I", Cond.fieldLink RX11 223 "ShipOfficeModel" "isWell" "Z", Cond.methodLink RX11 250 yX11_sum, Cond.instanceMethod yX11_sum, Cond.selects RX11 yX11_sum yX11_sum, Cond.code yX11_sum cX11_sum 4 (some .int), Cond.methodLink RX11 231 yX11_term]
def wsX11_worth_r2 : List Cond := [Cond.instanceMethod yX11_term, Cond.selects RX11 yX11_term yX11_term, Cond.methodLink RX11 227 yX11_sign, Cond.instanceMethod yX11_sign, Cond.selects RX11 yX11_sign yX11_sign, Cond.code yX11_sign cX11_sign 1 (some .int), Cond.fieldLink RX11 125 "ShipOfficeModel" "tape" "[I", Cond.fieldLink RX11 67 "ShipOfficeModel" "text" "[I", Cond.methodLink RX11 234 yX11_held, Cond.static yX11_held, Cond.code yX11_held cX11_held 2 (some .int), Cond.constantLong RX11 219 (1000000000), Cond.constantLong RX11 221 (-1000000000), Cond.code yX11_term cX11_term 4 (some .int), Cond.methodLink RX11 238 yX11_unit, Cond.instanceMethod yX11_unit, Cond.selects RX11 yX11_unit yX11_unit, Cond.code yX11_unit cX11_unit 5 (some .int), Cond.methodLink RX11 241 yX11_isLetter, Cond.static yX11_isLetter, Cond.code yX11_isLetter cX11_isLetter 1 (some .boolean), Cond.methodLink RX11 247 yX11_breaks, Cond.instanceMethod yX11_breaks, Cond.selects RX11 yX11_breaks yX11_breaks]
def wsX11_worth_r3 : List Cond := [Cond.code yX11_breaks cX11_breaks 1 (some .int), Cond.methodLink RX11 253 yX11_takes, Cond.instanceMethod yX11_takes, Cond.selects RX11 yX11_takes yX11_takes, Cond.code yX11_takes cX11_takes 2 (some .boolean)]
def wsX11_worth : List Cond := .code yX11_worth cX11_worth 4 (some .int) :: ((wsX11_worth_r1 ++ (wsX11_worth_r2 ++ wsX11_worth_r3)) ++ wsX110)
theorem gw_X11_worth : wsX11_worth.all goodWord = true := by decide +kernel
theorem il_X11_worth_1 : ∀ w ∈ wsX11_worth_r1, w ∈ wsX11_worth := fun w h => (List.mem_cons_of_mem _ (List.mem_append_left _ (List.mem_append_left _ h)))
theorem il_X11_worth_2 : ∀ w ∈ wsX11_worth_r2, w ∈ wsX11_worth := fun w h => (List.mem_cons_of_mem _ (List.mem_append_left _ (List.mem_append_right _ (List.mem_append_left _ h))))
theorem il_X11_worth_3 : ∀ w ∈ wsX11_worth_r3, w ∈ wsX11_worth := fun w h => (List.mem_cons_of_mem _ (List.mem_append_left _ (List.mem_append_right _ (List.mem_append_right _ h))))
theorem il_X11_worth_4 : ∀ w ∈ wsX110, w ∈ wsX11_worth := fun w h => (List.mem_cons_of_mem _ (List.mem_append_right _ h))
theorem iw_X11_worth_1 : Cond.fieldLink RX11 128 "ShipOfficeModel" "letters" "[I" ∈ wsX11_worth := (mmI il_X11_worth_1 1 rfl)
theorem iw_X11_worth_2 : Cond.fieldLink RX11 58 "ShipOfficeModel" "textSize" "[I" ∈ wsX11_worth := (mmI il_X11_worth_1 0 rfl)
theorem gw_X11_bare : wsX11_bare.all goodWord = true := by decide +kernel
theorem gw_X11_isDead : wsX11_isDead.all goodWord = true := by decide +kernel
theorem gw_X11_whereOf : wsX11_whereOf.all goodWord = true := by decide +kernel
theorem gw_X11_hasSailed : wsX11_hasSailed.all goodWord = true := by decide +kernel
theorem gw_X11_lastHeard : wsX11_lastHeard.all goodWord = true := by decide +kernel
def wsX11_isUnknown_r1 : List Cond := [Cond.methodLink RX11 281 yX11_hasSailed, Cond.instanceMethod yX11_hasSailed, Cond.selects RX11 yX11_hasSailed yX11_hasSailed, Cond.initialized RX11, Cond.code yX11_hasSailed cX11_hasSailed 5 (some .boolean), Cond.methodLink RX11 278 yX11_sailedOn, Cond.instanceMethod yX11_sailedOn, Cond.selects RX11 yX11_sailedOn yX11_sailedOn, Cond.code yX11_sailedOn cX11_sailedOn 4 (some .int), Cond.fieldLink RX11 179 "ShipOfficeModel" "happened" "I", Cond.fieldLink RX11 40 "ShipOfficeModel" "what" "[I", Cond.fieldLink RX11 43 "ShipOfficeModel" "whose" "[I", Cond.fieldLink RX11 49 "ShipOfficeModel" "known" "[I", Cond.fieldLink RX11 46 "ShipOfficeModel" "day" "[I", Cond.methodLink RX11 275 yX11_bare, Cond.instanceMethod yX11_bare, Cond.selects RX11 yX11_bare yX11_bare, Cond.code yX11_bare cX11_bare 2 none, Cond.fieldLink RX11 128 "ShipOfficeModel" "letters" "[I", Cond.methodLink RX11 272 yX11_lastHeard, Cond.instanceMethod yX11_lastHeard, Cond.selects RX11 yX11_lastHeard yX11_lastHeard, Cond.code yX11_lastHeard cX11_lastHeard 6 (some .int), Cond.methodLink RX11 285 yX11_worth]
def wsX11_isUnknown_r2 : List Cond := [Cond.instanceMethod yX11_worth, Cond.selects RX11 yX11_worth yX11_worth, Cond.code yX11_worth cX11_worth 4 (some .int), Cond.fieldLink RX11 58 "ShipOfficeModel" "textSize" "[I", Cond.methodLink RX11 263 yX11_actOn, Cond.instanceMethod yX11_actOn, Cond.selects RX11 yX11_actOn yX11_actOn, Cond.code yX11_actOn cX11_actOn 5 (some .int), Cond.fieldLink RX11 256 "ShipOfficeModel" "acts" "I", Cond.fieldLink RX11 61 "ShipOfficeModel" "purpose" "[I", Cond.fieldLink RX11 64 "ShipOfficeModel" "from" "[I", Cond.methodLink RX11 259 yX11_goesThrough, Cond.instanceMethod yX11_goesThrough, Cond.selects RX11 yX11_goesThrough yX11_goesThrough, Cond.code yX11_goesThrough cX11_goesThrough 3 (some .int), Cond.fieldLink RX11 216 "ShipOfficeModel" "base" "I", Cond.fieldLink RX11 213 "ShipOfficeModel" "size" "I", Cond.fieldLink RX11 210 "ShipOfficeModel" "at" "I", Cond.fieldLink RX11 244 "ShipOfficeModel" "deep" "I", Cond.fieldLink RX11 223 "ShipOfficeModel" "isWell" "Z", Cond.methodLink RX11 250 yX11_sum, Cond.instanceMethod yX11_sum, Cond.selects RX11 yX11_sum yX11_sum, Cond.code yX11_sum cX11_sum 4 (some .int)]
def wsX11_isUnknown_r3 : List Cond := [Cond.methodLink RX11 231 yX11_term, Cond.instanceMethod yX11_term, Cond.selects RX11 yX11_term yX11_term, Cond.methodLink RX11 227 yX11_sign, Cond.instanceMethod yX11_sign, Cond.selects RX11 yX11_sign yX11_sign, Cond.code yX11_sign cX11_sign 1 (some .int), Cond.fieldLink RX11 125 "ShipOfficeModel" "tape" "[I", Cond.fieldLink RX11 67 "ShipOfficeModel" "text" "[I", Cond.methodLink RX11 234 yX11_held, Cond.static yX11_held, Cond.code yX11_held cX11_held 2 (some .int), Cond.constantLong RX11 219 (1000000000), Cond.constantLong RX11 221 (-1000000000), Cond.code yX11_term cX11_term 4 (some .int), Cond.methodLink RX11 238 yX11_unit, Cond.instanceMethod yX11_unit, Cond.selects RX11 yX11_unit yX11_unit, Cond.code yX11_unit cX11_unit 5 (some .int), Cond.methodLink RX11 241 yX11_isLetter, Cond.static yX11_isLetter, Cond.code yX11_isLetter cX11_isLetter 1 (some .boolean), Cond.methodLink RX11 247 yX11_breaks, Cond.instanceMethod yX11_breaks]
def wsX11_isUnknown_r4 : List Cond := [Cond.selects RX11 yX11_breaks yX11_breaks, Cond.code yX11_breaks cX11_breaks 1 (some .int), Cond.methodLink RX11 253 yX11_takes, Cond.instanceMethod yX11_takes, Cond.selects RX11 yX11_takes yX11_takes, Cond.code yX11_takes cX11_takes 2 (some .boolean)]
def wsX11_isUnknown : List Cond := .code yX11_isUnknown cX11_isUnknown 4 (some .boolean) :: ((wsX11_isUnknown_r1 ++ (wsX11_isUnknown_r2 ++ (wsX11_isUnknown_r3 ++ wsX11_isUnknown_r4))) ++ wsX110)
theorem gw_X11_isUnknown : wsX11_isUnknown.all goodWord = true := by decide +kernel
theorem il_X11_isUnknown_1 : ∀ w ∈ wsX11_isUnknown_r1, w ∈ wsX11_isUnknown := fun w h => (List.mem_cons_of_mem _ (List.mem_append_left _ (List.mem_append_left _ h)))
theorem il_X11_isUnknown_2 : ∀ w ∈ wsX11_isUnknown_r2, w ∈ wsX11_isUnknown := fun w h => (List.mem_cons_of_mem _ (List.mem_append_left _ (List.mem_append_right _ (List.mem_append_left _ h))))
theorem il_X11_isUnknown_3 : ∀ w ∈ wsX11_isUnknown_r3, w ∈ wsX11_isUnknown := fun w h => (List.mem_cons_of_mem _ (List.mem_append_left _ (List.mem_append_right _ (List.mem_append_right _ (List.mem_append_left _ h)))))
theorem il_X11_isUnknown_4 : ∀ w ∈ wsX11_isUnknown_r4, w ∈ wsX11_isUnknown := fun w h => (List.mem_cons_of_mem _ (List.mem_append_left _ (List.mem_append_right _ (List.mem_append_right _ (List.mem_append_right _ h)))))
theorem il_X11_isUnknown_5 : ∀ w ∈ wsX110, w ∈ wsX11_isUnknown := fun w h => (List.mem_cons_of_mem _ (List.mem_append_right _ h))
def wsX11_stateOf_r1 : List Cond := [Cond.fieldLink RX11 85 "ShipOfficeModel" "signed" "[I", Cond.fieldLink RX11 88 "ShipOfficeModel" "offOn" "[I", Cond.fieldLink RX11 40 "ShipOfficeModel" "what" "[I", Cond.fieldLink RX11 73 "ShipOfficeModel" "voyage" "[I", Cond.methodLink RX11 288 yX11_isDead, Cond.instanceMethod yX11_isDead, Cond.selects RX11 yX11_isDead yX11_isDead, Cond.initialized RX11, Cond.code yX11_isDead cX11_isDead 5 (some .boolean), Cond.fieldLink RX11 179 "ShipOfficeModel" "happened" "I", Cond.fieldLink RX11 43 "ShipOfficeModel" "whose" "[I", Cond.fieldLink RX11 49 "ShipOfficeModel" "known" "[I", Cond.fieldLink RX11 46 "ShipOfficeModel" "day" "[I", Cond.methodLink RX11 291 yX11_whereOf, Cond.instanceMethod yX11_whereOf, Cond.selects RX11 yX11_whereOf yX11_whereOf, Cond.code yX11_whereOf cX11_whereOf 6 (some .int), Cond.methodLink RX11 281 yX11_hasSailed, Cond.instanceMethod yX11_hasSailed, Cond.selects RX11 yX11_hasSailed yX11_hasSailed, Cond.code yX11_hasSailed cX11_hasSailed 5 (some .boolean), Cond.methodLink RX11 278 yX11_sailedOn, Cond.instanceMethod yX11_sailedOn, Cond.selects RX11 yX11_sailedOn yX11_sailedOn]
def wsX11_stateOf_r2 : List Cond := [Cond.code yX11_sailedOn cX11_sailedOn 4 (some .int), Cond.methodLink RX11 294 yX11_isUnknown, Cond.instanceMethod yX11_isUnknown, Cond.selects RX11 yX11_isUnknown yX11_isUnknown, Cond.code yX11_isUnknown cX11_isUnknown 4 (some .boolean), Cond.methodLink RX11 275 yX11_bare, Cond.instanceMethod yX11_bare, Cond.selects RX11 yX11_bare yX11_bare, Cond.code yX11_bare cX11_bare 2 none, Cond.fieldLink RX11 128 "ShipOfficeModel" "letters" "[I", Cond.methodLink RX11 272 yX11_lastHeard, Cond.instanceMethod yX11_lastHeard, Cond.selects RX11 yX11_lastHeard yX11_lastHeard, Cond.code yX11_lastHeard cX11_lastHeard 6 (some .int), Cond.methodLink RX11 285 yX11_worth, Cond.instanceMethod yX11_worth, Cond.selects RX11 yX11_worth yX11_worth, Cond.code yX11_worth cX11_worth 4 (some .int), Cond.fieldLink RX11 58 "ShipOfficeModel" "textSize" "[I", Cond.methodLink RX11 263 yX11_actOn, Cond.instanceMethod yX11_actOn, Cond.selects RX11 yX11_actOn yX11_actOn, Cond.code yX11_actOn cX11_actOn 5 (some .int), Cond.fieldLink RX11 256 "ShipOfficeModel" "acts" "I"]
def wsX11_stateOf_r3 : List Cond := [Cond.fieldLink RX11 61 "ShipOfficeModel" "purpose" "[I", Cond.fieldLink RX11 64 "ShipOfficeModel" "from" "[I", Cond.methodLink RX11 259 yX11_goesThrough, Cond.instanceMethod yX11_goesThrough, Cond.selects RX11 yX11_goesThrough yX11_goesThrough, Cond.code yX11_goesThrough cX11_goesThrough 3 (some .int), Cond.fieldLink RX11 216 "ShipOfficeModel" "base" "I", Cond.fieldLink RX11 213 "ShipOfficeModel" "size" "I", Cond.fieldLink RX11 210 "ShipOfficeModel" "at" "I", Cond.fieldLink RX11 244 "ShipOfficeModel" "deep" "I", Cond.fieldLink RX11 223 "ShipOfficeModel" "isWell" "Z", Cond.methodLink RX11 250 yX11_sum, Cond.instanceMethod yX11_sum, Cond.selects RX11 yX11_sum yX11_sum, Cond.code yX11_sum cX11_sum 4 (some .int), Cond.methodLink RX11 231 yX11_term, Cond.instanceMethod yX11_term, Cond.selects RX11 yX11_term yX11_term, Cond.methodLink RX11 227 yX11_sign, Cond.instanceMethod yX11_sign, Cond.selects RX11 yX11_sign yX11_sign, Cond.code yX11_sign cX11_sign 1 (some .int), Cond.fieldLink RX11 125 "ShipOfficeModel" "tape" "[I", Cond.fieldLink RX11 67 "ShipOfficeModel" "text" "[I"]
def wsX11_stateOf_r4 : List Cond := [Cond.methodLink RX11 234 yX11_held, Cond.static yX11_held, Cond.code yX11_held cX11_held 2 (some .int), Cond.constantLong RX11 219 (1000000000), Cond.constantLong RX11 221 (-1000000000), Cond.code yX11_term cX11_term 4 (some .int), Cond.methodLink RX11 238 yX11_unit, Cond.instanceMethod yX11_unit, Cond.selects RX11 yX11_unit yX11_unit, Cond.code yX11_unit cX11_unit 5 (some .int), Cond.methodLink RX11 241 yX11_isLetter, Cond.static yX11_isLetter, Cond.code yX11_isLetter cX11_isLetter 1 (some .boolean), Cond.methodLink RX11 247 yX11_breaks, Cond.instanceMethod yX11_breaks, Cond.selects RX11 yX11_breaks yX11_breaks, Cond.code yX11_breaks cX11_breaks 1 (some .int), Cond.methodLink RX11 253 yX11_takes, Cond.instanceMethod yX11_takes, Cond.selects RX11 yX11_takes yX11_takes, Cond.code yX11_takes cX11_takes 2 (some .boolean)]
def wsX11_stateOf : List Cond := .code yX11_stateOf cX11_stateOf 5 (some .int) :: ((wsX11_stateOf_r1 ++ (wsX11_stateOf_r2 ++ (wsX11_stateOf_r3 ++ wsX11_stateOf_r4))) ++ wsX110)
theorem gw_X11_stateOf : wsX11_stateOf.all goodWord = true := by decide +kernel
theorem il_X11_stateOf_1 : ∀ w ∈ wsX11_stateOf_r1, w ∈ wsX11_stateOf := fun w h => (List.mem_cons_of_mem _ (List.mem_append_left _ (List.mem_append_left _ h)))
theorem il_X11_stateOf_2 : ∀ w ∈ wsX11_stateOf_r2, w ∈ wsX11_stateOf := fun w h => (List.mem_cons_of_mem _ (List.mem_append_left _ (List.mem_append_right _ (List.mem_append_left _ h))))
theorem il_X11_stateOf_3 : ∀ w ∈ wsX11_stateOf_r3, w ∈ wsX11_stateOf := fun w h => (List.mem_cons_of_mem _ (List.mem_append_left _ (List.mem_append_right _ (List.mem_append_right _ (List.mem_append_left _ h)))))
theorem il_X11_stateOf_4 : ∀ w ∈ wsX11_stateOf_r4, w ∈ wsX11_stateOf := fun w h => (List.mem_cons_of_mem _ (List.mem_append_left _ (List.mem_append_right _ (List.mem_append_right _ (List.mem_append_right _ h)))))
theorem il_X11_stateOf_5 : ∀ w ∈ wsX110, w ∈ wsX11_stateOf := fun w h => (List.mem_cons_of_mem _ (List.mem_append_right _ h))
theorem iw_X11_stateOf_1 : Cond.fieldLink RX11 85 "ShipOfficeModel" "signed" "[I" ∈ wsX11_stateOf := (mmI il_X11_stateOf_1 0 rfl)
theorem iw_X11_stateOf_2 : Cond.fieldLink RX11 88 "ShipOfficeModel" "offOn" "[I" ∈ wsX11_stateOf := (mmI il_X11_stateOf_1 1 rfl)
theorem iw_X11_stateOf_3 : Cond.fieldLink RX11 73 "ShipOfficeModel" "voyage" "[I" ∈ wsX11_stateOf := (mmI il_X11_stateOf_1 3 rfl)
theorem iw_X11_stateOf_4 : Cond.fieldLink RX11 40 "ShipOfficeModel" "what" "[I" ∈ wsX11_stateOf := (mmI il_X11_stateOf_1 2 rfl)
def wsX11_aboardOf_r1 : List Cond := [Cond.fieldLink RX11 168 "ShipOfficeModel" "agreements" "I", Cond.fieldLink RX11 73 "ShipOfficeModel" "voyage" "[I", Cond.methodLink RX11 266 yX11_stateOf, Cond.instanceMethod yX11_stateOf, Cond.selects RX11 yX11_stateOf yX11_stateOf, Cond.initialized RX11, Cond.code yX11_stateOf cX11_stateOf 5 (some .int), Cond.fieldLink RX11 85 "ShipOfficeModel" "signed" "[I", Cond.fieldLink RX11 88 "ShipOfficeModel" "offOn" "[I", Cond.fieldLink RX11 40 "ShipOfficeModel" "what" "[I", Cond.methodLink RX11 288 yX11_isDead, Cond.instanceMethod yX11_isDead, Cond.selects RX11 yX11_isDead yX11_isDead, Cond.code yX11_isDead cX11_isDead 5 (some .boolean), Cond.fieldLink RX11 179 "ShipOfficeModel" "happened" "I", Cond.fieldLink RX11 43 "ShipOfficeModel" "whose" "[I", Cond.fieldLink RX11 49 "ShipOfficeModel" "known" "[I", Cond.fieldLink RX11 46 "ShipOfficeModel" "day" "[I", Cond.methodLink RX11 291 yX11_whereOf, Cond.instanceMethod yX11_whereOf, Cond.selects RX11 yX11_whereOf yX11_whereOf, Cond.code yX11_whereOf cX11_whereOf 6 (some .int), Cond.methodLink RX11 281 yX11_hasSailed, Cond.instanceMethod yX11_hasSailed]
def wsX11_aboardOf_r2 : List Cond := [Cond.selects RX11 yX11_hasSailed yX11_hasSailed, Cond.code yX11_hasSailed cX11_hasSailed 5 (some .boolean), Cond.methodLink RX11 278 yX11_sailedOn, Cond.instanceMethod yX11_sailedOn, Cond.selects RX11 yX11_sailedOn yX11_sailedOn, Cond.code yX11_sailedOn cX11_sailedOn 4 (some .int), Cond.methodLink RX11 294 yX11_isUnknown, Cond.instanceMethod yX11_isUnknown, Cond.selects RX11 yX11_isUnknown yX11_isUnknown, Cond.code yX11_isUnknown cX11_isUnknown 4 (some .boolean), Cond.methodLink RX11 275 yX11_bare, Cond.instanceMethod yX11_bare, Cond.selects RX11 yX11_bare yX11_bare, Cond.code yX11_bare cX11_bare 2 none, Cond.fieldLink RX11 128 "ShipOfficeModel" "letters" "[I", Cond.methodLink RX11 272 yX11_lastHeard, Cond.instanceMethod yX11_lastHeard, Cond.selects RX11 yX11_lastHeard yX11_lastHeard, Cond.code yX11_lastHeard cX11_lastHeard 6 (some .int), Cond.methodLink RX11 285 yX11_worth, Cond.instanceMethod yX11_worth, Cond.selects RX11 yX11_worth yX11_worth, Cond.code yX11_worth cX11_worth 4 (some .int), Cond.fieldLink RX11 58 "ShipOfficeModel" "textSize" "[I"]
def wsX11_aboardOf_r3 : List Cond := [Cond.methodLink RX11 263 yX11_actOn, Cond.instanceMethod yX11_actOn, Cond.selects RX11 yX11_actOn yX11_actOn, Cond.code yX11_actOn cX11_actOn 5 (some .int), Cond.fieldLink RX11 256 "ShipOfficeModel" "acts" "I", Cond.fieldLink RX11 61 "ShipOfficeModel" "purpose" "[I", Cond.fieldLink RX11 64 "ShipOfficeModel" "from" "[I", Cond.methodLink RX11 259 yX11_goesThrough, Cond.instanceMethod yX11_goesThrough, Cond.selects RX11 yX11_goesThrough yX11_goesThrough, Cond.code yX11_goesThrough cX11_goesThrough 3 (some .int), Cond.fieldLink RX11 216 "ShipOfficeModel" "base" "I", Cond.fieldLink RX11 213 "ShipOfficeModel" "size" "I", Cond.fieldLink RX11 210 "ShipOfficeModel" "at" "I", Cond.fieldLink RX11 244 "ShipOfficeModel" "deep" "I", Cond.fieldLink RX11 223 "ShipOfficeModel" "isWell" "Z", Cond.methodLink RX11 250 yX11_sum, Cond.instanceMethod yX11_sum, Cond.selects RX11 yX11_sum yX11_sum, Cond.code yX11_sum cX11_sum 4 (some .int), Cond.methodLink RX11 231 yX11_term, Cond.instanceMethod yX11_term, Cond.selects RX11 yX11_term yX11_term, Cond.methodLink RX11 227 yX11_sign]
def wsX11_aboardOf_r4 : List Cond := [Cond.instanceMethod yX11_sign, Cond.selects RX11 yX11_sign yX11_sign, Cond.code yX11_sign cX11_sign 1 (some .int), Cond.fieldLink RX11 125 "ShipOfficeModel" "tape" "[I", Cond.fieldLink RX11 67 "ShipOfficeModel" "text" "[I", Cond.methodLink RX11 234 yX11_held, Cond.static yX11_held, Cond.code yX11_held cX11_held 2 (some .int), Cond.constantLong RX11 219 (1000000000), Cond.constantLong RX11 221 (-1000000000), Cond.code yX11_term cX11_term 4 (some .int), Cond.methodLink RX11 238 yX11_unit, Cond.instanceMethod yX11_unit, Cond.selects RX11 yX11_unit yX11_unit, Cond.code yX11_unit cX11_unit 5 (some .int), Cond.methodLink RX11 241 yX11_isLetter, Cond.static yX11_isLetter, Cond.code yX11_isLetter cX11_isLetter 1 (some .boolean), Cond.methodLink RX11 247 yX11_breaks, Cond.instanceMethod yX11_breaks, Cond.selects RX11 yX11_breaks yX11_breaks, Cond.code yX11_breaks cX11_breaks 1 (some .int), Cond.methodLink RX11 253 yX11_takes, Cond.instanceMethod yX11_takes]
def wsX11_aboardOf_r5 : List Cond := [Cond.selects RX11 yX11_takes yX11_takes, Cond.code yX11_takes cX11_takes 2 (some .boolean)]
def wsX11_aboardOf : List Cond := .code yX11_aboardOf cX11_aboardOf 6 (some .int) :: ((wsX11_aboardOf_r1 ++ (wsX11_aboardOf_r2 ++ (wsX11_aboardOf_r3 ++ (wsX11_aboardOf_r4 ++ wsX11_aboardOf_r5)))) ++ wsX110)
theorem gw_X11_aboardOf : wsX11_aboardOf.all goodWord = true := by decide +kernel
theorem il_X11_aboardOf_1 : ∀ w ∈ wsX11_aboardOf_r1, w ∈ wsX11_aboardOf := fun w h => (List.mem_cons_of_mem _ (List.mem_append_left _ (List.mem_append_left _ h)))
theorem il_X11_aboardOf_2 : ∀ w ∈ wsX11_aboardOf_r2, w ∈ wsX11_aboardOf := fun w h => (List.mem_cons_of_mem _ (List.mem_append_left _ (List.mem_append_right _ (List.mem_append_left _ h))))
theorem il_X11_aboardOf_3 : ∀ w ∈ wsX11_aboardOf_r3, w ∈ wsX11_aboardOf := fun w h => (List.mem_cons_of_mem _ (List.mem_append_left _ (List.mem_append_right _ (List.mem_append_right _ (List.mem_append_left _ h)))))
theorem il_X11_aboardOf_4 : ∀ w ∈ wsX11_aboardOf_r4, w ∈ wsX11_aboardOf := fun w h => (List.mem_cons_of_mem _ (List.mem_append_left _ (List.mem_append_right _ (List.mem_append_right _ (List.mem_append_right _ (List.mem_append_left _ h))))))
theorem il_X11_aboardOf_5 : ∀ w ∈ wsX11_aboardOf_r5, w ∈ wsX11_aboardOf := fun w h => (List.mem_cons_of_mem _ (List.mem_append_left _ (List.mem_append_right _ (List.mem_append_right _ (List.mem_append_right _ (List.mem_append_right _ h))))))
theorem il_X11_aboardOf_6 : ∀ w ∈ wsX110, w ∈ wsX11_aboardOf := fun w h => (List.mem_cons_of_mem _ (List.mem_append_right _ h))
theorem iw_X11_aboardOf_1 : Cond.fieldLink RX11 168 "ShipOfficeModel" "agreements" "I" ∈ wsX11_aboardOf := (mmI il_X11_aboardOf_1 0 rfl)
theorem iw_X11_aboardOf_2 : Cond.fieldLink RX11 73 "ShipOfficeModel" "voyage" "[I" ∈ wsX11_aboardOf := (mmI il_X11_aboardOf_1 1 rfl)
def wsX11_puts_r1 : List Cond := [Cond.fieldLink RX11 85 "ShipOfficeModel" "signed" "[I", Cond.fieldLink RX11 73 "ShipOfficeModel" "voyage" "[I", Cond.fieldLink RX11 128 "ShipOfficeModel" "letters" "[I", Cond.fieldLink RX11 76 "ShipOfficeModel" "wage" "[I", Cond.fieldLink RX11 79 "ShipOfficeModel" "rank" "[I", Cond.fieldLink RX11 22 "ShipOfficeModel" "born" "[I", Cond.fieldLink RX11 70 "ShipOfficeModel" "man" "[I", Cond.methodLink RX11 266 yX11_stateOf, Cond.instanceMethod yX11_stateOf, Cond.selects RX11 yX11_stateOf yX11_stateOf, Cond.initialized RX11, Cond.code yX11_stateOf cX11_stateOf 5 (some .int), Cond.fieldLink RX11 88 "ShipOfficeModel" "offOn" "[I", Cond.fieldLink RX11 40 "ShipOfficeModel" "what" "[I", Cond.methodLink RX11 288 yX11_isDead, Cond.instanceMethod yX11_isDead, Cond.selects RX11 yX11_isDead yX11_isDead, Cond.code yX11_isDead cX11_isDead 5 (some .boolean), Cond.fieldLink RX11 179 "ShipOfficeModel" "happened" "I", Cond.fieldLink RX11 43 "ShipOfficeModel" "whose" "[I", Cond.fieldLink RX11 49 "ShipOfficeModel" "known" "[I", Cond.fieldLink RX11 46 "ShipOfficeModel" "day" "[I", Cond.methodLink RX11 291 yX11_whereOf, Cond.instanceMethod yX11_whereOf]
def wsX11_puts_r2 : List Cond := [Cond.selects RX11 yX11_whereOf yX11_whereOf, Cond.code yX11_whereOf cX11_whereOf 6 (some .int), Cond.methodLink RX11 281 yX11_hasSailed, Cond.instanceMethod yX11_hasSailed, Cond.selects RX11 yX11_hasSailed yX11_hasSailed, Cond.code yX11_hasSailed cX11_hasSailed 5 (some .boolean), Cond.methodLink RX11 278 yX11_sailedOn, Cond.instanceMethod yX11_sailedOn, Cond.selects RX11 yX11_sailedOn yX11_sailedOn, Cond.code yX11_sailedOn cX11_sailedOn 4 (some .int), Cond.methodLink RX11 294 yX11_isUnknown, Cond.instanceMethod yX11_isUnknown, Cond.selects RX11 yX11_isUnknown yX11_isUnknown, Cond.code yX11_isUnknown cX11_isUnknown 4 (some .boolean), Cond.methodLink RX11 275 yX11_bare, Cond.instanceMethod yX11_bare, Cond.selects RX11 yX11_bare yX11_bare, Cond.code yX11_bare cX11_bare 2 none, Cond.methodLink RX11 272 yX11_lastHeard, Cond.instanceMethod yX11_lastHeard, Cond.selects RX11 yX11_lastHeard yX11_lastHeard, Cond.code yX11_lastHeard cX11_lastHeard 6 (some .int), Cond.methodLink RX11 285 yX11_worth, Cond.instanceMethod yX11_worth]
def wsX11_puts_r3 : List Cond := [Cond.selects RX11 yX11_worth yX11_worth, Cond.code yX11_worth cX11_worth 4 (some .int), Cond.fieldLink RX11 58 "ShipOfficeModel" "textSize" "[I", Cond.methodLink RX11 263 yX11_actOn, Cond.instanceMethod yX11_actOn, Cond.selects RX11 yX11_actOn yX11_actOn, Cond.code yX11_actOn cX11_actOn 5 (some .int), Cond.fieldLink RX11 256 "ShipOfficeModel" "acts" "I", Cond.fieldLink RX11 61 "ShipOfficeModel" "purpose" "[I", Cond.fieldLink RX11 64 "ShipOfficeModel" "from" "[I", Cond.methodLink RX11 259 yX11_goesThrough, Cond.instanceMethod yX11_goesThrough, Cond.selects RX11 yX11_goesThrough yX11_goesThrough, Cond.code yX11_goesThrough cX11_goesThrough 3 (some .int), Cond.fieldLink RX11 216 "ShipOfficeModel" "base" "I", Cond.fieldLink RX11 213 "ShipOfficeModel" "size" "I", Cond.fieldLink RX11 210 "ShipOfficeModel" "at" "I", Cond.fieldLink RX11 244 "ShipOfficeModel" "deep" "I", Cond.fieldLink RX11 223 "ShipOfficeModel" "isWell" "Z", Cond.methodLink RX11 250 yX11_sum, Cond.instanceMethod yX11_sum, Cond.selects RX11 yX11_sum yX11_sum, Cond.code yX11_sum cX11_sum 4 (some .int), Cond.methodLink RX11 231 yX11_term]
def wsX11_puts_r4 : List Cond := [Cond.instanceMethod yX11_term, Cond.selects RX11 yX11_term yX11_term, Cond.methodLink RX11 227 yX11_sign, Cond.instanceMethod yX11_sign, Cond.selects RX11 yX11_sign yX11_sign, Cond.code yX11_sign cX11_sign 1 (some .int), Cond.fieldLink RX11 125 "ShipOfficeModel" "tape" "[I", Cond.fieldLink RX11 67 "ShipOfficeModel" "text" "[I", Cond.methodLink RX11 234 yX11_held, Cond.static yX11_held, Cond.code yX11_held cX11_held 2 (some .int), Cond.constantLong RX11 219 (1000000000), Cond.constantLong RX11 221 (-1000000000), Cond.code yX11_term cX11_term 4 (some .int), Cond.methodLink RX11 238 yX11_unit, Cond.instanceMethod yX11_unit, Cond.selects RX11 yX11_unit yX11_unit, Cond.code yX11_unit cX11_unit 5 (some .int), Cond.methodLink RX11 241 yX11_isLetter, Cond.static yX11_isLetter, Cond.code yX11_isLetter cX11_isLetter 1 (some .boolean), Cond.methodLink RX11 247 yX11_breaks, Cond.instanceMethod yX11_breaks, Cond.selects RX11 yX11_breaks yX11_breaks]
def wsX11_puts_r5 : List Cond := [Cond.code yX11_breaks cX11_breaks 1 (some .int), Cond.methodLink RX11 253 yX11_takes, Cond.instanceMethod yX11_takes, Cond.selects RX11 yX11_takes yX11_takes, Cond.code yX11_takes cX11_takes 2 (some .boolean), Cond.methodLink RX11 269 yX11_aboardOf, Cond.instanceMethod yX11_aboardOf, Cond.selects RX11 yX11_aboardOf yX11_aboardOf, Cond.code yX11_aboardOf cX11_aboardOf 6 (some .int), Cond.fieldLink RX11 168 "ShipOfficeModel" "agreements" "I"]
def wsX11_puts : List Cond := .code yX11_puts cX11_puts 9 none :: ((wsX11_puts_r1 ++ (wsX11_puts_r2 ++ (wsX11_puts_r3 ++ (wsX11_puts_r4 ++ wsX11_puts_r5)))) ++ wsX110)
theorem il_X11_puts_1 : ∀ w ∈ wsX11_puts_r1, w ∈ wsX11_puts := fun w h => (List.mem_cons_of_mem _ (List.mem_append_left _ (List.mem_append_left _ h)))
theorem il_X11_puts_2 : ∀ w ∈ wsX11_puts_r2, w ∈ wsX11_puts := fun w h => (List.mem_cons_of_mem _ (List.mem_append_left _ (List.mem_append_right _ (List.mem_append_left _ h))))
theorem il_X11_puts_3 : ∀ w ∈ wsX11_puts_r3, w ∈ wsX11_puts := fun w h => (List.mem_cons_of_mem _ (List.mem_append_left _ (List.mem_append_right _ (List.mem_append_right _ (List.mem_append_left _ h)))))
theorem il_X11_puts_4 : ∀ w ∈ wsX11_puts_r4, w ∈ wsX11_puts := fun w h => (List.mem_cons_of_mem _ (List.mem_append_left _ (List.mem_append_right _ (List.mem_append_right _ (List.mem_append_right _ (List.mem_append_left _ h))))))
theorem il_X11_puts_5 : ∀ w ∈ wsX11_puts_r5, w ∈ wsX11_puts := fun w h => (List.mem_cons_of_mem _ (List.mem_append_left _ (List.mem_append_right _ (List.mem_append_right _ (List.mem_append_right _ (List.mem_append_right _ h))))))
theorem il_X11_puts_6 : ∀ w ∈ wsX110, w ∈ wsX11_puts := fun w h => (List.mem_cons_of_mem _ (List.mem_append_right _ h))
theorem iw_X11_puts_1 : Cond.fieldLink RX11 85 "ShipOfficeModel" "signed" "[I" ∈ wsX11_puts := (mmI il_X11_puts_1 0 rfl)
theorem iw_X11_puts_2 : Cond.fieldLink RX11 73 "ShipOfficeModel" "voyage" "[I" ∈ wsX11_puts := (mmI il_X11_puts_1 1 rfl)
theorem iw_X11_puts_3 : Cond.fieldLink RX11 128 "ShipOfficeModel" "letters" "[I" ∈ wsX11_puts := (mmI il_X11_puts_1 2 rfl)
theorem iw_X11_puts_4 : Cond.fieldLink RX11 76 "ShipOfficeModel" "wage" "[I" ∈ wsX11_puts := (mmI il_X11_puts_1 3 rfl)
theorem iw_X11_puts_5 : Cond.fieldLink RX11 79 "ShipOfficeModel" "rank" "[I" ∈ wsX11_puts := (mmI il_X11_puts_1 4 rfl)
theorem iw_X11_puts_6 : Cond.fieldLink RX11 22 "ShipOfficeModel" "born" "[I" ∈ wsX11_puts := (mmI il_X11_puts_1 5 rfl)
theorem iw_X11_puts_7 : Cond.fieldLink RX11 70 "ShipOfficeModel" "man" "[I" ∈ wsX11_puts := (mmI il_X11_puts_1 6 rfl)
def wsX11_earnsOf_r1 : List Cond := [Cond.fieldLink RX11 73 "ShipOfficeModel" "voyage" "[I", Cond.fieldLink RX11 85 "ShipOfficeModel" "signed" "[I", Cond.methodLink RX11 266 yX11_stateOf, Cond.instanceMethod yX11_stateOf, Cond.selects RX11 yX11_stateOf yX11_stateOf, Cond.initialized RX11, Cond.code yX11_stateOf cX11_stateOf 5 (some .int), Cond.fieldLink RX11 88 "ShipOfficeModel" "offOn" "[I", Cond.fieldLink RX11 40 "ShipOfficeModel" "what" "[I", Cond.methodLink RX11 288 yX11_isDead, Cond.instanceMethod yX11_isDead, Cond.selects RX11 yX11_isDead yX11_isDead, Cond.code yX11_isDead cX11_isDead 5 (some .boolean), Cond.fieldLink RX11 179 "ShipOfficeModel" "happened" "I", Cond.fieldLink RX11 43 "ShipOfficeModel" "whose" "[I", Cond.fieldLink RX11 49 "ShipOfficeModel" "known" "[I", Cond.fieldLink RX11 46 "ShipOfficeModel" "day" "[I", Cond.methodLink RX11 291 yX11_whereOf, Cond.instanceMethod yX11_whereOf, Cond.selects RX11 yX11_whereOf yX11_whereOf, Cond.code yX11_whereOf cX11_whereOf 6 (some .int), Cond.methodLink RX11 281 yX11_hasSailed, Cond.instanceMethod yX11_hasSailed, Cond.selects RX11 yX11_hasSailed yX11_hasSailed]
def wsX11_earnsOf_r2 : List Cond := [Cond.code yX11_hasSailed cX11_hasSailed 5 (some .boolean), Cond.methodLink RX11 278 yX11_sailedOn, Cond.instanceMethod yX11_sailedOn, Cond.selects RX11 yX11_sailedOn yX11_sailedOn, Cond.code yX11_sailedOn cX11_sailedOn 4 (some .int), Cond.methodLink RX11 294 yX11_isUnknown, Cond.instanceMethod yX11_isUnknown, Cond.selects RX11 yX11_isUnknown yX11_isUnknown, Cond.code yX11_isUnknown cX11_isUnknown 4 (some .boolean), Cond.methodLink RX11 275 yX11_bare, Cond.instanceMethod yX11_bare, Cond.selects RX11 yX11_bare yX11_bare, Cond.code yX11_bare cX11_bare 2 none, Cond.fieldLink RX11 128 "ShipOfficeModel" "letters" "[I", Cond.methodLink RX11 272 yX11_lastHeard, Cond.instanceMethod yX11_lastHeard, Cond.selects RX11 yX11_lastHeard yX11_lastHeard, Cond.code yX11_lastHeard cX11_lastHeard 6 (some .int), Cond.methodLink RX11 285 yX11_worth, Cond.instanceMethod yX11_worth, Cond.selects RX11 yX11_worth yX11_worth, Cond.code yX11_worth cX11_worth 4 (some .int), Cond.fieldLink RX11 58 "ShipOfficeModel" "textSize" "[I", Cond.methodLink RX11 263 yX11_actOn]
def wsX11_earnsOf_r3 : List Cond := [Cond.instanceMethod yX11_actOn, Cond.selects RX11 yX11_actOn yX11_actOn, Cond.code yX11_actOn cX11_actOn 5 (some .int), Cond.fieldLink RX11 256 "ShipOfficeModel" "acts" "I", Cond.fieldLink RX11 61 "ShipOfficeModel" "purpose" "[I", Cond.fieldLink RX11 64 "ShipOfficeModel" "from" "[I", Cond.methodLink RX11 259 yX11_goesThrough, Cond.instanceMethod yX11_goesThrough, Cond.selects RX11 yX11_goesThrough yX11_goesThrough, Cond.code yX11_goesThrough cX11_goesThrough 3 (some .int), Cond.fieldLink RX11 216 "ShipOfficeModel" "base" "I", Cond.fieldLink RX11 213 "ShipOfficeModel" "size" "I", Cond.fieldLink RX11 210 "ShipOfficeModel" "at" "I", Cond.fieldLink RX11 244 "ShipOfficeModel" "deep" "I", Cond.fieldLink RX11 223 "ShipOfficeModel" "isWell" "Z", Cond.methodLink RX11 250 yX11_sum, Cond.instanceMethod yX11_sum, Cond.selects RX11 yX11_sum yX11_sum, Cond.code yX11_sum cX11_sum 4 (some .int), Cond.methodLink RX11 231 yX11_term, Cond.instanceMethod yX11_term, Cond.selects RX11 yX11_term yX11_term, Cond.methodLink RX11 227 yX11_sign, Cond.instanceMethod yX11_sign]
def wsX11_earnsOf_r4 : List Cond := [Cond.selects RX11 yX11_sign yX11_sign, Cond.code yX11_sign cX11_sign 1 (some .int), Cond.fieldLink RX11 125 "ShipOfficeModel" "tape" "[I", Cond.fieldLink RX11 67 "ShipOfficeModel" "text" "[I", Cond.methodLink RX11 234 yX11_held, Cond.static yX11_held, Cond.code yX11_held cX11_held 2 (some .int), Cond.constantLong RX11 219 (1000000000), Cond.constantLong RX11 221 (-1000000000), Cond.code yX11_term cX11_term 4 (some .int), Cond.methodLink RX11 238 yX11_unit, Cond.instanceMethod yX11_unit, Cond.selects RX11 yX11_unit yX11_unit, Cond.code yX11_unit cX11_unit 5 (some .int), Cond.methodLink RX11 241 yX11_isLetter, Cond.static yX11_isLetter, Cond.code yX11_isLetter cX11_isLetter 1 (some .boolean), Cond.methodLink RX11 247 yX11_breaks, Cond.instanceMethod yX11_breaks, Cond.selects RX11 yX11_breaks yX11_breaks, Cond.code yX11_breaks cX11_breaks 1 (some .int), Cond.methodLink RX11 253 yX11_takes, Cond.instanceMethod yX11_takes, Cond.selects RX11 yX11_takes yX11_takes]
def wsX11_earnsOf_r5 : List Cond := [Cond.code yX11_takes cX11_takes 2 (some .boolean), Cond.methodLink RX11 161 yX11_isIn, Cond.static yX11_isIn, Cond.code yX11_isIn cX11_isIn 2 (some .boolean)]
def wsX11_earnsOf : List Cond := .code yX11_earnsOf cX11_earnsOf 7 (some .int) :: ((wsX11_earnsOf_r1 ++ (wsX11_earnsOf_r2 ++ (wsX11_earnsOf_r3 ++ (wsX11_earnsOf_r4 ++ wsX11_earnsOf_r5)))) ++ wsX110)
theorem il_X11_earnsOf_1 : ∀ w ∈ wsX11_earnsOf_r1, w ∈ wsX11_earnsOf := fun w h => (List.mem_cons_of_mem _ (List.mem_append_left _ (List.mem_append_left _ h)))
theorem il_X11_earnsOf_2 : ∀ w ∈ wsX11_earnsOf_r2, w ∈ wsX11_earnsOf := fun w h => (List.mem_cons_of_mem _ (List.mem_append_left _ (List.mem_append_right _ (List.mem_append_left _ h))))
theorem il_X11_earnsOf_3 : ∀ w ∈ wsX11_earnsOf_r3, w ∈ wsX11_earnsOf := fun w h => (List.mem_cons_of_mem _ (List.mem_append_left _ (List.mem_append_right _ (List.mem_append_right _ (List.mem_append_left _ h)))))
theorem il_X11_earnsOf_4 : ∀ w ∈ wsX11_earnsOf_r4, w ∈ wsX11_earnsOf := fun w h => (List.mem_cons_of_mem _ (List.mem_append_left _ (List.mem_append_right _ (List.mem_append_right _ (List.mem_append_right _ (List.mem_append_left _ h))))))
theorem il_X11_earnsOf_5 : ∀ w ∈ wsX11_earnsOf_r5, w ∈ wsX11_earnsOf := fun w h => (List.mem_cons_of_mem _ (List.mem_append_left _ (List.mem_append_right _ (List.mem_append_right _ (List.mem_append_right _ (List.mem_append_right _ h))))))
theorem il_X11_earnsOf_6 : ∀ w ∈ wsX110, w ∈ wsX11_earnsOf := fun w h => (List.mem_cons_of_mem _ (List.mem_append_right _ h))
theorem iw_X11_earnsOf_1 : Cond.fieldLink RX11 85 "ShipOfficeModel" "signed" "[I" ∈ wsX11_earnsOf := (mmI il_X11_earnsOf_1 1 rfl)
theorem iw_X11_earnsOf_2 : Cond.fieldLink RX11 73 "ShipOfficeModel" "voyage" "[I" ∈ wsX11_earnsOf := (mmI il_X11_earnsOf_1 0 rfl)
set_option maxRecDepth 100000 in
theorem ggX11_worth_X11_actOn : GoodIn wsX11_worth wsX11_actOn := goodIn_sub (mmC (mmI il_X11_worth_1 6 rfl) (mmA (mmC (mmI il_X11_worth_1 7 rfl) (mmC (mmI il_X11_worth_1 8 rfl) (mmC (mmI il_X11_worth_1 9 rfl) mmN))) il_X11_worth_4)) gw_X11_actOn
theorem gX11_worth_X11_actOn : GoodIn wsX11_worth (wsV RX11 263 RX11 yX11_actOn wsX11_actOn) := goodIn_app (goodIn_sub (mmC (mmI il_X11_worth_1 2 rfl) (mmC (mmI il_X11_worth_1 3 rfl) (mmC (mmI il_X11_worth_1 4 rfl) (mmC (mmI il_X11_worth_1 5 rfl) mmN)))) (by decide +kernel)) ggX11_worth_X11_actOn
set_option maxRecDepth 100000 in
theorem ggX11_worth_X11_goesThrough : GoodIn wsX11_worth wsX11_goesThrough := goodIn_sub (mmC (mmI il_X11_worth_1 13 rfl) (mmA (mmA (mmC (mmI il_X11_worth_1 14 rfl) (mmC (mmI il_X11_worth_1 15 rfl) (mmC (mmI il_X11_worth_1 16 rfl) (mmC (mmI il_X11_worth_1 17 rfl) (mmC (mmI il_X11_worth_1 18 rfl) (mmC (mmI il_X11_worth_1 19 rfl) (mmC (mmI il_X11_worth_1 20 rfl) (mmC (mmI il_X11_worth_1 21 rfl) (mmC (mmI il_X11_worth_1 5 rfl) (mmC (mmI il_X11_worth_1 22 rfl) (mmC (mmI il_X11_worth_1 23 rfl) (mmC (mmI il_X11_worth_2 0 rfl) (mmC (mmI il_X11_worth_2 1 rfl) (mmC (mmI il_X11_worth_2 2 rfl) (mmC (mmI il_X11_worth_2 3 rfl) (mmC (mmI il_X11_worth_2 4 rfl) (mmC (mmI il_X11_worth_2 5 rfl) (mmC (mmI il_X11_worth_2 6 rfl) (mmC (mmI il_X11_worth_2 7 rfl) (mmC (mmI il_X11_worth_2 8 rfl) (mmC (mmI il_X11_worth_2 9 rfl) (mmC (mmI il_X11_worth_2 10 rfl) (mmC (mmI il_X11_worth_2 11 rfl) (mmC (mmI il_X11_worth_2 12 rfl) mmN)))))))))))))))))))))))) (mmC (mmI il_X11_worth_2 13 rfl) (mmC (mmI il_X11_worth_2 14 rfl) (mmC (mmI il_X11_worth_2 15 rfl) (mmC (mmI il_X11_worth_2 16 rfl) (mmC (mmI il_X11_worth_2 17 rfl) (mmC (mmI il_X11_worth_1 1 rfl) (mmC (mmI il_X11_worth_2 18 rfl) (mmC (mmI il_X11_worth_2 19 rfl) (mmC (mmI il_X11_worth_2 20 rfl) (mmC (mmI il_X11_worth_2 21 rfl) (mmC (mmI il_X11_worth_2 22 rfl) (mmC (mmI il_X11_worth_2 23 rfl) (mmC (mmI il_X11_worth_3 0 rfl) (mmC (mmI il_X11_worth_3 1 rfl) (mmC (mmI il_X11_worth_3 2 rfl) (mmC (mmI il_X11_worth_3 3 rfl) (mmC (mmI il_X11_worth_3 4 rfl) mmN)))))))))))))))))) il_X11_worth_4)) gw_X11_goesThrough
theorem gX11_worth_X11_goesThrough : GoodIn wsX11_worth (wsV RX11 259 RX11 yX11_goesThrough wsX11_goesThrough) := goodIn_app (goodIn_sub (mmC (mmI il_X11_worth_1 10 rfl) (mmC (mmI il_X11_worth_1 11 rfl) (mmC (mmI il_X11_worth_1 12 rfl) (mmC (mmI il_X11_worth_1 5 rfl) mmN)))) (by decide +kernel)) ggX11_worth_X11_goesThrough
theorem dX11_worth_0 : decode cX11_worth 0 = .ok (.aload_n 0, 1) := by decide +kernel
theorem dX11_worth_1 : decode cX11_worth 1 = .ok (.iload_n 1, 1) := by decide +kernel
theorem dX11_worth_2 : decode cX11_worth 2 = .ok (.iload_n 2, 1) := by decide +kernel
theorem dX11_worth_3 : decode cX11_worth 3 = .ok (.invokevirtual 263, 3) := by decide +kernel
theorem dX11_worth_6 : decode cX11_worth 6 = .ok (.istore_n 3, 1) := by decide +kernel
theorem dX11_worth_7 : decode cX11_worth 7 = .ok (.iload_n 3, 1) := by decide +kernel
theorem dX11_worth_8 : decode cX11_worth 8 = .ok (.ifCond .lt 18, 3) := by decide +kernel
theorem dX11_worth_11 : decode cX11_worth 11 = .ok (.aload_n 0, 1) := by decide +kernel
theorem dX11_worth_12 : decode cX11_worth 12 = .ok (.bipush 60, 2) := by decide +kernel
theorem dX11_worth_14 : decode cX11_worth 14 = .ok (.iload_n 3, 1) := by decide +kernel
theorem dX11_worth_15 : decode cX11_worth 15 = .ok (.imul, 1) := by decide +kernel
theorem dX11_worth_16 : decode cX11_worth 16 = .ok (.aload_n 0, 1) := by decide +kernel
theorem dX11_worth_17 : decode cX11_worth 17 = .ok (.getfield 58, 3) := by decide +kernel
theorem dX11_worth_20 : decode cX11_worth 20 = .ok (.iload_n 3, 1) := by decide +kernel
theorem dX11_worth_21 : decode cX11_worth 21 = .ok (.iaload, 1) := by decide +kernel
theorem dX11_worth_22 : decode cX11_worth 22 = .ok (.invokevirtual 259, 3) := by decide +kernel
theorem dX11_worth_25 : decode cX11_worth 25 = .ok (.ireturn, 1) := by decide +kernel
theorem dX11_worth_26 : decode cX11_worth 26 = .ok (.iload_n 1, 1) := by decide +kernel
theorem dX11_worth_27 : decode cX11_worth 27 = .ok (.ifCond .ne 7, 3) := by decide +kernel
theorem dX11_worth_30 : decode cX11_worth 30 = .ok (.iconst 1, 1) := by decide +kernel
theorem dX11_worth_31 : decode cX11_worth 31 = .ok (.goto 40, 3) := by decide +kernel
theorem dX11_worth_34 : decode cX11_worth 34 = .ok (.iload_n 1, 1) := by decide +kernel
theorem dX11_worth_35 : decode cX11_worth 35 = .ok (.iconst 1, 1) := by decide +kernel
theorem dX11_worth_36 : decode cX11_worth 36 = .ok (.if_icmp .ne 13, 3) := by decide +kernel
theorem dX11_worth_39 : decode cX11_worth 39 = .ok (.aload_n 0, 1) := by decide +kernel
theorem dX11_worth_40 : decode cX11_worth 40 = .ok (.getfield 128, 3) := by decide +kernel
theorem dX11_worth_43 : decode cX11_worth 43 = .ok (.bipush 115, 2) := by decide +kernel
theorem dX11_worth_45 : decode cX11_worth 45 = .ok (.iaload, 1) := by decide +kernel
theorem dX11_worth_46 : decode cX11_worth 46 = .ok (.goto 25, 3) := by decide +kernel
theorem dX11_worth_49 : decode cX11_worth 49 = .ok (.iload_n 1, 1) := by decide +kernel
theorem dX11_worth_50 : decode cX11_worth 50 = .ok (.iconst 2, 1) := by decide +kernel
theorem dX11_worth_51 : decode cX11_worth 51 = .ok (.if_icmp .ne 8, 3) := by decide +kernel
theorem dX11_worth_54 : decode cX11_worth 54 = .ok (.bipush 100, 2) := by decide +kernel
theorem dX11_worth_56 : decode cX11_worth 56 = .ok (.goto 15, 3) := by decide +kernel
theorem dX11_worth_59 : decode cX11_worth 59 = .ok (.iload_n 1, 1) := by decide +kernel
theorem dX11_worth_60 : decode cX11_worth 60 = .ok (.iconst 3, 1) := by decide +kernel
theorem dX11_worth_61 : decode cX11_worth 61 = .ok (.if_icmp .ne 8, 3) := by decide +kernel
theorem dX11_worth_64 : decode cX11_worth 64 = .ok (.bipush 50, 2) := by decide +kernel
theorem dX11_worth_66 : decode cX11_worth 66 = .ok (.goto 5, 3) := by decide +kernel
theorem dX11_worth_69 : decode cX11_worth 69 = .ok (.bipush 90, 2) := by decide +kernel
theorem dX11_worth_71 : decode cX11_worth 71 = .ok (.ireturn, 1) := by decide +kernel
set_option maxRecDepth 100000 in
theorem ggX11_puts_X11_stateOf : GoodIn wsX11_puts wsX11_stateOf := goodIn_sub (mmC (mmI il_X11_puts_1 11 rfl) (mmA (mmA (mmC (mmI il_X11_puts_1 0 rfl) (mmC (mmI il_X11_puts_1 12 rfl) (mmC (mmI il_X11_puts_1 13 rfl) (mmC (mmI il_X11_puts_1 1 rfl) (mmC (mmI il_X11_puts_1 14 rfl) (mmC (mmI il_X11_puts_1 15 rfl) (mmC (mmI il_X11_puts_1 16 rfl) (mmC (mmI il_X11_puts_1 10 rfl) (mmC (mmI il_X11_puts_1 17 rfl) (mmC (mmI il_X11_puts_1 18 rfl) (mmC (mmI il_X11_puts_1 19 rfl) (mmC (mmI il_X11_puts_1 20 rfl) (mmC (mmI il_X11_puts_1 21 rfl) (mmC (mmI il_X11_puts_1 22 rfl) (mmC (mmI il_X11_puts_1 23 rfl) (mmC (mmI il_X11_puts_2 0 rfl) (mmC (mmI il_X11_puts_2 1 rfl) (mmC (mmI il_X11_puts_2 2 rfl) (mmC (mmI il_X11_puts_2 3 rfl) (mmC (mmI il_X11_puts_2 4 rfl) (mmC (mmI il_X11_puts_2 5 rfl) (mmC (mmI il_X11_puts_2 6 rfl) (mmC (mmI il_X11_puts_2 7 rfl) (mmC (mmI il_X11_puts_2 8 rfl) mmN)))))))))))))))))))))))) (mmA (mmC (mmI il_X11_puts_2 9 rfl) (mmC (mmI il_X11_puts_2 10 rfl) (mmC (mmI il_X11_puts_2 11 rfl) (mmC (mmI il_X11_puts_2 12 rfl) (mmC (mmI il_X11_puts_2 13 rfl) (mmC (mmI il_X11_puts_2 14 rfl) (mmC (mmI il_X11_puts_2 15 rfl) (mmC (mmI il_X11_puts_2 16 rfl) (mmC (mmI il_X11_puts_2 17 rfl) (mmC (mmI il_X11_puts_1 2 rfl) (mmC (mmI il_X11_puts_2 18 rfl) (mmC (mmI il_X11_puts_2 19 rfl) (mmC (mmI il_X11_puts_2 20 rfl) (mmC (mmI il_X11_puts_2 21 rfl) (mmC (mmI il_X11_puts_2 22 rfl) (mmC (mmI il_X11_puts_2 23 rfl) (mmC (mmI il_X11_puts_3 0 rfl) (mmC (mmI il_X11_puts_3 1 rfl) (mmC (mmI il_X11_puts_3 2 rfl) (mmC (mmI il_X11_puts_3 3 rfl) (mmC (mmI il_X11_puts_3 4 rfl) (mmC (mmI il_X11_puts_3 5 rfl) (mmC (mmI il_X11_puts_3 6 rfl) (mmC (mmI il_X11_puts_3 7 rfl) mmN)))))))))))))))))))))))) (mmA (mmC (mmI il_X11_puts_3 8 rfl) (mmC (mmI il_X11_puts_3 9 rfl) (mmC (mmI il_X11_puts_3 10 rfl) (mmC (mmI il_X11_puts_3 11 rfl) (mmC (mmI il_X11_puts_3 12 rfl) (mmC (mmI il_X11_puts_3 13 rfl) (mmC (mmI il_X11_puts_3 14 rfl) (mmC (mmI il_X11_puts_3 15 rfl) (mmC (mmI il_X11_puts_3 16 rfl) (mmC (mmI il_X11_puts_3 17 rfl) (mmC (mmI il_X11_puts_3 18 rfl) (mmC (mmI il_X11_puts_3 19 rfl) (mmC (mmI il_X11_puts_3 20 rfl) (mmC (mmI il_X11_puts_3 21 rfl) (mmC (mmI il_X11_puts_3 22 rfl) (mmC (mmI il_X11_puts_3 23 rfl) (mmC (mmI il_X11_puts_4 0 rfl) (mmC (mmI il_X11_puts_4 1 rfl) (mmC (mmI il_X11_puts_4 2 rfl) (mmC (mmI il_X11_puts_4 3 rfl) (mmC (mmI il_X11_puts_4 4 rfl) (mmC (mmI il_X11_puts_4 5 rfl) (mmC (mmI il_X11_puts_4 6 rfl) (mmC (mmI il_X11_puts_4 7 rfl) mmN)))))))))))))))))))))))) (mmC (mmI il_X11_puts_4 8 rfl) (mmC (mmI il_X11_puts_4 9 rfl) (mmC (mmI il_X11_puts_4 10 rfl) (mmC (mmI il_X11_puts_4 11 rfl) (mmC (mmI il_X11_puts_4 12 rfl) (mmC (mmI il_X11_puts_4 13 rfl) (mmC (mmI il_X11_puts_4 14 rfl) (mmC (mmI il_X11_puts_4 15 rfl) (mmC (mmI il_X11_puts_4 16 rfl) (mmC (mmI il_X11_puts_4 17 rfl) (mmC (mmI il_X11_puts_4 18 rfl) (mmC (mmI il_X11_puts_4 19 rfl) (mmC (mmI il_X11_puts_4 20 rfl) (mmC (mmI il_X11_puts_4 21 rfl) (mmC (mmI il_X11_puts_4 22 rfl) (mmC (mmI il_X11_puts_4 23 rfl) (mmC (mmI il_X11_puts_5 0 rfl) (mmC (mmI il_X11_puts_5 1 rfl) (mmC (mmI il_X11_puts_5 2 rfl) (mmC (mmI il_X11_puts_5 3 rfl) (mmC (mmI il_X11_puts_5 4 rfl) mmN)))))))))))))))))))))))) il_X11_puts_6)) gw_X11_stateOf
theorem gX11_puts_X11_stateOf : GoodIn wsX11_puts (wsV RX11 266 RX11 yX11_stateOf wsX11_stateOf) := goodIn_app (goodIn_sub (mmC (mmI il_X11_puts_1 7 rfl) (mmC (mmI il_X11_puts_1 8 rfl) (mmC (mmI il_X11_puts_1 9 rfl) (mmC (mmI il_X11_puts_1 10 rfl) mmN)))) (by decide +kernel)) ggX11_puts_X11_stateOf
set_option maxRecDepth 100000 in
theorem ggX11_puts_X11_aboardOf : GoodIn wsX11_puts wsX11_aboardOf := goodIn_sub (mmC (mmI il_X11_puts_5 8 rfl) (mmA (mmA (mmC (mmI il_X11_puts_5 9 rfl) (mmC (mmI il_X11_puts_1 1 rfl) (mmC (mmI il_X11_puts_1 7 rfl) (mmC (mmI il_X11_puts_1 8 rfl) (mmC (mmI il_X11_puts_1 9 rfl) (mmC (mmI il_X11_puts_1 10 rfl) (mmC (mmI il_X11_puts_1 11 rfl) (mmC (mmI il_X11_puts_1 0 rfl) (mmC (mmI il_X11_puts_1 12 rfl) (mmC (mmI il_X11_puts_1 13 rfl) (mmC (mmI il_X11_puts_1 14 rfl) (mmC (mmI il_X11_puts_1 15 rfl) (mmC (mmI il_X11_puts_1 16 rfl) (mmC (mmI il_X11_puts_1 17 rfl) (mmC (mmI il_X11_puts_1 18 rfl) (mmC (mmI il_X11_puts_1 19 rfl) (mmC (mmI il_X11_puts_1 20 rfl) (mmC (mmI il_X11_puts_1 21 rfl) (mmC (mmI il_X11_puts_1 22 rfl) (mmC (mmI il_X11_puts_1 23 rfl) (mmC (mmI il_X11_puts_2 0 rfl) (mmC (mmI il_X11_puts_2 1 rfl) (mmC (mmI il_X11_puts_2 2 rfl) (mmC (mmI il_X11_puts_2 3 rfl) mmN)))))))))))))))))))))))) (mmA (mmC (mmI il_X11_puts_2 4 rfl) (mmC (mmI il_X11_puts_2 5 rfl) (mmC (mmI il_X11_puts_2 6 rfl) (mmC (mmI il_X11_puts_2 7 rfl) (mmC (mmI il_X11_puts_2 8 rfl) (mmC (mmI il_X11_puts_2 9 rfl) (mmC (mmI il_X11_puts_2 10 rfl) (mmC (mmI il_X11_puts_2 11 rfl) (mmC (mmI il_X11_puts_2 12 rfl) (mmC (mmI il_X11_puts_2 13 rfl) (mmC (mmI il_X11_puts_2 14 rfl) (mmC (mmI il_X11_puts_2 15 rfl) (mmC (mmI il_X11_puts_2 16 rfl) (mmC (mmI il_X11_puts_2 17 rfl) (mmC (mmI il_X11_puts_1 2 rfl) (mmC (mmI il_X11_puts_2 18 rfl) (mmC (mmI il_X11_puts_2 19 rfl) (mmC (mmI il_X11_puts_2 20 rfl) (mmC (mmI il_X11_puts_2 21 rfl) (mmC (mmI il_X11_puts_2 22 rfl) (mmC (mmI il_X11_puts_2 23 rfl) (mmC (mmI il_X11_puts_3 0 rfl) (mmC (mmI il_X11_puts_3 1 rfl) (mmC (mmI il_X11_puts_3 2 rfl) mmN)))))))))))))))))))))))) (mmA (mmC (mmI il_X11_puts_3 3 rfl) (mmC (mmI il_X11_puts_3 4 rfl) (mmC (mmI il_X11_puts_3 5 rfl) (mmC (mmI il_X11_puts_3 6 rfl) (mmC (mmI il_X11_puts_3 7 rfl) (mmC (mmI il_X11_puts_3 8 rfl) (mmC (mmI il_X11_puts_3 9 rfl) (mmC (mmI il_X11_puts_3 10 rfl) (mmC (mmI il_X11_puts_3 11 rfl) (mmC (mmI il_X11_puts_3 12 rfl) (mmC (mmI il_X11_puts_3 13 rfl) (mmC (mmI il_X11_puts_3 14 rfl) (mmC (mmI il_X11_puts_3 15 rfl) (mmC (mmI il_X11_puts_3 16 rfl) (mmC (mmI il_X11_puts_3 17 rfl) (mmC (mmI il_X11_puts_3 18 rfl) (mmC (mmI il_X11_puts_3 19 rfl) (mmC (mmI il_X11_puts_3 20 rfl) (mmC (mmI il_X11_puts_3 21 rfl) (mmC (mmI il_X11_puts_3 22 rfl) (mmC (mmI il_X11_puts_3 23 rfl) (mmC (mmI il_X11_puts_4 0 rfl) (mmC (mmI il_X11_puts_4 1 rfl) (mmC (mmI il_X11_puts_4 2 rfl) mmN)))))))))))))))))))))))) (mmA (mmC (mmI il_X11_puts_4 3 rfl) (mmC (mmI il_X11_puts_4 4 rfl) (mmC (mmI il_X11_puts_4 5 rfl) (mmC (mmI il_X11_puts_4 6 rfl) (mmC (mmI il_X11_puts_4 7 rfl) (mmC (mmI il_X11_puts_4 8 rfl) (mmC (mmI il_X11_puts_4 9 rfl) (mmC (mmI il_X11_puts_4 10 rfl) (mmC (mmI il_X11_puts_4 11 rfl) (mmC (mmI il_X11_puts_4 12 rfl) (mmC (mmI il_X11_puts_4 13 rfl) (mmC (mmI il_X11_puts_4 14 rfl) (mmC (mmI il_X11_puts_4 15 rfl) (mmC (mmI il_X11_puts_4 16 rfl) (mmC (mmI il_X11_puts_4 17 rfl) (mmC (mmI il_X11_puts_4 18 rfl) (mmC (mmI il_X11_puts_4 19 rfl) (mmC (mmI il_X11_puts_4 20 rfl) (mmC (mmI il_X11_puts_4 21 rfl) (mmC (mmI il_X11_puts_4 22 rfl) (mmC (mmI il_X11_puts_4 23 rfl) (mmC (mmI il_X11_puts_5 0 rfl) (mmC (mmI il_X11_puts_5 1 rfl) (mmC (mmI il_X11_puts_5 2 rfl) mmN)))))))))))))))))))))))) (mmC (mmI il_X11_puts_5 3 rfl) (mmC (mmI il_X11_puts_5 4 rfl) mmN)))))) il_X11_puts_6)) gw_X11_aboardOf
theorem gX11_puts_X11_aboardOf : GoodIn wsX11_puts (wsV RX11 269 RX11 yX11_aboardOf wsX11_aboardOf) := goodIn_app (goodIn_sub (mmC (mmI il_X11_puts_5 5 rfl) (mmC (mmI il_X11_puts_5 6 rfl) (mmC (mmI il_X11_puts_5 7 rfl) (mmC (mmI il_X11_puts_1 10 rfl) mmN)))) (by decide +kernel)) ggX11_puts_X11_aboardOf
set_option maxRecDepth 100000 in
theorem ggX11_puts_X11_lastHeard : GoodIn wsX11_puts wsX11_lastHeard := goodIn_sub (mmC (mmI il_X11_puts_2 21 rfl) (mmA (mmC (mmI il_X11_puts_1 18 rfl) (mmC (mmI il_X11_puts_1 13 rfl) (mmC (mmI il_X11_puts_1 19 rfl) (mmC (mmI il_X11_puts_1 20 rfl) (mmC (mmI il_X11_puts_1 21 rfl) mmN))))) il_X11_puts_6)) gw_X11_lastHeard
theorem gX11_puts_X11_lastHeard : GoodIn wsX11_puts (wsV RX11 272 RX11 yX11_lastHeard wsX11_lastHeard) := goodIn_app (goodIn_sub (mmC (mmI il_X11_puts_2 18 rfl) (mmC (mmI il_X11_puts_2 19 rfl) (mmC (mmI il_X11_puts_2 20 rfl) (mmC (mmI il_X11_puts_1 10 rfl) mmN)))) (by decide +kernel)) ggX11_puts_X11_lastHeard
set_option maxRecDepth 100000 in
theorem ggX11_puts_X11_bare : GoodIn wsX11_puts wsX11_bare := goodIn_sub (mmC (mmI il_X11_puts_2 17 rfl) (mmA (mmC (mmI il_X11_puts_1 2 rfl) mmN) il_X11_puts_6)) gw_X11_bare
theorem gX11_puts_X11_bare : GoodIn wsX11_puts (wsV RX11 275 RX11 yX11_bare wsX11_bare) := goodIn_app (goodIn_sub (mmC (mmI il_X11_puts_2 14 rfl) (mmC (mmI il_X11_puts_2 15 rfl) (mmC (mmI il_X11_puts_2 16 rfl) (mmC (mmI il_X11_puts_1 10 rfl) mmN)))) (by decide +kernel)) ggX11_puts_X11_bare
theorem dX11_puts_0 : decode cX11_puts 0 = .ok (.iconst 0, 1) := by decide +kernel
theorem dX11_puts_1 : decode cX11_puts 1 = .ok (.istore 6, 2) := by decide +kernel
theorem dX11_puts_3 : decode cX11_puts 3 = .ok (.aload_n 0, 1) := by decide +kernel
theorem dX11_puts_4 : decode cX11_puts 4 = .ok (.getfield 85, 3) := by decide +kernel
theorem dX11_puts_7 : decode cX11_puts 7 = .ok (.iload_n 1, 1) := by decide +kernel
theorem dX11_puts_8 : decode cX11_puts 8 = .ok (.iaload, 1) := by decide +kernel
theorem dX11_puts_9 : decode cX11_puts 9 = .ok (.istore 7, 2) := by decide +kernel
theorem dX11_puts_11 : decode cX11_puts 11 = .ok (.iload 7, 2) := by decide +kernel
theorem dX11_puts_13 : decode cX11_puts 13 = .ok (.iload_n 2, 1) := by decide +kernel
theorem dX11_puts_14 : decode cX11_puts 14 = .ok (.if_icmp .gt 31, 3) := by decide +kernel
theorem dX11_puts_17 : decode cX11_puts 17 = .ok (.iload 6, 2) := by decide +kernel
theorem dX11_puts_19 : decode cX11_puts 19 = .ok (.aload_n 0, 1) := by decide +kernel
theorem dX11_puts_20 : decode cX11_puts 20 = .ok (.iload_n 1, 1) := by decide +kernel
theorem dX11_puts_21 : decode cX11_puts 21 = .ok (.iload 7, 2) := by decide +kernel
theorem dX11_puts_23 : decode cX11_puts 23 = .ok (.iload_n 3, 1) := by decide +kernel
theorem dX11_puts_24 : decode cX11_puts 24 = .ok (.invokevirtual 266, 3) := by decide +kernel
theorem dX11_puts_27 : decode cX11_puts 27 = .ok (.iconst 1, 1) := by decide +kernel
theorem dX11_puts_28 : decode cX11_puts 28 = .ok (.if_icmp .ne 7, 3) := by decide +kernel
theorem dX11_puts_31 : decode cX11_puts 31 = .ok (.iconst 1, 1) := by decide +kernel
theorem dX11_puts_32 : decode cX11_puts 32 = .ok (.goto 4, 3) := by decide +kernel
theorem dX11_puts_35 : decode cX11_puts 35 = .ok (.iconst 0, 1) := by decide +kernel
theorem dX11_puts_36 : decode cX11_puts 36 = .ok (.iadd, 1) := by decide +kernel
theorem dX11_puts_37 : decode cX11_puts 37 = .ok (.istore 6, 2) := by decide +kernel
theorem dX11_puts_39 : decode cX11_puts 39 = .ok (.iinc 7 1, 3) := by decide +kernel
theorem dX11_puts_42 : decode cX11_puts 42 = .ok (.goto (-31), 3) := by decide +kernel
theorem dX11_puts_45 : decode cX11_puts 45 = .ok (.aload_n 0, 1) := by decide +kernel
theorem dX11_puts_46 : decode cX11_puts 46 = .ok (.aload_n 0, 1) := by decide +kernel
theorem dX11_puts_47 : decode cX11_puts 47 = .ok (.getfield 73, 3) := by decide +kernel
theorem dX11_puts_50 : decode cX11_puts 50 = .ok (.iload_n 1, 1) := by decide +kernel
theorem dX11_puts_51 : decode cX11_puts 51 = .ok (.iaload, 1) := by decide +kernel
theorem dX11_puts_52 : decode cX11_puts 52 = .ok (.iload_n 2, 1) := by decide +kernel
theorem dX11_puts_53 : decode cX11_puts 53 = .ok (.iload_n 3, 1) := by decide +kernel
theorem dX11_puts_54 : decode cX11_puts 54 = .ok (.invokevirtual 269, 3) := by decide +kernel
theorem dX11_puts_57 : decode cX11_puts 57 = .ok (.istore 7, 2) := by decide +kernel
theorem dX11_puts_59 : decode cX11_puts 59 = .ok (.aload_n 0, 1) := by decide +kernel
theorem dX11_puts_60 : decode cX11_puts 60 = .ok (.aload_n 0, 1) := by decide +kernel
theorem dX11_puts_61 : decode cX11_puts 61 = .ok (.getfield 73, 3) := by decide +kernel
theorem dX11_puts_64 : decode cX11_puts 64 = .ok (.iload_n 1, 1) := by decide +kernel
theorem dX11_puts_65 : decode cX11_puts 65 = .ok (.iaload, 1) := by decide +kernel
theorem dX11_puts_66 : decode cX11_puts 66 = .ok (.iload_n 2, 1) := by decide +kernel
theorem dX11_puts_67 : decode cX11_puts 67 = .ok (.iload_n 3, 1) := by decide +kernel
theorem dX11_puts_68 : decode cX11_puts 68 = .ok (.invokevirtual 272, 3) := by decide +kernel
theorem dX11_puts_71 : decode cX11_puts 71 = .ok (.istore 8, 2) := by decide +kernel
theorem dX11_puts_73 : decode cX11_puts 73 = .ok (.aload_n 0, 1) := by decide +kernel
theorem dX11_puts_74 : decode cX11_puts 74 = .ok (.invokevirtual 275, 3) := by decide +kernel
theorem dX11_puts_77 : decode cX11_puts 77 = .ok (.aload_n 0, 1) := by decide +kernel
theorem dX11_puts_78 : decode cX11_puts 78 = .ok (.getfield 128, 3) := by decide +kernel
theorem dX11_puts_81 : decode cX11_puts 81 = .ok (.bipush 119, 2) := by decide +kernel
theorem dX11_puts_83 : decode cX11_puts 83 = .ok (.aload_n 0, 1) := by decide +kernel
theorem dX11_puts_84 : decode cX11_puts 84 = .ok (.getfield 76, 3) := by decide +kernel
theorem dX11_puts_87 : decode cX11_puts 87 = .ok (.iload_n 1, 1) := by decide +kernel
theorem dX11_puts_88 : decode cX11_puts 88 = .ok (.iaload, 1) := by decide +kernel
theorem dX11_puts_89 : decode cX11_puts 89 = .ok (.iastore, 1) := by decide +kernel
theorem dX11_puts_90 : decode cX11_puts 90 = .ok (.aload_n 0, 1) := by decide +kernel
theorem dX11_puts_91 : decode cX11_puts 91 = .ok (.getfield 128, 3) := by decide +kernel
theorem dX11_puts_94 : decode cX11_puts 94 = .ok (.bipush 114, 2) := by decide +kernel
theorem dX11_puts_96 : decode cX11_puts 96 = .ok (.aload_n 0, 1) := by decide +kernel
theorem dX11_puts_97 : decode cX11_puts 97 = .ok (.getfield 79, 3) := by decide +kernel
theorem dX11_puts_100 : decode cX11_puts 100 = .ok (.iload_n 1, 1) := by decide +kernel
theorem dX11_puts_101 : decode cX11_puts 101 = .ok (.iaload, 1) := by decide +kernel
theorem dX11_puts_102 : decode cX11_puts 102 = .ok (.iastore, 1) := by decide +kernel
theorem dX11_puts_103 : decode cX11_puts 103 = .ok (.aload_n 0, 1) := by decide +kernel
theorem dX11_puts_104 : decode cX11_puts 104 = .ok (.getfield 128, 3) := by decide +kernel
theorem dX11_puts_107 : decode cX11_puts 107 = .ok (.bipush 97, 2) := by decide +kernel
theorem dX11_puts_109 : decode cX11_puts 109 = .ok (.iload_n 2, 1) := by decide +kernel
theorem dX11_puts_110 : decode cX11_puts 110 = .ok (.aload_n 0, 1) := by decide +kernel
theorem dX11_puts_111 : decode cX11_puts 111 = .ok (.getfield 22, 3) := by decide +kernel
theorem dX11_puts_114 : decode cX11_puts 114 = .ok (.aload_n 0, 1) := by decide +kernel
theorem dX11_puts_115 : decode cX11_puts 115 = .ok (.getfield 70, 3) := by decide +kernel
theorem dX11_puts_118 : decode cX11_puts 118 = .ok (.iload_n 1, 1) := by decide +kernel
theorem dX11_puts_119 : decode cX11_puts 119 = .ok (.iaload, 1) := by decide +kernel
theorem dX11_puts_120 : decode cX11_puts 120 = .ok (.iaload, 1) := by decide +kernel
theorem dX11_puts_121 : decode cX11_puts 121 = .ok (.isub, 1) := by decide +kernel
theorem dX11_puts_122 : decode cX11_puts 122 = .ok (.sipush 365, 3) := by decide +kernel
theorem dX11_puts_125 : decode cX11_puts 125 = .ok (.idiv, 1) := by decide +kernel
theorem dX11_puts_126 : decode cX11_puts 126 = .ok (.iastore, 1) := by decide +kernel
theorem dX11_puts_127 : decode cX11_puts 127 = .ok (.aload_n 0, 1) := by decide +kernel
theorem dX11_puts_128 : decode cX11_puts 128 = .ok (.getfield 128, 3) := by decide +kernel
theorem dX11_puts_131 : decode cX11_puts 131 = .ok (.bipush 100, 2) := by decide +kernel
theorem dX11_puts_133 : decode cX11_puts 133 = .ok (.iload 6, 2) := by decide +kernel
theorem dX11_puts_135 : decode cX11_puts 135 = .ok (.iastore, 1) := by decide +kernel
theorem dX11_puts_136 : decode cX11_puts 136 = .ok (.aload_n 0, 1) := by decide +kernel
theorem dX11_puts_137 : decode cX11_puts 137 = .ok (.getfield 128, 3) := by decide +kernel
theorem dX11_puts_140 : decode cX11_puts 140 = .ok (.bipush 110, 2) := by decide +kernel
theorem dX11_puts_142 : decode cX11_puts 142 = .ok (.iload 7, 2) := by decide +kernel
theorem dX11_puts_144 : decode cX11_puts 144 = .ok (.iastore, 1) := by decide +kernel
theorem dX11_puts_145 : decode cX11_puts 145 = .ok (.aload_n 0, 1) := by decide +kernel
theorem dX11_puts_146 : decode cX11_puts 146 = .ok (.getfield 128, 3) := by decide +kernel
theorem dX11_puts_149 : decode cX11_puts 149 = .ok (.bipush 115, 2) := by decide +kernel
theorem dX11_puts_151 : decode cX11_puts 151 = .ok (.iload 4, 2) := by decide +kernel
theorem dX11_puts_153 : decode cX11_puts 153 = .ok (.iastore, 1) := by decide +kernel
theorem dX11_puts_154 : decode cX11_puts 154 = .ok (.aload_n 0, 1) := by decide +kernel
theorem dX11_puts_155 : decode cX11_puts 155 = .ok (.getfield 128, 3) := by decide +kernel
theorem dX11_puts_158 : decode cX11_puts 158 = .ok (.bipush 108, 2) := by decide +kernel
theorem dX11_puts_160 : decode cX11_puts 160 = .ok (.iload 8, 2) := by decide +kernel
theorem dX11_puts_162 : decode cX11_puts 162 = .ok (.ifCond .ge 7, 3) := by decide +kernel
theorem dX11_puts_165 : decode cX11_puts 165 = .ok (.iconst 0, 1) := by decide +kernel
theorem dX11_puts_166 : decode cX11_puts 166 = .ok (.goto 7, 3) := by decide +kernel
theorem dX11_puts_169 : decode cX11_puts 169 = .ok (.iload_n 2, 1) := by decide +kernel
theorem dX11_puts_170 : decode cX11_puts 170 = .ok (.iload 8, 2) := by decide +kernel
theorem dX11_puts_172 : decode cX11_puts 172 = .ok (.isub, 1) := by decide +kernel
theorem dX11_puts_173 : decode cX11_puts 173 = .ok (.iastore, 1) := by decide +kernel
theorem dX11_puts_174 : decode cX11_puts 174 = .ok (.aload_n 0, 1) := by decide +kernel
theorem dX11_puts_175 : decode cX11_puts 175 = .ok (.getfield 128, 3) := by decide +kernel
theorem dX11_puts_178 : decode cX11_puts 178 = .ok (.bipush 120, 2) := by decide +kernel
theorem dX11_puts_180 : decode cX11_puts 180 = .ok (.iload 5, 2) := by decide +kernel
theorem dX11_puts_182 : decode cX11_puts 182 = .ok (.ifCond .eq 7, 3) := by decide +kernel
theorem dX11_puts_185 : decode cX11_puts 185 = .ok (.iconst 1, 1) := by decide +kernel
theorem dX11_puts_186 : decode cX11_puts 186 = .ok (.goto 4, 3) := by decide +kernel
theorem dX11_puts_189 : decode cX11_puts 189 = .ok (.iconst 0, 1) := by decide +kernel
theorem dX11_puts_190 : decode cX11_puts 190 = .ok (.iastore, 1) := by decide +kernel
theorem dX11_puts_191 : decode cX11_puts 191 = .ok (.return_, 1) := by decide +kernel
set_option maxRecDepth 100000 in
theorem ggX11_isUnknown_X11_hasSailed : GoodIn wsX11_isUnknown wsX11_hasSailed := goodIn_sub (mmC (mmI il_X11_isUnknown_1 4 rfl) (mmA (mmC (mmI il_X11_isUnknown_1 5 rfl) (mmC (mmI il_X11_isUnknown_1 6 rfl) (mmC (mmI il_X11_isUnknown_1 7 rfl) (mmC (mmI il_X11_isUnknown_1 3 rfl) (mmC (mmI il_X11_isUnknown_1 8 rfl) (mmC (mmI il_X11_isUnknown_1 9 rfl) (mmC (mmI il_X11_isUnknown_1 10 rfl) (mmC (mmI il_X11_isUnknown_1 11 rfl) (mmC (mmI il_X11_isUnknown_1 12 rfl) (mmC (mmI il_X11_isUnknown_1 13 rfl) mmN)))))))))) il_X11_isUnknown_5)) gw_X11_hasSailed
theorem gX11_isUnknown_X11_hasSailed : GoodIn wsX11_isUnknown (wsV RX11 281 RX11 yX11_hasSailed wsX11_hasSailed) := goodIn_app (goodIn_sub (mmC (mmI il_X11_isUnknown_1 0 rfl) (mmC (mmI il_X11_isUnknown_1 1 rfl) (mmC (mmI il_X11_isUnknown_1 2 rfl) (mmC (mmI il_X11_isUnknown_1 3 rfl) mmN)))) (by decide +kernel)) ggX11_isUnknown_X11_hasSailed
set_option maxRecDepth 100000 in
theorem ggX11_isUnknown_X11_bare : GoodIn wsX11_isUnknown wsX11_bare := goodIn_sub (mmC (mmI il_X11_isUnknown_1 17 rfl) (mmA (mmC (mmI il_X11_isUnknown_1 18 rfl) mmN) il_X11_isUnknown_5)) gw_X11_bare
theorem gX11_isUnknown_X11_bare : GoodIn wsX11_isUnknown (wsV RX11 275 RX11 yX11_bare wsX11_bare) := goodIn_app (goodIn_sub (mmC (mmI il_X11_isUnknown_1 14 rfl) (mmC (mmI il_X11_isUnknown_1 15 rfl) (mmC (mmI il_X11_isUnknown_1 16 rfl) (mmC (mmI il_X11_isUnknown_1 3 rfl) mmN)))) (by decide +kernel)) ggX11_isUnknown_X11_bare
set_option maxRecDepth 100000 in
theorem ggX11_isUnknown_X11_lastHeard : GoodIn wsX11_isUnknown wsX11_lastHeard := goodIn_sub (mmC (mmI il_X11_isUnknown_1 22 rfl) (mmA (mmC (mmI il_X11_isUnknown_1 9 rfl) (mmC (mmI il_X11_isUnknown_1 10 rfl) (mmC (mmI il_X11_isUnknown_1 11 rfl) (mmC (mmI il_X11_isUnknown_1 12 rfl) (mmC (mmI il_X11_isUnknown_1 13 rfl) mmN))))) il_X11_isUnknown_5)) gw_X11_lastHeard
theorem gX11_isUnknown_X11_lastHeard : GoodIn wsX11_isUnknown (wsV RX11 272 RX11 yX11_lastHeard wsX11_lastHeard) := goodIn_app (goodIn_sub (mmC (mmI il_X11_isUnknown_1 19 rfl) (mmC (mmI il_X11_isUnknown_1 20 rfl) (mmC (mmI il_X11_isUnknown_1 21 rfl) (mmC (mmI il_X11_isUnknown_1 3 rfl) mmN)))) (by decide +kernel)) ggX11_isUnknown_X11_lastHeard
set_option maxRecDepth 100000 in
theorem ggX11_isUnknown_X11_worth : GoodIn wsX11_isUnknown wsX11_worth := goodIn_sub (mmC (mmI il_X11_isUnknown_2 2 rfl) (mmA (mmA (mmC (mmI il_X11_isUnknown_2 3 rfl) (mmC (mmI il_X11_isUnknown_1 18 rfl) (mmC (mmI il_X11_isUnknown_2 4 rfl) (mmC (mmI il_X11_isUnknown_2 5 rfl) (mmC (mmI il_X11_isUnknown_2 6 rfl) (mmC (mmI il_X11_isUnknown_1 3 rfl) (mmC (mmI il_X11_isUnknown_2 7 rfl) (mmC (mmI il_X11_isUnknown_2 8 rfl) (mmC (mmI il_X11_isUnknown_2 9 rfl) (mmC (mmI il_X11_isUnknown_2 10 rfl) (mmC (mmI il_X11_isUnknown_2 11 rfl) (mmC (mmI il_X11_isUnknown_2 12 rfl) (mmC (mmI il_X11_isUnknown_2 13 rfl) (mmC (mmI il_X11_isUnknown_2 14 rfl) (mmC (mmI il_X11_isUnknown_2 15 rfl) (mmC (mmI il_X11_isUnknown_2 16 rfl) (mmC (mmI il_X11_isUnknown_2 17 rfl) (mmC (mmI il_X11_isUnknown_2 18 rfl) (mmC (mmI il_X11_isUnknown_2 19 rfl) (mmC (mmI il_X11_isUnknown_2 20 rfl) (mmC (mmI il_X11_isUnknown_2 21 rfl) (mmC (mmI il_X11_isUnknown_2 22 rfl) (mmC (mmI il_X11_isUnknown_2 23 rfl) (mmC (mmI il_X11_isUnknown_3 0 rfl) mmN)))))))))))))))))))))))) (mmA (mmC (mmI il_X11_isUnknown_3 1 rfl) (mmC (mmI il_X11_isUnknown_3 2 rfl) (mmC (mmI il_X11_isUnknown_3 3 rfl) (mmC (mmI il_X11_isUnknown_3 4 rfl) (mmC (mmI il_X11_isUnknown_3 5 rfl) (mmC (mmI il_X11_isUnknown_3 6 rfl) (mmC (mmI il_X11_isUnknown_3 7 rfl) (mmC (mmI il_X11_isUnknown_3 8 rfl) (mmC (mmI il_X11_isUnknown_3 9 rfl) (mmC (mmI il_X11_isUnknown_3 10 rfl) (mmC (mmI il_X11_isUnknown_3 11 rfl) (mmC (mmI il_X11_isUnknown_3 12 rfl) (mmC (mmI il_X11_isUnknown_3 13 rfl) (mmC (mmI il_X11_isUnknown_3 14 rfl) (mmC (mmI il_X11_isUnknown_3 15 rfl) (mmC (mmI il_X11_isUnknown_3 16 rfl) (mmC (mmI il_X11_isUnknown_3 17 rfl) (mmC (mmI il_X11_isUnknown_3 18 rfl) (mmC (mmI il_X11_isUnknown_3 19 rfl) (mmC (mmI il_X11_isUnknown_3 20 rfl) (mmC (mmI il_X11_isUnknown_3 21 rfl) (mmC (mmI il_X11_isUnknown_3 22 rfl) (mmC (mmI il_X11_isUnknown_3 23 rfl) (mmC (mmI il_X11_isUnknown_4 0 rfl) mmN)))))))))))))))))))))))) (mmC (mmI il_X11_isUnknown_4 1 rfl) (mmC (mmI il_X11_isUnknown_4 2 rfl) (mmC (mmI il_X11_isUnknown_4 3 rfl) (mmC (mmI il_X11_isUnknown_4 4 rfl) (mmC (mmI il_X11_isUnknown_4 5 rfl) mmN))))))) il_X11_isUnknown_5)) gw_X11_worth
theorem gX11_isUnknown_X11_worth : GoodIn wsX11_isUnknown (wsV RX11 285 RX11 yX11_worth wsX11_worth) := goodIn_app (goodIn_sub (mmC (mmI il_X11_isUnknown_1 23 rfl) (mmC (mmI il_X11_isUnknown_2 0 rfl) (mmC (mmI il_X11_isUnknown_2 1 rfl) (mmC (mmI il_X11_isUnknown_1 3 rfl) mmN)))) (by decide +kernel)) ggX11_isUnknown_X11_worth
theorem dX11_isUnknown_0 : decode cX11_isUnknown 0 = .ok (.aload_n 0, 1) := by decide +kernel
theorem dX11_isUnknown_1 : decode cX11_isUnknown 1 = .ok (.iload_n 1, 1) := by decide +kernel
theorem dX11_isUnknown_2 : decode cX11_isUnknown 2 = .ok (.iload_n 2, 1) := by decide +kernel
theorem dX11_isUnknown_3 : decode cX11_isUnknown 3 = .ok (.iload_n 3, 1) := by decide +kernel
theorem dX11_isUnknown_4 : decode cX11_isUnknown 4 = .ok (.invokevirtual 281, 3) := by decide +kernel
theorem dX11_isUnknown_7 : decode cX11_isUnknown 7 = .ok (.ifCond .ne 5, 3) := by decide +kernel
theorem dX11_isUnknown_10 : decode cX11_isUnknown 10 = .ok (.iconst 0, 1) := by decide +kernel
theorem dX11_isUnknown_11 : decode cX11_isUnknown 11 = .ok (.ireturn, 1) := by decide +kernel
theorem dX11_isUnknown_12 : decode cX11_isUnknown 12 = .ok (.aload_n 0, 1) := by decide +kernel
theorem dX11_isUnknown_13 : decode cX11_isUnknown 13 = .ok (.invokevirtual 275, 3) := by decide +kernel
theorem dX11_isUnknown_16 : decode cX11_isUnknown 16 = .ok (.aload_n 0, 1) := by decide +kernel
theorem dX11_isUnknown_17 : decode cX11_isUnknown 17 = .ok (.iload_n 1, 1) := by decide +kernel
theorem dX11_isUnknown_18 : decode cX11_isUnknown 18 = .ok (.iload_n 2, 1) := by decide +kernel
theorem dX11_isUnknown_19 : decode cX11_isUnknown 19 = .ok (.iload_n 3, 1) := by decide +kernel
theorem dX11_isUnknown_20 : decode cX11_isUnknown 20 = .ok (.invokevirtual 272, 3) := by decide +kernel
theorem dX11_isUnknown_23 : decode cX11_isUnknown 23 = .ok (.i2l, 1) := by decide +kernel
theorem dX11_isUnknown_24 : decode cX11_isUnknown 24 = .ok (.iload_n 2, 1) := by decide +kernel
theorem dX11_isUnknown_25 : decode cX11_isUnknown 25 = .ok (.i2l, 1) := by decide +kernel
theorem dX11_isUnknown_26 : decode cX11_isUnknown 26 = .ok (.aload_n 0, 1) := by decide +kernel
theorem dX11_isUnknown_27 : decode cX11_isUnknown 27 = .ok (.iconst 4, 1) := by decide +kernel
theorem dX11_isUnknown_28 : decode cX11_isUnknown 28 = .ok (.iload_n 2, 1) := by decide +kernel
theorem dX11_isUnknown_29 : decode cX11_isUnknown 29 = .ok (.invokevirtual 285, 3) := by decide +kernel
theorem dX11_isUnknown_32 : decode cX11_isUnknown 32 = .ok (.i2l, 1) := by decide +kernel
theorem dX11_isUnknown_33 : decode cX11_isUnknown 33 = .ok (.lsub, 1) := by decide +kernel
theorem dX11_isUnknown_34 : decode cX11_isUnknown 34 = .ok (.lcmp, 1) := by decide +kernel
theorem dX11_isUnknown_35 : decode cX11_isUnknown 35 = .ok (.ifCond .ge 7, 3) := by decide +kernel
theorem dX11_isUnknown_38 : decode cX11_isUnknown 38 = .ok (.iconst 1, 1) := by decide +kernel
theorem dX11_isUnknown_39 : decode cX11_isUnknown 39 = .ok (.goto 4, 3) := by decide +kernel
theorem dX11_isUnknown_42 : decode cX11_isUnknown 42 = .ok (.iconst 0, 1) := by decide +kernel
theorem dX11_isUnknown_43 : decode cX11_isUnknown 43 = .ok (.ireturn, 1) := by decide +kernel
set_option maxRecDepth 100000 in
theorem ggX11_stateOf_X11_isDead : GoodIn wsX11_stateOf wsX11_isDead := goodIn_sub (mmC (mmI il_X11_stateOf_1 8 rfl) (mmA (mmC (mmI il_X11_stateOf_1 9 rfl) (mmC (mmI il_X11_stateOf_1 2 rfl) (mmC (mmI il_X11_stateOf_1 10 rfl) (mmC (mmI il_X11_stateOf_1 3 rfl) (mmC (mmI il_X11_stateOf_1 11 rfl) (mmC (mmI il_X11_stateOf_1 12 rfl) mmN)))))) il_X11_stateOf_5)) gw_X11_isDead
theorem gX11_stateOf_X11_isDead : GoodIn wsX11_stateOf (wsV RX11 288 RX11 yX11_isDead wsX11_isDead) := goodIn_app (goodIn_sub (mmC (mmI il_X11_stateOf_1 4 rfl) (mmC (mmI il_X11_stateOf_1 5 rfl) (mmC (mmI il_X11_stateOf_1 6 rfl) (mmC (mmI il_X11_stateOf_1 7 rfl) mmN)))) (by decide +kernel)) ggX11_stateOf_X11_isDead
set_option maxRecDepth 100000 in
theorem ggX11_stateOf_X11_whereOf : GoodIn wsX11_stateOf wsX11_whereOf := goodIn_sub (mmC (mmI il_X11_stateOf_1 16 rfl) (mmA (mmC (mmI il_X11_stateOf_1 9 rfl) (mmC (mmI il_X11_stateOf_1 2 rfl) (mmC (mmI il_X11_stateOf_1 10 rfl) (mmC (mmI il_X11_stateOf_1 11 rfl) (mmC (mmI il_X11_stateOf_1 12 rfl) mmN))))) il_X11_stateOf_5)) gw_X11_whereOf
theorem gX11_stateOf_X11_whereOf : GoodIn wsX11_stateOf (wsV RX11 291 RX11 yX11_whereOf wsX11_whereOf) := goodIn_app (goodIn_sub (mmC (mmI il_X11_stateOf_1 13 rfl) (mmC (mmI il_X11_stateOf_1 14 rfl) (mmC (mmI il_X11_stateOf_1 15 rfl) (mmC (mmI il_X11_stateOf_1 7 rfl) mmN)))) (by decide +kernel)) ggX11_stateOf_X11_whereOf
set_option maxRecDepth 100000 in
theorem ggX11_stateOf_X11_hasSailed : GoodIn wsX11_stateOf wsX11_hasSailed := goodIn_sub (mmC (mmI il_X11_stateOf_1 20 rfl) (mmA (mmC (mmI il_X11_stateOf_1 21 rfl) (mmC (mmI il_X11_stateOf_1 22 rfl) (mmC (mmI il_X11_stateOf_1 23 rfl) (mmC (mmI il_X11_stateOf_1 7 rfl) (mmC (mmI il_X11_stateOf_2 0 rfl) (mmC (mmI il_X11_stateOf_1 9 rfl) (mmC (mmI il_X11_stateOf_1 2 rfl) (mmC (mmI il_X11_stateOf_1 10 rfl) (mmC (mmI il_X11_stateOf_1 11 rfl) (mmC (mmI il_X11_stateOf_1 12 rfl) mmN)))))))))) il_X11_stateOf_5)) gw_X11_hasSailed
theorem gX11_stateOf_X11_hasSailed : GoodIn wsX11_stateOf (wsV RX11 281 RX11 yX11_hasSailed wsX11_hasSailed) := goodIn_app (goodIn_sub (mmC (mmI il_X11_stateOf_1 17 rfl) (mmC (mmI il_X11_stateOf_1 18 rfl) (mmC (mmI il_X11_stateOf_1 19 rfl) (mmC (mmI il_X11_stateOf_1 7 rfl) mmN)))) (by decide +kernel)) ggX11_stateOf_X11_hasSailed
set_option maxRecDepth 100000 in
theorem ggX11_stateOf_X11_isUnknown : GoodIn wsX11_stateOf wsX11_isUnknown := goodIn_sub (mmC (mmI il_X11_stateOf_2 4 rfl) (mmA (mmA (mmC (mmI il_X11_stateOf_1 17 rfl) (mmC (mmI il_X11_stateOf_1 18 rfl) (mmC (mmI il_X11_stateOf_1 19 rfl) (mmC (mmI il_X11_stateOf_1 7 rfl) (mmC (mmI il_X11_stateOf_1 20 rfl) (mmC (mmI il_X11_stateOf_1 21 rfl) (mmC (mmI il_X11_stateOf_1 22 rfl) (mmC (mmI il_X11_stateOf_1 23 rfl) (mmC (mmI il_X11_stateOf_2 0 rfl) (mmC (mmI il_X11_stateOf_1 9 rfl) (mmC (mmI il_X11_stateOf_1 2 rfl) (mmC (mmI il_X11_stateOf_1 10 rfl) (mmC (mmI il_X11_stateOf_1 11 rfl) (mmC (mmI il_X11_stateOf_1 12 rfl) (mmC (mmI il_X11_stateOf_2 5 rfl) (mmC (mmI il_X11_stateOf_2 6 rfl) (mmC (mmI il_X11_stateOf_2 7 rfl) (mmC (mmI il_X11_stateOf_2 8 rfl) (mmC (mmI il_X11_stateOf_2 9 rfl) (mmC (mmI il_X11_stateOf_2 10 rfl) (mmC (mmI il_X11_stateOf_2 11 rfl) (mmC (mmI il_X11_stateOf_2 12 rfl) (mmC (mmI il_X11_stateOf_2 13 rfl) (mmC (mmI il_X11_stateOf_2 14 rfl) mmN)))))))))))))))))))))))) (mmA (mmC (mmI il_X11_stateOf_2 15 rfl) (mmC (mmI il_X11_stateOf_2 16 rfl) (mmC (mmI il_X11_stateOf_2 17 rfl) (mmC (mmI il_X11_stateOf_2 18 rfl) (mmC (mmI il_X11_stateOf_2 19 rfl) (mmC (mmI il_X11_stateOf_2 20 rfl) (mmC (mmI il_X11_stateOf_2 21 rfl) (mmC (mmI il_X11_stateOf_2 22 rfl) (mmC (mmI il_X11_stateOf_2 23 rfl) (mmC (mmI il_X11_stateOf_3 0 rfl) (mmC (mmI il_X11_stateOf_3 1 rfl) (mmC (mmI il_X11_stateOf_3 2 rfl) (mmC (mmI il_X11_stateOf_3 3 rfl) (mmC (mmI il_X11_stateOf_3 4 rfl) (mmC (mmI il_X11_stateOf_3 5 rfl) (mmC (mmI il_X11_stateOf_3 6 rfl) (mmC (mmI il_X11_stateOf_3 7 rfl) (mmC (mmI il_X11_stateOf_3 8 rfl) (mmC (mmI il_X11_stateOf_3 9 rfl) (mmC (mmI il_X11_stateOf_3 10 rfl) (mmC (mmI il_X11_stateOf_3 11 rfl) (mmC (mmI il_X11_stateOf_3 12 rfl) (mmC (mmI il_X11_stateOf_3 13 rfl) (mmC (mmI il_X11_stateOf_3 14 rfl) mmN)))))))))))))))))))))))) (mmA (mmC (mmI il_X11_stateOf_3 15 rfl) (mmC (mmI il_X11_stateOf_3 16 rfl) (mmC (mmI il_X11_stateOf_3 17 rfl) (mmC (mmI il_X11_stateOf_3 18 rfl) (mmC (mmI il_X11_stateOf_3 19 rfl) (mmC (mmI il_X11_stateOf_3 20 rfl) (mmC (mmI il_X11_stateOf_3 21 rfl) (mmC (mmI il_X11_stateOf_3 22 rfl) (mmC (mmI il_X11_stateOf_3 23 rfl) (mmC (mmI il_X11_stateOf_4 0 rfl) (mmC (mmI il_X11_stateOf_4 1 rfl) (mmC (mmI il_X11_stateOf_4 2 rfl) (mmC (mmI il_X11_stateOf_4 3 rfl) (mmC (mmI il_X11_stateOf_4 4 rfl) (mmC (mmI il_X11_stateOf_4 5 rfl) (mmC (mmI il_X11_stateOf_4 6 rfl) (mmC (mmI il_X11_stateOf_4 7 rfl) (mmC (mmI il_X11_stateOf_4 8 rfl) (mmC (mmI il_X11_stateOf_4 9 rfl) (mmC (mmI il_X11_stateOf_4 10 rfl) (mmC (mmI il_X11_stateOf_4 11 rfl) (mmC (mmI il_X11_stateOf_4 12 rfl) (mmC (mmI il_X11_stateOf_4 13 rfl) (mmC (mmI il_X11_stateOf_4 14 rfl) mmN)))))))))))))))))))))))) (mmC (mmI il_X11_stateOf_4 15 rfl) (mmC (mmI il_X11_stateOf_4 16 rfl) (mmC (mmI il_X11_stateOf_4 17 rfl) (mmC (mmI il_X11_stateOf_4 18 rfl) (mmC (mmI il_X11_stateOf_4 19 rfl) (mmC (mmI il_X11_stateOf_4 20 rfl) mmN))))))))) il_X11_stateOf_5)) gw_X11_isUnknown
theorem gX11_stateOf_X11_isUnknown : GoodIn wsX11_stateOf (wsV RX11 294 RX11 yX11_isUnknown wsX11_isUnknown) := goodIn_app (goodIn_sub (mmC (mmI il_X11_stateOf_2 1 rfl) (mmC (mmI il_X11_stateOf_2 2 rfl) (mmC (mmI il_X11_stateOf_2 3 rfl) (mmC (mmI il_X11_stateOf_1 7 rfl) mmN)))) (by decide +kernel)) ggX11_stateOf_X11_isUnknown
theorem dX11_stateOf_0 : decode cX11_stateOf 0 = .ok (.iload_n 2, 1) := by decide +kernel
theorem dX11_stateOf_1 : decode cX11_stateOf 1 = .ok (.aload_n 0, 1) := by decide +kernel
theorem dX11_stateOf_2 : decode cX11_stateOf 2 = .ok (.getfield 85, 3) := by decide +kernel
theorem dX11_stateOf_5 : decode cX11_stateOf 5 = .ok (.iload_n 1, 1) := by decide +kernel
theorem dX11_stateOf_6 : decode cX11_stateOf 6 = .ok (.iaload, 1) := by decide +kernel
theorem dX11_stateOf_7 : decode cX11_stateOf 7 = .ok (.if_icmp .ge 6, 3) := by decide +kernel
theorem dX11_stateOf_10 : decode cX11_stateOf 10 = .ok (.bipush (-9), 2) := by decide +kernel
theorem dX11_stateOf_12 : decode cX11_stateOf 12 = .ok (.ireturn, 1) := by decide +kernel
theorem dX11_stateOf_13 : decode cX11_stateOf 13 = .ok (.aload_n 0, 1) := by decide +kernel
theorem dX11_stateOf_14 : decode cX11_stateOf 14 = .ok (.iload_n 1, 1) := by decide +kernel
theorem dX11_stateOf_15 : decode cX11_stateOf 15 = .ok (.iload_n 2, 1) := by decide +kernel
theorem dX11_stateOf_16 : decode cX11_stateOf 16 = .ok (.iload_n 3, 1) := by decide +kernel
theorem dX11_stateOf_17 : decode cX11_stateOf 17 = .ok (.invokevirtual 288, 3) := by decide +kernel
theorem dX11_stateOf_20 : decode cX11_stateOf 20 = .ok (.ifCond .eq 5, 3) := by decide +kernel
theorem dX11_stateOf_23 : decode cX11_stateOf 23 = .ok (.iconst 4, 1) := by decide +kernel
theorem dX11_stateOf_24 : decode cX11_stateOf 24 = .ok (.ireturn, 1) := by decide +kernel
theorem dX11_stateOf_25 : decode cX11_stateOf 25 = .ok (.aload_n 0, 1) := by decide +kernel
theorem dX11_stateOf_26 : decode cX11_stateOf 26 = .ok (.getfield 88, 3) := by decide +kernel
theorem dX11_stateOf_29 : decode cX11_stateOf 29 = .ok (.iload_n 1, 1) := by decide +kernel
theorem dX11_stateOf_30 : decode cX11_stateOf 30 = .ok (.iaload, 1) := by decide +kernel
theorem dX11_stateOf_31 : decode cX11_stateOf 31 = .ok (.ifCond .lt 15, 3) := by decide +kernel
theorem dX11_stateOf_34 : decode cX11_stateOf 34 = .ok (.aload_n 0, 1) := by decide +kernel
theorem dX11_stateOf_35 : decode cX11_stateOf 35 = .ok (.getfield 88, 3) := by decide +kernel
theorem dX11_stateOf_38 : decode cX11_stateOf 38 = .ok (.iload_n 1, 1) := by decide +kernel
theorem dX11_stateOf_39 : decode cX11_stateOf 39 = .ok (.iaload, 1) := by decide +kernel
theorem dX11_stateOf_40 : decode cX11_stateOf 40 = .ok (.iload_n 2, 1) := by decide +kernel
theorem dX11_stateOf_41 : decode cX11_stateOf 41 = .ok (.if_icmp .gt 5, 3) := by decide +kernel
theorem dX11_stateOf_44 : decode cX11_stateOf 44 = .ok (.iconst 5, 1) := by decide +kernel
theorem dX11_stateOf_45 : decode cX11_stateOf 45 = .ok (.ireturn, 1) := by decide +kernel
theorem dX11_stateOf_46 : decode cX11_stateOf 46 = .ok (.aload_n 0, 1) := by decide +kernel
theorem dX11_stateOf_47 : decode cX11_stateOf 47 = .ok (.iload_n 1, 1) := by decide +kernel
theorem dX11_stateOf_48 : decode cX11_stateOf 48 = .ok (.iload_n 2, 1) := by decide +kernel
theorem dX11_stateOf_49 : decode cX11_stateOf 49 = .ok (.iload_n 3, 1) := by decide +kernel
theorem dX11_stateOf_50 : decode cX11_stateOf 50 = .ok (.invokevirtual 291, 3) := by decide +kernel
theorem dX11_stateOf_53 : decode cX11_stateOf 53 = .ok (.istore 4, 2) := by decide +kernel
theorem dX11_stateOf_55 : decode cX11_stateOf 55 = .ok (.iload 4, 2) := by decide +kernel
theorem dX11_stateOf_57 : decode cX11_stateOf 57 = .ok (.ifCond .lt 16, 3) := by decide +kernel
theorem dX11_stateOf_60 : decode cX11_stateOf 60 = .ok (.aload_n 0, 1) := by decide +kernel
theorem dX11_stateOf_61 : decode cX11_stateOf 61 = .ok (.getfield 40, 3) := by decide +kernel
theorem dX11_stateOf_64 : decode cX11_stateOf 64 = .ok (.iload 4, 2) := by decide +kernel
theorem dX11_stateOf_66 : decode cX11_stateOf 66 = .ok (.iaload, 1) := by decide +kernel
theorem dX11_stateOf_67 : decode cX11_stateOf 67 = .ok (.iconst 3, 1) := by decide +kernel
theorem dX11_stateOf_68 : decode cX11_stateOf 68 = .ok (.if_icmp .ne 5, 3) := by decide +kernel
theorem dX11_stateOf_71 : decode cX11_stateOf 71 = .ok (.iconst 3, 1) := by decide +kernel
theorem dX11_stateOf_72 : decode cX11_stateOf 72 = .ok (.ireturn, 1) := by decide +kernel
theorem dX11_stateOf_73 : decode cX11_stateOf 73 = .ok (.aload_n 0, 1) := by decide +kernel
theorem dX11_stateOf_74 : decode cX11_stateOf 74 = .ok (.aload_n 0, 1) := by decide +kernel
theorem dX11_stateOf_75 : decode cX11_stateOf 75 = .ok (.getfield 73, 3) := by decide +kernel
theorem dX11_stateOf_78 : decode cX11_stateOf 78 = .ok (.iload_n 1, 1) := by decide +kernel
theorem dX11_stateOf_79 : decode cX11_stateOf 79 = .ok (.iaload, 1) := by decide +kernel
theorem dX11_stateOf_80 : decode cX11_stateOf 80 = .ok (.iload_n 2, 1) := by decide +kernel
theorem dX11_stateOf_81 : decode cX11_stateOf 81 = .ok (.iload_n 3, 1) := by decide +kernel
theorem dX11_stateOf_82 : decode cX11_stateOf 82 = .ok (.invokevirtual 281, 3) := by decide +kernel
theorem dX11_stateOf_85 : decode cX11_stateOf 85 = .ok (.ifCond .ne 5, 3) := by decide +kernel
theorem dX11_stateOf_88 : decode cX11_stateOf 88 = .ok (.iconst 0, 1) := by decide +kernel
theorem dX11_stateOf_89 : decode cX11_stateOf 89 = .ok (.ireturn, 1) := by decide +kernel
theorem dX11_stateOf_90 : decode cX11_stateOf 90 = .ok (.aload_n 0, 1) := by decide +kernel
theorem dX11_stateOf_91 : decode cX11_stateOf 91 = .ok (.aload_n 0, 1) := by decide +kernel
theorem dX11_stateOf_92 : decode cX11_stateOf 92 = .ok (.getfield 73, 3) := by decide +kernel
theorem dX11_stateOf_95 : decode cX11_stateOf 95 = .ok (.iload_n 1, 1) := by decide +kernel
theorem dX11_stateOf_96 : decode cX11_stateOf 96 = .ok (.iaload, 1) := by decide +kernel
theorem dX11_stateOf_97 : decode cX11_stateOf 97 = .ok (.iload_n 2, 1) := by decide +kernel
theorem dX11_stateOf_98 : decode cX11_stateOf 98 = .ok (.iload_n 3, 1) := by decide +kernel
theorem dX11_stateOf_99 : decode cX11_stateOf 99 = .ok (.invokevirtual 294, 3) := by decide +kernel
theorem dX11_stateOf_102 : decode cX11_stateOf 102 = .ok (.ifCond .eq 7, 3) := by decide +kernel
theorem dX11_stateOf_105 : decode cX11_stateOf 105 = .ok (.iconst 2, 1) := by decide +kernel
theorem dX11_stateOf_106 : decode cX11_stateOf 106 = .ok (.goto 4, 3) := by decide +kernel
theorem dX11_stateOf_109 : decode cX11_stateOf 109 = .ok (.iconst 1, 1) := by decide +kernel
theorem dX11_stateOf_110 : decode cX11_stateOf 110 = .ok (.ireturn, 1) := by decide +kernel
set_option maxRecDepth 100000 in
theorem ggX11_aboardOf_X11_stateOf : GoodIn wsX11_aboardOf wsX11_stateOf := goodIn_sub (mmC (mmI il_X11_aboardOf_1 6 rfl) (mmA (mmA (mmC (mmI il_X11_aboardOf_1 7 rfl) (mmC (mmI il_X11_aboardOf_1 8 rfl) (mmC (mmI il_X11_aboardOf_1 9 rfl) (mmC (mmI il_X11_aboardOf_1 1 rfl) (mmC (mmI il_X11_aboardOf_1 10 rfl) (mmC (mmI il_X11_aboardOf_1 11 rfl) (mmC (mmI il_X11_aboardOf_1 12 rfl) (mmC (mmI il_X11_aboardOf_1 5 rfl) (mmC (mmI il_X11_aboardOf_1 13 rfl) (mmC (mmI il_X11_aboardOf_1 14 rfl) (mmC (mmI il_X11_aboardOf_1 15 rfl) (mmC (mmI il_X11_aboardOf_1 16 rfl) (mmC (mmI il_X11_aboardOf_1 17 rfl) (mmC (mmI il_X11_aboardOf_1 18 rfl) (mmC (mmI il_X11_aboardOf_1 19 rfl) (mmC (mmI il_X11_aboardOf_1 20 rfl) (mmC (mmI il_X11_aboardOf_1 21 rfl) (mmC (mmI il_X11_aboardOf_1 22 rfl) (mmC (mmI il_X11_aboardOf_1 23 rfl) (mmC (mmI il_X11_aboardOf_2 0 rfl) (mmC (mmI il_X11_aboardOf_2 1 rfl) (mmC (mmI il_X11_aboardOf_2 2 rfl) (mmC (mmI il_X11_aboardOf_2 3 rfl) (mmC (mmI il_X11_aboardOf_2 4 rfl) mmN)))))))))))))))))))))))) (mmA (mmC (mmI il_X11_aboardOf_2 5 rfl) (mmC (mmI il_X11_aboardOf_2 6 rfl) (mmC (mmI il_X11_aboardOf_2 7 rfl) (mmC (mmI il_X11_aboardOf_2 8 rfl) (mmC (mmI il_X11_aboardOf_2 9 rfl) (mmC (mmI il_X11_aboardOf_2 10 rfl) (mmC (mmI il_X11_aboardOf_2 11 rfl) (mmC (mmI il_X11_aboardOf_2 12 rfl) (mmC (mmI il_X11_aboardOf_2 13 rfl) (mmC (mmI il_X11_aboardOf_2 14 rfl) (mmC (mmI il_X11_aboardOf_2 15 rfl) (mmC (mmI il_X11_aboardOf_2 16 rfl) (mmC (mmI il_X11_aboardOf_2 17 rfl) (mmC (mmI il_X11_aboardOf_2 18 rfl) (mmC (mmI il_X11_aboardOf_2 19 rfl) (mmC (mmI il_X11_aboardOf_2 20 rfl) (mmC (mmI il_X11_aboardOf_2 21 rfl) (mmC (mmI il_X11_aboardOf_2 22 rfl) (mmC (mmI il_X11_aboardOf_2 23 rfl) (mmC (mmI il_X11_aboardOf_3 0 rfl) (mmC (mmI il_X11_aboardOf_3 1 rfl) (mmC (mmI il_X11_aboardOf_3 2 rfl) (mmC (mmI il_X11_aboardOf_3 3 rfl) (mmC (mmI il_X11_aboardOf_3 4 rfl) mmN)))))))))))))))))))))))) (mmA (mmC (mmI il_X11_aboardOf_3 5 rfl) (mmC (mmI il_X11_aboardOf_3 6 rfl) (mmC (mmI il_X11_aboardOf_3 7 rfl) (mmC (mmI il_X11_aboardOf_3 8 rfl) (mmC (mmI il_X11_aboardOf_3 9 rfl) (mmC (mmI il_X11_aboardOf_3 10 rfl) (mmC (mmI il_X11_aboardOf_3 11 rfl) (mmC (mmI il_X11_aboardOf_3 12 rfl) (mmC (mmI il_X11_aboardOf_3 13 rfl) (mmC (mmI il_X11_aboardOf_3 14 rfl) (mmC (mmI il_X11_aboardOf_3 15 rfl) (mmC (mmI il_X11_aboardOf_3 16 rfl) (mmC (mmI il_X11_aboardOf_3 17 rfl) (mmC (mmI il_X11_aboardOf_3 18 rfl) (mmC (mmI il_X11_aboardOf_3 19 rfl) (mmC (mmI il_X11_aboardOf_3 20 rfl) (mmC (mmI il_X11_aboardOf_3 21 rfl) (mmC (mmI il_X11_aboardOf_3 22 rfl) (mmC (mmI il_X11_aboardOf_3 23 rfl) (mmC (mmI il_X11_aboardOf_4 0 rfl) (mmC (mmI il_X11_aboardOf_4 1 rfl) (mmC (mmI il_X11_aboardOf_4 2 rfl) (mmC (mmI il_X11_aboardOf_4 3 rfl) (mmC (mmI il_X11_aboardOf_4 4 rfl) mmN)))))))))))))))))))))))) (mmC (mmI il_X11_aboardOf_4 5 rfl) (mmC (mmI il_X11_aboardOf_4 6 rfl) (mmC (mmI il_X11_aboardOf_4 7 rfl) (mmC (mmI il_X11_aboardOf_4 8 rfl) (mmC (mmI il_X11_aboardOf_4 9 rfl) (mmC (mmI il_X11_aboardOf_4 10 rfl) (mmC (mmI il_X11_aboardOf_4 11 rfl) (mmC (mmI il_X11_aboardOf_4 12 rfl) (mmC (mmI il_X11_aboardOf_4 13 rfl) (mmC (mmI il_X11_aboardOf_4 14 rfl) (mmC (mmI il_X11_aboardOf_4 15 rfl) (mmC (mmI il_X11_aboardOf_4 16 rfl) (mmC (mmI il_X11_aboardOf_4 17 rfl) (mmC (mmI il_X11_aboardOf_4 18 rfl) (mmC (mmI il_X11_aboardOf_4 19 rfl) (mmC (mmI il_X11_aboardOf_4 20 rfl) (mmC (mmI il_X11_aboardOf_4 21 rfl) (mmC (mmI il_X11_aboardOf_4 22 rfl) (mmC (mmI il_X11_aboardOf_4 23 rfl) (mmC (mmI il_X11_aboardOf_5 0 rfl) (mmC (mmI il_X11_aboardOf_5 1 rfl) mmN)))))))))))))))))))))))) il_X11_aboardOf_6)) gw_X11_stateOf
theorem gX11_aboardOf_X11_stateOf : GoodIn wsX11_aboardOf (wsV RX11 266 RX11 yX11_stateOf wsX11_stateOf) := goodIn_app (goodIn_sub (mmC (mmI il_X11_aboardOf_1 2 rfl) (mmC (mmI il_X11_aboardOf_1 3 rfl) (mmC (mmI il_X11_aboardOf_1 4 rfl) (mmC (mmI il_X11_aboardOf_1 5 rfl) mmN)))) (by decide +kernel)) ggX11_aboardOf_X11_stateOf
theorem dX11_aboardOf_0 : decode cX11_aboardOf 0 = .ok (.iconst 0, 1) := by decide +kernel
theorem dX11_aboardOf_1 : decode cX11_aboardOf 1 = .ok (.istore 4, 2) := by decide +kernel
theorem dX11_aboardOf_3 : decode cX11_aboardOf 3 = .ok (.iconst 0, 1) := by decide +kernel
theorem dX11_aboardOf_4 : decode cX11_aboardOf 4 = .ok (.istore 5, 2) := by decide +kernel
theorem dX11_aboardOf_6 : decode cX11_aboardOf 6 = .ok (.iload 5, 2) := by decide +kernel
theorem dX11_aboardOf_8 : decode cX11_aboardOf 8 = .ok (.aload_n 0, 1) := by decide +kernel
theorem dX11_aboardOf_9 : decode cX11_aboardOf 9 = .ok (.getfield 168, 3) := by decide +kernel
theorem dX11_aboardOf_12 : decode cX11_aboardOf 12 = .ok (.if_icmp .ge 42, 3) := by decide +kernel
theorem dX11_aboardOf_15 : decode cX11_aboardOf 15 = .ok (.iload 4, 2) := by decide +kernel
theorem dX11_aboardOf_17 : decode cX11_aboardOf 17 = .ok (.aload_n 0, 1) := by decide +kernel
theorem dX11_aboardOf_18 : decode cX11_aboardOf 18 = .ok (.getfield 73, 3) := by decide +kernel
theorem dX11_aboardOf_21 : decode cX11_aboardOf 21 = .ok (.iload 5, 2) := by decide +kernel
theorem dX11_aboardOf_23 : decode cX11_aboardOf 23 = .ok (.iaload, 1) := by decide +kernel
theorem dX11_aboardOf_24 : decode cX11_aboardOf 24 = .ok (.iload_n 1, 1) := by decide +kernel
theorem dX11_aboardOf_25 : decode cX11_aboardOf 25 = .ok (.if_icmp .ne 19, 3) := by decide +kernel
theorem dX11_aboardOf_28 : decode cX11_aboardOf 28 = .ok (.aload_n 0, 1) := by decide +kernel
theorem dX11_aboardOf_29 : decode cX11_aboardOf 29 = .ok (.iload 5, 2) := by decide +kernel
theorem dX11_aboardOf_31 : decode cX11_aboardOf 31 = .ok (.iload_n 2, 1) := by decide +kernel
theorem dX11_aboardOf_32 : decode cX11_aboardOf 32 = .ok (.iload_n 3, 1) := by decide +kernel
theorem dX11_aboardOf_33 : decode cX11_aboardOf 33 = .ok (.invokevirtual 266, 3) := by decide +kernel
theorem dX11_aboardOf_36 : decode cX11_aboardOf 36 = .ok (.iconst 1, 1) := by decide +kernel
theorem dX11_aboardOf_37 : decode cX11_aboardOf 37 = .ok (.if_icmp .ne 7, 3) := by decide +kernel
theorem dX11_aboardOf_40 : decode cX11_aboardOf 40 = .ok (.iconst 1, 1) := by decide +kernel
theorem dX11_aboardOf_41 : decode cX11_aboardOf 41 = .ok (.goto 4, 3) := by decide +kernel
theorem dX11_aboardOf_44 : decode cX11_aboardOf 44 = .ok (.iconst 0, 1) := by decide +kernel
theorem dX11_aboardOf_45 : decode cX11_aboardOf 45 = .ok (.iadd, 1) := by decide +kernel
theorem dX11_aboardOf_46 : decode cX11_aboardOf 46 = .ok (.istore 4, 2) := by decide +kernel
theorem dX11_aboardOf_48 : decode cX11_aboardOf 48 = .ok (.iinc 5 1, 3) := by decide +kernel
theorem dX11_aboardOf_51 : decode cX11_aboardOf 51 = .ok (.goto (-45), 3) := by decide +kernel
theorem dX11_aboardOf_54 : decode cX11_aboardOf 54 = .ok (.iload 4, 2) := by decide +kernel
theorem dX11_aboardOf_56 : decode cX11_aboardOf 56 = .ok (.ireturn, 1) := by decide +kernel
set_option maxRecDepth 100000 in
theorem ggX11_earnsOf_X11_stateOf : GoodIn wsX11_earnsOf wsX11_stateOf := goodIn_sub (mmC (mmI il_X11_earnsOf_1 6 rfl) (mmA (mmA (mmC (mmI il_X11_earnsOf_1 1 rfl) (mmC (mmI il_X11_earnsOf_1 7 rfl) (mmC (mmI il_X11_earnsOf_1 8 rfl) (mmC (mmI il_X11_earnsOf_1 0 rfl) (mmC (mmI il_X11_earnsOf_1 9 rfl) (mmC (mmI il_X11_earnsOf_1 10 rfl) (mmC (mmI il_X11_earnsOf_1 11 rfl) (mmC (mmI il_X11_earnsOf_1 5 rfl) (mmC (mmI il_X11_earnsOf_1 12 rfl) (mmC (mmI il_X11_earnsOf_1 13 rfl) (mmC (mmI il_X11_earnsOf_1 14 rfl) (mmC (mmI il_X11_earnsOf_1 15 rfl) (mmC (mmI il_X11_earnsOf_1 16 rfl) (mmC (mmI il_X11_earnsOf_1 17 rfl) (mmC (mmI il_X11_earnsOf_1 18 rfl) (mmC (mmI il_X11_earnsOf_1 19 rfl) (mmC (mmI il_X11_earnsOf_1 20 rfl) (mmC (mmI il_X11_earnsOf_1 21 rfl) (mmC (mmI il_X11_earnsOf_1 22 rfl) (mmC (mmI il_X11_earnsOf_1 23 rfl) (mmC (mmI il_X11_earnsOf_2 0 rfl) (mmC (mmI il_X11_earnsOf_2 1 rfl) (mmC (mmI il_X11_earnsOf_2 2 rfl) (mmC (mmI il_X11_earnsOf_2 3 rfl) mmN)))))))))))))))))))))))) (mmA (mmC (mmI il_X11_earnsOf_2 4 rfl) (mmC (mmI il_X11_earnsOf_2 5 rfl) (mmC (mmI il_X11_earnsOf_2 6 rfl) (mmC (mmI il_X11_earnsOf_2 7 rfl) (mmC (mmI il_X11_earnsOf_2 8 rfl) (mmC (mmI il_X11_earnsOf_2 9 rfl) (mmC (mmI il_X11_earnsOf_2 10 rfl) (mmC (mmI il_X11_earnsOf_2 11 rfl) (mmC (mmI il_X11_earnsOf_2 12 rfl) (mmC (mmI il_X11_earnsOf_2 13 rfl) (mmC (mmI il_X11_earnsOf_2 14 rfl) (mmC (mmI il_X11_earnsOf_2 15 rfl) (mmC (mmI il_X11_earnsOf_2 16 rfl) (mmC (mmI il_X11_earnsOf_2 17 rfl) (mmC (mmI il_X11_earnsOf_2 18 rfl) (mmC (mmI il_X11_earnsOf_2 19 rfl) (mmC (mmI il_X11_earnsOf_2 20 rfl) (mmC (mmI il_X11_earnsOf_2 21 rfl) (mmC (mmI il_X11_earnsOf_2 22 rfl) (mmC (mmI il_X11_earnsOf_2 23 rfl) (mmC (mmI il_X11_earnsOf_3 0 rfl) (mmC (mmI il_X11_earnsOf_3 1 rfl) (mmC (mmI il_X11_earnsOf_3 2 rfl) (mmC (mmI il_X11_earnsOf_3 3 rfl) mmN)))))))))))))))))))))))) (mmA (mmC (mmI il_X11_earnsOf_3 4 rfl) (mmC (mmI il_X11_earnsOf_3 5 rfl) (mmC (mmI il_X11_earnsOf_3 6 rfl) (mmC (mmI il_X11_earnsOf_3 7 rfl) (mmC (mmI il_X11_earnsOf_3 8 rfl) (mmC (mmI il_X11_earnsOf_3 9 rfl) (mmC (mmI il_X11_earnsOf_3 10 rfl) (mmC (mmI il_X11_earnsOf_3 11 rfl) (mmC (mmI il_X11_earnsOf_3 12 rfl) (mmC (mmI il_X11_earnsOf_3 13 rfl) (mmC (mmI il_X11_earnsOf_3 14 rfl) (mmC (mmI il_X11_earnsOf_3 15 rfl) (mmC (mmI il_X11_earnsOf_3 16 rfl) (mmC (mmI il_X11_earnsOf_3 17 rfl) (mmC (mmI il_X11_earnsOf_3 18 rfl) (mmC (mmI il_X11_earnsOf_3 19 rfl) (mmC (mmI il_X11_earnsOf_3 20 rfl) (mmC (mmI il_X11_earnsOf_3 21 rfl) (mmC (mmI il_X11_earnsOf_3 22 rfl) (mmC (mmI il_X11_earnsOf_3 23 rfl) (mmC (mmI il_X11_earnsOf_4 0 rfl) (mmC (mmI il_X11_earnsOf_4 1 rfl) (mmC (mmI il_X11_earnsOf_4 2 rfl) (mmC (mmI il_X11_earnsOf_4 3 rfl) mmN)))))))))))))))))))))))) (mmC (mmI il_X11_earnsOf_4 4 rfl) (mmC (mmI il_X11_earnsOf_4 5 rfl) (mmC (mmI il_X11_earnsOf_4 6 rfl) (mmC (mmI il_X11_earnsOf_4 7 rfl) (mmC (mmI il_X11_earnsOf_4 8 rfl) (mmC (mmI il_X11_earnsOf_4 9 rfl) (mmC (mmI il_X11_earnsOf_4 10 rfl) (mmC (mmI il_X11_earnsOf_4 11 rfl) (mmC (mmI il_X11_earnsOf_4 12 rfl) (mmC (mmI il_X11_earnsOf_4 13 rfl) (mmC (mmI il_X11_earnsOf_4 14 rfl) (mmC (mmI il_X11_earnsOf_4 15 rfl) (mmC (mmI il_X11_earnsOf_4 16 rfl) (mmC (mmI il_X11_earnsOf_4 17 rfl) (mmC (mmI il_X11_earnsOf_4 18 rfl) (mmC (mmI il_X11_earnsOf_4 19 rfl) (mmC (mmI il_X11_earnsOf_4 20 rfl) (mmC (mmI il_X11_earnsOf_4 21 rfl) (mmC (mmI il_X11_earnsOf_4 22 rfl) (mmC (mmI il_X11_earnsOf_4 23 rfl) (mmC (mmI il_X11_earnsOf_5 0 rfl) mmN)))))))))))))))))))))))) il_X11_earnsOf_6)) gw_X11_stateOf
theorem gX11_earnsOf_X11_stateOf : GoodIn wsX11_earnsOf (wsV RX11 266 RX11 yX11_stateOf wsX11_stateOf) := goodIn_app (goodIn_sub (mmC (mmI il_X11_earnsOf_1 2 rfl) (mmC (mmI il_X11_earnsOf_1 3 rfl) (mmC (mmI il_X11_earnsOf_1 4 rfl) (mmC (mmI il_X11_earnsOf_1 5 rfl) mmN)))) (by decide +kernel)) ggX11_earnsOf_X11_stateOf
set_option maxRecDepth 100000 in
theorem ggX11_earnsOf_X11_lastHeard : GoodIn wsX11_earnsOf wsX11_lastHeard := goodIn_sub (mmC (mmI il_X11_earnsOf_2 17 rfl) (mmA (mmC (mmI il_X11_earnsOf_1 13 rfl) (mmC (mmI il_X11_earnsOf_1 8 rfl) (mmC (mmI il_X11_earnsOf_1 14 rfl) (mmC (mmI il_X11_earnsOf_1 15 rfl) (mmC (mmI il_X11_earnsOf_1 16 rfl) mmN))))) il_X11_earnsOf_6)) gw_X11_lastHeard
theorem gX11_earnsOf_X11_lastHeard : GoodIn wsX11_earnsOf (wsV RX11 272 RX11 yX11_lastHeard wsX11_lastHeard) := goodIn_app (goodIn_sub (mmC (mmI il_X11_earnsOf_2 14 rfl) (mmC (mmI il_X11_earnsOf_2 15 rfl) (mmC (mmI il_X11_earnsOf_2 16 rfl) (mmC (mmI il_X11_earnsOf_1 5 rfl) mmN)))) (by decide +kernel)) ggX11_earnsOf_X11_lastHeard
set_option maxRecDepth 100000 in
theorem ggX11_earnsOf_X11_isIn : GoodIn wsX11_earnsOf wsX11_isIn := goodIn_sub (mmC (mmI il_X11_earnsOf_5 3 rfl) mmN) gw_X11_isIn
set_option maxRecDepth 20000 in
theorem gX11_earnsOf_X11_isIn : GoodIn wsX11_earnsOf (va_wsS RX11 161 yX11_isIn wsX11_isIn) := goodIn_app (goodIn_of _ (by decide +kernel)) ggX11_earnsOf_X11_isIn
theorem dX11_earnsOf_0 : decode cX11_earnsOf 0 = .ok (.aload_n 0, 1) := by decide +kernel
theorem dX11_earnsOf_1 : decode cX11_earnsOf 1 = .ok (.iload_n 1, 1) := by decide +kernel
theorem dX11_earnsOf_2 : decode cX11_earnsOf 2 = .ok (.iload_n 2, 1) := by decide +kernel
theorem dX11_earnsOf_3 : decode cX11_earnsOf 3 = .ok (.iload_n 3, 1) := by decide +kernel
theorem dX11_earnsOf_4 : decode cX11_earnsOf 4 = .ok (.invokevirtual 266, 3) := by decide +kernel
theorem dX11_earnsOf_7 : decode cX11_earnsOf 7 = .ok (.iconst 2, 1) := by decide +kernel
theorem dX11_earnsOf_8 : decode cX11_earnsOf 8 = .ok (.if_icmp .ne 18, 3) := by decide +kernel
theorem dX11_earnsOf_11 : decode cX11_earnsOf 11 = .ok (.aload_n 0, 1) := by decide +kernel
theorem dX11_earnsOf_12 : decode cX11_earnsOf 12 = .ok (.aload_n 0, 1) := by decide +kernel
theorem dX11_earnsOf_13 : decode cX11_earnsOf 13 = .ok (.getfield 73, 3) := by decide +kernel
theorem dX11_earnsOf_16 : decode cX11_earnsOf 16 = .ok (.iload_n 1, 1) := by decide +kernel
theorem dX11_earnsOf_17 : decode cX11_earnsOf 17 = .ok (.iaload, 1) := by decide +kernel
theorem dX11_earnsOf_18 : decode cX11_earnsOf 18 = .ok (.iload_n 2, 1) := by decide +kernel
theorem dX11_earnsOf_19 : decode cX11_earnsOf 19 = .ok (.iload_n 3, 1) := by decide +kernel
theorem dX11_earnsOf_20 : decode cX11_earnsOf 20 = .ok (.invokevirtual 272, 3) := by decide +kernel
theorem dX11_earnsOf_23 : decode cX11_earnsOf 23 = .ok (.goto 4, 3) := by decide +kernel
theorem dX11_earnsOf_26 : decode cX11_earnsOf 26 = .ok (.iload_n 2, 1) := by decide +kernel
theorem dX11_earnsOf_27 : decode cX11_earnsOf 27 = .ok (.istore 4, 2) := by decide +kernel
theorem dX11_earnsOf_29 : decode cX11_earnsOf 29 = .ok (.iconst 0, 1) := by decide +kernel
theorem dX11_earnsOf_30 : decode cX11_earnsOf 30 = .ok (.istore 5, 2) := by decide +kernel
theorem dX11_earnsOf_32 : decode cX11_earnsOf 32 = .ok (.aload_n 0, 1) := by decide +kernel
theorem dX11_earnsOf_33 : decode cX11_earnsOf 33 = .ok (.getfield 85, 3) := by decide +kernel
theorem dX11_earnsOf_36 : decode cX11_earnsOf 36 = .ok (.iload_n 1, 1) := by decide +kernel
theorem dX11_earnsOf_37 : decode cX11_earnsOf 37 = .ok (.iaload, 1) := by decide +kernel
theorem dX11_earnsOf_38 : decode cX11_earnsOf 38 = .ok (.istore 6, 2) := by decide +kernel
theorem dX11_earnsOf_40 : decode cX11_earnsOf 40 = .ok (.iload 6, 2) := by decide +kernel
theorem dX11_earnsOf_42 : decode cX11_earnsOf 42 = .ok (.iload 4, 2) := by decide +kernel
theorem dX11_earnsOf_44 : decode cX11_earnsOf 44 = .ok (.if_icmp .gt 34, 3) := by decide +kernel
theorem dX11_earnsOf_47 : decode cX11_earnsOf 47 = .ok (.iload 5, 2) := by decide +kernel
theorem dX11_earnsOf_49 : decode cX11_earnsOf 49 = .ok (.aload_n 0, 1) := by decide +kernel
theorem dX11_earnsOf_50 : decode cX11_earnsOf 50 = .ok (.iload_n 1, 1) := by decide +kernel
theorem dX11_earnsOf_51 : decode cX11_earnsOf 51 = .ok (.iload 6, 2) := by decide +kernel
theorem dX11_earnsOf_53 : decode cX11_earnsOf 53 = .ok (.iload_n 3, 1) := by decide +kernel
theorem dX11_earnsOf_54 : decode cX11_earnsOf 54 = .ok (.invokevirtual 266, 3) := by decide +kernel
theorem dX11_earnsOf_57 : decode cX11_earnsOf 57 = .ok (.iconst 3, 1) := by decide +kernel
theorem dX11_earnsOf_58 : decode cX11_earnsOf 58 = .ok (.invokestatic 161, 3) := by decide +kernel
theorem dX11_earnsOf_61 : decode cX11_earnsOf 61 = .ok (.ifCond .eq 7, 3) := by decide +kernel
theorem dX11_earnsOf_64 : decode cX11_earnsOf 64 = .ok (.iconst 1, 1) := by decide +kernel
theorem dX11_earnsOf_65 : decode cX11_earnsOf 65 = .ok (.goto 4, 3) := by decide +kernel
theorem dX11_earnsOf_68 : decode cX11_earnsOf 68 = .ok (.iconst 0, 1) := by decide +kernel
theorem dX11_earnsOf_69 : decode cX11_earnsOf 69 = .ok (.iadd, 1) := by decide +kernel
theorem dX11_earnsOf_70 : decode cX11_earnsOf 70 = .ok (.istore 5, 2) := by decide +kernel
theorem dX11_earnsOf_72 : decode cX11_earnsOf 72 = .ok (.iinc 6 1, 3) := by decide +kernel
theorem dX11_earnsOf_75 : decode cX11_earnsOf 75 = .ok (.goto (-35), 3) := by decide +kernel
theorem dX11_earnsOf_78 : decode cX11_earnsOf 78 = .ok (.iload 5, 2) := by decide +kernel
theorem dX11_earnsOf_80 : decode cX11_earnsOf 80 = .ok (.ireturn, 1) := by decide +kernel
theorem in_wsX11_worth_X11 : ∀ w ∈ wsX110, w ∈ wsX11_worth := fun w h => List.mem_cons_of_mem _ (List.mem_append_right _ h)
theorem in_wsX11_stateOf_X11 : ∀ w ∈ wsX110, w ∈ wsX11_stateOf := fun w h => List.mem_cons_of_mem _ (List.mem_append_right _ h)
theorem in_wsX11_aboardOf_X11 : ∀ w ∈ wsX110, w ∈ wsX11_aboardOf := fun w h => List.mem_cons_of_mem _ (List.mem_append_right _ h)
theorem in_wsX11_earnsOf_X11 : ∀ w ∈ wsX110, w ∈ wsX11_earnsOf := fun w h => List.mem_cons_of_mem _ (List.mem_append_right _ h)
theorem in_wsX11_puts_X11 : ∀ w ∈ wsX110, w ∈ wsX11_puts := fun w h => List.mem_cons_of_mem _ (List.mem_append_right _ h)

set_option maxHeartbeats 4000000 in
set_option maxRecDepth 100000 in
theorem c_X11_wrongTimes_b (l : Launch) (dC : Nat → ClassId) (dI : Nat → Nat → Nat) (sz : Nat) (g0 : Nat) (pq : Nat → Nat) (cp : Nat → ClassId) (v : Nat → Int32) (fa : Nat → Nat → Int32) (gV : mV v) (gA : mA fa) (x1 : Int32) (x2 : Int32) : Met l yX11_wrongTimes wsX11_wrongTimes ({ frames := 0, cells := 0, slots := 0, locals := 0 }) (va_Pc [.ref g0, .int x1, .int x2] (pcW (dC, dI) (mT cp) (mW g0 pq cp v fa) sz)) (va_Qi (fun (r : Int32) (u : Unit) => (-4 ≤ r.toInt ∧ r.toInt ≤ 0) ∧ (r = 0 → (0 ≤ x1.toInt ∧ x1.toInt ≤ x2.toInt ∧ x2.toInt ≤ 3000))) (fun _ _ => True) (va_A [] sz)) 0 0 (va_A [] sz) := by
  refine Met.ofW (cc := cX11_wrongTimes) (maxL := 3) (ret := (some .int)) (by decide +kernel) rfl ?_
  intro p e s m args below meth c s₁ B hml hv
  obtain ⟨rfl, hsz, hP, hK, hD0⟩ := hv
  have hx := B.exec
  have hb := B.bytes
  have hr := B.returns
  have hts := atoms_spec (ws := wsX11_wrongTimes) B.pre
  have hown : s.vm.findClass RX11 = some m.cls := findClass_of_methodNamed B.named
  have hlocks := B.notSynchronized
  subst hsz
  have hD := hD0
  generalize hAe : va_A [] s.heap.size = A at ⊢
  have hA : ∀ q : Nat, s.heap.size ≤ q → A q := fun q h => by rw [← hAe]; exact Or.inr h
  have hS : va_S A s.heap s.heap [] := va_S.rf
  have hP : va_P (dC, dI) vwCl (mW g0 pq cp v fa) s.heap := hP
  have hl := lv_entry ([.ref g0, .int x1, .int x2]) (n := 3) (Nat.le_of_ble_eq_true rfl)
  rw [lg_entry_eq]
  generalize (lg_sl ([.ref g0, .int x1, .int x2]) ++ List.replicate (3 - (lg_sl ([.ref g0, .int x1, .int x2])).length) Slot.unset).toArray = ls at hl ⊢
  have hl : lv_has ls 3 [(0, .ref g0), (1, .int x1), (2, .int x2)] := hl
  refine lv_iload_n hx hb dX11_wrongTimes_0 rfl (lv_at hl 1 rfl) ?_
  refine lv_if_lt (tgt := 8) hx hb dX11_wrongTimes_1 (by decide +kernel) (fun c_1 => ?_) (fun c_1 => ?_)
  · have dc_1 := c_lt (a := x1.toInt) (b := 0) rfl (by decide +kernel) c_1
    refine lv_bipush (v := (-4)) hx hb dX11_wrongTimes_8 (by decide +kernel) ?_
    refine lv_goto (tgt := 32) hx hb dX11_wrongTimes_10 (by decide +kernel) ?_
    exact W.iret (v := (-4)) hx hb hr (fun t ht hW => ⟨⟨(-4), (), rfl, ⟨(by decide +kernel), (fun h => absurd h (by decide +kernel))⟩, trivial⟩, hS.F ht⟩) hS.2.2 dX11_wrongTimes_32
  · have dc_1 := c_nlt (a := x1.toInt) (b := 0) rfl (by decide +kernel) c_1
    refine lv_iload_n hx hb dX11_wrongTimes_4 rfl (lv_at hl 2 rfl) ?_
    refine lv_if_ge (tgt := 13) hx hb dX11_wrongTimes_5 (by decide +kernel) (fun c_2 => ?_) (fun c_2 => ?_)
    · have dc_2 := c_le (a := 0) (b := x2.toInt) (by decide +kernel) rfl c_2
      refine lv_iload_n hx hb dX11_wrongTimes_13 rfl (lv_at hl 1 rfl) ?_
      refine lv_iload_n hx hb dX11_wrongTimes_14 rfl (lv_at hl 2 rfl) ?_
      refine lv_icmp_gt (tgt := 26) hx hb dX11_wrongTimes_15 (by decide +kernel) (fun c_3 => ?_) (fun c_3 => ?_)
      · have dc_3 := c_lt (a := x2.toInt) (b := x1.toInt) rfl rfl c_3
        refine lv_bipush (v := (-3)) hx hb dX11_wrongTimes_26 (by decide +kernel) ?_
        refine lv_goto (tgt := 32) hx hb dX11_wrongTimes_28 (by decide +kernel) ?_
        exact W.iret (v := (-3)) hx hb hr (fun t ht hW => ⟨⟨(-3), (), rfl, ⟨(by decide +kernel), (fun h => absurd h (by decide +kernel))⟩, trivial⟩, hS.F ht⟩) hS.2.2 dX11_wrongTimes_32
      · have dc_3 := c_nlt (a := x2.toInt) (b := x1.toInt) rfl rfl c_3
        refine lv_iload_n hx hb dX11_wrongTimes_18 rfl (lv_at hl 2 rfl) ?_
        refine lv_aload_n hx hb dX11_wrongTimes_19 rfl (lv_at hl 0 rfl) ?_
        refine va_get (D := (dC, dI)) (ci := 11) (v := .int (v 38)) (C := RX11) (T := TX11) (N := 63) hx hb hts in_wsX11_wrongTimes_X11 hown hK hP 0 rfl rfl 38 (by decide +kernel) (hts (.fieldLink RX11 171 "ShipOfficeModel" "now" "I") iw_X11_wrongTimes_1) (fun _ h9 => h9) rfl dX11_wrongTimes_20 ?_
        refine lv_topi (fun x_4 ex_4 => ?_)
        have hx_4 : 0 ≤ x_4.toInt ∧ x_4.toInt ≤ 3000 := iv_of ex_4 (gV 38)
        clear ex_4
        refine lv_icmp_le (tgt := 31) hx hb dX11_wrongTimes_23 (by decide +kernel) (fun c_5 => ?_) (fun c_5 => ?_)
        · have dc_5 := c_le (a := x2.toInt) (b := x_4.toInt) rfl rfl c_5
          refine lv_iconst (v := 0) hx hb dX11_wrongTimes_31 (by decide +kernel) ?_
          exact W.iret (v := 0) hx hb hr (fun t ht hW => ⟨⟨0, (), rfl, ⟨(by decide +kernel), (fun _ => by omega)⟩, trivial⟩, hS.F ht⟩) hS.2.2 dX11_wrongTimes_32
        · have dc_5 := c_nle (a := x2.toInt) (b := x_4.toInt) rfl rfl c_5
          refine lv_bipush (v := (-3)) hx hb dX11_wrongTimes_26 (by decide +kernel) ?_
          refine lv_goto (tgt := 32) hx hb dX11_wrongTimes_28 (by decide +kernel) ?_
          exact W.iret (v := (-3)) hx hb hr (fun t ht hW => ⟨⟨(-3), (), rfl, ⟨(by decide +kernel), (fun h => absurd h (by decide +kernel))⟩, trivial⟩, hS.F ht⟩) hS.2.2 dX11_wrongTimes_32
    · have dc_2 := c_nle (a := 0) (b := x2.toInt) (by decide +kernel) rfl c_2
      refine lv_bipush (v := (-4)) hx hb dX11_wrongTimes_8 (by decide +kernel) ?_
      refine lv_goto (tgt := 32) hx hb dX11_wrongTimes_10 (by decide +kernel) ?_
      exact W.iret (v := (-4)) hx hb hr (fun t ht hW => ⟨⟨(-4), (), rfl, ⟨(by decide +kernel), (fun h => absurd h (by decide +kernel))⟩, trivial⟩, hS.F ht⟩) hS.2.2 dX11_wrongTimes_32
set_option maxHeartbeats 4000000 in
set_option maxRecDepth 100000 in
theorem c_X11_worth (l : Launch) (dC : Nat → ClassId) (dI : Nat → Nat → Nat) (sz : Nat) (g0 : Nat) (pq : Nat → Nat) (cp : Nat → ClassId) (v : Nat → Int32) (fa : Nat → Nat → Int32) (gV : mV v) (gA : mA fa) (x1 : Int32) (x2 : Int32) : Met l yX11_worth wsX11_worth ({ frames := 20, cells := 0, slots := 0, locals := 463 }) (va_Pc [.ref g0, .int x1, .int x2] (pcW (dC, dI) (mT cp) (mW g0 pq cp v fa) sz)) (va_Qi (fun (r : Int32) (u : (Nat → Int32) × (Nat → Nat → Int32)) => mV u.1 ∧ mA u.2 ∧ scr v fa u.1 u.2) (fun u t => va_P (dC, dI) vwCl (mW g0 pq cp u.1 u.2) t.heap ∧ va_K (dC, dI) vwCl (mT cp) t ∧ va_D (va_A (mW g0 pq cp v fa) sz) (mW g0 pq cp u.1 u.2)) (va_A (mW g0 pq cp v fa) sz)) 0 0 (va_A (mW g0 pq cp v fa) sz) := by
  refine Met.ofW (cc := cX11_worth) (maxL := 4) (ret := (some .int)) (by decide +kernel) rfl ?_
  intro p e s m args below meth c s₁ B hml hv
  obtain ⟨rfl, hsz, hP, hK, hD0⟩ := hv
  have hx := B.exec
  have hb := B.bytes
  have hr := B.returns
  have hts := atoms_spec (ws := wsX11_worth) B.pre
  have hown : s.vm.findClass RX11 = some m.cls := findClass_of_methodNamed B.named
  have hlocks := B.notSynchronized
  subst hsz
  have hD := hD0.self (sz := s.heap.size)
  generalize hAe : va_A (mW g0 pq cp v fa) s.heap.size = A at hD ⊢
  have hA : ∀ q : Nat, s.heap.size ≤ q → A q := fun q h => by rw [← hAe]; exact Or.inr h
  have hS : va_S A s.heap s.heap [] := va_S.rf
  have hP : va_P (dC, dI) vwCl (mW g0 pq cp v fa) s.heap := hP
  have hl := lv_entry ([.ref g0, .int x1, .int x2]) (n := 4) (Nat.le_of_ble_eq_true rfl)
  rw [lg_entry_eq]
  generalize (lg_sl ([.ref g0, .int x1, .int x2]) ++ List.replicate (4 - (lg_sl ([.ref g0, .int x1, .int x2])).length) Slot.unset).toArray = ls at hl ⊢
  have hl : lv_has ls 4 [(0, .ref g0), (1, .int x1), (2, .int x2)] := hl
  refine lv_aload_n hx hb dX11_worth_0 rfl (lv_at hl 0 rfl) ?_
  refine lv_iload_n hx hb dX11_worth_1 rfl (lv_at hl 1 rfl) ?_
  refine lv_iload_n hx hb dX11_worth_2 rfl (lv_at hl 2 rfl) ?_
  have hFc : ∀ q, va_A [] s.heap.size q → A q := pu_free hS hA
  refine va_calli (va_runV (As := [.int x1, .int x2]) (rest := []) ⟨hx, hb, hml, hown, hts⟩ (c_X11_actOn l dC dI s.heap.size g0 pq cp v fa (v 42).toNatClampNeg (cn_le (n := 30) (gV 42)) (cn_eq (n := 30) (gV 42)) x1 x2) (cwV 2 hts gX11_worth_X11_actOn rfl rfl rfl (by decide +kernel) ⟨(Nat.le_of_ble_eq_true rfl), (Nat.le_of_ble_eq_true rfl)⟩) (pr_V (r := (RX11, TX11, 63)) hP hK hD 0 11 rfl rfl) rfl rfl hl.1 rfl (lv_room (Nat.le_of_ble_eq_true rfl)) dX11_worth_3 ⟨(Nat.le_of_ble_eq_true rfl), (Nat.le_of_ble_eq_true rfl)⟩) hS (fun q _ h => hFc q h) hFc (fun r_2 u t H locs ht hvm w_1 hB hz1 hk1 hS => ?_)
  have hP := pu_keep hP hk1
  clear hk1 hz1 hvm hB ht hFc
  have hb_3 : -1 ≤ r_2.toInt ∧ r_2.toInt ≤ 29 := pl_i w_1 (cn_le (n := 30) (gV 42))
  refine lv_istore_n (lv' := [(3, .int r_2), (0, .ref g0), (1, .int x1), (2, .int x2)]) hx hb dX11_worth_6 rfl hl (by decide +kernel) rfl (fun ls hl => ?_)
  refine lv_iload_n hx hb dX11_worth_7 rfl (lv_at hl 0 rfl) ?_
  refine lv_if_lt (tgt := 26) hx hb dX11_worth_8 (by decide +kernel) (fun c_4 => ?_) (fun c_4 => ?_)
  · have dc_4 := c_lt (a := r_2.toInt) (b := 0) rfl (by decide +kernel) c_4
    refine lv_iload_n hx hb dX11_worth_26 rfl (lv_at hl 2 rfl) ?_
    refine lv_if_ne (tgt := 34) hx hb dX11_worth_27 (by decide +kernel) (fun c_5 => ?_) (fun c_5 => ?_)
    · have dc_5 := c_ne (a := x1.toInt) (b := 0) rfl (by decide +kernel) c_5
      refine lv_iload_n hx hb dX11_worth_34 rfl (lv_at hl 2 rfl) ?_
      refine lv_iconst (v := 1) hx hb dX11_worth_35 (by decide +kernel) ?_
      refine lv_icmp_ne (tgt := 49) hx hb dX11_worth_36 (by decide +kernel) (fun c_6 => ?_) (fun c_6 => ?_)
      · have dc_6 := c_ne (a := x1.toInt) (b := 1) rfl (by decide +kernel) c_6
        refine lv_iload_n hx hb dX11_worth_49 rfl (lv_at hl 2 rfl) ?_
        refine lv_iconst (v := 2) hx hb dX11_worth_50 (by decide +kernel) ?_
        refine lv_icmp_ne (tgt := 59) hx hb dX11_worth_51 (by decide +kernel) (fun c_7 => ?_) (fun c_7 => ?_)
        · have dc_7 := c_ne (a := x1.toInt) (b := 2) rfl (by decide +kernel) c_7
          refine lv_iload_n hx hb dX11_worth_59 rfl (lv_at hl 2 rfl) ?_
          refine lv_iconst (v := 3) hx hb dX11_worth_60 (by decide +kernel) ?_
          refine lv_icmp_ne (tgt := 69) hx hb dX11_worth_61 (by decide +kernel) (fun c_8 => ?_) (fun c_8 => ?_)
          · have dc_8 := c_ne (a := x1.toInt) (b := 3) rfl (by decide +kernel) c_8
            refine lv_bipush (v := 90) hx hb dX11_worth_69 (by decide +kernel) ?_
            exact W.iret (v := 90) hx hb hr (fun t ht hW => ⟨⟨90, (v, fa), rfl, ⟨gV, gA, scr.rf⟩, ⟨by rw [ht]; exact hP, va_K.moved hW.alike hK, hD⟩⟩, hS.F ht⟩) hS.2.2 dX11_worth_71
          · have dc_8 := c_eq (a := x1.toInt) (b := 3) rfl (by decide +kernel) c_8
            refine lv_bipush (v := 50) hx hb dX11_worth_64 (by decide +kernel) ?_
            refine lv_goto (tgt := 71) hx hb dX11_worth_66 (by decide +kernel) ?_
            exact W.iret (v := 50) hx hb hr (fun t ht hW => ⟨⟨50, (v, fa), rfl, ⟨gV, gA, scr.rf⟩, ⟨by rw [ht]; exact hP, va_K.moved hW.alike hK, hD⟩⟩, hS.F ht⟩) hS.2.2 dX11_worth_71
        · have dc_7 := c_eq (a := x1.toInt) (b := 2) rfl (by decide +kernel) c_7
          refine lv_bipush (v := 100) hx hb dX11_worth_54 (by decide +kernel) ?_
          refine lv_goto (tgt := 71) hx hb dX11_worth_56 (by decide +kernel) ?_
          exact W.iret (v := 100) hx hb hr (fun t ht hW => ⟨⟨100, (v, fa), rfl, ⟨gV, gA, scr.rf⟩, ⟨by rw [ht]; exact hP, va_K.moved hW.alike hK, hD⟩⟩, hS.F ht⟩) hS.2.2 dX11_worth_71
      · have dc_6 := c_eq (a := x1.toInt) (b := 1) rfl (by decide +kernel) c_6
        refine lv_aload_n hx hb dX11_worth_39 rfl (lv_at hl 1 rfl) ?_
        refine va_get (D := (dC, dI)) (ci := 11) (v := .ref (pq 45)) (C := RX11) (T := TX11) (N := 63) hx hb hts in_wsX11_worth_X11 hown hK hP 0 rfl rfl 45 (by decide +kernel) (hts (.fieldLink RX11 128 "ShipOfficeModel" "letters" "[I") iw_X11_worth_1) (fun _ h9 => h9) rfl dX11_worth_40 ?_
        refine lv_bipush (v := 115) hx hb dX11_worth_43 (by decide +kernel) ?_
        refine va_iald hx hb hK hP 40 39 rfl rfl (by unfold vp_in; decide) dX11_worth_45 ?_
        refine lv_topi (fun x_9 ex_9 => ?_)
        clear ex_9
        refine lv_goto (tgt := 71) hx hb dX11_worth_46 (by decide +kernel) ?_
        exact W.iret (v := x_9) hx hb hr (fun t ht hW => ⟨⟨x_9, (v, fa), rfl, ⟨gV, gA, scr.rf⟩, ⟨by rw [ht]; exact hP, va_K.moved hW.alike hK, hD⟩⟩, hS.F ht⟩) hS.2.2 dX11_worth_71
    · have dc_5 := c_eq (a := x1.toInt) (b := 0) rfl (by decide +kernel) c_5
      refine lv_iconst (v := 1) hx hb dX11_worth_30 (by decide +kernel) ?_
      refine lv_goto (tgt := 71) hx hb dX11_worth_31 (by decide +kernel) ?_
      exact W.iret (v := 1) hx hb hr (fun t ht hW => ⟨⟨1, (v, fa), rfl, ⟨gV, gA, scr.rf⟩, ⟨by rw [ht]; exact hP, va_K.moved hW.alike hK, hD⟩⟩, hS.F ht⟩) hS.2.2 dX11_worth_71
  · have dc_4 := c_nlt (a := r_2.toInt) (b := 0) rfl (by decide +kernel) c_4
    refine lv_aload_n hx hb dX11_worth_11 rfl (lv_at hl 1 rfl) ?_
    refine lv_bipush (v := 60) hx hb dX11_worth_12 (by decide +kernel) ?_
    refine lv_iload_n hx hb dX11_worth_14 rfl (lv_at hl 0 rfl) ?_
    refine lv_imul hx hb dX11_worth_15 ?_
    refine lv_topi (fun x_10 ex_10 => ?_)
    have hx_10 : x_10.toInt = 60 * r_2.toInt := (iv_to ex_10).trans (mu_i (by decide +kernel) rfl (by omega) (by omega))
    clear ex_10
    refine lv_aload_n hx hb dX11_worth_16 rfl (lv_at hl 1 rfl) ?_
    refine va_get (D := (dC, dI)) (ci := 11) (v := .ref (pq 16)) (C := RX11) (T := TX11) (N := 63) hx hb hts in_wsX11_worth_X11 hown hK hP 0 rfl rfl 16 (by decide +kernel) (hts (.fieldLink RX11 58 "ShipOfficeModel" "textSize" "[I") iw_X11_worth_2) (fun _ h9 => h9) rfl dX11_worth_17 ?_
    refine lv_iload_n hx hb dX11_worth_20 rfl (lv_at hl 0 rfl) ?_
    refine va_iald hx hb hK hP 17 16 rfl rfl (vp_in_iff.mpr (by omega)) dX11_worth_21 ?_
    refine lv_topi (fun x_11 ex_11 => ?_)
    have hx_11 : 0 ≤ x_11.toInt ∧ x_11.toInt ≤ 60 := iv_of ex_11 (gA 16 _)
    clear ex_11
    have hFc := va_free (wc := (mW g0 pq cp v fa)) hD hS hA (List.range 48) rfl
    refine va_calli (va_runV (As := [.int x_10, .int x_11]) (rest := []) ⟨hx, hb, hml, hown, hts⟩ (c_X11_goesThrough_f l dC dI H.size g0 pq cp v fa x_10 x_11 x_11.toNatClampNeg (cn_le (n := 60) (by omega)) (cn_eq (n := 60) (by omega)) (bF x_10 fa) (bF_h (gb_of (by omega)))) (cwV 2 hts gX11_worth_X11_goesThrough rfl rfl rfl (by decide +kernel) ⟨(Nat.le_of_ble_eq_true rfl), (Nat.le_of_ble_eq_true rfl)⟩) (pr_V (r := (RX11, TX11, 63)) hP hK hD 0 11 rfl rfl) rfl rfl hl.1 rfl (lv_room (Nat.le_of_ble_eq_true rfl)) dX11_worth_22 ⟨(Nat.le_of_ble_eq_true rfl), (Nat.le_of_ble_eq_true rfl)⟩) hS (fun q _ h => hFc q h) hFc (fun r_13 u t H locs ht hvm w_12 hB hz1 hk1 hS => ?_)
    obtain ⟨v_14, fa_15⟩ := u
    obtain ⟨hP1, hK1, hD1⟩ := hB
    rw [ht] at hP1
    have hP : va_P (dC, dI) vwCl (mW g0 pq cp v_14 fa_15) H := hP1
    have hD : va_D A (mW g0 pq cp v_14 fa_15) := hD1.weaken (fun _ _ _ h => hFc _ h)
    clear hP1 hK1 hD1 hk1 hz1 hvm ht hFc
    obtain ⟨w_12, -⟩ := w_12
    obtain ⟨hr_16, efhr_16⟩ := w_12
    dsimp only at hr_16 efhr_16
    have hVv_14 : mV v_14 := rd_V gV hr_16
    have hAfa_15 : mA fa_15 := by rw [efhr_16]; exact gA
    have hr_16 := rd_R hr_16 efhr_16
    have R_17 := scr.tr scr.rf hr_16
    exact W.iret (v := r_13) hx hb hr (fun t ht hW => ⟨⟨r_13, (v_14, fa_15), rfl, ⟨hVv_14, hAfa_15, R_17⟩, ⟨by rw [ht]; exact hP, va_K.moved hW.alike hK, hD⟩⟩, hS.F ht⟩) hS.2.2 dX11_worth_25
set_option maxHeartbeats 4000000 in
set_option maxRecDepth 100000 in
theorem c_X11_isUnknown (l : Launch) (dC : Nat → ClassId) (dI : Nat → Nat → Nat) (sz : Nat) (g0 : Nat) (pq : Nat → Nat) (cp : Nat → ClassId) (v : Nat → Int32) (fa : Nat → Nat → Int32) (gV : mV v) (gA : mA fa) (x1 : Int32) (x2 : Int32) (x3 : Int32) : Met l yX11_isUnknown wsX11_isUnknown ({ frames := 21, cells := 0, slots := 0, locals := 486 }) (va_Pc [.ref g0, .int x1, .int x2, .int x3] (pcW (dC, dI) (mT cp) (mW g0 pq cp v fa) sz)) (va_Qi (fun (r : Int32) (u : (Nat → Int32) × (Nat → Nat → Int32)) => mV u.1 ∧ mA u.2 ∧ scr v fa u.1 u.2 ∧ (0 ≤ r.toInt ∧ r.toInt ≤ 1)) (fun u t => va_P (dC, dI) vwCl (mW g0 pq cp u.1 u.2) t.heap ∧ va_K (dC, dI) vwCl (mT cp) t ∧ va_D (va_A (mW g0 pq cp v fa) sz) (mW g0 pq cp u.1 u.2)) (va_A (mW g0 pq cp v fa) sz)) 0 0 (va_A (mW g0 pq cp v fa) sz) := by
  refine Met.ofW (cc := cX11_isUnknown) (maxL := 4) (ret := (some .boolean)) (by decide +kernel) rfl ?_
  intro p e s m args below meth c s₁ B hml hv
  obtain ⟨rfl, hsz, hP, hK, hD0⟩ := hv
  have hx := B.exec
  have hb := B.bytes
  have hr := B.returns
  have hts := atoms_spec (ws := wsX11_isUnknown) B.pre
  have hown : s.vm.findClass RX11 = some m.cls := findClass_of_methodNamed B.named
  have hlocks := B.notSynchronized
  subst hsz
  have hD := hD0.self (sz := s.heap.size)
  generalize hAe : va_A (mW g0 pq cp v fa) s.heap.size = A at hD ⊢
  have hA : ∀ q : Nat, s.heap.size ≤ q → A q := fun q h => by rw [← hAe]; exact Or.inr h
  have hS : va_S A s.heap s.heap [] := va_S.rf
  have hP : va_P (dC, dI) vwCl (mW g0 pq cp v fa) s.heap := hP
  have hl := lv_entry ([.ref g0, .int x1, .int x2, .int x3]) (n := 4) (Nat.le_of_ble_eq_true rfl)
  rw [lg_entry_eq]
  generalize (lg_sl ([.ref g0, .int x1, .int x2, .int x3]) ++ List.replicate (4 - (lg_sl ([.ref g0, .int x1, .int x2, .int x3])).length) Slot.unset).toArray = ls at hl ⊢
  have hl : lv_has ls 4 [(0, .ref g0), (1, .int x1), (2, .int x2), (3, .int x3)] := hl
  refine lv_aload_n hx hb dX11_isUnknown_0 rfl (lv_at hl 0 rfl) ?_
  refine lv_iload_n hx hb dX11_isUnknown_1 rfl (lv_at hl 1 rfl) ?_
  refine lv_iload_n hx hb dX11_isUnknown_2 rfl (lv_at hl 2 rfl) ?_
  refine lv_iload_n hx hb dX11_isUnknown_3 rfl (lv_at hl 3 rfl) ?_
  have hFc : ∀ q, va_A [] s.heap.size q → A q := pu_free hS hA
  refine va_calli (va_runV (As := [.int x1, .int x2, .int x3]) (rest := []) ⟨hx, hb, hml, hown, hts⟩ (c_X11_hasSailed l dC dI s.heap.size g0 pq cp v fa (v 41).toNatClampNeg (cn_le (n := 200) (gV 41)) (cn_eq (n := 200) (gV 41)) (fun i _ => gA 12 i) x1 x2 x3) (cwV 3 hts gX11_isUnknown_X11_hasSailed rfl rfl rfl (by decide +kernel) ⟨(Nat.le_of_ble_eq_true rfl), (Nat.le_of_ble_eq_true rfl)⟩) (pr_V (r := (RX11, TX11, 63)) hP hK hD 0 11 rfl rfl) rfl rfl hl.1 rfl (lv_room (Nat.le_of_ble_eq_true rfl)) dX11_isUnknown_4 ⟨(Nat.le_of_ble_eq_true rfl), (Nat.le_of_ble_eq_true rfl)⟩) hS (fun q _ h => hFc q h) hFc (fun r_2 u t H locs ht hvm w_1 hB hz1 hk1 hS => ?_)
  have hP := pu_keep hP hk1
  clear hk1 hz1 hvm hB ht hFc
  have hb_3 : 0 ≤ r_2.toInt ∧ r_2.toInt ≤ 1 := z1_i w_1
  refine lv_if_ne (tgt := 12) hx hb dX11_isUnknown_7 (by decide +kernel) (fun c_4 => ?_) (fun c_4 => ?_)
  · have dc_4 := c_ne (a := r_2.toInt) (b := 0) rfl (by decide +kernel) c_4
    refine lv_aload_n hx hb dX11_isUnknown_12 rfl (lv_at hl 0 rfl) ?_
    have hFc := va_free (wc := (mW g0 pq cp v fa)) hD hS hA (List.range 48) rfl
    refine va_callv (va_runV (As := []) (rest := []) ⟨hx, hb, hml, hown, hts⟩ (c_X11_bare l dC dI H.size g0 pq cp v fa gV gA) (cwV 0 hts gX11_isUnknown_X11_bare rfl rfl rfl (by decide +kernel) ⟨(Nat.le_of_ble_eq_true rfl), (Nat.le_of_ble_eq_true rfl)⟩) (pr_V (r := (RX11, TX11, 63)) hP hK hD 0 11 rfl rfl) rfl rfl hl.1 rfl (lv_room (Nat.le_of_ble_eq_true rfl)) dX11_isUnknown_13 ⟨(Nat.le_of_ble_eq_true rfl), (Nat.le_of_ble_eq_true rfl)⟩) hS (fun q _ h => hFc q h) hFc (fun u t H locs ht hvm w_5 hB hz1 hk1 hS => ?_)
    obtain ⟨v_7, fa_8⟩ := u
    obtain ⟨hP1, hK1, hD1⟩ := hB
    rw [ht] at hP1
    have hP : va_P (dC, dI) vwCl (mW g0 pq cp v_7 fa_8) H := hP1
    have hD : va_D A (mW g0 pq cp v_7 fa_8) := hD1.weaken (fun _ _ _ h => hFc _ h)
    clear hP1 hK1 hD1 hk1 hz1 hvm ht hFc
    obtain ⟨hV_9, hA_10, hR_11⟩ := w_5
    dsimp only at hV_9 hA_10 hR_11 
    have R_12 := scr.tr scr.rf hR_11
    refine lv_aload_n hx hb dX11_isUnknown_16 rfl (lv_at hl 0 rfl) ?_
    refine lv_iload_n hx hb dX11_isUnknown_17 rfl (lv_at hl 1 rfl) ?_
    refine lv_iload_n hx hb dX11_isUnknown_18 rfl (lv_at hl 2 rfl) ?_
    refine lv_iload_n hx hb dX11_isUnknown_19 rfl (lv_at hl 3 rfl) ?_
    have hFc : ∀ q, va_A [] H.size q → A q := pu_free hS hA
    refine va_calli (va_runV (As := [.int x1, .int x2, .int x3]) (rest := []) ⟨hx, hb, hml, hown, hts⟩ (c_X11_lastHeard l dC dI H.size g0 pq cp v_7 fa_8 (v_7 41).toNatClampNeg (cn_le (n := 200) (hV_9 41)) (cn_eq (n := 200) (hV_9 41)) (fun i _ => hA_10 12 i) x1 x2 x3) (cwV 3 hts gX11_isUnknown_X11_lastHeard rfl rfl rfl (by decide +kernel) ⟨(Nat.le_of_ble_eq_true rfl), (Nat.le_of_ble_eq_true rfl)⟩) (pr_V (r := (RX11, TX11, 63)) hP hK hD 0 11 rfl rfl) rfl rfl hl.1 rfl (lv_room (Nat.le_of_ble_eq_true rfl)) dX11_isUnknown_20 ⟨(Nat.le_of_ble_eq_true rfl), (Nat.le_of_ble_eq_true rfl)⟩) hS (fun q _ h => hFc q h) hFc (fun r_14 u t H locs ht hvm w_13 hB hz1 hk1 hS => ?_)
    have hP := pu_keep hP hk1
    clear hk1 hz1 hvm hB ht hFc
    have hb_15 : -1 ≤ r_14.toInt ∧ r_14.toInt ≤ 3000 := dr_i w_13
    refine lv_i2l (v := (r_14 : Int32).toInt64) hx hb dX11_isUnknown_23 rfl ?_
    refine lv_iload_n hx hb dX11_isUnknown_24 rfl (lv_at hl 2 rfl) ?_
    refine lv_i2l (v := (x2 : Int32).toInt64) hx hb dX11_isUnknown_25 rfl ?_
    refine lv_aload_n hx hb dX11_isUnknown_26 rfl (lv_at hl 0 rfl) ?_
    refine lv_iconst (v := 4) hx hb dX11_isUnknown_27 (by decide +kernel) ?_
    refine lv_iload_n hx hb dX11_isUnknown_28 rfl (lv_at hl 2 rfl) ?_
    have hFc := va_free (wc := (mW g0 pq cp v_7 fa_8)) hD hS hA (List.range 48) rfl
    refine va_calli (va_runV (As := [.int 4, .int x2]) (rest := [.long ((x2 : Int32).toInt64), .long ((r_14 : Int32).toInt64)]) ⟨hx, hb, hml, hown, hts⟩ (c_X11_worth l dC dI H.size g0 pq cp v_7 fa_8 hV_9 hA_10 4 x2) (cwV 2 hts gX11_isUnknown_X11_worth rfl rfl rfl (by decide +kernel) ⟨(Nat.le_of_ble_eq_true rfl), (Nat.le_of_ble_eq_true rfl)⟩) (pr_V (r := (RX11, TX11, 63)) hP hK hD 0 11 rfl rfl) rfl rfl hl.1 rfl (lv_room (Nat.le_of_ble_eq_true rfl)) dX11_isUnknown_29 ⟨(Nat.le_of_ble_eq_true rfl), (Nat.le_of_ble_eq_true rfl)⟩) hS (fun q _ h => hFc q h) hFc (fun r_17 u t H locs ht hvm w_16 hB hz1 hk1 hS => ?_)
    obtain ⟨v_18, fa_19⟩ := u
    obtain ⟨hP1, hK1, hD1⟩ := hB
    rw [ht] at hP1
    have hP : va_P (dC, dI) vwCl (mW g0 pq cp v_18 fa_19) H := hP1
    have hD : va_D A (mW g0 pq cp v_18 fa_19) := hD1.weaken (fun _ _ _ h => hFc _ h)
    clear hP1 hK1 hD1 hk1 hz1 hvm ht hFc
    obtain ⟨hV_20, hA_21, hR_22⟩ := w_16
    dsimp only at hV_20 hA_21 hR_22 
    have R_23 := scr.tr R_12 hR_22
    refine lv_i2l (v := (r_17 : Int32).toInt64) hx hb dX11_isUnknown_32 rfl ?_
    refine lv_lsub hx hb dX11_isUnknown_33 ?_
    refine W.lcmp hx hb dX11_isUnknown_34 ?_
    refine lv_topi (fun x_24 ex_24 => ?_)
    clear ex_24
    refine lv_if_ge (tgt := 42) hx hb dX11_isUnknown_35 (by decide +kernel) (fun c_25 => ?_) (fun c_25 => ?_)
    · have dc_25 := c_le (a := 0) (b := x_24.toInt) (by decide +kernel) rfl c_25
      refine lv_iconst (v := 0) hx hb dX11_isUnknown_42 (by decide +kernel) ?_
      exact W.zret (v := 0) hx hb hr rfl (fun t ht hW => ⟨⟨0, (v_18, fa_19), rfl, ⟨hV_20, hA_21, R_23, (by decide +kernel)⟩, ⟨by rw [ht]; exact hP, va_K.moved hW.alike hK, hD⟩⟩, hS.F ht⟩) hS.2.2 dX11_isUnknown_43
    · have dc_25 := c_nle (a := 0) (b := x_24.toInt) (by decide +kernel) rfl c_25
      refine lv_iconst (v := 1) hx hb dX11_isUnknown_38 (by decide +kernel) ?_
      refine lv_goto (tgt := 43) hx hb dX11_isUnknown_39 (by decide +kernel) ?_
      exact W.zret (v := 1) hx hb hr rfl (fun t ht hW => ⟨⟨1, (v_18, fa_19), rfl, ⟨hV_20, hA_21, R_23, (by decide +kernel)⟩, ⟨by rw [ht]; exact hP, va_K.moved hW.alike hK, hD⟩⟩, hS.F ht⟩) hS.2.2 dX11_isUnknown_43
  · have dc_4 := c_eq (a := r_2.toInt) (b := 0) rfl (by decide +kernel) c_4
    refine lv_iconst (v := 0) hx hb dX11_isUnknown_10 (by decide +kernel) ?_
    exact W.zret (v := 0) hx hb hr rfl (fun t ht hW => ⟨⟨0, (v, fa), rfl, ⟨gV, gA, scr.rf, (by decide +kernel)⟩, ⟨by rw [ht]; exact hP, va_K.moved hW.alike hK, hD⟩⟩, hS.F ht⟩) hS.2.2 dX11_isUnknown_11
set_option maxHeartbeats 4000000 in
set_option maxRecDepth 100000 in
theorem c_X11_stateOf (l : Launch) (dC : Nat → ClassId) (dI : Nat → Nat → Nat) (sz : Nat) (g0 : Nat) (pq : Nat → Nat) (cp : Nat → ClassId) (v : Nat → Int32) (fa : Nat → Nat → Int32) (gV : mV v) (gA : mA fa) (x1 : Int32) (hx1 : 0 ≤ x1.toInt ∧ x1.toInt ≤ 59) (x2 : Int32) (x3 : Int32) : Met l yX11_stateOf wsX11_stateOf ({ frames := 22, cells := 0, slots := 0, locals := 509 }) (va_Pc [.ref g0, .int x1, .int x2, .int x3] (pcW (dC, dI) (mT cp) (mW g0 pq cp v fa) sz)) (va_Qi (fun (r : Int32) (u : (Nat → Int32) × (Nat → Nat → Int32)) => mV u.1 ∧ mA u.2 ∧ scr v fa u.1 u.2 ∧ (-9 ≤ r.toInt ∧ r.toInt ≤ 5) ∧ (r = 3 → exW u.1 u.2 x1.toInt x2.toInt x3.toInt)) (fun u t => va_P (dC, dI) vwCl (mW g0 pq cp u.1 u.2) t.heap ∧ va_K (dC, dI) vwCl (mT cp) t ∧ va_D (va_A (mW g0 pq cp v fa) sz) (mW g0 pq cp u.1 u.2)) (va_A (mW g0 pq cp v fa) sz)) 0 0 (va_A (mW g0 pq cp v fa) sz) := by
  refine Met.ofW (cc := cX11_stateOf) (maxL := 5) (ret := (some .int)) (by decide +kernel) rfl ?_
  intro p e s m args below meth c s₁ B hml hv
  obtain ⟨rfl, hsz, hP, hK, hD0⟩ := hv
  have hx := B.exec
  have hb := B.bytes
  have hr := B.returns
  have hts := atoms_spec (ws := wsX11_stateOf) B.pre
  have hown : s.vm.findClass RX11 = some m.cls := findClass_of_methodNamed B.named
  have hlocks := B.notSynchronized
  subst hsz
  have hD := hD0.self (sz := s.heap.size)
  generalize hAe : va_A (mW g0 pq cp v fa) s.heap.size = A at hD ⊢
  have hA : ∀ q : Nat, s.heap.size ≤ q → A q := fun q h => by rw [← hAe]; exact Or.inr h
  have hS : va_S A s.heap s.heap [] := va_S.rf
  have hP : va_P (dC, dI) vwCl (mW g0 pq cp v fa) s.heap := hP
  have hl := lv_entry ([.ref g0, .int x1, .int x2, .int x3]) (n := 5) (Nat.le_of_ble_eq_true rfl)
  rw [lg_entry_eq]
  generalize (lg_sl ([.ref g0, .int x1, .int x2, .int x3]) ++ List.replicate (5 - (lg_sl ([.ref g0, .int x1, .int x2, .int x3])).length) Slot.unset).toArray = ls at hl ⊢
  have hl : lv_has ls 5 [(0, .ref g0), (1, .int x1), (2, .int x2), (3, .int x3)] := hl
  refine lv_iload_n hx hb dX11_stateOf_0 rfl (lv_at hl 2 rfl) ?_
  refine lv_aload_n hx hb dX11_stateOf_1 rfl (lv_at hl 0 rfl) ?_
  refine va_get (D := (dC, dI)) (ci := 11) (v := .ref (pq 25)) (C := RX11) (T := TX11) (N := 63) hx hb hts in_wsX11_stateOf_X11 hown hK hP 0 rfl rfl 25 (by decide +kernel) (hts (.fieldLink RX11 85 "ShipOfficeModel" "signed" "[I") iw_X11_stateOf_1) (fun _ h9 => h9) rfl dX11_stateOf_2 ?_
  refine lv_iload_n hx hb dX11_stateOf_5 rfl (lv_at hl 1 rfl) ?_
  refine va_iald hx hb hK hP 26 25 rfl rfl (vp_in_iff.mpr (by omega)) dX11_stateOf_6 ?_
  refine lv_topi (fun x_1 ex_1 => ?_)
  have hx_1 : 0 ≤ x_1.toInt ∧ x_1.toInt ≤ 3000 := iv_of ex_1 (gA 25 _)
  clear ex_1
  refine lv_icmp_ge (tgt := 13) hx hb dX11_stateOf_7 (by decide +kernel) (fun c_2 => ?_) (fun c_2 => ?_)
  · have dc_2 := c_le (a := x_1.toInt) (b := x2.toInt) rfl rfl c_2
    refine lv_aload_n hx hb dX11_stateOf_13 rfl (lv_at hl 0 rfl) ?_
    refine lv_iload_n hx hb dX11_stateOf_14 rfl (lv_at hl 1 rfl) ?_
    refine lv_iload_n hx hb dX11_stateOf_15 rfl (lv_at hl 2 rfl) ?_
    refine lv_iload_n hx hb dX11_stateOf_16 rfl (lv_at hl 3 rfl) ?_
    have hFc : ∀ q, va_A [] s.heap.size q → A q := pu_free hS hA
    refine va_calli (va_runV (As := [.int x1, .int x2, .int x3]) (rest := []) ⟨hx, hb, hml, hown, hts⟩ (c_X11_isDead l dC dI s.heap.size g0 pq cp v fa (v 41).toNatClampNeg (cn_le (n := 200) (gV 41)) (cn_eq (n := 200) (gV 41)) x1 x2 x3 (vp_in_iff.mpr (by omega))) (cwV 3 hts gX11_stateOf_X11_isDead rfl rfl rfl (by decide +kernel) ⟨(Nat.le_of_ble_eq_true rfl), (Nat.le_of_ble_eq_true rfl)⟩) (pr_V (r := (RX11, TX11, 63)) hP hK hD 0 11 rfl rfl) rfl rfl hl.1 rfl (lv_room (Nat.le_of_ble_eq_true rfl)) dX11_stateOf_17 ⟨(Nat.le_of_ble_eq_true rfl), (Nat.le_of_ble_eq_true rfl)⟩) hS (fun q _ h => hFc q h) hFc (fun r_4 u t H locs ht hvm w_3 hB hz1 hk1 hS => ?_)
    have hP := pu_keep hP hk1
    clear hk1 hz1 hvm hB ht hFc
    have hb_5 : 0 ≤ r_4.toInt ∧ r_4.toInt ≤ 1 := z1_i w_3
    refine lv_if_eq (tgt := 25) hx hb dX11_stateOf_20 (by decide +kernel) (fun c_6 => ?_) (fun c_6 => ?_)
    · have dc_6 := c_eq (a := r_4.toInt) (b := 0) rfl (by decide +kernel) c_6
      refine lv_aload_n hx hb dX11_stateOf_25 rfl (lv_at hl 0 rfl) ?_
      refine va_get (D := (dC, dI)) (ci := 11) (v := .ref (pq 26)) (C := RX11) (T := TX11) (N := 63) hx hb hts in_wsX11_stateOf_X11 hown hK hP 0 rfl rfl 26 (by decide +kernel) (hts (.fieldLink RX11 88 "ShipOfficeModel" "offOn" "[I") iw_X11_stateOf_2) (fun _ h9 => h9) rfl dX11_stateOf_26 ?_
      refine lv_iload_n hx hb dX11_stateOf_29 rfl (lv_at hl 1 rfl) ?_
      refine va_iald hx hb hK hP 27 26 rfl rfl (vp_in_iff.mpr (by omega)) dX11_stateOf_30 ?_
      refine lv_topi (fun x_7 ex_7 => ?_)
      clear ex_7
      refine lv_if_lt (tgt := 46) hx hb dX11_stateOf_31 (by decide +kernel) (fun c_8 => ?_) (fun c_8 => ?_)
      · have dc_8 := c_lt (a := x_7.toInt) (b := 0) rfl (by decide +kernel) c_8
        refine lv_aload_n hx hb dX11_stateOf_46 rfl (lv_at hl 0 rfl) ?_
        refine lv_iload_n hx hb dX11_stateOf_47 rfl (lv_at hl 1 rfl) ?_
        refine lv_iload_n hx hb dX11_stateOf_48 rfl (lv_at hl 2 rfl) ?_
        refine lv_iload_n hx hb dX11_stateOf_49 rfl (lv_at hl 3 rfl) ?_
        have hFc : ∀ q, va_A [] H.size q → A q := pu_free hS hA
        refine va_calli (va_runV (As := [.int x1, .int x2, .int x3]) (rest := []) ⟨hx, hb, hml, hown, hts⟩ (c_X11_whereOf_b l dC dI H.size g0 pq cp v fa gV gA x1 x2 x3) (cwV 3 hts gX11_stateOf_X11_whereOf rfl rfl rfl (by decide +kernel) ⟨(Nat.le_of_ble_eq_true rfl), (Nat.le_of_ble_eq_true rfl)⟩) (pr_V (r := (RX11, TX11, 63)) hP hK hD 0 11 rfl rfl) rfl rfl hl.1 rfl (lv_room (Nat.le_of_ble_eq_true rfl)) dX11_stateOf_50 ⟨(Nat.le_of_ble_eq_true rfl), (Nat.le_of_ble_eq_true rfl)⟩) hS (fun q _ h => hFc q h) hFc (fun r_10 u t H locs ht hvm w_9 hB hz1 hk1 hS => ?_)
        have hP := pu_keep hP hk1
        clear hk1 hz1 hvm hB ht hFc
        obtain ⟨hb_11, hx_12⟩ := w_9
        refine lv_istore (lv' := [(4, .int r_10), (0, .ref g0), (1, .int x1), (2, .int x2), (3, .int x3)]) hx hb dX11_stateOf_53 hl (by decide +kernel) rfl (fun ls hl => ?_)
        refine lv_iload hx hb dX11_stateOf_55 (lv_at hl 0 rfl) ?_
        refine lv_if_lt (tgt := 73) hx hb dX11_stateOf_57 (by decide +kernel) (fun c_13 => ?_) (fun c_13 => ?_)
        · have dc_13 := c_lt (a := r_10.toInt) (b := 0) rfl (by decide +kernel) c_13
          refine lv_aload_n hx hb dX11_stateOf_73 rfl (lv_at hl 1 rfl) ?_
          refine lv_aload_n hx hb dX11_stateOf_74 rfl (lv_at hl 1 rfl) ?_
          refine va_get (D := (dC, dI)) (ci := 11) (v := .ref (pq 21)) (C := RX11) (T := TX11) (N := 63) hx hb hts in_wsX11_stateOf_X11 hown hK hP 0 rfl rfl 21 (by decide +kernel) (hts (.fieldLink RX11 73 "ShipOfficeModel" "voyage" "[I") iw_X11_stateOf_3) (fun _ h9 => h9) rfl dX11_stateOf_75 ?_
          refine lv_iload_n hx hb dX11_stateOf_78 rfl (lv_at hl 2 rfl) ?_
          refine va_iald hx hb hK hP 22 21 rfl rfl (vp_in_iff.mpr (by omega)) dX11_stateOf_79 ?_
          refine lv_topi (fun x_14 ex_14 => ?_)
          have hx_14 : 0 ≤ x_14.toInt ∧ x_14.toInt ≤ 19 := iv_of ex_14 (gA 21 _)
          clear ex_14
          refine lv_iload_n hx hb dX11_stateOf_80 rfl (lv_at hl 3 rfl) ?_
          refine lv_iload_n hx hb dX11_stateOf_81 rfl (lv_at hl 4 rfl) ?_
          have hFc : ∀ q, va_A [] H.size q → A q := pu_free hS hA
          refine va_calli (va_runV (As := [.int x_14, .int x2, .int x3]) (rest := []) ⟨hx, hb, hml, hown, hts⟩ (c_X11_hasSailed l dC dI H.size g0 pq cp v fa (v 41).toNatClampNeg (cn_le (n := 200) (gV 41)) (cn_eq (n := 200) (gV 41)) (fun i _ => gA 12 i) x_14 x2 x3) (cwV 3 hts gX11_stateOf_X11_hasSailed rfl rfl rfl (by decide +kernel) ⟨(Nat.le_of_ble_eq_true rfl), (Nat.le_of_ble_eq_true rfl)⟩) (pr_V (r := (RX11, TX11, 63)) hP hK hD 0 11 rfl rfl) rfl rfl hl.1 rfl (lv_room (Nat.le_of_ble_eq_true rfl)) dX11_stateOf_82 ⟨(Nat.le_of_ble_eq_true rfl), (Nat.le_of_ble_eq_true rfl)⟩) hS (fun q _ h => hFc q h) hFc (fun r_16 u t H locs ht hvm w_15 hB hz1 hk1 hS => ?_)
          have hP := pu_keep hP hk1
          clear hk1 hz1 hvm hB ht hFc
          have hb_17 : 0 ≤ r_16.toInt ∧ r_16.toInt ≤ 1 := z1_i w_15
          refine lv_if_ne (tgt := 90) hx hb dX11_stateOf_85 (by decide +kernel) (fun c_18 => ?_) (fun c_18 => ?_)
          · have dc_18 := c_ne (a := r_16.toInt) (b := 0) rfl (by decide +kernel) c_18
            refine lv_aload_n hx hb dX11_stateOf_90 rfl (lv_at hl 1 rfl) ?_
            refine lv_aload_n hx hb dX11_stateOf_91 rfl (lv_at hl 1 rfl) ?_
            refine va_get (D := (dC, dI)) (ci := 11) (v := .ref (pq 21)) (C := RX11) (T := TX11) (N := 63) hx hb hts in_wsX11_stateOf_X11 hown hK hP 0 rfl rfl 21 (by decide +kernel) (hts (.fieldLink RX11 73 "ShipOfficeModel" "voyage" "[I") iw_X11_stateOf_3) (fun _ h9 => h9) rfl dX11_stateOf_92 ?_
            refine lv_iload_n hx hb dX11_stateOf_95 rfl (lv_at hl 2 rfl) ?_
            refine va_iald hx hb hK hP 22 21 rfl rfl (vp_in_iff.mpr (by omega)) dX11_stateOf_96 ?_
            refine lv_topi (fun x_19 ex_19 => ?_)
            have hx_19 : 0 ≤ x_19.toInt ∧ x_19.toInt ≤ 19 := iv_of ex_19 (gA 21 _)
            clear ex_19
            refine lv_iload_n hx hb dX11_stateOf_97 rfl (lv_at hl 3 rfl) ?_
            refine lv_iload_n hx hb dX11_stateOf_98 rfl (lv_at hl 4 rfl) ?_
            have hFc := va_free (wc := (mW g0 pq cp v fa)) hD hS hA (List.range 48) rfl
            refine va_calli (va_runV (As := [.int x_19, .int x2, .int x3]) (rest := []) ⟨hx, hb, hml, hown, hts⟩ (c_X11_isUnknown l dC dI H.size g0 pq cp v fa gV gA x_19 x2 x3) (cwV 3 hts gX11_stateOf_X11_isUnknown rfl rfl rfl (by decide +kernel) ⟨(Nat.le_of_ble_eq_true rfl), (Nat.le_of_ble_eq_true rfl)⟩) (pr_V (r := (RX11, TX11, 63)) hP hK hD 0 11 rfl rfl) rfl rfl hl.1 rfl (lv_room (Nat.le_of_ble_eq_true rfl)) dX11_stateOf_99 ⟨(Nat.le_of_ble_eq_true rfl), (Nat.le_of_ble_eq_true rfl)⟩) hS (fun q _ h => hFc q h) hFc (fun r_21 u t H locs ht hvm w_20 hB hz1 hk1 hS => ?_)
            obtain ⟨v_22, fa_23⟩ := u
            obtain ⟨hP1, hK1, hD1⟩ := hB
            rw [ht] at hP1
            have hP : va_P (dC, dI) vwCl (mW g0 pq cp v_22 fa_23) H := hP1
            have hD : va_D A (mW g0 pq cp v_22 fa_23) := hD1.weaken (fun _ _ _ h => hFc _ h)
            clear hP1 hK1 hD1 hk1 hz1 hvm ht hFc
            obtain ⟨hV_24, hA_25, hR_26, hb_27⟩ := w_20
            dsimp only at hV_24 hA_25 hR_26 hb_27
            have R_28 := scr.tr scr.rf hR_26
            refine lv_if_eq (tgt := 109) hx hb dX11_stateOf_102 (by decide +kernel) (fun c_29 => ?_) (fun c_29 => ?_)
            · have dc_29 := c_eq (a := r_21.toInt) (b := 0) rfl (by decide +kernel) c_29
              refine lv_iconst (v := 1) hx hb dX11_stateOf_109 (by decide +kernel) ?_
              exact W.iret (v := 1) hx hb hr (fun t ht hW => ⟨⟨1, (v_22, fa_23), rfl, ⟨hV_24, hA_25, R_28, (by decide +kernel), (fun h => absurd h (by decide +kernel))⟩, ⟨by rw [ht]; exact hP, va_K.moved hW.alike hK, hD⟩⟩, hS.F ht⟩) hS.2.2 dX11_stateOf_110
            · have dc_29 := c_ne (a := r_21.toInt) (b := 0) rfl (by decide +kernel) c_29
              refine lv_iconst (v := 2) hx hb dX11_stateOf_105 (by decide +kernel) ?_
              refine lv_goto (tgt := 110) hx hb dX11_stateOf_106 (by decide +kernel) ?_
              exact W.iret (v := 2) hx hb hr (fun t ht hW => ⟨⟨2, (v_22, fa_23), rfl, ⟨hV_24, hA_25, R_28, (by decide +kernel), (fun h => absurd h (by decide +kernel))⟩, ⟨by rw [ht]; exact hP, va_K.moved hW.alike hK, hD⟩⟩, hS.F ht⟩) hS.2.2 dX11_stateOf_110
          · have dc_18 := c_eq (a := r_16.toInt) (b := 0) rfl (by decide +kernel) c_18
            refine lv_iconst (v := 0) hx hb dX11_stateOf_88 (by decide +kernel) ?_
            exact W.iret (v := 0) hx hb hr (fun t ht hW => ⟨⟨0, (v, fa), rfl, ⟨gV, gA, scr.rf, (by decide +kernel), (fun h => absurd h (by decide +kernel))⟩, ⟨by rw [ht]; exact hP, va_K.moved hW.alike hK, hD⟩⟩, hS.F ht⟩) hS.2.2 dX11_stateOf_89
        · have dc_13 := c_nlt (a := r_10.toInt) (b := 0) rfl (by decide +kernel) c_13
          refine lv_aload_n hx hb dX11_stateOf_60 rfl (lv_at hl 1 rfl) ?_
          refine va_get (D := (dC, dI)) (ci := 11) (v := .ref (pq 10)) (C := RX11) (T := TX11) (N := 63) hx hb hts in_wsX11_stateOf_X11 hown hK hP 0 rfl rfl 10 (by decide +kernel) (hts (.fieldLink RX11 40 "ShipOfficeModel" "what" "[I") iw_X11_stateOf_4) (fun _ h9 => h9) rfl dX11_stateOf_61 ?_
          refine lv_iload hx hb dX11_stateOf_64 (lv_at hl 0 rfl) ?_
          refine va_iald hx hb hK hP 11 10 rfl rfl (vp_in_iff.mpr (by omega)) dX11_stateOf_66 ?_
          refine lv_topi (fun x_30 ex_30 => ?_)
          clear ex_30
          refine lv_iconst (v := 3) hx hb dX11_stateOf_67 (by decide +kernel) ?_
          refine lv_icmp_ne (tgt := 73) hx hb dX11_stateOf_68 (by decide +kernel) (fun c_31 => ?_) (fun c_31 => ?_)
          · have dc_31 := c_ne (a := x_30.toInt) (b := 3) rfl (by decide +kernel) c_31
            refine lv_aload_n hx hb dX11_stateOf_73 rfl (lv_at hl 1 rfl) ?_
            refine lv_aload_n hx hb dX11_stateOf_74 rfl (lv_at hl 1 rfl) ?_
            refine va_get (D := (dC, dI)) (ci := 11) (v := .ref (pq 21)) (C := RX11) (T := TX11) (N := 63) hx hb hts in_wsX11_stateOf_X11 hown hK hP 0 rfl rfl 21 (by decide +kernel) (hts (.fieldLink RX11 73 "ShipOfficeModel" "voyage" "[I") iw_X11_stateOf_3) (fun _ h9 => h9) rfl dX11_stateOf_75 ?_
            refine lv_iload_n hx hb dX11_stateOf_78 rfl (lv_at hl 2 rfl) ?_
            refine va_iald hx hb hK hP 22 21 rfl rfl (vp_in_iff.mpr (by omega)) dX11_stateOf_79 ?_
            refine lv_topi (fun x_32 ex_32 => ?_)
            have hx_32 : 0 ≤ x_32.toInt ∧ x_32.toInt ≤ 19 := iv_of ex_32 (gA 21 _)
            clear ex_32
            refine lv_iload_n hx hb dX11_stateOf_80 rfl (lv_at hl 3 rfl) ?_
            refine lv_iload_n hx hb dX11_stateOf_81 rfl (lv_at hl 4 rfl) ?_
            have hFc : ∀ q, va_A [] H.size q → A q := pu_free hS hA
            refine va_calli (va_runV (As := [.int x_32, .int x2, .int x3]) (rest := []) ⟨hx, hb, hml, hown, hts⟩ (c_X11_hasSailed l dC dI H.size g0 pq cp v fa (v 41).toNatClampNeg (cn_le (n := 200) (gV 41)) (cn_eq (n := 200) (gV 41)) (fun i _ => gA 12 i) x_32 x2 x3) (cwV 3 hts gX11_stateOf_X11_hasSailed rfl rfl rfl (by decide +kernel) ⟨(Nat.le_of_ble_eq_true rfl), (Nat.le_of_ble_eq_true rfl)⟩) (pr_V (r := (RX11, TX11, 63)) hP hK hD 0 11 rfl rfl) rfl rfl hl.1 rfl (lv_room (Nat.le_of_ble_eq_true rfl)) dX11_stateOf_82 ⟨(Nat.le_of_ble_eq_true rfl), (Nat.le_of_ble_eq_true rfl)⟩) hS (fun q _ h => hFc q h) hFc (fun r_34 u t H locs ht hvm w_33 hB hz1 hk1 hS => ?_)
            have hP := pu_keep hP hk1
            clear hk1 hz1 hvm hB ht hFc
            have hb_35 : 0 ≤ r_34.toInt ∧ r_34.toInt ≤ 1 := z1_i w_33
            refine lv_if_ne (tgt := 90) hx hb dX11_stateOf_85 (by decide +kernel) (fun c_36 => ?_) (fun c_36 => ?_)
            · have dc_36 := c_ne (a := r_34.toInt) (b := 0) rfl (by decide +kernel) c_36
              refine lv_aload_n hx hb dX11_stateOf_90 rfl (lv_at hl 1 rfl) ?_
              refine lv_aload_n hx hb dX11_stateOf_91 rfl (lv_at hl 1 rfl) ?_
              refine va_get (D := (dC, dI)) (ci := 11) (v := .ref (pq 21)) (C := RX11) (T := TX11) (N := 63) hx hb hts in_wsX11_stateOf_X11 hown hK hP 0 rfl rfl 21 (by decide +kernel) (hts (.fieldLink RX11 73 "ShipOfficeModel" "voyage" "[I") iw_X11_stateOf_3) (fun _ h9 => h9) rfl dX11_stateOf_92 ?_
              refine lv_iload_n hx hb dX11_stateOf_95 rfl (lv_at hl 2 rfl) ?_
              refine va_iald hx hb hK hP 22 21 rfl rfl (vp_in_iff.mpr (by omega)) dX11_stateOf_96 ?_
              refine lv_topi (fun x_37 ex_37 => ?_)
              have hx_37 : 0 ≤ x_37.toInt ∧ x_37.toInt ≤ 19 := iv_of ex_37 (gA 21 _)
              clear ex_37
              refine lv_iload_n hx hb dX11_stateOf_97 rfl (lv_at hl 3 rfl) ?_
              refine lv_iload_n hx hb dX11_stateOf_98 rfl (lv_at hl 4 rfl) ?_
              have hFc := va_free (wc := (mW g0 pq cp v fa)) hD hS hA (List.range 48) rfl
              refine va_calli (va_runV (As := [.int x_37, .int x2, .int x3]) (rest := []) ⟨hx, hb, hml, hown, hts⟩ (c_X11_isUnknown l dC dI H.size g0 pq cp v fa gV gA x_37 x2 x3) (cwV 3 hts gX11_stateOf_X11_isUnknown rfl rfl rfl (by decide +kernel) ⟨(Nat.le_of_ble_eq_true rfl), (Nat.le_of_ble_eq_true rfl)⟩) (pr_V (r := (RX11, TX11, 63)) hP hK hD 0 11 rfl rfl) rfl rfl hl.1 rfl (lv_room (Nat.le_of_ble_eq_true rfl)) dX11_stateOf_99 ⟨(Nat.le_of_ble_eq_true rfl), (Nat.le_of_ble_eq_true rfl)⟩) hS (fun q _ h => hFc q h) hFc (fun r_39 u t H locs ht hvm w_38 hB hz1 hk1 hS => ?_)
              obtain ⟨v_40, fa_41⟩ := u
              obtain ⟨hP1, hK1, hD1⟩ := hB
              rw [ht] at hP1
              have hP : va_P (dC, dI) vwCl (mW g0 pq cp v_40 fa_41) H := hP1
              have hD : va_D A (mW g0 pq cp v_40 fa_41) := hD1.weaken (fun _ _ _ h => hFc _ h)
              clear hP1 hK1 hD1 hk1 hz1 hvm ht hFc
              obtain ⟨hV_42, hA_43, hR_44, hb_45⟩ := w_38
              dsimp only at hV_42 hA_43 hR_44 hb_45
              have R_46 := scr.tr scr.rf hR_44
              refine lv_if_eq (tgt := 109) hx hb dX11_stateOf_102 (by decide +kernel) (fun c_47 => ?_) (fun c_47 => ?_)
              · have dc_47 := c_eq (a := r_39.toInt) (b := 0) rfl (by decide +kernel) c_47
                refine lv_iconst (v := 1) hx hb dX11_stateOf_109 (by decide +kernel) ?_
                exact W.iret (v := 1) hx hb hr (fun t ht hW => ⟨⟨1, (v_40, fa_41), rfl, ⟨hV_42, hA_43, R_46, (by decide +kernel), (fun h => absurd h (by decide +kernel))⟩, ⟨by rw [ht]; exact hP, va_K.moved hW.alike hK, hD⟩⟩, hS.F ht⟩) hS.2.2 dX11_stateOf_110
              · have dc_47 := c_ne (a := r_39.toInt) (b := 0) rfl (by decide +kernel) c_47
                refine lv_iconst (v := 2) hx hb dX11_stateOf_105 (by decide +kernel) ?_
                refine lv_goto (tgt := 110) hx hb dX11_stateOf_106 (by decide +kernel) ?_
                exact W.iret (v := 2) hx hb hr (fun t ht hW => ⟨⟨2, (v_40, fa_41), rfl, ⟨hV_42, hA_43, R_46, (by decide +kernel), (fun h => absurd h (by decide +kernel))⟩, ⟨by rw [ht]; exact hP, va_K.moved hW.alike hK, hD⟩⟩, hS.F ht⟩) hS.2.2 dX11_stateOf_110
            · have dc_36 := c_eq (a := r_34.toInt) (b := 0) rfl (by decide +kernel) c_36
              refine lv_iconst (v := 0) hx hb dX11_stateOf_88 (by decide +kernel) ?_
              exact W.iret (v := 0) hx hb hr (fun t ht hW => ⟨⟨0, (v, fa), rfl, ⟨gV, gA, scr.rf, (by decide +kernel), (fun h => absurd h (by decide +kernel))⟩, ⟨by rw [ht]; exact hP, va_K.moved hW.alike hK, hD⟩⟩, hS.F ht⟩) hS.2.2 dX11_stateOf_89
          · have dc_31 := c_eq (a := x_30.toInt) (b := 3) rfl (by decide +kernel) c_31
            refine lv_iconst (v := 3) hx hb dX11_stateOf_71 (by decide +kernel) ?_
            exact W.iret (v := 3) hx hb hr (fun t ht hW => ⟨⟨3, (v, fa), rfl, ⟨gV, gA, scr.rf, (by decide +kernel), (fun _ => hx_12.mpr (by omega))⟩, ⟨by rw [ht]; exact hP, va_K.moved hW.alike hK, hD⟩⟩, hS.F ht⟩) hS.2.2 dX11_stateOf_72
      · have dc_8 := c_nlt (a := x_7.toInt) (b := 0) rfl (by decide +kernel) c_8
        refine lv_aload_n hx hb dX11_stateOf_34 rfl (lv_at hl 0 rfl) ?_
        refine va_get (D := (dC, dI)) (ci := 11) (v := .ref (pq 26)) (C := RX11) (T := TX11) (N := 63) hx hb hts in_wsX11_stateOf_X11 hown hK hP 0 rfl rfl 26 (by decide +kernel) (hts (.fieldLink RX11 88 "ShipOfficeModel" "offOn" "[I") iw_X11_stateOf_2) (fun _ h9 => h9) rfl dX11_stateOf_35 ?_
        refine lv_iload_n hx hb dX11_stateOf_38 rfl (lv_at hl 1 rfl) ?_
        refine va_iald hx hb hK hP 27 26 rfl rfl (vp_in_iff.mpr (by omega)) dX11_stateOf_39 ?_
        refine lv_topi (fun x_48 ex_48 => ?_)
        clear ex_48
        refine lv_iload_n hx hb dX11_stateOf_40 rfl (lv_at hl 2 rfl) ?_
        refine lv_icmp_gt (tgt := 46) hx hb dX11_stateOf_41 (by decide +kernel) (fun c_49 => ?_) (fun c_49 => ?_)
        · have dc_49 := c_lt (a := x2.toInt) (b := x_48.toInt) rfl rfl c_49
          refine lv_aload_n hx hb dX11_stateOf_46 rfl (lv_at hl 0 rfl) ?_
          refine lv_iload_n hx hb dX11_stateOf_47 rfl (lv_at hl 1 rfl) ?_
          refine lv_iload_n hx hb dX11_stateOf_48 rfl (lv_at hl 2 rfl) ?_
          refine lv_iload_n hx hb dX11_stateOf_49 rfl (lv_at hl 3 rfl) ?_
          have hFc : ∀ q, va_A [] H.size q → A q := pu_free hS hA
          refine va_calli (va_runV (As := [.int x1, .int x2, .int x3]) (rest := []) ⟨hx, hb, hml, hown, hts⟩ (c_X11_whereOf_b l dC dI H.size g0 pq cp v fa gV gA x1 x2 x3) (cwV 3 hts gX11_stateOf_X11_whereOf rfl rfl rfl (by decide +kernel) ⟨(Nat.le_of_ble_eq_true rfl), (Nat.le_of_ble_eq_true rfl)⟩) (pr_V (r := (RX11, TX11, 63)) hP hK hD 0 11 rfl rfl) rfl rfl hl.1 rfl (lv_room (Nat.le_of_ble_eq_true rfl)) dX11_stateOf_50 ⟨(Nat.le_of_ble_eq_true rfl), (Nat.le_of_ble_eq_true rfl)⟩) hS (fun q _ h => hFc q h) hFc (fun r_51 u t H locs ht hvm w_50 hB hz1 hk1 hS => ?_)
          have hP := pu_keep hP hk1
          clear hk1 hz1 hvm hB ht hFc
          obtain ⟨hb_52, hx_53⟩ := w_50
          refine lv_istore (lv' := [(4, .int r_51), (0, .ref g0), (1, .int x1), (2, .int x2), (3, .int x3)]) hx hb dX11_stateOf_53 hl (by decide +kernel) rfl (fun ls hl => ?_)
          refine lv_iload hx hb dX11_stateOf_55 (lv_at hl 0 rfl) ?_
          refine lv_if_lt (tgt := 73) hx hb dX11_stateOf_57 (by decide +kernel) (fun c_54 => ?_) (fun c_54 => ?_)
          · have dc_54 := c_lt (a := r_51.toInt) (b := 0) rfl (by decide +kernel) c_54
            refine lv_aload_n hx hb dX11_stateOf_73 rfl (lv_at hl 1 rfl) ?_
            refine lv_aload_n hx hb dX11_stateOf_74 rfl (lv_at hl 1 rfl) ?_
            refine va_get (D := (dC, dI)) (ci := 11) (v := .ref (pq 21)) (C := RX11) (T := TX11) (N := 63) hx hb hts in_wsX11_stateOf_X11 hown hK hP 0 rfl rfl 21 (by decide +kernel) (hts (.fieldLink RX11 73 "ShipOfficeModel" "voyage" "[I") iw_X11_stateOf_3) (fun _ h9 => h9) rfl dX11_stateOf_75 ?_
            refine lv_iload_n hx hb dX11_stateOf_78 rfl (lv_at hl 2 rfl) ?_
            refine va_iald hx hb hK hP 22 21 rfl rfl (vp_in_iff.mpr (by omega)) dX11_stateOf_79 ?_
            refine lv_topi (fun x_55 ex_55 => ?_)
            have hx_55 : 0 ≤ x_55.toInt ∧ x_55.toInt ≤ 19 := iv_of ex_55 (gA 21 _)
            clear ex_55
            refine lv_iload_n hx hb dX11_stateOf_80 rfl (lv_at hl 3 rfl) ?_
            refine lv_iload_n hx hb dX11_stateOf_81 rfl (lv_at hl 4 rfl) ?_
            have hFc : ∀ q, va_A [] H.size q → A q := pu_free hS hA
            refine va_calli (va_runV (As := [.int x_55, .int x2, .int x3]) (rest := []) ⟨hx, hb, hml, hown, hts⟩ (c_X11_hasSailed l dC dI H.size g0 pq cp v fa (v 41).toNatClampNeg (cn_le (n := 200) (gV 41)) (cn_eq (n := 200) (gV 41)) (fun i _ => gA 12 i) x_55 x2 x3) (cwV 3 hts gX11_stateOf_X11_hasSailed rfl rfl rfl (by decide +kernel) ⟨(Nat.le_of_ble_eq_true rfl), (Nat.le_of_ble_eq_true rfl)⟩) (pr_V (r := (RX11, TX11, 63)) hP hK hD 0 11 rfl rfl) rfl rfl hl.1 rfl (lv_room (Nat.le_of_ble_eq_true rfl)) dX11_stateOf_82 ⟨(Nat.le_of_ble_eq_true rfl), (Nat.le_of_ble_eq_true rfl)⟩) hS (fun q _ h => hFc q h) hFc (fun r_57 u t H locs ht hvm w_56 hB hz1 hk1 hS => ?_)
            have hP := pu_keep hP hk1
            clear hk1 hz1 hvm hB ht hFc
            have hb_58 : 0 ≤ r_57.toInt ∧ r_57.toInt ≤ 1 := z1_i w_56
            refine lv_if_ne (tgt := 90) hx hb dX11_stateOf_85 (by decide +kernel) (fun c_59 => ?_) (fun c_59 => ?_)
            · have dc_59 := c_ne (a := r_57.toInt) (b := 0) rfl (by decide +kernel) c_59
              refine lv_aload_n hx hb dX11_stateOf_90 rfl (lv_at hl 1 rfl) ?_
              refine lv_aload_n hx hb dX11_stateOf_91 rfl (lv_at hl 1 rfl) ?_
              refine va_get (D := (dC, dI)) (ci := 11) (v := .ref (pq 21)) (C := RX11) (T := TX11) (N := 63) hx hb hts in_wsX11_stateOf_X11 hown hK hP 0 rfl rfl 21 (by decide +kernel) (hts (.fieldLink RX11 73 "ShipOfficeModel" "voyage" "[I") iw_X11_stateOf_3) (fun _ h9 => h9) rfl dX11_stateOf_92 ?_
              refine lv_iload_n hx hb dX11_stateOf_95 rfl (lv_at hl 2 rfl) ?_
              refine va_iald hx hb hK hP 22 21 rfl rfl (vp_in_iff.mpr (by omega)) dX11_stateOf_96 ?_
              refine lv_topi (fun x_60 ex_60 => ?_)
              have hx_60 : 0 ≤ x_60.toInt ∧ x_60.toInt ≤ 19 := iv_of ex_60 (gA 21 _)
              clear ex_60
              refine lv_iload_n hx hb dX11_stateOf_97 rfl (lv_at hl 3 rfl) ?_
              refine lv_iload_n hx hb dX11_stateOf_98 rfl (lv_at hl 4 rfl) ?_
              have hFc := va_free (wc := (mW g0 pq cp v fa)) hD hS hA (List.range 48) rfl
              refine va_calli (va_runV (As := [.int x_60, .int x2, .int x3]) (rest := []) ⟨hx, hb, hml, hown, hts⟩ (c_X11_isUnknown l dC dI H.size g0 pq cp v fa gV gA x_60 x2 x3) (cwV 3 hts gX11_stateOf_X11_isUnknown rfl rfl rfl (by decide +kernel) ⟨(Nat.le_of_ble_eq_true rfl), (Nat.le_of_ble_eq_true rfl)⟩) (pr_V (r := (RX11, TX11, 63)) hP hK hD 0 11 rfl rfl) rfl rfl hl.1 rfl (lv_room (Nat.le_of_ble_eq_true rfl)) dX11_stateOf_99 ⟨(Nat.le_of_ble_eq_true rfl), (Nat.le_of_ble_eq_true rfl)⟩) hS (fun q _ h => hFc q h) hFc (fun r_62 u t H locs ht hvm w_61 hB hz1 hk1 hS => ?_)
              obtain ⟨v_63, fa_64⟩ := u
              obtain ⟨hP1, hK1, hD1⟩ := hB
              rw [ht] at hP1
              have hP : va_P (dC, dI) vwCl (mW g0 pq cp v_63 fa_64) H := hP1
              have hD : va_D A (mW g0 pq cp v_63 fa_64) := hD1.weaken (fun _ _ _ h => hFc _ h)
              clear hP1 hK1 hD1 hk1 hz1 hvm ht hFc
              obtain ⟨hV_65, hA_66, hR_67, hb_68⟩ := w_61
              dsimp only at hV_65 hA_66 hR_67 hb_68
              have R_69 := scr.tr scr.rf hR_67
              refine lv_if_eq (tgt := 109) hx hb dX11_stateOf_102 (by decide +kernel) (fun c_70 => ?_) (fun c_70 => ?_)
              · have dc_70 := c_eq (a := r_62.toInt) (b := 0) rfl (by decide +kernel) c_70
                refine lv_iconst (v := 1) hx hb dX11_stateOf_109 (by decide +kernel) ?_
                exact W.iret (v := 1) hx hb hr (fun t ht hW => ⟨⟨1, (v_63, fa_64), rfl, ⟨hV_65, hA_66, R_69, (by decide +kernel), (fun h => absurd h (by decide +kernel))⟩, ⟨by rw [ht]; exact hP, va_K.moved hW.alike hK, hD⟩⟩, hS.F ht⟩) hS.2.2 dX11_stateOf_110
              · have dc_70 := c_ne (a := r_62.toInt) (b := 0) rfl (by decide +kernel) c_70
                refine lv_iconst (v := 2) hx hb dX11_stateOf_105 (by decide +kernel) ?_
                refine lv_goto (tgt := 110) hx hb dX11_stateOf_106 (by decide +kernel) ?_
                exact W.iret (v := 2) hx hb hr (fun t ht hW => ⟨⟨2, (v_63, fa_64), rfl, ⟨hV_65, hA_66, R_69, (by decide +kernel), (fun h => absurd h (by decide +kernel))⟩, ⟨by rw [ht]; exact hP, va_K.moved hW.alike hK, hD⟩⟩, hS.F ht⟩) hS.2.2 dX11_stateOf_110
            · have dc_59 := c_eq (a := r_57.toInt) (b := 0) rfl (by decide +kernel) c_59
              refine lv_iconst (v := 0) hx hb dX11_stateOf_88 (by decide +kernel) ?_
              exact W.iret (v := 0) hx hb hr (fun t ht hW => ⟨⟨0, (v, fa), rfl, ⟨gV, gA, scr.rf, (by decide +kernel), (fun h => absurd h (by decide +kernel))⟩, ⟨by rw [ht]; exact hP, va_K.moved hW.alike hK, hD⟩⟩, hS.F ht⟩) hS.2.2 dX11_stateOf_89
          · have dc_54 := c_nlt (a := r_51.toInt) (b := 0) rfl (by decide +kernel) c_54
            refine lv_aload_n hx hb dX11_stateOf_60 rfl (lv_at hl 1 rfl) ?_
            refine va_get (D := (dC, dI)) (ci := 11) (v := .ref (pq 10)) (C := RX11) (T := TX11) (N := 63) hx hb hts in_wsX11_stateOf_X11 hown hK hP 0 rfl rfl 10 (by decide +kernel) (hts (.fieldLink RX11 40 "ShipOfficeModel" "what" "[I") iw_X11_stateOf_4) (fun _ h9 => h9) rfl dX11_stateOf_61 ?_
            refine lv_iload hx hb dX11_stateOf_64 (lv_at hl 0 rfl) ?_
            refine va_iald hx hb hK hP 11 10 rfl rfl (vp_in_iff.mpr (by omega)) dX11_stateOf_66 ?_
            refine lv_topi (fun x_71 ex_71 => ?_)
            clear ex_71
            refine lv_iconst (v := 3) hx hb dX11_stateOf_67 (by decide +kernel) ?_
            refine lv_icmp_ne (tgt := 73) hx hb dX11_stateOf_68 (by decide +kernel) (fun c_72 => ?_) (fun c_72 => ?_)
            · have dc_72 := c_ne (a := x_71.toInt) (b := 3) rfl (by decide +kernel) c_72
              refine lv_aload_n hx hb dX11_stateOf_73 rfl (lv_at hl 1 rfl) ?_
              refine lv_aload_n hx hb dX11_stateOf_74 rfl (lv_at hl 1 rfl) ?_
              refine va_get (D := (dC, dI)) (ci := 11) (v := .ref (pq 21)) (C := RX11) (T := TX11) (N := 63) hx hb hts in_wsX11_stateOf_X11 hown hK hP 0 rfl rfl 21 (by decide +kernel) (hts (.fieldLink RX11 73 "ShipOfficeModel" "voyage" "[I") iw_X11_stateOf_3) (fun _ h9 => h9) rfl dX11_stateOf_75 ?_
              refine lv_iload_n hx hb dX11_stateOf_78 rfl (lv_at hl 2 rfl) ?_
              refine va_iald hx hb hK hP 22 21 rfl rfl (vp_in_iff.mpr (by omega)) dX11_stateOf_79 ?_
              refine lv_topi (fun x_73 ex_73 => ?_)
              have hx_73 : 0 ≤ x_73.toInt ∧ x_73.toInt ≤ 19 := iv_of ex_73 (gA 21 _)
              clear ex_73
              refine lv_iload_n hx hb dX11_stateOf_80 rfl (lv_at hl 3 rfl) ?_
              refine lv_iload_n hx hb dX11_stateOf_81 rfl (lv_at hl 4 rfl) ?_
              have hFc : ∀ q, va_A [] H.size q → A q := pu_free hS hA
              refine va_calli (va_runV (As := [.int x_73, .int x2, .int x3]) (rest := []) ⟨hx, hb, hml, hown, hts⟩ (c_X11_hasSailed l dC dI H.size g0 pq cp v fa (v 41).toNatClampNeg (cn_le (n := 200) (gV 41)) (cn_eq (n := 200) (gV 41)) (fun i _ => gA 12 i) x_73 x2 x3) (cwV 3 hts gX11_stateOf_X11_hasSailed rfl rfl rfl (by decide +kernel) ⟨(Nat.le_of_ble_eq_true rfl), (Nat.le_of_ble_eq_true rfl)⟩) (pr_V (r := (RX11, TX11, 63)) hP hK hD 0 11 rfl rfl) rfl rfl hl.1 rfl (lv_room (Nat.le_of_ble_eq_true rfl)) dX11_stateOf_82 ⟨(Nat.le_of_ble_eq_true rfl), (Nat.le_of_ble_eq_true rfl)⟩) hS (fun q _ h => hFc q h) hFc (fun r_75 u t H locs ht hvm w_74 hB hz1 hk1 hS => ?_)
              have hP := pu_keep hP hk1
              clear hk1 hz1 hvm hB ht hFc
              have hb_76 : 0 ≤ r_75.toInt ∧ r_75.toInt ≤ 1 := z1_i w_74
              refine lv_if_ne (tgt := 90) hx hb dX11_stateOf_85 (by decide +kernel) (fun c_77 => ?_) (fun c_77 => ?_)
              · have dc_77 := c_ne (a := r_75.toInt) (b := 0) rfl (by decide +kernel) c_77
                refine lv_aload_n hx hb dX11_stateOf_90 rfl (lv_at hl 1 rfl) ?_
                refine lv_aload_n hx hb dX11_stateOf_91 rfl (lv_at hl 1 rfl) ?_
                refine va_get (D := (dC, dI)) (ci := 11) (v := .ref (pq 21)) (C := RX11) (T := TX11) (N := 63) hx hb hts in_wsX11_stateOf_X11 hown hK hP 0 rfl rfl 21 (by decide +kernel) (hts (.fieldLink RX11 73 "ShipOfficeModel" "voyage" "[I") iw_X11_stateOf_3) (fun _ h9 => h9) rfl dX11_stateOf_92 ?_
                refine lv_iload_n hx hb dX11_stateOf_95 rfl (lv_at hl 2 rfl) ?_
                refine va_iald hx hb hK hP 22 21 rfl rfl (vp_in_iff.mpr (by omega)) dX11_stateOf_96 ?_
                refine lv_topi (fun x_78 ex_78 => ?_)
                have hx_78 : 0 ≤ x_78.toInt ∧ x_78.toInt ≤ 19 := iv_of ex_78 (gA 21 _)
                clear ex_78
                refine lv_iload_n hx hb dX11_stateOf_97 rfl (lv_at hl 3 rfl) ?_
                refine lv_iload_n hx hb dX11_stateOf_98 rfl (lv_at hl 4 rfl) ?_
                have hFc := va_free (wc := (mW g0 pq cp v fa)) hD hS hA (List.range 48) rfl
                refine va_calli (va_runV (As := [.int x_78, .int x2, .int x3]) (rest := []) ⟨hx, hb, hml, hown, hts⟩ (c_X11_isUnknown l dC dI H.size g0 pq cp v fa gV gA x_78 x2 x3) (cwV 3 hts gX11_stateOf_X11_isUnknown rfl rfl rfl (by decide +kernel) ⟨(Nat.le_of_ble_eq_true rfl), (Nat.le_of_ble_eq_true rfl)⟩) (pr_V (r := (RX11, TX11, 63)) hP hK hD 0 11 rfl rfl) rfl rfl hl.1 rfl (lv_room (Nat.le_of_ble_eq_true rfl)) dX11_stateOf_99 ⟨(Nat.le_of_ble_eq_true rfl), (Nat.le_of_ble_eq_true rfl)⟩) hS (fun q _ h => hFc q h) hFc (fun r_80 u t H locs ht hvm w_79 hB hz1 hk1 hS => ?_)
                obtain ⟨v_81, fa_82⟩ := u
                obtain ⟨hP1, hK1, hD1⟩ := hB
                rw [ht] at hP1
                have hP : va_P (dC, dI) vwCl (mW g0 pq cp v_81 fa_82) H := hP1
                have hD : va_D A (mW g0 pq cp v_81 fa_82) := hD1.weaken (fun _ _ _ h => hFc _ h)
                clear hP1 hK1 hD1 hk1 hz1 hvm ht hFc
                obtain ⟨hV_83, hA_84, hR_85, hb_86⟩ := w_79
                dsimp only at hV_83 hA_84 hR_85 hb_86
                have R_87 := scr.tr scr.rf hR_85
                refine lv_if_eq (tgt := 109) hx hb dX11_stateOf_102 (by decide +kernel) (fun c_88 => ?_) (fun c_88 => ?_)
                · have dc_88 := c_eq (a := r_80.toInt) (b := 0) rfl (by decide +kernel) c_88
                  refine lv_iconst (v := 1) hx hb dX11_stateOf_109 (by decide +kernel) ?_
                  exact W.iret (v := 1) hx hb hr (fun t ht hW => ⟨⟨1, (v_81, fa_82), rfl, ⟨hV_83, hA_84, R_87, (by decide +kernel), (fun h => absurd h (by decide +kernel))⟩, ⟨by rw [ht]; exact hP, va_K.moved hW.alike hK, hD⟩⟩, hS.F ht⟩) hS.2.2 dX11_stateOf_110
                · have dc_88 := c_ne (a := r_80.toInt) (b := 0) rfl (by decide +kernel) c_88
                  refine lv_iconst (v := 2) hx hb dX11_stateOf_105 (by decide +kernel) ?_
                  refine lv_goto (tgt := 110) hx hb dX11_stateOf_106 (by decide +kernel) ?_
                  exact W.iret (v := 2) hx hb hr (fun t ht hW => ⟨⟨2, (v_81, fa_82), rfl, ⟨hV_83, hA_84, R_87, (by decide +kernel), (fun h => absurd h (by decide +kernel))⟩, ⟨by rw [ht]; exact hP, va_K.moved hW.alike hK, hD⟩⟩, hS.F ht⟩) hS.2.2 dX11_stateOf_110
              · have dc_77 := c_eq (a := r_75.toInt) (b := 0) rfl (by decide +kernel) c_77
                refine lv_iconst (v := 0) hx hb dX11_stateOf_88 (by decide +kernel) ?_
                exact W.iret (v := 0) hx hb hr (fun t ht hW => ⟨⟨0, (v, fa), rfl, ⟨gV, gA, scr.rf, (by decide +kernel), (fun h => absurd h (by decide +kernel))⟩, ⟨by rw [ht]; exact hP, va_K.moved hW.alike hK, hD⟩⟩, hS.F ht⟩) hS.2.2 dX11_stateOf_89
            · have dc_72 := c_eq (a := x_71.toInt) (b := 3) rfl (by decide +kernel) c_72
              refine lv_iconst (v := 3) hx hb dX11_stateOf_71 (by decide +kernel) ?_
              exact W.iret (v := 3) hx hb hr (fun t ht hW => ⟨⟨3, (v, fa), rfl, ⟨gV, gA, scr.rf, (by decide +kernel), (fun _ => hx_53.mpr (by omega))⟩, ⟨by rw [ht]; exact hP, va_K.moved hW.alike hK, hD⟩⟩, hS.F ht⟩) hS.2.2 dX11_stateOf_72
        · have dc_49 := c_nlt (a := x2.toInt) (b := x_48.toInt) rfl rfl c_49
          refine lv_iconst (v := 5) hx hb dX11_stateOf_44 (by decide +kernel) ?_
          exact W.iret (v := 5) hx hb hr (fun t ht hW => ⟨⟨5, (v, fa), rfl, ⟨gV, gA, scr.rf, (by decide +kernel), (fun h => absurd h (by decide +kernel))⟩, ⟨by rw [ht]; exact hP, va_K.moved hW.alike hK, hD⟩⟩, hS.F ht⟩) hS.2.2 dX11_stateOf_45
    · have dc_6 := c_ne (a := r_4.toInt) (b := 0) rfl (by decide +kernel) c_6
      refine lv_iconst (v := 4) hx hb dX11_stateOf_23 (by decide +kernel) ?_
      exact W.iret (v := 4) hx hb hr (fun t ht hW => ⟨⟨4, (v, fa), rfl, ⟨gV, gA, scr.rf, (by decide +kernel), (fun h => absurd h (by decide +kernel))⟩, ⟨by rw [ht]; exact hP, va_K.moved hW.alike hK, hD⟩⟩, hS.F ht⟩) hS.2.2 dX11_stateOf_24
  · have dc_2 := c_nle (a := x_1.toInt) (b := x2.toInt) rfl rfl c_2
    refine lv_bipush (v := (-9)) hx hb dX11_stateOf_10 (by decide +kernel) ?_
    exact W.iret (v := (-9)) hx hb hr (fun t ht hW => ⟨⟨(-9), (v, fa), rfl, ⟨gV, gA, scr.rf, (by decide +kernel), (fun h => absurd h (by decide +kernel))⟩, ⟨by rw [ht]; exact hP, va_K.moved hW.alike hK, hD⟩⟩, hS.F ht⟩) hS.2.2 dX11_stateOf_12
set_option maxHeartbeats 4000000 in
set_option maxRecDepth 100000 in
theorem c_X11_aboardOf (l : Launch) (dC : Nat → ClassId) (dI : Nat → Nat → Nat) (sz : Nat) (g0 : Nat) (pq : Nat → Nat) (cp : Nat → ClassId) (v : Nat → Int32) (fa : Nat → Nat → Int32) (gV : mV v) (gA : mA fa) (x1 : Int32) (x2 : Int32) (x3 : Int32) : Met l yX11_aboardOf wsX11_aboardOf ({ frames := 23, cells := 0, slots := 0, locals := 533 }) (va_Pc [.ref g0, .int x1, .int x2, .int x3] (pcW (dC, dI) (mT cp) (mW g0 pq cp v fa) sz)) (va_Qi (fun (r : Int32) (u : (Nat → Int32) × (Nat → Nat → Int32)) => mV u.1 ∧ mA u.2 ∧ scr v fa u.1 u.2 ∧ (0 ≤ r.toInt ∧ r.toInt ≤ 60)) (fun u t => va_P (dC, dI) vwCl (mW g0 pq cp u.1 u.2) t.heap ∧ va_K (dC, dI) vwCl (mT cp) t ∧ va_D (va_A (mW g0 pq cp v fa) sz) (mW g0 pq cp u.1 u.2)) (va_A (mW g0 pq cp v fa) sz)) 0 0 (va_A (mW g0 pq cp v fa) sz) := by
  refine Met.ofW (cc := cX11_aboardOf) (maxL := 6) (ret := (some .int)) (by decide +kernel) rfl ?_
  intro p e s m args below meth c s₁ B hml hv
  obtain ⟨rfl, hsz, hP, hK, hD0⟩ := hv
  have hx := B.exec
  have hb := B.bytes
  have hr := B.returns
  have hts := atoms_spec (ws := wsX11_aboardOf) B.pre
  have hown : s.vm.findClass RX11 = some m.cls := findClass_of_methodNamed B.named
  have hlocks := B.notSynchronized
  subst hsz
  have hD := hD0.self (sz := s.heap.size)
  generalize hAe : va_A (mW g0 pq cp v fa) s.heap.size = A at hD ⊢
  have hA : ∀ q : Nat, s.heap.size ≤ q → A q := fun q h => by rw [← hAe]; exact Or.inr h
  have hS : va_S A s.heap s.heap [] := va_S.rf
  have hP : va_P (dC, dI) vwCl (mW g0 pq cp v fa) s.heap := hP
  have hl := lv_entry ([.ref g0, .int x1, .int x2, .int x3]) (n := 6) (Nat.le_of_ble_eq_true rfl)
  rw [lg_entry_eq]
  generalize (lg_sl ([.ref g0, .int x1, .int x2, .int x3]) ++ List.replicate (6 - (lg_sl ([.ref g0, .int x1, .int x2, .int x3])).length) Slot.unset).toArray = ls at hl ⊢
  have hl : lv_has ls 6 [(0, .ref g0), (1, .int x1), (2, .int x2), (3, .int x3)] := hl
  refine lv_iconst (v := 0) hx hb dX11_aboardOf_0 (by decide +kernel) ?_
  refine lv_istore (lv' := [(4, .int 0), (0, .ref g0), (1, .int x1), (2, .int x2), (3, .int x3)]) hx hb dX11_aboardOf_1 hl (by decide +kernel) rfl (fun ls hl => ?_)
  refine lv_iconst (v := 0) hx hb dX11_aboardOf_3 (by decide +kernel) ?_
  refine lv_istore (lv' := [(5, .int 0), (4, .int 0), (0, .ref g0), (1, .int x1), (2, .int x2), (3, .int x3)]) hx hb dX11_aboardOf_4 hl (by decide +kernel) rfl (fun ls hl => ?_)
  have cut_1 : ∀ (n : Nat) (y_2 : Int32) (y_3 : Int32) (z_4 : Nat → Int32) (fz_5 : Nat → Nat → Int32) (H : Heap) (locs : List Loc) (ls : Array Slot), 60 - y_2.toInt ≤ (n : Int) → (0 ≤ y_2.toInt ∧ y_2.toInt ≤ 60) → (0 ≤ y_3.toInt ∧ y_3.toInt ≤ 60) → y_3.toInt ≤ y_2.toInt → mV z_4 → mA fz_5 → scr v fa z_4 fz_5 → va_P (dC, dI) vwCl (mW g0 pq cp z_4 fz_5) H → va_D A (mW g0 pq cp z_4 fz_5) → va_S A s.heap H locs → lv_has ls 6 [(5, .int y_2), (4, .int y_3), (0, .ref g0), (1, .int x1), (2, .int x2), (3, .int x3)] → W p l e (headSpec wsX11_aboardOf { frames := 23, cells := 0, slots := 0, locals := 533 }).room s m #[Value.ref g0, Value.int x1, Value.int x2, Value.int x3] below meth c H locs 0 0 (MQ below (va_Qi (fun (r : Int32) (u : (Nat → Int32) × (Nat → Nat → Int32)) => mV u.1 ∧ mA u.2 ∧ scr v fa u.1 u.2 ∧ (0 ≤ r.toInt ∧ r.toInt ≤ 60)) (fun u t => va_P (dC, dI) vwCl (mW g0 pq cp u.1 u.2) t.heap ∧ va_K (dC, dI) vwCl (mT cp) t ∧ va_D A (mW g0 pq cp u.1 u.2)) A) #[Value.ref g0, Value.int x1, Value.int x2, Value.int x3] s 0 0 A) (F0 m 6 ls []) := by
    intro n
    induction n using Nat.strongRecOn with
    | ind n ih =>
      intro y_2 y_3 z_4 fz_5 H locs ls hm hy_2 hy_3 hq0_cut_1 hVz_4 hAz_4 hRz_4 hP hD hS hl
      refine lv_iload hx hb dX11_aboardOf_6 (lv_at hl 0 rfl) ?_
      refine lv_aload_n hx hb dX11_aboardOf_8 rfl (lv_at hl 2 rfl) ?_
      refine va_get (D := (dC, dI)) (ci := 11) (v := .int (z_4 43)) (C := RX11) (T := TX11) (N := 63) hx hb hts in_wsX11_aboardOf_X11 hown hK hP 0 rfl rfl 43 (by decide +kernel) (hts (.fieldLink RX11 168 "ShipOfficeModel" "agreements" "I") iw_X11_aboardOf_1) (fun _ h9 => h9) rfl dX11_aboardOf_9 ?_
      refine lv_topi (fun x_6 ex_6 => ?_)
      have hx_6 : 0 ≤ x_6.toInt ∧ x_6.toInt ≤ 60 := iv_of ex_6 (hVz_4 43)
      clear ex_6
      refine lv_icmp_ge (tgt := 54) hx hb dX11_aboardOf_12 (by decide +kernel) (fun c_7 => ?_) (fun c_7 => ?_)
      · have dc_7 := c_le (a := x_6.toInt) (b := y_2.toInt) rfl rfl c_7
        refine lv_iload hx hb dX11_aboardOf_54 (lv_at hl 1 rfl) ?_
        exact W.iret (v := y_3) hx hb hr (fun t ht hW => ⟨⟨y_3, (z_4, fz_5), rfl, ⟨hVz_4, hAz_4, hRz_4, (by omega)⟩, ⟨by rw [ht]; exact hP, va_K.moved hW.alike hK, hD⟩⟩, hS.F ht⟩) hS.2.2 dX11_aboardOf_56
      · have dc_7 := c_nle (a := x_6.toInt) (b := y_2.toInt) rfl rfl c_7
        refine lv_iload hx hb dX11_aboardOf_15 (lv_at hl 1 rfl) ?_
        refine lv_aload_n hx hb dX11_aboardOf_17 rfl (lv_at hl 2 rfl) ?_
        refine va_get (D := (dC, dI)) (ci := 11) (v := .ref (pq 21)) (C := RX11) (T := TX11) (N := 63) hx hb hts in_wsX11_aboardOf_X11 hown hK hP 0 rfl rfl 21 (by decide +kernel) (hts (.fieldLink RX11 73 "ShipOfficeModel" "voyage" "[I") iw_X11_aboardOf_2) (fun _ h9 => h9) rfl dX11_aboardOf_18 ?_
        refine lv_iload hx hb dX11_aboardOf_21 (lv_at hl 0 rfl) ?_
        refine va_iald hx hb hK hP 22 21 rfl rfl (vp_in_iff.mpr (by omega)) dX11_aboardOf_23 ?_
        refine lv_topi (fun x_8 ex_8 => ?_)
        have hx_8 : 0 ≤ x_8.toInt ∧ x_8.toInt ≤ 19 := iv_of ex_8 (hAz_4 21 _)
        clear ex_8
        refine lv_iload_n hx hb dX11_aboardOf_24 rfl (lv_at hl 3 rfl) ?_
        refine lv_icmp_ne (tgt := 44) hx hb dX11_aboardOf_25 (by decide +kernel) (fun c_9 => ?_) (fun c_9 => ?_)
        · have dc_9 := c_ne (a := x_8.toInt) (b := x1.toInt) rfl rfl c_9
          refine lv_iconst (v := 0) hx hb dX11_aboardOf_44 (by decide +kernel) ?_
          refine lv_iadd hx hb dX11_aboardOf_45 ?_
          refine lv_topi (fun x_10 ex_10 => ?_)
          have hx_10 : x_10.toInt = y_3.toInt + 0 := (iv_to ex_10).trans (ad_i rfl (by decide +kernel) (by omega) (by omega))
          clear ex_10
          refine lv_istore (lv' := [(4, .int x_10), (5, .int y_2), (0, .ref g0), (1, .int x1), (2, .int x2), (3, .int x3)]) hx hb dX11_aboardOf_46 hl (by decide +kernel) rfl (fun ls hl => ?_)
          obtain ⟨x_11, ex_11⟩ : ∃ zq : Int32, y_2 + 1 = zq := ⟨_, rfl⟩
          have hx_11 : x_11.toInt = y_2.toInt + 1 := (iv_to ex_11).symm.trans (ad_i rfl (by decide +kernel) (by omega) (by omega))
          refine lv_iinc (v := x_11) (lv' := [(5, .int x_11), (4, .int x_10), (0, .ref g0), (1, .int x1), (2, .int x2), (3, .int x3)]) hx hb dX11_aboardOf_48 hl (k := 1) rfl ex_11 (by decide +kernel) rfl (fun ls hl => ?_)
          clear ex_11
          refine lv_goto (tgt := 6) hx hb dX11_aboardOf_51 (by decide +kernel) ?_
          exact ih (n - 1) (by omega) x_11 x_10 z_4 fz_5 _ _ ls (by omega) (by omega) (by omega) (by omega) hVz_4 hAz_4 hRz_4 hP hD hS (lv_sub hl [0, 1, 2, 3, 4, 5] rfl)
        · have dc_9 := c_eq (a := x_8.toInt) (b := x1.toInt) rfl rfl c_9
          refine lv_aload_n hx hb dX11_aboardOf_28 rfl (lv_at hl 2 rfl) ?_
          refine lv_iload hx hb dX11_aboardOf_29 (lv_at hl 0 rfl) ?_
          refine lv_iload_n hx hb dX11_aboardOf_31 rfl (lv_at hl 4 rfl) ?_
          refine lv_iload_n hx hb dX11_aboardOf_32 rfl (lv_at hl 5 rfl) ?_
          have hFc := va_free (wc := (mW g0 pq cp z_4 fz_5)) hD hS hA (List.range 48) rfl
          refine va_calli (va_runV (As := [.int y_2, .int x2, .int x3]) (rest := [.int y_3]) ⟨hx, hb, hml, hown, hts⟩ (c_X11_stateOf l dC dI H.size g0 pq cp z_4 fz_5 hVz_4 hAz_4 y_2 (by omega) x2 x3) (cwV 3 hts gX11_aboardOf_X11_stateOf rfl rfl rfl (by decide +kernel) ⟨(Nat.le_of_ble_eq_true rfl), (Nat.le_of_ble_eq_true rfl)⟩) (pr_V (r := (RX11, TX11, 63)) hP hK hD 0 11 rfl rfl) rfl rfl hl.1 rfl (lv_room (Nat.le_of_ble_eq_true rfl)) dX11_aboardOf_33 ⟨(Nat.le_of_ble_eq_true rfl), (Nat.le_of_ble_eq_true rfl)⟩) hS (fun q _ h => hFc q h) hFc (fun r_13 u t H locs ht hvm w_12 hB hz1 hk1 hS => ?_)
          obtain ⟨v_14, fa_15⟩ := u
          obtain ⟨hP1, hK1, hD1⟩ := hB
          rw [ht] at hP1
          have hP : va_P (dC, dI) vwCl (mW g0 pq cp v_14 fa_15) H := hP1
          have hD : va_D A (mW g0 pq cp v_14 fa_15) := hD1.weaken (fun _ _ _ h => hFc _ h)
          clear hP1 hK1 hD1 hk1 hz1 hvm ht hFc
          obtain ⟨hV_16, hA_17, hR_18, hb_19, hx_20⟩ := w_12
          dsimp only at hV_16 hA_17 hR_18 hb_19 hx_20
          have R_21 := scr.tr hRz_4 hR_18
          refine lv_iconst (v := 1) hx hb dX11_aboardOf_36 (by decide +kernel) ?_
          refine lv_icmp_ne (tgt := 44) hx hb dX11_aboardOf_37 (by decide +kernel) (fun c_22 => ?_) (fun c_22 => ?_)
          · have dc_22 := c_ne (a := r_13.toInt) (b := 1) rfl (by decide +kernel) c_22
            refine lv_iconst (v := 0) hx hb dX11_aboardOf_44 (by decide +kernel) ?_
            refine lv_iadd hx hb dX11_aboardOf_45 ?_
            refine lv_topi (fun x_23 ex_23 => ?_)
            have hx_23 : x_23.toInt = y_3.toInt + 0 := (iv_to ex_23).trans (ad_i rfl (by decide +kernel) (by omega) (by omega))
            clear ex_23
            refine lv_istore (lv' := [(4, .int x_23), (5, .int y_2), (0, .ref g0), (1, .int x1), (2, .int x2), (3, .int x3)]) hx hb dX11_aboardOf_46 hl (by decide +kernel) rfl (fun ls hl => ?_)
            obtain ⟨x_24, ex_24⟩ : ∃ zq : Int32, y_2 + 1 = zq := ⟨_, rfl⟩
            have hx_24 : x_24.toInt = y_2.toInt + 1 := (iv_to ex_24).symm.trans (ad_i rfl (by decide +kernel) (by omega) (by omega))
            refine lv_iinc (v := x_24) (lv' := [(5, .int x_24), (4, .int x_23), (0, .ref g0), (1, .int x1), (2, .int x2), (3, .int x3)]) hx hb dX11_aboardOf_48 hl (k := 1) rfl ex_24 (by decide +kernel) rfl (fun ls hl => ?_)
            clear ex_24
            refine lv_goto (tgt := 6) hx hb dX11_aboardOf_51 (by decide +kernel) ?_
            exact ih (n - 1) (by omega) x_24 x_23 v_14 fa_15 _ _ ls (by omega) (by omega) (by omega) (by omega) hV_16 hA_17 R_21 hP hD hS (lv_sub hl [0, 1, 2, 3, 4, 5] rfl)
          · have dc_22 := c_eq (a := r_13.toInt) (b := 1) rfl (by decide +kernel) c_22
            refine lv_iconst (v := 1) hx hb dX11_aboardOf_40 (by decide +kernel) ?_
            refine lv_goto (tgt := 45) hx hb dX11_aboardOf_41 (by decide +kernel) ?_
            refine lv_iadd hx hb dX11_aboardOf_45 ?_
            refine lv_topi (fun x_25 ex_25 => ?_)
            have hx_25 : x_25.toInt = y_3.toInt + 1 := (iv_to ex_25).trans (ad_i rfl (by decide +kernel) (by omega) (by omega))
            clear ex_25
            refine lv_istore (lv' := [(4, .int x_25), (5, .int y_2), (0, .ref g0), (1, .int x1), (2, .int x2), (3, .int x3)]) hx hb dX11_aboardOf_46 hl (by decide +kernel) rfl (fun ls hl => ?_)
            obtain ⟨x_26, ex_26⟩ : ∃ zq : Int32, y_2 + 1 = zq := ⟨_, rfl⟩
            have hx_26 : x_26.toInt = y_2.toInt + 1 := (iv_to ex_26).symm.trans (ad_i rfl (by decide +kernel) (by omega) (by omega))
            refine lv_iinc (v := x_26) (lv' := [(5, .int x_26), (4, .int x_25), (0, .ref g0), (1, .int x1), (2, .int x2), (3, .int x3)]) hx hb dX11_aboardOf_48 hl (k := 1) rfl ex_26 (by decide +kernel) rfl (fun ls hl => ?_)
            clear ex_26
            refine lv_goto (tgt := 6) hx hb dX11_aboardOf_51 (by decide +kernel) ?_
            exact ih (n - 1) (by omega) x_26 x_25 v_14 fa_15 _ _ ls (by omega) (by omega) (by omega) (by omega) hV_16 hA_17 R_21 hP hD hS (lv_sub hl [0, 1, 2, 3, 4, 5] rfl)
  have kc_27 : (0 : Int32).toInt = 0 := by decide
  exact cut_1 61 0 0 v fa _ _ ls (by omega) (by decide +kernel) (by decide +kernel) (by decide +kernel) gV gA scr.rf hP hD hS (lv_sub hl [0, 1, 2, 3, 4, 5] rfl)
set_option maxHeartbeats 4000000 in
set_option maxRecDepth 100000 in
theorem c_X11_earnsOf (l : Launch) (dC : Nat → ClassId) (dI : Nat → Nat → Nat) (sz : Nat) (g0 : Nat) (pq : Nat → Nat) (cp : Nat → ClassId) (v : Nat → Int32) (fa : Nat → Nat → Int32) (gV : mV v) (gA : mA fa) (x1 : Int32) (hx1 : 0 ≤ x1.toInt ∧ x1.toInt ≤ 59) (x2 : Int32) (hx2 : 0 ≤ x2.toInt ∧ x2.toInt ≤ 3000) (x3 : Int32) : Met l yX11_earnsOf wsX11_earnsOf ({ frames := 23, cells := 0, slots := 0, locals := 533 }) (va_Pc [.ref g0, .int x1, .int x2, .int x3] (pcW (dC, dI) (mT cp) (mW g0 pq cp v fa) sz)) (va_Qi (fun (r : Int32) (u : (Nat → Int32) × (Nat → Nat → Int32)) => mV u.1 ∧ mA u.2 ∧ scr v fa u.1 u.2) (fun u t => va_P (dC, dI) vwCl (mW g0 pq cp u.1 u.2) t.heap ∧ va_K (dC, dI) vwCl (mT cp) t ∧ va_D (va_A (mW g0 pq cp v fa) sz) (mW g0 pq cp u.1 u.2)) (va_A (mW g0 pq cp v fa) sz)) 0 0 (va_A (mW g0 pq cp v fa) sz) := by
  refine Met.ofW (cc := cX11_earnsOf) (maxL := 7) (ret := (some .int)) (by decide +kernel) rfl ?_
  intro p e s m args below meth c s₁ B hml hv
  obtain ⟨rfl, hsz, hP, hK, hD0⟩ := hv
  have hx := B.exec
  have hb := B.bytes
  have hr := B.returns
  have hts := atoms_spec (ws := wsX11_earnsOf) B.pre
  have hown : s.vm.findClass RX11 = some m.cls := findClass_of_methodNamed B.named
  have hlocks := B.notSynchronized
  subst hsz
  have hD := hD0.self (sz := s.heap.size)
  generalize hAe : va_A (mW g0 pq cp v fa) s.heap.size = A at hD ⊢
  have hA : ∀ q : Nat, s.heap.size ≤ q → A q := fun q h => by rw [← hAe]; exact Or.inr h
  have hS : va_S A s.heap s.heap [] := va_S.rf
  have hP : va_P (dC, dI) vwCl (mW g0 pq cp v fa) s.heap := hP
  have hl := lv_entry ([.ref g0, .int x1, .int x2, .int x3]) (n := 7) (Nat.le_of_ble_eq_true rfl)
  rw [lg_entry_eq]
  generalize (lg_sl ([.ref g0, .int x1, .int x2, .int x3]) ++ List.replicate (7 - (lg_sl ([.ref g0, .int x1, .int x2, .int x3])).length) Slot.unset).toArray = ls at hl ⊢
  have hl : lv_has ls 7 [(0, .ref g0), (1, .int x1), (2, .int x2), (3, .int x3)] := hl
  refine lv_aload_n hx hb dX11_earnsOf_0 rfl (lv_at hl 0 rfl) ?_
  refine lv_iload_n hx hb dX11_earnsOf_1 rfl (lv_at hl 1 rfl) ?_
  refine lv_iload_n hx hb dX11_earnsOf_2 rfl (lv_at hl 2 rfl) ?_
  refine lv_iload_n hx hb dX11_earnsOf_3 rfl (lv_at hl 3 rfl) ?_
  have hFc := va_free (wc := (mW g0 pq cp v fa)) hD hS hA (List.range 48) rfl
  refine va_calli (va_runV (As := [.int x1, .int x2, .int x3]) (rest := []) ⟨hx, hb, hml, hown, hts⟩ (c_X11_stateOf l dC dI s.heap.size g0 pq cp v fa gV gA x1 (by omega) x2 x3) (cwV 3 hts gX11_earnsOf_X11_stateOf rfl rfl rfl (by decide +kernel) ⟨(Nat.le_of_ble_eq_true rfl), (Nat.le_of_ble_eq_true rfl)⟩) (pr_V (r := (RX11, TX11, 63)) hP hK hD 0 11 rfl rfl) rfl rfl hl.1 rfl (lv_room (Nat.le_of_ble_eq_true rfl)) dX11_earnsOf_4 ⟨(Nat.le_of_ble_eq_true rfl), (Nat.le_of_ble_eq_true rfl)⟩) hS (fun q _ h => hFc q h) hFc (fun r_2 u t H locs ht hvm w_1 hB hz1 hk1 hS => ?_)
  obtain ⟨v_3, fa_4⟩ := u
  obtain ⟨hP1, hK1, hD1⟩ := hB
  rw [ht] at hP1
  have hP : va_P (dC, dI) vwCl (mW g0 pq cp v_3 fa_4) H := hP1
  have hD : va_D A (mW g0 pq cp v_3 fa_4) := hD1.weaken (fun _ _ _ h => hFc _ h)
  clear hP1 hK1 hD1 hk1 hz1 hvm ht hFc
  obtain ⟨hV_5, hA_6, hR_7, hb_8, hx_9⟩ := w_1
  dsimp only at hV_5 hA_6 hR_7 hb_8 hx_9
  have R_10 := scr.tr scr.rf hR_7
  refine lv_iconst (v := 2) hx hb dX11_earnsOf_7 (by decide +kernel) ?_
  refine lv_icmp_ne (tgt := 26) hx hb dX11_earnsOf_8 (by decide +kernel) (fun c_11 => ?_) (fun c_11 => ?_)
  · have dc_11 := c_ne (a := r_2.toInt) (b := 2) rfl (by decide +kernel) c_11
    refine lv_iload_n hx hb dX11_earnsOf_26 rfl (lv_at hl 2 rfl) ?_
    refine lv_istore (lv' := [(4, .int x2), (0, .ref g0), (1, .int x1), (2, .int x2), (3, .int x3)]) hx hb dX11_earnsOf_27 hl (by decide +kernel) rfl (fun ls hl => ?_)
    refine lv_iconst (v := 0) hx hb dX11_earnsOf_29 (by decide +kernel) ?_
    refine lv_istore (lv' := [(5, .int 0), (4, .int x2), (0, .ref g0), (1, .int x1), (2, .int x2), (3, .int x3)]) hx hb dX11_earnsOf_30 hl (by decide +kernel) rfl (fun ls hl => ?_)
    refine lv_aload_n hx hb dX11_earnsOf_32 rfl (lv_at hl 2 rfl) ?_
    refine va_get (D := (dC, dI)) (ci := 11) (v := .ref (pq 25)) (C := RX11) (T := TX11) (N := 63) hx hb hts in_wsX11_earnsOf_X11 hown hK hP 0 rfl rfl 25 (by decide +kernel) (hts (.fieldLink RX11 85 "ShipOfficeModel" "signed" "[I") iw_X11_earnsOf_1) (fun _ h9 => h9) rfl dX11_earnsOf_33 ?_
    refine lv_iload_n hx hb dX11_earnsOf_36 rfl (lv_at hl 3 rfl) ?_
    refine va_iald hx hb hK hP 26 25 rfl rfl (vp_in_iff.mpr (by omega)) dX11_earnsOf_37 ?_
    refine lv_topi (fun x_12 ex_12 => ?_)
    have hx_12 : 0 ≤ x_12.toInt ∧ x_12.toInt ≤ 3000 := iv_of ex_12 (hA_6 25 _)
    clear ex_12
    refine lv_istore (lv' := [(6, .int x_12), (5, .int 0), (4, .int x2), (0, .ref g0), (1, .int x1), (2, .int x2), (3, .int x3)]) hx hb dX11_earnsOf_38 hl (by decide +kernel) rfl (fun ls hl => ?_)
    have cut_13 : ∀ (n : Nat) (y_14 : Int32) (y_15 : Int32) (z_16 : Nat → Int32) (fz_17 : Nat → Nat → Int32) (H : Heap) (locs : List Loc) (ls : Array Slot), 3001 - y_14.toInt ≤ (n : Int) → (0 ≤ y_14.toInt ∧ y_14.toInt ≤ 3001) → mV z_16 → mA fz_17 → scr v fa z_16 fz_17 → va_P (dC, dI) vwCl (mW g0 pq cp z_16 fz_17) H → va_D A (mW g0 pq cp z_16 fz_17) → va_S A s.heap H locs → lv_has ls 7 [(6, .int y_14), (5, .int y_15), (4, .int x2), (0, .ref g0), (1, .int x1), (2, .int x2), (3, .int x3)] → W p l e (headSpec wsX11_earnsOf { frames := 23, cells := 0, slots := 0, locals := 533 }).room s m #[Value.ref g0, Value.int x1, Value.int x2, Value.int x3] below meth c H locs 0 0 (MQ below (va_Qi (fun (r : Int32) (u : (Nat → Int32) × (Nat → Nat → Int32)) => mV u.1 ∧ mA u.2 ∧ scr v fa u.1 u.2) (fun u t => va_P (dC, dI) vwCl (mW g0 pq cp u.1 u.2) t.heap ∧ va_K (dC, dI) vwCl (mT cp) t ∧ va_D A (mW g0 pq cp u.1 u.2)) A) #[Value.ref g0, Value.int x1, Value.int x2, Value.int x3] s 0 0 A) (F0 m 40 ls []) := by
      intro n
      induction n using Nat.strongRecOn with
      | ind n ih =>
        intro y_14 y_15 z_16 fz_17 H locs ls hm hy_14 hVz_16 hAz_16 hRz_16 hP hD hS hl
        refine lv_iload hx hb dX11_earnsOf_40 (lv_at hl 0 rfl) ?_
        refine lv_iload hx hb dX11_earnsOf_42 (lv_at hl 2 rfl) ?_
        refine lv_icmp_gt (tgt := 78) hx hb dX11_earnsOf_44 (by decide +kernel) (fun c_18 => ?_) (fun c_18 => ?_)
        · have dc_18 := c_lt (a := x2.toInt) (b := y_14.toInt) rfl rfl c_18
          refine lv_iload hx hb dX11_earnsOf_78 (lv_at hl 1 rfl) ?_
          exact W.iret (v := y_15) hx hb hr (fun t ht hW => ⟨⟨y_15, (z_16, fz_17), rfl, ⟨hVz_16, hAz_16, hRz_16⟩, ⟨by rw [ht]; exact hP, va_K.moved hW.alike hK, hD⟩⟩, hS.F ht⟩) hS.2.2 dX11_earnsOf_80
        · have dc_18 := c_nlt (a := x2.toInt) (b := y_14.toInt) rfl rfl c_18
          refine lv_iload hx hb dX11_earnsOf_47 (lv_at hl 1 rfl) ?_
          refine lv_aload_n hx hb dX11_earnsOf_49 rfl (lv_at hl 3 rfl) ?_
          refine lv_iload_n hx hb dX11_earnsOf_50 rfl (lv_at hl 4 rfl) ?_
          refine lv_iload hx hb dX11_earnsOf_51 (lv_at hl 0 rfl) ?_
          refine lv_iload_n hx hb dX11_earnsOf_53 rfl (lv_at hl 6 rfl) ?_
          have hFc := va_free (wc := (mW g0 pq cp z_16 fz_17)) hD hS hA (List.range 48) rfl
          refine va_calli (va_runV (As := [.int x1, .int y_14, .int x3]) (rest := [.int y_15]) ⟨hx, hb, hml, hown, hts⟩ (c_X11_stateOf l dC dI H.size g0 pq cp z_16 fz_17 hVz_16 hAz_16 x1 (by omega) y_14 x3) (cwV 3 hts gX11_earnsOf_X11_stateOf rfl rfl rfl (by decide +kernel) ⟨(Nat.le_of_ble_eq_true rfl), (Nat.le_of_ble_eq_true rfl)⟩) (pr_V (r := (RX11, TX11, 63)) hP hK hD 0 11 rfl rfl) rfl rfl hl.1 rfl (lv_room (Nat.le_of_ble_eq_true rfl)) dX11_earnsOf_54 ⟨(Nat.le_of_ble_eq_true rfl), (Nat.le_of_ble_eq_true rfl)⟩) hS (fun q _ h => hFc q h) hFc (fun r_20 u t H locs ht hvm w_19 hB hz1 hk1 hS => ?_)
          obtain ⟨v_21, fa_22⟩ := u
          obtain ⟨hP1, hK1, hD1⟩ := hB
          rw [ht] at hP1
          have hP : va_P (dC, dI) vwCl (mW g0 pq cp v_21 fa_22) H := hP1
          have hD : va_D A (mW g0 pq cp v_21 fa_22) := hD1.weaken (fun _ _ _ h => hFc _ h)
          clear hP1 hK1 hD1 hk1 hz1 hvm ht hFc
          obtain ⟨hV_23, hA_24, hR_25, hb_26, hx_27⟩ := w_19
          dsimp only at hV_23 hA_24 hR_25 hb_26 hx_27
          have R_28 := scr.tr hRz_16 hR_25
          refine lv_iconst (v := 3) hx hb dX11_earnsOf_57 (by decide +kernel) ?_
          have hFc : ∀ q, va_A [] H.size q → A q := pu_free hS hA
          have hPc := hP.sub (ws' := []) [] rfl
          have hDc := hD.sub (ws' := []) [] (by decide +kernel) rfl
          have hKc := hK.sub (tys' := []) [] rfl
          refine va_calli (va_runS (As := [.int r_20, .int 3]) (rest := [.int y_15]) ⟨hx, hb, hml, hown, hts⟩ (c_X11_isIn l dC dI H.size r_20 3) (va_cwS 2 hts gX11_earnsOf_X11_isIn rfl rfl rfl (by decide +kernel) ⟨(Nat.le_of_ble_eq_true rfl), (Nat.le_of_ble_eq_true rfl)⟩) (pr_S hPc hKc hDc) rfl rfl hl.1 rfl (lv_room (Nat.le_of_ble_eq_true rfl)) dX11_earnsOf_58 ⟨(Nat.le_of_ble_eq_true rfl), (Nat.le_of_ble_eq_true rfl)⟩) hS (fun q _ h => hFc q h) hFc (fun r_30 u t H locs ht hvm w_29 hB hz1 hk1 hS => ?_)
          have hP := pu_keep hP hk1
          clear hk1 hz1 hvm hB ht hFc hPc hDc hKc
          have hbr_30 : 0 ≤ r_30.toInt ∧ r_30.toInt ≤ 1 := iv_of w_29 (isI_i _ _)
          refine lv_if_eq (tgt := 68) hx hb dX11_earnsOf_61 (by decide +kernel) (fun c_31 => ?_) (fun c_31 => ?_)
          · have dc_31 := c_eq (a := r_30.toInt) (b := 0) rfl (by decide +kernel) c_31
            refine lv_iconst (v := 0) hx hb dX11_earnsOf_68 (by decide +kernel) ?_
            refine lv_iadd hx hb dX11_earnsOf_69 ?_
            refine lv_topi (fun x_32 ex_32 => ?_)
            clear ex_32
            refine lv_istore (lv' := [(5, .int x_32), (6, .int y_14), (4, .int x2), (0, .ref g0), (1, .int x1), (2, .int x2), (3, .int x3)]) hx hb dX11_earnsOf_70 hl (by decide +kernel) rfl (fun ls hl => ?_)
            obtain ⟨x_33, ex_33⟩ : ∃ zq : Int32, y_14 + 1 = zq := ⟨_, rfl⟩
            have hx_33 : x_33.toInt = y_14.toInt + 1 := (iv_to ex_33).symm.trans (ad_i rfl (by decide +kernel) (by omega) (by omega))
            refine lv_iinc (v := x_33) (lv' := [(6, .int x_33), (5, .int x_32), (4, .int x2), (0, .ref g0), (1, .int x1), (2, .int x2), (3, .int x3)]) hx hb dX11_earnsOf_72 hl (k := 1) rfl ex_33 (by decide +kernel) rfl (fun ls hl => ?_)
            clear ex_33
            refine lv_goto (tgt := 40) hx hb dX11_earnsOf_75 (by decide +kernel) ?_
            exact ih (n - 1) (by omega) x_33 x_32 v_21 fa_22 _ _ ls (by omega) (by omega) hV_23 hA_24 R_28 hP hD hS (lv_sub hl [0, 1, 2, 3, 4, 5, 6] rfl)
          · have dc_31 := c_ne (a := r_30.toInt) (b := 0) rfl (by decide +kernel) c_31
            have hi_34 := isI_t w_29 (fun q => c_31 (Int32.toInt_inj.mp q))
            have khi_34 : (3 : Int32).toInt = 3 := by decide
            refine lv_iconst (v := 1) hx hb dX11_earnsOf_64 (by decide +kernel) ?_
            refine lv_goto (tgt := 69) hx hb dX11_earnsOf_65 (by decide +kernel) ?_
            refine lv_iadd hx hb dX11_earnsOf_69 ?_
            refine lv_topi (fun x_35 ex_35 => ?_)
            clear ex_35
            refine lv_istore (lv' := [(5, .int x_35), (6, .int y_14), (4, .int x2), (0, .ref g0), (1, .int x1), (2, .int x2), (3, .int x3)]) hx hb dX11_earnsOf_70 hl (by decide +kernel) rfl (fun ls hl => ?_)
            obtain ⟨x_36, ex_36⟩ : ∃ zq : Int32, y_14 + 1 = zq := ⟨_, rfl⟩
            have hx_36 : x_36.toInt = y_14.toInt + 1 := (iv_to ex_36).symm.trans (ad_i rfl (by decide +kernel) (by omega) (by omega))
            refine lv_iinc (v := x_36) (lv' := [(6, .int x_36), (5, .int x_35), (4, .int x2), (0, .ref g0), (1, .int x1), (2, .int x2), (3, .int x3)]) hx hb dX11_earnsOf_72 hl (k := 1) rfl ex_36 (by decide +kernel) rfl (fun ls hl => ?_)
            clear ex_36
            refine lv_goto (tgt := 40) hx hb dX11_earnsOf_75 (by decide +kernel) ?_
            exact ih (n - 1) (by omega) x_36 x_35 v_21 fa_22 _ _ ls (by omega) (by omega) hV_23 hA_24 R_28 hP hD hS (lv_sub hl [0, 1, 2, 3, 4, 5, 6] rfl)
    have kc_37 : (0 : Int32).toInt = 0 := by decide
    exact cut_13 3002 x_12 0 v_3 fa_4 _ _ ls (by omega) (by omega) hV_5 hA_6 R_10 hP hD hS (lv_sub hl [0, 1, 2, 3, 4, 5, 6] rfl)
  · have dc_11 := c_eq (a := r_2.toInt) (b := 2) rfl (by decide +kernel) c_11
    refine lv_aload_n hx hb dX11_earnsOf_11 rfl (lv_at hl 0 rfl) ?_
    refine lv_aload_n hx hb dX11_earnsOf_12 rfl (lv_at hl 0 rfl) ?_
    refine va_get (D := (dC, dI)) (ci := 11) (v := .ref (pq 21)) (C := RX11) (T := TX11) (N := 63) hx hb hts in_wsX11_earnsOf_X11 hown hK hP 0 rfl rfl 21 (by decide +kernel) (hts (.fieldLink RX11 73 "ShipOfficeModel" "voyage" "[I") iw_X11_earnsOf_2) (fun _ h9 => h9) rfl dX11_earnsOf_13 ?_
    refine lv_iload_n hx hb dX11_earnsOf_16 rfl (lv_at hl 1 rfl) ?_
    refine va_iald hx hb hK hP 22 21 rfl rfl (vp_in_iff.mpr (by omega)) dX11_earnsOf_17 ?_
    refine lv_topi (fun x_38 ex_38 => ?_)
    have hx_38 : 0 ≤ x_38.toInt ∧ x_38.toInt ≤ 19 := iv_of ex_38 (hA_6 21 _)
    clear ex_38
    refine lv_iload_n hx hb dX11_earnsOf_18 rfl (lv_at hl 2 rfl) ?_
    refine lv_iload_n hx hb dX11_earnsOf_19 rfl (lv_at hl 3 rfl) ?_
    have hFc : ∀ q, va_A [] H.size q → A q := pu_free hS hA
    refine va_calli (va_runV (As := [.int x_38, .int x2, .int x3]) (rest := []) ⟨hx, hb, hml, hown, hts⟩ (c_X11_lastHeard l dC dI H.size g0 pq cp v_3 fa_4 (v_3 41).toNatClampNeg (cn_le (n := 200) (hV_5 41)) (cn_eq (n := 200) (hV_5 41)) (fun i _ => hA_6 12 i) x_38 x2 x3) (cwV 3 hts gX11_earnsOf_X11_lastHeard rfl rfl rfl (by decide +kernel) ⟨(Nat.le_of_ble_eq_true rfl), (Nat.le_of_ble_eq_true rfl)⟩) (pr_V (r := (RX11, TX11, 63)) hP hK hD 0 11 rfl rfl) rfl rfl hl.1 rfl (lv_room (Nat.le_of_ble_eq_true rfl)) dX11_earnsOf_20 ⟨(Nat.le_of_ble_eq_true rfl), (Nat.le_of_ble_eq_true rfl)⟩) hS (fun q _ h => hFc q h) hFc (fun r_40 u t H locs ht hvm w_39 hB hz1 hk1 hS => ?_)
    have hP := pu_keep hP hk1
    clear hk1 hz1 hvm hB ht hFc
    have hb_41 : -1 ≤ r_40.toInt ∧ r_40.toInt ≤ 3000 := dr_i w_39
    refine lv_goto (tgt := 27) hx hb dX11_earnsOf_23 (by decide +kernel) ?_
    refine lv_istore (lv' := [(4, .int r_40), (0, .ref g0), (1, .int x1), (2, .int x2), (3, .int x3)]) hx hb dX11_earnsOf_27 hl (by decide +kernel) rfl (fun ls hl => ?_)
    refine lv_iconst (v := 0) hx hb dX11_earnsOf_29 (by decide +kernel) ?_
    refine lv_istore (lv' := [(5, .int 0), (4, .int r_40), (0, .ref g0), (1, .int x1), (2, .int x2), (3, .int x3)]) hx hb dX11_earnsOf_30 hl (by decide +kernel) rfl (fun ls hl => ?_)
    refine lv_aload_n hx hb dX11_earnsOf_32 rfl (lv_at hl 2 rfl) ?_
    refine va_get (D := (dC, dI)) (ci := 11) (v := .ref (pq 25)) (C := RX11) (T := TX11) (N := 63) hx hb hts in_wsX11_earnsOf_X11 hown hK hP 0 rfl rfl 25 (by decide +kernel) (hts (.fieldLink RX11 85 "ShipOfficeModel" "signed" "[I") iw_X11_earnsOf_1) (fun _ h9 => h9) rfl dX11_earnsOf_33 ?_
    refine lv_iload_n hx hb dX11_earnsOf_36 rfl (lv_at hl 3 rfl) ?_
    refine va_iald hx hb hK hP 26 25 rfl rfl (vp_in_iff.mpr (by omega)) dX11_earnsOf_37 ?_
    refine lv_topi (fun x_42 ex_42 => ?_)
    have hx_42 : 0 ≤ x_42.toInt ∧ x_42.toInt ≤ 3000 := iv_of ex_42 (hA_6 25 _)
    clear ex_42
    refine lv_istore (lv' := [(6, .int x_42), (5, .int 0), (4, .int r_40), (0, .ref g0), (1, .int x1), (2, .int x2), (3, .int x3)]) hx hb dX11_earnsOf_38 hl (by decide +kernel) rfl (fun ls hl => ?_)
    have cut_43 : ∀ (n : Nat) (y_44 : Int32) (y_45 : Int32) (z_46 : Nat → Int32) (fz_47 : Nat → Nat → Int32) (H : Heap) (locs : List Loc) (ls : Array Slot), 3001 - y_44.toInt ≤ (n : Int) → (0 ≤ y_44.toInt ∧ y_44.toInt ≤ 3001) → mV z_46 → mA fz_47 → scr v fa z_46 fz_47 → va_P (dC, dI) vwCl (mW g0 pq cp z_46 fz_47) H → va_D A (mW g0 pq cp z_46 fz_47) → va_S A s.heap H locs → lv_has ls 7 [(6, .int y_44), (5, .int y_45), (4, .int r_40), (0, .ref g0), (1, .int x1), (2, .int x2), (3, .int x3)] → W p l e (headSpec wsX11_earnsOf { frames := 23, cells := 0, slots := 0, locals := 533 }).room s m #[Value.ref g0, Value.int x1, Value.int x2, Value.int x3] below meth c H locs 0 0 (MQ below (va_Qi (fun (r : Int32) (u : (Nat → Int32) × (Nat → Nat → Int32)) => mV u.1 ∧ mA u.2 ∧ scr v fa u.1 u.2) (fun u t => va_P (dC, dI) vwCl (mW g0 pq cp u.1 u.2) t.heap ∧ va_K (dC, dI) vwCl (mT cp) t ∧ va_D A (mW g0 pq cp u.1 u.2)) A) #[Value.ref g0, Value.int x1, Value.int x2, Value.int x3] s 0 0 A) (F0 m 40 ls []) := by
      intro n
      induction n using Nat.strongRecOn with
      | ind n ih =>
        intro y_44 y_45 z_46 fz_47 H locs ls hm hy_44 hVz_46 hAz_46 hRz_46 hP hD hS hl
        refine lv_iload hx hb dX11_earnsOf_40 (lv_at hl 0 rfl) ?_
        refine lv_iload hx hb dX11_earnsOf_42 (lv_at hl 2 rfl) ?_
        refine lv_icmp_gt (tgt := 78) hx hb dX11_earnsOf_44 (by decide +kernel) (fun c_48 => ?_) (fun c_48 => ?_)
        · have dc_48 := c_lt (a := r_40.toInt) (b := y_44.toInt) rfl rfl c_48
          refine lv_iload hx hb dX11_earnsOf_78 (lv_at hl 1 rfl) ?_
          exact W.iret (v := y_45) hx hb hr (fun t ht hW => ⟨⟨y_45, (z_46, fz_47), rfl, ⟨hVz_46, hAz_46, hRz_46⟩, ⟨by rw [ht]; exact hP, va_K.moved hW.alike hK, hD⟩⟩, hS.F ht⟩) hS.2.2 dX11_earnsOf_80
        · have dc_48 := c_nlt (a := r_40.toInt) (b := y_44.toInt) rfl rfl c_48
          refine lv_iload hx hb dX11_earnsOf_47 (lv_at hl 1 rfl) ?_
          refine lv_aload_n hx hb dX11_earnsOf_49 rfl (lv_at hl 3 rfl) ?_
          refine lv_iload_n hx hb dX11_earnsOf_50 rfl (lv_at hl 4 rfl) ?_
          refine lv_iload hx hb dX11_earnsOf_51 (lv_at hl 0 rfl) ?_
          refine lv_iload_n hx hb dX11_earnsOf_53 rfl (lv_at hl 6 rfl) ?_
          have hFc := va_free (wc := (mW g0 pq cp z_46 fz_47)) hD hS hA (List.range 48) rfl
          refine va_calli (va_runV (As := [.int x1, .int y_44, .int x3]) (rest := [.int y_45]) ⟨hx, hb, hml, hown, hts⟩ (c_X11_stateOf l dC dI H.size g0 pq cp z_46 fz_47 hVz_46 hAz_46 x1 (by omega) y_44 x3) (cwV 3 hts gX11_earnsOf_X11_stateOf rfl rfl rfl (by decide +kernel) ⟨(Nat.le_of_ble_eq_true rfl), (Nat.le_of_ble_eq_true rfl)⟩) (pr_V (r := (RX11, TX11, 63)) hP hK hD 0 11 rfl rfl) rfl rfl hl.1 rfl (lv_room (Nat.le_of_ble_eq_true rfl)) dX11_earnsOf_54 ⟨(Nat.le_of_ble_eq_true rfl), (Nat.le_of_ble_eq_true rfl)⟩) hS (fun q _ h => hFc q h) hFc (fun r_50 u t H locs ht hvm w_49 hB hz1 hk1 hS => ?_)
          obtain ⟨v_51, fa_52⟩ := u
          obtain ⟨hP1, hK1, hD1⟩ := hB
          rw [ht] at hP1
          have hP : va_P (dC, dI) vwCl (mW g0 pq cp v_51 fa_52) H := hP1
          have hD : va_D A (mW g0 pq cp v_51 fa_52) := hD1.weaken (fun _ _ _ h => hFc _ h)
          clear hP1 hK1 hD1 hk1 hz1 hvm ht hFc
          obtain ⟨hV_53, hA_54, hR_55, hb_56, hx_57⟩ := w_49
          dsimp only at hV_53 hA_54 hR_55 hb_56 hx_57
          have R_58 := scr.tr hRz_46 hR_55
          refine lv_iconst (v := 3) hx hb dX11_earnsOf_57 (by decide +kernel) ?_
          have hFc : ∀ q, va_A [] H.size q → A q := pu_free hS hA
          have hPc := hP.sub (ws' := []) [] rfl
          have hDc := hD.sub (ws' := []) [] (by decide +kernel) rfl
          have hKc := hK.sub (tys' := []) [] rfl
          refine va_calli (va_runS (As := [.int r_50, .int 3]) (rest := [.int y_45]) ⟨hx, hb, hml, hown, hts⟩ (c_X11_isIn l dC dI H.size r_50 3) (va_cwS 2 hts gX11_earnsOf_X11_isIn rfl rfl rfl (by decide +kernel) ⟨(Nat.le_of_ble_eq_true rfl), (Nat.le_of_ble_eq_true rfl)⟩) (pr_S hPc hKc hDc) rfl rfl hl.1 rfl (lv_room (Nat.le_of_ble_eq_true rfl)) dX11_earnsOf_58 ⟨(Nat.le_of_ble_eq_true rfl), (Nat.le_of_ble_eq_true rfl)⟩) hS (fun q _ h => hFc q h) hFc (fun r_60 u t H locs ht hvm w_59 hB hz1 hk1 hS => ?_)
          have hP := pu_keep hP hk1
          clear hk1 hz1 hvm hB ht hFc hPc hDc hKc
          have hbr_60 : 0 ≤ r_60.toInt ∧ r_60.toInt ≤ 1 := iv_of w_59 (isI_i _ _)
          refine lv_if_eq (tgt := 68) hx hb dX11_earnsOf_61 (by decide +kernel) (fun c_61 => ?_) (fun c_61 => ?_)
          · have dc_61 := c_eq (a := r_60.toInt) (b := 0) rfl (by decide +kernel) c_61
            refine lv_iconst (v := 0) hx hb dX11_earnsOf_68 (by decide +kernel) ?_
            refine lv_iadd hx hb dX11_earnsOf_69 ?_
            refine lv_topi (fun x_62 ex_62 => ?_)
            clear ex_62
            refine lv_istore (lv' := [(5, .int x_62), (6, .int y_44), (4, .int r_40), (0, .ref g0), (1, .int x1), (2, .int x2), (3, .int x3)]) hx hb dX11_earnsOf_70 hl (by decide +kernel) rfl (fun ls hl => ?_)
            obtain ⟨x_63, ex_63⟩ : ∃ zq : Int32, y_44 + 1 = zq := ⟨_, rfl⟩
            have hx_63 : x_63.toInt = y_44.toInt + 1 := (iv_to ex_63).symm.trans (ad_i rfl (by decide +kernel) (by omega) (by omega))
            refine lv_iinc (v := x_63) (lv' := [(6, .int x_63), (5, .int x_62), (4, .int r_40), (0, .ref g0), (1, .int x1), (2, .int x2), (3, .int x3)]) hx hb dX11_earnsOf_72 hl (k := 1) rfl ex_63 (by decide +kernel) rfl (fun ls hl => ?_)
            clear ex_63
            refine lv_goto (tgt := 40) hx hb dX11_earnsOf_75 (by decide +kernel) ?_
            exact ih (n - 1) (by omega) x_63 x_62 v_51 fa_52 _ _ ls (by omega) (by omega) hV_53 hA_54 R_58 hP hD hS (lv_sub hl [0, 1, 2, 3, 4, 5, 6] rfl)
          · have dc_61 := c_ne (a := r_60.toInt) (b := 0) rfl (by decide +kernel) c_61
            have hi_64 := isI_t w_59 (fun q => c_61 (Int32.toInt_inj.mp q))
            have khi_64 : (3 : Int32).toInt = 3 := by decide
            refine lv_iconst (v := 1) hx hb dX11_earnsOf_64 (by decide +kernel) ?_
            refine lv_goto (tgt := 69) hx hb dX11_earnsOf_65 (by decide +kernel) ?_
            refine lv_iadd hx hb dX11_earnsOf_69 ?_
            refine lv_topi (fun x_65 ex_65 => ?_)
            clear ex_65
            refine lv_istore (lv' := [(5, .int x_65), (6, .int y_44), (4, .int r_40), (0, .ref g0), (1, .int x1), (2, .int x2), (3, .int x3)]) hx hb dX11_earnsOf_70 hl (by decide +kernel) rfl (fun ls hl => ?_)
            obtain ⟨x_66, ex_66⟩ : ∃ zq : Int32, y_44 + 1 = zq := ⟨_, rfl⟩
            have hx_66 : x_66.toInt = y_44.toInt + 1 := (iv_to ex_66).symm.trans (ad_i rfl (by decide +kernel) (by omega) (by omega))
            refine lv_iinc (v := x_66) (lv' := [(6, .int x_66), (5, .int x_65), (4, .int r_40), (0, .ref g0), (1, .int x1), (2, .int x2), (3, .int x3)]) hx hb dX11_earnsOf_72 hl (k := 1) rfl ex_66 (by decide +kernel) rfl (fun ls hl => ?_)
            clear ex_66
            refine lv_goto (tgt := 40) hx hb dX11_earnsOf_75 (by decide +kernel) ?_
            exact ih (n - 1) (by omega) x_66 x_65 v_51 fa_52 _ _ ls (by omega) (by omega) hV_53 hA_54 R_58 hP hD hS (lv_sub hl [0, 1, 2, 3, 4, 5, 6] rfl)
    have kc_67 : (0 : Int32).toInt = 0 := by decide
    exact cut_43 3002 x_42 0 v_3 fa_4 _ _ ls (by omega) (by omega) hV_5 hA_6 R_10 hP hD hS (lv_sub hl [0, 1, 2, 3, 4, 5, 6] rfl)
set_option maxHeartbeats 4000000 in
set_option maxRecDepth 100000 in
theorem c_X11_puts (l : Launch) (dC : Nat → ClassId) (dI : Nat → Nat → Nat) (sz : Nat) (g0 : Nat) (pq : Nat → Nat) (cp : Nat → ClassId) (v : Nat → Int32) (fa : Nat → Nat → Int32) (gV : mV v) (gA : mA fa) (x1 : Int32) (hx1 : 0 ≤ x1.toInt ∧ x1.toInt ≤ 59) (x2 : Int32) (hx2 : 0 ≤ x2.toInt ∧ x2.toInt ≤ 3000) (x3 : Int32) (x4 : Int32) (x5 : Int32) : Met l yX11_puts wsX11_puts ({ frames := 24, cells := 0, slots := 0, locals := 558 }) (va_Pc [.ref g0, .int x1, .int x2, .int x3, .int x4, .int x5] (pcW (dC, dI) (mT cp) (mW g0 pq cp v fa) sz)) (va_Qv (fun (u : (Nat → Int32) × (Nat → Nat → Int32)) => mV u.1 ∧ mA u.2 ∧ scr v fa u.1 u.2) (fun u t => va_P (dC, dI) vwCl (mW g0 pq cp u.1 u.2) t.heap ∧ va_K (dC, dI) vwCl (mT cp) t ∧ va_D (va_A (mW g0 pq cp v fa) sz) (mW g0 pq cp u.1 u.2)) (va_A (mW g0 pq cp v fa) sz)) 0 0 (va_A (mW g0 pq cp v fa) sz) := by
  refine Met.ofW (cc := cX11_puts) (maxL := 9) (ret := none) (by decide +kernel) rfl ?_
  intro p e s m args below meth c s₁ B hml hv
  obtain ⟨rfl, hsz, hP, hK, hD0⟩ := hv
  have hx := B.exec
  have hb := B.bytes
  have hr := B.returns
  have hts := atoms_spec (ws := wsX11_puts) B.pre
  have hown : s.vm.findClass RX11 = some m.cls := findClass_of_methodNamed B.named
  have hlocks := B.notSynchronized
  subst hsz
  have hD := hD0.self (sz := s.heap.size)
  generalize hAe : va_A (mW g0 pq cp v fa) s.heap.size = A at hD ⊢
  have hA : ∀ q : Nat, s.heap.size ≤ q → A q := fun q h => by rw [← hAe]; exact Or.inr h
  have hS : va_S A s.heap s.heap [] := va_S.rf
  have hP : va_P (dC, dI) vwCl (mW g0 pq cp v fa) s.heap := hP
  have hl := lv_entry ([.ref g0, .int x1, .int x2, .int x3, .int x4, .int x5]) (n := 9) (Nat.le_of_ble_eq_true rfl)
  rw [lg_entry_eq]
  generalize (lg_sl ([.ref g0, .int x1, .int x2, .int x3, .int x4, .int x5]) ++ List.replicate (9 - (lg_sl ([.ref g0, .int x1, .int x2, .int x3, .int x4, .int x5])).length) Slot.unset).toArray = ls at hl ⊢
  have hl : lv_has ls 9 [(0, .ref g0), (1, .int x1), (2, .int x2), (3, .int x3), (4, .int x4), (5, .int x5)] := hl
  refine lv_iconst (v := 0) hx hb dX11_puts_0 (by decide +kernel) ?_
  refine lv_istore (lv' := [(6, .int 0), (0, .ref g0), (1, .int x1), (2, .int x2), (3, .int x3), (4, .int x4), (5, .int x5)]) hx hb dX11_puts_1 hl (by decide +kernel) rfl (fun ls hl => ?_)
  refine lv_aload_n hx hb dX11_puts_3 rfl (lv_at hl 1 rfl) ?_
  refine va_get (D := (dC, dI)) (ci := 11) (v := .ref (pq 25)) (C := RX11) (T := TX11) (N := 63) hx hb hts in_wsX11_puts_X11 hown hK hP 0 rfl rfl 25 (by decide +kernel) (hts (.fieldLink RX11 85 "ShipOfficeModel" "signed" "[I") iw_X11_puts_1) (fun _ h9 => h9) rfl dX11_puts_4 ?_
  refine lv_iload_n hx hb dX11_puts_7 rfl (lv_at hl 2 rfl) ?_
  refine va_iald hx hb hK hP 26 25 rfl rfl (vp_in_iff.mpr (by omega)) dX11_puts_8 ?_
  refine lv_topi (fun x_1 ex_1 => ?_)
  have hx_1 : 0 ≤ x_1.toInt ∧ x_1.toInt ≤ 3000 := iv_of ex_1 (gA 25 _)
  clear ex_1
  refine lv_istore (lv' := [(7, .int x_1), (6, .int 0), (0, .ref g0), (1, .int x1), (2, .int x2), (3, .int x3), (4, .int x4), (5, .int x5)]) hx hb dX11_puts_9 hl (by decide +kernel) rfl (fun ls hl => ?_)
  have cut_2 : ∀ (n : Nat) (y_3 : Int32) (y_4 : Int32) (z_5 : Nat → Int32) (fz_6 : Nat → Nat → Int32) (H : Heap) (locs : List Loc) (ls : Array Slot), 3001 - y_3.toInt ≤ (n : Int) → (0 ≤ y_3.toInt ∧ y_3.toInt ≤ 3001) → mV z_5 → mA fz_6 → scr v fa z_5 fz_6 → va_P (dC, dI) vwCl (mW g0 pq cp z_5 fz_6) H → va_D A (mW g0 pq cp z_5 fz_6) → va_S A s.heap H locs → lv_has ls 9 [(7, .int y_3), (6, .int y_4), (0, .ref g0), (1, .int x1), (2, .int x2), (3, .int x3), (4, .int x4), (5, .int x5)] → W p l e (headSpec wsX11_puts { frames := 24, cells := 0, slots := 0, locals := 558 }).room s m #[Value.ref g0, Value.int x1, Value.int x2, Value.int x3, Value.int x4, Value.int x5] below meth c H locs 0 0 (MQ below (va_Qv (fun (u : (Nat → Int32) × (Nat → Nat → Int32)) => mV u.1 ∧ mA u.2 ∧ scr v fa u.1 u.2) (fun u t => va_P (dC, dI) vwCl (mW g0 pq cp u.1 u.2) t.heap ∧ va_K (dC, dI) vwCl (mT cp) t ∧ va_D A (mW g0 pq cp u.1 u.2)) A) #[Value.ref g0, Value.int x1, Value.int x2, Value.int x3, Value.int x4, Value.int x5] s 0 0 A) (F0 m 11 ls []) := by
    intro n
    induction n using Nat.strongRecOn with
    | ind n ih =>
      intro y_3 y_4 z_5 fz_6 H locs ls hm hy_3 hVz_5 hAz_5 hRz_5 hP hD hS hl
      refine lv_iload hx hb dX11_puts_11 (lv_at hl 0 rfl) ?_
      refine lv_iload_n hx hb dX11_puts_13 rfl (lv_at hl 4 rfl) ?_
      refine lv_icmp_gt (tgt := 45) hx hb dX11_puts_14 (by decide +kernel) (fun c_7 => ?_) (fun c_7 => ?_)
      · have dc_7 := c_lt (a := x2.toInt) (b := y_3.toInt) rfl rfl c_7
        refine lv_aload_n hx hb dX11_puts_45 rfl (lv_at hl 2 rfl) ?_
        refine lv_aload_n hx hb dX11_puts_46 rfl (lv_at hl 2 rfl) ?_
        refine va_get (D := (dC, dI)) (ci := 11) (v := .ref (pq 21)) (C := RX11) (T := TX11) (N := 63) hx hb hts in_wsX11_puts_X11 hown hK hP 0 rfl rfl 21 (by decide +kernel) (hts (.fieldLink RX11 73 "ShipOfficeModel" "voyage" "[I") iw_X11_puts_2) (fun _ h9 => h9) rfl dX11_puts_47 ?_
        refine lv_iload_n hx hb dX11_puts_50 rfl (lv_at hl 3 rfl) ?_
        refine va_iald hx hb hK hP 22 21 rfl rfl (vp_in_iff.mpr (by omega)) dX11_puts_51 ?_
        refine lv_topi (fun x_8 ex_8 => ?_)
        have hx_8 : 0 ≤ x_8.toInt ∧ x_8.toInt ≤ 19 := iv_of ex_8 (hAz_5 21 _)
        clear ex_8
        refine lv_iload_n hx hb dX11_puts_52 rfl (lv_at hl 4 rfl) ?_
        refine lv_iload_n hx hb dX11_puts_53 rfl (lv_at hl 5 rfl) ?_
        have hFc := va_free (wc := (mW g0 pq cp z_5 fz_6)) hD hS hA (List.range 48) rfl
        refine va_calli (va_runV (As := [.int x_8, .int x2, .int x3]) (rest := []) ⟨hx, hb, hml, hown, hts⟩ (c_X11_aboardOf l dC dI H.size g0 pq cp z_5 fz_6 hVz_5 hAz_5 x_8 x2 x3) (cwV 3 hts gX11_puts_X11_aboardOf rfl rfl rfl (by decide +kernel) ⟨(Nat.le_of_ble_eq_true rfl), (Nat.le_of_ble_eq_true rfl)⟩) (pr_V (r := (RX11, TX11, 63)) hP hK hD 0 11 rfl rfl) rfl rfl hl.1 rfl (lv_room (Nat.le_of_ble_eq_true rfl)) dX11_puts_54 ⟨(Nat.le_of_ble_eq_true rfl), (Nat.le_of_ble_eq_true rfl)⟩) hS (fun q _ h => hFc q h) hFc (fun r_10 u t H locs ht hvm w_9 hB hz1 hk1 hS => ?_)
        obtain ⟨v_11, fa_12⟩ := u
        obtain ⟨hP1, hK1, hD1⟩ := hB
        rw [ht] at hP1
        have hP : va_P (dC, dI) vwCl (mW g0 pq cp v_11 fa_12) H := hP1
        have hD : va_D A (mW g0 pq cp v_11 fa_12) := hD1.weaken (fun _ _ _ h => hFc _ h)
        clear hP1 hK1 hD1 hk1 hz1 hvm ht hFc
        obtain ⟨hV_13, hA_14, hR_15, hb_16⟩ := w_9
        dsimp only at hV_13 hA_14 hR_15 hb_16
        have R_17 := scr.tr hRz_5 hR_15
        refine lv_istore (lv' := [(7, .int r_10), (6, .int y_4), (0, .ref g0), (1, .int x1), (2, .int x2), (3, .int x3), (4, .int x4), (5, .int x5)]) hx hb dX11_puts_57 hl (by decide +kernel) rfl (fun ls hl => ?_)
        refine lv_aload_n hx hb dX11_puts_59 rfl (lv_at hl 2 rfl) ?_
        refine lv_aload_n hx hb dX11_puts_60 rfl (lv_at hl 2 rfl) ?_
        refine va_get (D := (dC, dI)) (ci := 11) (v := .ref (pq 21)) (C := RX11) (T := TX11) (N := 63) hx hb hts in_wsX11_puts_X11 hown hK hP 0 rfl rfl 21 (by decide +kernel) (hts (.fieldLink RX11 73 "ShipOfficeModel" "voyage" "[I") iw_X11_puts_2) (fun _ h9 => h9) rfl dX11_puts_61 ?_
        refine lv_iload_n hx hb dX11_puts_64 rfl (lv_at hl 3 rfl) ?_
        refine va_iald hx hb hK hP 22 21 rfl rfl (vp_in_iff.mpr (by omega)) dX11_puts_65 ?_
        refine lv_topi (fun x_18 ex_18 => ?_)
        have hx_18 : 0 ≤ x_18.toInt ∧ x_18.toInt ≤ 19 := iv_of ex_18 (hA_14 21 _)
        clear ex_18
        refine lv_iload_n hx hb dX11_puts_66 rfl (lv_at hl 4 rfl) ?_
        refine lv_iload_n hx hb dX11_puts_67 rfl (lv_at hl 5 rfl) ?_
        have hFc : ∀ q, va_A [] H.size q → A q := pu_free hS hA
        refine va_calli (va_runV (As := [.int x_18, .int x2, .int x3]) (rest := []) ⟨hx, hb, hml, hown, hts⟩ (c_X11_lastHeard l dC dI H.size g0 pq cp v_11 fa_12 (v_11 41).toNatClampNeg (cn_le (n := 200) (hV_13 41)) (cn_eq (n := 200) (hV_13 41)) (fun i _ => hA_14 12 i) x_18 x2 x3) (cwV 3 hts gX11_puts_X11_lastHeard rfl rfl rfl (by decide +kernel) ⟨(Nat.le_of_ble_eq_true rfl), (Nat.le_of_ble_eq_true rfl)⟩) (pr_V (r := (RX11, TX11, 63)) hP hK hD 0 11 rfl rfl) rfl rfl hl.1 rfl (lv_room (Nat.le_of_ble_eq_true rfl)) dX11_puts_68 ⟨(Nat.le_of_ble_eq_true rfl), (Nat.le_of_ble_eq_true rfl)⟩) hS (fun q _ h => hFc q h) hFc (fun r_20 u t H locs ht hvm w_19 hB hz1 hk1 hS => ?_)
        have hP := pu_keep hP hk1
        clear hk1 hz1 hvm hB ht hFc
        have hb_21 : -1 ≤ r_20.toInt ∧ r_20.toInt ≤ 3000 := dr_i w_19
        refine lv_istore (lv' := [(8, .int r_20), (7, .int r_10), (6, .int y_4), (0, .ref g0), (1, .int x1), (2, .int x2), (3, .int x3), (4, .int x4), (5, .int x5)]) hx hb dX11_puts_71 hl (by decide +kernel) rfl (fun ls hl => ?_)
        refine lv_aload_n hx hb dX11_puts_73 rfl (lv_at hl 3 rfl) ?_
        have hFc := va_free (wc := (mW g0 pq cp v_11 fa_12)) hD hS hA (List.range 48) rfl
        refine va_callv (va_runV (As := []) (rest := []) ⟨hx, hb, hml, hown, hts⟩ (c_X11_bare l dC dI H.size g0 pq cp v_11 fa_12 hV_13 hA_14) (cwV 0 hts gX11_puts_X11_bare rfl rfl rfl (by decide +kernel) ⟨(Nat.le_of_ble_eq_true rfl), (Nat.le_of_ble_eq_true rfl)⟩) (pr_V (r := (RX11, TX11, 63)) hP hK hD 0 11 rfl rfl) rfl rfl hl.1 rfl (lv_room (Nat.le_of_ble_eq_true rfl)) dX11_puts_74 ⟨(Nat.le_of_ble_eq_true rfl), (Nat.le_of_ble_eq_true rfl)⟩) hS (fun q _ h => hFc q h) hFc (fun u t H locs ht hvm w_22 hB hz1 hk1 hS => ?_)
        obtain ⟨v_24, fa_25⟩ := u
        obtain ⟨hP1, hK1, hD1⟩ := hB
        rw [ht] at hP1
        have hP : va_P (dC, dI) vwCl (mW g0 pq cp v_24 fa_25) H := hP1
        have hD : va_D A (mW g0 pq cp v_24 fa_25) := hD1.weaken (fun _ _ _ h => hFc _ h)
        clear hP1 hK1 hD1 hk1 hz1 hvm ht hFc
        obtain ⟨hV_26, hA_27, hR_28⟩ := w_22
        dsimp only at hV_26 hA_27 hR_28 
        have R_29 := scr.tr R_17 hR_28
        refine lv_aload_n hx hb dX11_puts_77 rfl (lv_at hl 3 rfl) ?_
        refine va_get (D := (dC, dI)) (ci := 11) (v := .ref (pq 45)) (C := RX11) (T := TX11) (N := 63) hx hb hts in_wsX11_puts_X11 hown hK hP 0 rfl rfl 45 (by decide +kernel) (hts (.fieldLink RX11 128 "ShipOfficeModel" "letters" "[I") iw_X11_puts_3) (fun _ h9 => h9) rfl dX11_puts_78 ?_
        refine lv_bipush (v := 119) hx hb dX11_puts_81 (by decide +kernel) ?_
        refine lv_aload_n hx hb dX11_puts_83 rfl (lv_at hl 3 rfl) ?_
        refine va_get (D := (dC, dI)) (ci := 11) (v := .ref (pq 22)) (C := RX11) (T := TX11) (N := 63) hx hb hts in_wsX11_puts_X11 hown hK hP 0 rfl rfl 22 (by decide +kernel) (hts (.fieldLink RX11 76 "ShipOfficeModel" "wage" "[I") iw_X11_puts_4) (fun _ h9 => h9) rfl dX11_puts_84 ?_
        refine lv_iload_n hx hb dX11_puts_87 rfl (lv_at hl 4 rfl) ?_
        refine va_iald hx hb hK hP 23 22 rfl rfl (vp_in_iff.mpr (by omega)) dX11_puts_88 ?_
        refine lv_topi (fun x_30 ex_30 => ?_)
        clear ex_30
        refine va_iast hx hb hK hP hD hS 40 39 rfl rfl (by unfold vp_in; decide) dX11_puts_89 (fun H locs hP hD hS => ?_)
        have hP : va_P (dC, dI) vwCl (mW g0 pq cp v_24 (upF fa_25 45 (119 : Int32).toNatClampNeg x_30)) H := hP
        have hD : va_D A (mW g0 pq cp v_24 (upF fa_25 45 (119 : Int32).toNatClampNeg x_30)) := hD
        obtain ⟨fz_31, efz_31⟩ : ∃ zq, zq = (upF fa_25 45 (119 : Int32).toNatClampNeg x_30) := ⟨_, rfl⟩
        rw [← efz_31] at hP hD
        have hAfz_31 : mA fz_31 := by rw [efz_31]; exact mA_upF (lo := -2147483648) (hi := 2147483647) hA_27 rfl rfl (iv_all _)
        have hRfz_31 : scr v fa v_24 fz_31 := by rw [efz_31]; exact scr.uF R_29 rfl
        refine lv_aload_n hx hb dX11_puts_90 rfl (lv_at hl 3 rfl) ?_
        refine va_get (D := (dC, dI)) (ci := 11) (v := .ref (pq 45)) (C := RX11) (T := TX11) (N := 63) hx hb hts in_wsX11_puts_X11 hown hK hP 0 rfl rfl 45 (by decide +kernel) (hts (.fieldLink RX11 128 "ShipOfficeModel" "letters" "[I") iw_X11_puts_3) (fun _ h9 => h9) rfl dX11_puts_91 ?_
        refine lv_bipush (v := 114) hx hb dX11_puts_94 (by decide +kernel) ?_
        refine lv_aload_n hx hb dX11_puts_96 rfl (lv_at hl 3 rfl) ?_
        refine va_get (D := (dC, dI)) (ci := 11) (v := .ref (pq 23)) (C := RX11) (T := TX11) (N := 63) hx hb hts in_wsX11_puts_X11 hown hK hP 0 rfl rfl 23 (by decide +kernel) (hts (.fieldLink RX11 79 "ShipOfficeModel" "rank" "[I") iw_X11_puts_5) (fun _ h9 => h9) rfl dX11_puts_97 ?_
        refine lv_iload_n hx hb dX11_puts_100 rfl (lv_at hl 4 rfl) ?_
        refine va_iald hx hb hK hP 24 23 rfl rfl (vp_in_iff.mpr (by omega)) dX11_puts_101 ?_
        refine lv_topi (fun x_32 ex_32 => ?_)
        clear ex_32
        refine va_iast hx hb hK hP hD hS 40 39 rfl rfl (by unfold vp_in; decide) dX11_puts_102 (fun H locs hP hD hS => ?_)
        have hP : va_P (dC, dI) vwCl (mW g0 pq cp v_24 (upF fz_31 45 (114 : Int32).toNatClampNeg x_32)) H := hP
        have hD : va_D A (mW g0 pq cp v_24 (upF fz_31 45 (114 : Int32).toNatClampNeg x_32)) := hD
        obtain ⟨fz_33, efz_33⟩ : ∃ zq, zq = (upF fz_31 45 (114 : Int32).toNatClampNeg x_32) := ⟨_, rfl⟩
        rw [← efz_33] at hP hD
        have hAfz_33 : mA fz_33 := by rw [efz_33]; exact mA_upF (lo := -2147483648) (hi := 2147483647) hAfz_31 rfl rfl (iv_all _)
        have hRfz_33 : scr v fa v_24 fz_33 := by rw [efz_33]; exact scr.uF hRfz_31 rfl
        refine lv_aload_n hx hb dX11_puts_103 rfl (lv_at hl 3 rfl) ?_
        refine va_get (D := (dC, dI)) (ci := 11) (v := .ref (pq 45)) (C := RX11) (T := TX11) (N := 63) hx hb hts in_wsX11_puts_X11 hown hK hP 0 rfl rfl 45 (by decide +kernel) (hts (.fieldLink RX11 128 "ShipOfficeModel" "letters" "[I") iw_X11_puts_3) (fun _ h9 => h9) rfl dX11_puts_104 ?_
        refine lv_bipush (v := 97) hx hb dX11_puts_107 (by decide +kernel) ?_
        refine lv_iload_n hx hb dX11_puts_109 rfl (lv_at hl 5 rfl) ?_
        refine lv_aload_n hx hb dX11_puts_110 rfl (lv_at hl 3 rfl) ?_
        refine va_get (D := (dC, dI)) (ci := 11) (v := .ref (pq 4)) (C := RX11) (T := TX11) (N := 63) hx hb hts in_wsX11_puts_X11 hown hK hP 0 rfl rfl 4 (by decide +kernel) (hts (.fieldLink RX11 22 "ShipOfficeModel" "born" "[I") iw_X11_puts_6) (fun _ h9 => h9) rfl dX11_puts_111 ?_
        refine lv_aload_n hx hb dX11_puts_114 rfl (lv_at hl 3 rfl) ?_
        refine va_get (D := (dC, dI)) (ci := 11) (v := .ref (pq 20)) (C := RX11) (T := TX11) (N := 63) hx hb hts in_wsX11_puts_X11 hown hK hP 0 rfl rfl 20 (by decide +kernel) (hts (.fieldLink RX11 70 "ShipOfficeModel" "man" "[I") iw_X11_puts_7) (fun _ h9 => h9) rfl dX11_puts_115 ?_
        refine lv_iload_n hx hb dX11_puts_118 rfl (lv_at hl 4 rfl) ?_
        refine va_iald hx hb hK hP 21 20 rfl rfl (vp_in_iff.mpr (by omega)) dX11_puts_119 ?_
        refine lv_topi (fun x_34 ex_34 => ?_)
        have hx_34 : 0 ≤ x_34.toInt ∧ x_34.toInt ≤ 39 := iv_of ex_34 (hAfz_33 20 _)
        clear ex_34
        refine va_iald hx hb hK hP 5 4 rfl rfl (vp_in_iff.mpr (by omega)) dX11_puts_120 ?_
        refine lv_topi (fun x_35 ex_35 => ?_)
        clear ex_35
        refine lv_isub hx hb dX11_puts_121 ?_
        refine lv_topi (fun x_36 ex_36 => ?_)
        clear ex_36
        refine lv_sipush (v := 365) hx hb dX11_puts_122 (by decide +kernel) ?_
        refine lv_idiv hx hb dX11_puts_125 (by decide +kernel) ?_
        refine lv_topi (fun x_37 ex_37 => ?_)
        clear ex_37
        refine va_iast hx hb hK hP hD hS 40 39 rfl rfl (by unfold vp_in; decide) dX11_puts_126 (fun H locs hP hD hS => ?_)
        have hP : va_P (dC, dI) vwCl (mW g0 pq cp v_24 (upF fz_33 45 (97 : Int32).toNatClampNeg x_37)) H := hP
        have hD : va_D A (mW g0 pq cp v_24 (upF fz_33 45 (97 : Int32).toNatClampNeg x_37)) := hD
        obtain ⟨fz_38, efz_38⟩ : ∃ zq, zq = (upF fz_33 45 (97 : Int32).toNatClampNeg x_37) := ⟨_, rfl⟩
        rw [← efz_38] at hP hD
        have hAfz_38 : mA fz_38 := by rw [efz_38]; exact mA_upF (lo := -2147483648) (hi := 2147483647) hAfz_33 rfl rfl (iv_all _)
        have hRfz_38 : scr v fa v_24 fz_38 := by rw [efz_38]; exact scr.uF hRfz_33 rfl
        refine lv_aload_n hx hb dX11_puts_127 rfl (lv_at hl 3 rfl) ?_
        refine va_get (D := (dC, dI)) (ci := 11) (v := .ref (pq 45)) (C := RX11) (T := TX11) (N := 63) hx hb hts in_wsX11_puts_X11 hown hK hP 0 rfl rfl 45 (by decide +kernel) (hts (.fieldLink RX11 128 "ShipOfficeModel" "letters" "[I") iw_X11_puts_3) (fun _ h9 => h9) rfl dX11_puts_128 ?_
        refine lv_bipush (v := 100) hx hb dX11_puts_131 (by decide +kernel) ?_
        refine lv_iload hx hb dX11_puts_133 (lv_at hl 2 rfl) ?_
        refine va_iast hx hb hK hP hD hS 40 39 rfl rfl (by unfold vp_in; decide) dX11_puts_135 (fun H locs hP hD hS => ?_)
        have hP : va_P (dC, dI) vwCl (mW g0 pq cp v_24 (upF fz_38 45 (100 : Int32).toNatClampNeg y_4)) H := hP
        have hD : va_D A (mW g0 pq cp v_24 (upF fz_38 45 (100 : Int32).toNatClampNeg y_4)) := hD
        obtain ⟨fz_39, efz_39⟩ : ∃ zq, zq = (upF fz_38 45 (100 : Int32).toNatClampNeg y_4) := ⟨_, rfl⟩
        rw [← efz_39] at hP hD
        have hAfz_39 : mA fz_39 := by rw [efz_39]; exact mA_upF (lo := -2147483648) (hi := 2147483647) hAfz_38 rfl rfl (iv_all _)
        have hRfz_39 : scr v fa v_24 fz_39 := by rw [efz_39]; exact scr.uF hRfz_38 rfl
        refine lv_aload_n hx hb dX11_puts_136 rfl (lv_at hl 3 rfl) ?_
        refine va_get (D := (dC, dI)) (ci := 11) (v := .ref (pq 45)) (C := RX11) (T := TX11) (N := 63) hx hb hts in_wsX11_puts_X11 hown hK hP 0 rfl rfl 45 (by decide +kernel) (hts (.fieldLink RX11 128 "ShipOfficeModel" "letters" "[I") iw_X11_puts_3) (fun _ h9 => h9) rfl dX11_puts_137 ?_
        refine lv_bipush (v := 110) hx hb dX11_puts_140 (by decide +kernel) ?_
        refine lv_iload hx hb dX11_puts_142 (lv_at hl 1 rfl) ?_
        refine va_iast hx hb hK hP hD hS 40 39 rfl rfl (by unfold vp_in; decide) dX11_puts_144 (fun H locs hP hD hS => ?_)
        have hP : va_P (dC, dI) vwCl (mW g0 pq cp v_24 (upF fz_39 45 (110 : Int32).toNatClampNeg r_10)) H := hP
        have hD : va_D A (mW g0 pq cp v_24 (upF fz_39 45 (110 : Int32).toNatClampNeg r_10)) := hD
        obtain ⟨fz_40, efz_40⟩ : ∃ zq, zq = (upF fz_39 45 (110 : Int32).toNatClampNeg r_10) := ⟨_, rfl⟩
        rw [← efz_40] at hP hD
        have hAfz_40 : mA fz_40 := by rw [efz_40]; exact mA_upF (lo := -2147483648) (hi := 2147483647) hAfz_39 rfl rfl (iv_all _)
        have hRfz_40 : scr v fa v_24 fz_40 := by rw [efz_40]; exact scr.uF hRfz_39 rfl
        refine lv_aload_n hx hb dX11_puts_145 rfl (lv_at hl 3 rfl) ?_
        refine va_get (D := (dC, dI)) (ci := 11) (v := .ref (pq 45)) (C := RX11) (T := TX11) (N := 63) hx hb hts in_wsX11_puts_X11 hown hK hP 0 rfl rfl 45 (by decide +kernel) (hts (.fieldLink RX11 128 "ShipOfficeModel" "letters" "[I") iw_X11_puts_3) (fun _ h9 => h9) rfl dX11_puts_146 ?_
        refine lv_bipush (v := 115) hx hb dX11_puts_149 (by decide +kernel) ?_
        refine lv_iload hx hb dX11_puts_151 (lv_at hl 7 rfl) ?_
        refine va_iast hx hb hK hP hD hS 40 39 rfl rfl (by unfold vp_in; decide) dX11_puts_153 (fun H locs hP hD hS => ?_)
        have hP : va_P (dC, dI) vwCl (mW g0 pq cp v_24 (upF fz_40 45 (115 : Int32).toNatClampNeg x4)) H := hP
        have hD : va_D A (mW g0 pq cp v_24 (upF fz_40 45 (115 : Int32).toNatClampNeg x4)) := hD
        obtain ⟨fz_41, efz_41⟩ : ∃ zq, zq = (upF fz_40 45 (115 : Int32).toNatClampNeg x4) := ⟨_, rfl⟩
        rw [← efz_41] at hP hD
        have hAfz_41 : mA fz_41 := by rw [efz_41]; exact mA_upF (lo := -2147483648) (hi := 2147483647) hAfz_40 rfl rfl (iv_all _)
        have hRfz_41 : scr v fa v_24 fz_41 := by rw [efz_41]; exact scr.uF hRfz_40 rfl
        refine lv_aload_n hx hb dX11_puts_154 rfl (lv_at hl 3 rfl) ?_
        refine va_get (D := (dC, dI)) (ci := 11) (v := .ref (pq 45)) (C := RX11) (T := TX11) (N := 63) hx hb hts in_wsX11_puts_X11 hown hK hP 0 rfl rfl 45 (by decide +kernel) (hts (.fieldLink RX11 128 "ShipOfficeModel" "letters" "[I") iw_X11_puts_3) (fun _ h9 => h9) rfl dX11_puts_155 ?_
        refine lv_bipush (v := 108) hx hb dX11_puts_158 (by decide +kernel) ?_
        refine lv_iload hx hb dX11_puts_160 (lv_at hl 0 rfl) ?_
        refine lv_if_ge (tgt := 169) hx hb dX11_puts_162 (by decide +kernel) (fun c_42 => ?_) (fun c_42 => ?_)
        · have dc_42 := c_le (a := 0) (b := r_20.toInt) (by decide +kernel) rfl c_42
          refine lv_iload_n hx hb dX11_puts_169 rfl (lv_at hl 5 rfl) ?_
          refine lv_iload hx hb dX11_puts_170 (lv_at hl 0 rfl) ?_
          refine lv_isub hx hb dX11_puts_172 ?_
          refine lv_topi (fun x_43 ex_43 => ?_)
          have hx_43 : x_43.toInt = x2.toInt - r_20.toInt := (iv_to ex_43).trans (sb_i rfl rfl (by omega) (by omega))
          clear ex_43
          refine va_iast hx hb hK hP hD hS 40 39 rfl rfl (by unfold vp_in; decide) dX11_puts_173 (fun H locs hP hD hS => ?_)
          have hP : va_P (dC, dI) vwCl (mW g0 pq cp v_24 (upF fz_41 45 (108 : Int32).toNatClampNeg x_43)) H := hP
          have hD : va_D A (mW g0 pq cp v_24 (upF fz_41 45 (108 : Int32).toNatClampNeg x_43)) := hD
          obtain ⟨fz_44, efz_44⟩ : ∃ zq, zq = (upF fz_41 45 (108 : Int32).toNatClampNeg x_43) := ⟨_, rfl⟩
          rw [← efz_44] at hP hD
          have hAfz_44 : mA fz_44 := by rw [efz_44]; exact mA_upF (lo := -2147483648) (hi := 2147483647) hAfz_41 rfl rfl (iv_all _)
          have hRfz_44 : scr v fa v_24 fz_44 := by rw [efz_44]; exact scr.uF hRfz_41 rfl
          refine lv_aload_n hx hb dX11_puts_174 rfl (lv_at hl 3 rfl) ?_
          refine va_get (D := (dC, dI)) (ci := 11) (v := .ref (pq 45)) (C := RX11) (T := TX11) (N := 63) hx hb hts in_wsX11_puts_X11 hown hK hP 0 rfl rfl 45 (by decide +kernel) (hts (.fieldLink RX11 128 "ShipOfficeModel" "letters" "[I") iw_X11_puts_3) (fun _ h9 => h9) rfl dX11_puts_175 ?_
          refine lv_bipush (v := 120) hx hb dX11_puts_178 (by decide +kernel) ?_
          refine lv_iload hx hb dX11_puts_180 (lv_at hl 8 rfl) ?_
          refine lv_if_eq (tgt := 189) hx hb dX11_puts_182 (by decide +kernel) (fun c_45 => ?_) (fun c_45 => ?_)
          · have dc_45 := c_eq (a := x5.toInt) (b := 0) rfl (by decide +kernel) c_45
            refine lv_iconst (v := 0) hx hb dX11_puts_189 (by decide +kernel) ?_
            refine va_iast hx hb hK hP hD hS 40 39 rfl rfl (by unfold vp_in; decide) dX11_puts_190 (fun H locs hP hD hS => ?_)
            have hP : va_P (dC, dI) vwCl (mW g0 pq cp v_24 (upF fz_44 45 (120 : Int32).toNatClampNeg 0)) H := hP
            have hD : va_D A (mW g0 pq cp v_24 (upF fz_44 45 (120 : Int32).toNatClampNeg 0)) := hD
            obtain ⟨fz_46, efz_46⟩ : ∃ zq, zq = (upF fz_44 45 (120 : Int32).toNatClampNeg 0) := ⟨_, rfl⟩
            rw [← efz_46] at hP hD
            have hAfz_46 : mA fz_46 := by rw [efz_46]; exact mA_upF (lo := -2147483648) (hi := 2147483647) hAfz_44 rfl rfl (iv_all _)
            have hRfz_46 : scr v fa v_24 fz_46 := by rw [efz_46]; exact scr.uF hRfz_44 rfl
            exact W.vret hx hb hr (fun t ht hW => ⟨⟨(v_24, fz_46), rfl, ⟨hV_26, hAfz_46, hRfz_46⟩, ⟨by rw [ht]; exact hP, va_K.moved hW.alike hK, hD⟩⟩, hS.F ht⟩) hS.2.2 dX11_puts_191
          · have dc_45 := c_ne (a := x5.toInt) (b := 0) rfl (by decide +kernel) c_45
            refine lv_iconst (v := 1) hx hb dX11_puts_185 (by decide +kernel) ?_
            refine lv_goto (tgt := 190) hx hb dX11_puts_186 (by decide +kernel) ?_
            refine va_iast hx hb hK hP hD hS 40 39 rfl rfl (by unfold vp_in; decide) dX11_puts_190 (fun H locs hP hD hS => ?_)
            have hP : va_P (dC, dI) vwCl (mW g0 pq cp v_24 (upF fz_44 45 (120 : Int32).toNatClampNeg 1)) H := hP
            have hD : va_D A (mW g0 pq cp v_24 (upF fz_44 45 (120 : Int32).toNatClampNeg 1)) := hD
            obtain ⟨fz_47, efz_47⟩ : ∃ zq, zq = (upF fz_44 45 (120 : Int32).toNatClampNeg 1) := ⟨_, rfl⟩
            rw [← efz_47] at hP hD
            have hAfz_47 : mA fz_47 := by rw [efz_47]; exact mA_upF (lo := -2147483648) (hi := 2147483647) hAfz_44 rfl rfl (iv_all _)
            have hRfz_47 : scr v fa v_24 fz_47 := by rw [efz_47]; exact scr.uF hRfz_44 rfl
            exact W.vret hx hb hr (fun t ht hW => ⟨⟨(v_24, fz_47), rfl, ⟨hV_26, hAfz_47, hRfz_47⟩, ⟨by rw [ht]; exact hP, va_K.moved hW.alike hK, hD⟩⟩, hS.F ht⟩) hS.2.2 dX11_puts_191
        · have dc_42 := c_nle (a := 0) (b := r_20.toInt) (by decide +kernel) rfl c_42
          refine lv_iconst (v := 0) hx hb dX11_puts_165 (by decide +kernel) ?_
          refine lv_goto (tgt := 173) hx hb dX11_puts_166 (by decide +kernel) ?_
          refine va_iast hx hb hK hP hD hS 40 39 rfl rfl (by unfold vp_in; decide) dX11_puts_173 (fun H locs hP hD hS => ?_)
          have hP : va_P (dC, dI) vwCl (mW g0 pq cp v_24 (upF fz_41 45 (108 : Int32).toNatClampNeg 0)) H := hP
          have hD : va_D A (mW g0 pq cp v_24 (upF fz_41 45 (108 : Int32).toNatClampNeg 0)) := hD
          obtain ⟨fz_48, efz_48⟩ : ∃ zq, zq = (upF fz_41 45 (108 : Int32).toNatClampNeg 0) := ⟨_, rfl⟩
          rw [← efz_48] at hP hD
          have hAfz_48 : mA fz_48 := by rw [efz_48]; exact mA_upF (lo := -2147483648) (hi := 2147483647) hAfz_41 rfl rfl (iv_all _)
          have hRfz_48 : scr v fa v_24 fz_48 := by rw [efz_48]; exact scr.uF hRfz_41 rfl
          refine lv_aload_n hx hb dX11_puts_174 rfl (lv_at hl 3 rfl) ?_
          refine va_get (D := (dC, dI)) (ci := 11) (v := .ref (pq 45)) (C := RX11) (T := TX11) (N := 63) hx hb hts in_wsX11_puts_X11 hown hK hP 0 rfl rfl 45 (by decide +kernel) (hts (.fieldLink RX11 128 "ShipOfficeModel" "letters" "[I") iw_X11_puts_3) (fun _ h9 => h9) rfl dX11_puts_175 ?_
          refine lv_bipush (v := 120) hx hb dX11_puts_178 (by decide +kernel) ?_
          refine lv_iload hx hb dX11_puts_180 (lv_at hl 8 rfl) ?_
          refine lv_if_eq (tgt := 189) hx hb dX11_puts_182 (by decide +kernel) (fun c_49 => ?_) (fun c_49 => ?_)
          · have dc_49 := c_eq (a := x5.toInt) (b := 0) rfl (by decide +kernel) c_49
            refine lv_iconst (v := 0) hx hb dX11_puts_189 (by decide +kernel) ?_
            refine va_iast hx hb hK hP hD hS 40 39 rfl rfl (by unfold vp_in; decide) dX11_puts_190 (fun H locs hP hD hS => ?_)
            have hP : va_P (dC, dI) vwCl (mW g0 pq cp v_24 (upF fz_48 45 (120 : Int32).toNatClampNeg 0)) H := hP
            have hD : va_D A (mW g0 pq cp v_24 (upF fz_48 45 (120 : Int32).toNatClampNeg 0)) := hD
            obtain ⟨fz_50, efz_50⟩ : ∃ zq, zq = (upF fz_48 45 (120 : Int32).toNatClampNeg 0) := ⟨_, rfl⟩
            rw [← efz_50] at hP hD
            have hAfz_50 : mA fz_50 := by rw [efz_50]; exact mA_upF (lo := -2147483648) (hi := 2147483647) hAfz_48 rfl rfl (iv_all _)
            have hRfz_50 : scr v fa v_24 fz_50 := by rw [efz_50]; exact scr.uF hRfz_48 rfl
            exact W.vret hx hb hr (fun t ht hW => ⟨⟨(v_24, fz_50), rfl, ⟨hV_26, hAfz_50, hRfz_50⟩, ⟨by rw [ht]; exact hP, va_K.moved hW.alike hK, hD⟩⟩, hS.F ht⟩) hS.2.2 dX11_puts_191
          · have dc_49 := c_ne (a := x5.toInt) (b := 0) rfl (by decide +kernel) c_49
            refine lv_iconst (v := 1) hx hb dX11_puts_185 (by decide +kernel) ?_
            refine lv_goto (tgt := 190) hx hb dX11_puts_186 (by decide +kernel) ?_
            refine va_iast hx hb hK hP hD hS 40 39 rfl rfl (by unfold vp_in; decide) dX11_puts_190 (fun H locs hP hD hS => ?_)
            have hP : va_P (dC, dI) vwCl (mW g0 pq cp v_24 (upF fz_48 45 (120 : Int32).toNatClampNeg 1)) H := hP
            have hD : va_D A (mW g0 pq cp v_24 (upF fz_48 45 (120 : Int32).toNatClampNeg 1)) := hD
            obtain ⟨fz_51, efz_51⟩ : ∃ zq, zq = (upF fz_48 45 (120 : Int32).toNatClampNeg 1) := ⟨_, rfl⟩
            rw [← efz_51] at hP hD
            have hAfz_51 : mA fz_51 := by rw [efz_51]; exact mA_upF (lo := -2147483648) (hi := 2147483647) hAfz_48 rfl rfl (iv_all _)
            have hRfz_51 : scr v fa v_24 fz_51 := by rw [efz_51]; exact scr.uF hRfz_48 rfl
            exact W.vret hx hb hr (fun t ht hW => ⟨⟨(v_24, fz_51), rfl, ⟨hV_26, hAfz_51, hRfz_51⟩, ⟨by rw [ht]; exact hP, va_K.moved hW.alike hK, hD⟩⟩, hS.F ht⟩) hS.2.2 dX11_puts_191
      · have dc_7 := c_nlt (a := x2.toInt) (b := y_3.toInt) rfl rfl c_7
        refine lv_iload hx hb dX11_puts_17 (lv_at hl 1 rfl) ?_
        refine lv_aload_n hx hb dX11_puts_19 rfl (lv_at hl 2 rfl) ?_
        refine lv_iload_n hx hb dX11_puts_20 rfl (lv_at hl 3 rfl) ?_
        refine lv_iload hx hb dX11_puts_21 (lv_at hl 0 rfl) ?_
        refine lv_iload_n hx hb dX11_puts_23 rfl (lv_at hl 5 rfl) ?_
        have hFc := va_free (wc := (mW g0 pq cp z_5 fz_6)) hD hS hA (List.range 48) rfl
        refine va_calli (va_runV (As := [.int x1, .int y_3, .int x3]) (rest := [.int y_4]) ⟨hx, hb, hml, hown, hts⟩ (c_X11_stateOf l dC dI H.size g0 pq cp z_5 fz_6 hVz_5 hAz_5 x1 (by omega) y_3 x3) (cwV 3 hts gX11_puts_X11_stateOf rfl rfl rfl (by decide +kernel) ⟨(Nat.le_of_ble_eq_true rfl), (Nat.le_of_ble_eq_true rfl)⟩) (pr_V (r := (RX11, TX11, 63)) hP hK hD 0 11 rfl rfl) rfl rfl hl.1 rfl (lv_room (Nat.le_of_ble_eq_true rfl)) dX11_puts_24 ⟨(Nat.le_of_ble_eq_true rfl), (Nat.le_of_ble_eq_true rfl)⟩) hS (fun q _ h => hFc q h) hFc (fun r_53 u t H locs ht hvm w_52 hB hz1 hk1 hS => ?_)
        obtain ⟨v_54, fa_55⟩ := u
        obtain ⟨hP1, hK1, hD1⟩ := hB
        rw [ht] at hP1
        have hP : va_P (dC, dI) vwCl (mW g0 pq cp v_54 fa_55) H := hP1
        have hD : va_D A (mW g0 pq cp v_54 fa_55) := hD1.weaken (fun _ _ _ h => hFc _ h)
        clear hP1 hK1 hD1 hk1 hz1 hvm ht hFc
        obtain ⟨hV_56, hA_57, hR_58, hb_59, hx_60⟩ := w_52
        dsimp only at hV_56 hA_57 hR_58 hb_59 hx_60
        have R_61 := scr.tr hRz_5 hR_58
        refine lv_iconst (v := 1) hx hb dX11_puts_27 (by decide +kernel) ?_
        refine lv_icmp_ne (tgt := 35) hx hb dX11_puts_28 (by decide +kernel) (fun c_62 => ?_) (fun c_62 => ?_)
        · have dc_62 := c_ne (a := r_53.toInt) (b := 1) rfl (by decide +kernel) c_62
          refine lv_iconst (v := 0) hx hb dX11_puts_35 (by decide +kernel) ?_
          refine lv_iadd hx hb dX11_puts_36 ?_
          refine lv_topi (fun x_63 ex_63 => ?_)
          clear ex_63
          refine lv_istore (lv' := [(6, .int x_63), (7, .int y_3), (0, .ref g0), (1, .int x1), (2, .int x2), (3, .int x3), (4, .int x4), (5, .int x5)]) hx hb dX11_puts_37 hl (by decide +kernel) rfl (fun ls hl => ?_)
          obtain ⟨x_64, ex_64⟩ : ∃ zq : Int32, y_3 + 1 = zq := ⟨_, rfl⟩
          have hx_64 : x_64.toInt = y_3.toInt + 1 := (iv_to ex_64).symm.trans (ad_i rfl (by decide +kernel) (by omega) (by omega))
          refine lv_iinc (v := x_64) (lv' := [(7, .int x_64), (6, .int x_63), (0, .ref g0), (1, .int x1), (2, .int x2), (3, .int x3), (4, .int x4), (5, .int x5)]) hx hb dX11_puts_39 hl (k := 1) rfl ex_64 (by decide +kernel) rfl (fun ls hl => ?_)
          clear ex_64
          refine lv_goto (tgt := 11) hx hb dX11_puts_42 (by decide +kernel) ?_
          exact ih (n - 1) (by omega) x_64 x_63 v_54 fa_55 _ _ ls (by omega) (by omega) hV_56 hA_57 R_61 hP hD hS (lv_sub hl [0, 1, 2, 3, 4, 5, 6, 7] rfl)
        · have dc_62 := c_eq (a := r_53.toInt) (b := 1) rfl (by decide +kernel) c_62
          refine lv_iconst (v := 1) hx hb dX11_puts_31 (by decide +kernel) ?_
          refine lv_goto (tgt := 36) hx hb dX11_puts_32 (by decide +kernel) ?_
          refine lv_iadd hx hb dX11_puts_36 ?_
          refine lv_topi (fun x_65 ex_65 => ?_)
          clear ex_65
          refine lv_istore (lv' := [(6, .int x_65), (7, .int y_3), (0, .ref g0), (1, .int x1), (2, .int x2), (3, .int x3), (4, .int x4), (5, .int x5)]) hx hb dX11_puts_37 hl (by decide +kernel) rfl (fun ls hl => ?_)
          obtain ⟨x_66, ex_66⟩ : ∃ zq : Int32, y_3 + 1 = zq := ⟨_, rfl⟩
          have hx_66 : x_66.toInt = y_3.toInt + 1 := (iv_to ex_66).symm.trans (ad_i rfl (by decide +kernel) (by omega) (by omega))
          refine lv_iinc (v := x_66) (lv' := [(7, .int x_66), (6, .int x_65), (0, .ref g0), (1, .int x1), (2, .int x2), (3, .int x3), (4, .int x4), (5, .int x5)]) hx hb dX11_puts_39 hl (k := 1) rfl ex_66 (by decide +kernel) rfl (fun ls hl => ?_)
          clear ex_66
          refine lv_goto (tgt := 11) hx hb dX11_puts_42 (by decide +kernel) ?_
          exact ih (n - 1) (by omega) x_66 x_65 v_54 fa_55 _ _ ls (by omega) (by omega) hV_56 hA_57 R_61 hP hD hS (lv_sub hl [0, 1, 2, 3, 4, 5, 6, 7] rfl)
  have kc_67 : (0 : Int32).toInt = 0 := by decide
  exact cut_2 3002 x_1 0 v fa _ _ ls (by omega) (by omega) gV gA scr.rf hP hD hS (lv_sub hl [0, 1, 2, 3, 4, 5, 6, 7] rfl)
