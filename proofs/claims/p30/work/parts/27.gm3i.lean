abbrev cX11_owedOf : ByteArray := prog_13_method_63_code
def yX11_owedOf : MethodName := ⟨RX11, "owedOf", "(III)I"⟩
def wsX11_owedOf_r1 : List Cond := [Cond.fieldLink RX11 85 "ShipOfficeModel" "signed" "[I", Cond.fieldLink RX11 76 "ShipOfficeModel" "wage" "[I", Cond.constantLong RX11 318 (30), Cond.fieldLink RX11 73 "ShipOfficeModel" "voyage" "[I", Cond.fieldLink RX11 91 "ShipOfficeModel" "note" "[I", Cond.fieldLink RX11 97 "ShipOfficeModel" "allotted" "[I", Cond.fieldLink RX11 100 "ShipOfficeModel" "fines" "[I", Cond.fieldLink RX11 109 "ShipOfficeModel" "fineDay" "[I", Cond.fieldLink RX11 103 "ShipOfficeModel" "shorts" "[I", Cond.fieldLink RX11 115 "ShipOfficeModel" "shortOn" "[I", Cond.fieldLink RX11 118 "ShipOfficeModel" "shortSum" "[I", Cond.fieldLink RX11 52 "ShipOfficeModel" "way" "[I", Cond.constantLong RX11 310 (100), Cond.methodLink RX11 303 yX11_earnsOf, Cond.instanceMethod yX11_earnsOf, Cond.selects RX11 yX11_earnsOf yX11_earnsOf, Cond.initialized RX11, Cond.code yX11_earnsOf cX11_earnsOf 7 (some .int), Cond.methodLink RX11 266 yX11_stateOf, Cond.instanceMethod yX11_stateOf, Cond.selects RX11 yX11_stateOf yX11_stateOf, Cond.code yX11_stateOf cX11_stateOf 5 (some .int), Cond.fieldLink RX11 88 "ShipOfficeModel" "offOn" "[I", Cond.fieldLink RX11 40 "ShipOfficeModel" "what" "[I"]
def wsX11_owedOf_r2 : List Cond := [Cond.methodLink RX11 288 yX11_isDead, Cond.instanceMethod yX11_isDead, Cond.selects RX11 yX11_isDead yX11_isDead, Cond.code yX11_isDead cX11_isDead 5 (some .boolean), Cond.fieldLink RX11 179 "ShipOfficeModel" "happened" "I", Cond.fieldLink RX11 43 "ShipOfficeModel" "whose" "[I", Cond.fieldLink RX11 49 "ShipOfficeModel" "known" "[I", Cond.fieldLink RX11 46 "ShipOfficeModel" "day" "[I", Cond.methodLink RX11 291 yX11_whereOf, Cond.instanceMethod yX11_whereOf, Cond.selects RX11 yX11_whereOf yX11_whereOf, Cond.code yX11_whereOf cX11_whereOf 6 (some .int), Cond.methodLink RX11 281 yX11_hasSailed, Cond.instanceMethod yX11_hasSailed, Cond.selects RX11 yX11_hasSailed yX11_hasSailed, Cond.code yX11_hasSailed cX11_hasSailed 5 (some .boolean), Cond.methodLink RX11 278 yX11_sailedOn, Cond.instanceMethod yX11_sailedOn, Cond.selects RX11 yX11_sailedOn yX11_sailedOn, Cond.code yX11_sailedOn cX11_sailedOn 4 (some .int), Cond.methodLink RX11 294 yX11_isUnknown, Cond.instanceMethod yX11_isUnknown, Cond.selects RX11 yX11_isUnknown yX11_isUnknown, Cond.code yX11_isUnknown cX11_isUnknown 4 (some .boolean)]
def wsX11_owedOf_r3 : List Cond := [Cond.methodLink RX11 275 yX11_bare, Cond.instanceMethod yX11_bare, Cond.selects RX11 yX11_bare yX11_bare, Cond.code yX11_bare cX11_bare 2 none, Cond.fieldLink RX11 128 "ShipOfficeModel" "letters" "[I", Cond.methodLink RX11 272 yX11_lastHeard, Cond.instanceMethod yX11_lastHeard, Cond.selects RX11 yX11_lastHeard yX11_lastHeard, Cond.code yX11_lastHeard cX11_lastHeard 6 (some .int), Cond.methodLink RX11 285 yX11_worth, Cond.instanceMethod yX11_worth, Cond.selects RX11 yX11_worth yX11_worth, Cond.code yX11_worth cX11_worth 4 (some .int), Cond.fieldLink RX11 58 "ShipOfficeModel" "textSize" "[I", Cond.methodLink RX11 263 yX11_actOn, Cond.instanceMethod yX11_actOn, Cond.selects RX11 yX11_actOn yX11_actOn, Cond.code yX11_actOn cX11_actOn 5 (some .int), Cond.fieldLink RX11 256 "ShipOfficeModel" "acts" "I", Cond.fieldLink RX11 61 "ShipOfficeModel" "purpose" "[I", Cond.fieldLink RX11 64 "ShipOfficeModel" "from" "[I", Cond.methodLink RX11 259 yX11_goesThrough, Cond.instanceMethod yX11_goesThrough, Cond.selects RX11 yX11_goesThrough yX11_goesThrough]
def wsX11_owedOf_r4 : List Cond := [Cond.code yX11_goesThrough cX11_goesThrough 3 (some .int), Cond.fieldLink RX11 216 "ShipOfficeModel" "base" "I", Cond.fieldLink RX11 213 "ShipOfficeModel" "size" "I", Cond.fieldLink RX11 210 "ShipOfficeModel" "at" "I", Cond.fieldLink RX11 244 "ShipOfficeModel" "deep" "I", Cond.fieldLink RX11 223 "ShipOfficeModel" "isWell" "Z", Cond.methodLink RX11 250 yX11_sum, Cond.instanceMethod yX11_sum, Cond.selects RX11 yX11_sum yX11_sum, Cond.code yX11_sum cX11_sum 4 (some .int), Cond.methodLink RX11 231 yX11_term, Cond.instanceMethod yX11_term, Cond.selects RX11 yX11_term yX11_term, Cond.methodLink RX11 227 yX11_sign, Cond.instanceMethod yX11_sign, Cond.selects RX11 yX11_sign yX11_sign, Cond.code yX11_sign cX11_sign 1 (some .int), Cond.fieldLink RX11 125 "ShipOfficeModel" "tape" "[I", Cond.fieldLink RX11 67 "ShipOfficeModel" "text" "[I", Cond.methodLink RX11 234 yX11_held, Cond.static yX11_held, Cond.code yX11_held cX11_held 2 (some .int), Cond.constantLong RX11 219 (1000000000), Cond.constantLong RX11 221 (-1000000000)]
def wsX11_owedOf_r5 : List Cond := [Cond.code yX11_term cX11_term 4 (some .int), Cond.methodLink RX11 238 yX11_unit, Cond.instanceMethod yX11_unit, Cond.selects RX11 yX11_unit yX11_unit, Cond.code yX11_unit cX11_unit 5 (some .int), Cond.methodLink RX11 241 yX11_isLetter, Cond.static yX11_isLetter, Cond.code yX11_isLetter cX11_isLetter 1 (some .boolean), Cond.methodLink RX11 247 yX11_breaks, Cond.instanceMethod yX11_breaks, Cond.selects RX11 yX11_breaks yX11_breaks, Cond.code yX11_breaks cX11_breaks 1 (some .int), Cond.methodLink RX11 253 yX11_takes, Cond.instanceMethod yX11_takes, Cond.selects RX11 yX11_takes yX11_takes, Cond.code yX11_takes cX11_takes 2 (some .boolean), Cond.methodLink RX11 161 yX11_isIn, Cond.static yX11_isIn, Cond.code yX11_isIn cX11_isIn 2 (some .boolean), Cond.methodLink RX11 315 yX11_standsOf, Cond.instanceMethod yX11_standsOf, Cond.selects RX11 yX11_standsOf yX11_standsOf, Cond.code yX11_standsOf cX11_standsOf 6 (some .int), Cond.fieldLink RX11 112 "ShipOfficeModel" "fineSum" "[I"]
def wsX11_owedOf_r6 : List Cond := [Cond.fieldLink RX11 121 "ShipOfficeModel" "isRead" "[Z", Cond.methodLink RX11 306 yX11_puts, Cond.instanceMethod yX11_puts, Cond.selects RX11 yX11_puts yX11_puts, Cond.code yX11_puts cX11_puts 9 none, Cond.fieldLink RX11 79 "ShipOfficeModel" "rank" "[I", Cond.fieldLink RX11 22 "ShipOfficeModel" "born" "[I", Cond.fieldLink RX11 70 "ShipOfficeModel" "man" "[I", Cond.methodLink RX11 269 yX11_aboardOf, Cond.instanceMethod yX11_aboardOf, Cond.selects RX11 yX11_aboardOf yX11_aboardOf, Cond.code yX11_aboardOf cX11_aboardOf 6 (some .int), Cond.fieldLink RX11 168 "ShipOfficeModel" "agreements" "I"]
def wsX11_owedOf : List Cond := .code yX11_owedOf cX11_owedOf 8 (some .int) :: ((wsX11_owedOf_r1 ++ (wsX11_owedOf_r2 ++ (wsX11_owedOf_r3 ++ (wsX11_owedOf_r4 ++ (wsX11_owedOf_r5 ++ wsX11_owedOf_r6))))) ++ wsX110)
theorem il_X11_owedOf_1 : ∀ w ∈ wsX11_owedOf_r1, w ∈ wsX11_owedOf := fun w h => (List.mem_cons_of_mem _ (List.mem_append_left _ (List.mem_append_left _ h)))
theorem il_X11_owedOf_2 : ∀ w ∈ wsX11_owedOf_r2, w ∈ wsX11_owedOf := fun w h => (List.mem_cons_of_mem _ (List.mem_append_left _ (List.mem_append_right _ (List.mem_append_left _ h))))
theorem il_X11_owedOf_3 : ∀ w ∈ wsX11_owedOf_r3, w ∈ wsX11_owedOf := fun w h => (List.mem_cons_of_mem _ (List.mem_append_left _ (List.mem_append_right _ (List.mem_append_right _ (List.mem_append_left _ h)))))
theorem il_X11_owedOf_4 : ∀ w ∈ wsX11_owedOf_r4, w ∈ wsX11_owedOf := fun w h => (List.mem_cons_of_mem _ (List.mem_append_left _ (List.mem_append_right _ (List.mem_append_right _ (List.mem_append_right _ (List.mem_append_left _ h))))))
theorem il_X11_owedOf_5 : ∀ w ∈ wsX11_owedOf_r5, w ∈ wsX11_owedOf := fun w h => (List.mem_cons_of_mem _ (List.mem_append_left _ (List.mem_append_right _ (List.mem_append_right _ (List.mem_append_right _ (List.mem_append_right _ (List.mem_append_left _ h)))))))
theorem il_X11_owedOf_6 : ∀ w ∈ wsX11_owedOf_r6, w ∈ wsX11_owedOf := fun w h => (List.mem_cons_of_mem _ (List.mem_append_left _ (List.mem_append_right _ (List.mem_append_right _ (List.mem_append_right _ (List.mem_append_right _ (List.mem_append_right _ h)))))))
theorem il_X11_owedOf_7 : ∀ w ∈ wsX110, w ∈ wsX11_owedOf := fun w h => (List.mem_cons_of_mem _ (List.mem_append_right _ h))
theorem iw_X11_owedOf_1 : Cond.fieldLink RX11 85 "ShipOfficeModel" "signed" "[I" ∈ wsX11_owedOf := (mmI il_X11_owedOf_1 0 rfl)
theorem iw_X11_owedOf_2 : Cond.fieldLink RX11 76 "ShipOfficeModel" "wage" "[I" ∈ wsX11_owedOf := (mmI il_X11_owedOf_1 1 rfl)
theorem iw_X11_owedOf_3 : Cond.fieldLink RX11 73 "ShipOfficeModel" "voyage" "[I" ∈ wsX11_owedOf := (mmI il_X11_owedOf_1 3 rfl)
theorem iw_X11_owedOf_4 : Cond.fieldLink RX11 100 "ShipOfficeModel" "fines" "[I" ∈ wsX11_owedOf := (mmI il_X11_owedOf_1 6 rfl)
theorem iw_X11_owedOf_5 : Cond.fieldLink RX11 103 "ShipOfficeModel" "shorts" "[I" ∈ wsX11_owedOf := (mmI il_X11_owedOf_1 8 rfl)
theorem iw_X11_owedOf_6 : Cond.fieldLink RX11 52 "ShipOfficeModel" "way" "[I" ∈ wsX11_owedOf := (mmI il_X11_owedOf_1 11 rfl)
theorem iw_X11_owedOf_7 : Cond.fieldLink RX11 115 "ShipOfficeModel" "shortOn" "[I" ∈ wsX11_owedOf := (mmI il_X11_owedOf_1 9 rfl)
theorem iw_X11_owedOf_8 : Cond.fieldLink RX11 118 "ShipOfficeModel" "shortSum" "[I" ∈ wsX11_owedOf := (mmI il_X11_owedOf_1 10 rfl)
theorem iw_X11_owedOf_9 : Cond.fieldLink RX11 109 "ShipOfficeModel" "fineDay" "[I" ∈ wsX11_owedOf := (mmI il_X11_owedOf_1 7 rfl)
theorem iw_X11_owedOf_10 : Cond.fieldLink RX11 97 "ShipOfficeModel" "allotted" "[I" ∈ wsX11_owedOf := (mmI il_X11_owedOf_1 5 rfl)
theorem iw_X11_owedOf_11 : Cond.fieldLink RX11 91 "ShipOfficeModel" "note" "[I" ∈ wsX11_owedOf := (mmI il_X11_owedOf_1 4 rfl)
set_option maxRecDepth 100000 in
theorem ggX11_owedOf_X11_earnsOf : GoodIn wsX11_owedOf wsX11_earnsOf := goodIn_sub (mmC (mmI il_X11_owedOf_1 17 rfl) (mmA (mmA (mmC (mmI il_X11_owedOf_1 3 rfl) (mmC (mmI il_X11_owedOf_1 0 rfl) (mmC (mmI il_X11_owedOf_1 18 rfl) (mmC (mmI il_X11_owedOf_1 19 rfl) (mmC (mmI il_X11_owedOf_1 20 rfl) (mmC (mmI il_X11_owedOf_1 16 rfl) (mmC (mmI il_X11_owedOf_1 21 rfl) (mmC (mmI il_X11_owedOf_1 22 rfl) (mmC (mmI il_X11_owedOf_1 23 rfl) (mmC (mmI il_X11_owedOf_2 0 rfl) (mmC (mmI il_X11_owedOf_2 1 rfl) (mmC (mmI il_X11_owedOf_2 2 rfl) (mmC (mmI il_X11_owedOf_2 3 rfl) (mmC (mmI il_X11_owedOf_2 4 rfl) (mmC (mmI il_X11_owedOf_2 5 rfl) (mmC (mmI il_X11_owedOf_2 6 rfl) (mmC (mmI il_X11_owedOf_2 7 rfl) (mmC (mmI il_X11_owedOf_2 8 rfl) (mmC (mmI il_X11_owedOf_2 9 rfl) (mmC (mmI il_X11_owedOf_2 10 rfl) (mmC (mmI il_X11_owedOf_2 11 rfl) (mmC (mmI il_X11_owedOf_2 12 rfl) (mmC (mmI il_X11_owedOf_2 13 rfl) (mmC (mmI il_X11_owedOf_2 14 rfl) mmN)))))))))))))))))))))))) (mmA (mmC (mmI il_X11_owedOf_2 15 rfl) (mmC (mmI il_X11_owedOf_2 16 rfl) (mmC (mmI il_X11_owedOf_2 17 rfl) (mmC (mmI il_X11_owedOf_2 18 rfl) (mmC (mmI il_X11_owedOf_2 19 rfl) (mmC (mmI il_X11_owedOf_2 20 rfl) (mmC (mmI il_X11_owedOf_2 21 rfl) (mmC (mmI il_X11_owedOf_2 22 rfl) (mmC (mmI il_X11_owedOf_2 23 rfl) (mmC (mmI il_X11_owedOf_3 0 rfl) (mmC (mmI il_X11_owedOf_3 1 rfl) (mmC (mmI il_X11_owedOf_3 2 rfl) (mmC (mmI il_X11_owedOf_3 3 rfl) (mmC (mmI il_X11_owedOf_3 4 rfl) (mmC (mmI il_X11_owedOf_3 5 rfl) (mmC (mmI il_X11_owedOf_3 6 rfl) (mmC (mmI il_X11_owedOf_3 7 rfl) (mmC (mmI il_X11_owedOf_3 8 rfl) (mmC (mmI il_X11_owedOf_3 9 rfl) (mmC (mmI il_X11_owedOf_3 10 rfl) (mmC (mmI il_X11_owedOf_3 11 rfl) (mmC (mmI il_X11_owedOf_3 12 rfl) (mmC (mmI il_X11_owedOf_3 13 rfl) (mmC (mmI il_X11_owedOf_3 14 rfl) mmN)))))))))))))))))))))))) (mmA (mmC (mmI il_X11_owedOf_3 15 rfl) (mmC (mmI il_X11_owedOf_3 16 rfl) (mmC (mmI il_X11_owedOf_3 17 rfl) (mmC (mmI il_X11_owedOf_3 18 rfl) (mmC (mmI il_X11_owedOf_3 19 rfl) (mmC (mmI il_X11_owedOf_3 20 rfl) (mmC (mmI il_X11_owedOf_3 21 rfl) (mmC (mmI il_X11_owedOf_3 22 rfl) (mmC (mmI il_X11_owedOf_3 23 rfl) (mmC (mmI il_X11_owedOf_4 0 rfl) (mmC (mmI il_X11_owedOf_4 1 rfl) (mmC (mmI il_X11_owedOf_4 2 rfl) (mmC (mmI il_X11_owedOf_4 3 rfl) (mmC (mmI il_X11_owedOf_4 4 rfl) (mmC (mmI il_X11_owedOf_4 5 rfl) (mmC (mmI il_X11_owedOf_4 6 rfl) (mmC (mmI il_X11_owedOf_4 7 rfl) (mmC (mmI il_X11_owedOf_4 8 rfl) (mmC (mmI il_X11_owedOf_4 9 rfl) (mmC (mmI il_X11_owedOf_4 10 rfl) (mmC (mmI il_X11_owedOf_4 11 rfl) (mmC (mmI il_X11_owedOf_4 12 rfl) (mmC (mmI il_X11_owedOf_4 13 rfl) (mmC (mmI il_X11_owedOf_4 14 rfl) mmN)))))))))))))))))))))))) (mmA (mmC (mmI il_X11_owedOf_4 15 rfl) (mmC (mmI il_X11_owedOf_4 16 rfl) (mmC (mmI il_X11_owedOf_4 17 rfl) (mmC (mmI il_X11_owedOf_4 18 rfl) (mmC (mmI il_X11_owedOf_4 19 rfl) (mmC (mmI il_X11_owedOf_4 20 rfl) (mmC (mmI il_X11_owedOf_4 21 rfl) (mmC (mmI il_X11_owedOf_4 22 rfl) (mmC (mmI il_X11_owedOf_4 23 rfl) (mmC (mmI il_X11_owedOf_5 0 rfl) (mmC (mmI il_X11_owedOf_5 1 rfl) (mmC (mmI il_X11_owedOf_5 2 rfl) (mmC (mmI il_X11_owedOf_5 3 rfl) (mmC (mmI il_X11_owedOf_5 4 rfl) (mmC (mmI il_X11_owedOf_5 5 rfl) (mmC (mmI il_X11_owedOf_5 6 rfl) (mmC (mmI il_X11_owedOf_5 7 rfl) (mmC (mmI il_X11_owedOf_5 8 rfl) (mmC (mmI il_X11_owedOf_5 9 rfl) (mmC (mmI il_X11_owedOf_5 10 rfl) (mmC (mmI il_X11_owedOf_5 11 rfl) (mmC (mmI il_X11_owedOf_5 12 rfl) (mmC (mmI il_X11_owedOf_5 13 rfl) (mmC (mmI il_X11_owedOf_5 14 rfl) mmN)))))))))))))))))))))))) (mmC (mmI il_X11_owedOf_5 15 rfl) (mmC (mmI il_X11_owedOf_5 16 rfl) (mmC (mmI il_X11_owedOf_5 17 rfl) (mmC (mmI il_X11_owedOf_5 18 rfl) mmN)))))))) il_X11_owedOf_7)) gw_X11_earnsOf
theorem gX11_owedOf_X11_earnsOf : GoodIn wsX11_owedOf (wsV RX11 303 RX11 yX11_earnsOf wsX11_earnsOf) := goodIn_app (goodIn_sub (mmC (mmI il_X11_owedOf_1 13 rfl) (mmC (mmI il_X11_owedOf_1 14 rfl) (mmC (mmI il_X11_owedOf_1 15 rfl) (mmC (mmI il_X11_owedOf_1 16 rfl) mmN)))) (by decide +kernel)) ggX11_owedOf_X11_earnsOf
set_option maxRecDepth 100000 in
theorem ggX11_owedOf_X11_sailedOn : GoodIn wsX11_owedOf wsX11_sailedOn := goodIn_sub (mmC (mmI il_X11_owedOf_2 19 rfl) (mmA (mmC (mmI il_X11_owedOf_2 4 rfl) (mmC (mmI il_X11_owedOf_1 23 rfl) (mmC (mmI il_X11_owedOf_2 5 rfl) (mmC (mmI il_X11_owedOf_2 6 rfl) (mmC (mmI il_X11_owedOf_2 7 rfl) mmN))))) il_X11_owedOf_7)) gw_X11_sailedOn
theorem gX11_owedOf_X11_sailedOn : GoodIn wsX11_owedOf (wsV RX11 278 RX11 yX11_sailedOn wsX11_sailedOn) := goodIn_app (goodIn_sub (mmC (mmI il_X11_owedOf_2 16 rfl) (mmC (mmI il_X11_owedOf_2 17 rfl) (mmC (mmI il_X11_owedOf_2 18 rfl) (mmC (mmI il_X11_owedOf_1 16 rfl) mmN)))) (by decide +kernel)) ggX11_owedOf_X11_sailedOn
set_option maxRecDepth 100000 in
theorem ggX11_owedOf_X11_stateOf : GoodIn wsX11_owedOf wsX11_stateOf := goodIn_sub (mmC (mmI il_X11_owedOf_1 21 rfl) (mmA (mmA (mmC (mmI il_X11_owedOf_1 0 rfl) (mmC (mmI il_X11_owedOf_1 22 rfl) (mmC (mmI il_X11_owedOf_1 23 rfl) (mmC (mmI il_X11_owedOf_1 3 rfl) (mmC (mmI il_X11_owedOf_2 0 rfl) (mmC (mmI il_X11_owedOf_2 1 rfl) (mmC (mmI il_X11_owedOf_2 2 rfl) (mmC (mmI il_X11_owedOf_1 16 rfl) (mmC (mmI il_X11_owedOf_2 3 rfl) (mmC (mmI il_X11_owedOf_2 4 rfl) (mmC (mmI il_X11_owedOf_2 5 rfl) (mmC (mmI il_X11_owedOf_2 6 rfl) (mmC (mmI il_X11_owedOf_2 7 rfl) (mmC (mmI il_X11_owedOf_2 8 rfl) (mmC (mmI il_X11_owedOf_2 9 rfl) (mmC (mmI il_X11_owedOf_2 10 rfl) (mmC (mmI il_X11_owedOf_2 11 rfl) (mmC (mmI il_X11_owedOf_2 12 rfl) (mmC (mmI il_X11_owedOf_2 13 rfl) (mmC (mmI il_X11_owedOf_2 14 rfl) (mmC (mmI il_X11_owedOf_2 15 rfl) (mmC (mmI il_X11_owedOf_2 16 rfl) (mmC (mmI il_X11_owedOf_2 17 rfl) (mmC (mmI il_X11_owedOf_2 18 rfl) mmN)))))))))))))))))))))))) (mmA (mmC (mmI il_X11_owedOf_2 19 rfl) (mmC (mmI il_X11_owedOf_2 20 rfl) (mmC (mmI il_X11_owedOf_2 21 rfl) (mmC (mmI il_X11_owedOf_2 22 rfl) (mmC (mmI il_X11_owedOf_2 23 rfl) (mmC (mmI il_X11_owedOf_3 0 rfl) (mmC (mmI il_X11_owedOf_3 1 rfl) (mmC (mmI il_X11_owedOf_3 2 rfl) (mmC (mmI il_X11_owedOf_3 3 rfl) (mmC (mmI il_X11_owedOf_3 4 rfl) (mmC (mmI il_X11_owedOf_3 5 rfl) (mmC (mmI il_X11_owedOf_3 6 rfl) (mmC (mmI il_X11_owedOf_3 7 rfl) (mmC (mmI il_X11_owedOf_3 8 rfl) (mmC (mmI il_X11_owedOf_3 9 rfl) (mmC (mmI il_X11_owedOf_3 10 rfl) (mmC (mmI il_X11_owedOf_3 11 rfl) (mmC (mmI il_X11_owedOf_3 12 rfl) (mmC (mmI il_X11_owedOf_3 13 rfl) (mmC (mmI il_X11_owedOf_3 14 rfl) (mmC (mmI il_X11_owedOf_3 15 rfl) (mmC (mmI il_X11_owedOf_3 16 rfl) (mmC (mmI il_X11_owedOf_3 17 rfl) (mmC (mmI il_X11_owedOf_3 18 rfl) mmN)))))))))))))))))))))))) (mmA (mmC (mmI il_X11_owedOf_3 19 rfl) (mmC (mmI il_X11_owedOf_3 20 rfl) (mmC (mmI il_X11_owedOf_3 21 rfl) (mmC (mmI il_X11_owedOf_3 22 rfl) (mmC (mmI il_X11_owedOf_3 23 rfl) (mmC (mmI il_X11_owedOf_4 0 rfl) (mmC (mmI il_X11_owedOf_4 1 rfl) (mmC (mmI il_X11_owedOf_4 2 rfl) (mmC (mmI il_X11_owedOf_4 3 rfl) (mmC (mmI il_X11_owedOf_4 4 rfl) (mmC (mmI il_X11_owedOf_4 5 rfl) (mmC (mmI il_X11_owedOf_4 6 rfl) (mmC (mmI il_X11_owedOf_4 7 rfl) (mmC (mmI il_X11_owedOf_4 8 rfl) (mmC (mmI il_X11_owedOf_4 9 rfl) (mmC (mmI il_X11_owedOf_4 10 rfl) (mmC (mmI il_X11_owedOf_4 11 rfl) (mmC (mmI il_X11_owedOf_4 12 rfl) (mmC (mmI il_X11_owedOf_4 13 rfl) (mmC (mmI il_X11_owedOf_4 14 rfl) (mmC (mmI il_X11_owedOf_4 15 rfl) (mmC (mmI il_X11_owedOf_4 16 rfl) (mmC (mmI il_X11_owedOf_4 17 rfl) (mmC (mmI il_X11_owedOf_4 18 rfl) mmN)))))))))))))))))))))))) (mmC (mmI il_X11_owedOf_4 19 rfl) (mmC (mmI il_X11_owedOf_4 20 rfl) (mmC (mmI il_X11_owedOf_4 21 rfl) (mmC (mmI il_X11_owedOf_4 22 rfl) (mmC (mmI il_X11_owedOf_4 23 rfl) (mmC (mmI il_X11_owedOf_5 0 rfl) (mmC (mmI il_X11_owedOf_5 1 rfl) (mmC (mmI il_X11_owedOf_5 2 rfl) (mmC (mmI il_X11_owedOf_5 3 rfl) (mmC (mmI il_X11_owedOf_5 4 rfl) (mmC (mmI il_X11_owedOf_5 5 rfl) (mmC (mmI il_X11_owedOf_5 6 rfl) (mmC (mmI il_X11_owedOf_5 7 rfl) (mmC (mmI il_X11_owedOf_5 8 rfl) (mmC (mmI il_X11_owedOf_5 9 rfl) (mmC (mmI il_X11_owedOf_5 10 rfl) (mmC (mmI il_X11_owedOf_5 11 rfl) (mmC (mmI il_X11_owedOf_5 12 rfl) (mmC (mmI il_X11_owedOf_5 13 rfl) (mmC (mmI il_X11_owedOf_5 14 rfl) (mmC (mmI il_X11_owedOf_5 15 rfl) mmN)))))))))))))))))))))))) il_X11_owedOf_7)) gw_X11_stateOf
theorem gX11_owedOf_X11_stateOf : GoodIn wsX11_owedOf (wsV RX11 266 RX11 yX11_stateOf wsX11_stateOf) := goodIn_app (goodIn_sub (mmC (mmI il_X11_owedOf_1 18 rfl) (mmC (mmI il_X11_owedOf_1 19 rfl) (mmC (mmI il_X11_owedOf_1 20 rfl) (mmC (mmI il_X11_owedOf_1 16 rfl) mmN)))) (by decide +kernel)) ggX11_owedOf_X11_stateOf
set_option maxRecDepth 100000 in
theorem ggX11_owedOf_X11_standsOf : GoodIn wsX11_owedOf wsX11_standsOf := goodIn_sub (mmC (mmI il_X11_owedOf_5 22 rfl) (mmA (mmA (mmC (mmI il_X11_owedOf_1 7 rfl) (mmC (mmI il_X11_owedOf_5 23 rfl) (mmC (mmI il_X11_owedOf_6 0 rfl) (mmC (mmI il_X11_owedOf_6 1 rfl) (mmC (mmI il_X11_owedOf_6 2 rfl) (mmC (mmI il_X11_owedOf_6 3 rfl) (mmC (mmI il_X11_owedOf_1 16 rfl) (mmC (mmI il_X11_owedOf_6 4 rfl) (mmC (mmI il_X11_owedOf_1 0 rfl) (mmC (mmI il_X11_owedOf_1 3 rfl) (mmC (mmI il_X11_owedOf_3 4 rfl) (mmC (mmI il_X11_owedOf_1 1 rfl) (mmC (mmI il_X11_owedOf_6 5 rfl) (mmC (mmI il_X11_owedOf_6 6 rfl) (mmC (mmI il_X11_owedOf_6 7 rfl) (mmC (mmI il_X11_owedOf_1 18 rfl) (mmC (mmI il_X11_owedOf_1 19 rfl) (mmC (mmI il_X11_owedOf_1 20 rfl) (mmC (mmI il_X11_owedOf_1 21 rfl) (mmC (mmI il_X11_owedOf_1 22 rfl) (mmC (mmI il_X11_owedOf_1 23 rfl) (mmC (mmI il_X11_owedOf_2 0 rfl) (mmC (mmI il_X11_owedOf_2 1 rfl) (mmC (mmI il_X11_owedOf_2 2 rfl) mmN)))))))))))))))))))))))) (mmA (mmC (mmI il_X11_owedOf_2 3 rfl) (mmC (mmI il_X11_owedOf_2 4 rfl) (mmC (mmI il_X11_owedOf_2 5 rfl) (mmC (mmI il_X11_owedOf_2 6 rfl) (mmC (mmI il_X11_owedOf_2 7 rfl) (mmC (mmI il_X11_owedOf_2 8 rfl) (mmC (mmI il_X11_owedOf_2 9 rfl) (mmC (mmI il_X11_owedOf_2 10 rfl) (mmC (mmI il_X11_owedOf_2 11 rfl) (mmC (mmI il_X11_owedOf_2 12 rfl) (mmC (mmI il_X11_owedOf_2 13 rfl) (mmC (mmI il_X11_owedOf_2 14 rfl) (mmC (mmI il_X11_owedOf_2 15 rfl) (mmC (mmI il_X11_owedOf_2 16 rfl) (mmC (mmI il_X11_owedOf_2 17 rfl) (mmC (mmI il_X11_owedOf_2 18 rfl) (mmC (mmI il_X11_owedOf_2 19 rfl) (mmC (mmI il_X11_owedOf_2 20 rfl) (mmC (mmI il_X11_owedOf_2 21 rfl) (mmC (mmI il_X11_owedOf_2 22 rfl) (mmC (mmI il_X11_owedOf_2 23 rfl) (mmC (mmI il_X11_owedOf_3 0 rfl) (mmC (mmI il_X11_owedOf_3 1 rfl) (mmC (mmI il_X11_owedOf_3 2 rfl) mmN)))))))))))))))))))))))) (mmA (mmC (mmI il_X11_owedOf_3 3 rfl) (mmC (mmI il_X11_owedOf_3 5 rfl) (mmC (mmI il_X11_owedOf_3 6 rfl) (mmC (mmI il_X11_owedOf_3 7 rfl) (mmC (mmI il_X11_owedOf_3 8 rfl) (mmC (mmI il_X11_owedOf_3 9 rfl) (mmC (mmI il_X11_owedOf_3 10 rfl) (mmC (mmI il_X11_owedOf_3 11 rfl) (mmC (mmI il_X11_owedOf_3 12 rfl) (mmC (mmI il_X11_owedOf_3 13 rfl) (mmC (mmI il_X11_owedOf_3 14 rfl) (mmC (mmI il_X11_owedOf_3 15 rfl) (mmC (mmI il_X11_owedOf_3 16 rfl) (mmC (mmI il_X11_owedOf_3 17 rfl) (mmC (mmI il_X11_owedOf_3 18 rfl) (mmC (mmI il_X11_owedOf_3 19 rfl) (mmC (mmI il_X11_owedOf_3 20 rfl) (mmC (mmI il_X11_owedOf_3 21 rfl) (mmC (mmI il_X11_owedOf_3 22 rfl) (mmC (mmI il_X11_owedOf_3 23 rfl) (mmC (mmI il_X11_owedOf_4 0 rfl) (mmC (mmI il_X11_owedOf_4 1 rfl) (mmC (mmI il_X11_owedOf_4 2 rfl) (mmC (mmI il_X11_owedOf_4 3 rfl) mmN)))))))))))))))))))))))) (mmA (mmC (mmI il_X11_owedOf_4 4 rfl) (mmC (mmI il_X11_owedOf_4 5 rfl) (mmC (mmI il_X11_owedOf_4 6 rfl) (mmC (mmI il_X11_owedOf_4 7 rfl) (mmC (mmI il_X11_owedOf_4 8 rfl) (mmC (mmI il_X11_owedOf_4 9 rfl) (mmC (mmI il_X11_owedOf_4 10 rfl) (mmC (mmI il_X11_owedOf_4 11 rfl) (mmC (mmI il_X11_owedOf_4 12 rfl) (mmC (mmI il_X11_owedOf_4 13 rfl) (mmC (mmI il_X11_owedOf_4 14 rfl) (mmC (mmI il_X11_owedOf_4 15 rfl) (mmC (mmI il_X11_owedOf_4 16 rfl) (mmC (mmI il_X11_owedOf_4 17 rfl) (mmC (mmI il_X11_owedOf_4 18 rfl) (mmC (mmI il_X11_owedOf_4 19 rfl) (mmC (mmI il_X11_owedOf_4 20 rfl) (mmC (mmI il_X11_owedOf_4 21 rfl) (mmC (mmI il_X11_owedOf_4 22 rfl) (mmC (mmI il_X11_owedOf_4 23 rfl) (mmC (mmI il_X11_owedOf_5 0 rfl) (mmC (mmI il_X11_owedOf_5 1 rfl) (mmC (mmI il_X11_owedOf_5 2 rfl) (mmC (mmI il_X11_owedOf_5 3 rfl) mmN)))))))))))))))))))))))) (mmC (mmI il_X11_owedOf_5 4 rfl) (mmC (mmI il_X11_owedOf_5 5 rfl) (mmC (mmI il_X11_owedOf_5 6 rfl) (mmC (mmI il_X11_owedOf_5 7 rfl) (mmC (mmI il_X11_owedOf_5 8 rfl) (mmC (mmI il_X11_owedOf_5 9 rfl) (mmC (mmI il_X11_owedOf_5 10 rfl) (mmC (mmI il_X11_owedOf_5 11 rfl) (mmC (mmI il_X11_owedOf_5 12 rfl) (mmC (mmI il_X11_owedOf_5 13 rfl) (mmC (mmI il_X11_owedOf_5 14 rfl) (mmC (mmI il_X11_owedOf_5 15 rfl) (mmC (mmI il_X11_owedOf_6 8 rfl) (mmC (mmI il_X11_owedOf_6 9 rfl) (mmC (mmI il_X11_owedOf_6 10 rfl) (mmC (mmI il_X11_owedOf_6 11 rfl) (mmC (mmI il_X11_owedOf_6 12 rfl) mmN))))))))))))))))))))) il_X11_owedOf_7)) gw_X11_standsOf
theorem gX11_owedOf_X11_standsOf : GoodIn wsX11_owedOf (wsV RX11 315 RX11 yX11_standsOf wsX11_standsOf) := goodIn_app (goodIn_sub (mmC (mmI il_X11_owedOf_5 19 rfl) (mmC (mmI il_X11_owedOf_5 20 rfl) (mmC (mmI il_X11_owedOf_5 21 rfl) (mmC (mmI il_X11_owedOf_1 16 rfl) mmN)))) (by decide +kernel)) ggX11_owedOf_X11_standsOf
set_option maxRecDepth 100000 in
theorem ggX11_owedOf_X11_whereOf : GoodIn wsX11_owedOf wsX11_whereOf := goodIn_sub (mmC (mmI il_X11_owedOf_2 11 rfl) (mmA (mmC (mmI il_X11_owedOf_2 4 rfl) (mmC (mmI il_X11_owedOf_1 23 rfl) (mmC (mmI il_X11_owedOf_2 5 rfl) (mmC (mmI il_X11_owedOf_2 6 rfl) (mmC (mmI il_X11_owedOf_2 7 rfl) mmN))))) il_X11_owedOf_7)) gw_X11_whereOf
theorem gX11_owedOf_X11_whereOf : GoodIn wsX11_owedOf (wsV RX11 291 RX11 yX11_whereOf wsX11_whereOf) := goodIn_app (goodIn_sub (mmC (mmI il_X11_owedOf_2 8 rfl) (mmC (mmI il_X11_owedOf_2 9 rfl) (mmC (mmI il_X11_owedOf_2 10 rfl) (mmC (mmI il_X11_owedOf_1 16 rfl) mmN)))) (by decide +kernel)) ggX11_owedOf_X11_whereOf
set_option maxRecDepth 100000 in
theorem ggX11_owedOf_X11_puts : GoodIn wsX11_owedOf wsX11_puts := goodIn_sub (mmC (mmI il_X11_owedOf_6 4 rfl) (mmA (mmA (mmC (mmI il_X11_owedOf_1 0 rfl) (mmC (mmI il_X11_owedOf_1 3 rfl) (mmC (mmI il_X11_owedOf_3 4 rfl) (mmC (mmI il_X11_owedOf_1 1 rfl) (mmC (mmI il_X11_owedOf_6 5 rfl) (mmC (mmI il_X11_owedOf_6 6 rfl) (mmC (mmI il_X11_owedOf_6 7 rfl) (mmC (mmI il_X11_owedOf_1 18 rfl) (mmC (mmI il_X11_owedOf_1 19 rfl) (mmC (mmI il_X11_owedOf_1 20 rfl) (mmC (mmI il_X11_owedOf_1 16 rfl) (mmC (mmI il_X11_owedOf_1 21 rfl) (mmC (mmI il_X11_owedOf_1 22 rfl) (mmC (mmI il_X11_owedOf_1 23 rfl) (mmC (mmI il_X11_owedOf_2 0 rfl) (mmC (mmI il_X11_owedOf_2 1 rfl) (mmC (mmI il_X11_owedOf_2 2 rfl) (mmC (mmI il_X11_owedOf_2 3 rfl) (mmC (mmI il_X11_owedOf_2 4 rfl) (mmC (mmI il_X11_owedOf_2 5 rfl) (mmC (mmI il_X11_owedOf_2 6 rfl) (mmC (mmI il_X11_owedOf_2 7 rfl) (mmC (mmI il_X11_owedOf_2 8 rfl) (mmC (mmI il_X11_owedOf_2 9 rfl) mmN)))))))))))))))))))))))) (mmA (mmC (mmI il_X11_owedOf_2 10 rfl) (mmC (mmI il_X11_owedOf_2 11 rfl) (mmC (mmI il_X11_owedOf_2 12 rfl) (mmC (mmI il_X11_owedOf_2 13 rfl) (mmC (mmI il_X11_owedOf_2 14 rfl) (mmC (mmI il_X11_owedOf_2 15 rfl) (mmC (mmI il_X11_owedOf_2 16 rfl) (mmC (mmI il_X11_owedOf_2 17 rfl) (mmC (mmI il_X11_owedOf_2 18 rfl) (mmC (mmI il_X11_owedOf_2 19 rfl) (mmC (mmI il_X11_owedOf_2 20 rfl) (mmC (mmI il_X11_owedOf_2 21 rfl) (mmC (mmI il_X11_owedOf_2 22 rfl) (mmC (mmI il_X11_owedOf_2 23 rfl) (mmC (mmI il_X11_owedOf_3 0 rfl) (mmC (mmI il_X11_owedOf_3 1 rfl) (mmC (mmI il_X11_owedOf_3 2 rfl) (mmC (mmI il_X11_owedOf_3 3 rfl) (mmC (mmI il_X11_owedOf_3 5 rfl) (mmC (mmI il_X11_owedOf_3 6 rfl) (mmC (mmI il_X11_owedOf_3 7 rfl) (mmC (mmI il_X11_owedOf_3 8 rfl) (mmC (mmI il_X11_owedOf_3 9 rfl) (mmC (mmI il_X11_owedOf_3 10 rfl) mmN)))))))))))))))))))))))) (mmA (mmC (mmI il_X11_owedOf_3 11 rfl) (mmC (mmI il_X11_owedOf_3 12 rfl) (mmC (mmI il_X11_owedOf_3 13 rfl) (mmC (mmI il_X11_owedOf_3 14 rfl) (mmC (mmI il_X11_owedOf_3 15 rfl) (mmC (mmI il_X11_owedOf_3 16 rfl) (mmC (mmI il_X11_owedOf_3 17 rfl) (mmC (mmI il_X11_owedOf_3 18 rfl) (mmC (mmI il_X11_owedOf_3 19 rfl) (mmC (mmI il_X11_owedOf_3 20 rfl) (mmC (mmI il_X11_owedOf_3 21 rfl) (mmC (mmI il_X11_owedOf_3 22 rfl) (mmC (mmI il_X11_owedOf_3 23 rfl) (mmC (mmI il_X11_owedOf_4 0 rfl) (mmC (mmI il_X11_owedOf_4 1 rfl) (mmC (mmI il_X11_owedOf_4 2 rfl) (mmC (mmI il_X11_owedOf_4 3 rfl) (mmC (mmI il_X11_owedOf_4 4 rfl) (mmC (mmI il_X11_owedOf_4 5 rfl) (mmC (mmI il_X11_owedOf_4 6 rfl) (mmC (mmI il_X11_owedOf_4 7 rfl) (mmC (mmI il_X11_owedOf_4 8 rfl) (mmC (mmI il_X11_owedOf_4 9 rfl) (mmC (mmI il_X11_owedOf_4 10 rfl) mmN)))))))))))))))))))))))) (mmA (mmC (mmI il_X11_owedOf_4 11 rfl) (mmC (mmI il_X11_owedOf_4 12 rfl) (mmC (mmI il_X11_owedOf_4 13 rfl) (mmC (mmI il_X11_owedOf_4 14 rfl) (mmC (mmI il_X11_owedOf_4 15 rfl) (mmC (mmI il_X11_owedOf_4 16 rfl) (mmC (mmI il_X11_owedOf_4 17 rfl) (mmC (mmI il_X11_owedOf_4 18 rfl) (mmC (mmI il_X11_owedOf_4 19 rfl) (mmC (mmI il_X11_owedOf_4 20 rfl) (mmC (mmI il_X11_owedOf_4 21 rfl) (mmC (mmI il_X11_owedOf_4 22 rfl) (mmC (mmI il_X11_owedOf_4 23 rfl) (mmC (mmI il_X11_owedOf_5 0 rfl) (mmC (mmI il_X11_owedOf_5 1 rfl) (mmC (mmI il_X11_owedOf_5 2 rfl) (mmC (mmI il_X11_owedOf_5 3 rfl) (mmC (mmI il_X11_owedOf_5 4 rfl) (mmC (mmI il_X11_owedOf_5 5 rfl) (mmC (mmI il_X11_owedOf_5 6 rfl) (mmC (mmI il_X11_owedOf_5 7 rfl) (mmC (mmI il_X11_owedOf_5 8 rfl) (mmC (mmI il_X11_owedOf_5 9 rfl) (mmC (mmI il_X11_owedOf_5 10 rfl) mmN)))))))))))))))))))))))) (mmC (mmI il_X11_owedOf_5 11 rfl) (mmC (mmI il_X11_owedOf_5 12 rfl) (mmC (mmI il_X11_owedOf_5 13 rfl) (mmC (mmI il_X11_owedOf_5 14 rfl) (mmC (mmI il_X11_owedOf_5 15 rfl) (mmC (mmI il_X11_owedOf_6 8 rfl) (mmC (mmI il_X11_owedOf_6 9 rfl) (mmC (mmI il_X11_owedOf_6 10 rfl) (mmC (mmI il_X11_owedOf_6 11 rfl) (mmC (mmI il_X11_owedOf_6 12 rfl) mmN)))))))))))))) il_X11_owedOf_7)) gw_X11_puts
theorem gX11_owedOf_X11_puts : GoodIn wsX11_owedOf (wsV RX11 306 RX11 yX11_puts wsX11_puts) := goodIn_app (goodIn_sub (mmC (mmI il_X11_owedOf_6 1 rfl) (mmC (mmI il_X11_owedOf_6 2 rfl) (mmC (mmI il_X11_owedOf_6 3 rfl) (mmC (mmI il_X11_owedOf_1 16 rfl) mmN)))) (by decide +kernel)) ggX11_owedOf_X11_puts
set_option maxRecDepth 100000 in
theorem ggX11_owedOf_X11_worth : GoodIn wsX11_owedOf wsX11_worth := goodIn_sub (mmC (mmI il_X11_owedOf_3 12 rfl) (mmA (mmA (mmC (mmI il_X11_owedOf_3 13 rfl) (mmC (mmI il_X11_owedOf_3 4 rfl) (mmC (mmI il_X11_owedOf_3 14 rfl) (mmC (mmI il_X11_owedOf_3 15 rfl) (mmC (mmI il_X11_owedOf_3 16 rfl) (mmC (mmI il_X11_owedOf_1 16 rfl) (mmC (mmI il_X11_owedOf_3 17 rfl) (mmC (mmI il_X11_owedOf_3 18 rfl) (mmC (mmI il_X11_owedOf_3 19 rfl) (mmC (mmI il_X11_owedOf_3 20 rfl) (mmC (mmI il_X11_owedOf_3 21 rfl) (mmC (mmI il_X11_owedOf_3 22 rfl) (mmC (mmI il_X11_owedOf_3 23 rfl) (mmC (mmI il_X11_owedOf_4 0 rfl) (mmC (mmI il_X11_owedOf_4 1 rfl) (mmC (mmI il_X11_owedOf_4 2 rfl) (mmC (mmI il_X11_owedOf_4 3 rfl) (mmC (mmI il_X11_owedOf_4 4 rfl) (mmC (mmI il_X11_owedOf_4 5 rfl) (mmC (mmI il_X11_owedOf_4 6 rfl) (mmC (mmI il_X11_owedOf_4 7 rfl) (mmC (mmI il_X11_owedOf_4 8 rfl) (mmC (mmI il_X11_owedOf_4 9 rfl) (mmC (mmI il_X11_owedOf_4 10 rfl) mmN)))))))))))))))))))))))) (mmA (mmC (mmI il_X11_owedOf_4 11 rfl) (mmC (mmI il_X11_owedOf_4 12 rfl) (mmC (mmI il_X11_owedOf_4 13 rfl) (mmC (mmI il_X11_owedOf_4 14 rfl) (mmC (mmI il_X11_owedOf_4 15 rfl) (mmC (mmI il_X11_owedOf_4 16 rfl) (mmC (mmI il_X11_owedOf_4 17 rfl) (mmC (mmI il_X11_owedOf_4 18 rfl) (mmC (mmI il_X11_owedOf_4 19 rfl) (mmC (mmI il_X11_owedOf_4 20 rfl) (mmC (mmI il_X11_owedOf_4 21 rfl) (mmC (mmI il_X11_owedOf_4 22 rfl) (mmC (mmI il_X11_owedOf_4 23 rfl) (mmC (mmI il_X11_owedOf_5 0 rfl) (mmC (mmI il_X11_owedOf_5 1 rfl) (mmC (mmI il_X11_owedOf_5 2 rfl) (mmC (mmI il_X11_owedOf_5 3 rfl) (mmC (mmI il_X11_owedOf_5 4 rfl) (mmC (mmI il_X11_owedOf_5 5 rfl) (mmC (mmI il_X11_owedOf_5 6 rfl) (mmC (mmI il_X11_owedOf_5 7 rfl) (mmC (mmI il_X11_owedOf_5 8 rfl) (mmC (mmI il_X11_owedOf_5 9 rfl) (mmC (mmI il_X11_owedOf_5 10 rfl) mmN)))))))))))))))))))))))) (mmC (mmI il_X11_owedOf_5 11 rfl) (mmC (mmI il_X11_owedOf_5 12 rfl) (mmC (mmI il_X11_owedOf_5 13 rfl) (mmC (mmI il_X11_owedOf_5 14 rfl) (mmC (mmI il_X11_owedOf_5 15 rfl) mmN))))))) il_X11_owedOf_7)) gw_X11_worth
theorem gX11_owedOf_X11_worth : GoodIn wsX11_owedOf (wsV RX11 285 RX11 yX11_worth wsX11_worth) := goodIn_app (goodIn_sub (mmC (mmI il_X11_owedOf_3 9 rfl) (mmC (mmI il_X11_owedOf_3 10 rfl) (mmC (mmI il_X11_owedOf_3 11 rfl) (mmC (mmI il_X11_owedOf_1 16 rfl) mmN)))) (by decide +kernel)) ggX11_owedOf_X11_worth
theorem dX11_owedOf_0 : decode cX11_owedOf 0 = .ok (.iload_n 2, 1) := by decide +kernel
theorem dX11_owedOf_1 : decode cX11_owedOf 1 = .ok (.aload_n 0, 1) := by decide +kernel
theorem dX11_owedOf_2 : decode cX11_owedOf 2 = .ok (.getfield 85, 3) := by decide +kernel
theorem dX11_owedOf_5 : decode cX11_owedOf 5 = .ok (.iload_n 1, 1) := by decide +kernel
theorem dX11_owedOf_6 : decode cX11_owedOf 6 = .ok (.iaload, 1) := by decide +kernel
theorem dX11_owedOf_7 : decode cX11_owedOf 7 = .ok (.if_icmp .ge 5, 3) := by decide +kernel
theorem dX11_owedOf_10 : decode cX11_owedOf 10 = .ok (.iconst 0, 1) := by decide +kernel
theorem dX11_owedOf_11 : decode cX11_owedOf 11 = .ok (.ireturn, 1) := by decide +kernel
theorem dX11_owedOf_12 : decode cX11_owedOf 12 = .ok (.aload_n 0, 1) := by decide +kernel
theorem dX11_owedOf_13 : decode cX11_owedOf 13 = .ok (.getfield 76, 3) := by decide +kernel
theorem dX11_owedOf_16 : decode cX11_owedOf 16 = .ok (.iload_n 1, 1) := by decide +kernel
theorem dX11_owedOf_17 : decode cX11_owedOf 17 = .ok (.iaload, 1) := by decide +kernel
theorem dX11_owedOf_18 : decode cX11_owedOf 18 = .ok (.i2l, 1) := by decide +kernel
theorem dX11_owedOf_19 : decode cX11_owedOf 19 = .ok (.aload_n 0, 1) := by decide +kernel
theorem dX11_owedOf_20 : decode cX11_owedOf 20 = .ok (.iload_n 1, 1) := by decide +kernel
theorem dX11_owedOf_21 : decode cX11_owedOf 21 = .ok (.iload_n 2, 1) := by decide +kernel
theorem dX11_owedOf_22 : decode cX11_owedOf 22 = .ok (.iload_n 3, 1) := by decide +kernel
theorem dX11_owedOf_23 : decode cX11_owedOf 23 = .ok (.invokevirtual 303, 3) := by decide +kernel
theorem dX11_owedOf_26 : decode cX11_owedOf 26 = .ok (.i2l, 1) := by decide +kernel
theorem dX11_owedOf_27 : decode cX11_owedOf 27 = .ok (.lmul, 1) := by decide +kernel
theorem dX11_owedOf_28 : decode cX11_owedOf 28 = .ok (.ldc2_w 318, 3) := by decide +kernel
theorem dX11_owedOf_31 : decode cX11_owedOf 31 = .ok (.ldiv, 1) := by decide +kernel
theorem dX11_owedOf_32 : decode cX11_owedOf 32 = .ok (.lstore 4, 2) := by decide +kernel
theorem dX11_owedOf_34 : decode cX11_owedOf 34 = .ok (.aload_n 0, 1) := by decide +kernel
theorem dX11_owedOf_35 : decode cX11_owedOf 35 = .ok (.aload_n 0, 1) := by decide +kernel
theorem dX11_owedOf_36 : decode cX11_owedOf 36 = .ok (.getfield 73, 3) := by decide +kernel
theorem dX11_owedOf_39 : decode cX11_owedOf 39 = .ok (.iload_n 1, 1) := by decide +kernel
theorem dX11_owedOf_40 : decode cX11_owedOf 40 = .ok (.iaload, 1) := by decide +kernel
theorem dX11_owedOf_41 : decode cX11_owedOf 41 = .ok (.iload_n 3, 1) := by decide +kernel
theorem dX11_owedOf_42 : decode cX11_owedOf 42 = .ok (.invokevirtual 278, 3) := by decide +kernel
theorem dX11_owedOf_45 : decode cX11_owedOf 45 = .ok (.istore 6, 2) := by decide +kernel
theorem dX11_owedOf_47 : decode cX11_owedOf 47 = .ok (.aload_n 0, 1) := by decide +kernel
theorem dX11_owedOf_48 : decode cX11_owedOf 48 = .ok (.getfield 91, 3) := by decide +kernel
theorem dX11_owedOf_51 : decode cX11_owedOf 51 = .ok (.iload_n 1, 1) := by decide +kernel
theorem dX11_owedOf_52 : decode cX11_owedOf 52 = .ok (.iaload, 1) := by decide +kernel
theorem dX11_owedOf_53 : decode cX11_owedOf 53 = .ok (.ifCond .le 42, 3) := by decide +kernel
theorem dX11_owedOf_56 : decode cX11_owedOf 56 = .ok (.iload 6, 2) := by decide +kernel
theorem dX11_owedOf_58 : decode cX11_owedOf 58 = .ok (.ifCond .lt 37, 3) := by decide +kernel
theorem dX11_owedOf_61 : decode cX11_owedOf 61 = .ok (.iload 6, 2) := by decide +kernel
theorem dX11_owedOf_63 : decode cX11_owedOf 63 = .ok (.iconst 3, 1) := by decide +kernel
theorem dX11_owedOf_64 : decode cX11_owedOf 64 = .ok (.iadd, 1) := by decide +kernel
theorem dX11_owedOf_65 : decode cX11_owedOf 65 = .ok (.iload_n 2, 1) := by decide +kernel
theorem dX11_owedOf_66 : decode cX11_owedOf 66 = .ok (.if_icmp .gt 29, 3) := by decide +kernel
theorem dX11_owedOf_69 : decode cX11_owedOf 69 = .ok (.aload_n 0, 1) := by decide +kernel
theorem dX11_owedOf_70 : decode cX11_owedOf 70 = .ok (.iload_n 1, 1) := by decide +kernel
theorem dX11_owedOf_71 : decode cX11_owedOf 71 = .ok (.iload 6, 2) := by decide +kernel
theorem dX11_owedOf_73 : decode cX11_owedOf 73 = .ok (.iconst 3, 1) := by decide +kernel
theorem dX11_owedOf_74 : decode cX11_owedOf 74 = .ok (.iadd, 1) := by decide +kernel
theorem dX11_owedOf_75 : decode cX11_owedOf 75 = .ok (.iload_n 3, 1) := by decide +kernel
theorem dX11_owedOf_76 : decode cX11_owedOf 76 = .ok (.invokevirtual 266, 3) := by decide +kernel
theorem dX11_owedOf_79 : decode cX11_owedOf 79 = .ok (.iconst 1, 1) := by decide +kernel
theorem dX11_owedOf_80 : decode cX11_owedOf 80 = .ok (.if_icmp .ne 15, 3) := by decide +kernel
theorem dX11_owedOf_83 : decode cX11_owedOf 83 = .ok (.lload 4, 2) := by decide +kernel
theorem dX11_owedOf_85 : decode cX11_owedOf 85 = .ok (.aload_n 0, 1) := by decide +kernel
theorem dX11_owedOf_86 : decode cX11_owedOf 86 = .ok (.getfield 91, 3) := by decide +kernel
theorem dX11_owedOf_89 : decode cX11_owedOf 89 = .ok (.iload_n 1, 1) := by decide +kernel
theorem dX11_owedOf_90 : decode cX11_owedOf 90 = .ok (.iaload, 1) := by decide +kernel
theorem dX11_owedOf_91 : decode cX11_owedOf 91 = .ok (.i2l, 1) := by decide +kernel
theorem dX11_owedOf_92 : decode cX11_owedOf 92 = .ok (.lsub, 1) := by decide +kernel
theorem dX11_owedOf_93 : decode cX11_owedOf 93 = .ok (.lstore 4, 2) := by decide +kernel
theorem dX11_owedOf_95 : decode cX11_owedOf 95 = .ok (.iload 6, 2) := by decide +kernel
theorem dX11_owedOf_97 : decode cX11_owedOf 97 = .ok (.bipush 30, 2) := by decide +kernel
theorem dX11_owedOf_99 : decode cX11_owedOf 99 = .ok (.iadd, 1) := by decide +kernel
theorem dX11_owedOf_100 : decode cX11_owedOf 100 = .ok (.istore 7, 2) := by decide +kernel
theorem dX11_owedOf_102 : decode cX11_owedOf 102 = .ok (.iload 6, 2) := by decide +kernel
theorem dX11_owedOf_104 : decode cX11_owedOf 104 = .ok (.ifCond .lt 52, 3) := by decide +kernel
theorem dX11_owedOf_107 : decode cX11_owedOf 107 = .ok (.aload_n 0, 1) := by decide +kernel
theorem dX11_owedOf_108 : decode cX11_owedOf 108 = .ok (.getfield 97, 3) := by decide +kernel
theorem dX11_owedOf_111 : decode cX11_owedOf 111 = .ok (.iload_n 1, 1) := by decide +kernel
theorem dX11_owedOf_112 : decode cX11_owedOf 112 = .ok (.iaload, 1) := by decide +kernel
theorem dX11_owedOf_113 : decode cX11_owedOf 113 = .ok (.ifCond .le 43, 3) := by decide +kernel
theorem dX11_owedOf_116 : decode cX11_owedOf 116 = .ok (.iload 7, 2) := by decide +kernel
theorem dX11_owedOf_118 : decode cX11_owedOf 118 = .ok (.iload_n 2, 1) := by decide +kernel
theorem dX11_owedOf_119 : decode cX11_owedOf 119 = .ok (.if_icmp .gt 37, 3) := by decide +kernel
theorem dX11_owedOf_122 : decode cX11_owedOf 122 = .ok (.lload 4, 2) := by decide +kernel
theorem dX11_owedOf_124 : decode cX11_owedOf 124 = .ok (.aload_n 0, 1) := by decide +kernel
theorem dX11_owedOf_125 : decode cX11_owedOf 125 = .ok (.iload_n 1, 1) := by decide +kernel
theorem dX11_owedOf_126 : decode cX11_owedOf 126 = .ok (.iload 7, 2) := by decide +kernel
theorem dX11_owedOf_128 : decode cX11_owedOf 128 = .ok (.iload_n 3, 1) := by decide +kernel
theorem dX11_owedOf_129 : decode cX11_owedOf 129 = .ok (.invokevirtual 266, 3) := by decide +kernel
theorem dX11_owedOf_132 : decode cX11_owedOf 132 = .ok (.iconst 1, 1) := by decide +kernel
theorem dX11_owedOf_133 : decode cX11_owedOf 133 = .ok (.if_icmp .ne 13, 3) := by decide +kernel
theorem dX11_owedOf_136 : decode cX11_owedOf 136 = .ok (.aload_n 0, 1) := by decide +kernel
theorem dX11_owedOf_137 : decode cX11_owedOf 137 = .ok (.getfield 97, 3) := by decide +kernel
theorem dX11_owedOf_140 : decode cX11_owedOf 140 = .ok (.iload_n 1, 1) := by decide +kernel
theorem dX11_owedOf_141 : decode cX11_owedOf 141 = .ok (.iaload, 1) := by decide +kernel
theorem dX11_owedOf_142 : decode cX11_owedOf 142 = .ok (.i2l, 1) := by decide +kernel
theorem dX11_owedOf_143 : decode cX11_owedOf 143 = .ok (.goto 4, 3) := by decide +kernel
theorem dX11_owedOf_146 : decode cX11_owedOf 146 = .ok (.lconst 0, 1) := by decide +kernel
theorem dX11_owedOf_147 : decode cX11_owedOf 147 = .ok (.lsub, 1) := by decide +kernel
theorem dX11_owedOf_148 : decode cX11_owedOf 148 = .ok (.lstore 4, 2) := by decide +kernel
theorem dX11_owedOf_150 : decode cX11_owedOf 150 = .ok (.iinc 7 30, 3) := by decide +kernel
theorem dX11_owedOf_153 : decode cX11_owedOf 153 = .ok (.goto (-51), 3) := by decide +kernel
theorem dX11_owedOf_156 : decode cX11_owedOf 156 = .ok (.iconst 0, 1) := by decide +kernel
theorem dX11_owedOf_157 : decode cX11_owedOf 157 = .ok (.istore 7, 2) := by decide +kernel
theorem dX11_owedOf_159 : decode cX11_owedOf 159 = .ok (.iload 7, 2) := by decide +kernel
theorem dX11_owedOf_161 : decode cX11_owedOf 161 = .ok (.aload_n 0, 1) := by decide +kernel
theorem dX11_owedOf_162 : decode cX11_owedOf 162 = .ok (.getfield 100, 3) := by decide +kernel
theorem dX11_owedOf_165 : decode cX11_owedOf 165 = .ok (.iload_n 1, 1) := by decide +kernel
theorem dX11_owedOf_166 : decode cX11_owedOf 166 = .ok (.iaload, 1) := by decide +kernel
theorem dX11_owedOf_167 : decode cX11_owedOf 167 = .ok (.if_icmp .ge 43, 3) := by decide +kernel
theorem dX11_owedOf_170 : decode cX11_owedOf 170 = .ok (.lload 4, 2) := by decide +kernel
theorem dX11_owedOf_172 : decode cX11_owedOf 172 = .ok (.aload_n 0, 1) := by decide +kernel
theorem dX11_owedOf_173 : decode cX11_owedOf 173 = .ok (.getfield 109, 3) := by decide +kernel
theorem dX11_owedOf_176 : decode cX11_owedOf 176 = .ok (.bipush 6, 2) := by decide +kernel
theorem dX11_owedOf_178 : decode cX11_owedOf 178 = .ok (.iload_n 1, 1) := by decide +kernel
theorem dX11_owedOf_179 : decode cX11_owedOf 179 = .ok (.imul, 1) := by decide +kernel
theorem dX11_owedOf_180 : decode cX11_owedOf 180 = .ok (.iload 7, 2) := by decide +kernel
theorem dX11_owedOf_182 : decode cX11_owedOf 182 = .ok (.iadd, 1) := by decide +kernel
theorem dX11_owedOf_183 : decode cX11_owedOf 183 = .ok (.iaload, 1) := by decide +kernel
theorem dX11_owedOf_184 : decode cX11_owedOf 184 = .ok (.iload_n 2, 1) := by decide +kernel
theorem dX11_owedOf_185 : decode cX11_owedOf 185 = .ok (.if_icmp .gt 15, 3) := by decide +kernel
theorem dX11_owedOf_188 : decode cX11_owedOf 188 = .ok (.aload_n 0, 1) := by decide +kernel
theorem dX11_owedOf_189 : decode cX11_owedOf 189 = .ok (.iload_n 1, 1) := by decide +kernel
theorem dX11_owedOf_190 : decode cX11_owedOf 190 = .ok (.iload 7, 2) := by decide +kernel
theorem dX11_owedOf_192 : decode cX11_owedOf 192 = .ok (.iload_n 3, 1) := by decide +kernel
theorem dX11_owedOf_193 : decode cX11_owedOf 193 = .ok (.invokevirtual 315, 3) := by decide +kernel
theorem dX11_owedOf_196 : decode cX11_owedOf 196 = .ok (.i2l, 1) := by decide +kernel
theorem dX11_owedOf_197 : decode cX11_owedOf 197 = .ok (.goto 4, 3) := by decide +kernel
theorem dX11_owedOf_200 : decode cX11_owedOf 200 = .ok (.lconst 0, 1) := by decide +kernel
theorem dX11_owedOf_201 : decode cX11_owedOf 201 = .ok (.lsub, 1) := by decide +kernel
theorem dX11_owedOf_202 : decode cX11_owedOf 202 = .ok (.lstore 4, 2) := by decide +kernel
theorem dX11_owedOf_204 : decode cX11_owedOf 204 = .ok (.iinc 7 1, 3) := by decide +kernel
theorem dX11_owedOf_207 : decode cX11_owedOf 207 = .ok (.goto (-48), 3) := by decide +kernel
theorem dX11_owedOf_210 : decode cX11_owedOf 210 = .ok (.iconst 0, 1) := by decide +kernel
theorem dX11_owedOf_211 : decode cX11_owedOf 211 = .ok (.istore 7, 2) := by decide +kernel
theorem dX11_owedOf_213 : decode cX11_owedOf 213 = .ok (.iload 7, 2) := by decide +kernel
theorem dX11_owedOf_215 : decode cX11_owedOf 215 = .ok (.aload_n 0, 1) := by decide +kernel
theorem dX11_owedOf_216 : decode cX11_owedOf 216 = .ok (.getfield 103, 3) := by decide +kernel
theorem dX11_owedOf_219 : decode cX11_owedOf 219 = .ok (.iload_n 1, 1) := by decide +kernel
theorem dX11_owedOf_220 : decode cX11_owedOf 220 = .ok (.iaload, 1) := by decide +kernel
theorem dX11_owedOf_221 : decode cX11_owedOf 221 = .ok (.if_icmp .ge 47, 3) := by decide +kernel
theorem dX11_owedOf_224 : decode cX11_owedOf 224 = .ok (.lload 4, 2) := by decide +kernel
theorem dX11_owedOf_226 : decode cX11_owedOf 226 = .ok (.aload_n 0, 1) := by decide +kernel
theorem dX11_owedOf_227 : decode cX11_owedOf 227 = .ok (.getfield 115, 3) := by decide +kernel
theorem dX11_owedOf_230 : decode cX11_owedOf 230 = .ok (.bipush 20, 2) := by decide +kernel
theorem dX11_owedOf_232 : decode cX11_owedOf 232 = .ok (.iload_n 1, 1) := by decide +kernel
theorem dX11_owedOf_233 : decode cX11_owedOf 233 = .ok (.imul, 1) := by decide +kernel
theorem dX11_owedOf_234 : decode cX11_owedOf 234 = .ok (.iload 7, 2) := by decide +kernel
theorem dX11_owedOf_236 : decode cX11_owedOf 236 = .ok (.iadd, 1) := by decide +kernel
theorem dX11_owedOf_237 : decode cX11_owedOf 237 = .ok (.iaload, 1) := by decide +kernel
theorem dX11_owedOf_238 : decode cX11_owedOf 238 = .ok (.iload_n 3, 1) := by decide +kernel
theorem dX11_owedOf_239 : decode cX11_owedOf 239 = .ok (.if_icmp .gt 19, 3) := by decide +kernel
theorem dX11_owedOf_242 : decode cX11_owedOf 242 = .ok (.aload_n 0, 1) := by decide +kernel
theorem dX11_owedOf_243 : decode cX11_owedOf 243 = .ok (.getfield 118, 3) := by decide +kernel
theorem dX11_owedOf_246 : decode cX11_owedOf 246 = .ok (.bipush 20, 2) := by decide +kernel
theorem dX11_owedOf_248 : decode cX11_owedOf 248 = .ok (.iload_n 1, 1) := by decide +kernel
theorem dX11_owedOf_249 : decode cX11_owedOf 249 = .ok (.imul, 1) := by decide +kernel
theorem dX11_owedOf_250 : decode cX11_owedOf 250 = .ok (.iload 7, 2) := by decide +kernel
theorem dX11_owedOf_252 : decode cX11_owedOf 252 = .ok (.iadd, 1) := by decide +kernel
theorem dX11_owedOf_253 : decode cX11_owedOf 253 = .ok (.iaload, 1) := by decide +kernel
theorem dX11_owedOf_254 : decode cX11_owedOf 254 = .ok (.i2l, 1) := by decide +kernel
theorem dX11_owedOf_255 : decode cX11_owedOf 255 = .ok (.goto 4, 3) := by decide +kernel
theorem dX11_owedOf_258 : decode cX11_owedOf 258 = .ok (.lconst 0, 1) := by decide +kernel
theorem dX11_owedOf_259 : decode cX11_owedOf 259 = .ok (.ladd, 1) := by decide +kernel
theorem dX11_owedOf_260 : decode cX11_owedOf 260 = .ok (.lstore 4, 2) := by decide +kernel
theorem dX11_owedOf_262 : decode cX11_owedOf 262 = .ok (.iinc 7 1, 3) := by decide +kernel
theorem dX11_owedOf_265 : decode cX11_owedOf 265 = .ok (.goto (-52), 3) := by decide +kernel
theorem dX11_owedOf_268 : decode cX11_owedOf 268 = .ok (.lload 4, 2) := by decide +kernel
theorem dX11_owedOf_270 : decode cX11_owedOf 270 = .ok (.lconst 0, 1) := by decide +kernel
theorem dX11_owedOf_271 : decode cX11_owedOf 271 = .ok (.lcmp, 1) := by decide +kernel
theorem dX11_owedOf_272 : decode cX11_owedOf 272 = .ok (.ifCond .le 29, 3) := by decide +kernel
theorem dX11_owedOf_275 : decode cX11_owedOf 275 = .ok (.aload_n 0, 1) := by decide +kernel
theorem dX11_owedOf_276 : decode cX11_owedOf 276 = .ok (.iload_n 1, 1) := by decide +kernel
theorem dX11_owedOf_277 : decode cX11_owedOf 277 = .ok (.iload_n 2, 1) := by decide +kernel
theorem dX11_owedOf_278 : decode cX11_owedOf 278 = .ok (.iload_n 3, 1) := by decide +kernel
theorem dX11_owedOf_279 : decode cX11_owedOf 279 = .ok (.invokevirtual 266, 3) := by decide +kernel
theorem dX11_owedOf_282 : decode cX11_owedOf 282 = .ok (.iconst 3, 1) := by decide +kernel
theorem dX11_owedOf_283 : decode cX11_owedOf 283 = .ok (.if_icmp .ne 18, 3) := by decide +kernel
theorem dX11_owedOf_286 : decode cX11_owedOf 286 = .ok (.aload_n 0, 1) := by decide +kernel
theorem dX11_owedOf_287 : decode cX11_owedOf 287 = .ok (.getfield 52, 3) := by decide +kernel
theorem dX11_owedOf_290 : decode cX11_owedOf 290 = .ok (.aload_n 0, 1) := by decide +kernel
theorem dX11_owedOf_291 : decode cX11_owedOf 291 = .ok (.iload_n 1, 1) := by decide +kernel
theorem dX11_owedOf_292 : decode cX11_owedOf 292 = .ok (.iload_n 2, 1) := by decide +kernel
theorem dX11_owedOf_293 : decode cX11_owedOf 293 = .ok (.iload_n 3, 1) := by decide +kernel
theorem dX11_owedOf_294 : decode cX11_owedOf 294 = .ok (.invokevirtual 291, 3) := by decide +kernel
theorem dX11_owedOf_297 : decode cX11_owedOf 297 = .ok (.iaload, 1) := by decide +kernel
theorem dX11_owedOf_298 : decode cX11_owedOf 298 = .ok (.ifCond .eq 7, 3) := by decide +kernel
theorem dX11_owedOf_301 : decode cX11_owedOf 301 = .ok (.lload 4, 2) := by decide +kernel
theorem dX11_owedOf_303 : decode cX11_owedOf 303 = .ok (.l2i, 1) := by decide +kernel
theorem dX11_owedOf_304 : decode cX11_owedOf 304 = .ok (.ireturn, 1) := by decide +kernel
theorem dX11_owedOf_305 : decode cX11_owedOf 305 = .ok (.aload_n 0, 1) := by decide +kernel
theorem dX11_owedOf_306 : decode cX11_owedOf 306 = .ok (.iload_n 1, 1) := by decide +kernel
theorem dX11_owedOf_307 : decode cX11_owedOf 307 = .ok (.iload_n 2, 1) := by decide +kernel
theorem dX11_owedOf_308 : decode cX11_owedOf 308 = .ok (.iload_n 3, 1) := by decide +kernel
theorem dX11_owedOf_309 : decode cX11_owedOf 309 = .ok (.iconst 0, 1) := by decide +kernel
theorem dX11_owedOf_310 : decode cX11_owedOf 310 = .ok (.iconst 0, 1) := by decide +kernel
theorem dX11_owedOf_311 : decode cX11_owedOf 311 = .ok (.invokevirtual 306, 3) := by decide +kernel
theorem dX11_owedOf_314 : decode cX11_owedOf 314 = .ok (.aload_n 0, 1) := by decide +kernel
theorem dX11_owedOf_315 : decode cX11_owedOf 315 = .ok (.iconst 2, 1) := by decide +kernel
theorem dX11_owedOf_316 : decode cX11_owedOf 316 = .ok (.iload_n 2, 1) := by decide +kernel
theorem dX11_owedOf_317 : decode cX11_owedOf 317 = .ok (.invokevirtual 285, 3) := by decide +kernel
theorem dX11_owedOf_320 : decode cX11_owedOf 320 = .ok (.istore 7, 2) := by decide +kernel
theorem dX11_owedOf_322 : decode cX11_owedOf 322 = .ok (.iload 7, 2) := by decide +kernel
theorem dX11_owedOf_324 : decode cX11_owedOf 324 = .ok (.ifCond .ge 7, 3) := by decide +kernel
theorem dX11_owedOf_327 : decode cX11_owedOf 327 = .ok (.iconst 0, 1) := by decide +kernel
theorem dX11_owedOf_328 : decode cX11_owedOf 328 = .ok (.goto 17, 3) := by decide +kernel
theorem dX11_owedOf_331 : decode cX11_owedOf 331 = .ok (.iload 7, 2) := by decide +kernel
theorem dX11_owedOf_333 : decode cX11_owedOf 333 = .ok (.bipush 100, 2) := by decide +kernel
theorem dX11_owedOf_335 : decode cX11_owedOf 335 = .ok (.if_icmp .le 8, 3) := by decide +kernel
theorem dX11_owedOf_338 : decode cX11_owedOf 338 = .ok (.bipush 100, 2) := by decide +kernel
theorem dX11_owedOf_340 : decode cX11_owedOf 340 = .ok (.goto 5, 3) := by decide +kernel
theorem dX11_owedOf_343 : decode cX11_owedOf 343 = .ok (.iload 7, 2) := by decide +kernel
theorem dX11_owedOf_345 : decode cX11_owedOf 345 = .ok (.istore 7, 2) := by decide +kernel
theorem dX11_owedOf_347 : decode cX11_owedOf 347 = .ok (.lload 4, 2) := by decide +kernel
theorem dX11_owedOf_349 : decode cX11_owedOf 349 = .ok (.lload 4, 2) := by decide +kernel
theorem dX11_owedOf_351 : decode cX11_owedOf 351 = .ok (.iload 7, 2) := by decide +kernel
theorem dX11_owedOf_353 : decode cX11_owedOf 353 = .ok (.i2l, 1) := by decide +kernel
theorem dX11_owedOf_354 : decode cX11_owedOf 354 = .ok (.lmul, 1) := by decide +kernel
theorem dX11_owedOf_355 : decode cX11_owedOf 355 = .ok (.ldc2_w 310, 3) := by decide +kernel
theorem dX11_owedOf_358 : decode cX11_owedOf 358 = .ok (.ldiv, 1) := by decide +kernel
theorem dX11_owedOf_359 : decode cX11_owedOf 359 = .ok (.lsub, 1) := by decide +kernel
theorem dX11_owedOf_360 : decode cX11_owedOf 360 = .ok (.l2i, 1) := by decide +kernel
theorem dX11_owedOf_361 : decode cX11_owedOf 361 = .ok (.ireturn, 1) := by decide +kernel
theorem in_wsX11_owedOf_X11 : ∀ w ∈ wsX110, w ∈ wsX11_owedOf := fun w h => List.mem_cons_of_mem _ (List.mem_append_right _ h)
