abbrev cX11_owedOf : ByteArray := prog_13_method_63_code
def yX11_owedOf : MethodName := ⟨RX11, "owedOf", "(III)I"⟩
def wsX11_owedOf_r1 : List Cond := [Cond.fieldLink RX11 85 "ShipOfficeModel" "signed" "[I", Cond.fieldLink RX11 76 "ShipOfficeModel" "wage" "[I", Cond.constantLong RX11 318 (30), Cond.fieldLink RX11 73 "ShipOfficeModel" "voyage" "[I", Cond.fieldLink RX11 91 "ShipOfficeModel" "note" "[I", Cond.fieldLink RX11 97 "ShipOfficeModel" "allotted" "[I", Cond.fieldLink RX11 100 "ShipOfficeModel" "fines" "[I", Cond.fieldLink RX11 109 "ShipOfficeModel" "fineDay" "[I", Cond.fieldLink RX11 103 "ShipOfficeModel" "shorts" "[I", Cond.fieldLink RX11 115 "ShipOfficeModel" "shortOn" "[I", Cond.fieldLink RX11 118 "ShipOfficeModel" "shortSum" "[I", Cond.fieldLink RX11 52 "ShipOfficeModel" "way" "[I", Cond.constantLong RX11 310 (100), Cond.methodLink RX11 303 yX11_earnsOf, Cond.instanceMethod yX11_earnsOf, Cond.selects RX11 yX11_earnsOf yX11_earnsOf, Cond.initialized RX11, Cond.code yX11_earnsOf cX11_earnsOf 7 (some .int), Cond.methodLink RX11 266 yX11_stateOf, Cond.instanceMethod yX11_stateOf, Cond.selects RX11 yX11_stateOf yX11_stateOf, Cond.code yX11_stateOf cX11_stateOf 5 (some .int), Cond.fieldLink RX11 88 "ShipOfficeModel" "offOn" "[I", Cond.fieldLink RX11 40 "ShipOfficeModel" "what" "[I"]
def wsX11_owedOf_r2 : List Cond := [Cond.methodLink RX11 288 yX11_isDead, Cond.instanceMethod yX11_isDead, Cond.selects RX11 yX11_isDead yX11_isDead, Cond.code yX11_isDead cX11_isDead 5 (some .boolean), Cond.fieldLink RX11 179 "ShipOfficeModel" "happened" "I", Cond.fieldLink RX11 43 "ShipOfficeModel" "whose" "[I", Cond.fieldLink RX11 49 "ShipOfficeModel" "known" "[I", Cond.fieldLink RX11 46 "ShipOfficeModel" "day" "[I", Cond.methodLink RX11 291 yX11_whereOf, Cond.instanceMethod yX11_whereOf, Cond.selects RX11 yX11_whereOf yX11_whereOf, Cond.code yX11_whereOf cX11_whereOf 6 (some .int), Cond.methodLink RX11 281 yX11_hasSailed, Cond.instanceMethod yX11_hasSailed, Cond.selects RX11 yX11_hasSailed yX11_hasSailed, Cond.code yX11_hasSailed cX11_hasSailed 5 (some .boolean), Cond.methodLink RX11 278 yX11_sailedOn, Cond.instanceMethod yX11_sailedOn, Cond.selects RX11 yX11_sailedOn yX11_sailedOn, Cond.code yX11_sailedOn cX11_sailedOn 4 (some .int), Cond.methodLink RX11 294 yX11_isUnknown, Cond.instanceMethod yX11_isUnknown, Cond.selects RX11 yX11_isUnknown yX11_isUnknown, Cond.code yX11_isUnknown cX11_isUnknown 4 (some .boolean)]
def wsX11_owedOf_r3 : List Cond := [Cond.methodLink RX11 275 yX11_bare, Cond.instanceMethod yX11_bare, Cond.selects RX11 yX11_bare yX11_bare, Cond.code yX11_bare cX11_bare 2 none, Cond.fieldLink RX11 128 "ShipOfficeModel" "letters" "[I", Cond.methodLink RX11 272 yX11_lastHeard, Cond.instanceMethod yX11_lastHeard, Cond.selects RX11 yX11_lastHeard yX11_lastHeard, Cond.code yX11_lastHeard cX11_lastHeard 6 (some .int), Cond.methodLink RX11 285 yX11_worth, Cond.instanceMethod yX11_worth, Cond.selects RX11 yX11_worth yX11_worth, Cond.code yX11_worth cX11_worth 4 (some .int), Cond.fieldLink RX11 58 "ShipOfficeModel" "textSize" "[I", Cond.methodLink RX11 263 yX11_actOn, Cond.instanceMethod yX11_actOn, Cond.selects RX11 yX11_actOn yX11_actOn, Cond.code yX11_actOn cX11_actOn 5 (some .int), Cond.fieldLink RX11 256 "ShipOfficeModel" "acts" "I", Cond.fieldLink RX11 61 "ShipOfficeModel" "purpose" "[I", Cond.fieldLink RX11 64 "ShipOfficeModel" "from" "[I", Cond.methodLink RX11 259 yX11_goesThrough, Cond.instanceMethod yX11_goesThrough, Cond.selects RX11 yX11_goesThrough yX11_goesThrough]
def wsX11_owedOf_r4 : List Cond := [Cond.code yX11_goesThrough cX11_goesThrough 3 (some .int), Cond.fieldLink RX11 216 "ShipOfficeModel" "base" "I", Cond.fieldLink RX11 213 "ShipOfficeModel" "size" "I", Cond.fieldLink RX11 210 "ShipOfficeModel" "at" "I", Cond.fieldLink RX11 244 "ShipOfficeModel" "deep" "I", Cond.fieldLink RX11 223 "ShipOfficeModel" "isWell" "Z", Cond.methodLink RX11 250 yX11_sum, Cond.instanceMethod yX11_sum, Cond.selects RX11 yX11_sum yX11_sum, Cond.code yX11_sum cX11_sum 4 (some .int), Cond.methodLink RX11 231 yX11_term, Cond.instanceMethod yX11_term, Cond.selects RX11 yX11_term yX11_term, Cond.methodLink RX11 227 yX11_sign, Cond.instanceMethod yX11_sign, Cond.selects RX11 yX11_sign yX11_sign, Cond.code yX11_sign cX11_sign 1 (some .int), Cond.fieldLink RX11 125 "ShipOfficeModel" "tape" "[I", Cond.fieldLink RX11 67 "ShipOfficeModel" "text" "[I", Cond.methodLink RX11 234 yX11_held, Cond.static yX11_held, Cond.code yX11_held cX11_held 2 (some .int), Cond.constantLong RX11 219 (1000000000), Cond.constantLong RX11 221 (-1000000000)]
def wsX11_owedOf_r5 : List Cond := [Cond.code yX11_term cX11_term 4 (some .int), Cond.methodLink RX11 238 yX11_unit, Cond.instanceMethod yX11_unit, Cond.selects RX11 yX11_unit yX11_unit, Cond.code yX11_unit cX11_unit 5 (some .int), Cond.methodLink RX11 241 yX11_isLetter, Cond.static yX11_isLetter, Cond.code yX11_isLetter cX11_isLetter 1 (some .boolean), Cond.methodLink RX11 247 yX11_breaks, Cond.instanceMethod yX11_breaks, Cond.selects RX11 yX11_breaks yX11_breaks, Cond.code yX11_breaks cX11_breaks 1 (some .int), Cond.methodLink RX11 253 yX11_takes, Cond.instanceMethod yX11_takes, Cond.selects RX11 yX11_takes yX11_takes, Cond.code yX11_takes cX11_takes 2 (some .boolean), Cond.methodLink RX11 161 yX11_isIn, Cond.static yX11_isIn, Cond.code yX11_isIn cX11_isIn 2 (some .boolean), Cond.methodLink RX11 315 yX11_standsOf, Cond.instanceMethod yX11_standsOf, Cond.selects RX11 yX11_standsOf yX11_standsOf, Cond.code yX11_standsOf cX11_standsOf 6 (some .int), Cond.fieldLink RX11 112 "ShipOfficeModel" "fineSum" "[I"]
def wsX11_owedOf_r6 : List Cond := [Cond.fieldLink RX11 121 "ShipOfficeModel" "isRead" "[Z", Cond.methodLink RX11 306 yX11_puts, Cond.instanceMethod yX11_puts, Cond.selects RX11 yX11_puts yX11_puts, Cond.code yX11_puts cX11_puts 9 none, Cond.fieldLink RX11 79 "ShipOfficeModel" "rank" "[I", Cond.fieldLink RX11 22 "ShipOfficeModel" "born" "[I", Cond.fieldLink RX11 70 "ShipOfficeModel" "man" "[I", Cond.methodLink RX11 269 yX11_aboardOf, Cond.instanceMethod yX11_aboardOf, Cond.selects RX11 yX11_aboardOf yX11_aboardOf, Cond.code yX11_aboardOf cX11_aboardOf 6 (some .int), Cond.fieldLink RX11 168 "ShipOfficeModel" "agreements" "I"]
def wsX11_owedOf : List Cond := .code yX11_owedOf cX11_owedOf 8 (some .int) :: ((wsX11_owedOf_r1 ++ (wsX11_owedOf_r2 ++ (wsX11_owedOf_r3 ++ (wsX11_owedOf_r4 ++ (wsX11_owedOf_r5 ++ wsX11_owedOf_r6))))) ++ wsX110)
theorem il_X11_owedOf_1 : ∀ w ∈ wsX11_owedOf_r1, w ∈ wsX11_owedOf := fun w h => (List.mem_cons_of_mem _ (List.mem_append_left _ (List.mem_append_left _ h)))
theorem il_X11_owedOf_2 : ∀ w ∈ wsX11_owedOf_r2, w ∈ wsX11_owedOf := fun w h => (List.mem_cons_of_mem _ (List.mem_append_left _ (List.mem_append_right _ (List.mem_append_left _ h))))
theorem il_X11_owedOf_3 : ∀ w ∈ wsX11_owedOf_r3, w ∈ wsX11_owedOf := fun w h => (List.mem_cons_of_mem _ (List.mem_append_left _ (List.mem_append_right _ (List.mem_append_right _ (List.mem_append_left _ h)))))
theorem il_X11_owedOf_4 : ∀ w ∈ wsX11_owedOf_r4, w ∈ wsX11_owedOf := fun w h => (List.mem_cons_of_mem _ (List.mem_append_left _ (List.mem_append_right _ (List.mem_append_right _ (List.mem_append_right _ (List.mem_append_left _ h))))))
theorem il_X11_owedOf_5 : ∀ w ∈ wsX11_owedOf_r5, w ∈ wsX11_owedOf := fun w h => (List.mem_cons_of_mem _ (List.mem_append_left _ (List.mem_append_right _ (List.mem_append_right _ (List.mem_append_right _ (List.mem_append_right _ (List.mem_append_left _ h)))))))
theorem il_X11_owedOf_6 : ∀ w ∈ wsX11_owedOf_r6, w ∈ wsX11_owedOf := fun w h => (List.mem_cons_of_mem _ (List.mem_append_left _ (List.mem_append_right _ (List.mem_append_right _ (List.mem_append_right _ (List.mem_append_right _ (List.mem_append_right _ h)))))))
theorem il_X11_owedOf_7 : ∀ w ∈ wsX110, w ∈ wsX11_owedOf := fun w h => (List.mem_cons_of_mem _ (List.mem_append_right _ h))
theorem iw_X11_owedOf_1 : Cond.fieldLink RX11 85 "ShipOfficeModel" "signed" "[I" ∈ wsX11_owedOf := (mmI il_X11_owedOf_1 0 rfl)
theorem iw_X11_owedOf_2 : Cond.fieldLink RX11 76 "ShipOfficeModel" "wage" "[I" ∈ wsX11_owedOf := (mmI il_X11_owedOf_1 1 rfl)
theorem iw_X11_owedOf_3 : Cond.fieldLink RX11 73 "ShipOfficeModel" "voyage" "[I" ∈ wsX11_owedOf := (mmI il_X11_owedOf_1 3 rfl)
theorem iw_X11_owedOf_4 : Cond.fieldLink RX11 100 "ShipOfficeModel" "fines" "[I" ∈ wsX11_owedOf := (mmI il_X11_owedOf_1 6 rfl)
theorem iw_X11_owedOf_5 : Cond.fieldLink RX11 103 "ShipOfficeModel" "shorts" "[I" ∈ wsX11_owedOf := (mmI il_X11_owedOf_1 8 rfl)
theorem iw_X11_owedOf_6 : Cond.fieldLink RX11 52 "ShipOfficeModel" "way" "[I" ∈ wsX11_owedOf := (mmI il_X11_owedOf_1 11 rfl)
theorem iw_X11_owedOf_7 : Cond.fieldLink RX11 115 "ShipOfficeModel" "shortOn" "[I" ∈ wsX11_owedOf := (mmI il_X11_owedOf_1 9 rfl)
theorem iw_X11_owedOf_8 : Cond.fieldLink RX11 118 "ShipOfficeModel" "shortSum" "[I" ∈ wsX11_owedOf := (mmI il_X11_owedOf_1 10 rfl)
theorem iw_X11_owedOf_9 : Cond.fieldLink RX11 109 "ShipOfficeModel" "fineDay" "[I" ∈ wsX11_owedOf := (mmI il_X11_owedOf_1 7 rfl)
theorem iw_X11_owedOf_10 : Cond.fieldLink RX11 97 "ShipOfficeModel" "allotted" "[I" ∈ wsX11_owedOf := (mmI il_X11_owedOf_1 5 rfl)
theorem iw_X11_owedOf_11 : Cond.fieldLink RX11 91 "ShipOfficeModel" "note" "[I" ∈ wsX11_owedOf := (mmI il_X11_owedOf_1 4 rfl)
set_option maxRecDepth 100000 in
theorem ggX11_owedOf_X11_earnsOf : GoodIn wsX11_owedOf wsX11_earnsOf := goodIn_sub (mmC (mmI il_X11_owedOf_1 17 rfl) (mmA (mmA (mmC (mmI il_X11_owedOf_1 3 rfl) (mmC (mmI il_X11_owedOf_1 0 rfl) (mmC (mmI il_X11_owedOf_1 18 rfl) (mmC (mmI il_X11_owedOf_1 19 rfl) (mmC (mmI il_X11_owedOf_1 20 rfl) (mmC (mmI il_X11_owedOf_1 16 rfl) (mmC (mmI il_X11_owedOf_1 21 rfl) (mmC (mmI il_X11_owedOf_1 22 rfl) (mmC (mmI il_X11_owedOf_1 23 rfl) (mmC (mmI il_X11_owedOf_2 0 rfl) (mmC (mmI il_X11_owedOf_2 1 rfl) (mmC (mmI il_X11_owedOf_2 2 rfl) (mmC (mmI il_X11_owedOf_2 3 rfl) (mmC (mmI il_X11_owedOf_2 4 rfl) (mmC (mmI il_X11_owedOf_2 5 rfl) (mmC (mmI il_X11_owedOf_2 6 rfl) (mmC (mmI il_X11_owedOf_2 7 rfl) (mmC (mmI il_X11_owedOf_2 8 rfl) (mmC (mmI il_X11_owedOf_2 9 rfl) (mmC (mmI il_X11_owedOf_2 10 rfl) (mmC (mmI il_X11_owedOf_2 11 rfl) (mmC (mmI il_X11_owedOf_2 12 rfl) (mmC (mmI il_X11_owedOf_2 13 rfl) (mmC (mmI il_X11_owedOf_2 14 rfl) mmN)))))))))))))))))))))))) (mmA (mmC (mmI il_X11_owedOf_2 15 rfl) (mmC (mmI il_X11_owedOf_2 16 rfl) (mmC (mmI il_X11_owedOf_2 17 rfl) (mmC (mmI il_X11_owedOf_2 18 rfl) (mmC (mmI il_X11_owedOf_2 19 rfl) (mmC (mmI il_X11_owedOf_2 20 rfl) (mmC (mmI il_X11_owedOf_2 21 rfl) (mmC (mmI il_X11_owedOf_2 22 rfl) (mmC (mmI il_X11_owedOf_2 23 rfl) (mmC (mmI il_X11_owedOf_3 0 rfl) (mmC (mmI il_X11_owedOf_3 1 rfl) (mmC (mmI il_X11_owedOf_3 2 rfl) (mmC (mmI il_X11_owedOf_3 3 rfl) (mmC (mmI il_X11_owedOf_3 4 rfl) (mmC (mmI il_X11_owedOf_3 5 rfl) (mmC (mmI il_X11_owedOf_3 6 rfl) (mmC (mmI il_X11_owedOf_3 7 rfl) (mmC (mmI il_X11_owedOf_3 8 rfl) (mmC (mmI il_X11_owedOf_3 9 rfl) (mmC (mmI il_X11_owedOf_3 10 rfl) (mmC (mmI il_X11_owedOf_3 11 rfl) (mmC (mmI il_X11_owedOf_3 12 rfl) (mmC (mmI il_X11_owedOf_3 13 rfl) (mmC (mmI il_X11_owedOf_3 14 rfl) mmN)))))))))))))))))))))))) (mmA (mmC (mmI il_X11_owedOf_3 15 rfl) (mmC (mmI il_X11_owedOf_3 16 rfl) (mmC (mmI il_X11_owedOf_3 17 rfl) (mmC (mmI il_X11_owedOf_3 18 rfl) (mmC (mmI il_X11_owedOf_3 19 rfl) (mmC (mmI il_X11_owedOf_3 20 rfl) (mmC (mmI il_X11_owedOf_3 21 rfl) (mmC (mmI il_X11_owedOf_3 22 rfl) (mmC (mmI il_X11_owedOf_3 23 rfl) (mmC (mmI il_X11_owedOf_4 0 rfl) (mmC (mmI il_X11_owedOf_4 1 rfl) (mmC (mmI il_X11_owedOf_4 2 rfl) (mmC (mmI il_X11_owedOf_4 3 rfl) (mmC (mmI il_X11_owedOf_4 4 rfl) (mmC (mmI il_X11_owedOf_4 5 rfl) (mmC (mmI il_X11_owedOf_4 6 rfl) (mmC (mmI il_X11_owedOf_4 7 rfl) (mmC (mmI il_X11_owedOf_4 8 rfl) (mmC (mmI il_X11_owedOf_4 9 rfl) (mmC (mmI il_X11_owedOf_4 10 rfl) (mmC (mmI il_X11_owedOf_4 11 rfl) (mmC (mmI il_X11_owedOf_4 12 rfl) (mmC (mmI il_X11_owedOf_4 13 rfl) (mmC (mmI il_X11_owedOf_4 14 rfl) mmN)))))))))))))))))))))))) (mmA (mmC (mmI il_X11_owedOf_4 15 rfl) (mmC (mmI il_X11_owedOf_4 16 rfl) (mmC (mmI il_X11_owedOf_4 17 rfl) (mmC (mmI il_X11_owedOf_4 18 rfl) (mmC (mmI il_X11_owedOf_4 19 rfl) (mmC (mmI il_X11_owedOf_4 20 rfl) (mmC (mmI il_X11_owedOf_4 21 rfl) (mmC (mmI il_X11_owedOf_4 22 rfl) (mmC (mmI il_X11_owedOf_4 23 rfl) (mmC (mmI il_X11_owedOf_5 0 rfl) (mmC (mmI il_X11_owedOf_5 1 rfl) (mmC (mmI il_X11_owedOf_5 2 rfl) (mmC (mmI il_X11_owedOf_5 3 rfl) (mmC (mmI il_X11_owedOf_5 4 rfl) (mmC (mmI il_X11_owedOf_5 5 rfl) (mmC (mmI il_X11_owedOf_5 6 rfl) (mmC (mmI il_X11_owedOf_5 7 rfl) (mmC (mmI il_X11_owedOf_5 8 rfl) (mmC (mmI il_X11_owedOf_5 9 rfl) (mmC (mmI il_X11_owedOf_5 10 rfl) (mmC (mmI il_X11_owedOf_5 11 rfl) (mmC (mmI il_X11_owedOf_5 12 rfl) (mmC (mmI il_X11_owedOf_5 13 rfl) (mmC (mmI il_X11_owedOf_5 14 rfl) mmN)))))))))))))))))))))))) (mmC (mmI il_X11_owedOf_5 15 rfl) (mmC (mmI il_X11_owedOf_5 16 rfl) (mmC (mmI il_X11_owedOf_5 17 rfl) (mmC (mmI il_X11_owedOf_5 18 rfl) mmN)))))))) il_X11_owedOf_7)) gw_X11_earnsOf
theorem gX11_owedOf_X11_earnsOf : GoodIn wsX11_owedOf (wsV RX11 303 RX11 yX11_earnsOf wsX11_earnsOf) := goodIn_app (goodIn_sub (mmC (mmI il_X11_owedOf_1 13 rfl) (mmC (mmI il_X11_owedOf_1 14 rfl) (mmC (mmI il_X11_owedOf_1 15 rfl) (mmC (mmI il_X11_owedOf_1 16 rfl) mmN)))) (by decide +kernel)) ggX11_owedOf_X11_earnsOf
set_option maxRecDepth 100000 in
theorem ggX11_owedOf_X11_sailedOn : GoodIn wsX11_owedOf wsX11_sailedOn := goodIn_sub (mmC (mmI il_X11_owedOf_2 19 rfl) (mmA (mmC (mmI il_X11_owedOf_2 4 rfl) (mmC (mmI il_X11_owedOf_1 23 rfl) (mmC (mmI il_X11_owedOf_2 5 rfl) (mmC (mmI il_X11_owedOf_2 6 rfl) (mmC (mmI il_X11_owedOf_2 7 rfl) mmN))))) il_X11_owedOf_7)) gw_X11_sailedOn
theorem gX11_owedOf_X11_sailedOn : GoodIn wsX11_owedOf (wsV RX11 278 RX11 yX11_sailedOn wsX11_sailedOn) := goodIn_app (goodIn_sub (mmC (mmI il_X11_owedOf_2 16 rfl) (mmC (mmI il_X11_owedOf_2 17 rfl) (mmC (mmI il_X11_owedOf_2 18 rfl) (mmC (mmI il_X11_owedOf_1 16 rfl) mmN)))) (by decide +kernel)) ggX11_owedOf_X11_sailedOn
set_option maxRecDepth 100000 in
theorem ggX11_owedOf_X11_stateOf : GoodIn wsX11_owedOf wsX11_stateOf := goodIn_sub (mmC (mmI il_X11_owedOf_1 21 rfl) (mmA (mmA (mmC (mmI il_X11_owedOf_1 0 rfl) (mmC (mmI il_X11_owedOf_1 22 rfl) (mmC (mmI il_X11_owedOf_1 23 rfl) (mmC (mmI il_X11_owedOf_1 3 rfl) (mmC (mmI il_X11_owedOf_2 0 rfl) (mmC (mmI il_X11_owedOf_2 1 rfl) (mmC (mmI il_X11_owedOf_2 2 rfl) (mmC (mmI il_X11_owedOf_1 16 rfl) (mmC (mmI il_X11_owedOf_2 3 rfl) (mmC (mmI il_X11_owedOf_2 4 rfl) (mmC (mmI il_X11_owedOf_2 5 rfl) (mmC (mmI il_X11_owedOf_2 6 rfl) (mmC (mmI il_X11_owedOf_2 7 rfl) (mmC (mmI il_X11_owedOf_2 8 rfl) (mmC (mmI il_X11_owedOf_2 9 rfl) (mmC (mmI il_X11_owedOf_2 10 rfl) (mmC (mmI il_X11_owedOf_2 11 rfl) (mmC (mmI il_X11_owedOf_2 12 rfl) (mmC (mmI il_X11_owedOf_2 13 rfl) (mmC (mmI il_X11_owedOf_2 14 rfl) (mmC (mmI il_X11_owedOf_2 15 rfl) (mmC (mmI il_X11_owedOf_2 16 rfl) (mmC (mmI il_X11_owedOf_2 17 rfl) (mmC (mmI il_X11_owedOf_2 18 rfl) mmN)))))))))))))))))))))))) (mmA (mmC (mmI il_X11_owedOf_2 19 rfl) (mmC (mmI il_X11_owedOf_2 20 rfl) (mmC (mmI il_X11_owedOf_2 21 rfl) (mmC (mmI il_X11_owedOf_2 22 rfl) (mmC (mmI il_X11_owedOf_2 23 rfl) (mmC (mmI il_X11_owedOf_3 0 rfl) (mmC (mmI il_X11_owedOf_3 1 rfl) (mmC (mmI il_X11_owedOf_3 2 rfl) (mmC (mmI il_X11_owedOf_3 3 rfl) (mmC (mmI il_X11_owedOf_3 4 rfl) (mmC (mmI il_X11_owedOf_3 5 rfl) (mmC (mmI il_X11_owedOf_3 6 rfl) (mmC (mmI il_X11_owedOf_3 7 rfl) (mmC (mmI il_X11_owedOf_3 8 rfl) (mmC (mmI il_X11_owedOf_3 9 rfl) (mmC (mmI il_X11_owedOf_3 10 rfl) (mmC (mmI il_X11_owedOf_3 11 rfl) (mmC (mmI il_X11_owedOf_3 12 rfl) (mmC (mmI il_X11_owedOf_3 13 rfl) (mmC (mmI il_X11_owedOf_3 14 rfl) (mmC (mmI il_X11_owedOf_3 15 rfl) (mmC (mmI il_X11_owedOf_3 16 rfl) (mmC (mmI il_X11_owedOf_3 17 rfl) (mmC (mmI il_X11_owedOf_3 18 rfl) mmN)))))))))))))))))))))))) (mmA (mmC (mmI il_X11_owedOf_3 19 rfl) (mmC (mmI il_X11_owedOf_3 20 rfl) (mmC (mmI il_X11_owedOf_3 21 rfl) (mmC (mmI il_X11_owedOf_3 22 rfl) (mmC (mmI il_X11_owedOf_3 23 rfl) (mmC (mmI il_X11_owedOf_4 0 rfl) (mmC (mmI il_X11_owedOf_4 1 rfl) (mmC (mmI il_X11_owedOf_4 2 rfl) (mmC (mmI il_X11_owedOf_4 3 rfl) (mmC (mmI il_X11_owedOf_4 4 rfl) (mmC (mmI il_X11_owedOf_4 5 rfl) (mmC (mmI il_X11_owedOf_4 6 rfl) (mmC (mmI il_X11_owedOf_4 7 rfl) (mmC (mmI il_X11_owedOf_4 8 rfl) (mmC (mmI il_X11_owedOf_4 9 rfl) (mmC (mmI il_X11_owedOf_4 10 rfl) (mmC (mmI il_X11_owedOf_4 11 rfl) (mmC (mmI il_X11_owedOf_4 12 rfl) (mmC (mmI il_X11_owedOf_4 13 rfl) (mmC (mmI il_X11_owedOf_4 14 rfl) (mmC (mmI il_X11_owedOf_4 15 rfl) (mmC (mmI il_X11_owedOf_4 16 rfl) (mmC (mmI il_X11_owedOf_4 17 rfl) (mmC (mmI il_X11_owedOf_4 18 rfl) mmN)))))))))))))))))))))))) (mmC (mmI il_X11_owedOf_4 19 rfl) (mmC (mmI il_X11_owedOf_4 20 rfl) (mmC (mmI il_X11_owedOf_4 21 rfl) (mmC (mmI il_X11_owedOf_4 22 rfl) (mmC (mmI il_X11_owedOf_4 23 rfl) (mmC (mmI il_X11_owedOf_5 0 rfl) (mmC (mmI il_X11_owedOf_5 1 rfl) (mmC (mmI il_X11_owedOf_5 2 rfl) (mmC (mmI il_X11_owedOf_5 3 rfl) (mmC (mmI il_X11_owedOf_5 4 rfl) (mmC (mmI il_X11_owedOf_5 5 rfl) (mmC (mmI il_X11_owedOf_5 6 rfl) (mmC (mmI il_X11_owedOf_5 7 rfl) (mmC (mmI il_X11_owedOf_5 8 rfl) (mmC (mmI il_X11_owedOf_5 9 rfl) (mmC (mmI il_X11_owedOf_5 10 rfl) (mmC (mmI il_X11_owedOf_5 11 rfl) (mmC (mmI il_X11_owedOf_5 12 rfl) (mmC (mmI il_X11_owedOf_5 13 rfl) (mmC (mmI il_X11_owedOf_5 14 rfl) (mmC (mmI il_X11_owedOf_5 15 rfl) mmN)))))))))))))))))))))))) il_X11_owedOf_7)) gw_X11_stateOf
theorem gX11_owedOf_X11_stateOf : GoodIn wsX11_owedOf (wsV RX11 266 RX11 yX11_stateOf wsX11_stateOf) := goodIn_app (goodIn_sub (mmC (mmI il_X11_owedOf_1 18 rfl) (mmC (mmI il_X11_owedOf_1 19 rfl) (mmC (mmI il_X11_owedOf_1 20 rfl) (mmC (mmI il_X11_owedOf_1 16 rfl) mmN)))) (by decide +kernel)) ggX11_owedOf_X11_stateOf
set_option maxRecDepth 100000 in
theorem ggX11_owedOf_X11_standsOf : GoodIn wsX11_owedOf wsX11_standsOf := goodIn_sub (mmC (mmI il_X11_owedOf_5 22 rfl) (mmA (mmA (mmC (mmI il_X11_owedOf_1 7 rfl) (mmC (mmI il_X11_owedOf_5 23 rfl) (mmC (mmI il_X11_owedOf_6 0 rfl) (mmC (mmI il_X11_owedOf_6 1 rfl) (mmC (mmI il_X11_owedOf_6 2 rfl) (mmC (mmI il_X11_owedOf_6 3 rfl) (mmC (mmI il_X11_owedOf_1 16 rfl) (mmC (mmI il_X11_owedOf_6 4 rfl) (mmC (mmI il_X11_owedOf_1 0 rfl) (mmC (mmI il_X11_owedOf_1 3 rfl) (mmC (mmI il_X11_owedOf_3 4 rfl) (mmC (mmI il_X11_owedOf_1 1 rfl) (mmC (mmI il_X11_owedOf_6 5 rfl) (mmC (mmI il_X11_owedOf_6 6 rfl) (mmC (mmI il_X11_owedOf_6 7 rfl) (mmC (mmI il_X11_owedOf_1 18 rfl) (mmC (mmI il_X11_owedOf_1 19 rfl) (mmC (mmI il_X11_owedOf_1 20 rfl) (mmC (mmI il_X11_owedOf_1 21 rfl) (mmC (mmI il_X11_owedOf_1 22 rfl) (mmC (mmI il_X11_owedOf_1 23 rfl) (mmC (mmI il_X11_owedOf_2 0 rfl) (mmC (mmI il_X11_owedOf_2 1 rfl) (mmC (mmI il_X11_owedOf_2 2 rfl) mmN)))))))))))))))))))))))) (mmA (mmC (mmI il_X11_owedOf_2 3 rfl) (mmC (mmI il_X11_owedOf_2 4 rfl) (mmC (mmI il_X11_owedOf_2 5 rfl) (mmC (mmI il_X11_owedOf_2 6 rfl) (mmC (mmI il_X11_owedOf_2 7 rfl) (mmC (mmI il_X11_owedOf_2 8 rfl) (mmC (mmI il_X11_owedOf_2 9 rfl) (mmC (mmI il_X11_owedOf_2 10 rfl) (mmC (mmI il_X11_owedOf_2 11 rfl) (mmC (mmI il_X11_owedOf_2 12 rfl) (mmC (mmI il_X11_owedOf_2 13 rfl) (mmC (mmI il_X11_owedOf_2 14 rfl) (mmC (mmI il_X11_owedOf_2 15 rfl) (mmC (mmI il_X11_owedOf_2 16 rfl) (mmC (mmI il_X11_owedOf_2 17 rfl) (mmC (mmI il_X11_owedOf_2 18 rfl) (mmC (mmI il_X11_owedOf_2 19 rfl) (mmC (mmI il_X11_owedOf_2 20 rfl) (mmC (mmI il_X11_owedOf_2 21 rfl) (mmC (mmI il_X11_owedOf_2 22 rfl) (mmC (mmI il_X11_owedOf_2 23 rfl) (mmC (mmI il_X11_owedOf_3 0 rfl) (mmC (mmI il_X11_owedOf_3 1 rfl) (mmC (mmI il_X11_owedOf_3 2 rfl) mmN)))))))))))))))))))))))) (mmA (mmC (mmI il_X11_owedOf_3 3 rfl) (mmC (mmI il_X11_owedOf_3 5 rfl) (mmC (mmI il_X11_owedOf_3 6 rfl) (mmC (mmI il_X11_owedOf_3 7 rfl) (mmC (mmI il_X11_owedOf_3 8 rfl) (mmC (mmI il_X11_owedOf_3 9 rfl) (mmC (mmI il_X11_owedOf_3 10 rfl) (mmC (mmI il_X11_owedOf_3 11 rfl) (mmC (mmI il_X11_owedOf_3 12 rfl) (mmC (mmI il_X11_owedOf_3 13 rfl) (mmC (mmI il_X11_owedOf_3 14 rfl) (mmC (mmI il_X11_owedOf_3 15 rfl) (mmC (mmI il_X11_owedOf_3 16 rfl) (mmC (mmI il_X11_owedOf_3 17 rfl) (mmC (mmI il_X11_owedOf_3 18 rfl) (mmC (mmI il_X11_owedOf_3 19 rfl) (mmC (mmI il_X11_owedOf_3 20 rfl) (mmC (mmI il_X11_owedOf_3 21 rfl) (mmC (mmI il_X11_owedOf_3 22 rfl) (mmC (mmI il_X11_owedOf_3 23 rfl) (mmC (mmI il_X11_owedOf_4 0 rfl) (mmC (mmI il_X11_owedOf_4 1 rfl) (mmC (mmI il_X11_owedOf_4 2 rfl) (mmC (mmI il_X11_owedOf_4 3 rfl) mmN)))))))))))))))))))))))) (mmA (mmC (mmI il_X11_owedOf_4 4 rfl) (mmC (mmI il_X11_owedOf_4 5 rfl) (mmC (mmI il_X11_owedOf_4 6 rfl) (mmC (mmI il_X11_owedOf_4 7 rfl) (mmC (mmI il_X11_owedOf_4 8 rfl) (mmC (mmI il_X11_owedOf_4 9 rfl) (mmC (mmI il_X11_owedOf_4 10 rfl) (mmC (mmI il_X11_owedOf_4 11 rfl) (mmC (mmI il_X11_owedOf_4 12 rfl) (mmC (mmI il_X11_owedOf_4 13 rfl) (mmC (mmI il_X11_owedOf_4 14 rfl) (mmC (mmI il_X11_owedOf_4 15 rfl) (mmC (mmI il_X11_owedOf_4 16 rfl) (mmC (mmI il_X11_owedOf_4 17 rfl) (mmC (mmI il_X11_owedOf_4 18 rfl) (mmC (mmI il_X11_owedOf_4 19 rfl) (mmC (mmI il_X11_owedOf_4 20 rfl) (mmC (mmI il_X11_owedOf_4 21 rfl) (mmC (mmI il_X11_owedOf_4 22 rfl) (mmC (mmI il_X11_owedOf_4 23 rfl) (mmC (mmI il_X11_owedOf_5 0 rfl) (mmC (mmI il_X11_owedOf_5 1 rfl) (mmC (mmI il_X11_owedOf_5 2 rfl) (mmC (mmI il_X11_owedOf_5 3 rfl) mmN)))))))))))))))))))))))) (mmC (mmI il_X11_owedOf_5 4 rfl) (mmC (mmI il_X11_owedOf_5 5 rfl) (mmC (mmI il_X11_owedOf_5 6 rfl) (mmC (mmI il_X11_owedOf_5 7 rfl) (mmC (mmI il_X11_owedOf_5 8 rfl) (mmC (mmI il_X11_owedOf_5 9 rfl) (mmC (mmI il_X11_owedOf_5 10 rfl) (mmC (mmI il_X11_owedOf_5 11 rfl) (mmC (mmI il_X11_owedOf_5 12 rfl) (mmC (mmI il_X11_owedOf_5 13 rfl) (mmC (mmI il_X11_owedOf_5 14 rfl) (mmC (mmI il_X11_owedOf_5 15 rfl) (mmC (mmI il_X11_owedOf_6 8 rfl) (mmC (mmI il_X11_owedOf_6 9 rfl) (mmC (mmI il_X11_owedOf_6 10 rfl) (mmC (mmI il_X11_owedOf_6 11 rfl) (mmC (mmI il_X11_owedOf_6 12 rfl) mmN))))))))))))))))))))) il_X11_owedOf_7)) gw_X11_standsOf
theorem gX11_owedOf_X11_standsOf : GoodIn wsX11_owedOf (wsV RX11 315 RX11 yX11_standsOf wsX11_standsOf) := goodIn_app (goodIn_sub (mmC (mmI il_X11_owedOf_5 19 rfl) (mmC (mmI il_X11_owedOf_5 20 rfl) (mmC (mmI il_X11_owedOf_5 21 rfl) (mmC (mmI il_X11_owedOf_1 16 rfl) mmN)))) (by decide +kernel)) ggX11_owedOf_X11_standsOf
set_option maxRecDepth 100000 in
theorem ggX11_owedOf_X11_whereOf : GoodIn wsX11_owedOf wsX11_whereOf := goodIn_sub (mmC (mmI il_X11_owedOf_2 11 rfl) (mmA (mmC (mmI il_X11_owedOf_2 4 rfl) (mmC (mmI il_X11_owedOf_1 23 rfl) (mmC (mmI il_X11_owedOf_2 5 rfl) (mmC (mmI il_X11_owedOf_2 6 rfl) (mmC (mmI il_X11_owedOf_2 7 rfl) mmN))))) il_X11_owedOf_7)) gw_X11_whereOf
theorem gX11_owedOf_X11_whereOf : GoodIn wsX11_owedOf (wsV RX11 291 RX11 yX11_whereOf wsX11_whereOf) := goodIn_app (goodIn_sub (mmC (mmI il_X11_owedOf_2 8 rfl) (mmC (mmI il_X11_owedOf_2 9 rfl) (mmC (mmI il_X11_owedOf_2 10 rfl) (mmC (mmI il_X11_owedOf_1 16 rfl) mmN)))) (by decide +kernel)) ggX11_owedOf_X11_whereOf
set_option maxRecDepth 100000 in
theorem ggX11_owedOf_X11_puts : GoodIn wsX11_owedOf wsX11_puts := goodIn_sub (mmC (mmI il_X11_owedOf_6 4 rfl) (mmA (mmA (mmC (mmI il_X11_owedOf_1 0 rfl) (mmC (mmI il_X11_owedOf_1 3 rfl) (mmC (mmI il_X11_owedOf_3 4 rfl) (mmC (mmI il_X11_owedOf_1 1 rfl) (mmC (mmI il_X11_owedOf_6 5 rfl) (mmC (mmI il_X11_owedOf_6 6 rfl) (mmC (mmI il_X11_owedOf_6 7 rfl) (mmC (mmI il_X11_owedOf_1 18 rfl) (mmC (mmI il_X11_owedOf_1 19 rfl) (mmC (mmI il_X11_owedOf_1 20 rfl) (mmC (mmI il_X11_owedOf_1 16 rfl) (mmC (mmI il_X11_owedOf_1 21 rfl) (mmC (mmI il_X11_owedOf_1 22 rfl) (mmC (mmI il_X11_owedOf_1 23 rfl) (mmC (mmI il_X11_owedOf_2 0 rfl) (mmC (mmI il_X11_owedOf_2 1 rfl) (mmC (mmI il_X11_owedOf_2 2 rfl) (mmC (mmI il_X11_owedOf_2 3 rfl) (mmC (mmI il_X11_owedOf_2 4 rfl) (mmC (mmI il_X11_owedOf_2 5 rfl) (mmC (mmI il_X11_owedOf_2 6 rfl) (mmC (mmI il_X11_owedOf_2 7 rfl) (mmC (mmI il_X11_owedOf_2 8 rfl) (mmC (mmI il_X11_owedOf_2 9 rfl) mmN)))))))))))))))))))))))) (mmA (mmC (mmI il_X11_owedOf_2 10 rfl) (mmC (mmI il_X11_owedOf_2 11 rfl) (mmC (mmI il_X11_owedOf_2 12 rfl) (mmC (mmI il_X11_owedOf_2 13 rfl) (mmC (mmI il_X11_owedOf_2 14 rfl) (mmC (mmI il_X11_owedOf_2 15 rfl) (mmC (mmI il_X11_owedOf_2 16 rfl) (mmC (mmI il_X11_owedOf_2 17 rfl) (mmC (mmI il_X11_owedOf_2 18 rfl) (mmC (mmI il_X11_owedOf_2 19 rfl) (mmC (mmI il_X11_owedOf_2 20 rfl) (mmC (mmI il_X11_owedOf_2 21 rfl) (mmC (mmI il_X11_owedOf_2 22 rfl) (mmC (mmI il_X11_owedOf_2 23 rfl) (mmC (mmI il_X11_owedOf_3 0 rfl) (mmC (mmI il_X11_owedOf_3 1 rfl) (mmC (mmI il_X11_owedOf_3 2 rfl) (mmC (mmI il_X11_owedOf_3 3 rfl) (mmC (mmI il_X11_owedOf_3 5 rfl) (mmC (mmI il_X11_owedOf_3 6 rfl) (mmC (mmI il_X11_owedOf_3 7 rfl) (mmC (mmI il_X11_owedOf_3 8 rfl) (mmC (mmI il_X11_owedOf_3 9 rfl) (mmC (mmI il_X11_owedOf_3 10 rfl) mmN)))))))))))))))))))))))) (mmA (mmC (mmI il_X11_owedOf_3 11 rfl) (mmC (mmI il_X11_owedOf_3 12 rfl) (mmC (mmI il_X11_owedOf_3 13 rfl) (mmC (mmI il_X11_owedOf_3 14 rfl) (mmC (mmI il_X11_owedOf_3 15 rfl) (mmC (mmI il_X11_owedOf_3 16 rfl) (mmC (mmI il_X11_owedOf_3 17 rfl) (mmC (mmI il_X11_owedOf_3 18 rfl) (mmC (mmI il_X11_owedOf_3 19 rfl) (mmC (mmI il_X11_owedOf_3 20 rfl) (mmC (mmI il_X11_owedOf_3 21 rfl) (mmC (mmI il_X11_owedOf_3 22 rfl) (mmC (mmI il_X11_owedOf_3 23 rfl) (mmC (mmI il_X11_owedOf_4 0 rfl) (mmC (mmI il_X11_owedOf_4 1 rfl) (mmC (mmI il_X11_owedOf_4 2 rfl) (mmC (mmI il_X11_owedOf_4 3 rfl) (mmC (mmI il_X11_owedOf_4 4 rfl) (mmC (mmI il_X11_owedOf_4 5 rfl) (mmC (mmI il_X11_owedOf_4 6 rfl) (mmC (mmI il_X11_owedOf_4 7 rfl) (mmC (mmI il_X11_owedOf_4 8 rfl) (mmC (mmI il_X11_owedOf_4 9 rfl) (mmC (mmI il_X11_owedOf_4 10 rfl) mmN)))))))))))))))))))))))) (mmA (mmC (mmI il_X11_owedOf_4 11 rfl) (mmC (mmI il_X11_owedOf_4 12 rfl) (mmC (mmI il_X11_owedOf_4 13 rfl) (mmC (mmI il_X11_owedOf_4 14 rfl) (mmC (mmI il_X11_owedOf_4 15 rfl) (mmC (mmI il_X11_owedOf_4 16 rfl) (mmC (mmI il_X11_owedOf_4 17 rfl) (mmC (mmI il_X11_owedOf_4 18 rfl) (mmC (mmI il_X11_owedOf_4 19 rfl) (mmC (mmI il_X11_owedOf_4 20 rfl) (mmC (mmI il_X11_owedOf_4 21 rfl) (mmC (mmI il_X11_owedOf_4 22 rfl) (mmC (mmI il_X11_owedOf_4 23 rfl) (mmC (mmI il_X11_owedOf_5 0 rfl) (mmC (mmI il_X11_owedOf_5 1 rfl) (mmC (mmI il_X11_owedOf_5 2 rfl) (mmC (mmI il_X11_owedOf_5 3 rfl) (mmC (mmI il_X11_owedOf_5 4 rfl) (mmC (mmI il_X11_owedOf_5 5 rfl) (mmC (mmI il_X11_owedOf_5 6 rfl) (mmC (mmI il_X11_owedOf_5 7 rfl) (mmC (mmI il_X11_owedOf_5 8 rfl) (mmC (mmI il_X11_owedOf_5 9 rfl) (mmC (mmI il_X11_owedOf_5 10 rfl) mmN)))))))))))))))))))))))) (mmC (mmI il_X11_owedOf_5 11 rfl) (mmC (mmI il_X11_owedOf_5 12 rfl) (mmC (mmI il_X11_owedOf_5 13 rfl) (mmC (mmI il_X11_owedOf_5 14 rfl) (mmC (mmI il_X11_owedOf_5 15 rfl) (mmC (mmI il_X11_owedOf_6 8 rfl) (mmC (mmI il_X11_owedOf_6 9 rfl) (mmC (mmI il_X11_owedOf_6 10 rfl) (mmC (mmI il_X11_owedOf_6 11 rfl) (mmC (mmI il_X11_owedOf_6 12 rfl) mmN)))))))))))))) il_X11_owedOf_7)) gw_X11_puts
theorem gX11_owedOf_X11_puts : GoodIn wsX11_owedOf (wsV RX11 306 RX11 yX11_puts wsX11_puts) := goodIn_app (goodIn_sub (mmC (mmI il_X11_owedOf_6 1 rfl) (mmC (mmI il_X11_owedOf_6 2 rfl) (mmC (mmI il_X11_owedOf_6 3 rfl) (mmC (mmI il_X11_owedOf_1 16 rfl) mmN)))) (by decide +kernel)) ggX11_owedOf_X11_puts
set_option maxRecDepth 100000 in
theorem ggX11_owedOf_X11_worth : GoodIn wsX11_owedOf wsX11_worth := goodIn_sub (mmC (mmI il_X11_owedOf_3 12 rfl) (mmA (mmA (mmC (mmI il_X11_owedOf_3 13 rfl) (mmC (mmI il_X11_owedOf_3 4 rfl) (mmC (mmI il_X11_owedOf_3 14 rfl) (mmC (mmI il_X11_owedOf_3 15 rfl) (mmC (mmI il_X11_owedOf_3 16 rfl) (mmC (mmI il_X11_owedOf_1 16 rfl) (mmC (mmI il_X11_owedOf_3 17 rfl) (mmC (mmI il_X11_owedOf_3 18 rfl) (mmC (mmI il_X11_owedOf_3 19 rfl) (mmC (mmI il_X11_owedOf_3 20 rfl) (mmC (mmI il_X11_owedOf_3 21 rfl) (mmC (mmI il_X11_owedOf_3 22 rfl) (mmC (mmI il_X11_owedOf_3 23 rfl) (mmC (mmI il_X11_owedOf_4 0 rfl) (mmC (mmI il_X11_owedOf_4 1 rfl) (mmC (mmI il_X11_owedOf_4 2 rfl) (mmC (mmI il_X11_owedOf_4 3 rfl) (mmC (mmI il_X11_owedOf_4 4 rfl) (mmC (mmI il_X11_owedOf_4 5 rfl) (mmC (mmI il_X11_owedOf_4 6 rfl) (mmC (mmI il_X11_owedOf_4 7 rfl) (mmC (mmI il_X11_owedOf_4 8 rfl) (mmC (mmI il_X11_owedOf_4 9 rfl) (mmC (mmI il_X11_owedOf_4 10 rfl) mmN)))))))))))))))))))))))) (mmA (mmC (mmI il_X11_owedOf_4 11 rfl) (mmC (mmI il_X11_owedOf_4 12 rfl) (mmC (mmI il_X11_owedOf_4 13 rfl) (mmC (mmI il_X11_owedOf_4 14 rfl) (mmC (mmI il_X11_owedOf_4 15 rfl) (mmC (mmI il_X11_owedOf_4 16 rfl) (mmC (mmI il_X11_owedOf_4 17 rfl) (mmC (mmI il_X11_owedOf_4 18 rfl) (mmC (mmI il_X11_owedOf_4 19 rfl) (mmC (mmI il_X11_owedOf_4 20 rfl) (mmC (mmI il_X11_owedOf_4 21 rfl) (mmC (mmI il_X11_owedOf_4 22 rfl) (mmC (mmI il_X11_owedOf_4 23 rfl) (mmC (mmI il_X11_owedOf_5 0 rfl) (mmC (mmI il_X11_owedOf_5 1 rfl) (mmC (mmI il_X11_owedOf_5 2 rfl) (mmC (mmI il_X11_owedOf_5 3 rfl) (mmC (mmI il_X11_owedOf_5 4 rfl) (mmC (mmI il_X11_owedOf_5 5 rfl) (mmC (mmI il_X11_owedOf_5 6 rfl) (mmC (mmI il_X11_owedOf_5 7 rfl) (mmC (mmI il_X11_owedOf_5 8 rfl) (mmC (mmI il_X11_owedOf_5 9 rfl) (mmC (mmI il_X11_owedOf_5 10 rfl) mmN)))))))))))))))))))))))) (mmC (mmI il_X11_owedOf_5 11 rfl) (mmC (mmI il_X11_owedOf_5 12 rfl) (mmC (mmI il_X11_owedOf_5 13 rfl) (mmC (mmI il_X11_owedOf_5 14 rfl) (mmC (mmI il_X11_owedOf_5 15 rfl) mmN))))))) il_X11_owedOf_7)) gw_X11_worth
theorem gX11_owedOf_X11_worth : GoodIn wsX11_owedOf (wsV RX11 285 RX11 yX11_worth wsX11_worth) := goodIn_app (goodIn_sub (mmC (mmI il_X11_owedOf_3 9 rfl) (mmC (mmI il_X11_owedOf_3 10 rfl) (mmC (mmI il_X11_owedOf_3 11 rfl) (mmC (mmI il_X11_owedOf_1 16 rfl) mmN)))) (by decide +kernel)) ggX11_owedOf_X11_worth
theorem dX11_owedOf_0 : decode cX11_owedOf 0 = .ok (.iload_n 2, 1) := by decide +kernel
theorem dX11_owedOf_1 : decode cX11_owedOf 1 = .ok (.aload_n 0, 1) := by decide +kernel
theorem dX11_owedOf_2 : decode cX11_owedOf 2 = .ok (.getfield 85, 3) := by decide +kernel
theorem dX11_owedOf_5 : decode cX11_owedOf 5 = .ok (.iload_n 1, 1) := by decide +kernel
theorem dX11_owedOf_6 : decode cX11_owedOf 6 = .ok (.iaload, 1) := by decide +kernel
theorem dX11_owedOf_7 : decode cX11_owedOf 7 = .ok (.if_icmp .ge 5, 3) := by decide +kernel
theorem dX11_owedOf_10 : decode cX11_owedOf 10 = .ok (.iconst 0, 1) := by decide +kernel
theorem dX11_owedOf_11 : decode cX11_owedOf 11 = .ok (.ireturn, 1) := by decide +kernel
theorem dX11_owedOf_12 : decode cX11_owedOf 12 = .ok (.aload_n 0, 1) := by decide +kernel
theorem dX11_owedOf_13 : decode cX11_owedOf 13 = .ok (.getfield 76, 3) := by decide +kernel
theorem dX11_owedOf_16 : decode cX11_owedOf 16 = .ok (.iload_n 1, 1) := by decide +kernel
theorem dX11_owedOf_17 : decode cX11_owedOf 17 = .ok (.iaload, 1) := by decide +kernel
theorem dX11_owedOf_18 : decode cX11_owedOf 18 = .ok (.i2l, 1) := by decide +kernel
theorem dX11_owedOf_19 : decode cX11_owedOf 19 = .ok (.aload_n 0, 1) := by decide +kernel
theorem dX11_owedOf_20 : decode cX11_owedOf 20 = .ok (.iload_n 1, 1) := by decide +kernel
theorem dX11_owedOf_21 : decode cX11_owedOf 21 = .ok (.iload_n 2, 1) := by decide +kernel
theorem dX11_owedOf_22 : decode cX11_owedOf 22 = .ok (.iload_n 3, 1) := by decide +kernel
theorem dX11_owedOf_23 : decode cX11_owedOf 23 = .ok (.invokevirtual 303, 3) := by decide +kernel
theorem dX11_owedOf_26 : decode cX11_owedOf 26 = .ok (.i2l, 1) := by decide +kernel
theorem dX11_owedOf_27 : decode cX11_owedOf 27 = .ok (.lmul, 1) := by decide +kernel
theorem dX11_owedOf_28 : decode cX11_owedOf 28 = .ok (.ldc2_w 318, 3) := by decide +kernel
theorem dX11_owedOf_31 : decode cX11_owedOf 31 = .ok (.ldiv, 1) := by decide +kernel
theorem dX11_owedOf_32 : decode cX11_owedOf 32 = .ok (.lstore 4, 2) := by decide +kernel
theorem dX11_owedOf_34 : decode cX11_owedOf 34 = .ok (.aload_n 0, 1) := by decide +kernel
theorem dX11_owedOf_35 : decode cX11_owedOf 35 = .ok (.aload_n 0, 1) := by decide +kernel
theorem dX11_owedOf_36 : decode cX11_owedOf 36 = .ok (.getfield 73, 3) := by decide +kernel
theorem dX11_owedOf_39 : decode cX11_owedOf 39 = .ok (.iload_n 1, 1) := by decide +kernel
theorem dX11_owedOf_40 : decode cX11_owedOf 40 = .ok (.iaload, 1) := by decide +kernel
theorem dX11_owedOf_41 : decode cX11_owedOf 41 = .ok (.iload_n 3, 1) := by decide +kernel
theorem dX11_owedOf_42 : decode cX11_owedOf 42 = .ok (.invokevirtual 278, 3) := by decide +kernel
theorem dX11_owedOf_45 : decode cX11_owedOf 45 = .ok (.istore 6, 2) := by decide +kernel
theorem dX11_owedOf_47 : decode cX11_owedOf 47 = .ok (.aload_n 0, 1) := by decide +kernel
theorem dX11_owedOf_48 : decode cX11_owedOf 48 = .ok (.getfield 91, 3) := by decide +kernel
theorem dX11_owedOf_51 : decode cX11_owedOf 51 = .ok (.iload_n 1, 1) := by decide +kernel
theorem dX11_owedOf_52 : decode cX11_owedOf 52 = .ok (.iaload, 1) := by decide +kernel
theorem dX11_owedOf_53 : decode cX11_owedOf 53 = .ok (.ifCond .le 42, 3) := by decide +kernel
theorem dX11_owedOf_56 : decode cX11_owedOf 56 = .ok (.iload 6, 2) := by decide +kernel
theorem dX11_owedOf_58 : decode cX11_owedOf 58 = .ok (.ifCond .lt 37, 3) := by decide +kernel
theorem dX11_owedOf_61 : decode cX11_owedOf 61 = .ok (.iload 6, 2) := by decide +kernel
theorem dX11_owedOf_63 : decode cX11_owedOf 63 = .ok (.iconst 3, 1) := by decide +kernel
theorem dX11_owedOf_64 : decode cX11_owedOf 64 = .ok (.iadd, 1) := by decide +kernel
theorem dX11_owedOf_65 : decode cX11_owedOf 65 = .ok (.iload_n 2, 1) := by decide +kernel
theorem dX11_owedOf_66 : decode cX11_owedOf 66 = .ok (.if_icmp .gt 29, 3) := by decide +kernel
theorem dX11_owedOf_69 : decode cX11_owedOf 69 = .ok (.aload_n 0, 1) := by decide +kernel
theorem dX11_owedOf_70 : decode cX11_owedOf 70 = .ok (.iload_n 1, 1) := by decide +kernel
theorem dX11_owedOf_71 : decode cX11_owedOf 71 = .ok (.iload 6, 2) := by decide +kernel
theorem dX11_owedOf_73 : decode cX11_owedOf 73 = .ok (.iconst 3, 1) := by decide +kernel
theorem dX11_owedOf_74 : decode cX11_owedOf 74 = .ok (.iadd, 1) := by decide +kernel
theorem dX11_owedOf_75 : decode cX11_owedOf 75 = .ok (.iload_n 3, 1) := by decide +kernel
theorem dX11_owedOf_76 : decode cX11_owedOf 76 = .ok (.invokevirtual 266, 3) := by decide +kernel
theorem dX11_owedOf_79 : decode cX11_owedOf 79 = .ok (.iconst 1, 1) := by decide +kernel
theorem dX11_owedOf_80 : decode cX11_owedOf 80 = .ok (.if_icmp .ne 15, 3) := by decide +kernel
theorem dX11_owedOf_83 : decode cX11_owedOf 83 = .ok (.lload 4, 2) := by decide +kernel
theorem dX11_owedOf_85 : decode cX11_owedOf 85 = .ok (.aload_n 0, 1) := by decide +kernel
theorem dX11_owedOf_86 : decode cX11_owedOf 86 = .ok (.getfield 91, 3) := by decide +kernel
theorem dX11_owedOf_89 : decode cX11_owedOf 89 = .ok (.iload_n 1, 1) := by decide +kernel
theorem dX11_owedOf_90 : decode cX11_owedOf 90 = .ok (.iaload, 1) := by decide +kernel
theorem dX11_owedOf_91 : decode cX11_owedOf 91 = .ok (.i2l, 1) := by decide +kernel
theorem dX11_owedOf_92 : decode cX11_owedOf 92 = .ok (.lsub, 1) := by decide +kernel
theorem dX11_owedOf_93 : decode cX11_owedOf 93 = .ok (.lstore 4, 2) := by decide +kernel
theorem dX11_owedOf_95 : decode cX11_owedOf 95 = .ok (.iload 6, 2) := by decide +kernel
theorem dX11_owedOf_97 : decode cX11_owedOf 97 = .ok (.bipush 30, 2) := by decide +kernel
theorem dX11_owedOf_99 : decode cX11_owedOf 99 = .ok (.iadd, 1) := by decide +kernel
theorem dX11_owedOf_100 : decode cX11_owedOf 100 = .ok (.istore 7, 2) := by decide +kernel
theorem dX11_owedOf_102 : decode cX11_owedOf 102 = .ok (.iload 6, 2) := by decide +kernel
theorem dX11_owedOf_104 : decode cX11_owedOf 104 = .ok (.ifCond .lt 52, 3) := by decide +kernel
theorem dX11_owedOf_107 : decode cX11_owedOf 107 = .ok (.aload_n 0, 1) := by decide +kernel
theorem dX11_owedOf_108 : decode cX11_owedOf 108 = .ok (.getfield 97, 3) := by decide +kernel
theorem dX11_owedOf_111 : decode cX11_owedOf 111 = .ok (.iload_n 1, 1) := by decide +kernel
theorem dX11_owedOf_112 : decode cX11_owedOf 112 = .ok (.iaload, 1) := by decide +kernel
theorem dX11_owedOf_113 : decode cX11_owedOf 113 = .ok (.ifCond .le 43, 3) := by decide +kernel
theorem dX11_owedOf_116 : decode cX11_owedOf 116 = .ok (.iload 7, 2) := by decide +kernel
theorem dX11_owedOf_118 : decode cX11_owedOf 118 = .ok (.iload_n 2, 1) := by decide +kernel
theorem dX11_owedOf_119 : decode cX11_owedOf 119 = .ok (.if_icmp .gt 37, 3) := by decide +kernel
theorem dX11_owedOf_122 : decode cX11_owedOf 122 = .ok (.lload 4, 2) := by decide +kernel
theorem dX11_owedOf_124 : decode cX11_owedOf 124 = .ok (.aload_n 0, 1) := by decide +kernel
theorem dX11_owedOf_125 : decode cX11_owedOf 125 = .ok (.iload_n 1, 1) := by decide +kernel
theorem dX11_owedOf_126 : decode cX11_owedOf 126 = .ok (.iload 7, 2) := by decide +kernel
theorem dX11_owedOf_128 : decode cX11_owedOf 128 = .ok (.iload_n 3, 1) := by decide +kernel
theorem dX11_owedOf_129 : decode cX11_owedOf 129 = .ok (.invokevirtual 266, 3) := by decide +kernel
theorem dX11_owedOf_132 : decode cX11_owedOf 132 = .ok (.iconst 1, 1) := by decide +kernel
theorem dX11_owedOf_133 : decode cX11_owedOf 133 = .ok (.if_icmp .ne 13, 3) := by decide +kernel
theorem dX11_owedOf_136 : decode cX11_owedOf 136 = .ok (.aload_n 0, 1) := by decide +kernel
theorem dX11_owedOf_137 : decode cX11_owedOf 137 = .ok (.getfield 97, 3) := by decide +kernel
theorem dX11_owedOf_140 : decode cX11_owedOf 140 = .ok (.iload_n 1, 1) := by decide +kernel
theorem dX11_owedOf_141 : decode cX11_owedOf 141 = .ok (.iaload, 1) := by decide +kernel
theorem dX11_owedOf_142 : decode cX11_owedOf 142 = .ok (.i2l, 1) := by decide +kernel
theorem dX11_owedOf_143 : decode cX11_owedOf 143 = .ok (.goto 4, 3) := by decide +kernel
theorem dX11_owedOf_146 : decode cX11_owedOf 146 = .ok (.lconst 0, 1) := by decide +kernel
theorem dX11_owedOf_147 : decode cX11_owedOf 147 = .ok (.lsub, 1) := by decide +kernel
theorem dX11_owedOf_148 : decode cX11_owedOf 148 = .ok (.lstore 4, 2) := by decide +kernel
theorem dX11_owedOf_150 : decode cX11_owedOf 150 = .ok (.iinc 7 30, 3) := by decide +kernel
theorem dX11_owedOf_153 : decode cX11_owedOf 153 = .ok (.goto (-51), 3) := by decide +kernel
theorem dX11_owedOf_156 : decode cX11_owedOf 156 = .ok (.iconst 0, 1) := by decide +kernel
theorem dX11_owedOf_157 : decode cX11_owedOf 157 = .ok (.istore 7, 2) := by decide +kernel
theorem dX11_owedOf_159 : decode cX11_owedOf 159 = .ok (.iload 7, 2) := by decide +kernel
theorem dX11_owedOf_161 : decode cX11_owedOf 161 = .ok (.aload_n 0, 1) := by decide +kernel
theorem dX11_owedOf_162 : decode cX11_owedOf 162 = .ok (.getfield 100, 3) := by decide +kernel
theorem dX11_owedOf_165 : decode cX11_owedOf 165 = .ok (.iload_n 1, 1) := by decide +kernel
theorem dX11_owedOf_166 : decode cX11_owedOf 166 = .ok (.iaload, 1) := by decide +kernel
theorem dX11_owedOf_167 : decode cX11_owedOf 167 = .ok (.if_icmp .ge 43, 3) := by decide +kernel
theorem dX11_owedOf_170 : decode cX11_owedOf 170 = .ok (.lload 4, 2) := by decide +kernel
theorem dX11_owedOf_172 : decode cX11_owedOf 172 = .ok (.aload_n 0, 1) := by decide +kernel
theorem dX11_owedOf_173 : decode cX11_owedOf 173 = .ok (.getfield 109, 3) := by decide +kernel
theorem dX11_owedOf_176 : decode cX11_owedOf 176 = .ok (.bipush 6, 2) := by decide +kernel
theorem dX11_owedOf_178 : decode cX11_owedOf 178 = .ok (.iload_n 1, 1) := by decide +kernel
theorem dX11_owedOf_179 : decode cX11_owedOf 179 = .ok (.imul, 1) := by decide +kernel
theorem dX11_owedOf_180 : decode cX11_owedOf 180 = .ok (.iload 7, 2) := by decide +kernel
theorem dX11_owedOf_182 : decode cX11_owedOf 182 = .ok (.iadd, 1) := by decide +kernel
theorem dX11_owedOf_183 : decode cX11_owedOf 183 = .ok (.iaload, 1) := by decide +kernel
theorem dX11_owedOf_184 : decode cX11_owedOf 184 = .ok (.iload_n 2, 1) := by decide +kernel
theorem dX11_owedOf_185 : decode cX11_owedOf 185 = .ok (.if_icmp .gt 15, 3) := by decide +kernel
theorem dX11_owedOf_188 : decode cX11_owedOf 188 = .ok (.aload_n 0, 1) := by decide +kernel
theorem dX11_owedOf_189 : decode cX11_owedOf 189 = .ok (.iload_n 1, 1) := by decide +kernel
theorem dX11_owedOf_190 : decode cX11_owedOf 190 = .ok (.iload 7, 2) := by decide +kernel
theorem dX11_owedOf_192 : decode cX11_owedOf 192 = .ok (.iload_n 3, 1) := by decide +kernel
theorem dX11_owedOf_193 : decode cX11_owedOf 193 = .ok (.invokevirtual 315, 3) := by decide +kernel
theorem dX11_owedOf_196 : decode cX11_owedOf 196 = .ok (.i2l, 1) := by decide +kernel
theorem dX11_owedOf_197 : decode cX11_owedOf 197 = .ok (.goto 4, 3) := by decide +kernel
theorem dX11_owedOf_200 : decode cX11_owedOf 200 = .ok (.lconst 0, 1) := by decide +kernel
theorem dX11_owedOf_201 : decode cX11_owedOf 201 = .ok (.lsub, 1) := by decide +kernel
theorem dX11_owedOf_202 : decode cX11_owedOf 202 = .ok (.lstore 4, 2) := by decide +kernel
theorem dX11_owedOf_204 : decode cX11_owedOf 204 = .ok (.iinc 7 1, 3) := by decide +kernel
theorem dX11_owedOf_207 : decode cX11_owedOf 207 = .ok (.goto (-48), 3) := by decide +kernel
theorem dX11_owedOf_210 : decode cX11_owedOf 210 = .ok (.iconst 0, 1) := by decide +kernel
theorem dX11_owedOf_211 : decode cX11_owedOf 211 = .ok (.istore 7, 2) := by decide +kernel
theorem dX11_owedOf_213 : decode cX11_owedOf 213 = .ok (.iload 7, 2) := by decide +kernel
theorem dX11_owedOf_215 : decode cX11_owedOf 215 = .ok (.aload_n 0, 1) := by decide +kernel
theorem dX11_owedOf_216 : decode cX11_owedOf 216 = .ok (.getfield 103, 3) := by decide +kernel
theorem dX11_owedOf_219 : decode cX11_owedOf 219 = .ok (.iload_n 1, 1) := by decide +kernel
theorem dX11_owedOf_220 : decode cX11_owedOf 220 = .ok (.iaload, 1) := by decide +kernel
theorem dX11_owedOf_221 : decode cX11_owedOf 221 = .ok (.if_icmp .ge 47, 3) := by decide +kernel
theorem dX11_owedOf_224 : decode cX11_owedOf 224 = .ok (.lload 4, 2) := by decide +kernel
theorem dX11_owedOf_226 : decode cX11_owedOf 226 = .ok (.aload_n 0, 1) := by decide +kernel
theorem dX11_owedOf_227 : decode cX11_owedOf 227 = .ok (.getfield 115, 3) := by decide +kernel
theorem dX11_owedOf_230 : decode cX11_owedOf 230 = .ok (.bipush 20, 2) := by decide +kernel
theorem dX11_owedOf_232 : decode cX11_owedOf 232 = .ok (.iload_n 1, 1) := by decide +kernel
theorem dX11_owedOf_233 : decode cX11_owedOf 233 = .ok (.imul, 1) := by decide +kernel
theorem dX11_owedOf_234 : decode cX11_owedOf 234 = .ok (.iload 7, 2) := by decide +kernel
theorem dX11_owedOf_236 : decode cX11_owedOf 236 = .ok (.iadd, 1) := by decide +kernel
theorem dX11_owedOf_237 : decode cX11_owedOf 237 = .ok (.iaload, 1) := by decide +kernel
theorem dX11_owedOf_238 : decode cX11_owedOf 238 = .ok (.iload_n 3, 1) := by decide +kernel
theorem dX11_owedOf_239 : decode cX11_owedOf 239 = .ok (.if_icmp .gt 19, 3) := by decide +kernel
theorem dX11_owedOf_242 : decode cX11_owedOf 242 = .ok (.aload_n 0, 1) := by decide +kernel
theorem dX11_owedOf_243 : decode cX11_owedOf 243 = .ok (.getfield 118, 3) := by decide +kernel
theorem dX11_owedOf_246 : decode cX11_owedOf 246 = .ok (.bipush 20, 2) := by decide +kernel
theorem dX11_owedOf_248 : decode cX11_owedOf 248 = .ok (.iload_n 1, 1) := by decide +kernel
theorem dX11_owedOf_249 : decode cX11_owedOf 249 = .ok (.imul, 1) := by decide +kernel
theorem dX11_owedOf_250 : decode cX11_owedOf 250 = .ok (.iload 7, 2) := by decide +kernel
theorem dX11_owedOf_252 : decode cX11_owedOf 252 = .ok (.iadd, 1) := by decide +kernel
theorem dX11_owedOf_253 : decode cX11_owedOf 253 = .ok (.iaload, 1) := by decide +kernel
theorem dX11_owedOf_254 : decode cX11_owedOf 254 = .ok (.i2l, 1) := by decide +kernel
theorem dX11_owedOf_255 : decode cX11_owedOf 255 = .ok (.goto 4, 3) := by decide +kernel
theorem dX11_owedOf_258 : decode cX11_owedOf 258 = .ok (.lconst 0, 1) := by decide +kernel
theorem dX11_owedOf_259 : decode cX11_owedOf 259 = .ok (.ladd, 1) := by decide +kernel
theorem dX11_owedOf_260 : decode cX11_owedOf 260 = .ok (.lstore 4, 2) := by decide +kernel
theorem dX11_owedOf_262 : decode cX11_owedOf 262 = .ok (.iinc 7 1, 3) := by decide +kernel
theorem dX11_owedOf_265 : decode cX11_owedOf 265 = .ok (.goto (-52), 3) := by decide +kernel
theorem dX11_owedOf_268 : decode cX11_owedOf 268 = .ok (.lload 4, 2) := by decide +kernel
theorem dX11_owedOf_270 : decode cX11_owedOf 270 = .ok (.lconst 0, 1) := by decide +kernel
theorem dX11_owedOf_271 : decode cX11_owedOf 271 = .ok (.lcmp, 1) := by decide +kernel
theorem dX11_owedOf_272 : decode cX11_owedOf 272 = .ok (.ifCond .le 29, 3) := by decide +kernel
theorem dX11_owedOf_275 : decode cX11_owedOf 275 = .ok (.aload_n 0, 1) := by decide +kernel
theorem dX11_owedOf_276 : decode cX11_owedOf 276 = .ok (.iload_n 1, 1) := by decide +kernel
theorem dX11_owedOf_277 : decode cX11_owedOf 277 = .ok (.iload_n 2, 1) := by decide +kernel
theorem dX11_owedOf_278 : decode cX11_owedOf 278 = .ok (.iload_n 3, 1) := by decide +kernel
theorem dX11_owedOf_279 : decode cX11_owedOf 279 = .ok (.invokevirtual 266, 3) := by decide +kernel
theorem dX11_owedOf_282 : decode cX11_owedOf 282 = .ok (.iconst 3, 1) := by decide +kernel
theorem dX11_owedOf_283 : decode cX11_owedOf 283 = .ok (.if_icmp .ne 18, 3) := by decide +kernel
theorem dX11_owedOf_286 : decode cX11_owedOf 286 = .ok (.aload_n 0, 1) := by decide +kernel
theorem dX11_owedOf_287 : decode cX11_owedOf 287 = .ok (.getfield 52, 3) := by decide +kernel
theorem dX11_owedOf_290 : decode cX11_owedOf 290 = .ok (.aload_n 0, 1) := by decide +kernel
theorem dX11_owedOf_291 : decode cX11_owedOf 291 = .ok (.iload_n 1, 1) := by decide +kernel
theorem dX11_owedOf_292 : decode cX11_owedOf 292 = .ok (.iload_n 2, 1) := by decide +kernel
theorem dX11_owedOf_293 : decode cX11_owedOf 293 = .ok (.iload_n 3, 1) := by decide +kernel
theorem dX11_owedOf_294 : decode cX11_owedOf 294 = .ok (.invokevirtual 291, 3) := by decide +kernel
theorem dX11_owedOf_297 : decode cX11_owedOf 297 = .ok (.iaload, 1) := by decide +kernel
theorem dX11_owedOf_298 : decode cX11_owedOf 298 = .ok (.ifCond .eq 7, 3) := by decide +kernel
theorem dX11_owedOf_301 : decode cX11_owedOf 301 = .ok (.lload 4, 2) := by decide +kernel
theorem dX11_owedOf_303 : decode cX11_owedOf 303 = .ok (.l2i, 1) := by decide +kernel
theorem dX11_owedOf_304 : decode cX11_owedOf 304 = .ok (.ireturn, 1) := by decide +kernel
theorem dX11_owedOf_305 : decode cX11_owedOf 305 = .ok (.aload_n 0, 1) := by decide +kernel
theorem dX11_owedOf_306 : decode cX11_owedOf 306 = .ok (.iload_n 1, 1) := by decide +kernel
theorem dX11_owedOf_307 : decode cX11_owedOf 307 = .ok (.iload_n 2, 1) := by decide +kernel
theorem dX11_owedOf_308 : decode cX11_owedOf 308 = .ok (.iload_n 3, 1) := by decide +kernel
theorem dX11_owedOf_309 : decode cX11_owedOf 309 = .ok (.iconst 0, 1) := by decide +kernel
theorem dX11_owedOf_310 : decode cX11_owedOf 310 = .ok (.iconst 0, 1) := by decide +kernel
theorem dX11_owedOf_311 : decode cX11_owedOf 311 = .ok (.invokevirtual 306, 3) := by decide +kernel
theorem dX11_owedOf_314 : decode cX11_owedOf 314 = .ok (.aload_n 0, 1) := by decide +kernel
theorem dX11_owedOf_315 : decode cX11_owedOf 315 = .ok (.iconst 2, 1) := by decide +kernel
theorem dX11_owedOf_316 : decode cX11_owedOf 316 = .ok (.iload_n 2, 1) := by decide +kernel
theorem dX11_owedOf_317 : decode cX11_owedOf 317 = .ok (.invokevirtual 285, 3) := by decide +kernel
theorem dX11_owedOf_320 : decode cX11_owedOf 320 = .ok (.istore 7, 2) := by decide +kernel
theorem dX11_owedOf_322 : decode cX11_owedOf 322 = .ok (.iload 7, 2) := by decide +kernel
theorem dX11_owedOf_324 : decode cX11_owedOf 324 = .ok (.ifCond .ge 7, 3) := by decide +kernel
theorem dX11_owedOf_327 : decode cX11_owedOf 327 = .ok (.iconst 0, 1) := by decide +kernel
theorem dX11_owedOf_328 : decode cX11_owedOf 328 = .ok (.goto 17, 3) := by decide +kernel
theorem dX11_owedOf_331 : decode cX11_owedOf 331 = .ok (.iload 7, 2) := by decide +kernel
theorem dX11_owedOf_333 : decode cX11_owedOf 333 = .ok (.bipush 100, 2) := by decide +kernel
theorem dX11_owedOf_335 : decode cX11_owedOf 335 = .ok (.if_icmp .le 8, 3) := by decide +kernel
theorem dX11_owedOf_338 : decode cX11_owedOf 338 = .ok (.bipush 100, 2) := by decide +kernel
theorem dX11_owedOf_340 : decode cX11_owedOf 340 = .ok (.goto 5, 3) := by decide +kernel
theorem dX11_owedOf_343 : decode cX11_owedOf 343 = .ok (.iload 7, 2) := by decide +kernel
theorem dX11_owedOf_345 : decode cX11_owedOf 345 = .ok (.istore 7, 2) := by decide +kernel
theorem dX11_owedOf_347 : decode cX11_owedOf 347 = .ok (.lload 4, 2) := by decide +kernel
theorem dX11_owedOf_349 : decode cX11_owedOf 349 = .ok (.lload 4, 2) := by decide +kernel
theorem dX11_owedOf_351 : decode cX11_owedOf 351 = .ok (.iload 7, 2) := by decide +kernel
theorem dX11_owedOf_353 : decode cX11_owedOf 353 = .ok (.i2l, 1) := by decide +kernel
theorem dX11_owedOf_354 : decode cX11_owedOf 354 = .ok (.lmul, 1) := by decide +kernel
theorem dX11_owedOf_355 : decode cX11_owedOf 355 = .ok (.ldc2_w 310, 3) := by decide +kernel
theorem dX11_owedOf_358 : decode cX11_owedOf 358 = .ok (.ldiv, 1) := by decide +kernel
theorem dX11_owedOf_359 : decode cX11_owedOf 359 = .ok (.lsub, 1) := by decide +kernel
theorem dX11_owedOf_360 : decode cX11_owedOf 360 = .ok (.l2i, 1) := by decide +kernel
theorem dX11_owedOf_361 : decode cX11_owedOf 361 = .ok (.ireturn, 1) := by decide +kernel
theorem in_wsX11_owedOf_X11 : ∀ w ∈ wsX110, w ∈ wsX11_owedOf := fun w h => List.mem_cons_of_mem _ (List.mem_append_right _ h)

set_option maxHeartbeats 4000000 in
set_option maxRecDepth 100000 in
theorem c_X11_owedOf (l : Launch) (dC : Nat → ClassId) (dI : Nat → Nat → Nat) (sz : Nat) (g0 : Nat) (pq : Nat → Nat) (cp : Nat → ClassId) (v : Nat → Int32) (fa : Nat → Nat → Int32) (gV : mV v) (gA : mA fa) (x1 : Int32) (hx1 : 0 ≤ x1.toInt ∧ x1.toInt ≤ 59) (x2 : Int32) (hx2 : 0 ≤ x2.toInt ∧ x2.toInt ≤ 3000) (x3 : Int32) : Met l yX11_owedOf wsX11_owedOf ({ frames := 26, cells := 0, slots := 0, locals := 611 }) (va_Pc [.ref g0, .int x1, .int x2, .int x3] (pcW (dC, dI) (mT cp) (mW g0 pq cp v fa) sz)) (va_Qi (fun (r : Int32) (u : (Nat → Int32) × (Nat → Nat → Int32)) => mV u.1 ∧ mA u.2 ∧ scr v fa u.1 u.2) (fun u t => va_P (dC, dI) vwCl (mW g0 pq cp u.1 u.2) t.heap ∧ va_K (dC, dI) vwCl (mT cp) t ∧ va_D (va_A (mW g0 pq cp v fa) sz) (mW g0 pq cp u.1 u.2)) (va_A (mW g0 pq cp v fa) sz)) 0 0 (va_A (mW g0 pq cp v fa) sz) := by
  refine Met.ofW (cc := cX11_owedOf) (maxL := 8) (ret := (some .int)) (by decide +kernel) rfl ?_
  intro p e s m args below meth c s₁ B hml hv
  obtain ⟨rfl, hsz, hP, hK, hD0⟩ := hv
  have hx := B.exec
  have hb := B.bytes
  have hr := B.returns
  have hts := atoms_spec (ws := wsX11_owedOf) B.pre
  have hown : s.vm.findClass RX11 = some m.cls := findClass_of_methodNamed B.named
  have hlocks := B.notSynchronized
  subst hsz
  have hD := hD0.self (sz := s.heap.size)
  generalize hAe : va_A (mW g0 pq cp v fa) s.heap.size = A at hD ⊢
  have hA : ∀ q : Nat, s.heap.size ≤ q → A q := fun q h => by rw [← hAe]; exact Or.inr h
  have hS : va_S A s.heap s.heap [] := va_S.rf
  have hP : va_P (dC, dI) vwCl (mW g0 pq cp v fa) s.heap := hP
  have hl := lv_entry ([.ref g0, .int x1, .int x2, .int x3]) (n := 8) (Nat.le_of_ble_eq_true rfl)
  rw [lg_entry_eq]
  generalize (lg_sl ([.ref g0, .int x1, .int x2, .int x3]) ++ List.replicate (8 - (lg_sl ([.ref g0, .int x1, .int x2, .int x3])).length) Slot.unset).toArray = ls at hl ⊢
  have hl : lv_has ls 8 [(0, .ref g0), (1, .int x1), (2, .int x2), (3, .int x3)] := hl
  refine lv_iload_n hx hb dX11_owedOf_0 rfl (lv_at hl 2 rfl) ?_
  refine lv_aload_n hx hb dX11_owedOf_1 rfl (lv_at hl 0 rfl) ?_
  refine va_get (D := (dC, dI)) (ci := 11) (v := .ref (pq 25)) (C := RX11) (T := TX11) (N := 63) hx hb hts in_wsX11_owedOf_X11 hown hK hP 0 rfl rfl 25 (by decide +kernel) (hts (.fieldLink RX11 85 "ShipOfficeModel" "signed" "[I") iw_X11_owedOf_1) (fun _ h9 => h9) rfl dX11_owedOf_2 ?_
  refine lv_iload_n hx hb dX11_owedOf_5 rfl (lv_at hl 1 rfl) ?_
  refine va_iald hx hb hK hP 26 25 rfl rfl (vp_in_iff.mpr (by omega)) dX11_owedOf_6 ?_
  refine lv_topi (fun x_1 ex_1 => ?_)
  have hx_1 : 0 ≤ x_1.toInt ∧ x_1.toInt ≤ 3000 := iv_of ex_1 (gA 25 _)
  clear ex_1
  refine lv_icmp_ge (tgt := 12) hx hb dX11_owedOf_7 (by decide +kernel) (fun c_2 => ?_) (fun c_2 => ?_)
  · have dc_2 := c_le (a := x_1.toInt) (b := x2.toInt) rfl rfl c_2
    refine lv_aload_n hx hb dX11_owedOf_12 rfl (lv_at hl 0 rfl) ?_
    refine va_get (D := (dC, dI)) (ci := 11) (v := .ref (pq 22)) (C := RX11) (T := TX11) (N := 63) hx hb hts in_wsX11_owedOf_X11 hown hK hP 0 rfl rfl 22 (by decide +kernel) (hts (.fieldLink RX11 76 "ShipOfficeModel" "wage" "[I") iw_X11_owedOf_2) (fun _ h9 => h9) rfl dX11_owedOf_13 ?_
    refine lv_iload_n hx hb dX11_owedOf_16 rfl (lv_at hl 1 rfl) ?_
    refine va_iald hx hb hK hP 23 22 rfl rfl (vp_in_iff.mpr (by omega)) dX11_owedOf_17 ?_
    refine lv_topi (fun x_3 ex_3 => ?_)
    clear ex_3
    refine lv_i2l (v := (x_3 : Int32).toInt64) hx hb dX11_owedOf_18 rfl ?_
    refine lv_aload_n hx hb dX11_owedOf_19 rfl (lv_at hl 0 rfl) ?_
    refine lv_iload_n hx hb dX11_owedOf_20 rfl (lv_at hl 1 rfl) ?_
    refine lv_iload_n hx hb dX11_owedOf_21 rfl (lv_at hl 2 rfl) ?_
    refine lv_iload_n hx hb dX11_owedOf_22 rfl (lv_at hl 3 rfl) ?_
    have hFc := va_free (wc := (mW g0 pq cp v fa)) hD hS hA (List.range 48) rfl
    refine va_calli (va_runV (As := [.int x1, .int x2, .int x3]) (rest := [.long ((x_3 : Int32).toInt64)]) ⟨hx, hb, hml, hown, hts⟩ (c_X11_earnsOf l dC dI s.heap.size g0 pq cp v fa gV gA x1 (by omega) x2 (by omega) x3) (cwV 3 hts gX11_owedOf_X11_earnsOf rfl rfl rfl (by decide +kernel) ⟨(Nat.le_of_ble_eq_true rfl), (Nat.le_of_ble_eq_true rfl)⟩) (pr_V (r := (RX11, TX11, 63)) hP hK hD 0 11 rfl rfl) rfl rfl hl.1 rfl (lv_room (Nat.le_of_ble_eq_true rfl)) dX11_owedOf_23 ⟨(Nat.le_of_ble_eq_true rfl), (Nat.le_of_ble_eq_true rfl)⟩) hS (fun q _ h => hFc q h) hFc (fun r_5 u t H locs ht hvm w_4 hB hz1 hk1 hS => ?_)
    obtain ⟨v_6, fa_7⟩ := u
    obtain ⟨hP1, hK1, hD1⟩ := hB
    rw [ht] at hP1
    have hP : va_P (dC, dI) vwCl (mW g0 pq cp v_6 fa_7) H := hP1
    have hD : va_D A (mW g0 pq cp v_6 fa_7) := hD1.weaken (fun _ _ _ h => hFc _ h)
    clear hP1 hK1 hD1 hk1 hz1 hvm ht hFc
    obtain ⟨hV_8, hA_9, hR_10⟩ := w_4
    dsimp only at hV_8 hA_9 hR_10 
    have R_11 := scr.tr scr.rf hR_10
    refine lv_i2l (v := (r_5 : Int32).toInt64) hx hb dX11_owedOf_26 rfl ?_
    refine lv_lmul hx hb dX11_owedOf_27 ?_
    refine lv_ldc2 (v := 30) hx hb hown (hts (.constantLong RX11 318 (30)) (by decide +kernel)) dX11_owedOf_28 ?_
    refine lv_ldiv hx hb dX11_owedOf_31 (by decide +kernel) ?_
    refine lv_lstore (lv' := [(4, .long ((((x_3 : Int32).toInt64) * ((r_5 : Int32).toInt64)) / 30)), (0, .ref g0), (1, .int x1), (2, .int x2), (3, .int x3)]) hx hb dX11_owedOf_32 hl (by decide +kernel) rfl (fun ls hl => ?_)
    refine lv_aload_n hx hb dX11_owedOf_34 rfl (lv_at hl 1 rfl) ?_
    refine lv_aload_n hx hb dX11_owedOf_35 rfl (lv_at hl 1 rfl) ?_
    refine va_get (D := (dC, dI)) (ci := 11) (v := .ref (pq 21)) (C := RX11) (T := TX11) (N := 63) hx hb hts in_wsX11_owedOf_X11 hown hK hP 0 rfl rfl 21 (by decide +kernel) (hts (.fieldLink RX11 73 "ShipOfficeModel" "voyage" "[I") iw_X11_owedOf_3) (fun _ h9 => h9) rfl dX11_owedOf_36 ?_
    refine lv_iload_n hx hb dX11_owedOf_39 rfl (lv_at hl 2 rfl) ?_
    refine va_iald hx hb hK hP 22 21 rfl rfl (vp_in_iff.mpr (by omega)) dX11_owedOf_40 ?_
    refine lv_topi (fun x_12 ex_12 => ?_)
    have hx_12 : 0 ≤ x_12.toInt ∧ x_12.toInt ≤ 19 := iv_of ex_12 (hA_9 21 _)
    clear ex_12
    refine lv_iload_n hx hb dX11_owedOf_41 rfl (lv_at hl 4 rfl) ?_
    have hFc : ∀ q, va_A [] H.size q → A q := pu_free hS hA
    refine va_calli (va_runV (As := [.int x_12, .int x3]) (rest := []) ⟨hx, hb, hml, hown, hts⟩ (c_X11_sailedOn l dC dI H.size g0 pq cp v_6 fa_7 (v_6 41).toNatClampNeg (cn_le (n := 200) (hV_8 41)) (cn_eq (n := 200) (hV_8 41)) (fun i _ => hA_9 12 i) x_12 x3) (cwV 2 hts gX11_owedOf_X11_sailedOn rfl rfl rfl (by decide +kernel) ⟨(Nat.le_of_ble_eq_true rfl), (Nat.le_of_ble_eq_true rfl)⟩) (pr_V (r := (RX11, TX11, 63)) hP hK hD 0 11 rfl rfl) rfl rfl hl.1 rfl (lv_room (Nat.le_of_ble_eq_true rfl)) dX11_owedOf_42 ⟨(Nat.le_of_ble_eq_true rfl), (Nat.le_of_ble_eq_true rfl)⟩) hS (fun q _ h => hFc q h) hFc (fun r_14 u t H locs ht hvm w_13 hB hz1 hk1 hS => ?_)
    have hP := pu_keep hP hk1
    clear hk1 hz1 hvm hB ht hFc
    have hb_15 : -1 ≤ r_14.toInt ∧ r_14.toInt ≤ 3000 := dr_i w_13
    refine lv_istore (lv' := [(6, .int r_14), (4, .long ((((x_3 : Int32).toInt64) * ((r_5 : Int32).toInt64)) / 30)), (0, .ref g0), (1, .int x1), (2, .int x2), (3, .int x3)]) hx hb dX11_owedOf_45 hl (by decide +kernel) rfl (fun ls hl => ?_)
    have cut_16 : ∀ (y_17 : Int64) (z_18 : Nat → Int32) (fz_19 : Nat → Nat → Int32) (H : Heap) (locs : List Loc) (ls : Array Slot), mV z_18 → mA fz_19 → scr v fa z_18 fz_19 → va_P (dC, dI) vwCl (mW g0 pq cp z_18 fz_19) H → va_D A (mW g0 pq cp z_18 fz_19) → va_S A s.heap H locs → lv_has ls 8 [(4, .long y_17), (6, .int r_14), (0, .ref g0), (1, .int x1), (2, .int x2), (3, .int x3)] → W p l e (headSpec wsX11_owedOf { frames := 26, cells := 0, slots := 0, locals := 611 }).room s m #[Value.ref g0, Value.int x1, Value.int x2, Value.int x3] below meth c H locs 0 0 (MQ below (va_Qi (fun (r : Int32) (u : (Nat → Int32) × (Nat → Nat → Int32)) => mV u.1 ∧ mA u.2 ∧ scr v fa u.1 u.2) (fun u t => va_P (dC, dI) vwCl (mW g0 pq cp u.1 u.2) t.heap ∧ va_K (dC, dI) vwCl (mT cp) t ∧ va_D A (mW g0 pq cp u.1 u.2)) A) #[Value.ref g0, Value.int x1, Value.int x2, Value.int x3] s 0 0 A) (F0 m 156 ls []) := by
      intro y_17 z_18 fz_19 H locs ls hVz_18 hAz_18 hRz_18 hP hD hS hl
      refine lv_iconst (v := 0) hx hb dX11_owedOf_156 (by decide +kernel) ?_
      refine lv_istore (lv' := [(7, .int 0), (4, .long y_17), (6, .int r_14), (0, .ref g0), (1, .int x1), (2, .int x2), (3, .int x3)]) hx hb dX11_owedOf_157 hl (by decide +kernel) rfl (fun ls hl => ?_)
      have cut_20 : ∀ (n : Nat) (y_21 : Int32) (y_22 : Int64) (z_23 : Nat → Int32) (fz_24 : Nat → Nat → Int32) (H : Heap) (locs : List Loc) (ls : Array Slot), 6 - y_21.toInt ≤ (n : Int) → (0 ≤ y_21.toInt ∧ y_21.toInt ≤ 6) → mV z_23 → mA fz_24 → scr v fa z_23 fz_24 → va_P (dC, dI) vwCl (mW g0 pq cp z_23 fz_24) H → va_D A (mW g0 pq cp z_23 fz_24) → va_S A s.heap H locs → lv_has ls 8 [(7, .int y_21), (4, .long y_22), (6, .int r_14), (0, .ref g0), (1, .int x1), (2, .int x2), (3, .int x3)] → W p l e (headSpec wsX11_owedOf { frames := 26, cells := 0, slots := 0, locals := 611 }).room s m #[Value.ref g0, Value.int x1, Value.int x2, Value.int x3] below meth c H locs 0 0 (MQ below (va_Qi (fun (r : Int32) (u : (Nat → Int32) × (Nat → Nat → Int32)) => mV u.1 ∧ mA u.2 ∧ scr v fa u.1 u.2) (fun u t => va_P (dC, dI) vwCl (mW g0 pq cp u.1 u.2) t.heap ∧ va_K (dC, dI) vwCl (mT cp) t ∧ va_D A (mW g0 pq cp u.1 u.2)) A) #[Value.ref g0, Value.int x1, Value.int x2, Value.int x3] s 0 0 A) (F0 m 159 ls []) := by
        intro n
        induction n using Nat.strongRecOn with
        | ind n ih =>
          intro y_21 y_22 z_23 fz_24 H locs ls hm hy_21 hVz_23 hAz_23 hRz_23 hP hD hS hl
          refine lv_iload hx hb dX11_owedOf_159 (lv_at hl 0 rfl) ?_
          refine lv_aload_n hx hb dX11_owedOf_161 rfl (lv_at hl 3 rfl) ?_
          refine va_get (D := (dC, dI)) (ci := 11) (v := .ref (pq 30)) (C := RX11) (T := TX11) (N := 63) hx hb hts in_wsX11_owedOf_X11 hown hK hP 0 rfl rfl 30 (by decide +kernel) (hts (.fieldLink RX11 100 "ShipOfficeModel" "fines" "[I") iw_X11_owedOf_4) (fun _ h9 => h9) rfl dX11_owedOf_162 ?_
          refine lv_iload_n hx hb dX11_owedOf_165 rfl (lv_at hl 4 rfl) ?_
          refine va_iald hx hb hK hP 31 30 rfl rfl (vp_in_iff.mpr (by omega)) dX11_owedOf_166 ?_
          refine lv_topi (fun x_25 ex_25 => ?_)
          have hx_25 : 0 ≤ x_25.toInt ∧ x_25.toInt ≤ 6 := iv_of ex_25 (hAz_23 30 _)
          clear ex_25
          refine lv_icmp_ge (tgt := 210) hx hb dX11_owedOf_167 (by decide +kernel) (fun c_26 => ?_) (fun c_26 => ?_)
          · have dc_26 := c_le (a := x_25.toInt) (b := y_21.toInt) rfl rfl c_26
            refine lv_iconst (v := 0) hx hb dX11_owedOf_210 (by decide +kernel) ?_
            refine lv_istore (lv' := [(7, .int 0), (4, .long y_22), (6, .int r_14), (0, .ref g0), (1, .int x1), (2, .int x2), (3, .int x3)]) hx hb dX11_owedOf_211 hl (by decide +kernel) rfl (fun ls hl => ?_)
            have cut_27 : ∀ (n2 : Nat) (y_28 : Int32) (y_29 : Int64) (z_30 : Nat → Int32) (fz_31 : Nat → Nat → Int32) (H : Heap) (locs : List Loc) (ls : Array Slot), 20 - y_28.toInt ≤ (n2 : Int) → (0 ≤ y_28.toInt ∧ y_28.toInt ≤ 20) → mV z_30 → mA fz_31 → scr v fa z_30 fz_31 → va_P (dC, dI) vwCl (mW g0 pq cp z_30 fz_31) H → va_D A (mW g0 pq cp z_30 fz_31) → va_S A s.heap H locs → lv_has ls 8 [(7, .int y_28), (4, .long y_29), (6, .int r_14), (0, .ref g0), (1, .int x1), (2, .int x2), (3, .int x3)] → W p l e (headSpec wsX11_owedOf { frames := 26, cells := 0, slots := 0, locals := 611 }).room s m #[Value.ref g0, Value.int x1, Value.int x2, Value.int x3] below meth c H locs 0 0 (MQ below (va_Qi (fun (r : Int32) (u : (Nat → Int32) × (Nat → Nat → Int32)) => mV u.1 ∧ mA u.2 ∧ scr v fa u.1 u.2) (fun u t => va_P (dC, dI) vwCl (mW g0 pq cp u.1 u.2) t.heap ∧ va_K (dC, dI) vwCl (mT cp) t ∧ va_D A (mW g0 pq cp u.1 u.2)) A) #[Value.ref g0, Value.int x1, Value.int x2, Value.int x3] s 0 0 A) (F0 m 213 ls []) := by
              intro n2
              induction n2 using Nat.strongRecOn with
              | ind n2 ih2 =>
                intro y_28 y_29 z_30 fz_31 H locs ls hm hy_28 hVz_30 hAz_30 hRz_30 hP hD hS hl
                refine lv_iload hx hb dX11_owedOf_213 (lv_at hl 0 rfl) ?_
                refine lv_aload_n hx hb dX11_owedOf_215 rfl (lv_at hl 3 rfl) ?_
                refine va_get (D := (dC, dI)) (ci := 11) (v := .ref (pq 31)) (C := RX11) (T := TX11) (N := 63) hx hb hts in_wsX11_owedOf_X11 hown hK hP 0 rfl rfl 31 (by decide +kernel) (hts (.fieldLink RX11 103 "ShipOfficeModel" "shorts" "[I") iw_X11_owedOf_5) (fun _ h9 => h9) rfl dX11_owedOf_216 ?_
                refine lv_iload_n hx hb dX11_owedOf_219 rfl (lv_at hl 4 rfl) ?_
                refine va_iald hx hb hK hP 32 31 rfl rfl (vp_in_iff.mpr (by omega)) dX11_owedOf_220 ?_
                refine lv_topi (fun x_32 ex_32 => ?_)
                have hx_32 : 0 ≤ x_32.toInt ∧ x_32.toInt ≤ 20 := iv_of ex_32 (hAz_30 31 _)
                clear ex_32
                refine lv_icmp_ge (tgt := 268) hx hb dX11_owedOf_221 (by decide +kernel) (fun c_33 => ?_) (fun c_33 => ?_)
                · have dc_33 := c_le (a := x_32.toInt) (b := y_28.toInt) rfl rfl c_33
                  refine lv_lload hx hb dX11_owedOf_268 (lv_at hl 1 rfl) ?_
                  refine lv_lconst (v := 0) hx hb dX11_owedOf_270 (by decide +kernel) ?_
                  refine W.lcmp hx hb dX11_owedOf_271 ?_
                  refine lv_topi (fun x_34 ex_34 => ?_)
                  clear ex_34
                  refine lv_if_le (tgt := 301) hx hb dX11_owedOf_272 (by decide +kernel) (fun c_35 => ?_) (fun c_35 => ?_)
                  · have dc_35 := c_le (a := x_34.toInt) (b := 0) rfl (by decide +kernel) c_35
                    refine lv_lload hx hb dX11_owedOf_301 (lv_at hl 1 rfl) ?_
                    refine lv_l2i (v := (y_29 : Int64).toInt32) hx hb dX11_owedOf_303 rfl ?_
                    refine lv_topi (fun x_36 ex_36 => ?_)
                    clear ex_36
                    exact W.iret (v := x_36) hx hb hr (fun t ht hW => ⟨⟨x_36, (z_30, fz_31), rfl, ⟨hVz_30, hAz_30, hRz_30⟩, ⟨by rw [ht]; exact hP, va_K.moved hW.alike hK, hD⟩⟩, hS.F ht⟩) hS.2.2 dX11_owedOf_304
                  · have dc_35 := c_nle (a := x_34.toInt) (b := 0) rfl (by decide +kernel) c_35
                    refine lv_aload_n hx hb dX11_owedOf_275 rfl (lv_at hl 3 rfl) ?_
                    refine lv_iload_n hx hb dX11_owedOf_276 rfl (lv_at hl 4 rfl) ?_
                    refine lv_iload_n hx hb dX11_owedOf_277 rfl (lv_at hl 5 rfl) ?_
                    refine lv_iload_n hx hb dX11_owedOf_278 rfl (lv_at hl 6 rfl) ?_
                    have hFc := va_free (wc := (mW g0 pq cp z_30 fz_31)) hD hS hA (List.range 48) rfl
                    refine va_calli (va_runV (As := [.int x1, .int x2, .int x3]) (rest := []) ⟨hx, hb, hml, hown, hts⟩ (c_X11_stateOf l dC dI H.size g0 pq cp z_30 fz_31 hVz_30 hAz_30 x1 (by omega) x2 x3) (cwV 3 hts gX11_owedOf_X11_stateOf rfl rfl rfl (by decide +kernel) ⟨(Nat.le_of_ble_eq_true rfl), (Nat.le_of_ble_eq_true rfl)⟩) (pr_V (r := (RX11, TX11, 63)) hP hK hD 0 11 rfl rfl) rfl rfl hl.1 rfl (lv_room (Nat.le_of_ble_eq_true rfl)) dX11_owedOf_279 ⟨(Nat.le_of_ble_eq_true rfl), (Nat.le_of_ble_eq_true rfl)⟩) hS (fun q _ h => hFc q h) hFc (fun r_38 u t H locs ht hvm w_37 hB hz1 hk1 hS => ?_)
                    obtain ⟨v_39, fa_40⟩ := u
                    obtain ⟨hP1, hK1, hD1⟩ := hB
                    rw [ht] at hP1
                    have hP : va_P (dC, dI) vwCl (mW g0 pq cp v_39 fa_40) H := hP1
                    have hD : va_D A (mW g0 pq cp v_39 fa_40) := hD1.weaken (fun _ _ _ h => hFc _ h)
                    clear hP1 hK1 hD1 hk1 hz1 hvm ht hFc
                    obtain ⟨hV_41, hA_42, hR_43, hb_44, hx_45⟩ := w_37
                    dsimp only at hV_41 hA_42 hR_43 hb_44 hx_45
                    have R_46 := scr.tr hRz_30 hR_43
                    refine lv_iconst (v := 3) hx hb dX11_owedOf_282 (by decide +kernel) ?_
                    refine lv_icmp_ne (tgt := 301) hx hb dX11_owedOf_283 (by decide +kernel) (fun c_47 => ?_) (fun c_47 => ?_)
                    · have dc_47 := c_ne (a := r_38.toInt) (b := 3) rfl (by decide +kernel) c_47
                      refine lv_lload hx hb dX11_owedOf_301 (lv_at hl 1 rfl) ?_
                      refine lv_l2i (v := (y_29 : Int64).toInt32) hx hb dX11_owedOf_303 rfl ?_
                      refine lv_topi (fun x_48 ex_48 => ?_)
                      clear ex_48
                      exact W.iret (v := x_48) hx hb hr (fun t ht hW => ⟨⟨x_48, (v_39, fa_40), rfl, ⟨hV_41, hA_42, R_46⟩, ⟨by rw [ht]; exact hP, va_K.moved hW.alike hK, hD⟩⟩, hS.F ht⟩) hS.2.2 dX11_owedOf_304
                    · have dc_47 := c_eq (a := r_38.toInt) (b := 3) rfl (by decide +kernel) c_47
                      have hi_49 := hx_45 c_47
                      refine lv_aload_n hx hb dX11_owedOf_286 rfl (lv_at hl 3 rfl) ?_
                      refine va_get (D := (dC, dI)) (ci := 11) (v := .ref (pq 14)) (C := RX11) (T := TX11) (N := 63) hx hb hts in_wsX11_owedOf_X11 hown hK hP 0 rfl rfl 14 (by decide +kernel) (hts (.fieldLink RX11 52 "ShipOfficeModel" "way" "[I") iw_X11_owedOf_6) (fun _ h9 => h9) rfl dX11_owedOf_287 ?_
                      refine lv_aload_n hx hb dX11_owedOf_290 rfl (lv_at hl 3 rfl) ?_
                      refine lv_iload_n hx hb dX11_owedOf_291 rfl (lv_at hl 4 rfl) ?_
                      refine lv_iload_n hx hb dX11_owedOf_292 rfl (lv_at hl 5 rfl) ?_
                      refine lv_iload_n hx hb dX11_owedOf_293 rfl (lv_at hl 6 rfl) ?_
                      have hFc : ∀ q, va_A [] H.size q → A q := pu_free hS hA
                      refine va_calli (va_runV (As := [.int x1, .int x2, .int x3]) (rest := [.ref (pq 14)]) ⟨hx, hb, hml, hown, hts⟩ (c_X11_whereOf_b l dC dI H.size g0 pq cp v_39 fa_40 hV_41 hA_42 x1 x2 x3) (cwV 3 hts gX11_owedOf_X11_whereOf rfl rfl rfl (by decide +kernel) ⟨(Nat.le_of_ble_eq_true rfl), (Nat.le_of_ble_eq_true rfl)⟩) (pr_V (r := (RX11, TX11, 63)) hP hK hD 0 11 rfl rfl) rfl rfl hl.1 rfl (lv_room (Nat.le_of_ble_eq_true rfl)) dX11_owedOf_294 ⟨(Nat.le_of_ble_eq_true rfl), (Nat.le_of_ble_eq_true rfl)⟩) hS (fun q _ h => hFc q h) hFc (fun r_51 u t H locs ht hvm w_50 hB hz1 hk1 hS => ?_)
                      have hP := pu_keep hP hk1
                      clear hk1 hz1 hvm hB ht hFc
                      obtain ⟨hb_52, hx_53⟩ := w_50
                      have hpr_51 : 0 ≤ r_51.toInt := hx_53.mp (exW_of hi_49 (by omega) (by omega) (by omega))
                      refine va_iald hx hb hK hP 15 14 rfl rfl (vp_in_iff.mpr (by omega)) dX11_owedOf_297 ?_
                      refine lv_topi (fun x_54 ex_54 => ?_)
                      clear ex_54
                      refine lv_if_eq (tgt := 305) hx hb dX11_owedOf_298 (by decide +kernel) (fun c_55 => ?_) (fun c_55 => ?_)
                      · have dc_55 := c_eq (a := x_54.toInt) (b := 0) rfl (by decide +kernel) c_55
                        refine lv_aload_n hx hb dX11_owedOf_305 rfl (lv_at hl 3 rfl) ?_
                        refine lv_iload_n hx hb dX11_owedOf_306 rfl (lv_at hl 4 rfl) ?_
                        refine lv_iload_n hx hb dX11_owedOf_307 rfl (lv_at hl 5 rfl) ?_
                        refine lv_iload_n hx hb dX11_owedOf_308 rfl (lv_at hl 6 rfl) ?_
                        refine lv_iconst (v := 0) hx hb dX11_owedOf_309 (by decide +kernel) ?_
                        refine lv_iconst (v := 0) hx hb dX11_owedOf_310 (by decide +kernel) ?_
                        have hFc := va_free (wc := (mW g0 pq cp v_39 fa_40)) hD hS hA (List.range 48) rfl
                        refine va_callv (va_runV (As := [.int x1, .int x2, .int x3, .int 0, .int 0]) (rest := []) ⟨hx, hb, hml, hown, hts⟩ (c_X11_puts l dC dI H.size g0 pq cp v_39 fa_40 hV_41 hA_42 x1 (by omega) x2 (by omega) x3 0 0) (cwV 5 hts gX11_owedOf_X11_puts rfl rfl rfl (by decide +kernel) ⟨(Nat.le_of_ble_eq_true rfl), (Nat.le_of_ble_eq_true rfl)⟩) (pr_V (r := (RX11, TX11, 63)) hP hK hD 0 11 rfl rfl) rfl rfl hl.1 rfl (lv_room (Nat.le_of_ble_eq_true rfl)) dX11_owedOf_311 ⟨(Nat.le_of_ble_eq_true rfl), (Nat.le_of_ble_eq_true rfl)⟩) hS (fun q _ h => hFc q h) hFc (fun u t H locs ht hvm w_56 hB hz1 hk1 hS => ?_)
                        obtain ⟨v_58, fa_59⟩ := u
                        obtain ⟨hP1, hK1, hD1⟩ := hB
                        rw [ht] at hP1
                        have hP : va_P (dC, dI) vwCl (mW g0 pq cp v_58 fa_59) H := hP1
                        have hD : va_D A (mW g0 pq cp v_58 fa_59) := hD1.weaken (fun _ _ _ h => hFc _ h)
                        clear hP1 hK1 hD1 hk1 hz1 hvm ht hFc
                        obtain ⟨hV_60, hA_61, hR_62⟩ := w_56
                        dsimp only at hV_60 hA_61 hR_62 
                        have R_63 := scr.tr R_46 hR_62
                        refine lv_aload_n hx hb dX11_owedOf_314 rfl (lv_at hl 3 rfl) ?_
                        refine lv_iconst (v := 2) hx hb dX11_owedOf_315 (by decide +kernel) ?_
                        refine lv_iload_n hx hb dX11_owedOf_316 rfl (lv_at hl 5 rfl) ?_
                        have hFc := va_free (wc := (mW g0 pq cp v_58 fa_59)) hD hS hA (List.range 48) rfl
                        refine va_calli (va_runV (As := [.int 2, .int x2]) (rest := []) ⟨hx, hb, hml, hown, hts⟩ (c_X11_worth l dC dI H.size g0 pq cp v_58 fa_59 hV_60 hA_61 2 x2) (cwV 2 hts gX11_owedOf_X11_worth rfl rfl rfl (by decide +kernel) ⟨(Nat.le_of_ble_eq_true rfl), (Nat.le_of_ble_eq_true rfl)⟩) (pr_V (r := (RX11, TX11, 63)) hP hK hD 0 11 rfl rfl) rfl rfl hl.1 rfl (lv_room (Nat.le_of_ble_eq_true rfl)) dX11_owedOf_317 ⟨(Nat.le_of_ble_eq_true rfl), (Nat.le_of_ble_eq_true rfl)⟩) hS (fun q _ h => hFc q h) hFc (fun r_65 u t H locs ht hvm w_64 hB hz1 hk1 hS => ?_)
                        obtain ⟨v_66, fa_67⟩ := u
                        obtain ⟨hP1, hK1, hD1⟩ := hB
                        rw [ht] at hP1
                        have hP : va_P (dC, dI) vwCl (mW g0 pq cp v_66 fa_67) H := hP1
                        have hD : va_D A (mW g0 pq cp v_66 fa_67) := hD1.weaken (fun _ _ _ h => hFc _ h)
                        clear hP1 hK1 hD1 hk1 hz1 hvm ht hFc
                        obtain ⟨hV_68, hA_69, hR_70⟩ := w_64
                        dsimp only at hV_68 hA_69 hR_70 
                        have R_71 := scr.tr R_63 hR_70
                        refine lv_istore (lv' := [(7, .int r_65), (4, .long y_29), (6, .int r_14), (0, .ref g0), (1, .int x1), (2, .int x2), (3, .int x3)]) hx hb dX11_owedOf_320 hl (by decide +kernel) rfl (fun ls hl => ?_)
                        refine lv_iload hx hb dX11_owedOf_322 (lv_at hl 0 rfl) ?_
                        refine lv_if_ge (tgt := 331) hx hb dX11_owedOf_324 (by decide +kernel) (fun c_72 => ?_) (fun c_72 => ?_)
                        · have dc_72 := c_le (a := 0) (b := r_65.toInt) (by decide +kernel) rfl c_72
                          refine lv_iload hx hb dX11_owedOf_331 (lv_at hl 0 rfl) ?_
                          refine lv_bipush (v := 100) hx hb dX11_owedOf_333 (by decide +kernel) ?_
                          refine lv_icmp_le (tgt := 343) hx hb dX11_owedOf_335 (by decide +kernel) (fun c_73 => ?_) (fun c_73 => ?_)
                          · have dc_73 := c_le (a := r_65.toInt) (b := 100) rfl (by decide +kernel) c_73
                            refine lv_iload hx hb dX11_owedOf_343 (lv_at hl 0 rfl) ?_
                            refine lv_istore (lv' := [(7, .int r_65), (4, .long y_29), (6, .int r_14), (0, .ref g0), (1, .int x1), (2, .int x2), (3, .int x3)]) hx hb dX11_owedOf_345 hl (by decide +kernel) rfl (fun ls hl => ?_)
                            refine lv_lload hx hb dX11_owedOf_347 (lv_at hl 1 rfl) ?_
                            refine lv_lload hx hb dX11_owedOf_349 (lv_at hl 1 rfl) ?_
                            refine lv_iload hx hb dX11_owedOf_351 (lv_at hl 0 rfl) ?_
                            refine lv_i2l (v := (r_65 : Int32).toInt64) hx hb dX11_owedOf_353 rfl ?_
                            refine lv_lmul hx hb dX11_owedOf_354 ?_
                            refine lv_ldc2 (v := 100) hx hb hown (hts (.constantLong RX11 310 (100)) (by decide +kernel)) dX11_owedOf_355 ?_
                            refine lv_ldiv hx hb dX11_owedOf_358 (by decide +kernel) ?_
                            refine lv_lsub hx hb dX11_owedOf_359 ?_
                            refine lv_l2i (v := (y_29 - ((y_29 * ((r_65 : Int32).toInt64)) / 100) : Int64).toInt32) hx hb dX11_owedOf_360 rfl ?_
                            refine lv_topi (fun x_74 ex_74 => ?_)
                            clear ex_74
                            exact W.iret (v := x_74) hx hb hr (fun t ht hW => ⟨⟨x_74, (v_66, fa_67), rfl, ⟨hV_68, hA_69, R_71⟩, ⟨by rw [ht]; exact hP, va_K.moved hW.alike hK, hD⟩⟩, hS.F ht⟩) hS.2.2 dX11_owedOf_361
                          · have dc_73 := c_nle (a := r_65.toInt) (b := 100) rfl (by decide +kernel) c_73
                            refine lv_bipush (v := 100) hx hb dX11_owedOf_338 (by decide +kernel) ?_
                            refine lv_goto (tgt := 345) hx hb dX11_owedOf_340 (by decide +kernel) ?_
                            refine lv_istore (lv' := [(7, .int 100), (4, .long y_29), (6, .int r_14), (0, .ref g0), (1, .int x1), (2, .int x2), (3, .int x3)]) hx hb dX11_owedOf_345 hl (by decide +kernel) rfl (fun ls hl => ?_)
                            refine lv_lload hx hb dX11_owedOf_347 (lv_at hl 1 rfl) ?_
                            refine lv_lload hx hb dX11_owedOf_349 (lv_at hl 1 rfl) ?_
                            refine lv_iload hx hb dX11_owedOf_351 (lv_at hl 0 rfl) ?_
                            refine lv_i2l (v := (100 : Int32).toInt64) hx hb dX11_owedOf_353 rfl ?_
                            refine lv_lmul hx hb dX11_owedOf_354 ?_
                            refine lv_ldc2 (v := 100) hx hb hown (hts (.constantLong RX11 310 (100)) (by decide +kernel)) dX11_owedOf_355 ?_
                            refine lv_ldiv hx hb dX11_owedOf_358 (by decide +kernel) ?_
                            refine lv_lsub hx hb dX11_owedOf_359 ?_
                            refine lv_l2i (v := (y_29 - ((y_29 * ((100 : Int32).toInt64)) / 100) : Int64).toInt32) hx hb dX11_owedOf_360 rfl ?_
                            refine lv_topi (fun x_75 ex_75 => ?_)
                            clear ex_75
                            exact W.iret (v := x_75) hx hb hr (fun t ht hW => ⟨⟨x_75, (v_66, fa_67), rfl, ⟨hV_68, hA_69, R_71⟩, ⟨by rw [ht]; exact hP, va_K.moved hW.alike hK, hD⟩⟩, hS.F ht⟩) hS.2.2 dX11_owedOf_361
                        · have dc_72 := c_nle (a := 0) (b := r_65.toInt) (by decide +kernel) rfl c_72
                          refine lv_iconst (v := 0) hx hb dX11_owedOf_327 (by decide +kernel) ?_
                          refine lv_goto (tgt := 345) hx hb dX11_owedOf_328 (by decide +kernel) ?_
                          refine lv_istore (lv' := [(7, .int 0), (4, .long y_29), (6, .int r_14), (0, .ref g0), (1, .int x1), (2, .int x2), (3, .int x3)]) hx hb dX11_owedOf_345 hl (by decide +kernel) rfl (fun ls hl => ?_)
                          refine lv_lload hx hb dX11_owedOf_347 (lv_at hl 1 rfl) ?_
                          refine lv_lload hx hb dX11_owedOf_349 (lv_at hl 1 rfl) ?_
                          refine lv_iload hx hb dX11_owedOf_351 (lv_at hl 0 rfl) ?_
                          refine lv_i2l (v := (0 : Int32).toInt64) hx hb dX11_owedOf_353 rfl ?_
                          refine lv_lmul hx hb dX11_owedOf_354 ?_
                          refine lv_ldc2 (v := 100) hx hb hown (hts (.constantLong RX11 310 (100)) (by decide +kernel)) dX11_owedOf_355 ?_
                          refine lv_ldiv hx hb dX11_owedOf_358 (by decide +kernel) ?_
                          refine lv_lsub hx hb dX11_owedOf_359 ?_
                          refine lv_l2i (v := (y_29 - ((y_29 * ((0 : Int32).toInt64)) / 100) : Int64).toInt32) hx hb dX11_owedOf_360 rfl ?_
                          refine lv_topi (fun x_76 ex_76 => ?_)
                          clear ex_76
                          exact W.iret (v := x_76) hx hb hr (fun t ht hW => ⟨⟨x_76, (v_66, fa_67), rfl, ⟨hV_68, hA_69, R_71⟩, ⟨by rw [ht]; exact hP, va_K.moved hW.alike hK, hD⟩⟩, hS.F ht⟩) hS.2.2 dX11_owedOf_361
                      · have dc_55 := c_ne (a := x_54.toInt) (b := 0) rfl (by decide +kernel) c_55
                        refine lv_lload hx hb dX11_owedOf_301 (lv_at hl 1 rfl) ?_
                        refine lv_l2i (v := (y_29 : Int64).toInt32) hx hb dX11_owedOf_303 rfl ?_
                        refine lv_topi (fun x_77 ex_77 => ?_)
                        clear ex_77
                        exact W.iret (v := x_77) hx hb hr (fun t ht hW => ⟨⟨x_77, (v_39, fa_40), rfl, ⟨hV_41, hA_42, R_46⟩, ⟨by rw [ht]; exact hP, va_K.moved hW.alike hK, hD⟩⟩, hS.F ht⟩) hS.2.2 dX11_owedOf_304
                · have dc_33 := c_nle (a := x_32.toInt) (b := y_28.toInt) rfl rfl c_33
                  refine lv_lload hx hb dX11_owedOf_224 (lv_at hl 1 rfl) ?_
                  refine lv_aload_n hx hb dX11_owedOf_226 rfl (lv_at hl 3 rfl) ?_
                  refine va_get (D := (dC, dI)) (ci := 11) (v := .ref (pq 35)) (C := RX11) (T := TX11) (N := 63) hx hb hts in_wsX11_owedOf_X11 hown hK hP 0 rfl rfl 35 (by decide +kernel) (hts (.fieldLink RX11 115 "ShipOfficeModel" "shortOn" "[I") iw_X11_owedOf_7) (fun _ h9 => h9) rfl dX11_owedOf_227 ?_
                  refine lv_bipush (v := 20) hx hb dX11_owedOf_230 (by decide +kernel) ?_
                  refine lv_iload_n hx hb dX11_owedOf_232 rfl (lv_at hl 4 rfl) ?_
                  refine lv_imul hx hb dX11_owedOf_233 ?_
                  refine lv_topi (fun x_78 ex_78 => ?_)
                  have hx_78 : x_78.toInt = 20 * x1.toInt := (iv_to ex_78).trans (mu_i (by decide +kernel) rfl (by omega) (by omega))
                  clear ex_78
                  refine lv_iload hx hb dX11_owedOf_234 (lv_at hl 0 rfl) ?_
                  refine lv_iadd hx hb dX11_owedOf_236 ?_
                  refine lv_topi (fun x_79 ex_79 => ?_)
                  have hx_79 : x_79.toInt = x_78.toInt + y_28.toInt := (iv_to ex_79).trans (ad_i rfl rfl (by omega) (by omega))
                  clear ex_79
                  refine va_iald hx hb hK hP 36 35 rfl rfl (vp_in_iff.mpr (by omega)) dX11_owedOf_237 ?_
                  refine lv_topi (fun x_80 ex_80 => ?_)
                  clear ex_80
                  refine lv_iload_n hx hb dX11_owedOf_238 rfl (lv_at hl 6 rfl) ?_
                  refine lv_icmp_gt (tgt := 258) hx hb dX11_owedOf_239 (by decide +kernel) (fun c_81 => ?_) (fun c_81 => ?_)
                  · have dc_81 := c_lt (a := x3.toInt) (b := x_80.toInt) rfl rfl c_81
                    refine lv_lconst (v := 0) hx hb dX11_owedOf_258 (by decide +kernel) ?_
                    refine lv_ladd hx hb dX11_owedOf_259 ?_
                    refine lv_lstore (lv' := [(4, .long (y_29 + 0)), (7, .int y_28), (6, .int r_14), (0, .ref g0), (1, .int x1), (2, .int x2), (3, .int x3)]) hx hb dX11_owedOf_260 hl (by decide +kernel) rfl (fun ls hl => ?_)
                    obtain ⟨x_82, ex_82⟩ : ∃ zq : Int32, y_28 + 1 = zq := ⟨_, rfl⟩
                    have hx_82 : x_82.toInt = y_28.toInt + 1 := (iv_to ex_82).symm.trans (ad_i rfl (by decide +kernel) (by omega) (by omega))
                    refine lv_iinc (v := x_82) (lv' := [(7, .int x_82), (4, .long (y_29 + 0)), (6, .int r_14), (0, .ref g0), (1, .int x1), (2, .int x2), (3, .int x3)]) hx hb dX11_owedOf_262 hl (k := 1) rfl ex_82 (by decide +kernel) rfl (fun ls hl => ?_)
                    clear ex_82
                    refine lv_goto (tgt := 213) hx hb dX11_owedOf_265 (by decide +kernel) ?_
                    exact ih2 (n2 - 1) (by omega) x_82 (y_29 + 0) z_30 fz_31 _ _ ls (by omega) (by omega) hVz_30 hAz_30 hRz_30 hP hD hS (lv_sub hl [0, 1, 2, 3, 4, 5, 6] rfl)
                  · have dc_81 := c_nlt (a := x3.toInt) (b := x_80.toInt) rfl rfl c_81
                    refine lv_aload_n hx hb dX11_owedOf_242 rfl (lv_at hl 3 rfl) ?_
                    refine va_get (D := (dC, dI)) (ci := 11) (v := .ref (pq 36)) (C := RX11) (T := TX11) (N := 63) hx hb hts in_wsX11_owedOf_X11 hown hK hP 0 rfl rfl 36 (by decide +kernel) (hts (.fieldLink RX11 118 "ShipOfficeModel" "shortSum" "[I") iw_X11_owedOf_8) (fun _ h9 => h9) rfl dX11_owedOf_243 ?_
                    refine lv_bipush (v := 20) hx hb dX11_owedOf_246 (by decide +kernel) ?_
                    refine lv_iload_n hx hb dX11_owedOf_248 rfl (lv_at hl 4 rfl) ?_
                    refine lv_imul hx hb dX11_owedOf_249 ?_
                    refine lv_topi (fun x_83 ex_83 => ?_)
                    have hx_83 : x_83.toInt = 20 * x1.toInt := (iv_to ex_83).trans (mu_i (by decide +kernel) rfl (by omega) (by omega))
                    clear ex_83
                    refine lv_iload hx hb dX11_owedOf_250 (lv_at hl 0 rfl) ?_
                    refine lv_iadd hx hb dX11_owedOf_252 ?_
                    refine lv_topi (fun x_84 ex_84 => ?_)
                    have hx_84 : x_84.toInt = x_83.toInt + y_28.toInt := (iv_to ex_84).trans (ad_i rfl rfl (by omega) (by omega))
                    clear ex_84
                    refine va_iald hx hb hK hP 37 36 rfl rfl (vp_in_iff.mpr (by omega)) dX11_owedOf_253 ?_
                    refine lv_topi (fun x_85 ex_85 => ?_)
                    clear ex_85
                    refine lv_i2l (v := (x_85 : Int32).toInt64) hx hb dX11_owedOf_254 rfl ?_
                    refine lv_goto (tgt := 259) hx hb dX11_owedOf_255 (by decide +kernel) ?_
                    refine lv_ladd hx hb dX11_owedOf_259 ?_
                    refine lv_lstore (lv' := [(4, .long (y_29 + ((x_85 : Int32).toInt64))), (7, .int y_28), (6, .int r_14), (0, .ref g0), (1, .int x1), (2, .int x2), (3, .int x3)]) hx hb dX11_owedOf_260 hl (by decide +kernel) rfl (fun ls hl => ?_)
                    obtain ⟨x_86, ex_86⟩ : ∃ zq : Int32, y_28 + 1 = zq := ⟨_, rfl⟩
                    have hx_86 : x_86.toInt = y_28.toInt + 1 := (iv_to ex_86).symm.trans (ad_i rfl (by decide +kernel) (by omega) (by omega))
                    refine lv_iinc (v := x_86) (lv' := [(7, .int x_86), (4, .long (y_29 + ((x_85 : Int32).toInt64))), (6, .int r_14), (0, .ref g0), (1, .int x1), (2, .int x2), (3, .int x3)]) hx hb dX11_owedOf_262 hl (k := 1) rfl ex_86 (by decide +kernel) rfl (fun ls hl => ?_)
                    clear ex_86
                    refine lv_goto (tgt := 213) hx hb dX11_owedOf_265 (by decide +kernel) ?_
                    exact ih2 (n2 - 1) (by omega) x_86 (y_29 + ((x_85 : Int32).toInt64)) z_30 fz_31 _ _ ls (by omega) (by omega) hVz_30 hAz_30 hRz_30 hP hD hS (lv_sub hl [0, 1, 2, 3, 4, 5, 6] rfl)
            have kc_87 : (0 : Int32).toInt = 0 := by decide
            exact cut_27 21 0 y_22 z_23 fz_24 _ _ ls (by omega) (by decide +kernel) hVz_23 hAz_23 hRz_23 hP hD hS (lv_sub hl [0, 1, 2, 3, 4, 5, 6] rfl)
          · have dc_26 := c_nle (a := x_25.toInt) (b := y_21.toInt) rfl rfl c_26
            refine lv_lload hx hb dX11_owedOf_170 (lv_at hl 1 rfl) ?_
            refine lv_aload_n hx hb dX11_owedOf_172 rfl (lv_at hl 3 rfl) ?_
            refine va_get (D := (dC, dI)) (ci := 11) (v := .ref (pq 33)) (C := RX11) (T := TX11) (N := 63) hx hb hts in_wsX11_owedOf_X11 hown hK hP 0 rfl rfl 33 (by decide +kernel) (hts (.fieldLink RX11 109 "ShipOfficeModel" "fineDay" "[I") iw_X11_owedOf_9) (fun _ h9 => h9) rfl dX11_owedOf_173 ?_
            refine lv_bipush (v := 6) hx hb dX11_owedOf_176 (by decide +kernel) ?_
            refine lv_iload_n hx hb dX11_owedOf_178 rfl (lv_at hl 4 rfl) ?_
            refine lv_imul hx hb dX11_owedOf_179 ?_
            refine lv_topi (fun x_88 ex_88 => ?_)
            have hx_88 : x_88.toInt = 6 * x1.toInt := (iv_to ex_88).trans (mu_i (by decide +kernel) rfl (by omega) (by omega))
            clear ex_88
            refine lv_iload hx hb dX11_owedOf_180 (lv_at hl 0 rfl) ?_
            refine lv_iadd hx hb dX11_owedOf_182 ?_
            refine lv_topi (fun x_89 ex_89 => ?_)
            have hx_89 : x_89.toInt = x_88.toInt + y_21.toInt := (iv_to ex_89).trans (ad_i rfl rfl (by omega) (by omega))
            clear ex_89
            refine va_iald hx hb hK hP 34 33 rfl rfl (vp_in_iff.mpr (by omega)) dX11_owedOf_183 ?_
            refine lv_topi (fun x_90 ex_90 => ?_)
            have hx_90 : 0 ≤ x_90.toInt ∧ x_90.toInt ≤ 3000 := iv_of ex_90 (hAz_23 33 _)
            clear ex_90
            refine lv_iload_n hx hb dX11_owedOf_184 rfl (lv_at hl 5 rfl) ?_
            refine lv_icmp_gt (tgt := 200) hx hb dX11_owedOf_185 (by decide +kernel) (fun c_91 => ?_) (fun c_91 => ?_)
            · have dc_91 := c_lt (a := x2.toInt) (b := x_90.toInt) rfl rfl c_91
              refine lv_lconst (v := 0) hx hb dX11_owedOf_200 (by decide +kernel) ?_
              refine lv_lsub hx hb dX11_owedOf_201 ?_
              refine lv_lstore (lv' := [(4, .long (y_22 - 0)), (7, .int y_21), (6, .int r_14), (0, .ref g0), (1, .int x1), (2, .int x2), (3, .int x3)]) hx hb dX11_owedOf_202 hl (by decide +kernel) rfl (fun ls hl => ?_)
              obtain ⟨x_92, ex_92⟩ : ∃ zq : Int32, y_21 + 1 = zq := ⟨_, rfl⟩
              have hx_92 : x_92.toInt = y_21.toInt + 1 := (iv_to ex_92).symm.trans (ad_i rfl (by decide +kernel) (by omega) (by omega))
              refine lv_iinc (v := x_92) (lv' := [(7, .int x_92), (4, .long (y_22 - 0)), (6, .int r_14), (0, .ref g0), (1, .int x1), (2, .int x2), (3, .int x3)]) hx hb dX11_owedOf_204 hl (k := 1) rfl ex_92 (by decide +kernel) rfl (fun ls hl => ?_)
              clear ex_92
              refine lv_goto (tgt := 159) hx hb dX11_owedOf_207 (by decide +kernel) ?_
              exact ih (n - 1) (by omega) x_92 (y_22 - 0) z_23 fz_24 _ _ ls (by omega) (by omega) hVz_23 hAz_23 hRz_23 hP hD hS (lv_sub hl [0, 1, 2, 3, 4, 5, 6] rfl)
            · have dc_91 := c_nlt (a := x2.toInt) (b := x_90.toInt) rfl rfl c_91
              refine lv_aload_n hx hb dX11_owedOf_188 rfl (lv_at hl 3 rfl) ?_
              refine lv_iload_n hx hb dX11_owedOf_189 rfl (lv_at hl 4 rfl) ?_
              refine lv_iload hx hb dX11_owedOf_190 (lv_at hl 0 rfl) ?_
              refine lv_iload_n hx hb dX11_owedOf_192 rfl (lv_at hl 6 rfl) ?_
              have hFc := va_free (wc := (mW g0 pq cp z_23 fz_24)) hD hS hA (List.range 48) rfl
              refine va_calli (va_runV (As := [.int x1, .int y_21, .int x3]) (rest := [.long y_22]) ⟨hx, hb, hml, hown, hts⟩ (c_X11_standsOf l dC dI H.size g0 pq cp z_23 fz_24 hVz_23 hAz_23 x1 (by omega) y_21 (by omega) x3) (cwV 3 hts gX11_owedOf_X11_standsOf rfl rfl rfl (by decide +kernel) ⟨(Nat.le_of_ble_eq_true rfl), (Nat.le_of_ble_eq_true rfl)⟩) (pr_V (r := (RX11, TX11, 63)) hP hK hD 0 11 rfl rfl) rfl rfl hl.1 rfl (lv_room (Nat.le_of_ble_eq_true rfl)) dX11_owedOf_193 ⟨(Nat.le_of_ble_eq_true rfl), (Nat.le_of_ble_eq_true rfl)⟩) hS (fun q _ h => hFc q h) hFc (fun r_94 u t H locs ht hvm w_93 hB hz1 hk1 hS => ?_)
              obtain ⟨v_95, fa_96⟩ := u
              obtain ⟨hP1, hK1, hD1⟩ := hB
              rw [ht] at hP1
              have hP : va_P (dC, dI) vwCl (mW g0 pq cp v_95 fa_96) H := hP1
              have hD : va_D A (mW g0 pq cp v_95 fa_96) := hD1.weaken (fun _ _ _ h => hFc _ h)
              clear hP1 hK1 hD1 hk1 hz1 hvm ht hFc
              obtain ⟨hV_97, hA_98, hR_99⟩ := w_93
              dsimp only at hV_97 hA_98 hR_99 
              have R_100 := scr.tr hRz_23 hR_99
              refine lv_i2l (v := (r_94 : Int32).toInt64) hx hb dX11_owedOf_196 rfl ?_
              refine lv_goto (tgt := 201) hx hb dX11_owedOf_197 (by decide +kernel) ?_
              refine lv_lsub hx hb dX11_owedOf_201 ?_
              refine lv_lstore (lv' := [(4, .long (y_22 - ((r_94 : Int32).toInt64))), (7, .int y_21), (6, .int r_14), (0, .ref g0), (1, .int x1), (2, .int x2), (3, .int x3)]) hx hb dX11_owedOf_202 hl (by decide +kernel) rfl (fun ls hl => ?_)
              obtain ⟨x_101, ex_101⟩ : ∃ zq : Int32, y_21 + 1 = zq := ⟨_, rfl⟩
              have hx_101 : x_101.toInt = y_21.toInt + 1 := (iv_to ex_101).symm.trans (ad_i rfl (by decide +kernel) (by omega) (by omega))
              refine lv_iinc (v := x_101) (lv' := [(7, .int x_101), (4, .long (y_22 - ((r_94 : Int32).toInt64))), (6, .int r_14), (0, .ref g0), (1, .int x1), (2, .int x2), (3, .int x3)]) hx hb dX11_owedOf_204 hl (k := 1) rfl ex_101 (by decide +kernel) rfl (fun ls hl => ?_)
              clear ex_101
              refine lv_goto (tgt := 159) hx hb dX11_owedOf_207 (by decide +kernel) ?_
              exact ih (n - 1) (by omega) x_101 (y_22 - ((r_94 : Int32).toInt64)) v_95 fa_96 _ _ ls (by omega) (by omega) hV_97 hA_98 R_100 hP hD hS (lv_sub hl [0, 1, 2, 3, 4, 5, 6] rfl)
      have kc_102 : (0 : Int32).toInt = 0 := by decide
      exact cut_20 7 0 y_17 z_18 fz_19 _ _ ls (by omega) (by decide +kernel) hVz_18 hAz_18 hRz_18 hP hD hS (lv_sub hl [0, 1, 2, 3, 4, 5, 6] rfl)
    have cut_103 : ∀ (y_104 : Int64) (z_105 : Nat → Int32) (fz_106 : Nat → Nat → Int32) (H : Heap) (locs : List Loc) (ls : Array Slot), mV z_105 → mA fz_106 → scr v fa z_105 fz_106 → va_P (dC, dI) vwCl (mW g0 pq cp z_105 fz_106) H → va_D A (mW g0 pq cp z_105 fz_106) → va_S A s.heap H locs → lv_has ls 8 [(4, .long y_104), (6, .int r_14), (0, .ref g0), (1, .int x1), (2, .int x2), (3, .int x3)] → W p l e (headSpec wsX11_owedOf { frames := 26, cells := 0, slots := 0, locals := 611 }).room s m #[Value.ref g0, Value.int x1, Value.int x2, Value.int x3] below meth c H locs 0 0 (MQ below (va_Qi (fun (r : Int32) (u : (Nat → Int32) × (Nat → Nat → Int32)) => mV u.1 ∧ mA u.2 ∧ scr v fa u.1 u.2) (fun u t => va_P (dC, dI) vwCl (mW g0 pq cp u.1 u.2) t.heap ∧ va_K (dC, dI) vwCl (mT cp) t ∧ va_D A (mW g0 pq cp u.1 u.2)) A) #[Value.ref g0, Value.int x1, Value.int x2, Value.int x3] s 0 0 A) (F0 m 95 ls []) := by
      intro y_104 z_105 fz_106 H locs ls hVz_105 hAz_105 hRz_105 hP hD hS hl
      refine lv_iload hx hb dX11_owedOf_95 (lv_at hl 1 rfl) ?_
      refine lv_bipush (v := 30) hx hb dX11_owedOf_97 (by decide +kernel) ?_
      refine lv_iadd hx hb dX11_owedOf_99 ?_
      refine lv_topi (fun x_107 ex_107 => ?_)
      have hx_107 : x_107.toInt = r_14.toInt + 30 := (iv_to ex_107).trans (ad_i rfl (by decide +kernel) (by omega) (by omega))
      clear ex_107
      refine lv_istore (lv' := [(7, .int x_107), (4, .long y_104), (6, .int r_14), (0, .ref g0), (1, .int x1), (2, .int x2), (3, .int x3)]) hx hb dX11_owedOf_100 hl (by decide +kernel) rfl (fun ls hl => ?_)
      have cut_108 : ∀ (n : Nat) (y_109 : Int32) (y_110 : Int64) (z_111 : Nat → Int32) (fz_112 : Nat → Nat → Int32) (H : Heap) (locs : List Loc) (ls : Array Slot), 3030 - y_109.toInt ≤ (n : Int) → (29 ≤ y_109.toInt ∧ y_109.toInt ≤ 3030) → mV z_111 → mA fz_112 → scr v fa z_111 fz_112 → va_P (dC, dI) vwCl (mW g0 pq cp z_111 fz_112) H → va_D A (mW g0 pq cp z_111 fz_112) → va_S A s.heap H locs → lv_has ls 8 [(7, .int y_109), (4, .long y_110), (6, .int r_14), (0, .ref g0), (1, .int x1), (2, .int x2), (3, .int x3)] → W p l e (headSpec wsX11_owedOf { frames := 26, cells := 0, slots := 0, locals := 611 }).room s m #[Value.ref g0, Value.int x1, Value.int x2, Value.int x3] below meth c H locs 0 0 (MQ below (va_Qi (fun (r : Int32) (u : (Nat → Int32) × (Nat → Nat → Int32)) => mV u.1 ∧ mA u.2 ∧ scr v fa u.1 u.2) (fun u t => va_P (dC, dI) vwCl (mW g0 pq cp u.1 u.2) t.heap ∧ va_K (dC, dI) vwCl (mT cp) t ∧ va_D A (mW g0 pq cp u.1 u.2)) A) #[Value.ref g0, Value.int x1, Value.int x2, Value.int x3] s 0 0 A) (F0 m 102 ls []) := by
        intro n
        induction n using Nat.strongRecOn with
        | ind n ih =>
          intro y_109 y_110 z_111 fz_112 H locs ls hm hy_109 hVz_111 hAz_111 hRz_111 hP hD hS hl
          refine lv_iload hx hb dX11_owedOf_102 (lv_at hl 2 rfl) ?_
          refine lv_if_lt (tgt := 156) hx hb dX11_owedOf_104 (by decide +kernel) (fun c_113 => ?_) (fun c_113 => ?_)
          · have dc_113 := c_lt (a := r_14.toInt) (b := 0) rfl (by decide +kernel) c_113
            exact cut_16 y_110 z_111 fz_112 _ _ ls  hVz_111 hAz_111 hRz_111 hP hD hS (lv_sub hl [1, 2, 3, 4, 5, 6] rfl)
          · have dc_113 := c_nlt (a := r_14.toInt) (b := 0) rfl (by decide +kernel) c_113
            refine lv_aload_n hx hb dX11_owedOf_107 rfl (lv_at hl 3 rfl) ?_
            refine va_get (D := (dC, dI)) (ci := 11) (v := .ref (pq 29)) (C := RX11) (T := TX11) (N := 63) hx hb hts in_wsX11_owedOf_X11 hown hK hP 0 rfl rfl 29 (by decide +kernel) (hts (.fieldLink RX11 97 "ShipOfficeModel" "allotted" "[I") iw_X11_owedOf_10) (fun _ h9 => h9) rfl dX11_owedOf_108 ?_
            refine lv_iload_n hx hb dX11_owedOf_111 rfl (lv_at hl 4 rfl) ?_
            refine va_iald hx hb hK hP 30 29 rfl rfl (vp_in_iff.mpr (by omega)) dX11_owedOf_112 ?_
            refine lv_topi (fun x_114 ex_114 => ?_)
            clear ex_114
            refine lv_if_le (tgt := 156) hx hb dX11_owedOf_113 (by decide +kernel) (fun c_115 => ?_) (fun c_115 => ?_)
            · have dc_115 := c_le (a := x_114.toInt) (b := 0) rfl (by decide +kernel) c_115
              exact cut_16 y_110 z_111 fz_112 _ _ ls  hVz_111 hAz_111 hRz_111 hP hD hS (lv_sub hl [1, 2, 3, 4, 5, 6] rfl)
            · have dc_115 := c_nle (a := x_114.toInt) (b := 0) rfl (by decide +kernel) c_115
              refine lv_iload hx hb dX11_owedOf_116 (lv_at hl 0 rfl) ?_
              refine lv_iload_n hx hb dX11_owedOf_118 rfl (lv_at hl 5 rfl) ?_
              refine lv_icmp_gt (tgt := 156) hx hb dX11_owedOf_119 (by decide +kernel) (fun c_116 => ?_) (fun c_116 => ?_)
              · have dc_116 := c_lt (a := x2.toInt) (b := y_109.toInt) rfl rfl c_116
                exact cut_16 y_110 z_111 fz_112 _ _ ls  hVz_111 hAz_111 hRz_111 hP hD hS (lv_sub hl [1, 2, 3, 4, 5, 6] rfl)
              · have dc_116 := c_nlt (a := x2.toInt) (b := y_109.toInt) rfl rfl c_116
                refine lv_lload hx hb dX11_owedOf_122 (lv_at hl 1 rfl) ?_
                refine lv_aload_n hx hb dX11_owedOf_124 rfl (lv_at hl 3 rfl) ?_
                refine lv_iload_n hx hb dX11_owedOf_125 rfl (lv_at hl 4 rfl) ?_
                refine lv_iload hx hb dX11_owedOf_126 (lv_at hl 0 rfl) ?_
                refine lv_iload_n hx hb dX11_owedOf_128 rfl (lv_at hl 6 rfl) ?_
                have hFc := va_free (wc := (mW g0 pq cp z_111 fz_112)) hD hS hA (List.range 48) rfl
                refine va_calli (va_runV (As := [.int x1, .int y_109, .int x3]) (rest := [.long y_110]) ⟨hx, hb, hml, hown, hts⟩ (c_X11_stateOf l dC dI H.size g0 pq cp z_111 fz_112 hVz_111 hAz_111 x1 (by omega) y_109 x3) (cwV 3 hts gX11_owedOf_X11_stateOf rfl rfl rfl (by decide +kernel) ⟨(Nat.le_of_ble_eq_true rfl), (Nat.le_of_ble_eq_true rfl)⟩) (pr_V (r := (RX11, TX11, 63)) hP hK hD 0 11 rfl rfl) rfl rfl hl.1 rfl (lv_room (Nat.le_of_ble_eq_true rfl)) dX11_owedOf_129 ⟨(Nat.le_of_ble_eq_true rfl), (Nat.le_of_ble_eq_true rfl)⟩) hS (fun q _ h => hFc q h) hFc (fun r_118 u t H locs ht hvm w_117 hB hz1 hk1 hS => ?_)
                obtain ⟨v_119, fa_120⟩ := u
                obtain ⟨hP1, hK1, hD1⟩ := hB
                rw [ht] at hP1
                have hP : va_P (dC, dI) vwCl (mW g0 pq cp v_119 fa_120) H := hP1
                have hD : va_D A (mW g0 pq cp v_119 fa_120) := hD1.weaken (fun _ _ _ h => hFc _ h)
                clear hP1 hK1 hD1 hk1 hz1 hvm ht hFc
                obtain ⟨hV_121, hA_122, hR_123, hb_124, hx_125⟩ := w_117
                dsimp only at hV_121 hA_122 hR_123 hb_124 hx_125
                have R_126 := scr.tr hRz_111 hR_123
                refine lv_iconst (v := 1) hx hb dX11_owedOf_132 (by decide +kernel) ?_
                refine lv_icmp_ne (tgt := 146) hx hb dX11_owedOf_133 (by decide +kernel) (fun c_127 => ?_) (fun c_127 => ?_)
                · have dc_127 := c_ne (a := r_118.toInt) (b := 1) rfl (by decide +kernel) c_127
                  refine lv_lconst (v := 0) hx hb dX11_owedOf_146 (by decide +kernel) ?_
                  refine lv_lsub hx hb dX11_owedOf_147 ?_
                  refine lv_lstore (lv' := [(4, .long (y_110 - 0)), (7, .int y_109), (6, .int r_14), (0, .ref g0), (1, .int x1), (2, .int x2), (3, .int x3)]) hx hb dX11_owedOf_148 hl (by decide +kernel) rfl (fun ls hl => ?_)
                  obtain ⟨x_128, ex_128⟩ : ∃ zq : Int32, y_109 + 30 = zq := ⟨_, rfl⟩
                  have hx_128 : x_128.toInt = y_109.toInt + 30 := (iv_to ex_128).symm.trans (ad_i rfl (by decide +kernel) (by omega) (by omega))
                  refine lv_iinc (v := x_128) (lv' := [(7, .int x_128), (4, .long (y_110 - 0)), (6, .int r_14), (0, .ref g0), (1, .int x1), (2, .int x2), (3, .int x3)]) hx hb dX11_owedOf_150 hl (k := 1) rfl ex_128 (by decide +kernel) rfl (fun ls hl => ?_)
                  clear ex_128
                  refine lv_goto (tgt := 102) hx hb dX11_owedOf_153 (by decide +kernel) ?_
                  exact ih (n - 1) (by omega) x_128 (y_110 - 0) v_119 fa_120 _ _ ls (by omega) (by omega) hV_121 hA_122 R_126 hP hD hS (lv_sub hl [0, 1, 2, 3, 4, 5, 6] rfl)
                · have dc_127 := c_eq (a := r_118.toInt) (b := 1) rfl (by decide +kernel) c_127
                  refine lv_aload_n hx hb dX11_owedOf_136 rfl (lv_at hl 3 rfl) ?_
                  refine va_get (D := (dC, dI)) (ci := 11) (v := .ref (pq 29)) (C := RX11) (T := TX11) (N := 63) hx hb hts in_wsX11_owedOf_X11 hown hK hP 0 rfl rfl 29 (by decide +kernel) (hts (.fieldLink RX11 97 "ShipOfficeModel" "allotted" "[I") iw_X11_owedOf_10) (fun _ h9 => h9) rfl dX11_owedOf_137 ?_
                  refine lv_iload_n hx hb dX11_owedOf_140 rfl (lv_at hl 4 rfl) ?_
                  refine va_iald hx hb hK hP 30 29 rfl rfl (vp_in_iff.mpr (by omega)) dX11_owedOf_141 ?_
                  refine lv_topi (fun x_129 ex_129 => ?_)
                  clear ex_129
                  refine lv_i2l (v := (x_129 : Int32).toInt64) hx hb dX11_owedOf_142 rfl ?_
                  refine lv_goto (tgt := 147) hx hb dX11_owedOf_143 (by decide +kernel) ?_
                  refine lv_lsub hx hb dX11_owedOf_147 ?_
                  refine lv_lstore (lv' := [(4, .long (y_110 - ((x_129 : Int32).toInt64))), (7, .int y_109), (6, .int r_14), (0, .ref g0), (1, .int x1), (2, .int x2), (3, .int x3)]) hx hb dX11_owedOf_148 hl (by decide +kernel) rfl (fun ls hl => ?_)
                  obtain ⟨x_130, ex_130⟩ : ∃ zq : Int32, y_109 + 30 = zq := ⟨_, rfl⟩
                  have hx_130 : x_130.toInt = y_109.toInt + 30 := (iv_to ex_130).symm.trans (ad_i rfl (by decide +kernel) (by omega) (by omega))
                  refine lv_iinc (v := x_130) (lv' := [(7, .int x_130), (4, .long (y_110 - ((x_129 : Int32).toInt64))), (6, .int r_14), (0, .ref g0), (1, .int x1), (2, .int x2), (3, .int x3)]) hx hb dX11_owedOf_150 hl (k := 1) rfl ex_130 (by decide +kernel) rfl (fun ls hl => ?_)
                  clear ex_130
                  refine lv_goto (tgt := 102) hx hb dX11_owedOf_153 (by decide +kernel) ?_
                  exact ih (n - 1) (by omega) x_130 (y_110 - ((x_129 : Int32).toInt64)) v_119 fa_120 _ _ ls (by omega) (by omega) hV_121 hA_122 R_126 hP hD hS (lv_sub hl [0, 1, 2, 3, 4, 5, 6] rfl)
      exact cut_108 3031 x_107 y_104 z_105 fz_106 _ _ ls (by omega) (by omega) hVz_105 hAz_105 hRz_105 hP hD hS (lv_sub hl [0, 1, 2, 3, 4, 5, 6] rfl)
    refine lv_aload_n hx hb dX11_owedOf_47 rfl (lv_at hl 2 rfl) ?_
    refine va_get (D := (dC, dI)) (ci := 11) (v := .ref (pq 27)) (C := RX11) (T := TX11) (N := 63) hx hb hts in_wsX11_owedOf_X11 hown hK hP 0 rfl rfl 27 (by decide +kernel) (hts (.fieldLink RX11 91 "ShipOfficeModel" "note" "[I") iw_X11_owedOf_11) (fun _ h9 => h9) rfl dX11_owedOf_48 ?_
    refine lv_iload_n hx hb dX11_owedOf_51 rfl (lv_at hl 3 rfl) ?_
    refine va_iald hx hb hK hP 28 27 rfl rfl (vp_in_iff.mpr (by omega)) dX11_owedOf_52 ?_
    refine lv_topi (fun x_131 ex_131 => ?_)
    clear ex_131
    refine lv_if_le (tgt := 95) hx hb dX11_owedOf_53 (by decide +kernel) (fun c_132 => ?_) (fun c_132 => ?_)
    · have dc_132 := c_le (a := x_131.toInt) (b := 0) rfl (by decide +kernel) c_132
      exact cut_103 ((((x_3 : Int32).toInt64) * ((r_5 : Int32).toInt64)) / 30) v_6 fa_7 _ _ ls  hV_8 hA_9 R_11 hP hD hS (lv_sub hl [1, 0, 2, 3, 4, 5] rfl)
    · have dc_132 := c_nle (a := x_131.toInt) (b := 0) rfl (by decide +kernel) c_132
      refine lv_iload hx hb dX11_owedOf_56 (lv_at hl 0 rfl) ?_
      refine lv_if_lt (tgt := 95) hx hb dX11_owedOf_58 (by decide +kernel) (fun c_133 => ?_) (fun c_133 => ?_)
      · have dc_133 := c_lt (a := r_14.toInt) (b := 0) rfl (by decide +kernel) c_133
        exact cut_103 ((((x_3 : Int32).toInt64) * ((r_5 : Int32).toInt64)) / 30) v_6 fa_7 _ _ ls  hV_8 hA_9 R_11 hP hD hS (lv_sub hl [1, 0, 2, 3, 4, 5] rfl)
      · have dc_133 := c_nlt (a := r_14.toInt) (b := 0) rfl (by decide +kernel) c_133
        refine lv_iload hx hb dX11_owedOf_61 (lv_at hl 0 rfl) ?_
        refine lv_iconst (v := 3) hx hb dX11_owedOf_63 (by decide +kernel) ?_
        refine lv_iadd hx hb dX11_owedOf_64 ?_
        refine lv_topi (fun x_134 ex_134 => ?_)
        have hx_134 : x_134.toInt = r_14.toInt + 3 := (iv_to ex_134).trans (ad_i rfl (by decide +kernel) (by omega) (by omega))
        clear ex_134
        refine lv_iload_n hx hb dX11_owedOf_65 rfl (lv_at hl 4 rfl) ?_
        refine lv_icmp_gt (tgt := 95) hx hb dX11_owedOf_66 (by decide +kernel) (fun c_135 => ?_) (fun c_135 => ?_)
        · have dc_135 := c_lt (a := x2.toInt) (b := x_134.toInt) rfl rfl c_135
          exact cut_103 ((((x_3 : Int32).toInt64) * ((r_5 : Int32).toInt64)) / 30) v_6 fa_7 _ _ ls  hV_8 hA_9 R_11 hP hD hS (lv_sub hl [1, 0, 2, 3, 4, 5] rfl)
        · have dc_135 := c_nlt (a := x2.toInt) (b := x_134.toInt) rfl rfl c_135
          refine lv_aload_n hx hb dX11_owedOf_69 rfl (lv_at hl 2 rfl) ?_
          refine lv_iload_n hx hb dX11_owedOf_70 rfl (lv_at hl 3 rfl) ?_
          refine lv_iload hx hb dX11_owedOf_71 (lv_at hl 0 rfl) ?_
          refine lv_iconst (v := 3) hx hb dX11_owedOf_73 (by decide +kernel) ?_
          refine lv_iadd hx hb dX11_owedOf_74 ?_
          refine lv_topi (fun x_136 ex_136 => ?_)
          have hx_136 : x_136.toInt = r_14.toInt + 3 := (iv_to ex_136).trans (ad_i rfl (by decide +kernel) (by omega) (by omega))
          clear ex_136
          refine lv_iload_n hx hb dX11_owedOf_75 rfl (lv_at hl 5 rfl) ?_
          have hFc := va_free (wc := (mW g0 pq cp v_6 fa_7)) hD hS hA (List.range 48) rfl
          refine va_calli (va_runV (As := [.int x1, .int x_136, .int x3]) (rest := []) ⟨hx, hb, hml, hown, hts⟩ (c_X11_stateOf l dC dI H.size g0 pq cp v_6 fa_7 hV_8 hA_9 x1 (by omega) x_136 x3) (cwV 3 hts gX11_owedOf_X11_stateOf rfl rfl rfl (by decide +kernel) ⟨(Nat.le_of_ble_eq_true rfl), (Nat.le_of_ble_eq_true rfl)⟩) (pr_V (r := (RX11, TX11, 63)) hP hK hD 0 11 rfl rfl) rfl rfl hl.1 rfl (lv_room (Nat.le_of_ble_eq_true rfl)) dX11_owedOf_76 ⟨(Nat.le_of_ble_eq_true rfl), (Nat.le_of_ble_eq_true rfl)⟩) hS (fun q _ h => hFc q h) hFc (fun r_138 u t H locs ht hvm w_137 hB hz1 hk1 hS => ?_)
          obtain ⟨v_139, fa_140⟩ := u
          obtain ⟨hP1, hK1, hD1⟩ := hB
          rw [ht] at hP1
          have hP : va_P (dC, dI) vwCl (mW g0 pq cp v_139 fa_140) H := hP1
          have hD : va_D A (mW g0 pq cp v_139 fa_140) := hD1.weaken (fun _ _ _ h => hFc _ h)
          clear hP1 hK1 hD1 hk1 hz1 hvm ht hFc
          obtain ⟨hV_141, hA_142, hR_143, hb_144, hx_145⟩ := w_137
          dsimp only at hV_141 hA_142 hR_143 hb_144 hx_145
          have R_146 := scr.tr R_11 hR_143
          refine lv_iconst (v := 1) hx hb dX11_owedOf_79 (by decide +kernel) ?_
          refine lv_icmp_ne (tgt := 95) hx hb dX11_owedOf_80 (by decide +kernel) (fun c_147 => ?_) (fun c_147 => ?_)
          · have dc_147 := c_ne (a := r_138.toInt) (b := 1) rfl (by decide +kernel) c_147
            exact cut_103 ((((x_3 : Int32).toInt64) * ((r_5 : Int32).toInt64)) / 30) v_139 fa_140 _ _ ls  hV_141 hA_142 R_146 hP hD hS (lv_sub hl [1, 0, 2, 3, 4, 5] rfl)
          · have dc_147 := c_eq (a := r_138.toInt) (b := 1) rfl (by decide +kernel) c_147
            refine lv_lload hx hb dX11_owedOf_83 (lv_at hl 1 rfl) ?_
            refine lv_aload_n hx hb dX11_owedOf_85 rfl (lv_at hl 2 rfl) ?_
            refine va_get (D := (dC, dI)) (ci := 11) (v := .ref (pq 27)) (C := RX11) (T := TX11) (N := 63) hx hb hts in_wsX11_owedOf_X11 hown hK hP 0 rfl rfl 27 (by decide +kernel) (hts (.fieldLink RX11 91 "ShipOfficeModel" "note" "[I") iw_X11_owedOf_11) (fun _ h9 => h9) rfl dX11_owedOf_86 ?_
            refine lv_iload_n hx hb dX11_owedOf_89 rfl (lv_at hl 3 rfl) ?_
            refine va_iald hx hb hK hP 28 27 rfl rfl (vp_in_iff.mpr (by omega)) dX11_owedOf_90 ?_
            refine lv_topi (fun x_148 ex_148 => ?_)
            clear ex_148
            refine lv_i2l (v := (x_148 : Int32).toInt64) hx hb dX11_owedOf_91 rfl ?_
            refine lv_lsub hx hb dX11_owedOf_92 ?_
            refine lv_lstore (lv' := [(4, .long (((((x_3 : Int32).toInt64) * ((r_5 : Int32).toInt64)) / 30) - ((x_148 : Int32).toInt64))), (6, .int r_14), (0, .ref g0), (1, .int x1), (2, .int x2), (3, .int x3)]) hx hb dX11_owedOf_93 hl (by decide +kernel) rfl (fun ls hl => ?_)
            exact cut_103 (((((x_3 : Int32).toInt64) * ((r_5 : Int32).toInt64)) / 30) - ((x_148 : Int32).toInt64)) v_139 fa_140 _ _ ls  hV_141 hA_142 R_146 hP hD hS (lv_sub hl [0, 1, 2, 3, 4, 5] rfl)
  · have dc_2 := c_nle (a := x_1.toInt) (b := x2.toInt) rfl rfl c_2
    refine lv_iconst (v := 0) hx hb dX11_owedOf_10 (by decide +kernel) ?_
    exact W.iret (v := 0) hx hb hr (fun t ht hW => ⟨⟨0, (v, fa), rfl, ⟨gV, gA, scr.rf⟩, ⟨by rw [ht]; exact hP, va_K.moved hW.alike hK, hD⟩⟩, hS.F ht⟩) hS.2.2 dX11_owedOf_11
