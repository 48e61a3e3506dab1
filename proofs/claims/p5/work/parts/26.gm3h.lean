abbrev cX11_refuseFar : ByteArray := prog_13_method_3_code
def yX11_refuseFar : MethodName := ⟨RX11, "refuseFar", "(I)I"⟩
abbrev cX11_sign_ : ByteArray := prog_13_method_49_code
def yX11_sign_ : MethodName := ⟨RX11, "sign", "(IIIII)I"⟩
def wsX11_refuseFar : List Cond := .code yX11_refuseFar cX11_refuseFar 2 (some .int) :: ([.constant RX11 152 (1000000000), .methodLink RX11 153 yX11_refuse, .instanceMethod yX11_refuse, .selects RX11 yX11_refuse yX11_refuse, .initialized RX11, .code yX11_refuse cX11_refuse 2 (some .int), .fieldLink RX11 7 "ShipOfficeModel" "refusals" "[I"] ++ wsX110)
theorem il_X11_refuseFar_1 : ∀ w ∈ ([.constant RX11 152 (1000000000), .methodLink RX11 153 yX11_refuse, .instanceMethod yX11_refuse, .selects RX11 yX11_refuse yX11_refuse, .initialized RX11, .code yX11_refuse cX11_refuse 2 (some .int), .fieldLink RX11 7 "ShipOfficeModel" "refusals" "[I"] : List Cond), w ∈ wsX11_refuseFar := fun w h => (List.mem_cons_of_mem _ (List.mem_append_left _ h))
theorem il_X11_refuseFar_2 : ∀ w ∈ wsX110, w ∈ wsX11_refuseFar := fun w h => (List.mem_cons_of_mem _ (List.mem_append_right _ h))
def wsX11_sign__r1 : List Cond := [Cond.fieldLink RX11 168 "ShipOfficeModel" "agreements" "I", Cond.fieldLink RX11 37 "ShipOfficeModel" "endedOn" "[I", Cond.fieldLink RX11 88 "ShipOfficeModel" "offOn" "[I", Cond.fieldLink RX11 70 "ShipOfficeModel" "man" "[I", Cond.fieldLink RX11 128 "ShipOfficeModel" "letters" "[I", Cond.fieldLink RX11 171 "ShipOfficeModel" "now" "I", Cond.fieldLink RX11 22 "ShipOfficeModel" "born" "[I", Cond.fieldLink RX11 73 "ShipOfficeModel" "voyage" "[I", Cond.fieldLink RX11 76 "ShipOfficeModel" "wage" "[I", Cond.fieldLink RX11 79 "ShipOfficeModel" "rank" "[I", Cond.fieldLink RX11 82 "ShipOfficeModel" "paper" "[I", Cond.fieldLink RX11 85 "ShipOfficeModel" "signed" "[I", Cond.fieldLink RX11 94 "ShipOfficeModel" "given" "[I", Cond.methodLink RX11 297 yX11_isMan, Cond.instanceMethod yX11_isMan, Cond.selects RX11 yX11_isMan yX11_isMan, Cond.initialized RX11, Cond.code yX11_isMan cX11_isMan 2 (some .boolean), Cond.fieldLink RX11 157 "ShipOfficeModel" "men" "I", Cond.methodLink RX11 161 yX11_isIn, Cond.static yX11_isIn, Cond.code yX11_isIn cX11_isIn 2 (some .boolean), Cond.methodLink RX11 185 yX11_isVoyage, Cond.instanceMethod yX11_isVoyage]
def wsX11_sign__r2 : List Cond := [Cond.selects RX11 yX11_isVoyage yX11_isVoyage, Cond.code yX11_isVoyage cX11_isVoyage 2 (some .boolean), Cond.fieldLink RX11 165 "ShipOfficeModel" "voyages" "I", Cond.methodLink RX11 199 yX11_isAgreement, Cond.instanceMethod yX11_isAgreement, Cond.selects RX11 yX11_isAgreement yX11_isAgreement, Cond.code yX11_isAgreement cX11_isAgreement 2 (some .boolean), Cond.methodLink RX11 153 yX11_refuse, Cond.instanceMethod yX11_refuse, Cond.selects RX11 yX11_refuse yX11_refuse, Cond.code yX11_refuse cX11_refuse 2 (some .int), Cond.fieldLink RX11 7 "ShipOfficeModel" "refusals" "[I", Cond.methodLink RX11 182 yX11_wasTold, Cond.instanceMethod yX11_wasTold, Cond.selects RX11 yX11_wasTold yX11_wasTold, Cond.code yX11_wasTold cX11_wasTold 4 (some .boolean), Cond.fieldLink RX11 179 "ShipOfficeModel" "happened" "I", Cond.fieldLink RX11 40 "ShipOfficeModel" "what" "[I", Cond.fieldLink RX11 43 "ShipOfficeModel" "whose" "[I", Cond.methodLink RX11 188 yX11_goesOn, Cond.instanceMethod yX11_goesOn, Cond.selects RX11 yX11_goesOn yX11_goesOn, Cond.code yX11_goesOn cX11_goesOn 2 (some .boolean), Cond.methodLink RX11 275 yX11_bare]
def wsX11_sign__r3 : List Cond := [Cond.instanceMethod yX11_bare, Cond.selects RX11 yX11_bare yX11_bare, Cond.code yX11_bare cX11_bare 2 none, Cond.methodLink RX11 285 yX11_worth, Cond.instanceMethod yX11_worth, Cond.selects RX11 yX11_worth yX11_worth, Cond.code yX11_worth cX11_worth 4 (some .int), Cond.fieldLink RX11 58 "ShipOfficeModel" "textSize" "[I", Cond.methodLink RX11 263 yX11_actOn, Cond.instanceMethod yX11_actOn, Cond.selects RX11 yX11_actOn yX11_actOn, Cond.code yX11_actOn cX11_actOn 5 (some .int), Cond.fieldLink RX11 256 "ShipOfficeModel" "acts" "I", Cond.fieldLink RX11 61 "ShipOfficeModel" "purpose" "[I", Cond.fieldLink RX11 64 "ShipOfficeModel" "from" "[I", Cond.methodLink RX11 259 yX11_goesThrough, Cond.instanceMethod yX11_goesThrough, Cond.selects RX11 yX11_goesThrough yX11_goesThrough, Cond.code yX11_goesThrough cX11_goesThrough 3 (some .int), Cond.fieldLink RX11 216 "ShipOfficeModel" "base" "I", Cond.fieldLink RX11 213 "ShipOfficeModel" "size" "I", Cond.fieldLink RX11 210 "ShipOfficeModel" "at" "I", Cond.fieldLink RX11 244 "ShipOfficeModel" "deep" "I", Cond.fieldLink RX11 223 "ShipOfficeModel" "isWell" "Z"]
def wsX11_sign__r4 : List Cond := [Cond.methodLink RX11 250 yX11_sum, Cond.instanceMethod yX11_sum, Cond.selects RX11 yX11_sum yX11_sum, Cond.code yX11_sum cX11_sum 4 (some .int), Cond.methodLink RX11 231 yX11_term, Cond.instanceMethod yX11_term, Cond.selects RX11 yX11_term yX11_term, Cond.methodLink RX11 227 yX11_sign, Cond.instanceMethod yX11_sign, Cond.selects RX11 yX11_sign yX11_sign, Cond.code yX11_sign cX11_sign 1 (some .int), Cond.fieldLink RX11 125 "ShipOfficeModel" "tape" "[I", Cond.fieldLink RX11 67 "ShipOfficeModel" "text" "[I", Cond.methodLink RX11 234 yX11_held, Cond.static yX11_held, Cond.code yX11_held cX11_held 2 (some .int), Cond.constantLong RX11 219 (1000000000), Cond.constantLong RX11 221 (-1000000000), Cond.code yX11_term cX11_term 4 (some .int), Cond.methodLink RX11 238 yX11_unit, Cond.instanceMethod yX11_unit, Cond.selects RX11 yX11_unit yX11_unit, Cond.code yX11_unit cX11_unit 5 (some .int), Cond.methodLink RX11 241 yX11_isLetter]
def wsX11_sign__r5 : List Cond := [Cond.static yX11_isLetter, Cond.code yX11_isLetter cX11_isLetter 1 (some .boolean), Cond.methodLink RX11 247 yX11_breaks, Cond.instanceMethod yX11_breaks, Cond.selects RX11 yX11_breaks yX11_breaks, Cond.code yX11_breaks cX11_breaks 1 (some .int), Cond.methodLink RX11 253 yX11_takes, Cond.instanceMethod yX11_takes, Cond.selects RX11 yX11_takes yX11_takes, Cond.code yX11_takes cX11_takes 2 (some .boolean)]
def wsX11_sign_ : List Cond := .code yX11_sign_ cX11_sign_ 8 (some .int) :: ((wsX11_sign__r1 ++ (wsX11_sign__r2 ++ (wsX11_sign__r3 ++ (wsX11_sign__r4 ++ wsX11_sign__r5)))) ++ wsX110)
theorem il_X11_sign__1 : ∀ w ∈ wsX11_sign__r1, w ∈ wsX11_sign_ := fun w h => (List.mem_cons_of_mem _ (List.mem_append_left _ (List.mem_append_left _ h)))
theorem il_X11_sign__2 : ∀ w ∈ wsX11_sign__r2, w ∈ wsX11_sign_ := fun w h => (List.mem_cons_of_mem _ (List.mem_append_left _ (List.mem_append_right _ (List.mem_append_left _ h))))
theorem il_X11_sign__3 : ∀ w ∈ wsX11_sign__r3, w ∈ wsX11_sign_ := fun w h => (List.mem_cons_of_mem _ (List.mem_append_left _ (List.mem_append_right _ (List.mem_append_right _ (List.mem_append_left _ h)))))
theorem il_X11_sign__4 : ∀ w ∈ wsX11_sign__r4, w ∈ wsX11_sign_ := fun w h => (List.mem_cons_of_mem _ (List.mem_append_left _ (List.mem_append_right _ (List.mem_append_right _ (List.mem_append_right _ (List.mem_append_left _ h))))))
theorem il_X11_sign__5 : ∀ w ∈ wsX11_sign__r5, w ∈ wsX11_sign_ := fun w h => (List.mem_cons_of_mem _ (List.mem_append_left _ (List.mem_append_right _ (List.mem_append_right _ (List.mem_append_right _ (List.mem_append_right _ h))))))
theorem il_X11_sign__6 : ∀ w ∈ wsX110, w ∈ wsX11_sign_ := fun w h => (List.mem_cons_of_mem _ (List.mem_append_right _ h))
theorem iw_X11_sign__1 : Cond.fieldLink RX11 168 "ShipOfficeModel" "agreements" "I" ∈ wsX11_sign_ := (mmI il_X11_sign__1 0 rfl)
theorem iw_X11_sign__2 : Cond.fieldLink RX11 128 "ShipOfficeModel" "letters" "[I" ∈ wsX11_sign_ := (mmI il_X11_sign__1 4 rfl)
theorem iw_X11_sign__3 : Cond.fieldLink RX11 171 "ShipOfficeModel" "now" "I" ∈ wsX11_sign_ := (mmI il_X11_sign__1 5 rfl)
theorem iw_X11_sign__4 : Cond.fieldLink RX11 22 "ShipOfficeModel" "born" "[I" ∈ wsX11_sign_ := (mmI il_X11_sign__1 6 rfl)
theorem iw_X11_sign__5 : Cond.fieldLink RX11 70 "ShipOfficeModel" "man" "[I" ∈ wsX11_sign_ := (mmI il_X11_sign__1 3 rfl)
theorem iw_X11_sign__6 : Cond.fieldLink RX11 73 "ShipOfficeModel" "voyage" "[I" ∈ wsX11_sign_ := (mmI il_X11_sign__1 7 rfl)
theorem iw_X11_sign__7 : Cond.fieldLink RX11 76 "ShipOfficeModel" "wage" "[I" ∈ wsX11_sign_ := (mmI il_X11_sign__1 8 rfl)
theorem iw_X11_sign__8 : Cond.fieldLink RX11 79 "ShipOfficeModel" "rank" "[I" ∈ wsX11_sign_ := (mmI il_X11_sign__1 9 rfl)
theorem iw_X11_sign__9 : Cond.fieldLink RX11 82 "ShipOfficeModel" "paper" "[I" ∈ wsX11_sign_ := (mmI il_X11_sign__1 10 rfl)
theorem iw_X11_sign__10 : Cond.fieldLink RX11 85 "ShipOfficeModel" "signed" "[I" ∈ wsX11_sign_ := (mmI il_X11_sign__1 11 rfl)
theorem iw_X11_sign__11 : Cond.fieldLink RX11 88 "ShipOfficeModel" "offOn" "[I" ∈ wsX11_sign_ := (mmI il_X11_sign__1 2 rfl)
theorem iw_X11_sign__12 : Cond.fieldLink RX11 94 "ShipOfficeModel" "given" "[I" ∈ wsX11_sign_ := (mmI il_X11_sign__1 12 rfl)
theorem iw_X11_sign__13 : Cond.fieldLink RX11 37 "ShipOfficeModel" "endedOn" "[I" ∈ wsX11_sign_ := (mmI il_X11_sign__1 1 rfl)
set_option maxRecDepth 100000 in
theorem ggX11_refuseFar_X11_refuse : GoodIn wsX11_refuseFar wsX11_refuse := goodIn_sub (mmC (mmI il_X11_refuseFar_1 5 rfl) (mmA (mmC (mmI il_X11_refuseFar_1 6 rfl) mmN) il_X11_refuseFar_2)) gw_X11_refuse
theorem gX11_refuseFar_X11_refuse : GoodIn wsX11_refuseFar (wsV RX11 153 RX11 yX11_refuse wsX11_refuse) := goodIn_app (goodIn_sub (mmC (mmI il_X11_refuseFar_1 1 rfl) (mmC (mmI il_X11_refuseFar_1 2 rfl) (mmC (mmI il_X11_refuseFar_1 3 rfl) (mmC (mmI il_X11_refuseFar_1 4 rfl) mmN)))) (by decide +kernel)) ggX11_refuseFar_X11_refuse
theorem dX11_refuseFar_0 : decode cX11_refuseFar 0 = .ok (.ldc 152, 2) := by decide +kernel
theorem dX11_refuseFar_2 : decode cX11_refuseFar 2 = .ok (.aload_n 0, 1) := by decide +kernel
theorem dX11_refuseFar_3 : decode cX11_refuseFar 3 = .ok (.iload_n 1, 1) := by decide +kernel
theorem dX11_refuseFar_4 : decode cX11_refuseFar 4 = .ok (.invokevirtual 153, 3) := by decide +kernel
theorem dX11_refuseFar_7 : decode cX11_refuseFar 7 = .ok (.isub, 1) := by decide +kernel
theorem dX11_refuseFar_8 : decode cX11_refuseFar 8 = .ok (.ireturn, 1) := by decide +kernel
set_option maxRecDepth 100000 in
theorem ggX11_sign__X11_isMan : GoodIn wsX11_sign_ wsX11_isMan := goodIn_sub (mmC (mmI il_X11_sign__1 17 rfl) (mmA (mmC (mmI il_X11_sign__1 18 rfl) (mmC (mmI il_X11_sign__1 19 rfl) (mmC (mmI il_X11_sign__1 20 rfl) (mmC (mmI il_X11_sign__1 16 rfl) (mmC (mmI il_X11_sign__1 21 rfl) mmN))))) il_X11_sign__6)) gw_X11_isMan
theorem gX11_sign__X11_isMan : GoodIn wsX11_sign_ (wsV RX11 297 RX11 yX11_isMan wsX11_isMan) := goodIn_app (goodIn_sub (mmC (mmI il_X11_sign__1 13 rfl) (mmC (mmI il_X11_sign__1 14 rfl) (mmC (mmI il_X11_sign__1 15 rfl) (mmC (mmI il_X11_sign__1 16 rfl) mmN)))) (by decide +kernel)) ggX11_sign__X11_isMan
set_option maxRecDepth 100000 in
theorem ggX11_sign__X11_isVoyage : GoodIn wsX11_sign_ wsX11_isVoyage := goodIn_sub (mmC (mmI il_X11_sign__2 1 rfl) (mmA (mmC (mmI il_X11_sign__2 2 rfl) (mmC (mmI il_X11_sign__1 19 rfl) (mmC (mmI il_X11_sign__1 20 rfl) (mmC (mmI il_X11_sign__1 16 rfl) (mmC (mmI il_X11_sign__1 21 rfl) mmN))))) il_X11_sign__6)) gw_X11_isVoyage
theorem gX11_sign__X11_isVoyage : GoodIn wsX11_sign_ (wsV RX11 185 RX11 yX11_isVoyage wsX11_isVoyage) := goodIn_app (goodIn_sub (mmC (mmI il_X11_sign__1 22 rfl) (mmC (mmI il_X11_sign__1 23 rfl) (mmC (mmI il_X11_sign__2 0 rfl) (mmC (mmI il_X11_sign__1 16 rfl) mmN)))) (by decide +kernel)) ggX11_sign__X11_isVoyage
set_option maxRecDepth 100000 in
theorem ggX11_sign__X11_isAgreement : GoodIn wsX11_sign_ wsX11_isAgreement := goodIn_sub (mmC (mmI il_X11_sign__2 6 rfl) (mmA (mmC (mmI il_X11_sign__1 0 rfl) (mmC (mmI il_X11_sign__1 19 rfl) (mmC (mmI il_X11_sign__1 20 rfl) (mmC (mmI il_X11_sign__1 16 rfl) (mmC (mmI il_X11_sign__1 21 rfl) mmN))))) il_X11_sign__6)) gw_X11_isAgreement
theorem gX11_sign__X11_isAgreement : GoodIn wsX11_sign_ (wsV RX11 199 RX11 yX11_isAgreement wsX11_isAgreement) := goodIn_app (goodIn_sub (mmC (mmI il_X11_sign__2 3 rfl) (mmC (mmI il_X11_sign__2 4 rfl) (mmC (mmI il_X11_sign__2 5 rfl) (mmC (mmI il_X11_sign__1 16 rfl) mmN)))) (by decide +kernel)) ggX11_sign__X11_isAgreement
set_option maxRecDepth 100000 in
theorem ggX11_sign__X11_refuse : GoodIn wsX11_sign_ wsX11_refuse := goodIn_sub (mmC (mmI il_X11_sign__2 10 rfl) (mmA (mmC (mmI il_X11_sign__2 11 rfl) mmN) il_X11_sign__6)) gw_X11_refuse
theorem gX11_sign__X11_refuse : GoodIn wsX11_sign_ (wsV RX11 153 RX11 yX11_refuse wsX11_refuse) := goodIn_app (goodIn_sub (mmC (mmI il_X11_sign__2 7 rfl) (mmC (mmI il_X11_sign__2 8 rfl) (mmC (mmI il_X11_sign__2 9 rfl) (mmC (mmI il_X11_sign__1 16 rfl) mmN)))) (by decide +kernel)) ggX11_sign__X11_refuse
set_option maxRecDepth 100000 in
theorem ggX11_sign__X11_wasTold : GoodIn wsX11_sign_ wsX11_wasTold := goodIn_sub (mmC (mmI il_X11_sign__2 15 rfl) (mmA (mmC (mmI il_X11_sign__2 16 rfl) (mmC (mmI il_X11_sign__2 17 rfl) (mmC (mmI il_X11_sign__2 18 rfl) mmN))) il_X11_sign__6)) gw_X11_wasTold
theorem gX11_sign__X11_wasTold : GoodIn wsX11_sign_ (wsV RX11 182 RX11 yX11_wasTold wsX11_wasTold) := goodIn_app (goodIn_sub (mmC (mmI il_X11_sign__2 12 rfl) (mmC (mmI il_X11_sign__2 13 rfl) (mmC (mmI il_X11_sign__2 14 rfl) (mmC (mmI il_X11_sign__1 16 rfl) mmN)))) (by decide +kernel)) ggX11_sign__X11_wasTold
set_option maxRecDepth 100000 in
theorem ggX11_sign__X11_goesOn : GoodIn wsX11_sign_ wsX11_goesOn := goodIn_sub (mmC (mmI il_X11_sign__2 22 rfl) (mmA (mmC (mmI il_X11_sign__1 2 rfl) (mmC (mmI il_X11_sign__1 7 rfl) (mmC (mmI il_X11_sign__2 12 rfl) (mmC (mmI il_X11_sign__2 13 rfl) (mmC (mmI il_X11_sign__2 14 rfl) (mmC (mmI il_X11_sign__1 16 rfl) (mmC (mmI il_X11_sign__2 15 rfl) (mmC (mmI il_X11_sign__2 16 rfl) (mmC (mmI il_X11_sign__2 17 rfl) (mmC (mmI il_X11_sign__2 18 rfl) mmN)))))))))) il_X11_sign__6)) gw_X11_goesOn
theorem gX11_sign__X11_goesOn : GoodIn wsX11_sign_ (wsV RX11 188 RX11 yX11_goesOn wsX11_goesOn) := goodIn_app (goodIn_sub (mmC (mmI il_X11_sign__2 19 rfl) (mmC (mmI il_X11_sign__2 20 rfl) (mmC (mmI il_X11_sign__2 21 rfl) (mmC (mmI il_X11_sign__1 16 rfl) mmN)))) (by decide +kernel)) ggX11_sign__X11_goesOn
set_option maxRecDepth 100000 in
theorem ggX11_sign__X11_bare : GoodIn wsX11_sign_ wsX11_bare := goodIn_sub (mmC (mmI il_X11_sign__3 2 rfl) (mmA (mmC (mmI il_X11_sign__1 4 rfl) mmN) il_X11_sign__6)) gw_X11_bare
theorem gX11_sign__X11_bare : GoodIn wsX11_sign_ (wsV RX11 275 RX11 yX11_bare wsX11_bare) := goodIn_app (goodIn_sub (mmC (mmI il_X11_sign__2 23 rfl) (mmC (mmI il_X11_sign__3 0 rfl) (mmC (mmI il_X11_sign__3 1 rfl) (mmC (mmI il_X11_sign__1 16 rfl) mmN)))) (by decide +kernel)) ggX11_sign__X11_bare
set_option maxRecDepth 100000 in
theorem ggX11_sign__X11_worth : GoodIn wsX11_sign_ wsX11_worth := goodIn_sub (mmC (mmI il_X11_sign__3 6 rfl) (mmA (mmA (mmC (mmI il_X11_sign__3 7 rfl) (mmC (mmI il_X11_sign__1 4 rfl) (mmC (mmI il_X11_sign__3 8 rfl) (mmC (mmI il_X11_sign__3 9 rfl) (mmC (mmI il_X11_sign__3 10 rfl) (mmC (mmI il_X11_sign__1 16 rfl) (mmC (mmI il_X11_sign__3 11 rfl) (mmC (mmI il_X11_sign__3 12 rfl) (mmC (mmI il_X11_sign__3 13 rfl) (mmC (mmI il_X11_sign__3 14 rfl) (mmC (mmI il_X11_sign__3 15 rfl) (mmC (mmI il_X11_sign__3 16 rfl) (mmC (mmI il_X11_sign__3 17 rfl) (mmC (mmI il_X11_sign__3 18 rfl) (mmC (mmI il_X11_sign__3 19 rfl) (mmC (mmI il_X11_sign__3 20 rfl) (mmC (mmI il_X11_sign__3 21 rfl) (mmC (mmI il_X11_sign__3 22 rfl) (mmC (mmI il_X11_sign__3 23 rfl) (mmC (mmI il_X11_sign__4 0 rfl) (mmC (mmI il_X11_sign__4 1 rfl) (mmC (mmI il_X11_sign__4 2 rfl) (mmC (mmI il_X11_sign__4 3 rfl) (mmC (mmI il_X11_sign__4 4 rfl) mmN)))))))))))))))))))))))) (mmA (mmC (mmI il_X11_sign__4 5 rfl) (mmC (mmI il_X11_sign__4 6 rfl) (mmC (mmI il_X11_sign__4 7 rfl) (mmC (mmI il_X11_sign__4 8 rfl) (mmC (mmI il_X11_sign__4 9 rfl) (mmC (mmI il_X11_sign__4 10 rfl) (mmC (mmI il_X11_sign__4 11 rfl) (mmC (mmI il_X11_sign__4 12 rfl) (mmC (mmI il_X11_sign__4 13 rfl) (mmC (mmI il_X11_sign__4 14 rfl) (mmC (mmI il_X11_sign__4 15 rfl) (mmC (mmI il_X11_sign__4 16 rfl) (mmC (mmI il_X11_sign__4 17 rfl) (mmC (mmI il_X11_sign__4 18 rfl) (mmC (mmI il_X11_sign__4 19 rfl) (mmC (mmI il_X11_sign__4 20 rfl) (mmC (mmI il_X11_sign__4 21 rfl) (mmC (mmI il_X11_sign__4 22 rfl) (mmC (mmI il_X11_sign__4 23 rfl) (mmC (mmI il_X11_sign__5 0 rfl) (mmC (mmI il_X11_sign__5 1 rfl) (mmC (mmI il_X11_sign__5 2 rfl) (mmC (mmI il_X11_sign__5 3 rfl) (mmC (mmI il_X11_sign__5 4 rfl) mmN)))))))))))))))))))))))) (mmC (mmI il_X11_sign__5 5 rfl) (mmC (mmI il_X11_sign__5 6 rfl) (mmC (mmI il_X11_sign__5 7 rfl) (mmC (mmI il_X11_sign__5 8 rfl) (mmC (mmI il_X11_sign__5 9 rfl) mmN))))))) il_X11_sign__6)) gw_X11_worth
theorem gX11_sign__X11_worth : GoodIn wsX11_sign_ (wsV RX11 285 RX11 yX11_worth wsX11_worth) := goodIn_app (goodIn_sub (mmC (mmI il_X11_sign__3 3 rfl) (mmC (mmI il_X11_sign__3 4 rfl) (mmC (mmI il_X11_sign__3 5 rfl) (mmC (mmI il_X11_sign__1 16 rfl) mmN)))) (by decide +kernel)) ggX11_sign__X11_worth
theorem dX11_sign__0 : decode cX11_sign_ 0 = .ok (.aload_n 0, 1) := by decide +kernel
theorem dX11_sign__1 : decode cX11_sign_ 1 = .ok (.iload_n 1, 1) := by decide +kernel
theorem dX11_sign__2 : decode cX11_sign_ 2 = .ok (.invokevirtual 297, 3) := by decide +kernel
theorem dX11_sign__5 : decode cX11_sign_ 5 = .ok (.ifCond .eq 26, 3) := by decide +kernel
theorem dX11_sign__8 : decode cX11_sign_ 8 = .ok (.aload_n 0, 1) := by decide +kernel
theorem dX11_sign__9 : decode cX11_sign_ 9 = .ok (.iload_n 2, 1) := by decide +kernel
theorem dX11_sign__10 : decode cX11_sign_ 10 = .ok (.invokevirtual 185, 3) := by decide +kernel
theorem dX11_sign__13 : decode cX11_sign_ 13 = .ok (.ifCond .eq 18, 3) := by decide +kernel
theorem dX11_sign__16 : decode cX11_sign_ 16 = .ok (.iload 5, 2) := by decide +kernel
theorem dX11_sign__18 : decode cX11_sign_ 18 = .ok (.iconst (-1), 1) := by decide +kernel
theorem dX11_sign__19 : decode cX11_sign_ 19 = .ok (.if_icmp .eq 18, 3) := by decide +kernel
theorem dX11_sign__22 : decode cX11_sign_ 22 = .ok (.aload_n 0, 1) := by decide +kernel
theorem dX11_sign__23 : decode cX11_sign_ 23 = .ok (.iload 5, 2) := by decide +kernel
theorem dX11_sign__25 : decode cX11_sign_ 25 = .ok (.invokevirtual 199, 3) := by decide +kernel
theorem dX11_sign__28 : decode cX11_sign_ 28 = .ok (.ifCond .ne 9, 3) := by decide +kernel
theorem dX11_sign__31 : decode cX11_sign_ 31 = .ok (.aload_n 0, 1) := by decide +kernel
theorem dX11_sign__32 : decode cX11_sign_ 32 = .ok (.iconst (-1), 1) := by decide +kernel
theorem dX11_sign__33 : decode cX11_sign_ 33 = .ok (.invokevirtual 153, 3) := by decide +kernel
theorem dX11_sign__36 : decode cX11_sign_ 36 = .ok (.ireturn, 1) := by decide +kernel
theorem dX11_sign__37 : decode cX11_sign_ 37 = .ok (.iload_n 3, 1) := by decide +kernel
theorem dX11_sign__38 : decode cX11_sign_ 38 = .ok (.iconst 1, 1) := by decide +kernel
theorem dX11_sign__39 : decode cX11_sign_ 39 = .ok (.if_icmp .lt 8, 3) := by decide +kernel
theorem dX11_sign__42 : decode cX11_sign_ 42 = .ok (.iload 4, 2) := by decide +kernel
theorem dX11_sign__44 : decode cX11_sign_ 44 = .ok (.ifCond .ge 10, 3) := by decide +kernel
theorem dX11_sign__47 : decode cX11_sign_ 47 = .ok (.aload_n 0, 1) := by decide +kernel
theorem dX11_sign__48 : decode cX11_sign_ 48 = .ok (.bipush (-4), 2) := by decide +kernel
theorem dX11_sign__50 : decode cX11_sign_ 50 = .ok (.invokevirtual 153, 3) := by decide +kernel
theorem dX11_sign__53 : decode cX11_sign_ 53 = .ok (.ireturn, 1) := by decide +kernel
theorem dX11_sign__54 : decode cX11_sign_ 54 = .ok (.iload_n 3, 1) := by decide +kernel
theorem dX11_sign__55 : decode cX11_sign_ 55 = .ok (.sipush 9999, 3) := by decide +kernel
theorem dX11_sign__58 : decode cX11_sign_ 58 = .ok (.if_icmp .gt 18, 3) := by decide +kernel
theorem dX11_sign__61 : decode cX11_sign_ 61 = .ok (.iload 4, 2) := by decide +kernel
theorem dX11_sign__63 : decode cX11_sign_ 63 = .ok (.iconst 3, 1) := by decide +kernel
theorem dX11_sign__64 : decode cX11_sign_ 64 = .ok (.if_icmp .gt 12, 3) := by decide +kernel
theorem dX11_sign__67 : decode cX11_sign_ 67 = .ok (.aload_n 0, 1) := by decide +kernel
theorem dX11_sign__68 : decode cX11_sign_ 68 = .ok (.getfield 168, 3) := by decide +kernel
theorem dX11_sign__71 : decode cX11_sign_ 71 = .ok (.bipush 60, 2) := by decide +kernel
theorem dX11_sign__73 : decode cX11_sign_ 73 = .ok (.if_icmp .ne 10, 3) := by decide +kernel
theorem dX11_sign__76 : decode cX11_sign_ 76 = .ok (.aload_n 0, 1) := by decide +kernel
theorem dX11_sign__77 : decode cX11_sign_ 77 = .ok (.bipush (-6), 2) := by decide +kernel
theorem dX11_sign__79 : decode cX11_sign_ 79 = .ok (.invokevirtual 153, 3) := by decide +kernel
theorem dX11_sign__82 : decode cX11_sign_ 82 = .ok (.ireturn, 1) := by decide +kernel
theorem dX11_sign__83 : decode cX11_sign_ 83 = .ok (.aload_n 0, 1) := by decide +kernel
theorem dX11_sign__84 : decode cX11_sign_ 84 = .ok (.getfield 37, 3) := by decide +kernel
theorem dX11_sign__87 : decode cX11_sign_ 87 = .ok (.iload_n 2, 1) := by decide +kernel
theorem dX11_sign__88 : decode cX11_sign_ 88 = .ok (.iaload, 1) := by decide +kernel
theorem dX11_sign__89 : decode cX11_sign_ 89 = .ok (.ifCond .ge 40, 3) := by decide +kernel
theorem dX11_sign__92 : decode cX11_sign_ 92 = .ok (.aload_n 0, 1) := by decide +kernel
theorem dX11_sign__93 : decode cX11_sign_ 93 = .ok (.iconst 0, 1) := by decide +kernel
theorem dX11_sign__94 : decode cX11_sign_ 94 = .ok (.iload_n 2, 1) := by decide +kernel
theorem dX11_sign__95 : decode cX11_sign_ 95 = .ok (.invokevirtual 182, 3) := by decide +kernel
theorem dX11_sign__98 : decode cX11_sign_ 98 = .ok (.ifCond .ne 31, 3) := by decide +kernel
theorem dX11_sign__101 : decode cX11_sign_ 101 = .ok (.aload_n 0, 1) := by decide +kernel
theorem dX11_sign__102 : decode cX11_sign_ 102 = .ok (.iconst 2, 1) := by decide +kernel
theorem dX11_sign__103 : decode cX11_sign_ 103 = .ok (.iload_n 2, 1) := by decide +kernel
theorem dX11_sign__104 : decode cX11_sign_ 104 = .ok (.invokevirtual 182, 3) := by decide +kernel
theorem dX11_sign__107 : decode cX11_sign_ 107 = .ok (.ifCond .ne 22, 3) := by decide +kernel
theorem dX11_sign__110 : decode cX11_sign_ 110 = .ok (.iload 5, 2) := by decide +kernel
theorem dX11_sign__112 : decode cX11_sign_ 112 = .ok (.ifCond .lt 13, 3) := by decide +kernel
theorem dX11_sign__115 : decode cX11_sign_ 115 = .ok (.aload_n 0, 1) := by decide +kernel
theorem dX11_sign__116 : decode cX11_sign_ 116 = .ok (.getfield 88, 3) := by decide +kernel
theorem dX11_sign__119 : decode cX11_sign_ 119 = .ok (.iload 5, 2) := by decide +kernel
theorem dX11_sign__121 : decode cX11_sign_ 121 = .ok (.iaload, 1) := by decide +kernel
theorem dX11_sign__122 : decode cX11_sign_ 122 = .ok (.ifCond .lt 7, 3) := by decide +kernel
theorem dX11_sign__125 : decode cX11_sign_ 125 = .ok (.iconst 1, 1) := by decide +kernel
theorem dX11_sign__126 : decode cX11_sign_ 126 = .ok (.goto 4, 3) := by decide +kernel
theorem dX11_sign__129 : decode cX11_sign_ 129 = .ok (.iconst 0, 1) := by decide +kernel
theorem dX11_sign__130 : decode cX11_sign_ 130 = .ok (.istore 6, 2) := by decide +kernel
theorem dX11_sign__132 : decode cX11_sign_ 132 = .ok (.iconst 0, 1) := by decide +kernel
theorem dX11_sign__133 : decode cX11_sign_ 133 = .ok (.istore 7, 2) := by decide +kernel
theorem dX11_sign__135 : decode cX11_sign_ 135 = .ok (.iload 7, 2) := by decide +kernel
theorem dX11_sign__137 : decode cX11_sign_ 137 = .ok (.aload_n 0, 1) := by decide +kernel
theorem dX11_sign__138 : decode cX11_sign_ 138 = .ok (.getfield 168, 3) := by decide +kernel
theorem dX11_sign__141 : decode cX11_sign_ 141 = .ok (.if_icmp .ge 41, 3) := by decide +kernel
theorem dX11_sign__144 : decode cX11_sign_ 144 = .ok (.iload 6, 2) := by decide +kernel
theorem dX11_sign__146 : decode cX11_sign_ 146 = .ok (.ifCond .eq 27, 3) := by decide +kernel
theorem dX11_sign__149 : decode cX11_sign_ 149 = .ok (.aload_n 0, 1) := by decide +kernel
theorem dX11_sign__150 : decode cX11_sign_ 150 = .ok (.getfield 70, 3) := by decide +kernel
theorem dX11_sign__153 : decode cX11_sign_ 153 = .ok (.iload 7, 2) := by decide +kernel
theorem dX11_sign__155 : decode cX11_sign_ 155 = .ok (.iaload, 1) := by decide +kernel
theorem dX11_sign__156 : decode cX11_sign_ 156 = .ok (.iload_n 1, 1) := by decide +kernel
theorem dX11_sign__157 : decode cX11_sign_ 157 = .ok (.if_icmp .ne 12, 3) := by decide +kernel
theorem dX11_sign__160 : decode cX11_sign_ 160 = .ok (.aload_n 0, 1) := by decide +kernel
theorem dX11_sign__161 : decode cX11_sign_ 161 = .ok (.iload 7, 2) := by decide +kernel
theorem dX11_sign__163 : decode cX11_sign_ 163 = .ok (.invokevirtual 188, 3) := by decide +kernel
theorem dX11_sign__166 : decode cX11_sign_ 166 = .ok (.ifCond .ne 7, 3) := by decide +kernel
theorem dX11_sign__169 : decode cX11_sign_ 169 = .ok (.iconst 1, 1) := by decide +kernel
theorem dX11_sign__170 : decode cX11_sign_ 170 = .ok (.goto 4, 3) := by decide +kernel
theorem dX11_sign__173 : decode cX11_sign_ 173 = .ok (.iconst 0, 1) := by decide +kernel
theorem dX11_sign__174 : decode cX11_sign_ 174 = .ok (.istore 6, 2) := by decide +kernel
theorem dX11_sign__176 : decode cX11_sign_ 176 = .ok (.iinc 7 1, 3) := by decide +kernel
theorem dX11_sign__179 : decode cX11_sign_ 179 = .ok (.goto (-44), 3) := by decide +kernel
theorem dX11_sign__182 : decode cX11_sign_ 182 = .ok (.iload 6, 2) := by decide +kernel
theorem dX11_sign__184 : decode cX11_sign_ 184 = .ok (.ifCond .ne 10, 3) := by decide +kernel
theorem dX11_sign__187 : decode cX11_sign_ 187 = .ok (.aload_n 0, 1) := by decide +kernel
theorem dX11_sign__188 : decode cX11_sign_ 188 = .ok (.bipush (-3), 2) := by decide +kernel
theorem dX11_sign__190 : decode cX11_sign_ 190 = .ok (.invokevirtual 153, 3) := by decide +kernel
theorem dX11_sign__193 : decode cX11_sign_ 193 = .ok (.ireturn, 1) := by decide +kernel
theorem dX11_sign__194 : decode cX11_sign_ 194 = .ok (.aload_n 0, 1) := by decide +kernel
theorem dX11_sign__195 : decode cX11_sign_ 195 = .ok (.invokevirtual 275, 3) := by decide +kernel
theorem dX11_sign__198 : decode cX11_sign_ 198 = .ok (.aload_n 0, 1) := by decide +kernel
theorem dX11_sign__199 : decode cX11_sign_ 199 = .ok (.getfield 128, 3) := by decide +kernel
theorem dX11_sign__202 : decode cX11_sign_ 202 = .ok (.bipush 119, 2) := by decide +kernel
theorem dX11_sign__204 : decode cX11_sign_ 204 = .ok (.iload_n 3, 1) := by decide +kernel
theorem dX11_sign__205 : decode cX11_sign_ 205 = .ok (.iastore, 1) := by decide +kernel
theorem dX11_sign__206 : decode cX11_sign_ 206 = .ok (.aload_n 0, 1) := by decide +kernel
theorem dX11_sign__207 : decode cX11_sign_ 207 = .ok (.getfield 128, 3) := by decide +kernel
theorem dX11_sign__210 : decode cX11_sign_ 210 = .ok (.bipush 114, 2) := by decide +kernel
theorem dX11_sign__212 : decode cX11_sign_ 212 = .ok (.iload 4, 2) := by decide +kernel
theorem dX11_sign__214 : decode cX11_sign_ 214 = .ok (.iastore, 1) := by decide +kernel
theorem dX11_sign__215 : decode cX11_sign_ 215 = .ok (.aload_n 0, 1) := by decide +kernel
theorem dX11_sign__216 : decode cX11_sign_ 216 = .ok (.getfield 128, 3) := by decide +kernel
theorem dX11_sign__219 : decode cX11_sign_ 219 = .ok (.bipush 97, 2) := by decide +kernel
theorem dX11_sign__221 : decode cX11_sign_ 221 = .ok (.aload_n 0, 1) := by decide +kernel
theorem dX11_sign__222 : decode cX11_sign_ 222 = .ok (.getfield 171, 3) := by decide +kernel
theorem dX11_sign__225 : decode cX11_sign_ 225 = .ok (.aload_n 0, 1) := by decide +kernel
theorem dX11_sign__226 : decode cX11_sign_ 226 = .ok (.getfield 22, 3) := by decide +kernel
theorem dX11_sign__229 : decode cX11_sign_ 229 = .ok (.iload_n 1, 1) := by decide +kernel
theorem dX11_sign__230 : decode cX11_sign_ 230 = .ok (.iaload, 1) := by decide +kernel
theorem dX11_sign__231 : decode cX11_sign_ 231 = .ok (.isub, 1) := by decide +kernel
theorem dX11_sign__232 : decode cX11_sign_ 232 = .ok (.sipush 365, 3) := by decide +kernel
theorem dX11_sign__235 : decode cX11_sign_ 235 = .ok (.idiv, 1) := by decide +kernel
theorem dX11_sign__236 : decode cX11_sign_ 236 = .ok (.iastore, 1) := by decide +kernel
theorem dX11_sign__237 : decode cX11_sign_ 237 = .ok (.aload_n 0, 1) := by decide +kernel
theorem dX11_sign__238 : decode cX11_sign_ 238 = .ok (.iconst 0, 1) := by decide +kernel
theorem dX11_sign__239 : decode cX11_sign_ 239 = .ok (.aload_n 0, 1) := by decide +kernel
theorem dX11_sign__240 : decode cX11_sign_ 240 = .ok (.getfield 171, 3) := by decide +kernel
theorem dX11_sign__243 : decode cX11_sign_ 243 = .ok (.invokevirtual 285, 3) := by decide +kernel
theorem dX11_sign__246 : decode cX11_sign_ 246 = .ok (.ifCond .gt 10, 3) := by decide +kernel
theorem dX11_sign__249 : decode cX11_sign_ 249 = .ok (.aload_n 0, 1) := by decide +kernel
theorem dX11_sign__250 : decode cX11_sign_ 250 = .ok (.bipush (-3), 2) := by decide +kernel
theorem dX11_sign__252 : decode cX11_sign_ 252 = .ok (.invokevirtual 153, 3) := by decide +kernel
theorem dX11_sign__255 : decode cX11_sign_ 255 = .ok (.ireturn, 1) := by decide +kernel
theorem dX11_sign__256 : decode cX11_sign_ 256 = .ok (.aload_n 0, 1) := by decide +kernel
theorem dX11_sign__257 : decode cX11_sign_ 257 = .ok (.getfield 168, 3) := by decide +kernel
theorem dX11_sign__260 : decode cX11_sign_ 260 = .ok (.istore 7, 2) := by decide +kernel
theorem dX11_sign__262 : decode cX11_sign_ 262 = .ok (.aload_n 0, 1) := by decide +kernel
theorem dX11_sign__263 : decode cX11_sign_ 263 = .ok (.dup, 1) := by decide +kernel
theorem dX11_sign__264 : decode cX11_sign_ 264 = .ok (.getfield 168, 3) := by decide +kernel
theorem dX11_sign__267 : decode cX11_sign_ 267 = .ok (.iconst 1, 1) := by decide +kernel
theorem dX11_sign__268 : decode cX11_sign_ 268 = .ok (.iadd, 1) := by decide +kernel
theorem dX11_sign__269 : decode cX11_sign_ 269 = .ok (.putfield 168, 3) := by decide +kernel
theorem dX11_sign__272 : decode cX11_sign_ 272 = .ok (.aload_n 0, 1) := by decide +kernel
theorem dX11_sign__273 : decode cX11_sign_ 273 = .ok (.getfield 70, 3) := by decide +kernel
theorem dX11_sign__276 : decode cX11_sign_ 276 = .ok (.iload 7, 2) := by decide +kernel
theorem dX11_sign__278 : decode cX11_sign_ 278 = .ok (.iload_n 1, 1) := by decide +kernel
theorem dX11_sign__279 : decode cX11_sign_ 279 = .ok (.iastore, 1) := by decide +kernel
theorem dX11_sign__280 : decode cX11_sign_ 280 = .ok (.aload_n 0, 1) := by decide +kernel
theorem dX11_sign__281 : decode cX11_sign_ 281 = .ok (.getfield 73, 3) := by decide +kernel
theorem dX11_sign__284 : decode cX11_sign_ 284 = .ok (.iload 7, 2) := by decide +kernel
theorem dX11_sign__286 : decode cX11_sign_ 286 = .ok (.iload_n 2, 1) := by decide +kernel
theorem dX11_sign__287 : decode cX11_sign_ 287 = .ok (.iastore, 1) := by decide +kernel
theorem dX11_sign__288 : decode cX11_sign_ 288 = .ok (.aload_n 0, 1) := by decide +kernel
theorem dX11_sign__289 : decode cX11_sign_ 289 = .ok (.getfield 76, 3) := by decide +kernel
theorem dX11_sign__292 : decode cX11_sign_ 292 = .ok (.iload 7, 2) := by decide +kernel
theorem dX11_sign__294 : decode cX11_sign_ 294 = .ok (.iload_n 3, 1) := by decide +kernel
theorem dX11_sign__295 : decode cX11_sign_ 295 = .ok (.iastore, 1) := by decide +kernel
theorem dX11_sign__296 : decode cX11_sign_ 296 = .ok (.aload_n 0, 1) := by decide +kernel
theorem dX11_sign__297 : decode cX11_sign_ 297 = .ok (.getfield 79, 3) := by decide +kernel
theorem dX11_sign__300 : decode cX11_sign_ 300 = .ok (.iload 7, 2) := by decide +kernel
theorem dX11_sign__302 : decode cX11_sign_ 302 = .ok (.iload 4, 2) := by decide +kernel
theorem dX11_sign__304 : decode cX11_sign_ 304 = .ok (.iastore, 1) := by decide +kernel
theorem dX11_sign__305 : decode cX11_sign_ 305 = .ok (.aload_n 0, 1) := by decide +kernel
theorem dX11_sign__306 : decode cX11_sign_ 306 = .ok (.getfield 82, 3) := by decide +kernel
theorem dX11_sign__309 : decode cX11_sign_ 309 = .ok (.iload 7, 2) := by decide +kernel
theorem dX11_sign__311 : decode cX11_sign_ 311 = .ok (.iload 5, 2) := by decide +kernel
theorem dX11_sign__313 : decode cX11_sign_ 313 = .ok (.iastore, 1) := by decide +kernel
theorem dX11_sign__314 : decode cX11_sign_ 314 = .ok (.aload_n 0, 1) := by decide +kernel
theorem dX11_sign__315 : decode cX11_sign_ 315 = .ok (.getfield 85, 3) := by decide +kernel
theorem dX11_sign__318 : decode cX11_sign_ 318 = .ok (.iload 7, 2) := by decide +kernel
theorem dX11_sign__320 : decode cX11_sign_ 320 = .ok (.aload_n 0, 1) := by decide +kernel
theorem dX11_sign__321 : decode cX11_sign_ 321 = .ok (.getfield 171, 3) := by decide +kernel
theorem dX11_sign__324 : decode cX11_sign_ 324 = .ok (.iastore, 1) := by decide +kernel
theorem dX11_sign__325 : decode cX11_sign_ 325 = .ok (.aload_n 0, 1) := by decide +kernel
theorem dX11_sign__326 : decode cX11_sign_ 326 = .ok (.getfield 88, 3) := by decide +kernel
theorem dX11_sign__329 : decode cX11_sign_ 329 = .ok (.iload 7, 2) := by decide +kernel
theorem dX11_sign__331 : decode cX11_sign_ 331 = .ok (.iconst (-1), 1) := by decide +kernel
theorem dX11_sign__332 : decode cX11_sign_ 332 = .ok (.iastore, 1) := by decide +kernel
theorem dX11_sign__333 : decode cX11_sign_ 333 = .ok (.aload_n 0, 1) := by decide +kernel
theorem dX11_sign__334 : decode cX11_sign_ 334 = .ok (.getfield 94, 3) := by decide +kernel
theorem dX11_sign__337 : decode cX11_sign_ 337 = .ok (.iload 7, 2) := by decide +kernel
theorem dX11_sign__339 : decode cX11_sign_ 339 = .ok (.bipush (-9), 2) := by decide +kernel
theorem dX11_sign__341 : decode cX11_sign_ 341 = .ok (.iastore, 1) := by decide +kernel
theorem dX11_sign__342 : decode cX11_sign_ 342 = .ok (.iload 7, 2) := by decide +kernel
theorem dX11_sign__344 : decode cX11_sign_ 344 = .ok (.ireturn, 1) := by decide +kernel
theorem in_wsX11_sign__X11 : ∀ w ∈ wsX110, w ∈ wsX11_sign_ := fun w h => List.mem_cons_of_mem _ (List.mem_append_right _ h)

set_option maxHeartbeats 4000000 in
set_option maxRecDepth 100000 in
theorem c_X11_refuseFar (l : Launch) (dC : Nat → ClassId) (dI : Nat → Nat → Nat) (sz : Nat) (g0 : Nat) (pq : Nat → Nat) (cp : Nat → ClassId) (v : Nat → Int32) (fa : Nat → Nat → Int32) (gV : mV v) (gA : mA fa) (x1 : Int32) (hx1 : -6 ≤ x1.toInt ∧ x1.toInt ≤ 0) : Met l yX11_refuseFar wsX11_refuseFar ({ frames := 1, cells := 0, slots := 0, locals := 21 }) (va_Pc [.ref g0, .int x1] (pcW (dC, dI) (mT cp) (mW g0 pq cp v fa) sz)) (va_Qi (fun (r : Int32) (u : (Nat → Int32) × (Nat → Nat → Int32)) => mV u.1 ∧ mA u.2 ∧ mX [0] v fa u.1 u.2) (fun u t => va_P (dC, dI) vwCl (mW g0 pq cp u.1 u.2) t.heap ∧ va_K (dC, dI) vwCl (mT cp) t ∧ va_D (va_A (mW g0 pq cp v fa) sz) (mW g0 pq cp u.1 u.2)) (va_A (mW g0 pq cp v fa) sz)) 0 0 (va_A (mW g0 pq cp v fa) sz) := by
  refine Met.ofW (cc := cX11_refuseFar) (maxL := 2) (ret := (some .int)) (by decide) rfl ?_
  intro p e s m args below meth c s₁ B hml hv
  obtain ⟨rfl, hsz, hP, hK, hD0⟩ := hv
  have hx := B.exec
  have hb := B.bytes
  have hr := B.returns
  have hts := atoms_spec (ws := wsX11_refuseFar) B.pre
  have hown : s.vm.findClass RX11 = some m.cls := findClass_of_methodNamed B.named
  have hlocks := B.notSynchronized
  subst hsz
  have hD := hD0.self (sz := s.heap.size)
  generalize hAe : va_A (mW g0 pq cp v fa) s.heap.size = A at hD ⊢
  have hA : ∀ q : Nat, s.heap.size ≤ q → A q := fun q h => by rw [← hAe]; exact Or.inr h
  have hS : va_S A s.heap s.heap [] := va_S.rf
  have hP : va_P (dC, dI) vwCl (mW g0 pq cp v fa) s.heap := hP
  have hl := lv_entry ([.ref g0, .int x1]) (n := 2) (Nat.le_of_ble_eq_true rfl)
  rw [lg_entry_eq]
  generalize (lg_sl ([.ref g0, .int x1]) ++ List.replicate (2 - (lg_sl ([.ref g0, .int x1])).length) Slot.unset).toArray = ls at hl ⊢
  have hl : lv_has ls 2 [(0, .ref g0), (1, .int x1)] := hl
  refine lv_ldc (v := 1000000000) hx hb hown (hts (.constant RX11 152 (1000000000)) (by decide +kernel)) dX11_refuseFar_0 ?_
  refine lv_aload_n hx hb dX11_refuseFar_2 rfl (lv_at hl 0 rfl) ?_
  refine lv_iload_n hx hb dX11_refuseFar_3 rfl (lv_at hl 1 rfl) ?_
  have hFc := va_free (wc := (mW g0 pq cp v fa)) hD hS hA (List.range 48) rfl
  refine va_calli (va_runV (As := [.int x1]) (rest := [.int 1000000000]) ⟨hx, hb, hml, hown, hts⟩ (c_X11_refuse l dC dI s.heap.size g0 pq cp v fa x1 (by apply vp_in_iff.mpr; rw [ng_i (x := x1) rfl (by omega) (by omega)]; omega)) (cwV 1 hts gX11_refuseFar_X11_refuse rfl rfl rfl (by decide +kernel) ⟨(Nat.le_of_ble_eq_true rfl), (Nat.le_of_ble_eq_true rfl)⟩) (pr_V (r := (RX11, TX11, 63)) hP hK hD 0 11 rfl rfl) rfl rfl hl.1 rfl (lv_room (Nat.le_of_ble_eq_true rfl)) dX11_refuseFar_4 ⟨(Nat.le_of_ble_eq_true rfl), (Nat.le_of_ble_eq_true rfl)⟩) hS (fun q _ h => hFc q h) hFc (fun r_2 u t H locs ht hvm w_1 hB hz1 hk1 hS => ?_)
  obtain ⟨v_3, fa_4⟩ := u
  obtain ⟨hP1, hK1, hD1⟩ := hB
  rw [ht] at hP1
  have hP : va_P (dC, dI) vwCl (mW g0 pq cp v_3 fa_4) H := hP1
  have hD : va_D A (mW g0 pq cp v_3 fa_4) := hD1.weaken (fun _ _ _ h => hFc _ h)
  clear hP1 hK1 hD1 hk1 hz1 hvm ht hFc
  obtain ⟨-, w_1⟩ := w_1
  have hVv_3 : mV v_3 := sm0_V w_1 gV
  have hAv_3 : mA fa_4 := sm0_A w_1 gA
  have hRv_3 : mX [0] v fa v_3 fa_4 := mX.st mX.rf (mX.s0 w_1) (by decide)
  refine lv_isub hx hb dX11_refuseFar_7 ?_
  refine lv_topi (fun x_5 ex_5 => ?_)
  clear ex_5
  exact W.iret (v := x_5) hx hb hr (fun t ht hW => ⟨⟨x_5, (v_3, fa_4), rfl, ⟨hVv_3, hAv_3, hRv_3⟩, ⟨by rw [ht]; exact hP, va_K.moved hW.alike hK, hD⟩⟩, hS.F ht⟩) hS.2.2 dX11_refuseFar_8
set_option maxHeartbeats 4000000 in
set_option maxRecDepth 100000 in
theorem c_X11_sign_ (l : Launch) (dC : Nat → ClassId) (dI : Nat → Nat → Nat) (sz : Nat) (g0 : Nat) (pq : Nat → Nat) (cp : Nat → ClassId) (v : Nat → Int32) (fa : Nat → Nat → Int32) (gV : mV v) (gA : mA fa) (x1 : Int32) (x2 : Int32) (x3 : Int32) (x4 : Int32) (x5 : Int32) : Met l yX11_sign_ wsX11_sign_ ({ frames := 21, cells := 0, slots := 0, locals := 486 }) (va_Pc [.ref g0, .int x1, .int x2, .int x3, .int x4, .int x5] (pcW (dC, dI) (mT cp) (mW g0 pq cp v fa) sz)) (va_Qi (fun (r : Int32) (u : (Nat → Int32) × (Nat → Nat → Int32)) => mV u.1 ∧ mA u.2 ∧ mX [0, 20, 21, 22, 23, 24, 25, 26, 28, 43, 45, 47, 48, 49, 50, 51, 52, 53, 54, 55, 56, 57, 58, 59, 60] v fa u.1 u.2) (fun u t => va_P (dC, dI) vwCl (mW g0 pq cp u.1 u.2) t.heap ∧ va_K (dC, dI) vwCl (mT cp) t ∧ va_D (va_A (mW g0 pq cp v fa) sz) (mW g0 pq cp u.1 u.2)) (va_A (mW g0 pq cp v fa) sz)) 0 0 (va_A (mW g0 pq cp v fa) sz) := by
  refine Met.ofW (cc := cX11_sign_) (maxL := 8) (ret := (some .int)) (by decide) rfl ?_
  intro p e s m args below meth c s₁ B hml hv
  obtain ⟨rfl, hsz, hP, hK, hD0⟩ := hv
  have hx := B.exec
  have hb := B.bytes
  have hr := B.returns
  have hts := atoms_spec (ws := wsX11_sign_) B.pre
  have hown : s.vm.findClass RX11 = some m.cls := findClass_of_methodNamed B.named
  have hlocks := B.notSynchronized
  subst hsz
  have hD := hD0.self (sz := s.heap.size)
  generalize hAe : va_A (mW g0 pq cp v fa) s.heap.size = A at hD ⊢
  have hA : ∀ q : Nat, s.heap.size ≤ q → A q := fun q h => by rw [← hAe]; exact Or.inr h
  have hS : va_S A s.heap s.heap [] := va_S.rf
  have hP : va_P (dC, dI) vwCl (mW g0 pq cp v fa) s.heap := hP
  have hl := lv_entry ([.ref g0, .int x1, .int x2, .int x3, .int x4, .int x5]) (n := 8) (Nat.le_of_ble_eq_true rfl)
  rw [lg_entry_eq]
  generalize (lg_sl ([.ref g0, .int x1, .int x2, .int x3, .int x4, .int x5]) ++ List.replicate (8 - (lg_sl ([.ref g0, .int x1, .int x2, .int x3, .int x4, .int x5])).length) Slot.unset).toArray = ls at hl ⊢
  have hl : lv_has ls 8 [(0, .ref g0), (1, .int x1), (2, .int x2), (3, .int x3), (4, .int x4), (5, .int x5)] := hl
  have cut_1 : ∀ (z_5 : Nat → Int32) (fz_6 : Nat → Nat → Int32) (H : Heap) (locs : List Loc) (ls : Array Slot), (-1 ≤ x5.toInt ∧ x5.toInt ≤ 59) → (0 ≤ x1.toInt ∧ x1.toInt ≤ 39) → (0 ≤ x2.toInt ∧ x2.toInt ≤ 19) → mV z_5 → mA fz_6 → mX [0, 20, 21, 22, 23, 24, 25, 26, 28, 43, 45, 47, 48, 49, 50, 51, 52, 53, 54, 55, 56, 57, 58, 59, 60] v fa z_5 fz_6 → va_P (dC, dI) vwCl (mW g0 pq cp z_5 fz_6) H → va_D A (mW g0 pq cp z_5 fz_6) → va_S A s.heap H locs → (z_5 43).toInt = (v 43).toInt → lv_has ls 8 [(0, .ref g0), (1, .int x1), (2, .int x2), (3, .int x3), (4, .int x4), (5, .int x5)] → W p l e (headSpec wsX11_sign_ { frames := 21, cells := 0, slots := 0, locals := 486 }).room s m #[Value.ref g0, Value.int x1, Value.int x2, Value.int x3, Value.int x4, Value.int x5] below meth c H locs 0 0 (MQ below (va_Qi (fun (r : Int32) (u : (Nat → Int32) × (Nat → Nat → Int32)) => mV u.1 ∧ mA u.2 ∧ mX [0, 20, 21, 22, 23, 24, 25, 26, 28, 43, 45, 47, 48, 49, 50, 51, 52, 53, 54, 55, 56, 57, 58, 59, 60] v fa u.1 u.2) (fun u t => va_P (dC, dI) vwCl (mW g0 pq cp u.1 u.2) t.heap ∧ va_K (dC, dI) vwCl (mT cp) t ∧ va_D A (mW g0 pq cp u.1 u.2)) A) #[Value.ref g0, Value.int x1, Value.int x2, Value.int x3, Value.int x4, Value.int x5] s 0 0 A) (F0 m 37 ls []) := by
    intro  z_5 fz_6 H locs ls hiv_2 hiv_3 hiv_4 hVz_5 hAz_5 hRz_5 hP hD hS g_7 hl
    refine lv_iload_n hx hb dX11_sign__37 rfl (lv_at hl 3 rfl) ?_
    refine lv_iconst (v := 1) hx hb dX11_sign__38 (by decide) ?_
    refine lv_icmp_lt (tgt := 47) hx hb dX11_sign__39 (by decide) (fun c_8 => ?_) (fun c_8 => ?_)
    · have dc_8 := c_lt (a := x3.toInt) (b := 1) rfl (by decide) c_8
      refine lv_aload_n hx hb dX11_sign__47 rfl (lv_at hl 0 rfl) ?_
      refine lv_bipush (v := (-4)) hx hb dX11_sign__48 (by decide) ?_
      have hFc := va_free (wc := (mW g0 pq cp z_5 fz_6)) hD hS hA (List.range 48) rfl
      refine va_calli (va_runV (As := [.int (-4)]) (rest := []) ⟨hx, hb, hml, hown, hts⟩ (c_X11_refuse l dC dI H.size g0 pq cp z_5 fz_6 (-4) (by unfold vp_in; decide)) (cwV 1 hts gX11_sign__X11_refuse rfl rfl rfl (by decide +kernel) ⟨(Nat.le_of_ble_eq_true rfl), (Nat.le_of_ble_eq_true rfl)⟩) (pr_V (r := (RX11, TX11, 63)) hP hK hD 0 11 rfl rfl) rfl rfl hl.1 rfl (lv_room (Nat.le_of_ble_eq_true rfl)) dX11_sign__50 ⟨(Nat.le_of_ble_eq_true rfl), (Nat.le_of_ble_eq_true rfl)⟩) hS (fun q _ h => hFc q h) hFc (fun r_10 u t H locs ht hvm w_9 hB hz1 hk1 hS => ?_)
      obtain ⟨v_11, fa_12⟩ := u
      obtain ⟨hP1, hK1, hD1⟩ := hB
      rw [ht] at hP1
      have hP : va_P (dC, dI) vwCl (mW g0 pq cp v_11 fa_12) H := hP1
      have hD : va_D A (mW g0 pq cp v_11 fa_12) := hD1.weaken (fun _ _ _ h => hFc _ h)
      clear hP1 hK1 hD1 hk1 hz1 hvm ht hFc
      obtain ⟨rfl, w_9⟩ := w_9
      have hVv_11 : mV v_11 := sm0_V w_9 hVz_5
      have hAv_11 : mA fa_12 := sm0_A w_9 hAz_5
      have g_13 : (v_11 43).toInt = (z_5 43).toInt := congrArg Int32.toInt (congrFun w_9.1 43)
      have hRv_11 : mX [0, 20, 21, 22, 23, 24, 25, 26, 28, 43, 45, 47, 48, 49, 50, 51, 52, 53, 54, 55, 56, 57, 58, 59, 60] v fa v_11 fa_12 := mX.st hRz_5 (mX.s0 w_9) (by decide)
      exact W.iret (v := (-4)) hx hb hr (fun t ht hW => ⟨⟨(-4), (v_11, fa_12), rfl, ⟨hVv_11, hAv_11, hRv_11⟩, ⟨by rw [ht]; exact hP, va_K.moved hW.alike hK, hD⟩⟩, hS.F ht⟩) hS.2.2 dX11_sign__53
    · have dc_8 := c_nlt (a := x3.toInt) (b := 1) rfl (by decide) c_8
      refine lv_iload hx hb dX11_sign__42 (lv_at hl 4 rfl) ?_
      refine lv_if_ge (tgt := 54) hx hb dX11_sign__44 (by decide) (fun c_14 => ?_) (fun c_14 => ?_)
      · have dc_14 := c_le (a := 0) (b := x4.toInt) (by decide) rfl c_14
        refine lv_iload_n hx hb dX11_sign__54 rfl (lv_at hl 3 rfl) ?_
        refine lv_sipush (v := 9999) hx hb dX11_sign__55 (by decide) ?_
        refine lv_icmp_gt (tgt := 76) hx hb dX11_sign__58 (by decide) (fun c_15 => ?_) (fun c_15 => ?_)
        · have dc_15 := c_lt (a := 9999) (b := x3.toInt) (by decide) rfl c_15
          refine lv_aload_n hx hb dX11_sign__76 rfl (lv_at hl 0 rfl) ?_
          refine lv_bipush (v := (-6)) hx hb dX11_sign__77 (by decide) ?_
          have hFc := va_free (wc := (mW g0 pq cp z_5 fz_6)) hD hS hA (List.range 48) rfl
          refine va_calli (va_runV (As := [.int (-6)]) (rest := []) ⟨hx, hb, hml, hown, hts⟩ (c_X11_refuse l dC dI H.size g0 pq cp z_5 fz_6 (-6) (by unfold vp_in; decide)) (cwV 1 hts gX11_sign__X11_refuse rfl rfl rfl (by decide +kernel) ⟨(Nat.le_of_ble_eq_true rfl), (Nat.le_of_ble_eq_true rfl)⟩) (pr_V (r := (RX11, TX11, 63)) hP hK hD 0 11 rfl rfl) rfl rfl hl.1 rfl (lv_room (Nat.le_of_ble_eq_true rfl)) dX11_sign__79 ⟨(Nat.le_of_ble_eq_true rfl), (Nat.le_of_ble_eq_true rfl)⟩) hS (fun q _ h => hFc q h) hFc (fun r_17 u t H locs ht hvm w_16 hB hz1 hk1 hS => ?_)
          obtain ⟨v_18, fa_19⟩ := u
          obtain ⟨hP1, hK1, hD1⟩ := hB
          rw [ht] at hP1
          have hP : va_P (dC, dI) vwCl (mW g0 pq cp v_18 fa_19) H := hP1
          have hD : va_D A (mW g0 pq cp v_18 fa_19) := hD1.weaken (fun _ _ _ h => hFc _ h)
          clear hP1 hK1 hD1 hk1 hz1 hvm ht hFc
          obtain ⟨rfl, w_16⟩ := w_16
          have hVv_18 : mV v_18 := sm0_V w_16 hVz_5
          have hAv_18 : mA fa_19 := sm0_A w_16 hAz_5
          have g_20 : (v_18 43).toInt = (z_5 43).toInt := congrArg Int32.toInt (congrFun w_16.1 43)
          have hRv_18 : mX [0, 20, 21, 22, 23, 24, 25, 26, 28, 43, 45, 47, 48, 49, 50, 51, 52, 53, 54, 55, 56, 57, 58, 59, 60] v fa v_18 fa_19 := mX.st hRz_5 (mX.s0 w_16) (by decide)
          exact W.iret (v := (-6)) hx hb hr (fun t ht hW => ⟨⟨(-6), (v_18, fa_19), rfl, ⟨hVv_18, hAv_18, hRv_18⟩, ⟨by rw [ht]; exact hP, va_K.moved hW.alike hK, hD⟩⟩, hS.F ht⟩) hS.2.2 dX11_sign__82
        · have dc_15 := c_nlt (a := 9999) (b := x3.toInt) (by decide) rfl c_15
          refine lv_iload hx hb dX11_sign__61 (lv_at hl 4 rfl) ?_
          refine lv_iconst (v := 3) hx hb dX11_sign__63 (by decide) ?_
          refine lv_icmp_gt (tgt := 76) hx hb dX11_sign__64 (by decide) (fun c_21 => ?_) (fun c_21 => ?_)
          · have dc_21 := c_lt (a := 3) (b := x4.toInt) (by decide) rfl c_21
            refine lv_aload_n hx hb dX11_sign__76 rfl (lv_at hl 0 rfl) ?_
            refine lv_bipush (v := (-6)) hx hb dX11_sign__77 (by decide) ?_
            have hFc := va_free (wc := (mW g0 pq cp z_5 fz_6)) hD hS hA (List.range 48) rfl
            refine va_calli (va_runV (As := [.int (-6)]) (rest := []) ⟨hx, hb, hml, hown, hts⟩ (c_X11_refuse l dC dI H.size g0 pq cp z_5 fz_6 (-6) (by unfold vp_in; decide)) (cwV 1 hts gX11_sign__X11_refuse rfl rfl rfl (by decide +kernel) ⟨(Nat.le_of_ble_eq_true rfl), (Nat.le_of_ble_eq_true rfl)⟩) (pr_V (r := (RX11, TX11, 63)) hP hK hD 0 11 rfl rfl) rfl rfl hl.1 rfl (lv_room (Nat.le_of_ble_eq_true rfl)) dX11_sign__79 ⟨(Nat.le_of_ble_eq_true rfl), (Nat.le_of_ble_eq_true rfl)⟩) hS (fun q _ h => hFc q h) hFc (fun r_23 u t H locs ht hvm w_22 hB hz1 hk1 hS => ?_)
            obtain ⟨v_24, fa_25⟩ := u
            obtain ⟨hP1, hK1, hD1⟩ := hB
            rw [ht] at hP1
            have hP : va_P (dC, dI) vwCl (mW g0 pq cp v_24 fa_25) H := hP1
            have hD : va_D A (mW g0 pq cp v_24 fa_25) := hD1.weaken (fun _ _ _ h => hFc _ h)
            clear hP1 hK1 hD1 hk1 hz1 hvm ht hFc
            obtain ⟨rfl, w_22⟩ := w_22
            have hVv_24 : mV v_24 := sm0_V w_22 hVz_5
            have hAv_24 : mA fa_25 := sm0_A w_22 hAz_5
            have g_26 : (v_24 43).toInt = (z_5 43).toInt := congrArg Int32.toInt (congrFun w_22.1 43)
            have hRv_24 : mX [0, 20, 21, 22, 23, 24, 25, 26, 28, 43, 45, 47, 48, 49, 50, 51, 52, 53, 54, 55, 56, 57, 58, 59, 60] v fa v_24 fa_25 := mX.st hRz_5 (mX.s0 w_22) (by decide)
            exact W.iret (v := (-6)) hx hb hr (fun t ht hW => ⟨⟨(-6), (v_24, fa_25), rfl, ⟨hVv_24, hAv_24, hRv_24⟩, ⟨by rw [ht]; exact hP, va_K.moved hW.alike hK, hD⟩⟩, hS.F ht⟩) hS.2.2 dX11_sign__82
          · have dc_21 := c_nlt (a := 3) (b := x4.toInt) (by decide) rfl c_21
            refine lv_aload_n hx hb dX11_sign__67 rfl (lv_at hl 0 rfl) ?_
            refine va_get (D := (dC, dI)) (ci := 11) (v := .int (z_5 43)) (C := RX11) (T := TX11) (N := 63) hx hb hts in_wsX11_sign__X11 hown hK hP 0 rfl rfl 43 (by decide) (hts (.fieldLink RX11 168 "ShipOfficeModel" "agreements" "I") iw_X11_sign__1) (fun _ h9 => h9) rfl dX11_sign__68 ?_
            refine lv_topi (fun x_27 ex_27 => ?_)
            have hx_27 : 0 ≤ x_27.toInt ∧ x_27.toInt ≤ 60 := iv_of ex_27 (hVz_5 43)
            have gx_27 : x_27.toInt = (z_5 43).toInt := iv_to ex_27
            clear ex_27
            refine lv_bipush (v := 60) hx hb dX11_sign__71 (by decide) ?_
            refine lv_icmp_ne (tgt := 83) hx hb dX11_sign__73 (by decide) (fun c_28 => ?_) (fun c_28 => ?_)
            · have dc_28 := c_ne (a := x_27.toInt) (b := 60) rfl (by decide) c_28
              have cut_29 : ∀ (y_30 : Int32) (z_31 : Nat → Int32) (fz_32 : Nat → Nat → Int32) (H : Heap) (locs : List Loc) (ls : Array Slot), (0 ≤ y_30.toInt ∧ y_30.toInt ≤ 1) → mV z_31 → mA fz_32 → mX [0, 20, 21, 22, 23, 24, 25, 26, 28, 43, 45, 47, 48, 49, 50, 51, 52, 53, 54, 55, 56, 57, 58, 59, 60] v fa z_31 fz_32 → va_P (dC, dI) vwCl (mW g0 pq cp z_31 fz_32) H → va_D A (mW g0 pq cp z_31 fz_32) → va_S A s.heap H locs → (z_31 43).toInt = (z_5 43).toInt → lv_has ls 8 [(6, .int y_30), (0, .ref g0), (1, .int x1), (2, .int x2), (3, .int x3), (4, .int x4), (5, .int x5)] → W p l e (headSpec wsX11_sign_ { frames := 21, cells := 0, slots := 0, locals := 486 }).room s m #[Value.ref g0, Value.int x1, Value.int x2, Value.int x3, Value.int x4, Value.int x5] below meth c H locs 0 0 (MQ below (va_Qi (fun (r : Int32) (u : (Nat → Int32) × (Nat → Nat → Int32)) => mV u.1 ∧ mA u.2 ∧ mX [0, 20, 21, 22, 23, 24, 25, 26, 28, 43, 45, 47, 48, 49, 50, 51, 52, 53, 54, 55, 56, 57, 58, 59, 60] v fa u.1 u.2) (fun u t => va_P (dC, dI) vwCl (mW g0 pq cp u.1 u.2) t.heap ∧ va_K (dC, dI) vwCl (mT cp) t ∧ va_D A (mW g0 pq cp u.1 u.2)) A) #[Value.ref g0, Value.int x1, Value.int x2, Value.int x3, Value.int x4, Value.int x5] s 0 0 A) (F0 m 132 ls []) := by
                intro y_30 z_31 fz_32 H locs ls hy_30 hVz_31 hAz_31 hRz_31 hP hD hS g_33 hl
                refine lv_iconst (v := 0) hx hb dX11_sign__132 (by decide) ?_
                refine lv_istore (lv' := [(7, .int 0), (6, .int y_30), (0, .ref g0), (1, .int x1), (2, .int x2), (3, .int x3), (4, .int x4), (5, .int x5)]) hx hb dX11_sign__133 hl (by decide) rfl (fun ls hl => ?_)
                have cut_34 : ∀ (n : Nat) (y_35 : Int32) (y_36 : Int32) (z_37 : Nat → Int32) (fz_38 : Nat → Nat → Int32) (H : Heap) (locs : List Loc) (ls : Array Slot), 60 - y_36.toInt ≤ (n : Int) → (0 ≤ y_35.toInt ∧ y_35.toInt ≤ 1) → (0 ≤ y_36.toInt ∧ y_36.toInt ≤ 60) → mV z_37 → mA fz_38 → mX [0, 20, 21, 22, 23, 24, 25, 26, 28, 43, 45, 47, 48, 49, 50, 51, 52, 53, 54, 55, 56, 57, 58, 59, 60] v fa z_37 fz_38 → va_P (dC, dI) vwCl (mW g0 pq cp z_37 fz_38) H → va_D A (mW g0 pq cp z_37 fz_38) → va_S A s.heap H locs → (z_37 43).toInt = (z_31 43).toInt → lv_has ls 8 [(6, .int y_35), (7, .int y_36), (0, .ref g0), (1, .int x1), (2, .int x2), (3, .int x3), (4, .int x4), (5, .int x5)] → W p l e (headSpec wsX11_sign_ { frames := 21, cells := 0, slots := 0, locals := 486 }).room s m #[Value.ref g0, Value.int x1, Value.int x2, Value.int x3, Value.int x4, Value.int x5] below meth c H locs 0 0 (MQ below (va_Qi (fun (r : Int32) (u : (Nat → Int32) × (Nat → Nat → Int32)) => mV u.1 ∧ mA u.2 ∧ mX [0, 20, 21, 22, 23, 24, 25, 26, 28, 43, 45, 47, 48, 49, 50, 51, 52, 53, 54, 55, 56, 57, 58, 59, 60] v fa u.1 u.2) (fun u t => va_P (dC, dI) vwCl (mW g0 pq cp u.1 u.2) t.heap ∧ va_K (dC, dI) vwCl (mT cp) t ∧ va_D A (mW g0 pq cp u.1 u.2)) A) #[Value.ref g0, Value.int x1, Value.int x2, Value.int x3, Value.int x4, Value.int x5] s 0 0 A) (F0 m 135 ls []) := by
                  intro n
                  induction n using Nat.strongRecOn with
                  | ind n ih =>
                    intro y_35 y_36 z_37 fz_38 H locs ls hm hy_35 hy_36 hVz_37 hAz_37 hRz_37 hP hD hS g_39 hl
                    refine lv_iload hx hb dX11_sign__135 (lv_at hl 1 rfl) ?_
                    refine lv_aload_n hx hb dX11_sign__137 rfl (lv_at hl 2 rfl) ?_
                    refine va_get (D := (dC, dI)) (ci := 11) (v := .int (z_37 43)) (C := RX11) (T := TX11) (N := 63) hx hb hts in_wsX11_sign__X11 hown hK hP 0 rfl rfl 43 (by decide) (hts (.fieldLink RX11 168 "ShipOfficeModel" "agreements" "I") iw_X11_sign__1) (fun _ h9 => h9) rfl dX11_sign__138 ?_
                    refine lv_topi (fun x_40 ex_40 => ?_)
                    have hx_40 : 0 ≤ x_40.toInt ∧ x_40.toInt ≤ 60 := iv_of ex_40 (hVz_37 43)
                    have gx_40 : x_40.toInt = (z_37 43).toInt := iv_to ex_40
                    clear ex_40
                    refine lv_icmp_ge (tgt := 182) hx hb dX11_sign__141 (by decide) (fun c_41 => ?_) (fun c_41 => ?_)
                    · have dc_41 := c_le (a := x_40.toInt) (b := y_36.toInt) rfl rfl c_41
                      refine lv_iload hx hb dX11_sign__182 (lv_at hl 0 rfl) ?_
                      refine lv_if_ne (tgt := 194) hx hb dX11_sign__184 (by decide) (fun c_42 => ?_) (fun c_42 => ?_)
                      · have dc_42 := c_ne (a := y_35.toInt) (b := 0) rfl (by decide) c_42
                        refine lv_aload_n hx hb dX11_sign__194 rfl (lv_at hl 2 rfl) ?_
                        have hFc := va_free (wc := (mW g0 pq cp z_37 fz_38)) hD hS hA (List.range 48) rfl
                        refine va_callv (va_runV (As := []) (rest := []) ⟨hx, hb, hml, hown, hts⟩ (c_X11_bare l dC dI H.size g0 pq cp z_37 fz_38 hVz_37 hAz_37) (cwV 0 hts gX11_sign__X11_bare rfl rfl rfl (by decide +kernel) ⟨(Nat.le_of_ble_eq_true rfl), (Nat.le_of_ble_eq_true rfl)⟩) (pr_V (r := (RX11, TX11, 63)) hP hK hD 0 11 rfl rfl) rfl rfl hl.1 rfl (lv_room (Nat.le_of_ble_eq_true rfl)) dX11_sign__195 ⟨(Nat.le_of_ble_eq_true rfl), (Nat.le_of_ble_eq_true rfl)⟩) hS (fun q _ h => hFc q h) hFc (fun u t H locs ht hvm w_43 hB hz1 hk1 hS => ?_)
                        obtain ⟨v_45, fa_46⟩ := u
                        obtain ⟨hP1, hK1, hD1⟩ := hB
                        rw [ht] at hP1
                        have hP : va_P (dC, dI) vwCl (mW g0 pq cp v_45 fa_46) H := hP1
                        have hD : va_D A (mW g0 pq cp v_45 fa_46) := hD1.weaken (fun _ _ _ h => hFc _ h)
                        clear hP1 hK1 hD1 hk1 hz1 hvm ht hFc
                        obtain ⟨hV_47, hA_48, hR_49⟩ := w_43
                        dsimp only at hV_47 hA_48 hR_49 
                        have g_50 : (v_45 43).toInt = (z_37 43).toInt := congrArg Int32.toInt (hR_49.1 43 rfl)
                        have R_51 : mX [0, 20, 21, 22, 23, 24, 25, 26, 28, 43, 45, 47, 48, 49, 50, 51, 52, 53, 54, 55, 56, 57, 58, 59, 60] v fa v_45 fa_46 := mX.st hRz_37 (mX.scr hR_49) (by decide)
                        refine lv_aload_n hx hb dX11_sign__198 rfl (lv_at hl 2 rfl) ?_
                        refine va_get (D := (dC, dI)) (ci := 11) (v := .ref (pq 45)) (C := RX11) (T := TX11) (N := 63) hx hb hts in_wsX11_sign__X11 hown hK hP 0 rfl rfl 45 (by decide) (hts (.fieldLink RX11 128 "ShipOfficeModel" "letters" "[I") iw_X11_sign__2) (fun _ h9 => h9) rfl dX11_sign__199 ?_
                        refine lv_bipush (v := 119) hx hb dX11_sign__202 (by decide) ?_
                        refine lv_iload_n hx hb dX11_sign__204 rfl (lv_at hl 5 rfl) ?_
                        refine va_iast hx hb hK hP hD hS 40 39 rfl rfl (by unfold vp_in; decide) dX11_sign__205 (fun H locs hP hD hS => ?_)
                        have hP : va_P (dC, dI) vwCl (mW g0 pq cp v_45 (upF fa_46 45 (119 : Int32).toNatClampNeg x3)) H := hP
                        have hD : va_D A (mW g0 pq cp v_45 (upF fa_46 45 (119 : Int32).toNatClampNeg x3)) := hD
                        obtain ⟨fz_52, efz_52⟩ : ∃ zq, zq = (upF fa_46 45 (119 : Int32).toNatClampNeg x3) := ⟨_, rfl⟩
                        rw [← efz_52] at hP hD
                        have hAfz_52 : mA fz_52 := by rw [efz_52]; exact mA_upF (lo := -2147483648) (hi := 2147483647) hA_48 rfl rfl (iv_all _)
                        have hRfz_52 : mX [0, 20, 21, 22, 23, 24, 25, 26, 28, 43, 45, 47, 48, 49, 50, 51, 52, 53, 54, 55, 56, 57, 58, 59, 60] v fa v_45 fz_52 := by rw [efz_52]; exact mX.uF R_51 (by decide)
                        refine lv_aload_n hx hb dX11_sign__206 rfl (lv_at hl 2 rfl) ?_
                        refine va_get (D := (dC, dI)) (ci := 11) (v := .ref (pq 45)) (C := RX11) (T := TX11) (N := 63) hx hb hts in_wsX11_sign__X11 hown hK hP 0 rfl rfl 45 (by decide) (hts (.fieldLink RX11 128 "ShipOfficeModel" "letters" "[I") iw_X11_sign__2) (fun _ h9 => h9) rfl dX11_sign__207 ?_
                        refine lv_bipush (v := 114) hx hb dX11_sign__210 (by decide) ?_
                        refine lv_iload hx hb dX11_sign__212 (lv_at hl 6 rfl) ?_
                        refine va_iast hx hb hK hP hD hS 40 39 rfl rfl (by unfold vp_in; decide) dX11_sign__214 (fun H locs hP hD hS => ?_)
                        have hP : va_P (dC, dI) vwCl (mW g0 pq cp v_45 (upF fz_52 45 (114 : Int32).toNatClampNeg x4)) H := hP
                        have hD : va_D A (mW g0 pq cp v_45 (upF fz_52 45 (114 : Int32).toNatClampNeg x4)) := hD
                        obtain ⟨fz_53, efz_53⟩ : ∃ zq, zq = (upF fz_52 45 (114 : Int32).toNatClampNeg x4) := ⟨_, rfl⟩
                        rw [← efz_53] at hP hD
                        have hAfz_53 : mA fz_53 := by rw [efz_53]; exact mA_upF (lo := -2147483648) (hi := 2147483647) hAfz_52 rfl rfl (iv_all _)
                        have hRfz_53 : mX [0, 20, 21, 22, 23, 24, 25, 26, 28, 43, 45, 47, 48, 49, 50, 51, 52, 53, 54, 55, 56, 57, 58, 59, 60] v fa v_45 fz_53 := by rw [efz_53]; exact mX.uF hRfz_52 (by decide)
                        refine lv_aload_n hx hb dX11_sign__215 rfl (lv_at hl 2 rfl) ?_
                        refine va_get (D := (dC, dI)) (ci := 11) (v := .ref (pq 45)) (C := RX11) (T := TX11) (N := 63) hx hb hts in_wsX11_sign__X11 hown hK hP 0 rfl rfl 45 (by decide) (hts (.fieldLink RX11 128 "ShipOfficeModel" "letters" "[I") iw_X11_sign__2) (fun _ h9 => h9) rfl dX11_sign__216 ?_
                        refine lv_bipush (v := 97) hx hb dX11_sign__219 (by decide) ?_
                        refine lv_aload_n hx hb dX11_sign__221 rfl (lv_at hl 2 rfl) ?_
                        refine va_get (D := (dC, dI)) (ci := 11) (v := .int (v_45 38)) (C := RX11) (T := TX11) (N := 63) hx hb hts in_wsX11_sign__X11 hown hK hP 0 rfl rfl 38 (by decide) (hts (.fieldLink RX11 171 "ShipOfficeModel" "now" "I") iw_X11_sign__3) (fun _ h9 => h9) rfl dX11_sign__222 ?_
                        refine lv_topi (fun x_54 ex_54 => ?_)
                        have hx_54 : 0 ≤ x_54.toInt ∧ x_54.toInt ≤ 3000 := iv_of ex_54 (hV_47 38)
                        clear ex_54
                        refine lv_aload_n hx hb dX11_sign__225 rfl (lv_at hl 2 rfl) ?_
                        refine va_get (D := (dC, dI)) (ci := 11) (v := .ref (pq 4)) (C := RX11) (T := TX11) (N := 63) hx hb hts in_wsX11_sign__X11 hown hK hP 0 rfl rfl 4 (by decide) (hts (.fieldLink RX11 22 "ShipOfficeModel" "born" "[I") iw_X11_sign__4) (fun _ h9 => h9) rfl dX11_sign__226 ?_
                        refine lv_iload_n hx hb dX11_sign__229 rfl (lv_at hl 3 rfl) ?_
                        refine va_iald hx hb hK hP 5 4 rfl rfl (vp_in_iff.mpr (by omega)) dX11_sign__230 ?_
                        refine lv_topi (fun x_55 ex_55 => ?_)
                        clear ex_55
                        refine lv_isub hx hb dX11_sign__231 ?_
                        refine lv_topi (fun x_56 ex_56 => ?_)
                        clear ex_56
                        refine lv_sipush (v := 365) hx hb dX11_sign__232 (by decide) ?_
                        refine lv_idiv hx hb dX11_sign__235 (by decide) ?_
                        refine lv_topi (fun x_57 ex_57 => ?_)
                        clear ex_57
                        refine va_iast hx hb hK hP hD hS 40 39 rfl rfl (by unfold vp_in; decide) dX11_sign__236 (fun H locs hP hD hS => ?_)
                        have hP : va_P (dC, dI) vwCl (mW g0 pq cp v_45 (upF fz_53 45 (97 : Int32).toNatClampNeg x_57)) H := hP
                        have hD : va_D A (mW g0 pq cp v_45 (upF fz_53 45 (97 : Int32).toNatClampNeg x_57)) := hD
                        obtain ⟨fz_58, efz_58⟩ : ∃ zq, zq = (upF fz_53 45 (97 : Int32).toNatClampNeg x_57) := ⟨_, rfl⟩
                        rw [← efz_58] at hP hD
                        have hAfz_58 : mA fz_58 := by rw [efz_58]; exact mA_upF (lo := -2147483648) (hi := 2147483647) hAfz_53 rfl rfl (iv_all _)
                        have hRfz_58 : mX [0, 20, 21, 22, 23, 24, 25, 26, 28, 43, 45, 47, 48, 49, 50, 51, 52, 53, 54, 55, 56, 57, 58, 59, 60] v fa v_45 fz_58 := by rw [efz_58]; exact mX.uF hRfz_53 (by decide)
                        refine lv_aload_n hx hb dX11_sign__237 rfl (lv_at hl 2 rfl) ?_
                        refine lv_iconst (v := 0) hx hb dX11_sign__238 (by decide) ?_
                        refine lv_aload_n hx hb dX11_sign__239 rfl (lv_at hl 2 rfl) ?_
                        refine va_get (D := (dC, dI)) (ci := 11) (v := .int (v_45 38)) (C := RX11) (T := TX11) (N := 63) hx hb hts in_wsX11_sign__X11 hown hK hP 0 rfl rfl 38 (by decide) (hts (.fieldLink RX11 171 "ShipOfficeModel" "now" "I") iw_X11_sign__3) (fun _ h9 => h9) rfl dX11_sign__240 ?_
                        refine lv_topi (fun x_59 ex_59 => ?_)
                        have hx_59 : 0 ≤ x_59.toInt ∧ x_59.toInt ≤ 3000 := iv_of ex_59 (hV_47 38)
                        clear ex_59
                        have hFc := va_free (wc := (mW g0 pq cp v_45 fz_58)) hD hS hA (List.range 48) rfl
                        refine va_calli (va_runV (As := [.int 0, .int x_59]) (rest := []) ⟨hx, hb, hml, hown, hts⟩ (c_X11_worth l dC dI H.size g0 pq cp v_45 fz_58 hV_47 hAfz_58 0 x_59) (cwV 2 hts gX11_sign__X11_worth rfl rfl rfl (by decide +kernel) ⟨(Nat.le_of_ble_eq_true rfl), (Nat.le_of_ble_eq_true rfl)⟩) (pr_V (r := (RX11, TX11, 63)) hP hK hD 0 11 rfl rfl) rfl rfl hl.1 rfl (lv_room (Nat.le_of_ble_eq_true rfl)) dX11_sign__243 ⟨(Nat.le_of_ble_eq_true rfl), (Nat.le_of_ble_eq_true rfl)⟩) hS (fun q _ h => hFc q h) hFc (fun r_61 u t H locs ht hvm w_60 hB hz1 hk1 hS => ?_)
                        obtain ⟨v_62, fa_63⟩ := u
                        obtain ⟨hP1, hK1, hD1⟩ := hB
                        rw [ht] at hP1
                        have hP : va_P (dC, dI) vwCl (mW g0 pq cp v_62 fa_63) H := hP1
                        have hD : va_D A (mW g0 pq cp v_62 fa_63) := hD1.weaken (fun _ _ _ h => hFc _ h)
                        clear hP1 hK1 hD1 hk1 hz1 hvm ht hFc
                        obtain ⟨hV_64, hA_65, hR_66⟩ := w_60
                        dsimp only at hV_64 hA_65 hR_66 
                        have g_67 : (v_62 43).toInt = (v_45 43).toInt := congrArg Int32.toInt (hR_66.1 43 rfl)
                        have R_68 : mX [0, 20, 21, 22, 23, 24, 25, 26, 28, 43, 45, 47, 48, 49, 50, 51, 52, 53, 54, 55, 56, 57, 58, 59, 60] v fa v_62 fa_63 := mX.st hRfz_58 (mX.scr hR_66) (by decide)
                        refine lv_if_gt (tgt := 256) hx hb dX11_sign__246 (by decide) (fun c_69 => ?_) (fun c_69 => ?_)
                        · have dc_69 := c_lt (a := 0) (b := r_61.toInt) (by decide) rfl c_69
                          refine lv_aload_n hx hb dX11_sign__256 rfl (lv_at hl 2 rfl) ?_
                          refine va_get (D := (dC, dI)) (ci := 11) (v := .int (v_62 43)) (C := RX11) (T := TX11) (N := 63) hx hb hts in_wsX11_sign__X11 hown hK hP 0 rfl rfl 43 (by decide) (hts (.fieldLink RX11 168 "ShipOfficeModel" "agreements" "I") iw_X11_sign__1) (fun _ h9 => h9) rfl dX11_sign__257 ?_
                          refine lv_topi (fun x_70 ex_70 => ?_)
                          have hx_70 : 0 ≤ x_70.toInt ∧ x_70.toInt ≤ 60 := iv_of ex_70 (hV_64 43)
                          have gx_70 : x_70.toInt = (v_62 43).toInt := iv_to ex_70
                          clear ex_70
                          refine lv_istore (lv' := [(7, .int x_70), (6, .int y_35), (0, .ref g0), (1, .int x1), (2, .int x2), (3, .int x3), (4, .int x4), (5, .int x5)]) hx hb dX11_sign__260 hl (by decide) rfl (fun ls hl => ?_)
                          refine lv_aload_n hx hb dX11_sign__262 rfl (lv_at hl 2 rfl) ?_
                          refine lv_dup hx hb dX11_sign__263 rfl ?_
                          refine va_get (D := (dC, dI)) (ci := 11) (v := .int (v_62 43)) (C := RX11) (T := TX11) (N := 63) hx hb hts in_wsX11_sign__X11 hown hK hP 0 rfl rfl 43 (by decide) (hts (.fieldLink RX11 168 "ShipOfficeModel" "agreements" "I") iw_X11_sign__1) (fun _ h9 => h9) rfl dX11_sign__264 ?_
                          refine lv_topi (fun x_71 ex_71 => ?_)
                          have hx_71 : 0 ≤ x_71.toInt ∧ x_71.toInt ≤ 60 := iv_of ex_71 (hV_64 43)
                          have gx_71 : x_71.toInt = (v_62 43).toInt := iv_to ex_71
                          clear ex_71
                          refine lv_iconst (v := 1) hx hb dX11_sign__267 (by decide) ?_
                          refine lv_iadd hx hb dX11_sign__268 ?_
                          refine lv_topi (fun x_72 ex_72 => ?_)
                          have hx_72 : x_72.toInt = x_71.toInt + 1 := (iv_to ex_72).trans (ad_i rfl (by decide) (by omega) (by omega))
                          clear ex_72
                          refine va_put (D := (dC, dI)) (ci := 11) (v := .int x_72) (ty := .int) (C := RX11) (T := TX11) (N := 63) hx hb hts in_wsX11_sign__X11 tyX11 tyX11_ok nmX11 hown hK hP hD hS 0 rfl rfl 43 (by decide) (hts (.fieldLink RX11 168 "ShipOfficeModel" "agreements" "I") iw_X11_sign__1) (fun _ h9 => h9) rfl (by decide +kernel) rfl rfl (Nat.le_of_ble_eq_true rfl) dX11_sign__269 (fun H locs hP hD hS => ?_)
                          have hP : va_P (dC, dI) vwCl (mW g0 pq cp (upd v_62 43 x_72) fa_63) H := hP
                          have hD : va_D A (mW g0 pq cp (upd v_62 43 x_72) fa_63) := hD
                          obtain ⟨z_73, ez_73⟩ : ∃ zq, zq = (upd v_62 43 x_72) := ⟨_, rfl⟩
                          rw [← ez_73] at hP hD
                          have hVz_73 : mV z_73 := by rw [ez_73]; exact mV_upd (lo := 0) (hi := 60) hV_64 rfl rfl (by omega)
                          have hRz_73 : mX [0, 20, 21, 22, 23, 24, 25, 26, 28, 43, 45, 47, 48, 49, 50, 51, 52, 53, 54, 55, 56, 57, 58, 59, 60] v fa z_73 fa_63 := by rw [ez_73]; exact mX.up R_68 (by decide)
                          have g_74 : (z_73 43).toInt = x_72.toInt := by rw [ez_73, show upd v_62 43 x_72 43 = x_72 from if_pos rfl]
                          refine lv_aload_n hx hb dX11_sign__272 rfl (lv_at hl 2 rfl) ?_
                          refine va_get (D := (dC, dI)) (ci := 11) (v := .ref (pq 20)) (C := RX11) (T := TX11) (N := 63) hx hb hts in_wsX11_sign__X11 hown hK hP 0 rfl rfl 20 (by decide) (hts (.fieldLink RX11 70 "ShipOfficeModel" "man" "[I") iw_X11_sign__5) (fun _ h9 => h9) rfl dX11_sign__273 ?_
                          refine lv_iload hx hb dX11_sign__276 (lv_at hl 0 rfl) ?_
                          refine lv_iload_n hx hb dX11_sign__278 rfl (lv_at hl 3 rfl) ?_
                          refine va_iast hx hb hK hP hD hS 21 20 rfl rfl (vp_in_iff.mpr (by omega)) dX11_sign__279 (fun H locs hP hD hS => ?_)
                          have hP : va_P (dC, dI) vwCl (mW g0 pq cp z_73 (upF fa_63 20 (x_70 : Int32).toNatClampNeg x1)) H := hP
                          have hD : va_D A (mW g0 pq cp z_73 (upF fa_63 20 (x_70 : Int32).toNatClampNeg x1)) := hD
                          obtain ⟨fz_75, efz_75⟩ : ∃ zq, zq = (upF fa_63 20 (x_70 : Int32).toNatClampNeg x1) := ⟨_, rfl⟩
                          rw [← efz_75] at hP hD
                          have hAfz_75 : mA fz_75 := by rw [efz_75]; exact mA_upF (lo := 0) (hi := 39) hA_65 rfl rfl (by omega)
                          have hRfz_75 : mX [0, 20, 21, 22, 23, 24, 25, 26, 28, 43, 45, 47, 48, 49, 50, 51, 52, 53, 54, 55, 56, 57, 58, 59, 60] v fa z_73 fz_75 := by rw [efz_75]; exact mX.uF hRz_73 (by decide)
                          refine lv_aload_n hx hb dX11_sign__280 rfl (lv_at hl 2 rfl) ?_
                          refine va_get (D := (dC, dI)) (ci := 11) (v := .ref (pq 21)) (C := RX11) (T := TX11) (N := 63) hx hb hts in_wsX11_sign__X11 hown hK hP 0 rfl rfl 21 (by decide) (hts (.fieldLink RX11 73 "ShipOfficeModel" "voyage" "[I") iw_X11_sign__6) (fun _ h9 => h9) rfl dX11_sign__281 ?_
                          refine lv_iload hx hb dX11_sign__284 (lv_at hl 0 rfl) ?_
                          refine lv_iload_n hx hb dX11_sign__286 rfl (lv_at hl 4 rfl) ?_
                          refine va_iast hx hb hK hP hD hS 22 21 rfl rfl (vp_in_iff.mpr (by omega)) dX11_sign__287 (fun H locs hP hD hS => ?_)
                          have hP : va_P (dC, dI) vwCl (mW g0 pq cp z_73 (upF fz_75 21 (x_70 : Int32).toNatClampNeg x2)) H := hP
                          have hD : va_D A (mW g0 pq cp z_73 (upF fz_75 21 (x_70 : Int32).toNatClampNeg x2)) := hD
                          obtain ⟨fz_76, efz_76⟩ : ∃ zq, zq = (upF fz_75 21 (x_70 : Int32).toNatClampNeg x2) := ⟨_, rfl⟩
                          rw [← efz_76] at hP hD
                          have hAfz_76 : mA fz_76 := by rw [efz_76]; exact mA_upF (lo := 0) (hi := 19) hAfz_75 rfl rfl (by omega)
                          have hRfz_76 : mX [0, 20, 21, 22, 23, 24, 25, 26, 28, 43, 45, 47, 48, 49, 50, 51, 52, 53, 54, 55, 56, 57, 58, 59, 60] v fa z_73 fz_76 := by rw [efz_76]; exact mX.uF hRfz_75 (by decide)
                          refine lv_aload_n hx hb dX11_sign__288 rfl (lv_at hl 2 rfl) ?_
                          refine va_get (D := (dC, dI)) (ci := 11) (v := .ref (pq 22)) (C := RX11) (T := TX11) (N := 63) hx hb hts in_wsX11_sign__X11 hown hK hP 0 rfl rfl 22 (by decide) (hts (.fieldLink RX11 76 "ShipOfficeModel" "wage" "[I") iw_X11_sign__7) (fun _ h9 => h9) rfl dX11_sign__289 ?_
                          refine lv_iload hx hb dX11_sign__292 (lv_at hl 0 rfl) ?_
                          refine lv_iload_n hx hb dX11_sign__294 rfl (lv_at hl 5 rfl) ?_
                          refine va_iast hx hb hK hP hD hS 23 22 rfl rfl (vp_in_iff.mpr (by omega)) dX11_sign__295 (fun H locs hP hD hS => ?_)
                          have hP : va_P (dC, dI) vwCl (mW g0 pq cp z_73 (upF fz_76 22 (x_70 : Int32).toNatClampNeg x3)) H := hP
                          have hD : va_D A (mW g0 pq cp z_73 (upF fz_76 22 (x_70 : Int32).toNatClampNeg x3)) := hD
                          obtain ⟨fz_77, efz_77⟩ : ∃ zq, zq = (upF fz_76 22 (x_70 : Int32).toNatClampNeg x3) := ⟨_, rfl⟩
                          rw [← efz_77] at hP hD
                          have hAfz_77 : mA fz_77 := by rw [efz_77]; exact mA_upF (lo := -2147483648) (hi := 2147483647) hAfz_76 rfl rfl (iv_all _)
                          have hRfz_77 : mX [0, 20, 21, 22, 23, 24, 25, 26, 28, 43, 45, 47, 48, 49, 50, 51, 52, 53, 54, 55, 56, 57, 58, 59, 60] v fa z_73 fz_77 := by rw [efz_77]; exact mX.uF hRfz_76 (by decide)
                          refine lv_aload_n hx hb dX11_sign__296 rfl (lv_at hl 2 rfl) ?_
                          refine va_get (D := (dC, dI)) (ci := 11) (v := .ref (pq 23)) (C := RX11) (T := TX11) (N := 63) hx hb hts in_wsX11_sign__X11 hown hK hP 0 rfl rfl 23 (by decide) (hts (.fieldLink RX11 79 "ShipOfficeModel" "rank" "[I") iw_X11_sign__8) (fun _ h9 => h9) rfl dX11_sign__297 ?_
                          refine lv_iload hx hb dX11_sign__300 (lv_at hl 0 rfl) ?_
                          refine lv_iload hx hb dX11_sign__302 (lv_at hl 6 rfl) ?_
                          refine va_iast hx hb hK hP hD hS 24 23 rfl rfl (vp_in_iff.mpr (by omega)) dX11_sign__304 (fun H locs hP hD hS => ?_)
                          have hP : va_P (dC, dI) vwCl (mW g0 pq cp z_73 (upF fz_77 23 (x_70 : Int32).toNatClampNeg x4)) H := hP
                          have hD : va_D A (mW g0 pq cp z_73 (upF fz_77 23 (x_70 : Int32).toNatClampNeg x4)) := hD
                          obtain ⟨fz_78, efz_78⟩ : ∃ zq, zq = (upF fz_77 23 (x_70 : Int32).toNatClampNeg x4) := ⟨_, rfl⟩
                          rw [← efz_78] at hP hD
                          have hAfz_78 : mA fz_78 := by rw [efz_78]; exact mA_upF (lo := -2147483648) (hi := 2147483647) hAfz_77 rfl rfl (iv_all _)
                          have hRfz_78 : mX [0, 20, 21, 22, 23, 24, 25, 26, 28, 43, 45, 47, 48, 49, 50, 51, 52, 53, 54, 55, 56, 57, 58, 59, 60] v fa z_73 fz_78 := by rw [efz_78]; exact mX.uF hRfz_77 (by decide)
                          refine lv_aload_n hx hb dX11_sign__305 rfl (lv_at hl 2 rfl) ?_
                          refine va_get (D := (dC, dI)) (ci := 11) (v := .ref (pq 24)) (C := RX11) (T := TX11) (N := 63) hx hb hts in_wsX11_sign__X11 hown hK hP 0 rfl rfl 24 (by decide) (hts (.fieldLink RX11 82 "ShipOfficeModel" "paper" "[I") iw_X11_sign__9) (fun _ h9 => h9) rfl dX11_sign__306 ?_
                          refine lv_iload hx hb dX11_sign__309 (lv_at hl 0 rfl) ?_
                          refine lv_iload hx hb dX11_sign__311 (lv_at hl 7 rfl) ?_
                          refine va_iast hx hb hK hP hD hS 25 24 rfl rfl (vp_in_iff.mpr (by omega)) dX11_sign__313 (fun H locs hP hD hS => ?_)
                          have hP : va_P (dC, dI) vwCl (mW g0 pq cp z_73 (upF fz_78 24 (x_70 : Int32).toNatClampNeg x5)) H := hP
                          have hD : va_D A (mW g0 pq cp z_73 (upF fz_78 24 (x_70 : Int32).toNatClampNeg x5)) := hD
                          obtain ⟨fz_79, efz_79⟩ : ∃ zq, zq = (upF fz_78 24 (x_70 : Int32).toNatClampNeg x5) := ⟨_, rfl⟩
                          rw [← efz_79] at hP hD
                          have hAfz_79 : mA fz_79 := by rw [efz_79]; exact mA_upF (lo := -1) (hi := 59) hAfz_78 rfl rfl (by omega)
                          have hRfz_79 : mX [0, 20, 21, 22, 23, 24, 25, 26, 28, 43, 45, 47, 48, 49, 50, 51, 52, 53, 54, 55, 56, 57, 58, 59, 60] v fa z_73 fz_79 := by rw [efz_79]; exact mX.uF hRfz_78 (by decide)
                          refine lv_aload_n hx hb dX11_sign__314 rfl (lv_at hl 2 rfl) ?_
                          refine va_get (D := (dC, dI)) (ci := 11) (v := .ref (pq 25)) (C := RX11) (T := TX11) (N := 63) hx hb hts in_wsX11_sign__X11 hown hK hP 0 rfl rfl 25 (by decide) (hts (.fieldLink RX11 85 "ShipOfficeModel" "signed" "[I") iw_X11_sign__10) (fun _ h9 => h9) rfl dX11_sign__315 ?_
                          refine lv_iload hx hb dX11_sign__318 (lv_at hl 0 rfl) ?_
                          refine lv_aload_n hx hb dX11_sign__320 rfl (lv_at hl 2 rfl) ?_
                          refine va_get (D := (dC, dI)) (ci := 11) (v := .int (z_73 38)) (C := RX11) (T := TX11) (N := 63) hx hb hts in_wsX11_sign__X11 hown hK hP 0 rfl rfl 38 (by decide) (hts (.fieldLink RX11 171 "ShipOfficeModel" "now" "I") iw_X11_sign__3) (fun _ h9 => h9) rfl dX11_sign__321 ?_
                          refine lv_topi (fun x_80 ex_80 => ?_)
                          have hx_80 : 0 ≤ x_80.toInt ∧ x_80.toInt ≤ 3000 := iv_of ex_80 (hVz_73 38)
                          clear ex_80
                          refine va_iast hx hb hK hP hD hS 26 25 rfl rfl (vp_in_iff.mpr (by omega)) dX11_sign__324 (fun H locs hP hD hS => ?_)
                          have hP : va_P (dC, dI) vwCl (mW g0 pq cp z_73 (upF fz_79 25 (x_70 : Int32).toNatClampNeg x_80)) H := hP
                          have hD : va_D A (mW g0 pq cp z_73 (upF fz_79 25 (x_70 : Int32).toNatClampNeg x_80)) := hD
                          obtain ⟨fz_81, efz_81⟩ : ∃ zq, zq = (upF fz_79 25 (x_70 : Int32).toNatClampNeg x_80) := ⟨_, rfl⟩
                          rw [← efz_81] at hP hD
                          have hAfz_81 : mA fz_81 := by rw [efz_81]; exact mA_upF (lo := 0) (hi := 3000) hAfz_79 rfl rfl (by omega)
                          have hRfz_81 : mX [0, 20, 21, 22, 23, 24, 25, 26, 28, 43, 45, 47, 48, 49, 50, 51, 52, 53, 54, 55, 56, 57, 58, 59, 60] v fa z_73 fz_81 := by rw [efz_81]; exact mX.uF hRfz_79 (by decide)
                          refine lv_aload_n hx hb dX11_sign__325 rfl (lv_at hl 2 rfl) ?_
                          refine va_get (D := (dC, dI)) (ci := 11) (v := .ref (pq 26)) (C := RX11) (T := TX11) (N := 63) hx hb hts in_wsX11_sign__X11 hown hK hP 0 rfl rfl 26 (by decide) (hts (.fieldLink RX11 88 "ShipOfficeModel" "offOn" "[I") iw_X11_sign__11) (fun _ h9 => h9) rfl dX11_sign__326 ?_
                          refine lv_iload hx hb dX11_sign__329 (lv_at hl 0 rfl) ?_
                          refine lv_iconst (v := (-1)) hx hb dX11_sign__331 (by decide) ?_
                          refine va_iast hx hb hK hP hD hS 27 26 rfl rfl (vp_in_iff.mpr (by omega)) dX11_sign__332 (fun H locs hP hD hS => ?_)
                          have hP : va_P (dC, dI) vwCl (mW g0 pq cp z_73 (upF fz_81 26 (x_70 : Int32).toNatClampNeg (-1))) H := hP
                          have hD : va_D A (mW g0 pq cp z_73 (upF fz_81 26 (x_70 : Int32).toNatClampNeg (-1))) := hD
                          obtain ⟨fz_82, efz_82⟩ : ∃ zq, zq = (upF fz_81 26 (x_70 : Int32).toNatClampNeg (-1)) := ⟨_, rfl⟩
                          rw [← efz_82] at hP hD
                          have hAfz_82 : mA fz_82 := by rw [efz_82]; exact mA_upF (lo := -2147483648) (hi := 2147483647) hAfz_81 rfl rfl (iv_all _)
                          have hRfz_82 : mX [0, 20, 21, 22, 23, 24, 25, 26, 28, 43, 45, 47, 48, 49, 50, 51, 52, 53, 54, 55, 56, 57, 58, 59, 60] v fa z_73 fz_82 := by rw [efz_82]; exact mX.uF hRfz_81 (by decide)
                          refine lv_aload_n hx hb dX11_sign__333 rfl (lv_at hl 2 rfl) ?_
                          refine va_get (D := (dC, dI)) (ci := 11) (v := .ref (pq 28)) (C := RX11) (T := TX11) (N := 63) hx hb hts in_wsX11_sign__X11 hown hK hP 0 rfl rfl 28 (by decide) (hts (.fieldLink RX11 94 "ShipOfficeModel" "given" "[I") iw_X11_sign__12) (fun _ h9 => h9) rfl dX11_sign__334 ?_
                          refine lv_iload hx hb dX11_sign__337 (lv_at hl 0 rfl) ?_
                          refine lv_bipush (v := (-9)) hx hb dX11_sign__339 (by decide) ?_
                          refine va_iast hx hb hK hP hD hS 29 28 rfl rfl (vp_in_iff.mpr (by omega)) dX11_sign__341 (fun H locs hP hD hS => ?_)
                          have hP : va_P (dC, dI) vwCl (mW g0 pq cp z_73 (upF fz_82 28 (x_70 : Int32).toNatClampNeg (-9))) H := hP
                          have hD : va_D A (mW g0 pq cp z_73 (upF fz_82 28 (x_70 : Int32).toNatClampNeg (-9))) := hD
                          obtain ⟨fz_83, efz_83⟩ : ∃ zq, zq = (upF fz_82 28 (x_70 : Int32).toNatClampNeg (-9)) := ⟨_, rfl⟩
                          rw [← efz_83] at hP hD
                          have hAfz_83 : mA fz_83 := by rw [efz_83]; exact mA_upF (lo := -2147483648) (hi := 2147483647) hAfz_82 rfl rfl (iv_all _)
                          have hRfz_83 : mX [0, 20, 21, 22, 23, 24, 25, 26, 28, 43, 45, 47, 48, 49, 50, 51, 52, 53, 54, 55, 56, 57, 58, 59, 60] v fa z_73 fz_83 := by rw [efz_83]; exact mX.uF hRfz_82 (by decide)
                          refine lv_iload hx hb dX11_sign__342 (lv_at hl 0 rfl) ?_
                          exact W.iret (v := x_70) hx hb hr (fun t ht hW => ⟨⟨x_70, (z_73, fz_83), rfl, ⟨hVz_73, hAfz_83, hRfz_83⟩, ⟨by rw [ht]; exact hP, va_K.moved hW.alike hK, hD⟩⟩, hS.F ht⟩) hS.2.2 dX11_sign__344
                        · have dc_69 := c_nlt (a := 0) (b := r_61.toInt) (by decide) rfl c_69
                          refine lv_aload_n hx hb dX11_sign__249 rfl (lv_at hl 2 rfl) ?_
                          refine lv_bipush (v := (-3)) hx hb dX11_sign__250 (by decide) ?_
                          have hFc := va_free (wc := (mW g0 pq cp v_62 fa_63)) hD hS hA (List.range 48) rfl
                          refine va_calli (va_runV (As := [.int (-3)]) (rest := []) ⟨hx, hb, hml, hown, hts⟩ (c_X11_refuse l dC dI H.size g0 pq cp v_62 fa_63 (-3) (by unfold vp_in; decide)) (cwV 1 hts gX11_sign__X11_refuse rfl rfl rfl (by decide +kernel) ⟨(Nat.le_of_ble_eq_true rfl), (Nat.le_of_ble_eq_true rfl)⟩) (pr_V (r := (RX11, TX11, 63)) hP hK hD 0 11 rfl rfl) rfl rfl hl.1 rfl (lv_room (Nat.le_of_ble_eq_true rfl)) dX11_sign__252 ⟨(Nat.le_of_ble_eq_true rfl), (Nat.le_of_ble_eq_true rfl)⟩) hS (fun q _ h => hFc q h) hFc (fun r_85 u t H locs ht hvm w_84 hB hz1 hk1 hS => ?_)
                          obtain ⟨v_86, fa_87⟩ := u
                          obtain ⟨hP1, hK1, hD1⟩ := hB
                          rw [ht] at hP1
                          have hP : va_P (dC, dI) vwCl (mW g0 pq cp v_86 fa_87) H := hP1
                          have hD : va_D A (mW g0 pq cp v_86 fa_87) := hD1.weaken (fun _ _ _ h => hFc _ h)
                          clear hP1 hK1 hD1 hk1 hz1 hvm ht hFc
                          obtain ⟨rfl, w_84⟩ := w_84
                          have hVv_86 : mV v_86 := sm0_V w_84 hV_64
                          have hAv_86 : mA fa_87 := sm0_A w_84 hA_65
                          have g_88 : (v_86 43).toInt = (v_62 43).toInt := congrArg Int32.toInt (congrFun w_84.1 43)
                          have hRv_86 : mX [0, 20, 21, 22, 23, 24, 25, 26, 28, 43, 45, 47, 48, 49, 50, 51, 52, 53, 54, 55, 56, 57, 58, 59, 60] v fa v_86 fa_87 := mX.st R_68 (mX.s0 w_84) (by decide)
                          exact W.iret (v := (-3)) hx hb hr (fun t ht hW => ⟨⟨(-3), (v_86, fa_87), rfl, ⟨hVv_86, hAv_86, hRv_86⟩, ⟨by rw [ht]; exact hP, va_K.moved hW.alike hK, hD⟩⟩, hS.F ht⟩) hS.2.2 dX11_sign__255
                      · have dc_42 := c_eq (a := y_35.toInt) (b := 0) rfl (by decide) c_42
                        refine lv_aload_n hx hb dX11_sign__187 rfl (lv_at hl 2 rfl) ?_
                        refine lv_bipush (v := (-3)) hx hb dX11_sign__188 (by decide) ?_
                        have hFc := va_free (wc := (mW g0 pq cp z_37 fz_38)) hD hS hA (List.range 48) rfl
                        refine va_calli (va_runV (As := [.int (-3)]) (rest := []) ⟨hx, hb, hml, hown, hts⟩ (c_X11_refuse l dC dI H.size g0 pq cp z_37 fz_38 (-3) (by unfold vp_in; decide)) (cwV 1 hts gX11_sign__X11_refuse rfl rfl rfl (by decide +kernel) ⟨(Nat.le_of_ble_eq_true rfl), (Nat.le_of_ble_eq_true rfl)⟩) (pr_V (r := (RX11, TX11, 63)) hP hK hD 0 11 rfl rfl) rfl rfl hl.1 rfl (lv_room (Nat.le_of_ble_eq_true rfl)) dX11_sign__190 ⟨(Nat.le_of_ble_eq_true rfl), (Nat.le_of_ble_eq_true rfl)⟩) hS (fun q _ h => hFc q h) hFc (fun r_90 u t H locs ht hvm w_89 hB hz1 hk1 hS => ?_)
                        obtain ⟨v_91, fa_92⟩ := u
                        obtain ⟨hP1, hK1, hD1⟩ := hB
                        rw [ht] at hP1
                        have hP : va_P (dC, dI) vwCl (mW g0 pq cp v_91 fa_92) H := hP1
                        have hD : va_D A (mW g0 pq cp v_91 fa_92) := hD1.weaken (fun _ _ _ h => hFc _ h)
                        clear hP1 hK1 hD1 hk1 hz1 hvm ht hFc
                        obtain ⟨rfl, w_89⟩ := w_89
                        have hVv_91 : mV v_91 := sm0_V w_89 hVz_37
                        have hAv_91 : mA fa_92 := sm0_A w_89 hAz_37
                        have g_93 : (v_91 43).toInt = (z_37 43).toInt := congrArg Int32.toInt (congrFun w_89.1 43)
                        have hRv_91 : mX [0, 20, 21, 22, 23, 24, 25, 26, 28, 43, 45, 47, 48, 49, 50, 51, 52, 53, 54, 55, 56, 57, 58, 59, 60] v fa v_91 fa_92 := mX.st hRz_37 (mX.s0 w_89) (by decide)
                        exact W.iret (v := (-3)) hx hb hr (fun t ht hW => ⟨⟨(-3), (v_91, fa_92), rfl, ⟨hVv_91, hAv_91, hRv_91⟩, ⟨by rw [ht]; exact hP, va_K.moved hW.alike hK, hD⟩⟩, hS.F ht⟩) hS.2.2 dX11_sign__193
                    · have dc_41 := c_nle (a := x_40.toInt) (b := y_36.toInt) rfl rfl c_41
                      refine lv_iload hx hb dX11_sign__144 (lv_at hl 0 rfl) ?_
                      refine lv_if_eq (tgt := 173) hx hb dX11_sign__146 (by decide) (fun c_94 => ?_) (fun c_94 => ?_)
                      · have dc_94 := c_eq (a := y_35.toInt) (b := 0) rfl (by decide) c_94
                        refine lv_iconst (v := 0) hx hb dX11_sign__173 (by decide) ?_
                        refine lv_istore (lv' := [(6, .int 0), (7, .int y_36), (0, .ref g0), (1, .int x1), (2, .int x2), (3, .int x3), (4, .int x4), (5, .int x5)]) hx hb dX11_sign__174 hl (by decide) rfl (fun ls hl => ?_)
                        obtain ⟨x_95, ex_95⟩ : ∃ zq : Int32, y_36 + 1 = zq := ⟨_, rfl⟩
                        have hx_95 : x_95.toInt = y_36.toInt + 1 := (iv_to ex_95).symm.trans (ad_i rfl (by decide) (by omega) (by omega))
                        refine lv_iinc (v := x_95) (lv' := [(7, .int x_95), (6, .int 0), (0, .ref g0), (1, .int x1), (2, .int x2), (3, .int x3), (4, .int x4), (5, .int x5)]) hx hb dX11_sign__176 hl (k := 1) rfl ex_95 (by decide) rfl (fun ls hl => ?_)
                        clear ex_95
                        refine lv_goto (tgt := 135) hx hb dX11_sign__179 (by decide) ?_
                        have kc_96 : (0 : Int32).toInt = 0 := by decide
                        exact ih (n - 1) (by omega) 0 x_95 z_37 fz_38 _ _ ls (by omega) (by decide) (by omega) hVz_37 hAz_37 hRz_37 hP hD hS (by omega) (lv_sub hl [1, 0, 2, 3, 4, 5, 6, 7] rfl)
                      · have dc_94 := c_ne (a := y_35.toInt) (b := 0) rfl (by decide) c_94
                        refine lv_aload_n hx hb dX11_sign__149 rfl (lv_at hl 2 rfl) ?_
                        refine va_get (D := (dC, dI)) (ci := 11) (v := .ref (pq 20)) (C := RX11) (T := TX11) (N := 63) hx hb hts in_wsX11_sign__X11 hown hK hP 0 rfl rfl 20 (by decide) (hts (.fieldLink RX11 70 "ShipOfficeModel" "man" "[I") iw_X11_sign__5) (fun _ h9 => h9) rfl dX11_sign__150 ?_
                        refine lv_iload hx hb dX11_sign__153 (lv_at hl 1 rfl) ?_
                        refine va_iald hx hb hK hP 21 20 rfl rfl (vp_in_iff.mpr (by omega)) dX11_sign__155 ?_
                        refine lv_topi (fun x_97 ex_97 => ?_)
                        have hx_97 : 0 ≤ x_97.toInt ∧ x_97.toInt ≤ 39 := iv_of ex_97 (hAz_37 20 _)
                        clear ex_97
                        refine lv_iload_n hx hb dX11_sign__156 rfl (lv_at hl 3 rfl) ?_
                        refine lv_icmp_ne (tgt := 169) hx hb dX11_sign__157 (by decide) (fun c_98 => ?_) (fun c_98 => ?_)
                        · have dc_98 := c_ne (a := x_97.toInt) (b := x1.toInt) rfl rfl c_98
                          refine lv_iconst (v := 1) hx hb dX11_sign__169 (by decide) ?_
                          refine lv_goto (tgt := 174) hx hb dX11_sign__170 (by decide) ?_
                          refine lv_istore (lv' := [(6, .int 1), (7, .int y_36), (0, .ref g0), (1, .int x1), (2, .int x2), (3, .int x3), (4, .int x4), (5, .int x5)]) hx hb dX11_sign__174 hl (by decide) rfl (fun ls hl => ?_)
                          obtain ⟨x_99, ex_99⟩ : ∃ zq : Int32, y_36 + 1 = zq := ⟨_, rfl⟩
                          have hx_99 : x_99.toInt = y_36.toInt + 1 := (iv_to ex_99).symm.trans (ad_i rfl (by decide) (by omega) (by omega))
                          refine lv_iinc (v := x_99) (lv' := [(7, .int x_99), (6, .int 1), (0, .ref g0), (1, .int x1), (2, .int x2), (3, .int x3), (4, .int x4), (5, .int x5)]) hx hb dX11_sign__176 hl (k := 1) rfl ex_99 (by decide) rfl (fun ls hl => ?_)
                          clear ex_99
                          refine lv_goto (tgt := 135) hx hb dX11_sign__179 (by decide) ?_
                          have kc_100 : (1 : Int32).toInt = 1 := by decide
                          exact ih (n - 1) (by omega) 1 x_99 z_37 fz_38 _ _ ls (by omega) (by decide) (by omega) hVz_37 hAz_37 hRz_37 hP hD hS (by omega) (lv_sub hl [1, 0, 2, 3, 4, 5, 6, 7] rfl)
                        · have dc_98 := c_eq (a := x_97.toInt) (b := x1.toInt) rfl rfl c_98
                          refine lv_aload_n hx hb dX11_sign__160 rfl (lv_at hl 2 rfl) ?_
                          refine lv_iload hx hb dX11_sign__161 (lv_at hl 1 rfl) ?_
                          have hFc : ∀ q, va_A [] H.size q → A q := pu_free hS hA
                          refine va_calli (va_runV (As := [.int y_36]) (rest := []) ⟨hx, hb, hml, hown, hts⟩ (c_X11_goesOn l dC dI H.size g0 pq cp z_37 fz_38 (z_37 41).toNatClampNeg (cn_le (n := 200) (hVz_37 41)) (cn_eq (n := 200) (hVz_37 41)) y_36 (vp_in_iff.mpr (by omega))) (cwV 1 hts gX11_sign__X11_goesOn rfl rfl rfl (by decide +kernel) ⟨(Nat.le_of_ble_eq_true rfl), (Nat.le_of_ble_eq_true rfl)⟩) (pr_V (r := (RX11, TX11, 63)) hP hK hD 0 11 rfl rfl) rfl rfl hl.1 rfl (lv_room (Nat.le_of_ble_eq_true rfl)) dX11_sign__163 ⟨(Nat.le_of_ble_eq_true rfl), (Nat.le_of_ble_eq_true rfl)⟩) hS (fun q _ h => hFc q h) hFc (fun r_102 u t H locs ht hvm w_101 hB hz1 hk1 hS => ?_)
                          have hP := pu_keep hP hk1
                          clear hk1 hz1 hvm hB ht hFc
                          have hb_103 : 0 ≤ r_102.toInt ∧ r_102.toInt ≤ 1 := z1_i w_101
                          refine lv_if_ne (tgt := 173) hx hb dX11_sign__166 (by decide) (fun c_104 => ?_) (fun c_104 => ?_)
                          · have dc_104 := c_ne (a := r_102.toInt) (b := 0) rfl (by decide) c_104
                            refine lv_iconst (v := 0) hx hb dX11_sign__173 (by decide) ?_
                            refine lv_istore (lv' := [(6, .int 0), (7, .int y_36), (0, .ref g0), (1, .int x1), (2, .int x2), (3, .int x3), (4, .int x4), (5, .int x5)]) hx hb dX11_sign__174 hl (by decide) rfl (fun ls hl => ?_)
                            obtain ⟨x_105, ex_105⟩ : ∃ zq : Int32, y_36 + 1 = zq := ⟨_, rfl⟩
                            have hx_105 : x_105.toInt = y_36.toInt + 1 := (iv_to ex_105).symm.trans (ad_i rfl (by decide) (by omega) (by omega))
                            refine lv_iinc (v := x_105) (lv' := [(7, .int x_105), (6, .int 0), (0, .ref g0), (1, .int x1), (2, .int x2), (3, .int x3), (4, .int x4), (5, .int x5)]) hx hb dX11_sign__176 hl (k := 1) rfl ex_105 (by decide) rfl (fun ls hl => ?_)
                            clear ex_105
                            refine lv_goto (tgt := 135) hx hb dX11_sign__179 (by decide) ?_
                            have kc_106 : (0 : Int32).toInt = 0 := by decide
                            exact ih (n - 1) (by omega) 0 x_105 z_37 fz_38 _ _ ls (by omega) (by decide) (by omega) hVz_37 hAz_37 hRz_37 hP hD hS (by omega) (lv_sub hl [1, 0, 2, 3, 4, 5, 6, 7] rfl)
                          · have dc_104 := c_eq (a := r_102.toInt) (b := 0) rfl (by decide) c_104
                            refine lv_iconst (v := 1) hx hb dX11_sign__169 (by decide) ?_
                            refine lv_goto (tgt := 174) hx hb dX11_sign__170 (by decide) ?_
                            refine lv_istore (lv' := [(6, .int 1), (7, .int y_36), (0, .ref g0), (1, .int x1), (2, .int x2), (3, .int x3), (4, .int x4), (5, .int x5)]) hx hb dX11_sign__174 hl (by decide) rfl (fun ls hl => ?_)
                            obtain ⟨x_107, ex_107⟩ : ∃ zq : Int32, y_36 + 1 = zq := ⟨_, rfl⟩
                            have hx_107 : x_107.toInt = y_36.toInt + 1 := (iv_to ex_107).symm.trans (ad_i rfl (by decide) (by omega) (by omega))
                            refine lv_iinc (v := x_107) (lv' := [(7, .int x_107), (6, .int 1), (0, .ref g0), (1, .int x1), (2, .int x2), (3, .int x3), (4, .int x4), (5, .int x5)]) hx hb dX11_sign__176 hl (k := 1) rfl ex_107 (by decide) rfl (fun ls hl => ?_)
                            clear ex_107
                            refine lv_goto (tgt := 135) hx hb dX11_sign__179 (by decide) ?_
                            have kc_108 : (1 : Int32).toInt = 1 := by decide
                            exact ih (n - 1) (by omega) 1 x_107 z_37 fz_38 _ _ ls (by omega) (by decide) (by omega) hVz_37 hAz_37 hRz_37 hP hD hS (by omega) (lv_sub hl [1, 0, 2, 3, 4, 5, 6, 7] rfl)
                have kc_109 : (0 : Int32).toInt = 0 := by decide
                exact cut_34 61 y_30 0 z_31 fz_32 _ _ ls (by omega) (by omega) (by decide) hVz_31 hAz_31 hRz_31 hP hD hS (by omega) (lv_sub hl [1, 0, 2, 3, 4, 5, 6, 7] rfl)
              refine lv_aload_n hx hb dX11_sign__83 rfl (lv_at hl 0 rfl) ?_
              refine va_get (D := (dC, dI)) (ci := 11) (v := .ref (pq 9)) (C := RX11) (T := TX11) (N := 63) hx hb hts in_wsX11_sign__X11 hown hK hP 0 rfl rfl 9 (by decide) (hts (.fieldLink RX11 37 "ShipOfficeModel" "endedOn" "[I") iw_X11_sign__13) (fun _ h9 => h9) rfl dX11_sign__84 ?_
              refine lv_iload_n hx hb dX11_sign__87 rfl (lv_at hl 2 rfl) ?_
              refine va_iald hx hb hK hP 10 9 rfl rfl (vp_in_iff.mpr (by omega)) dX11_sign__88 ?_
              refine lv_topi (fun x_110 ex_110 => ?_)
              clear ex_110
              refine lv_if_ge (tgt := 129) hx hb dX11_sign__89 (by decide) (fun c_111 => ?_) (fun c_111 => ?_)
              · have dc_111 := c_le (a := 0) (b := x_110.toInt) (by decide) rfl c_111
                refine lv_iconst (v := 0) hx hb dX11_sign__129 (by decide) ?_
                refine lv_istore (lv' := [(6, .int 0), (0, .ref g0), (1, .int x1), (2, .int x2), (3, .int x3), (4, .int x4), (5, .int x5)]) hx hb dX11_sign__130 hl (by decide) rfl (fun ls hl => ?_)
                have kc_112 : (0 : Int32).toInt = 0 := by decide
                exact cut_29 0 z_5 fz_6 _ _ ls (by decide) hVz_5 hAz_5 hRz_5 hP hD hS (by omega) (lv_sub hl [0, 1, 2, 3, 4, 5, 6] rfl)
              · have dc_111 := c_nle (a := 0) (b := x_110.toInt) (by decide) rfl c_111
                refine lv_aload_n hx hb dX11_sign__92 rfl (lv_at hl 0 rfl) ?_
                refine lv_iconst (v := 0) hx hb dX11_sign__93 (by decide) ?_
                refine lv_iload_n hx hb dX11_sign__94 rfl (lv_at hl 2 rfl) ?_
                have hFc : ∀ q, va_A [] H.size q → A q := pu_free hS hA
                refine va_calli (va_runV (As := [.int 0, .int x2]) (rest := []) ⟨hx, hb, hml, hown, hts⟩ (c_X11_wasTold l dC dI H.size g0 pq cp z_5 fz_6 (z_5 41).toNatClampNeg (cn_le (n := 200) (hVz_5 41)) (cn_eq (n := 200) (hVz_5 41)) 0 x2) (cwV 2 hts gX11_sign__X11_wasTold rfl rfl rfl (by decide +kernel) ⟨(Nat.le_of_ble_eq_true rfl), (Nat.le_of_ble_eq_true rfl)⟩) (pr_V (r := (RX11, TX11, 63)) hP hK hD 0 11 rfl rfl) rfl rfl hl.1 rfl (lv_room (Nat.le_of_ble_eq_true rfl)) dX11_sign__95 ⟨(Nat.le_of_ble_eq_true rfl), (Nat.le_of_ble_eq_true rfl)⟩) hS (fun q _ h => hFc q h) hFc (fun r_114 u t H locs ht hvm w_113 hB hz1 hk1 hS => ?_)
                have hP := pu_keep hP hk1
                clear hk1 hz1 hvm hB ht hFc
                have hb_115 : 0 ≤ r_114.toInt ∧ r_114.toInt ≤ 1 := z1_i w_113
                refine lv_if_ne (tgt := 129) hx hb dX11_sign__98 (by decide) (fun c_116 => ?_) (fun c_116 => ?_)
                · have dc_116 := c_ne (a := r_114.toInt) (b := 0) rfl (by decide) c_116
                  refine lv_iconst (v := 0) hx hb dX11_sign__129 (by decide) ?_
                  refine lv_istore (lv' := [(6, .int 0), (0, .ref g0), (1, .int x1), (2, .int x2), (3, .int x3), (4, .int x4), (5, .int x5)]) hx hb dX11_sign__130 hl (by decide) rfl (fun ls hl => ?_)
                  have kc_117 : (0 : Int32).toInt = 0 := by decide
                  exact cut_29 0 z_5 fz_6 _ _ ls (by decide) hVz_5 hAz_5 hRz_5 hP hD hS (by omega) (lv_sub hl [0, 1, 2, 3, 4, 5, 6] rfl)
                · have dc_116 := c_eq (a := r_114.toInt) (b := 0) rfl (by decide) c_116
                  refine lv_aload_n hx hb dX11_sign__101 rfl (lv_at hl 0 rfl) ?_
                  refine lv_iconst (v := 2) hx hb dX11_sign__102 (by decide) ?_
                  refine lv_iload_n hx hb dX11_sign__103 rfl (lv_at hl 2 rfl) ?_
                  have hFc : ∀ q, va_A [] H.size q → A q := pu_free hS hA
                  refine va_calli (va_runV (As := [.int 2, .int x2]) (rest := []) ⟨hx, hb, hml, hown, hts⟩ (c_X11_wasTold l dC dI H.size g0 pq cp z_5 fz_6 (z_5 41).toNatClampNeg (cn_le (n := 200) (hVz_5 41)) (cn_eq (n := 200) (hVz_5 41)) 2 x2) (cwV 2 hts gX11_sign__X11_wasTold rfl rfl rfl (by decide +kernel) ⟨(Nat.le_of_ble_eq_true rfl), (Nat.le_of_ble_eq_true rfl)⟩) (pr_V (r := (RX11, TX11, 63)) hP hK hD 0 11 rfl rfl) rfl rfl hl.1 rfl (lv_room (Nat.le_of_ble_eq_true rfl)) dX11_sign__104 ⟨(Nat.le_of_ble_eq_true rfl), (Nat.le_of_ble_eq_true rfl)⟩) hS (fun q _ h => hFc q h) hFc (fun r_119 u t H locs ht hvm w_118 hB hz1 hk1 hS => ?_)
                  have hP := pu_keep hP hk1
                  clear hk1 hz1 hvm hB ht hFc
                  have hb_120 : 0 ≤ r_119.toInt ∧ r_119.toInt ≤ 1 := z1_i w_118
                  refine lv_if_ne (tgt := 129) hx hb dX11_sign__107 (by decide) (fun c_121 => ?_) (fun c_121 => ?_)
                  · have dc_121 := c_ne (a := r_119.toInt) (b := 0) rfl (by decide) c_121
                    refine lv_iconst (v := 0) hx hb dX11_sign__129 (by decide) ?_
                    refine lv_istore (lv' := [(6, .int 0), (0, .ref g0), (1, .int x1), (2, .int x2), (3, .int x3), (4, .int x4), (5, .int x5)]) hx hb dX11_sign__130 hl (by decide) rfl (fun ls hl => ?_)
                    have kc_122 : (0 : Int32).toInt = 0 := by decide
                    exact cut_29 0 z_5 fz_6 _ _ ls (by decide) hVz_5 hAz_5 hRz_5 hP hD hS (by omega) (lv_sub hl [0, 1, 2, 3, 4, 5, 6] rfl)
                  · have dc_121 := c_eq (a := r_119.toInt) (b := 0) rfl (by decide) c_121
                    refine lv_iload hx hb dX11_sign__110 (lv_at hl 5 rfl) ?_
                    refine lv_if_lt (tgt := 125) hx hb dX11_sign__112 (by decide) (fun c_123 => ?_) (fun c_123 => ?_)
                    · have dc_123 := c_lt (a := x5.toInt) (b := 0) rfl (by decide) c_123
                      refine lv_iconst (v := 1) hx hb dX11_sign__125 (by decide) ?_
                      refine lv_goto (tgt := 130) hx hb dX11_sign__126 (by decide) ?_
                      refine lv_istore (lv' := [(6, .int 1), (0, .ref g0), (1, .int x1), (2, .int x2), (3, .int x3), (4, .int x4), (5, .int x5)]) hx hb dX11_sign__130 hl (by decide) rfl (fun ls hl => ?_)
                      have kc_124 : (1 : Int32).toInt = 1 := by decide
                      exact cut_29 1 z_5 fz_6 _ _ ls (by decide) hVz_5 hAz_5 hRz_5 hP hD hS (by omega) (lv_sub hl [0, 1, 2, 3, 4, 5, 6] rfl)
                    · have dc_123 := c_nlt (a := x5.toInt) (b := 0) rfl (by decide) c_123
                      refine lv_aload_n hx hb dX11_sign__115 rfl (lv_at hl 0 rfl) ?_
                      refine va_get (D := (dC, dI)) (ci := 11) (v := .ref (pq 26)) (C := RX11) (T := TX11) (N := 63) hx hb hts in_wsX11_sign__X11 hown hK hP 0 rfl rfl 26 (by decide) (hts (.fieldLink RX11 88 "ShipOfficeModel" "offOn" "[I") iw_X11_sign__11) (fun _ h9 => h9) rfl dX11_sign__116 ?_
                      refine lv_iload hx hb dX11_sign__119 (lv_at hl 5 rfl) ?_
                      refine va_iald hx hb hK hP 27 26 rfl rfl (vp_in_iff.mpr (by omega)) dX11_sign__121 ?_
                      refine lv_topi (fun x_125 ex_125 => ?_)
                      clear ex_125
                      refine lv_if_lt (tgt := 129) hx hb dX11_sign__122 (by decide) (fun c_126 => ?_) (fun c_126 => ?_)
                      · have dc_126 := c_lt (a := x_125.toInt) (b := 0) rfl (by decide) c_126
                        refine lv_iconst (v := 0) hx hb dX11_sign__129 (by decide) ?_
                        refine lv_istore (lv' := [(6, .int 0), (0, .ref g0), (1, .int x1), (2, .int x2), (3, .int x3), (4, .int x4), (5, .int x5)]) hx hb dX11_sign__130 hl (by decide) rfl (fun ls hl => ?_)
                        have kc_127 : (0 : Int32).toInt = 0 := by decide
                        exact cut_29 0 z_5 fz_6 _ _ ls (by decide) hVz_5 hAz_5 hRz_5 hP hD hS (by omega) (lv_sub hl [0, 1, 2, 3, 4, 5, 6] rfl)
                      · have dc_126 := c_nlt (a := x_125.toInt) (b := 0) rfl (by decide) c_126
                        refine lv_iconst (v := 1) hx hb dX11_sign__125 (by decide) ?_
                        refine lv_goto (tgt := 130) hx hb dX11_sign__126 (by decide) ?_
                        refine lv_istore (lv' := [(6, .int 1), (0, .ref g0), (1, .int x1), (2, .int x2), (3, .int x3), (4, .int x4), (5, .int x5)]) hx hb dX11_sign__130 hl (by decide) rfl (fun ls hl => ?_)
                        have kc_128 : (1 : Int32).toInt = 1 := by decide
                        exact cut_29 1 z_5 fz_6 _ _ ls (by decide) hVz_5 hAz_5 hRz_5 hP hD hS (by omega) (lv_sub hl [0, 1, 2, 3, 4, 5, 6] rfl)
            · have dc_28 := c_eq (a := x_27.toInt) (b := 60) rfl (by decide) c_28
              refine lv_aload_n hx hb dX11_sign__76 rfl (lv_at hl 0 rfl) ?_
              refine lv_bipush (v := (-6)) hx hb dX11_sign__77 (by decide) ?_
              have hFc := va_free (wc := (mW g0 pq cp z_5 fz_6)) hD hS hA (List.range 48) rfl
              refine va_calli (va_runV (As := [.int (-6)]) (rest := []) ⟨hx, hb, hml, hown, hts⟩ (c_X11_refuse l dC dI H.size g0 pq cp z_5 fz_6 (-6) (by unfold vp_in; decide)) (cwV 1 hts gX11_sign__X11_refuse rfl rfl rfl (by decide +kernel) ⟨(Nat.le_of_ble_eq_true rfl), (Nat.le_of_ble_eq_true rfl)⟩) (pr_V (r := (RX11, TX11, 63)) hP hK hD 0 11 rfl rfl) rfl rfl hl.1 rfl (lv_room (Nat.le_of_ble_eq_true rfl)) dX11_sign__79 ⟨(Nat.le_of_ble_eq_true rfl), (Nat.le_of_ble_eq_true rfl)⟩) hS (fun q _ h => hFc q h) hFc (fun r_130 u t H locs ht hvm w_129 hB hz1 hk1 hS => ?_)
              obtain ⟨v_131, fa_132⟩ := u
              obtain ⟨hP1, hK1, hD1⟩ := hB
              rw [ht] at hP1
              have hP : va_P (dC, dI) vwCl (mW g0 pq cp v_131 fa_132) H := hP1
              have hD : va_D A (mW g0 pq cp v_131 fa_132) := hD1.weaken (fun _ _ _ h => hFc _ h)
              clear hP1 hK1 hD1 hk1 hz1 hvm ht hFc
              obtain ⟨rfl, w_129⟩ := w_129
              have hVv_131 : mV v_131 := sm0_V w_129 hVz_5
              have hAv_131 : mA fa_132 := sm0_A w_129 hAz_5
              have g_133 : (v_131 43).toInt = (z_5 43).toInt := congrArg Int32.toInt (congrFun w_129.1 43)
              have hRv_131 : mX [0, 20, 21, 22, 23, 24, 25, 26, 28, 43, 45, 47, 48, 49, 50, 51, 52, 53, 54, 55, 56, 57, 58, 59, 60] v fa v_131 fa_132 := mX.st hRz_5 (mX.s0 w_129) (by decide)
              exact W.iret (v := (-6)) hx hb hr (fun t ht hW => ⟨⟨(-6), (v_131, fa_132), rfl, ⟨hVv_131, hAv_131, hRv_131⟩, ⟨by rw [ht]; exact hP, va_K.moved hW.alike hK, hD⟩⟩, hS.F ht⟩) hS.2.2 dX11_sign__82
      · have dc_14 := c_nle (a := 0) (b := x4.toInt) (by decide) rfl c_14
        refine lv_aload_n hx hb dX11_sign__47 rfl (lv_at hl 0 rfl) ?_
        refine lv_bipush (v := (-4)) hx hb dX11_sign__48 (by decide) ?_
        have hFc := va_free (wc := (mW g0 pq cp z_5 fz_6)) hD hS hA (List.range 48) rfl
        refine va_calli (va_runV (As := [.int (-4)]) (rest := []) ⟨hx, hb, hml, hown, hts⟩ (c_X11_refuse l dC dI H.size g0 pq cp z_5 fz_6 (-4) (by unfold vp_in; decide)) (cwV 1 hts gX11_sign__X11_refuse rfl rfl rfl (by decide +kernel) ⟨(Nat.le_of_ble_eq_true rfl), (Nat.le_of_ble_eq_true rfl)⟩) (pr_V (r := (RX11, TX11, 63)) hP hK hD 0 11 rfl rfl) rfl rfl hl.1 rfl (lv_room (Nat.le_of_ble_eq_true rfl)) dX11_sign__50 ⟨(Nat.le_of_ble_eq_true rfl), (Nat.le_of_ble_eq_true rfl)⟩) hS (fun q _ h => hFc q h) hFc (fun r_135 u t H locs ht hvm w_134 hB hz1 hk1 hS => ?_)
        obtain ⟨v_136, fa_137⟩ := u
        obtain ⟨hP1, hK1, hD1⟩ := hB
        rw [ht] at hP1
        have hP : va_P (dC, dI) vwCl (mW g0 pq cp v_136 fa_137) H := hP1
        have hD : va_D A (mW g0 pq cp v_136 fa_137) := hD1.weaken (fun _ _ _ h => hFc _ h)
        clear hP1 hK1 hD1 hk1 hz1 hvm ht hFc
        obtain ⟨rfl, w_134⟩ := w_134
        have hVv_136 : mV v_136 := sm0_V w_134 hVz_5
        have hAv_136 : mA fa_137 := sm0_A w_134 hAz_5
        have g_138 : (v_136 43).toInt = (z_5 43).toInt := congrArg Int32.toInt (congrFun w_134.1 43)
        have hRv_136 : mX [0, 20, 21, 22, 23, 24, 25, 26, 28, 43, 45, 47, 48, 49, 50, 51, 52, 53, 54, 55, 56, 57, 58, 59, 60] v fa v_136 fa_137 := mX.st hRz_5 (mX.s0 w_134) (by decide)
        exact W.iret (v := (-4)) hx hb hr (fun t ht hW => ⟨⟨(-4), (v_136, fa_137), rfl, ⟨hVv_136, hAv_136, hRv_136⟩, ⟨by rw [ht]; exact hP, va_K.moved hW.alike hK, hD⟩⟩, hS.F ht⟩) hS.2.2 dX11_sign__53
  refine lv_aload_n hx hb dX11_sign__0 rfl (lv_at hl 0 rfl) ?_
  refine lv_iload_n hx hb dX11_sign__1 rfl (lv_at hl 1 rfl) ?_
  have hFc : ∀ q, va_A [] s.heap.size q → A q := pu_free hS hA
  refine va_calli (va_runV (As := [.int x1]) (rest := []) ⟨hx, hb, hml, hown, hts⟩ (c_X11_isMan l dC dI s.heap.size g0 pq cp v fa x1) (cwV 1 hts gX11_sign__X11_isMan rfl rfl rfl (by decide +kernel) ⟨(Nat.le_of_ble_eq_true rfl), (Nat.le_of_ble_eq_true rfl)⟩) (pr_V (r := (RX11, TX11, 63)) hP hK hD 0 11 rfl rfl) rfl rfl hl.1 rfl (lv_room (Nat.le_of_ble_eq_true rfl)) dX11_sign__2 ⟨(Nat.le_of_ble_eq_true rfl), (Nat.le_of_ble_eq_true rfl)⟩) hS (fun q _ h => hFc q h) hFc (fun r_140 u t H locs ht hvm w_139 hB hz1 hk1 hS => ?_)
  have hP := pu_keep hP hk1
  clear hk1 hz1 hvm hB ht hFc
  have hbr_140 : 0 ≤ r_140.toInt ∧ r_140.toInt ≤ 1 := iv_of w_139 (isI_i _ _)
  refine lv_if_eq (tgt := 31) hx hb dX11_sign__5 (by decide) (fun c_141 => ?_) (fun c_141 => ?_)
  · have dc_141 := c_eq (a := r_140.toInt) (b := 0) rfl (by decide) c_141
    refine lv_aload_n hx hb dX11_sign__31 rfl (lv_at hl 0 rfl) ?_
    refine lv_iconst (v := (-1)) hx hb dX11_sign__32 (by decide) ?_
    have hFc := va_free (wc := (mW g0 pq cp v fa)) hD hS hA (List.range 48) rfl
    refine va_calli (va_runV (As := [.int (-1)]) (rest := []) ⟨hx, hb, hml, hown, hts⟩ (c_X11_refuse l dC dI H.size g0 pq cp v fa (-1) (by unfold vp_in; decide)) (cwV 1 hts gX11_sign__X11_refuse rfl rfl rfl (by decide +kernel) ⟨(Nat.le_of_ble_eq_true rfl), (Nat.le_of_ble_eq_true rfl)⟩) (pr_V (r := (RX11, TX11, 63)) hP hK hD 0 11 rfl rfl) rfl rfl hl.1 rfl (lv_room (Nat.le_of_ble_eq_true rfl)) dX11_sign__33 ⟨(Nat.le_of_ble_eq_true rfl), (Nat.le_of_ble_eq_true rfl)⟩) hS (fun q _ h => hFc q h) hFc (fun r_143 u t H locs ht hvm w_142 hB hz1 hk1 hS => ?_)
    obtain ⟨v_144, fa_145⟩ := u
    obtain ⟨hP1, hK1, hD1⟩ := hB
    rw [ht] at hP1
    have hP : va_P (dC, dI) vwCl (mW g0 pq cp v_144 fa_145) H := hP1
    have hD : va_D A (mW g0 pq cp v_144 fa_145) := hD1.weaken (fun _ _ _ h => hFc _ h)
    clear hP1 hK1 hD1 hk1 hz1 hvm ht hFc
    obtain ⟨rfl, w_142⟩ := w_142
    have hVv_144 : mV v_144 := sm0_V w_142 gV
    have hAv_144 : mA fa_145 := sm0_A w_142 gA
    have g_146 : (v_144 43).toInt = (v 43).toInt := congrArg Int32.toInt (congrFun w_142.1 43)
    have hRv_144 : mX [0, 20, 21, 22, 23, 24, 25, 26, 28, 43, 45, 47, 48, 49, 50, 51, 52, 53, 54, 55, 56, 57, 58, 59, 60] v fa v_144 fa_145 := mX.st mX.rf (mX.s0 w_142) (by decide)
    exact W.iret (v := (-1)) hx hb hr (fun t ht hW => ⟨⟨(-1), (v_144, fa_145), rfl, ⟨hVv_144, hAv_144, hRv_144⟩, ⟨by rw [ht]; exact hP, va_K.moved hW.alike hK, hD⟩⟩, hS.F ht⟩) hS.2.2 dX11_sign__36
  · have dc_141 := c_ne (a := r_140.toInt) (b := 0) rfl (by decide) c_141
    have hi_147 := isI_t w_139 (fun q => c_141 (Int32.toInt_inj.mp q))
    have khi_147 : (v 39).toInt ≤ 40 := (gV 39).2
    refine lv_aload_n hx hb dX11_sign__8 rfl (lv_at hl 0 rfl) ?_
    refine lv_iload_n hx hb dX11_sign__9 rfl (lv_at hl 2 rfl) ?_
    have hFc : ∀ q, va_A [] H.size q → A q := pu_free hS hA
    refine va_calli (va_runV (As := [.int x2]) (rest := []) ⟨hx, hb, hml, hown, hts⟩ (c_X11_isVoyage l dC dI H.size g0 pq cp v fa x2) (cwV 1 hts gX11_sign__X11_isVoyage rfl rfl rfl (by decide +kernel) ⟨(Nat.le_of_ble_eq_true rfl), (Nat.le_of_ble_eq_true rfl)⟩) (pr_V (r := (RX11, TX11, 63)) hP hK hD 0 11 rfl rfl) rfl rfl hl.1 rfl (lv_room (Nat.le_of_ble_eq_true rfl)) dX11_sign__10 ⟨(Nat.le_of_ble_eq_true rfl), (Nat.le_of_ble_eq_true rfl)⟩) hS (fun q _ h => hFc q h) hFc (fun r_149 u t H locs ht hvm w_148 hB hz1 hk1 hS => ?_)
    have hP := pu_keep hP hk1
    clear hk1 hz1 hvm hB ht hFc
    have hbr_149 : 0 ≤ r_149.toInt ∧ r_149.toInt ≤ 1 := iv_of w_148 (isI_i _ _)
    refine lv_if_eq (tgt := 31) hx hb dX11_sign__13 (by decide) (fun c_150 => ?_) (fun c_150 => ?_)
    · have dc_150 := c_eq (a := r_149.toInt) (b := 0) rfl (by decide) c_150
      refine lv_aload_n hx hb dX11_sign__31 rfl (lv_at hl 0 rfl) ?_
      refine lv_iconst (v := (-1)) hx hb dX11_sign__32 (by decide) ?_
      have hFc := va_free (wc := (mW g0 pq cp v fa)) hD hS hA (List.range 48) rfl
      refine va_calli (va_runV (As := [.int (-1)]) (rest := []) ⟨hx, hb, hml, hown, hts⟩ (c_X11_refuse l dC dI H.size g0 pq cp v fa (-1) (by unfold vp_in; decide)) (cwV 1 hts gX11_sign__X11_refuse rfl rfl rfl (by decide +kernel) ⟨(Nat.le_of_ble_eq_true rfl), (Nat.le_of_ble_eq_true rfl)⟩) (pr_V (r := (RX11, TX11, 63)) hP hK hD 0 11 rfl rfl) rfl rfl hl.1 rfl (lv_room (Nat.le_of_ble_eq_true rfl)) dX11_sign__33 ⟨(Nat.le_of_ble_eq_true rfl), (Nat.le_of_ble_eq_true rfl)⟩) hS (fun q _ h => hFc q h) hFc (fun r_152 u t H locs ht hvm w_151 hB hz1 hk1 hS => ?_)
      obtain ⟨v_153, fa_154⟩ := u
      obtain ⟨hP1, hK1, hD1⟩ := hB
      rw [ht] at hP1
      have hP : va_P (dC, dI) vwCl (mW g0 pq cp v_153 fa_154) H := hP1
      have hD : va_D A (mW g0 pq cp v_153 fa_154) := hD1.weaken (fun _ _ _ h => hFc _ h)
      clear hP1 hK1 hD1 hk1 hz1 hvm ht hFc
      obtain ⟨rfl, w_151⟩ := w_151
      have hVv_153 : mV v_153 := sm0_V w_151 gV
      have hAv_153 : mA fa_154 := sm0_A w_151 gA
      have g_155 : (v_153 43).toInt = (v 43).toInt := congrArg Int32.toInt (congrFun w_151.1 43)
      have hRv_153 : mX [0, 20, 21, 22, 23, 24, 25, 26, 28, 43, 45, 47, 48, 49, 50, 51, 52, 53, 54, 55, 56, 57, 58, 59, 60] v fa v_153 fa_154 := mX.st mX.rf (mX.s0 w_151) (by decide)
      exact W.iret (v := (-1)) hx hb hr (fun t ht hW => ⟨⟨(-1), (v_153, fa_154), rfl, ⟨hVv_153, hAv_153, hRv_153⟩, ⟨by rw [ht]; exact hP, va_K.moved hW.alike hK, hD⟩⟩, hS.F ht⟩) hS.2.2 dX11_sign__36
    · have dc_150 := c_ne (a := r_149.toInt) (b := 0) rfl (by decide) c_150
      have hi_156 := isI_t w_148 (fun q => c_150 (Int32.toInt_inj.mp q))
      have khi_156 : (v 40).toInt ≤ 20 := (gV 40).2
      refine lv_iload hx hb dX11_sign__16 (lv_at hl 5 rfl) ?_
      refine lv_iconst (v := (-1)) hx hb dX11_sign__18 (by decide) ?_
      refine lv_icmp_eq (tgt := 37) hx hb dX11_sign__19 (by decide) (fun c_157 => ?_) (fun c_157 => ?_)
      · have dc_157 := c_eq (a := x5.toInt) (b := (-1)) rfl (by decide) c_157
        exact cut_1  v fa _ _ ls (by omega) (by omega) (by omega) gV gA mX.rf hP hD hS (by omega) (lv_sub hl [0, 1, 2, 3, 4, 5] rfl)
      · have dc_157 := c_ne (a := x5.toInt) (b := (-1)) rfl (by decide) c_157
        refine lv_aload_n hx hb dX11_sign__22 rfl (lv_at hl 0 rfl) ?_
        refine lv_iload hx hb dX11_sign__23 (lv_at hl 5 rfl) ?_
        have hFc : ∀ q, va_A [] H.size q → A q := pu_free hS hA
        refine va_calli (va_runV (As := [.int x5]) (rest := []) ⟨hx, hb, hml, hown, hts⟩ (c_X11_isAgreement l dC dI H.size g0 pq cp v fa x5) (cwV 1 hts gX11_sign__X11_isAgreement rfl rfl rfl (by decide +kernel) ⟨(Nat.le_of_ble_eq_true rfl), (Nat.le_of_ble_eq_true rfl)⟩) (pr_V (r := (RX11, TX11, 63)) hP hK hD 0 11 rfl rfl) rfl rfl hl.1 rfl (lv_room (Nat.le_of_ble_eq_true rfl)) dX11_sign__25 ⟨(Nat.le_of_ble_eq_true rfl), (Nat.le_of_ble_eq_true rfl)⟩) hS (fun q _ h => hFc q h) hFc (fun r_159 u t H locs ht hvm w_158 hB hz1 hk1 hS => ?_)
        have hP := pu_keep hP hk1
        clear hk1 hz1 hvm hB ht hFc
        have hbr_159 : 0 ≤ r_159.toInt ∧ r_159.toInt ≤ 1 := iv_of w_158 (isI_i _ _)
        refine lv_if_ne (tgt := 37) hx hb dX11_sign__28 (by decide) (fun c_160 => ?_) (fun c_160 => ?_)
        · have dc_160 := c_ne (a := r_159.toInt) (b := 0) rfl (by decide) c_160
          have hi_161 := isI_t w_158 (fun q => c_160 (Int32.toInt_inj.mp q))
          have khi_161 : (v 43).toInt ≤ 60 := (gV 43).2
          exact cut_1  v fa _ _ ls (by omega) (by omega) (by omega) gV gA mX.rf hP hD hS (by omega) (lv_sub hl [0, 1, 2, 3, 4, 5] rfl)
        · have dc_160 := c_eq (a := r_159.toInt) (b := 0) rfl (by decide) c_160
          refine lv_aload_n hx hb dX11_sign__31 rfl (lv_at hl 0 rfl) ?_
          refine lv_iconst (v := (-1)) hx hb dX11_sign__32 (by decide) ?_
          have hFc := va_free (wc := (mW g0 pq cp v fa)) hD hS hA (List.range 48) rfl
          refine va_calli (va_runV (As := [.int (-1)]) (rest := []) ⟨hx, hb, hml, hown, hts⟩ (c_X11_refuse l dC dI H.size g0 pq cp v fa (-1) (by unfold vp_in; decide)) (cwV 1 hts gX11_sign__X11_refuse rfl rfl rfl (by decide +kernel) ⟨(Nat.le_of_ble_eq_true rfl), (Nat.le_of_ble_eq_true rfl)⟩) (pr_V (r := (RX11, TX11, 63)) hP hK hD 0 11 rfl rfl) rfl rfl hl.1 rfl (lv_room (Nat.le_of_ble_eq_true rfl)) dX11_sign__33 ⟨(Nat.le_of_ble_eq_true rfl), (Nat.le_of_ble_eq_true rfl)⟩) hS (fun q _ h => hFc q h) hFc (fun r_163 u t H locs ht hvm w_162 hB hz1 hk1 hS => ?_)
          obtain ⟨v_164, fa_165⟩ := u
          obtain ⟨hP1, hK1, hD1⟩ := hB
          rw [ht] at hP1
          have hP : va_P (dC, dI) vwCl (mW g0 pq cp v_164 fa_165) H := hP1
          have hD : va_D A (mW g0 pq cp v_164 fa_165) := hD1.weaken (fun _ _ _ h => hFc _ h)
          clear hP1 hK1 hD1 hk1 hz1 hvm ht hFc
          obtain ⟨rfl, w_162⟩ := w_162
          have hVv_164 : mV v_164 := sm0_V w_162 gV
          have hAv_164 : mA fa_165 := sm0_A w_162 gA
          have g_166 : (v_164 43).toInt = (v 43).toInt := congrArg Int32.toInt (congrFun w_162.1 43)
          have hRv_164 : mX [0, 20, 21, 22, 23, 24, 25, 26, 28, 43, 45, 47, 48, 49, 50, 51, 52, 53, 54, 55, 56, 57, 58, 59, 60] v fa v_164 fa_165 := mX.st mX.rf (mX.s0 w_162) (by decide)
          exact W.iret (v := (-1)) hx hb hr (fun t ht hW => ⟨⟨(-1), (v_164, fa_165), rfl, ⟨hVv_164, hAv_164, hRv_164⟩, ⟨by rw [ht]; exact hP, va_K.moved hW.alike hK, hD⟩⟩, hS.F ht⟩) hS.2.2 dX11_sign__36
