abbrev cX11_refuseFar : ByteArray := prog_13_method_3_code
def yX11_refuseFar : MethodName := ⟨RX11, "refuseFar", "(I)I"⟩
abbrev cX11_sign_ : ByteArray := prog_13_method_49_code
def yX11_sign_ : MethodName := ⟨RX11, "sign", "(IIIII)I"⟩
def wsX11_refuseFar : List Cond := .code yX11_refuseFar cX11_refuseFar 2 (some .int) :: ([.constant RX11 152 (1000000000), .methodLink RX11 153 yX11_refuse, .instanceMethod yX11_refuse, .selects RX11 yX11_refuse yX11_refuse, .initialized RX11, .code yX11_refuse cX11_refuse 2 (some .int), .fieldLink RX11 7 "ShipOfficeModel" "refusals" "[I"] ++ wsX110)
theorem il_X11_refuseFar_1 : ∀ w ∈ ([.constant RX11 152 (1000000000), .methodLink RX11 153 yX11_refuse, .instanceMethod yX11_refuse, .selects RX11 yX11_refuse yX11_refuse, .initialized RX11, .code yX11_refuse cX11_refuse 2 (some .int), .fieldLink RX11 7 "ShipOfficeModel" "refusals" "[I"] : List Cond), w ∈ wsX11_refuseFar := fun w h => (List.mem_cons_of_mem _ (List.mem_append_left _ h))
theorem il_X11_refuseFar_2 : ∀ w ∈ wsX110, w ∈ wsX11_refuseFar := fun w h => (List.mem_cons_of_mem _ (List.mem_append_right _ h))
def wsX11_sign__r1 : List Cond := [Cond.fieldLink RX11 168 "ShipOfficeModel" "agreements" "I", Cond.fieldLink RX11 37 "ShipOfficeModel" "endedOn" "[I", Cond.fieldLink RX11 88 "ShipOfficeModel" "offOn" "[I", Cond.fieldLink RX11 70 "ShipOfficeModel" "man" "[I", Cond.fieldLink RX11 128 "ShipOfficeModel" "letters" "[I", Cond.fieldLink RX11 171 "ShipOfficeModel" "now" "I", Cond.fieldLink RX11 22 "ShipOfficeModel" "born" "[I", Cond.fieldLink RX11 73 "ShipOfficeModel" "voyage" "[I", Cond.fieldLink RX11 76 "ShipOfficeModel" "wage" "[I", Cond.fieldLink RX11 79 "ShipOfficeModel" "rank" "[I", Cond.fieldLink RX11 82 "ShipOfficeModel" "paper" "[I", Cond.fieldLink RX11 85 "ShipOfficeModel" "signed" "[I", Cond.fieldLink RX11 94 "ShipOfficeModel" "given" "[I", Cond.methodLink RX11 297 yX11_isMan, Cond.instanceMethod yX11_isMan, Cond.selects RX11 yX11_isMan yX11_isMan, Cond.initialized RX11, Cond.code yX11_isMan cX11_isMan 2 (some .boolean), Cond.fieldLink RX11 157 "ShipOfficeModel" "men" "I", Cond.methodLink RX11 161 yX11_isIn, Cond.static yX11_isIn, Cond.code yX11_isIn cX11_isIn 2 (some .boolean), Cond.methodLink RX11 185 yX11_isVoyage, Cond.instanceMethod yX11_isVoyage]
def wsX11_sign__r2 : List Cond := [Cond.selects RX11 yX11_isVoyage yX11_isVoyage, Cond.code yX11_isVoyage cX11_isVoyage 2 (some .boolean), Cond.fieldLink RX11 165 "ShipOfficeModel" "voyages" "I", Cond.methodLink RX11 199 yX11_isAgreement, Cond.instanceMethod yX11_isAgreement, Cond.selects RX11 yX11_isAgreement yX11_isAgreement, Cond.code yX11_isAgreement cX11_isAgreement 2 (some .boolean), Cond.methodLink RX11 153 yX11_refuse, Cond.instanceMethod yX11_refuse, Cond.selects RX11 yX11_refuse yX11_refuse, Cond.code yX11_refuse cX11_refuse 2 (some .int), Cond.fieldLink RX11 7 "ShipOfficeModel" "refusals" "[I", Cond.methodLink RX11 182 yX11_wasTold, Cond.instanceMethod yX11_wasTold, Cond.selects RX11 yX11_wasTold yX11_wasTold, Cond.code yX11_wasTold cX11_wasTold 4 (some .boolean), Cond.fieldLink RX11 179 "ShipOfficeModel" "happened" "I", Cond.fieldLink RX11 40 "ShipOfficeModel" "what" "[I", Cond.fieldLink RX11 43 "ShipOfficeModel" "whose" "[I", Cond.methodLink RX11 188 yX11_goesOn, Cond.instanceMethod yX11_goesOn, Cond.selects RX11 yX11_goesOn yX11_goesOn, Cond.code yX11_goesOn cX11_goesOn 2 (some .boolean), Cond.methodLink RX11 275 yX11_bare]
def wsX11_sign__r3 : List Cond := [Cond.instanceMethod yX11_bare, Cond.selects RX11 yX11_bare yX11_bare, Cond.code yX11_bare cX11_bare 2 none, Cond.methodLink RX11 285 yX11_worth, Cond.instanceMethod yX11_worth, Cond.selects RX11 yX11_worth yX11_worth, Cond.code yX11_worth cX11_worth 4 (some .int), Cond.fieldLink RX11 58 "ShipOfficeModel" "textSize" "[I", Cond.methodLink RX11 263 yX11_actOn, Cond.instanceMethod yX11_actOn, Cond.selects RX11 yX11_actOn yX11_actOn, Cond.code yX11_actOn cX11_actOn 5 (some .int), Cond.fieldLink RX11 256 "ShipOfficeModel" "acts" "I", Cond.fieldLink RX11 61 "ShipOfficeModel" "purpose" "[I", Cond.fieldLink RX11 64 "ShipOfficeModel" "from" "[I", Cond.methodLink RX11 259 yX11_goesThrough, Cond.instanceMethod yX11_goesThrough, Cond.selects RX11 yX11_goesThrough yX11_goesThrough, Cond.code yX11_goesThrough cX11_goesThrough 3 (some .int), Cond.fieldLink RX11 216 "ShipOfficeModel" "base" "I", Cond.fieldLink RX11 213 "ShipOfficeModel" "size" "I", Cond.fieldLink RX11 210 "ShipOfficeModel" "at" "I", Cond.fieldLink RX11 244 "ShipOfficeModel" "deep" "I", Cond.fieldLink RX11 223 "ShipOfficeModel" "isWell" "Z"]
def wsX11_sign__r4 : List Cond := [Cond.methodLink RX11 250 yX11_sum, Cond.instanceMethod yX11_sum, Cond.selects RX11 yX11_sum yX11_sum, Cond.code yX11_sum cX11_sum 4 (some .int), Cond.methodLink RX11 231 yX11_term, Cond.instanceMethod yX11_term, Cond.selects RX11 yX11_term yX11_term, Cond.methodLink RX11 227 yX11_sign, Cond.instanceMethod yX11_sign, Cond.selects RX11 yX11_sign yX11_sign, Cond.code yX11_sign cX11_sign 1 (some .int), Cond.fieldLink RX11 125 "ShipOfficeModel" "tape" "[I", Cond.fieldLink RX11 67 "ShipOfficeModel" "text" "[I", Cond.methodLink RX11 234 yX11_held, Cond.static yX11_held, Cond.code yX11_held cX11_held 2 (some .int), Cond.constantLong RX11 219 (1000000000), Cond.constantLong RX11 221 (-1000000000), Cond.code yX11_term cX11_term 4 (some .int), Cond.methodLink RX11 238 yX11_unit, Cond.instanceMethod yX11_unit, Cond.selects RX11 yX11_unit yX11_unit, Cond.code yX11_unit cX11_unit 5 (some .int), Cond.methodLink RX11 241 yX11_isLetter]
def wsX11_sign__r5 : List Cond := [Cond.static yX11_isLetter, Cond.code yX11_isLetter cX11_isLetter 1 (some .boolean), Cond.methodLink RX11 247 yX11_breaks, Cond.instanceMethod yX11_breaks, Cond.selects RX11 yX11_breaks yX11_breaks, Cond.code yX11_breaks cX11_breaks 1 (some .int), Cond.methodLink RX11 253 yX11_takes, Cond.instanceMethod yX11_takes, Cond.selects RX11 yX11_takes yX11_takes, Cond.code yX11_takes cX11_takes 2 (some .boolean)]
def wsX11_sign_ : List Cond := .code yX11_sign_ cX11_sign_ 8 (some .int) :: ((wsX11_sign__r1 ++ (wsX11_sign__r2 ++ (wsX11_sign__r3 ++ (wsX11_sign__r4 ++ wsX11_sign__r5)))) ++ wsX110)
theorem il_X11_sign__1 : ∀ w ∈ wsX11_sign__r1, w ∈ wsX11_sign_ := fun w h => (List.mem_cons_of_mem _ (List.mem_append_left _ (List.mem_append_left _ h)))
theorem il_X11_sign__2 : ∀ w ∈ wsX11_sign__r2, w ∈ wsX11_sign_ := fun w h => (List.mem_cons_of_mem _ (List.mem_append_left _ (List.mem_append_right _ (List.mem_append_left _ h))))
theorem il_X11_sign__3 : ∀ w ∈ wsX11_sign__r3, w ∈ wsX11_sign_ := fun w h => (List.mem_cons_of_mem _ (List.mem_append_left _ (List.mem_append_right _ (List.mem_append_right _ (List.mem_append_left _ h)))))
theorem il_X11_sign__4 : ∀ w ∈ wsX11_sign__r4, w ∈ wsX11_sign_ := fun w h => (List.mem_cons_of_mem _ (List.mem_append_left _ (List.mem_append_right _ (List.mem_append_right _ (List.mem_append_right _ (List.mem_append_left _ h))))))
theorem il_X11_sign__5 : ∀ w ∈ wsX11_sign__r5, w ∈ wsX11_sign_ := fun w h => (List.mem_cons_of_mem _ (List.mem_append_left _ (List.mem_append_right _ (List.mem_append_right _ (List.mem_append_right _ (List.mem_append_right _ h))))))
theorem il_X11_sign__6 : ∀ w ∈ wsX110, w ∈ wsX11_sign_ := fun w h => (List.mem_cons_of_mem _ (List.mem_append_right _ h))
theorem iw_X11_sign__1 : Cond.fieldLink RX11 168 "ShipOfficeModel" "agreements" "I" ∈ wsX11_sign_ := (mmI il_X11_sign__1 0 rfl)
theorem iw_X11_sign__2 : Cond.fieldLink RX11 128 "ShipOfficeModel" "letters" "[I" ∈ wsX11_sign_ := (mmI il_X11_sign__1 4 rfl)
theorem iw_X11_sign__3 : Cond.fieldLink RX11 171 "ShipOfficeModel" "now" "I" ∈ wsX11_sign_ := (mmI il_X11_sign__1 5 rfl)
theorem iw_X11_sign__4 : Cond.fieldLink RX11 22 "ShipOfficeModel" "born" "[I" ∈ wsX11_sign_ := (mmI il_X11_sign__1 6 rfl)
theorem iw_X11_sign__5 : Cond.fieldLink RX11 70 "ShipOfficeModel" "man" "[I" ∈ wsX11_sign_ := (mmI il_X11_sign__1 3 rfl)
theorem iw_X11_sign__6 : Cond.fieldLink RX11 73 "ShipOfficeModel" "voyage" "[I" ∈ wsX11_sign_ := (mmI il_X11_sign__1 7 rfl)
theorem iw_X11_sign__7 : Cond.fieldLink RX11 76 "ShipOfficeModel" "wage" "[I" ∈ wsX11_sign_ := (mmI il_X11_sign__1 8 rfl)
theorem iw_X11_sign__8 : Cond.fieldLink RX11 79 "ShipOfficeModel" "rank" "[I" ∈ wsX11_sign_ := (mmI il_X11_sign__1 9 rfl)
theorem iw_X11_sign__9 : Cond.fieldLink RX11 82 "ShipOfficeModel" "paper" "[I" ∈ wsX11_sign_ := (mmI il_X11_sign__1 10 rfl)
theorem iw_X11_sign__10 : Cond.fieldLink RX11 85 "ShipOfficeModel" "signed" "[I" ∈ wsX11_sign_ := (mmI il_X11_sign__1 11 rfl)
theorem iw_X11_sign__11 : Cond.fieldLink RX11 88 "ShipOfficeModel" "offOn" "[I" ∈ wsX11_sign_ := (mmI il_X11_sign__1 2 rfl)
theorem iw_X11_sign__12 : Cond.fieldLink RX11 94 "ShipOfficeModel" "given" "[I" ∈ wsX11_sign_ := (mmI il_X11_sign__1 12 rfl)
theorem iw_X11_sign__13 : Cond.fieldLink RX11 37 "ShipOfficeModel" "endedOn" "[I" ∈ wsX11_sign_ := (mmI il_X11_sign__1 1 rfl)
set_option maxRecDepth 100000 in
theorem ggX11_refuseFar_X11_refuse : GoodIn wsX11_refuseFar wsX11_refuse := goodIn_sub (mmC (mmI il_X11_refuseFar_1 5 rfl) (mmA (mmC (mmI il_X11_refuseFar_1 6 rfl) mmN) il_X11_refuseFar_2)) gw_X11_refuse
theorem gX11_refuseFar_X11_refuse : GoodIn wsX11_refuseFar (wsV RX11 153 RX11 yX11_refuse wsX11_refuse) := goodIn_app (goodIn_sub (mmC (mmI il_X11_refuseFar_1 1 rfl) (mmC (mmI il_X11_refuseFar_1 2 rfl) (mmC (mmI il_X11_refuseFar_1 3 rfl) (mmC (mmI il_X11_refuseFar_1 4 rfl) mmN)))) (by decide +kernel)) ggX11_refuseFar_X11_refuse
theorem dX11_refuseFar_0 : decode cX11_refuseFar 0 = .ok (.ldc 152, 2) := by decide +kernel
theorem dX11_refuseFar_2 : decode cX11_refuseFar 2 = .ok (.aload_n 0, 1) := by decide +kernel
theorem dX11_refuseFar_3 : decode cX11_refuseFar 3 = .ok (.iload_n 1, 1) := by decide +kernel
theorem dX11_refuseFar_4 : decode cX11_refuseFar 4 = .ok (.invokevirtual 153, 3) := by decide +kernel
theorem dX11_refuseFar_7 : decode cX11_refuseFar 7 = .ok (.isub, 1) := by decide +kernel
theorem dX11_refuseFar_8 : decode cX11_refuseFar 8 = .ok (.ireturn, 1) := by decide +kernel
set_option maxRecDepth 100000 in
theorem ggX11_sign__X11_isMan : GoodIn wsX11_sign_ wsX11_isMan := goodIn_sub (mmC (mmI il_X11_sign__1 17 rfl) (mmA (mmC (mmI il_X11_sign__1 18 rfl) (mmC (mmI il_X11_sign__1 19 rfl) (mmC (mmI il_X11_sign__1 20 rfl) (mmC (mmI il_X11_sign__1 16 rfl) (mmC (mmI il_X11_sign__1 21 rfl) mmN))))) il_X11_sign__6)) gw_X11_isMan
theorem gX11_sign__X11_isMan : GoodIn wsX11_sign_ (wsV RX11 297 RX11 yX11_isMan wsX11_isMan) := goodIn_app (goodIn_sub (mmC (mmI il_X11_sign__1 13 rfl) (mmC (mmI il_X11_sign__1 14 rfl) (mmC (mmI il_X11_sign__1 15 rfl) (mmC (mmI il_X11_sign__1 16 rfl) mmN)))) (by decide +kernel)) ggX11_sign__X11_isMan
set_option maxRecDepth 100000 in
theorem ggX11_sign__X11_isVoyage : GoodIn wsX11_sign_ wsX11_isVoyage := goodIn_sub (mmC (mmI il_X11_sign__2 1 rfl) (mmA (mmC (mmI il_X11_sign__2 2 rfl) (mmC (mmI il_X11_sign__1 19 rfl) (mmC (mmI il_X11_sign__1 20 rfl) (mmC (mmI il_X11_sign__1 16 rfl) (mmC (mmI il_X11_sign__1 21 rfl) mmN))))) il_X11_sign__6)) gw_X11_isVoyage
theorem gX11_sign__X11_isVoyage : GoodIn wsX11_sign_ (wsV RX11 185 RX11 yX11_isVoyage wsX11_isVoyage) := goodIn_app (goodIn_sub (mmC (mmI il_X11_sign__1 22 rfl) (mmC (mmI il_X11_sign__1 23 rfl) (mmC (mmI il_X11_sign__2 0 rfl) (mmC (mmI il_X11_sign__1 16 rfl) mmN)))) (by decide +kernel)) ggX11_sign__X11_isVoyage
set_option maxRecDepth 100000 in
theorem ggX11_sign__X11_isAgreement : GoodIn wsX11_sign_ wsX11_isAgreement := goodIn_sub (mmC (mmI il_X11_sign__2 6 rfl) (mmA (mmC (mmI il_X11_sign__1 0 rfl) (mmC (mmI il_X11_sign__1 19 rfl) (mmC (mmI il_X11_sign__1 20 rfl) (mmC (mmI il_X11_sign__1 16 rfl) (mmC (mmI il_X11_sign__1 21 rfl) mmN))))) il_X11_sign__6)) gw_X11_isAgreement
theorem gX11_sign__X11_isAgreement : GoodIn wsX11_sign_ (wsV RX11 199 RX11 yX11_isAgreement wsX11_isAgreement) := goodIn_app (goodIn_sub (mmC (mmI il_X11_sign__2 3 rfl) (mmC (mmI il_X11_sign__2 4 rfl) (mmC (mmI il_X11_sign__2 5 rfl) (mmC (mmI il_X11_sign__1 16 rfl) mmN)))) (by decide +kernel)) ggX11_sign__X11_isAgreement
set_option maxRecDepth 100000 in
theorem ggX11_sign__X11_refuse : GoodIn wsX11_sign_ wsX11_refuse := goodIn_sub (mmC (mmI il_X11_sign__2 10 rfl) (mmA (mmC (mmI il_X11_sign__2 11 rfl) mmN) il_X11_sign__6)) gw_X11_refuse
theorem gX11_sign__X11_refuse : GoodIn wsX11_sign_ (wsV RX11 153 RX11 yX11_refuse wsX11_refuse) := goodIn_app (goodIn_sub (mmC (mmI il_X11_sign__2 7 rfl) (mmC (mmI il_X11_sign__2 8 rfl) (mmC (mmI il_X11_sign__2 9 rfl) (mmC (mmI il_X11_sign__1 16 rfl) mmN)))) (by decide +kernel)) ggX11_sign__X11_refuse
set_option maxRecDepth 100000 in
theorem ggX11_sign__X11_wasTold : GoodIn wsX11_sign_ wsX11_wasTold := goodIn_sub (mmC (mmI il_X11_sign__2 15 rfl) (mmA (mmC (mmI il_X11_sign__2 16 rfl) (mmC (mmI il_X11_sign__2 17 rfl) (mmC (mmI il_X11_sign__2 18 rfl) mmN))) il_X11_sign__6)) gw_X11_wasTold
theorem gX11_sign__X11_wasTold : GoodIn wsX11_sign_ (wsV RX11 182 RX11 yX11_wasTold wsX11_wasTold) := goodIn_app (goodIn_sub (mmC (mmI il_X11_sign__2 12 rfl) (mmC (mmI il_X11_sign__2 13 rfl) (mmC (mmI il_X11_sign__2 14 rfl) (mmC (mmI il_X11_sign__1 16 rfl) mmN)))) (by decide +kernel)) ggX11_sign__X11_wasTold
set_option maxRecDepth 100000 in
theorem ggX11_sign__X11_goesOn : GoodIn wsX11_sign_ wsX11_goesOn := goodIn_sub (mmC (mmI il_X11_sign__2 22 rfl) (mmA (mmC (mmI il_X11_sign__1 2 rfl) (mmC (mmI il_X11_sign__1 7 rfl) (mmC (mmI il_X11_sign__2 12 rfl) (mmC (mmI il_X11_sign__2 13 rfl) (mmC (mmI il_X11_sign__2 14 rfl) (mmC (mmI il_X11_sign__1 16 rfl) (mmC (mmI il_X11_sign__2 15 rfl) (mmC (mmI il_X11_sign__2 16 rfl) (mmC (mmI il_X11_sign__2 17 rfl) (mmC (mmI il_X11_sign__2 18 rfl) mmN)))))))))) il_X11_sign__6)) gw_X11_goesOn
theorem gX11_sign__X11_goesOn : GoodIn wsX11_sign_ (wsV RX11 188 RX11 yX11_goesOn wsX11_goesOn) := goodIn_app (goodIn_sub (mmC (mmI il_X11_sign__2 19 rfl) (mmC (mmI il_X11_sign__2 20 rfl) (mmC (mmI il_X11_sign__2 21 rfl) (mmC (mmI il_X11_sign__1 16 rfl) mmN)))) (by decide +kernel)) ggX11_sign__X11_goesOn
set_option maxRecDepth 100000 in
theorem ggX11_sign__X11_bare : GoodIn wsX11_sign_ wsX11_bare := goodIn_sub (mmC (mmI il_X11_sign__3 2 rfl) (mmA (mmC (mmI il_X11_sign__1 4 rfl) mmN) il_X11_sign__6)) gw_X11_bare
theorem gX11_sign__X11_bare : GoodIn wsX11_sign_ (wsV RX11 275 RX11 yX11_bare wsX11_bare) := goodIn_app (goodIn_sub (mmC (mmI il_X11_sign__2 23 rfl) (mmC (mmI il_X11_sign__3 0 rfl) (mmC (mmI il_X11_sign__3 1 rfl) (mmC (mmI il_X11_sign__1 16 rfl) mmN)))) (by decide +kernel)) ggX11_sign__X11_bare
set_option maxRecDepth 100000 in
theorem ggX11_sign__X11_worth : GoodIn wsX11_sign_ wsX11_worth := goodIn_sub (mmC (mmI il_X11_sign__3 6 rfl) (mmA (mmA (mmC (mmI il_X11_sign__3 7 rfl) (mmC (mmI il_X11_sign__1 4 rfl) (mmC (mmI il_X11_sign__3 8 rfl) (mmC (mmI il_X11_sign__3 9 rfl) (mmC (mmI il_X11_sign__3 10 rfl) (mmC (mmI il_X11_sign__1 16 rfl) (mmC (mmI il_X11_sign__3 11 rfl) (mmC (mmI il_X11_sign__3 12 rfl) (mmC (mmI il_X11_sign__3 13 rfl) (mmC (mmI il_X11_sign__3 14 rfl) (mmC (mmI il_X11_sign__3 15 rfl) (mmC (mmI il_X11_sign__3 16 rfl) (mmC (mmI il_X11_sign__3 17 rfl) (mmC (mmI il_X11_sign__3 18 rfl) (mmC (mmI il_X11_sign__3 19 rfl) (mmC (mmI il_X11_sign__3 20 rfl) (mmC (mmI il_X11_sign__3 21 rfl) (mmC (mmI il_X11_sign__3 22 rfl) (mmC (mmI il_X11_sign__3 23 rfl) (mmC (mmI il_X11_sign__4 0 rfl) (mmC (mmI il_X11_sign__4 1 rfl) (mmC (mmI il_X11_sign__4 2 rfl) (mmC (mmI il_X11_sign__4 3 rfl) (mmC (mmI il_X11_sign__4 4 rfl) mmN)))))))))))))))))))))))) (mmA (mmC (mmI il_X11_sign__4 5 rfl) (mmC (mmI il_X11_sign__4 6 rfl) (mmC (mmI il_X11_sign__4 7 rfl) (mmC (mmI il_X11_sign__4 8 rfl) (mmC (mmI il_X11_sign__4 9 rfl) (mmC (mmI il_X11_sign__4 10 rfl) (mmC (mmI il_X11_sign__4 11 rfl) (mmC (mmI il_X11_sign__4 12 rfl) (mmC (mmI il_X11_sign__4 13 rfl) (mmC (mmI il_X11_sign__4 14 rfl) (mmC (mmI il_X11_sign__4 15 rfl) (mmC (mmI il_X11_sign__4 16 rfl) (mmC (mmI il_X11_sign__4 17 rfl) (mmC (mmI il_X11_sign__4 18 rfl) (mmC (mmI il_X11_sign__4 19 rfl) (mmC (mmI il_X11_sign__4 20 rfl) (mmC (mmI il_X11_sign__4 21 rfl) (mmC (mmI il_X11_sign__4 22 rfl) (mmC (mmI il_X11_sign__4 23 rfl) (mmC (mmI il_X11_sign__5 0 rfl) (mmC (mmI il_X11_sign__5 1 rfl) (mmC (mmI il_X11_sign__5 2 rfl) (mmC (mmI il_X11_sign__5 3 rfl) (mmC (mmI il_X11_sign__5 4 rfl) mmN)))))))))))))))))))))))) (mmC (mmI il_X11_sign__5 5 rfl) (mmC (mmI il_X11_sign__5 6 rfl) (mmC (mmI il_X11_sign__5 7 rfl) (mmC (mmI il_X11_sign__5 8 rfl) (mmC (mmI il_X11_sign__5 9 rfl) mmN))))))) il_X11_sign__6)) gw_X11_worth
theorem gX11_sign__X11_worth : GoodIn wsX11_sign_ (wsV RX11 285 RX11 yX11_worth wsX11_worth) := goodIn_app (goodIn_sub (mmC (mmI il_X11_sign__3 3 rfl) (mmC (mmI il_X11_sign__3 4 rfl) (mmC (mmI il_X11_sign__3 5 rfl) (mmC (mmI il_X11_sign__1 16 rfl) mmN)))) (by decide +kernel)) ggX11_sign__X11_worth
theorem dX11_sign__0 : decode cX11_sign_ 0 = .ok (.aload_n 0, 1) := by decide +kernel
theorem dX11_sign__1 : decode cX11_sign_ 1 = .ok (.iload_n 1, 1) := by decide +kernel
theorem dX11_sign__2 : decode cX11_sign_ 2 = .ok (.invokevirtual 297, 3) := by decide +kernel
theorem dX11_sign__5 : decode cX11_sign_ 5 = .ok (.ifCond .eq 26, 3) := by decide +kernel
theorem dX11_sign__8 : decode cX11_sign_ 8 = .ok (.aload_n 0, 1) := by decide +kernel
theorem dX11_sign__9 : decode cX11_sign_ 9 = .ok (.iload_n 2, 1) := by decide +kernel
theorem dX11_sign__10 : decode cX11_sign_ 10 = .ok (.invokevirtual 185, 3) := by decide +kernel
theorem dX11_sign__13 : decode cX11_sign_ 13 = .ok (.ifCond .eq 18, 3) := by decide +kernel
theorem dX11_sign__16 : decode cX11_sign_ 16 = .ok (.iload 5, 2) := by decide +kernel
theorem dX11_sign__18 : decode cX11_sign_ 18 = .ok (.iconst (-1), 1) := by decide +kernel
theorem dX11_sign__19 : decode cX11_sign_ 19 = .ok (.if_icmp .eq 18, 3) := by decide +kernel
theorem dX11_sign__22 : decode cX11_sign_ 22 = .ok (.aload_n 0, 1) := by decide +kernel
theorem dX11_sign__23 : decode cX11_sign_ 23 = .ok (.iload 5, 2) := by decide +kernel
theorem dX11_sign__25 : decode cX11_sign_ 25 = .ok (.invokevirtual 199, 3) := by decide +kernel
theorem dX11_sign__28 : decode cX11_sign_ 28 = .ok (.ifCond .ne 9, 3) := by decide +kernel
theorem dX11_sign__31 : decode cX11_sign_ 31 = .ok (.aload_n 0, 1) := by decide +kernel
theorem dX11_sign__32 : decode cX11_sign_ 32 = .ok (.iconst (-1), 1) := by decide +kernel
theorem dX11_sign__33 : decode cX11_sign_ 33 = .ok (.invokevirtual 153, 3) := by decide +kernel
theorem dX11_sign__36 : decode cX11_sign_ 36 = .ok (.ireturn, 1) := by decide +kernel
theorem dX11_sign__37 : decode cX11_sign_ 37 = .ok (.iload_n 3, 1) := by decide +kernel
theorem dX11_sign__38 : decode cX11_sign_ 38 = .ok (.iconst 1, 1) := by decide +kernel
theorem dX11_sign__39 : decode cX11_sign_ 39 = .ok (.if_icmp .lt 8, 3) := by decide +kernel
theorem dX11_sign__42 : decode cX11_sign_ 42 = .ok (.iload 4, 2) := by decide +kernel
theorem dX11_sign__44 : decode cX11_sign_ 44 = .ok (.ifCond .ge 10, 3) := by decide +kernel
theorem dX11_sign__47 : decode cX11_sign_ 47 = .ok (.aload_n 0, 1) := by decide +kernel
theorem dX11_sign__48 : decode cX11_sign_ 48 = .ok (.bipush (-4), 2) := by decide +kernel
theorem dX11_sign__50 : decode cX11_sign_ 50 = .ok (.invokevirtual 153, 3) := by decide +kernel
theorem dX11_sign__53 : decode cX11_sign_ 53 = .ok (.ireturn, 1) := by decide +kernel
theorem dX11_sign__54 : decode cX11_sign_ 54 = .ok (.iload_n 3, 1) := by decide +kernel
theorem dX11_sign__55 : decode cX11_sign_ 55 = .ok (.sipush 9999, 3) := by decide +kernel
theorem dX11_sign__58 : decode cX11_sign_ 58 = .ok (.if_icmp .gt 18, 3) := by decide +kernel
theorem dX11_sign__61 : decode cX11_sign_ 61 = .ok (.iload 4, 2) := by decide +kernel
theorem dX11_sign__63 : decode cX11_sign_ 63 = .ok (.iconst 3, 1) := by decide +kernel
theorem dX11_sign__64 : decode cX11_sign_ 64 = .ok (.if_icmp .gt 12, 3) := by decide +kernel
theorem dX11_sign__67 : decode cX11_sign_ 67 = .ok (.aload_n 0, 1) := by decide +kernel
theorem dX11_sign__68 : decode cX11_sign_ 68 = .ok (.getfield 168, 3) := by decide +kernel
theorem dX11_sign__71 : decode cX11_sign_ 71 = .ok (.bipush 60, 2) := by decide +kernel
theorem dX11_sign__73 : decode cX11_sign_ 73 = .ok (.if_icmp .ne 10, 3) := by decide +kernel
theorem dX11_sign__76 : decode cX11_sign_ 76 = .ok (.aload_n 0, 1) := by decide +kernel
theorem dX11_sign__77 : decode cX11_sign_ 77 = .ok (.bipush (-6), 2) := by decide +kernel
theorem dX11_sign__79 : decode cX11_sign_ 79 = .ok (.invokevirtual 153, 3) := by decide +kernel
theorem dX11_sign__82 : decode cX11_sign_ 82 = .ok (.ireturn, 1) := by decide +kernel
theorem dX11_sign__83 : decode cX11_sign_ 83 = .ok (.aload_n 0, 1) := by decide +kernel
theorem dX11_sign__84 : decode cX11_sign_ 84 = .ok (.getfield 37, 3) := by decide +kernel
theorem dX11_sign__87 : decode cX11_sign_ 87 = .ok (.iload_n 2, 1) := by decide +kernel
theorem dX11_sign__88 : decode cX11_sign_ 88 = .ok (.iaload, 1) := by decide +kernel
theorem dX11_sign__89 : decode cX11_sign_ 89 = .ok (.ifCond .ge 40, 3) := by decide +kernel
theorem dX11_sign__92 : decode cX11_sign_ 92 = .ok (.aload_n 0, 1) := by decide +kernel
theorem dX11_sign__93 : decode cX11_sign_ 93 = .ok (.iconst 0, 1) := by decide +kernel
theorem dX11_sign__94 : decode cX11_sign_ 94 = .ok (.iload_n 2, 1) := by decide +kernel
theorem dX11_sign__95 : decode cX11_sign_ 95 = .ok (.invokevirtual 182, 3) := by decide +kernel
theorem dX11_sign__98 : decode cX11_sign_ 98 = .ok (.ifCond .ne 31, 3) := by decide +kernel
theorem dX11_sign__101 : decode cX11_sign_ 101 = .ok (.aload_n 0, 1) := by decide +kernel
theorem dX11_sign__102 : decode cX11_sign_ 102 = .ok (.iconst 2, 1) := by decide +kernel
theorem dX11_sign__103 : decode cX11_sign_ 103 = .ok (.iload_n 2, 1) := by decide +kernel
theorem dX11_sign__104 : decode cX11_sign_ 104 = .ok (.invokevirtual 182, 3) := by decide +kernel
theorem dX11_sign__107 : decode cX11_sign_ 107 = .ok (.ifCond .ne 22, 3) := by decide +kernel
theorem dX11_sign__110 : decode cX11_sign_ 110 = .ok (.iload 5, 2) := by decide +kernel
theorem dX11_sign__112 : decode cX11_sign_ 112 = .ok (.ifCond .lt 13, 3) := by decide +kernel
theorem dX11_sign__115 : decode cX11_sign_ 115 = .ok (.aload_n 0, 1) := by decide +kernel
theorem dX11_sign__116 : decode cX11_sign_ 116 = .ok (.getfield 88, 3) := by decide +kernel
theorem dX11_sign__119 : decode cX11_sign_ 119 = .ok (.iload 5, 2) := by decide +kernel
theorem dX11_sign__121 : decode cX11_sign_ 121 = .ok (.iaload, 1) := by decide +kernel
theorem dX11_sign__122 : decode cX11_sign_ 122 = .ok (.ifCond .lt 7, 3) := by decide +kernel
theorem dX11_sign__125 : decode cX11_sign_ 125 = .ok (.iconst 1, 1) := by decide +kernel
theorem dX11_sign__126 : decode cX11_sign_ 126 = .ok (.goto 4, 3) := by decide +kernel
theorem dX11_sign__129 : decode cX11_sign_ 129 = .ok (.iconst 0, 1) := by decide +kernel
theorem dX11_sign__130 : decode cX11_sign_ 130 = .ok (.istore 6, 2) := by decide +kernel
theorem dX11_sign__132 : decode cX11_sign_ 132 = .ok (.iconst 0, 1) := by decide +kernel
theorem dX11_sign__133 : decode cX11_sign_ 133 = .ok (.istore 7, 2) := by decide +kernel
theorem dX11_sign__135 : decode cX11_sign_ 135 = .ok (.iload 7, 2) := by decide +kernel
theorem dX11_sign__137 : decode cX11_sign_ 137 = .ok (.aload_n 0, 1) := by decide +kernel
theorem dX11_sign__138 : decode cX11_sign_ 138 = .ok (.getfield 168, 3) := by decide +kernel
theorem dX11_sign__141 : decode cX11_sign_ 141 = .ok (.if_icmp .ge 41, 3) := by decide +kernel
theorem dX11_sign__144 : decode cX11_sign_ 144 = .ok (.iload 6, 2) := by decide +kernel
theorem dX11_sign__146 : decode cX11_sign_ 146 = .ok (.ifCond .eq 27, 3) := by decide +kernel
theorem dX11_sign__149 : decode cX11_sign_ 149 = .ok (.aload_n 0, 1) := by decide +kernel
theorem dX11_sign__150 : decode cX11_sign_ 150 = .ok (.getfield 70, 3) := by decide +kernel
theorem dX11_sign__153 : decode cX11_sign_ 153 = .ok (.iload 7, 2) := by decide +kernel
theorem dX11_sign__155 : decode cX11_sign_ 155 = .ok (.iaload, 1) := by decide +kernel
theorem dX11_sign__156 : decode cX11_sign_ 156 = .ok (.iload_n 1, 1) := by decide +kernel
theorem dX11_sign__157 : decode cX11_sign_ 157 = .ok (.if_icmp .ne 12, 3) := by decide +kernel
theorem dX11_sign__160 : decode cX11_sign_ 160 = .ok (.aload_n 0, 1) := by decide +kernel
theorem dX11_sign__161 : decode cX11_sign_ 161 = .ok (.iload 7, 2) := by decide +kernel
theorem dX11_sign__163 : decode cX11_sign_ 163 = .ok (.invokevirtual 188, 3) := by decide +kernel
theorem dX11_sign__166 : decode cX11_sign_ 166 = .ok (.ifCond .ne 7, 3) := by decide +kernel
theorem dX11_sign__169 : decode cX11_sign_ 169 = .ok (.iconst 1, 1) := by decide +kernel
theorem dX11_sign__170 : decode cX11_sign_ 170 = .ok (.goto 4, 3) := by decide +kernel
theorem dX11_sign__173 : decode cX11_sign_ 173 = .ok (.iconst 0, 1) := by decide +kernel
theorem dX11_sign__174 : decode cX11_sign_ 174 = .ok (.istore 6, 2) := by decide +kernel
theorem dX11_sign__176 : decode cX11_sign_ 176 = .ok (.iinc 7 1, 3) := by decide +kernel
theorem dX11_sign__179 : decode cX11_sign_ 179 = .ok (.goto (-44), 3) := by decide +kernel
theorem dX11_sign__182 : decode cX11_sign_ 182 = .ok (.iload 6, 2) := by decide +kernel
theorem dX11_sign__184 : decode cX11_sign_ 184 = .ok (.ifCond .ne 10, 3) := by decide +kernel
theorem dX11_sign__187 : decode cX11_sign_ 187 = .ok (.aload_n 0, 1) := by decide +kernel
theorem dX11_sign__188 : decode cX11_sign_ 188 = .ok (.bipush (-3), 2) := by decide +kernel
theorem dX11_sign__190 : decode cX11_sign_ 190 = .ok (.invokevirtual 153, 3) := by decide +kernel
theorem dX11_sign__193 : decode cX11_sign_ 193 = .ok (.ireturn, 1) := by decide +kernel
theorem dX11_sign__194 : decode cX11_sign_ 194 = .ok (.aload_n 0, 1) := by decide +kernel
theorem dX11_sign__195 : decode cX11_sign_ 195 = .ok (.invokevirtual 275, 3) := by decide +kernel
theorem dX11_sign__198 : decode cX11_sign_ 198 = .ok (.aload_n 0, 1) := by decide +kernel
theorem dX11_sign__199 : decode cX11_sign_ 199 = .ok (.getfield 128, 3) := by decide +kernel
theorem dX11_sign__202 : decode cX11_sign_ 202 = .ok (.bipush 119, 2) := by decide +kernel
theorem dX11_sign__204 : decode cX11_sign_ 204 = .ok (.iload_n 3, 1) := by decide +kernel
theorem dX11_sign__205 : decode cX11_sign_ 205 = .ok (.iastore, 1) := by decide +kernel
theorem dX11_sign__206 : decode cX11_sign_ 206 = .ok (.aload_n 0, 1) := by decide +kernel
theorem dX11_sign__207 : decode cX11_sign_ 207 = .ok (.getfield 128, 3) := by decide +kernel
theorem dX11_sign__210 : decode cX11_sign_ 210 = .ok (.bipush 114, 2) := by decide +kernel
theorem dX11_sign__212 : decode cX11_sign_ 212 = .ok (.iload 4, 2) := by decide +kernel
theorem dX11_sign__214 : decode cX11_sign_ 214 = .ok (.iastore, 1) := by decide +kernel
theorem dX11_sign__215 : decode cX11_sign_ 215 = .ok (.aload_n 0, 1) := by decide +kernel
theorem dX11_sign__216 : decode cX11_sign_ 216 = .ok (.getfield 128, 3) := by decide +kernel
theorem dX11_sign__219 : decode cX11_sign_ 219 = .ok (.bipush 97, 2) := by decide +kernel
theorem dX11_sign__221 : decode cX11_sign_ 221 = .ok (.aload_n 0, 1) := by decide +kernel
theorem dX11_sign__222 : decode cX11_sign_ 222 = .ok (.getfield 171, 3) := by decide +kernel
theorem dX11_sign__225 : decode cX11_sign_ 225 = .ok (.aload_n 0, 1) := by decide +kernel
theorem dX11_sign__226 : decode cX11_sign_ 226 = .ok (.getfield 22, 3) := by decide +kernel
theorem dX11_sign__229 : decode cX11_sign_ 229 = .ok (.iload_n 1, 1) := by decide +kernel
theorem dX11_sign__230 : decode cX11_sign_ 230 = .ok (.iaload, 1) := by decide +kernel
theorem dX11_sign__231 : decode cX11_sign_ 231 = .ok (.isub, 1) := by decide +kernel
theorem dX11_sign__232 : decode cX11_sign_ 232 = .ok (.sipush 365, 3) := by decide +kernel
theorem dX11_sign__235 : decode cX11_sign_ 235 = .ok (.idiv, 1) := by decide +kernel
theorem dX11_sign__236 : decode cX11_sign_ 236 = .ok (.iastore, 1) := by decide +kernel
theorem dX11_sign__237 : decode cX11_sign_ 237 = .ok (.aload_n 0, 1) := by decide +kernel
theorem dX11_sign__238 : decode cX11_sign_ 238 = .ok (.iconst 0, 1) := by decide +kernel
theorem dX11_sign__239 : decode cX11_sign_ 239 = .ok (.aload_n 0, 1) := by decide +kernel
theorem dX11_sign__240 : decode cX11_sign_ 240 = .ok (.getfield 171, 3) := by decide +kernel
theorem dX11_sign__243 : decode cX11_sign_ 243 = .ok (.invokevirtual 285, 3) := by decide +kernel
theorem dX11_sign__246 : decode cX11_sign_ 246 = .ok (.ifCond .gt 10, 3) := by decide +kernel
theorem dX11_sign__249 : decode cX11_sign_ 249 = .ok (.aload_n 0, 1) := by decide +kernel
theorem dX11_sign__250 : decode cX11_sign_ 250 = .ok (.bipush (-3), 2) := by decide +kernel
theorem dX11_sign__252 : decode cX11_sign_ 252 = .ok (.invokevirtual 153, 3) := by decide +kernel
theorem dX11_sign__255 : decode cX11_sign_ 255 = .ok (.ireturn, 1) := by decide +kernel
theorem dX11_sign__256 : decode cX11_sign_ 256 = .ok (.aload_n 0, 1) := by decide +kernel
theorem dX11_sign__257 : decode cX11_sign_ 257 = .ok (.getfield 168, 3) := by decide +kernel
theorem dX11_sign__260 : decode cX11_sign_ 260 = .ok (.istore 7, 2) := by decide +kernel
theorem dX11_sign__262 : decode cX11_sign_ 262 = .ok (.aload_n 0, 1) := by decide +kernel
theorem dX11_sign__263 : decode cX11_sign_ 263 = .ok (.dup, 1) := by decide +kernel
theorem dX11_sign__264 : decode cX11_sign_ 264 = .ok (.getfield 168, 3) := by decide +kernel
theorem dX11_sign__267 : decode cX11_sign_ 267 = .ok (.iconst 1, 1) := by decide +kernel
theorem dX11_sign__268 : decode cX11_sign_ 268 = .ok (.iadd, 1) := by decide +kernel
theorem dX11_sign__269 : decode cX11_sign_ 269 = .ok (.putfield 168, 3) := by decide +kernel
theorem dX11_sign__272 : decode cX11_sign_ 272 = .ok (.aload_n 0, 1) := by decide +kernel
theorem dX11_sign__273 : decode cX11_sign_ 273 = .ok (.getfield 70, 3) := by decide +kernel
theorem dX11_sign__276 : decode cX11_sign_ 276 = .ok (.iload 7, 2) := by decide +kernel
theorem dX11_sign__278 : decode cX11_sign_ 278 = .ok (.iload_n 1, 1) := by decide +kernel
theorem dX11_sign__279 : decode cX11_sign_ 279 = .ok (.iastore, 1) := by decide +kernel
theorem dX11_sign__280 : decode cX11_sign_ 280 = .ok (.aload_n 0, 1) := by decide +kernel
theorem dX11_sign__281 : decode cX11_sign_ 281 = .ok (.getfield 73, 3) := by decide +kernel
theorem dX11_sign__284 : decode cX11_sign_ 284 = .ok (.iload 7, 2) := by decide +kernel
theorem dX11_sign__286 : decode cX11_sign_ 286 = .ok (.iload_n 2, 1) := by decide +kernel
theorem dX11_sign__287 : decode cX11_sign_ 287 = .ok (.iastore, 1) := by decide +kernel
theorem dX11_sign__288 : decode cX11_sign_ 288 = .ok (.aload_n 0, 1) := by decide +kernel
theorem dX11_sign__289 : decode cX11_sign_ 289 = .ok (.getfield 76, 3) := by decide +kernel
theorem dX11_sign__292 : decode cX11_sign_ 292 = .ok (.iload 7, 2) := by decide +kernel
theorem dX11_sign__294 : decode cX11_sign_ 294 = .ok (.iload_n 3, 1) := by decide +kernel
theorem dX11_sign__295 : decode cX11_sign_ 295 = .ok (.iastore, 1) := by decide +kernel
theorem dX11_sign__296 : decode cX11_sign_ 296 = .ok (.aload_n 0, 1) := by decide +kernel
theorem dX11_sign__297 : decode cX11_sign_ 297 = .ok (.getfield 79, 3) := by decide +kernel
theorem dX11_sign__300 : decode cX11_sign_ 300 = .ok (.iload 7, 2) := by decide +kernel
theorem dX11_sign__302 : decode cX11_sign_ 302 = .ok (.iload 4, 2) := by decide +kernel
theorem dX11_sign__304 : decode cX11_sign_ 304 = .ok (.iastore, 1) := by decide +kernel
theorem dX11_sign__305 : decode cX11_sign_ 305 = .ok (.aload_n 0, 1) := by decide +kernel
theorem dX11_sign__306 : decode cX11_sign_ 306 = .ok (.getfield 82, 3) := by decide +kernel
theorem dX11_sign__309 : decode cX11_sign_ 309 = .ok (.iload 7, 2) := by decide +kernel
theorem dX11_sign__311 : decode cX11_sign_ 311 = .ok (.iload 5, 2) := by decide +kernel
theorem dX11_sign__313 : decode cX11_sign_ 313 = .ok (.iastore, 1) := by decide +kernel
theorem dX11_sign__314 : decode cX11_sign_ 314 = .ok (.aload_n 0, 1) := by decide +kernel
theorem dX11_sign__315 : decode cX11_sign_ 315 = .ok (.getfield 85, 3) := by decide +kernel
theorem dX11_sign__318 : decode cX11_sign_ 318 = .ok (.iload 7, 2) := by decide +kernel
theorem dX11_sign__320 : decode cX11_sign_ 320 = .ok (.aload_n 0, 1) := by decide +kernel
theorem dX11_sign__321 : decode cX11_sign_ 321 = .ok (.getfield 171, 3) := by decide +kernel
theorem dX11_sign__324 : decode cX11_sign_ 324 = .ok (.iastore, 1) := by decide +kernel
theorem dX11_sign__325 : decode cX11_sign_ 325 = .ok (.aload_n 0, 1) := by decide +kernel
theorem dX11_sign__326 : decode cX11_sign_ 326 = .ok (.getfield 88, 3) := by decide +kernel
theorem dX11_sign__329 : decode cX11_sign_ 329 = .ok (.iload 7, 2) := by decide +kernel
theorem dX11_sign__331 : decode cX11_sign_ 331 = .ok (.iconst (-1), 1) := by decide +kernel
theorem dX11_sign__332 : decode cX11_sign_ 332 = .ok (.iastore, 1) := by decide +kernel
theorem dX11_sign__333 : decode cX11_sign_ 333 = .ok (.aload_n 0, 1) := by decide +kernel
theorem dX11_sign__334 : decode cX11_sign_ 334 = .ok (.getfield 94, 3) := by decide +kernel
theorem dX11_sign__337 : decode cX11_sign_ 337 = .ok (.iload 7, 2) := by decide +kernel
theorem dX11_sign__339 : decode cX11_sign_ 339 = .ok (.bipush (-9), 2) := by decide +kernel
theorem dX11_sign__341 : decode cX11_sign_ 341 = .ok (.iastore, 1) := by decide +kernel
theorem dX11_sign__342 : decode cX11_sign_ 342 = .ok (.iload 7, 2) := by decide +kernel
theorem dX11_sign__344 : decode cX11_sign_ 344 = .ok (.ireturn, 1) := by decide +kernel
theorem in_wsX11_sign__X11 : ∀ w ∈ wsX110, w ∈ wsX11_sign_ := fun w h => List.mem_cons_of_mem _ (List.mem_append_right _ h)

set_option maxHeartbeats 4000000 in
set_option maxRecDepth 100000 in
theorem c_X11_refuseFar (l : Launch) (dC : Nat → ClassId) (dI : Nat → Nat → Nat) (sz : Nat) (g0 : Nat) (pq : Nat → Nat) (cp : Nat → ClassId) (v : Nat → Int32) (fa : Nat → Nat → Int32) (gV : mV v) (gA : mA fa) (x1 : Int32) (hx1 : -6 ≤ x1.toInt ∧ x1.toInt ≤ 0) : Met l yX11_refuseFar wsX11_refuseFar ({ frames := 1, cells := 0, slots := 0, locals := 21 }) (va_Pc [.ref g0, .int x1] (pcW (dC, dI) (mT cp) (mW g0 pq cp v fa) sz)) (va_Qi (fun (r : Int32) (u : (Nat → Int32) × (Nat → Nat → Int32)) => mV u.1 ∧ mA u.2 ∧ mX [0] v fa u.1 u.2) (fun u t => va_P (dC, dI) vwCl (mW g0 pq cp u.1 u.2) t.heap ∧ va_K (dC, dI) vwCl (mT cp) t ∧ va_D (va_A (mW g0 pq cp v fa) sz) (mW g0 pq cp u.1 u.2)) (va_A (mW g0 pq cp v fa) sz)) 0 0 (va_A (mW g0 pq cp v fa) sz) := by
  refine Met.ofW (cc := cX11_refuseFar) (maxL := 2) (ret := (some .int)) (by decide +kernel) rfl ?_
  intro p e s m args below meth c s₁ B hml hv
  obtain ⟨rfl, hsz, hP, hK, hD0⟩ := hv
  have hx := B.exec
  have hb := B.bytes
  have hr := B.returns
  have hts := atoms_spec (ws := wsX11_refuseFar) B.pre
  have hown : s.vm.findClass RX11 = some m.cls := findClass_of_methodNamed B.named
  have hlocks := B.notSynchronized
  subst hsz
  have hD := hD0.self (sz := s.heap.size)
  generalize hAe : va_A (mW g0 pq cp v fa) s.heap.size = A at hD ⊢
  have hA : ∀ q : Nat, s.heap.size ≤ q → A q := fun q h => by rw [← hAe]; exact Or.inr h
  have hS : va_S A s.heap s.heap [] := va_S.rf
  have hP : va_P (dC, dI) vwCl (mW g0 pq cp v fa) s.heap := hP
  have hl := lv_entry ([.ref g0, .int x1]) (n := 2) (Nat.le_of_ble_eq_true rfl)
  rw [lg_entry_eq]
  generalize (lg_sl ([.ref g0, .int x1]) ++ List.replicate (2 - (lg_sl ([.ref g0, .int x1])).length) Slot.unset).toArray = ls at hl ⊢
  have hl : lv_has ls 2 [(0, .ref g0), (1, .int x1)] := hl
  refine lv_ldc (v := 1000000000) hx hb hown (hts (.constant RX11 152 (1000000000)) (by decide +kernel)) dX11_refuseFar_0 ?_
  refine lv_aload_n hx hb dX11_refuseFar_2 rfl (lv_at hl 0 rfl) ?_
  refine lv_iload_n hx hb dX11_refuseFar_3 rfl (lv_at hl 1 rfl) ?_
  have hFc := va_free (wc := (mW g0 pq cp v fa)) hD hS hA (List.range 48) rfl
  refine va_calli (va_runV (As := [.int x1]) (rest := [.int 1000000000]) ⟨hx, hb, hml, hown, hts⟩ (c_X11_refuse l dC dI s.heap.size g0 pq cp v fa x1 (by apply vp_in_iff.mpr; rw [ng_i (x := x1) rfl (by omega) (by omega)]; omega)) (cwV 1 hts gX11_refuseFar_X11_refuse rfl rfl rfl (by decide +kernel) ⟨(Nat.le_of_ble_eq_true rfl), (Nat.le_of_ble_eq_true rfl)⟩) (pr_V (r := (RX11, TX11, 63)) hP hK hD 0 11 rfl rfl) rfl rfl hl.1 rfl (lv_room (Nat.le_of_ble_eq_true rfl)) dX11_refuseFar_4 ⟨(Nat.le_of_ble_eq_true rfl), (Nat.le_of_ble_eq_true rfl)⟩) hS (fun q _ h => hFc q h) hFc (fun r_2 u t H locs ht hvm w_1 hB hz1 hk1 hS => ?_)
  obtain ⟨v_3, fa_4⟩ := u
  obtain ⟨hP1, hK1, hD1⟩ := hB
  rw [ht] at hP1
  have hP : va_P (dC, dI) vwCl (mW g0 pq cp v_3 fa_4) H := hP1
  have hD : va_D A (mW g0 pq cp v_3 fa_4) := hD1.weaken (fun _ _ _ h => hFc _ h)
  clear hP1 hK1 hD1 hk1 hz1 hvm ht hFc
  obtain ⟨-, w_1⟩ := w_1
  have hVv_3 : mV v_3 := sm0_V w_1 gV
  have hAv_3 : mA fa_4 := sm0_A w_1 gA
  have hRv_3 : mX [0] v fa v_3 fa_4 := mX.st mX.rf (mX.s0 w_1) (by decide +kernel)
  refine lv_isub hx hb dX11_refuseFar_7 ?_
  refine lv_topi (fun x_5 ex_5 => ?_)
  clear ex_5
  exact W.iret (v := x_5) hx hb hr (fun t ht hW => ⟨⟨x_5, (v_3, fa_4), rfl, ⟨hVv_3, hAv_3, hRv_3⟩, ⟨by rw [ht]; exact hP, va_K.moved hW.alike hK, hD⟩⟩, hS.F ht⟩) hS.2.2 dX11_refuseFar_8