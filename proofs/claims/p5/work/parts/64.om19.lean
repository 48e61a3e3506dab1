abbrev cX10_act : ByteArray := prog_1_method_14_code
def yX10_act : MethodName := ⟨RX10, "act", "(II)I"⟩
theorem gw_X5_add : wsX5_add.all goodWord = true := by decide +kernel
theorem gw_X8_parse : wsX8_parse.all goodWord = true := by decide +kernel
theorem gw_J7_copyOf_59c91 : wsJ7_copyOf_59c91.all goodWord = true := by decide +kernel
def wsX10_act_r1 : List Cond := [Cond.fieldLink RX10 73 "ShipOffice" "now" "I", Cond.fieldLink RX10 30 "ShipOffice" "law" "LShipOffice$Law;", Cond.fieldLink RX10 178 "ShipOffice$Law" "actCount" "I", Cond.fieldLink RX10 37 "ShipOffice" "tape" "LShipOffice$Tape;", Cond.classLink RX10 185 RX0, Cond.instantiable RX0 5, Cond.initialized RX0, Cond.fieldLink RX10 187 "ShipOffice$Tape" "code" "[I", Cond.fieldLink RX10 190 "ShipOffice$Tape" "codeSize" "I", Cond.fieldLink RX10 169 "ShipOffice$Tape" "size" "I", Cond.methodLink RX10 69 yX10_refuse, Cond.instanceMethod yX10_refuse, Cond.selects RX10 yX10_refuse yX10_refuse, Cond.initialized RX10, Cond.code yX10_refuse cX10_refuse 2 (some .int), Cond.fieldLink RX10 66 "ShipOffice" "refusals" "[I", Cond.methodLink RX10 181 yX8_parse, Cond.instanceMethod yX8_parse, Cond.selects RX8 yX8_parse yX8_parse, Cond.initialized RX8, Cond.code yX8_parse cX8_parse 1 (some .int), Cond.fieldLink RX8 22 "ShipOffice$Tape" "at" "I", Cond.fieldLink RX8 25 "ShipOffice$Tape" "codeSize" "I", Cond.fieldLink RX8 28 "ShipOffice$Tape" "fault" "I"]
def wsX10_act_r2 : List Cond := [Cond.fieldLink RX8 18 "ShipOffice$Tape" "size" "I", Cond.methodLink RX8 31 yX8_parseSum, Cond.instanceMethod yX8_parseSum, Cond.selects RX8 yX8_parseSum yX8_parseSum, Cond.code yX8_parseSum cX8_parseSum 4 none, Cond.fieldLink RX8 9 "ShipOffice$Tape" "bytes" "[I", Cond.methodLink RX8 35 yX8_parseTerm, Cond.instanceMethod yX8_parseTerm, Cond.selects RX8 yX8_parseTerm yX8_parseTerm, Cond.methodLink RX8 38 yX8_sees, Cond.instanceMethod yX8_sees, Cond.selects RX8 yX8_sees yX8_sees, Cond.code yX8_sees cX8_sees 2 (some .boolean), Cond.methodLink RX8 42 yX8_emitSign, Cond.instanceMethod yX8_emitSign, Cond.selects RX8 yX8_emitSign yX8_emitSign, Cond.code yX8_emitSign cX8_emitSign 3 none, Cond.fieldLink RX8 71 "ShipOffice$Act" "SIGNS" "[C", Cond.methodLink RX8 61 yX8_emit, Cond.instanceMethod yX8_emit, Cond.selects RX8 yX8_emit yX8_emit, Cond.code yX8_emit cX8_emit 2 none, Cond.fieldLink RX8 15 "ShipOffice$Tape" "code" "[I", Cond.code yX8_parseBracket cX8_parseBracket 3 none]
def wsX10_act_r3 : List Cond := [Cond.code yX8_parseTerm cX8_parseTerm 4 none, Cond.methodLink RX8 45 yX8_parseUnit, Cond.instanceMethod yX8_parseUnit, Cond.selects RX8 yX8_parseUnit yX8_parseUnit, Cond.code yX8_parseUnit cX8_parseUnit 3 none, Cond.methodLink RX8 48 yX8_letterHere, Cond.instanceMethod yX8_letterHere, Cond.selects RX8 yX8_letterHere yX8_letterHere, Cond.code yX8_letterHere cX8_letterHere 2 (some .int), Cond.methodLink RX8 52 yX8_seesDigit, Cond.instanceMethod yX8_seesDigit, Cond.selects RX8 yX8_seesDigit yX8_seesDigit, Cond.code yX8_seesDigit cX8_seesDigit 1 (some .boolean), Cond.methodLink RX8 56 yX8_parseNumber, Cond.instanceMethod yX8_parseNumber, Cond.selects RX8 yX8_parseNumber yX8_parseNumber, Cond.code yX8_parseNumber cX8_parseNumber 3 none, Cond.methodLink RX8 64 yX8_parseBracket, Cond.instanceMethod yX8_parseBracket, Cond.selects RX8 yX8_parseBracket yX8_parseBracket, Cond.methodLink RX10 193 yJ7_copyOf_59c91, Cond.static yJ7_copyOf_59c91, Cond.initialized RJ7, Cond.code yJ7_copyOf_59c91 cJ7_copyOf_59c91 3 (some (.array .int))]
def wsX10_act_r4 : List Cond := [Cond.methodLink RJ7 316 ⟨"[I", "clone", "()Ljava/lang/Object;"⟩, Cond.sameMethod "[I" "java/lang/Object" "clone" "()Ljava/lang/Object;", Cond.native ⟨"java/lang/Object", "clone", "()Ljava/lang/Object;"⟩, Cond.instanceMethod ⟨"java/lang/Object", "clone", "()Ljava/lang/Object;"⟩, Cond.selects "[I" ⟨"[I", "clone", "()Ljava/lang/Object;"⟩ ⟨"java/lang/Object", "clone", "()Ljava/lang/Object;"⟩, Cond.classLink RJ7 317 "[I", Cond.arrayClass .int, Cond.methodLink RJ7 304 Lib.Math.min.name, Cond.static Lib.Math.min.name, Cond.initialized "java/lang/Math", Cond.code Lib.Math.min.name Lib.Math.min.code 2 (some .int), Cond.methodLink RJ7 150 arraycopyName, Cond.native arraycopyName, Cond.static arraycopyName, Cond.initialized "java/lang/System", Cond.methodLink RX10 199 yX0_init, Cond.instanceMethod yX0_init, Cond.code yX0_init cX0_init 4 none, Cond.methodLink RX0 1 objectInit, Cond.instanceMethod objectInit, Cond.code objectInit ⟨#[0xb1]⟩ 1 none, Cond.fieldLink RX0 7 "ShipOffice$Act" "purpose" "I", Cond.fieldLink RX0 13 "ShipOffice$Act" "day" "I", Cond.fieldLink RX0 16 "ShipOffice$Act" "code" "[I"]
def wsX10_act_r5 : List Cond := [Cond.fieldLink RX0 20 "ShipOffice$Act" "stack" "[I", Cond.fieldLink RX0 33 "ShipOffice$Act" "plainWorth" "I", Cond.methodLink RX0 29 yX0_worth, Cond.instanceMethod yX0_worth, Cond.selects RX0 yX0_worth yX0_worth, Cond.code yX0_worth cX0_worth 8 (some .int), Cond.methodLink RX0 36 yX0_joined, Cond.static yX0_joined, Cond.code yX0_joined cX0_joined 5 (some .int), Cond.methodLink RX0 40 yX0_held, Cond.static yX0_held, Cond.code yX0_held cX0_held 2 (some .int), Cond.constantLong RX0 44 (1000000000), Cond.constant RX0 46 (1000000000), Cond.constantLong RX0 47 (-1000000000), Cond.constant RX0 49 (-1000000000), Cond.methodLink RX10 202 yX5_add, Cond.instanceMethod yX5_add, Cond.selects RX5 yX5_add yX5_add, Cond.initialized RX5, Cond.code yX5_add cX5_add 2 none, Cond.fieldLink RX5 23 "ShipOffice$Law" "actCount" "I", Cond.fieldLink RX5 11 "ShipOffice$Law" "acts" "[LShipOffice$Act;"]
def wsX10_act : List Cond := .code yX10_act cX10_act 4 (some .int) :: ((wsX10_act_r1 ++ (wsX10_act_r2 ++ (wsX10_act_r3 ++ (wsX10_act_r4 ++ wsX10_act_r5)))) ++ wsX100 ++ wsX50 ++ wsX00 ++ wsX80)
theorem il_X10_act_1 : ∀ w ∈ wsX10_act_r1, w ∈ wsX10_act := fun w h => (List.mem_cons_of_mem _ (List.mem_append_left _ (List.mem_append_left _ (List.mem_append_left _ (List.mem_append_left _ (List.mem_append_left _ h))))))
theorem il_X10_act_2 : ∀ w ∈ wsX10_act_r2, w ∈ wsX10_act := fun w h => (List.mem_cons_of_mem _ (List.mem_append_left _ (List.mem_append_left _ (List.mem_append_left _ (List.mem_append_left _ (List.mem_append_right _ (List.mem_append_left _ h)))))))
theorem il_X10_act_3 : ∀ w ∈ wsX10_act_r3, w ∈ wsX10_act := fun w h => (List.mem_cons_of_mem _ (List.mem_append_left _ (List.mem_append_left _ (List.mem_append_left _ (List.mem_append_left _ (List.mem_append_right _ (List.mem_append_right _ (List.mem_append_left _ h))))))))
theorem il_X10_act_4 : ∀ w ∈ wsX10_act_r4, w ∈ wsX10_act := fun w h => (List.mem_cons_of_mem _ (List.mem_append_left _ (List.mem_append_left _ (List.mem_append_left _ (List.mem_append_left _ (List.mem_append_right _ (List.mem_append_right _ (List.mem_append_right _ (List.mem_append_left _ h)))))))))
theorem il_X10_act_5 : ∀ w ∈ wsX10_act_r5, w ∈ wsX10_act := fun w h => (List.mem_cons_of_mem _ (List.mem_append_left _ (List.mem_append_left _ (List.mem_append_left _ (List.mem_append_left _ (List.mem_append_right _ (List.mem_append_right _ (List.mem_append_right _ (List.mem_append_right _ h)))))))))
theorem il_X10_act_6 : ∀ w ∈ wsX100, w ∈ wsX10_act := fun w h => (List.mem_cons_of_mem _ (List.mem_append_left _ (List.mem_append_left _ (List.mem_append_left _ (List.mem_append_right _ h)))))
theorem il_X10_act_7 : ∀ w ∈ wsX50, w ∈ wsX10_act := fun w h => (List.mem_cons_of_mem _ (List.mem_append_left _ (List.mem_append_left _ (List.mem_append_right _ h))))
theorem il_X10_act_8 : ∀ w ∈ wsX00, w ∈ wsX10_act := fun w h => (List.mem_cons_of_mem _ (List.mem_append_left _ (List.mem_append_right _ h)))
theorem il_X10_act_9 : ∀ w ∈ wsX80, w ∈ wsX10_act := fun w h => (List.mem_cons_of_mem _ (List.mem_append_right _ h))
theorem iw_X10_act_1 : Cond.fieldLink RX10 73 "ShipOffice" "now" "I" ∈ wsX10_act := (mmI il_X10_act_1 0 rfl)
theorem iw_X10_act_2 : Cond.fieldLink RX10 30 "ShipOffice" "law" "LShipOffice$Law;" ∈ wsX10_act := (mmI il_X10_act_1 1 rfl)
theorem iw_X10_act_3 : Cond.fieldLink RX10 178 "ShipOffice$Law" "actCount" "I" ∈ wsX10_act := (mmI il_X10_act_1 2 rfl)
theorem iw_X10_act_4 : Cond.fieldLink RX10 37 "ShipOffice" "tape" "LShipOffice$Tape;" ∈ wsX10_act := (mmI il_X10_act_1 3 rfl)
theorem iw_X10_act_5 : Cond.fieldLink RX10 169 "ShipOffice$Tape" "size" "I" ∈ wsX10_act := (mmI il_X10_act_1 9 rfl)
theorem iw_X10_act_6 : Cond.classLink RX10 185 RX0 ∈ wsX10_act := (mmI il_X10_act_1 4 rfl)
theorem iw_X10_act_7 : Cond.instantiable RX0 5 ∈ wsX10_act := (mmI il_X10_act_1 5 rfl)
theorem iw_X10_act_8 : Cond.initialized RX0 ∈ wsX10_act := (mmI il_X10_act_1 6 rfl)
theorem iw_X10_act_9 : Cond.fieldLink RX10 187 "ShipOffice$Tape" "code" "[I" ∈ wsX10_act := (mmI il_X10_act_1 7 rfl)
theorem iw_X10_act_10 : Cond.fieldLink RX10 190 "ShipOffice$Tape" "codeSize" "I" ∈ wsX10_act := (mmI il_X10_act_1 8 rfl)
theorem iw_X10_act_11 : Cond.methodLink RX10 199 yX0_init ∈ wsX10_act := (mmI il_X10_act_4 15 rfl)
theorem iw_X10_act_12 : Cond.instanceMethod yX0_init ∈ wsX10_act := (mmI il_X10_act_4 16 rfl)
set_option maxRecDepth 100000 in
theorem ggX10_act_X10_refuse : GoodIn wsX10_act wsX10_refuse := goodIn_sub (mmC (mmI il_X10_act_1 14 rfl) (mmA (mmC (mmI il_X10_act_1 15 rfl) mmN) il_X10_act_6)) gw_X10_refuse
theorem gX10_act_X10_refuse : GoodIn wsX10_act (wsV RX10 69 RX10 yX10_refuse wsX10_refuse) := goodIn_app (goodIn_sub (mmC (mmI il_X10_act_1 10 rfl) (mmC (mmI il_X10_act_1 11 rfl) (mmC (mmI il_X10_act_1 12 rfl) (mmC (mmI il_X10_act_1 13 rfl) mmN)))) (by decide +kernel)) ggX10_act_X10_refuse
set_option maxRecDepth 100000 in
theorem ggX10_act_X8_parse : GoodIn wsX10_act wsX8_parse := goodIn_sub (mmC (mmI il_X10_act_1 20 rfl) (mmA (mmA (mmC (mmI il_X10_act_1 21 rfl) (mmC (mmI il_X10_act_1 22 rfl) (mmC (mmI il_X10_act_1 23 rfl) (mmC (mmI il_X10_act_2 0 rfl) (mmC (mmI il_X10_act_2 1 rfl) (mmC (mmI il_X10_act_2 2 rfl) (mmC (mmI il_X10_act_2 3 rfl) (mmC (mmI il_X10_act_1 19 rfl) (mmC (mmI il_X10_act_2 4 rfl) (mmC (mmI il_X10_act_2 5 rfl) (mmC (mmI il_X10_act_2 6 rfl) (mmC (mmI il_X10_act_2 7 rfl) (mmC (mmI il_X10_act_2 8 rfl) (mmC (mmI il_X10_act_2 9 rfl) (mmC (mmI il_X10_act_2 10 rfl) (mmC (mmI il_X10_act_2 11 rfl) (mmC (mmI il_X10_act_2 12 rfl) (mmC (mmI il_X10_act_2 13 rfl) (mmC (mmI il_X10_act_2 14 rfl) (mmC (mmI il_X10_act_2 15 rfl) (mmC (mmI il_X10_act_2 16 rfl) (mmC (mmI il_X10_act_2 17 rfl) (mmC (mmI il_X10_act_2 18 rfl) (mmC (mmI il_X10_act_2 19 rfl) mmN)))))))))))))))))))))))) (mmC (mmI il_X10_act_2 20 rfl) (mmC (mmI il_X10_act_2 21 rfl) (mmC (mmI il_X10_act_2 22 rfl) (mmC (mmI il_X10_act_2 23 rfl) (mmC (mmI il_X10_act_3 0 rfl) (mmC (mmI il_X10_act_3 1 rfl) (mmC (mmI il_X10_act_3 2 rfl) (mmC (mmI il_X10_act_3 3 rfl) (mmC (mmI il_X10_act_3 4 rfl) (mmC (mmI il_X10_act_3 5 rfl) (mmC (mmI il_X10_act_3 6 rfl) (mmC (mmI il_X10_act_3 7 rfl) (mmC (mmI il_X10_act_3 8 rfl) (mmC (mmI il_X10_act_3 9 rfl) (mmC (mmI il_X10_act_3 10 rfl) (mmC (mmI il_X10_act_3 11 rfl) (mmC (mmI il_X10_act_3 12 rfl) (mmC (mmI il_X10_act_3 13 rfl) (mmC (mmI il_X10_act_3 14 rfl) (mmC (mmI il_X10_act_3 15 rfl) (mmC (mmI il_X10_act_3 16 rfl) (mmC (mmI il_X10_act_3 17 rfl) (mmC (mmI il_X10_act_3 18 rfl) (mmC (mmI il_X10_act_3 19 rfl) mmN))))))))))))))))))))))))) il_X10_act_9)) gw_X8_parse
theorem gX10_act_X8_parse : GoodIn wsX10_act (wsV RX10 181 RX8 yX8_parse wsX8_parse) := goodIn_app (goodIn_sub (mmC (mmI il_X10_act_1 16 rfl) (mmC (mmI il_X10_act_1 17 rfl) (mmC (mmI il_X10_act_1 18 rfl) (mmC (mmI il_X10_act_1 19 rfl) mmN)))) (by decide +kernel)) ggX10_act_X8_parse
set_option maxRecDepth 100000 in
theorem ggX10_act_J7_copyOf_59c91 : GoodIn wsX10_act wsJ7_copyOf_59c91 := goodIn_sub (mmC (mmI il_X10_act_3 23 rfl) (mmC (mmI il_X10_act_4 0 rfl) (mmC (mmI il_X10_act_4 1 rfl) (mmC (mmI il_X10_act_4 2 rfl) (mmC (mmI il_X10_act_4 3 rfl) (mmC (mmI il_X10_act_4 4 rfl) (mmC (mmI il_X10_act_4 5 rfl) (mmC (mmI il_X10_act_4 6 rfl) (mmC (mmI il_X10_act_4 7 rfl) (mmC (mmI il_X10_act_4 8 rfl) (mmC (mmI il_X10_act_4 9 rfl) (mmC (mmI il_X10_act_4 10 rfl) (mmC (mmI il_X10_act_4 11 rfl) (mmC (mmI il_X10_act_4 12 rfl) (mmC (mmI il_X10_act_4 13 rfl) (mmC (mmI il_X10_act_4 14 rfl) mmN)))))))))))))))) gw_J7_copyOf_59c91
set_option maxRecDepth 20000 in
theorem gX10_act_J7_copyOf_59c91 : GoodIn wsX10_act (va_wsS RX10 193 yJ7_copyOf_59c91 wsJ7_copyOf_59c91) := goodIn_app (goodIn_of _ (by decide +kernel)) ggX10_act_J7_copyOf_59c91
set_option maxRecDepth 100000 in
theorem ggX10_act_X0_init : GoodIn wsX10_act wsX0_init := goodIn_sub (mmC (mmI il_X10_act_4 17 rfl) (mmA (mmC (mmI il_X10_act_4 18 rfl) (mmC (mmI il_X10_act_4 19 rfl) (mmC (mmI il_X10_act_4 20 rfl) (mmC (mmI il_X10_act_4 21 rfl) (mmC (mmI il_X10_act_4 22 rfl) (mmC (mmI il_X10_act_4 23 rfl) (mmC (mmI il_X10_act_4 6 rfl) (mmC (mmI il_X10_act_5 0 rfl) (mmC (mmI il_X10_act_5 1 rfl) (mmC (mmI il_X10_act_5 2 rfl) (mmC (mmI il_X10_act_5 3 rfl) (mmC (mmI il_X10_act_5 4 rfl) (mmC (mmI il_X10_act_1 6 rfl) (mmC (mmI il_X10_act_5 5 rfl) (mmC (mmI il_X10_act_5 6 rfl) (mmC (mmI il_X10_act_5 7 rfl) (mmC (mmI il_X10_act_5 8 rfl) (mmC (mmI il_X10_act_5 9 rfl) (mmC (mmI il_X10_act_5 10 rfl) (mmC (mmI il_X10_act_5 11 rfl) (mmC (mmI il_X10_act_5 12 rfl) (mmC (mmI il_X10_act_5 13 rfl) (mmC (mmI il_X10_act_5 14 rfl) (mmC (mmI il_X10_act_5 15 rfl) mmN)))))))))))))))))))))))) il_X10_act_8)) gw_X0_init
set_option maxRecDepth 20000 in
theorem gX10_act_X0_init : GoodIn wsX10_act (wsX0_init) := ggX10_act_X0_init
set_option maxRecDepth 100000 in
theorem ggX10_act_X5_add : GoodIn wsX10_act wsX5_add := goodIn_sub (mmC (mmI il_X10_act_5 20 rfl) (mmA (mmC (mmI il_X10_act_5 21 rfl) (mmC (mmI il_X10_act_5 22 rfl) mmN)) il_X10_act_7)) gw_X5_add
theorem gX10_act_X5_add : GoodIn wsX10_act (wsV RX10 202 RX5 yX5_add wsX5_add) := goodIn_app (goodIn_sub (mmC (mmI il_X10_act_5 16 rfl) (mmC (mmI il_X10_act_5 17 rfl) (mmC (mmI il_X10_act_5 18 rfl) (mmC (mmI il_X10_act_5 19 rfl) mmN)))) (by decide +kernel)) ggX10_act_X5_add
theorem dX10_act_0 : decode cX10_act 0 = .ok (.iload_n 1, 1) := by decide +kernel
theorem dX10_act_1 : decode cX10_act 1 = .ok (.ifCond .lt 8, 3) := by decide +kernel
theorem dX10_act_4 : decode cX10_act 4 = .ok (.iload_n 1, 1) := by decide +kernel
theorem dX10_act_5 : decode cX10_act 5 = .ok (.iconst 5, 1) := by decide +kernel
theorem dX10_act_6 : decode cX10_act 6 = .ok (.if_icmp .lt 10, 3) := by decide +kernel
theorem dX10_act_9 : decode cX10_act 9 = .ok (.aload_n 0, 1) := by decide +kernel
theorem dX10_act_10 : decode cX10_act 10 = .ok (.bipush (-2), 2) := by decide +kernel
theorem dX10_act_12 : decode cX10_act 12 = .ok (.invokevirtual 69, 3) := by decide +kernel
theorem dX10_act_15 : decode cX10_act 15 = .ok (.ireturn, 1) := by decide +kernel
theorem dX10_act_16 : decode cX10_act 16 = .ok (.iload_n 2, 1) := by decide +kernel
theorem dX10_act_17 : decode cX10_act 17 = .ok (.aload_n 0, 1) := by decide +kernel
theorem dX10_act_18 : decode cX10_act 18 = .ok (.getfield 73, 3) := by decide +kernel
theorem dX10_act_21 : decode cX10_act 21 = .ok (.if_icmp .ge 10, 3) := by decide +kernel
theorem dX10_act_24 : decode cX10_act 24 = .ok (.aload_n 0, 1) := by decide +kernel
theorem dX10_act_25 : decode cX10_act 25 = .ok (.bipush (-4), 2) := by decide +kernel
theorem dX10_act_27 : decode cX10_act 27 = .ok (.invokevirtual 69, 3) := by decide +kernel
theorem dX10_act_30 : decode cX10_act 30 = .ok (.ireturn, 1) := by decide +kernel
theorem dX10_act_31 : decode cX10_act 31 = .ok (.iload_n 2, 1) := by decide +kernel
theorem dX10_act_32 : decode cX10_act 32 = .ok (.sipush 3000, 3) := by decide +kernel
theorem dX10_act_35 : decode cX10_act 35 = .ok (.if_icmp .gt 15, 3) := by decide +kernel
theorem dX10_act_38 : decode cX10_act 38 = .ok (.aload_n 0, 1) := by decide +kernel
theorem dX10_act_39 : decode cX10_act 39 = .ok (.getfield 30, 3) := by decide +kernel
theorem dX10_act_42 : decode cX10_act 42 = .ok (.getfield 178, 3) := by decide +kernel
theorem dX10_act_45 : decode cX10_act 45 = .ok (.bipush 30, 2) := by decide +kernel
theorem dX10_act_47 : decode cX10_act 47 = .ok (.if_icmp .lt 10, 3) := by decide +kernel
theorem dX10_act_50 : decode cX10_act 50 = .ok (.aload_n 0, 1) := by decide +kernel
theorem dX10_act_51 : decode cX10_act 51 = .ok (.bipush (-6), 2) := by decide +kernel
theorem dX10_act_53 : decode cX10_act 53 = .ok (.invokevirtual 69, 3) := by decide +kernel
theorem dX10_act_56 : decode cX10_act 56 = .ok (.ireturn, 1) := by decide +kernel
theorem dX10_act_57 : decode cX10_act 57 = .ok (.aload_n 0, 1) := by decide +kernel
theorem dX10_act_58 : decode cX10_act 58 = .ok (.getfield 37, 3) := by decide +kernel
theorem dX10_act_61 : decode cX10_act 61 = .ok (.invokevirtual 181, 3) := by decide +kernel
theorem dX10_act_64 : decode cX10_act 64 = .ok (.istore_n 3, 1) := by decide +kernel
theorem dX10_act_65 : decode cX10_act 65 = .ok (.iload_n 3, 1) := by decide +kernel
theorem dX10_act_66 : decode cX10_act 66 = .ok (.ifCond .ge 36, 3) := by decide +kernel
theorem dX10_act_69 : decode cX10_act 69 = .ok (.aload_n 0, 1) := by decide +kernel
theorem dX10_act_70 : decode cX10_act 70 = .ok (.getfield 30, 3) := by decide +kernel
theorem dX10_act_73 : decode cX10_act 73 = .ok (.new 185, 3) := by decide +kernel
theorem dX10_act_76 : decode cX10_act 76 = .ok (.dup, 1) := by decide +kernel
theorem dX10_act_77 : decode cX10_act 77 = .ok (.iload_n 1, 1) := by decide +kernel
theorem dX10_act_78 : decode cX10_act 78 = .ok (.iload_n 2, 1) := by decide +kernel
theorem dX10_act_79 : decode cX10_act 79 = .ok (.aload_n 0, 1) := by decide +kernel
theorem dX10_act_80 : decode cX10_act 80 = .ok (.getfield 37, 3) := by decide +kernel
theorem dX10_act_83 : decode cX10_act 83 = .ok (.getfield 187, 3) := by decide +kernel
theorem dX10_act_86 : decode cX10_act 86 = .ok (.aload_n 0, 1) := by decide +kernel
theorem dX10_act_87 : decode cX10_act 87 = .ok (.getfield 37, 3) := by decide +kernel
theorem dX10_act_90 : decode cX10_act 90 = .ok (.getfield 190, 3) := by decide +kernel
theorem dX10_act_93 : decode cX10_act 93 = .ok (.invokestatic 193, 3) := by decide +kernel
theorem dX10_act_96 : decode cX10_act 96 = .ok (.invokespecial 199, 3) := by decide +kernel
theorem dX10_act_99 : decode cX10_act 99 = .ok (.invokevirtual 202, 3) := by decide +kernel
theorem dX10_act_102 : decode cX10_act 102 = .ok (.aload_n 0, 1) := by decide +kernel
theorem dX10_act_103 : decode cX10_act 103 = .ok (.getfield 37, 3) := by decide +kernel
theorem dX10_act_106 : decode cX10_act 106 = .ok (.iconst 0, 1) := by decide +kernel
theorem dX10_act_107 : decode cX10_act 107 = .ok (.putfield 169, 3) := by decide +kernel
theorem dX10_act_110 : decode cX10_act 110 = .ok (.iload_n 3, 1) := by decide +kernel
theorem dX10_act_111 : decode cX10_act 111 = .ok (.ifCond .ge 13, 3) := by decide +kernel
theorem dX10_act_114 : decode cX10_act 114 = .ok (.aload_n 0, 1) := by decide +kernel
theorem dX10_act_115 : decode cX10_act 115 = .ok (.getfield 30, 3) := by decide +kernel
theorem dX10_act_118 : decode cX10_act 118 = .ok (.getfield 178, 3) := by decide +kernel
theorem dX10_act_121 : decode cX10_act 121 = .ok (.goto 7, 3) := by decide +kernel
theorem dX10_act_124 : decode cX10_act 124 = .ok (.bipush (-20), 2) := by decide +kernel
theorem dX10_act_126 : decode cX10_act 126 = .ok (.iload_n 3, 1) := by decide +kernel
theorem dX10_act_127 : decode cX10_act 127 = .ok (.isub, 1) := by decide +kernel
theorem dX10_act_128 : decode cX10_act 128 = .ok (.ireturn, 1) := by decide +kernel
theorem in_wsX10_act_X10 : ∀ w ∈ wsX100, w ∈ wsX10_act := fun w h => List.mem_cons_of_mem _ (List.mem_append_left _ (List.mem_append_left _ (List.mem_append_left _ (List.mem_append_right _ h))))
theorem in_wsX10_act_X5 : ∀ w ∈ wsX50, w ∈ wsX10_act := fun w h => List.mem_cons_of_mem _ (List.mem_append_left _ (List.mem_append_left _ (List.mem_append_right _ h)))
theorem in_wsX10_act_X8 : ∀ w ∈ wsX80, w ∈ wsX10_act := fun w h => List.mem_cons_of_mem _ (List.mem_append_right _ h)
theorem in_wsX10_act_X0 : ∀ w ∈ wsX00, w ∈ wsX10_act := fun w h => List.mem_cons_of_mem _ (List.mem_append_left _ (List.mem_append_right _ h))

set_option maxHeartbeats 4000000 in
set_option maxRecDepth 100000 in
theorem c_X10_act (l : Launch) (dC : Nat → ClassId) (dI : Nat → Nat → Nat) (sz : Nat) (tL tS tG : Nat) (cq : Nat → ClassId) (Z : oS) (gI : oInv Z) (o : Nat) (to : oty Z o 10) (x1 : Int32) (x2 : Int32) : Met l yX10_act wsX10_act ({ frames := 26, cells := 4, slots := 134, locals := 581 }) (va_Pc [.ref o, .int x1, .int x2] (pcO (dC, dI) (oT cq) (oW cq Z) sz tL tS tG (oW cq Z))) (va_Qi (fun (r : Int32) (u : oS) => oInv u ∧ oX [502, 801, 803, 804, 805, 2012, 2063, 2107, 5001] Z u) (fun u t => va_P (dC, dI) vwCl (oW cq u) t.heap ∧ va_K (dC, dI) vwCl (oT cq) t ∧ va_D (va_A (oW cq Z) sz) (oW cq u)) (va_A (oW cq Z) sz)) 4 134 (va_A (oW cq Z) sz) := by
  refine Met.ofW (cc := cX10_act) (maxL := 4) (ret := (some .int)) (by decide) rfl ?_
  intro p e s m args below meth c s₁ B hml hv
  obtain ⟨rfl, ⟨hsz, hP, hK, hD0⟩, hZ⟩ := hv
  have hx := B.exec
  have hb := B.bytes
  have hr := B.returns
  have hts := atoms_spec (ws := wsX10_act) B.pre
  have hown : s.vm.findClass RX10 = some m.cls := findClass_of_methodNamed B.named
  have hlocks := B.notSynchronized
  subst hsz
  have hD := hD0.self (sz := s.heap.size)
  generalize hAe : va_A (oW cq Z) s.heap.size = A at hD hZ ⊢
  have hA : ∀ q : Nat, s.heap.size ≤ q → A q := fun q h => by rw [← hAe]; exact Or.inr h
  have hS : va_S A s.heap s.heap [] := va_S.rf
  have hP : va_P (dC, dI) vwCl (oW cq Z) s.heap := hP
  have hl := lv_entry ([.ref o, .int x1, .int x2]) (n := 4) (Nat.le_of_ble_eq_true rfl)
  rw [lg_entry_eq]
  generalize (lg_sl ([.ref o, .int x1, .int x2]) ++ List.replicate (4 - (lg_sl ([.ref o, .int x1, .int x2])).length) Slot.unset).toArray = ls at hl ⊢
  have hl : lv_has ls 4 [(0, .ref o), (1, .int x1), (2, .int x2)] := hl
  refine lv_iload_n hx hb dX10_act_0 rfl (lv_at hl 1 rfl) ?_
  refine lv_if_lt (tgt := 9) hx hb dX10_act_1 (by decide) (fun c_1 => ?_) (fun c_1 => ?_)
  · have dc_1 := c_lt (a := x1.toInt) (b := 0) rfl (by decide) c_1
    refine lv_aload_n hx hb dX10_act_9 rfl (lv_at hl 0 rfl) ?_
    refine lv_bipush (v := (-2)) hx hb dX10_act_10 (by decide) ?_
    have hFc := o_free hD hS hA
    obtain ⟨q_2, hq_2⟩ := og (cq := cq) to.1 (oE_10 to.2)
    refine va_calli (va_runV (As := [.int (-2)]) (rest := []) ⟨hx, hb, hml, hown, hts⟩ (c_X10_refuse l dC dI s.heap.size cq Z gI o to (-2) (by decide)) (cwV 1 hts gX10_act_X10_refuse rfl rfl rfl (by decide +kernel) ⟨(Nat.le_of_ble_eq_true rfl), (Nat.le_of_ble_eq_true rfl)⟩) (pr_V (r := (RX10, TX10, 16)) hP hK hD q_2 10 rfl hq_2) rfl rfl hl.1 rfl (lv_room (Nat.le_of_ble_eq_true rfl)) dX10_act_12 ⟨(Nat.le_of_ble_eq_true rfl), (Nat.le_of_ble_eq_true rfl)⟩) hS (fun q _ h => hFc q h) hFc (fun r_4 u t H locs ht hvm w_3 hB hz1 hk1 hS => ?_)
    obtain ⟨S_5, rfl⟩ : ∃ z, z = u := ⟨_, rfl⟩
    obtain ⟨hP1, hK1, hD1⟩ := hB
    rw [ht] at hP1
    have hP : va_P (dC, dI) vwCl (oW cq S_5) H := hP1
    have hD : va_D A (oW cq S_5) := hD1.weaken (fun _ _ _ h => hFc _ h)
    clear hP1 hK1 hD1 hk1 hz1 hvm ht hFc
    obtain ⟨hIS_5, XS_5, hb_6, hx_7⟩ := w_3
    have X_8 : oX [502, 801, 803, 804, 805, 2012, 2063, 2107, 5001] Z S_5 := oX.st oX.rf XS_5 (by decide)
    have rf_9 : r_4.toInt = -2 := by rw [hx_7]; decide
    refine W.widen (k := 4) (n := 134) (Nat.le_of_ble_eq_true rfl) (Nat.le_of_ble_eq_true rfl) ?_
    exact W.iret (v := r_4) hx hb hr (fun t ht hW => ⟨⟨r_4, S_5, rfl, ⟨hIS_5, X_8⟩, ⟨by rw [ht]; exact hP, va_K.moved hW.alike hK, hD⟩⟩, hS.F ht⟩) hS.2.2 dX10_act_15
  · have dc_1 := c_nlt (a := x1.toInt) (b := 0) rfl (by decide) c_1
    refine lv_iload_n hx hb dX10_act_4 rfl (lv_at hl 1 rfl) ?_
    refine lv_iconst (v := 5) hx hb dX10_act_5 (by decide) ?_
    refine lv_icmp_lt (tgt := 16) hx hb dX10_act_6 (by decide) (fun c_10 => ?_) (fun c_10 => ?_)
    · have dc_10 := c_lt (a := x1.toInt) (b := 5) rfl (by decide) c_10
      refine lv_iload_n hx hb dX10_act_16 rfl (lv_at hl 2 rfl) ?_
      refine lv_aload_n hx hb dX10_act_17 rfl (lv_at hl 0 rfl) ?_
      obtain ⟨q_11, hq_11⟩ := og (cq := cq) to.1 (oE_10 to.2)
      refine va_get (D := (dC, dI)) (ci := 10) (v := .int (oI Z o 0)) (C := RX10) (T := TX10) (N := 16) hx hb hts in_wsX10_act_X10 hown hK hP q_11 hq_11 rfl 0 (by decide) (hts (.fieldLink RX10 73 "ShipOffice" "now" "I") iw_X10_act_1) (fun _ h9 => h9) rfl dX10_act_18 ?_
      refine lv_topi (fun x_12 ex_12 => ?_)
      have hx_12 : 0 ≤ x_12.toInt ∧ x_12.toInt ≤ 3000 := iv_of ex_12 (oInv.iv gI to.2 rfl rfl)
      have gx_12 : x_12.toInt = (oI Z o 0).toInt := iv_to ex_12
      clear ex_12
      refine lv_icmp_ge (tgt := 31) hx hb dX10_act_21 (by decide) (fun c_13 => ?_) (fun c_13 => ?_)
      · have dc_13 := c_le (a := x_12.toInt) (b := x2.toInt) rfl rfl c_13
        refine lv_iload_n hx hb dX10_act_31 rfl (lv_at hl 2 rfl) ?_
        refine lv_sipush (v := 3000) hx hb dX10_act_32 (by decide) ?_
        refine lv_icmp_gt (tgt := 50) hx hb dX10_act_35 (by decide) (fun c_14 => ?_) (fun c_14 => ?_)
        · have dc_14 := c_lt (a := 3000) (b := x2.toInt) (by decide) rfl c_14
          refine lv_aload_n hx hb dX10_act_50 rfl (lv_at hl 0 rfl) ?_
          refine lv_bipush (v := (-6)) hx hb dX10_act_51 (by decide) ?_
          have hFc := o_free hD hS hA
          refine va_calli (va_runV (As := [.int (-6)]) (rest := []) ⟨hx, hb, hml, hown, hts⟩ (c_X10_refuse l dC dI s.heap.size cq Z gI o to (-6) (by decide)) (cwV 1 hts gX10_act_X10_refuse rfl rfl rfl (by decide +kernel) ⟨(Nat.le_of_ble_eq_true rfl), (Nat.le_of_ble_eq_true rfl)⟩) (pr_V (r := (RX10, TX10, 16)) hP hK hD q_11 10 rfl hq_11) rfl rfl hl.1 rfl (lv_room (Nat.le_of_ble_eq_true rfl)) dX10_act_53 ⟨(Nat.le_of_ble_eq_true rfl), (Nat.le_of_ble_eq_true rfl)⟩) hS (fun q _ h => hFc q h) hFc (fun r_16 u t H locs ht hvm w_15 hB hz1 hk1 hS => ?_)
          obtain ⟨S_17, rfl⟩ : ∃ z, z = u := ⟨_, rfl⟩
          obtain ⟨hP1, hK1, hD1⟩ := hB
          rw [ht] at hP1
          have hP : va_P (dC, dI) vwCl (oW cq S_17) H := hP1
          have hD : va_D A (oW cq S_17) := hD1.weaken (fun _ _ _ h => hFc _ h)
          clear hP1 hK1 hD1 hk1 hz1 hvm ht hFc
          obtain ⟨hIS_17, XS_17, hb_18, hx_19⟩ := w_15
          have X_20 : oX [502, 801, 803, 804, 805, 2012, 2063, 2107, 5001] Z S_17 := oX.st oX.rf XS_17 (by decide)
          have rf_21 : r_16.toInt = -6 := by rw [hx_19]; decide
          refine W.widen (k := 4) (n := 134) (Nat.le_of_ble_eq_true rfl) (Nat.le_of_ble_eq_true rfl) ?_
          exact W.iret (v := r_16) hx hb hr (fun t ht hW => ⟨⟨r_16, S_17, rfl, ⟨hIS_17, X_20⟩, ⟨by rw [ht]; exact hP, va_K.moved hW.alike hK, hD⟩⟩, hS.F ht⟩) hS.2.2 dX10_act_56
        · have dc_14 := c_nlt (a := 3000) (b := x2.toInt) (by decide) rfl c_14
          refine lv_aload_n hx hb dX10_act_38 rfl (lv_at hl 0 rfl) ?_
          obtain ⟨b_22, hb_22⟩ := oInv.nn (i := 8) gI to rfl
          refine va_get (D := (dC, dI)) (ci := 10) (v := .ref b_22) (C := RX10) (T := TX10) (N := 16) hx hb hts in_wsX10_act_X10 hown hK hP q_11 hq_11 rfl 8 (by decide) (hts (.fieldLink RX10 30 "ShipOffice" "law" "LShipOffice$Law;") iw_X10_act_2) (fun _ h9 => h9) (o_rd hb_22) dX10_act_39 ?_
          have tb_22 : oty Z b_22 5 := oInv.rd gI to.2 hb_22 rfl rfl
          obtain ⟨q_23, hq_23⟩ := og (cq := cq) tb_22.1 (oE_5 tb_22.2)
          refine va_get (D := (dC, dI)) (ci := 5) (v := .int (oI Z b_22 2)) (C := RX5) (T := TX5) (N := 3) hx hb hts in_wsX10_act_X5 hown hK hP q_23 hq_23 rfl 2 (by decide) (hts (.fieldLink RX10 178 "ShipOffice$Law" "actCount" "I") iw_X10_act_3) (fun _ h9 => h9) rfl dX10_act_42 ?_
          refine lv_topi (fun x_24 ex_24 => ?_)
          have hx_24 : 0 ≤ x_24.toInt ∧ x_24.toInt ≤ 30 := iv_of ex_24 (oInv.iv gI tb_22.2 rfl rfl)
          have gx_24 : x_24.toInt = (oI Z b_22 2).toInt := iv_to ex_24
          clear ex_24
          refine lv_bipush (v := 30) hx hb dX10_act_45 (by decide) ?_
          refine lv_icmp_lt (tgt := 57) hx hb dX10_act_47 (by decide) (fun c_25 => ?_) (fun c_25 => ?_)
          · have dc_25 := c_lt (a := x_24.toInt) (b := 30) rfl (by decide) c_25
            refine lv_aload_n hx hb dX10_act_57 rfl (lv_at hl 0 rfl) ?_
            obtain ⟨b_26, hb_26⟩ := oInv.nn (i := 9) gI to rfl
            refine va_get (D := (dC, dI)) (ci := 10) (v := .ref b_26) (C := RX10) (T := TX10) (N := 16) hx hb hts in_wsX10_act_X10 hown hK hP q_11 hq_11 rfl 9 (by decide) (hts (.fieldLink RX10 37 "ShipOffice" "tape" "LShipOffice$Tape;") iw_X10_act_4) (fun _ h9 => h9) (o_rd hb_26) dX10_act_58 ?_
            have tb_26 : oty Z b_26 8 := oInv.rd gI to.2 hb_26 rfl rfl
            have hFc := o_free hD hS hA
            obtain ⟨q_27, hq_27⟩ := og (cq := cq) tb_26.1 (oE_8 tb_26.2)
            refine va_calli (va_runV (As := []) (rest := []) ⟨hx, hb, hml, hown, hts⟩ (c_X8_parse l dC dI s.heap.size tL tS tG cq Z gI b_26 tb_26) (cwV 0 hts gX10_act_X8_parse rfl rfl rfl (by decide +kernel) ⟨(Nat.le_of_ble_eq_true rfl), (Nat.le_of_ble_eq_true rfl)⟩) (pr_VO (r := (RX8, TX8, 6)) hP hK hD q_27 8 rfl hq_27 (hZ.go hS hFc)) rfl rfl hl.1 rfl (lv_room (Nat.le_of_ble_eq_true rfl)) dX10_act_61 ⟨(Nat.le_of_ble_eq_true rfl), (Nat.le_of_ble_eq_true rfl)⟩) hS (fun q _ h => hFc q h) hFc (fun r_29 u t H locs ht hvm w_28 hB hz1 hk1 hS => ?_)
            obtain ⟨S_30, rfl⟩ : ∃ z, z = u := ⟨_, rfl⟩
            obtain ⟨hP1, hK1, hD1⟩ := hB
            rw [ht] at hP1
            have hP : va_P (dC, dI) vwCl (oW cq S_30) H := hP1
            have hD : va_D A (oW cq S_30) := hD1.weaken (fun _ _ _ h => hFc _ h)
            clear hP1 hK1 hD1 hk1 hz1 hvm ht hFc
            obtain ⟨hIS_30, XS_30⟩ := w_28
            have X_31 : oX [502, 801, 803, 804, 805, 2012, 2063, 2107, 5001] Z S_30 := oX.st oX.rf XS_30 (by decide)
            refine lv_istore_n (lv' := [(3, .int r_29), (0, .ref o), (1, .int x1), (2, .int x2)]) hx hb dX10_act_64 rfl hl (by decide) rfl (fun ls hl => ?_)
            refine lv_iload_n hx hb dX10_act_65 rfl (lv_at hl 0 rfl) ?_
            refine lv_if_ge (tgt := 102) hx hb dX10_act_66 (by decide) (fun c_32 => ?_) (fun c_32 => ?_)
            · have dc_32 := c_le (a := 0) (b := r_29.toInt) (by decide) rfl c_32
              refine lv_aload_n hx hb dX10_act_102 rfl (lv_at hl 1 rfl) ?_
              have t_33 : oty S_30 o 10 := (oX.ty XS_30 to)
              obtain ⟨q_34, hq_34⟩ := og (cq := cq) t_33.1 (oE_10 t_33.2)
              obtain ⟨b_35, hb_35⟩ := oInv.nn (i := 9) hIS_30 t_33 rfl
              refine va_get (D := (dC, dI)) (ci := 10) (v := .ref b_35) (C := RX10) (T := TX10) (N := 16) hx hb hts in_wsX10_act_X10 hown hK hP q_34 hq_34 rfl 9 (by decide) (hts (.fieldLink RX10 37 "ShipOffice" "tape" "LShipOffice$Tape;") iw_X10_act_4) (fun _ h9 => h9) (o_rd hb_35) dX10_act_103 ?_
              have tb_35 : oty S_30 b_35 8 := oInv.rd hIS_30 t_33.2 hb_35 rfl rfl
              refine lv_iconst (v := 0) hx hb dX10_act_106 (by decide) ?_
              obtain ⟨q_36, hq_36⟩ := og (cq := cq) tb_35.1 (oE_8 tb_35.2)
              refine va_put (D := (dC, dI)) (ci := 8) (v := .int 0) (ty := .int) (C := RX8) (T := TX8) (N := 6) hx hb hts in_wsX10_act_X8 tyX8 tyX8_ok nmX8 hown hK hP hD hS q_36 hq_36 rfl 1 (by decide) (hts (.fieldLink RX10 169 "ShipOffice$Tape" "size" "I") iw_X10_act_5) (fun _ h9 => h9) rfl (by decide +kernel) rfl rfl (Nat.le_of_ble_eq_true rfl) dX10_act_107 (fun H locs hP1 hD1 hS => ?_)
              obtain ⟨S_37, eS_37⟩ : ∃ zq, zq = setI S_30 b_35 1 0 := ⟨_, rfl⟩
              have hP : va_P (dC, dI) vwCl (oW cq S_37) H := by rw [eS_37]; exact cP (oset tb_35.1 hq_36 hD rfl (he_8_1 tb_35.2) neI) hP1
              have hD : va_D A (oW cq S_37) := by rw [eS_37]; exact cD (oset tb_35.1 hq_36 hD rfl (he_8_1 tb_35.2) neI) hD1
              clear hP1 hD1
              have hIS_37 : oInv S_37 := by rw [eS_37]; exact oInv.I0 (k := 8) (lo := 0) (hi := 60) hIS_30 tb_35.2 (by decide) rfl rfl rfl (by decide)
              have XS_37 : oX [801] S_30 S_37 := by rw [eS_37]; exact oX.I (k := 8) (key := 801) tb_35.2 rfl (List.mem_singleton.mpr rfl)
              have X_38 : oX [502, 801, 803, 804, 805, 2012, 2063, 2107, 5001] Z S_37 := oX.st X_31 XS_37 (by decide)
              refine lv_iload_n hx hb dX10_act_110 rfl (lv_at hl 0 rfl) ?_
              refine lv_if_ge (tgt := 124) hx hb dX10_act_111 (by decide) (fun c_39 => ?_) (fun c_39 => ?_)
              · have dc_39 := c_le (a := 0) (b := r_29.toInt) (by decide) rfl c_39
                refine lv_bipush (v := (-20)) hx hb dX10_act_124 (by decide) ?_
                refine lv_iload_n hx hb dX10_act_126 rfl (lv_at hl 0 rfl) ?_
                refine lv_isub hx hb dX10_act_127 ?_
                refine lv_topi (fun x_40 ex_40 => ?_)
                clear ex_40
                refine W.widen (k := 4) (n := 134) (Nat.le_of_ble_eq_true rfl) (Nat.le_of_ble_eq_true rfl) ?_
                exact W.iret (v := x_40) hx hb hr (fun t ht hW => ⟨⟨x_40, S_37, rfl, ⟨hIS_37, X_38⟩, ⟨by rw [ht]; exact hP, va_K.moved hW.alike hK, hD⟩⟩, hS.F ht⟩) hS.2.2 dX10_act_128
              · have dc_39 := c_nle (a := 0) (b := r_29.toInt) (by decide) rfl c_39
                exfalso; omega
            · have dc_32 := c_nle (a := 0) (b := r_29.toInt) (by decide) rfl c_32
              refine lv_aload_n hx hb dX10_act_69 rfl (lv_at hl 1 rfl) ?_
              have t_41 : oty S_30 o 10 := (oX.ty XS_30 to)
              obtain ⟨q_42, hq_42⟩ := og (cq := cq) t_41.1 (oE_10 t_41.2)
              obtain ⟨b_43, hb_43⟩ := oInv.nn (i := 8) hIS_30 t_41 rfl
              refine va_get (D := (dC, dI)) (ci := 10) (v := .ref b_43) (C := RX10) (T := TX10) (N := 16) hx hb hts in_wsX10_act_X10 hown hK hP q_42 hq_42 rfl 8 (by decide) (hts (.fieldLink RX10 30 "ShipOffice" "law" "LShipOffice$Law;") iw_X10_act_2) (fun _ h9 => h9) (o_rd hb_43) dX10_act_70 ?_
              have tb_43 : oty S_30 b_43 5 := oInv.rd hIS_30 t_41.2 hb_43 rfl rfl
              refine va_new (ci := 0) (fs := [.int 0, .int 0, .int 0, .null, .null]) (C := RX0) (T := TX0) (N := 5) hx hb hts in_wsX10_act_X0 tyX0 tyX0_ok hown (hts (.classLink RX10 185 RX0) iw_X10_act_6) (hts (.instantiable RX0 5) iw_X10_act_7) (hts (.initialized RX0) iw_X10_act_8) hK hP hD hS hA rfl (fun j hj => by rcases (show j = 0 ∨ j = 1 ∨ j = 2 ∨ j = 3 ∨ j = 4 by omega) with rfl | rfl | rfl | rfl | rfl <;> rfl) (Nat.le_of_ble_eq_true rfl) (Nat.le_of_ble_eq_true rfl) dX10_act_73 (fun q_44 H hP1 hD1 hS => ?_)
              have hnq_44 := add_q hD1
              obtain ⟨S_45, eS_45⟩ : ∃ zq, zq = addO S_30 q_44 30 := ⟨_, rfl⟩
              have hP : va_P (dC, dI) vwCl (oW cq S_45) H := by rw [eS_45]; exact cP (onew hD1 (by rw [oE_30 add_K, add_I, add_P]; rfl)) hP1
              have hD : va_D A (oW cq S_45) := by rw [eS_45]; exact cD (onew hD1 (by rw [oE_30 add_K, add_I, add_P]; rfl)) hD1
              clear hP1 hD1
              have hIS_45 : oInv S_45 := by rw [eS_45]; exact oInv.add hIS_30 hnq_44 (by decide)
              have XS_45 : oX [] S_30 S_45 := by rw [eS_45]; exact oX.add hnq_44
              have nzq_44 : q_44 ∉ oL Z := oX.nin X_31 hnq_44
              have X_46 : oX [502, 801, 803, 804, 805, 2012, 2063, 2107, 5001] Z S_45 := oX.st X_31 XS_45 (by decide)
              have tq_44 : oty S_45 q_44 30 := by rw [eS_45]; exact add_ty
              refine W.widen (k := 1) (n := 5) (Nat.le_of_ble_eq_true rfl) (Nat.le_of_ble_eq_true rfl) ?_
              refine lv_dup hx hb dX10_act_76 rfl ?_
              refine lv_iload_n hx hb dX10_act_77 rfl (lv_at hl 2 rfl) ?_
              refine lv_iload_n hx hb dX10_act_78 rfl (lv_at hl 3 rfl) ?_
              refine lv_aload_n hx hb dX10_act_79 rfl (lv_at hl 1 rfl) ?_
              have t_47 : oty S_45 o 10 := (oX.ty XS_45 t_41)
              obtain ⟨q_48, hq_48⟩ := og (cq := cq) t_47.1 (oE_10 t_47.2)
              obtain ⟨b_49, hb_49⟩ := oInv.nn (i := 9) hIS_45 t_47 rfl
              refine va_get (D := (dC, dI)) (ci := 10) (v := .ref b_49) (C := RX10) (T := TX10) (N := 16) hx hb hts in_wsX10_act_X10 hown hK hP q_48 hq_48 rfl 9 (by decide) (hts (.fieldLink RX10 37 "ShipOffice" "tape" "LShipOffice$Tape;") iw_X10_act_4) (fun _ h9 => h9) (o_rd hb_49) dX10_act_80 ?_
              have tb_49 : oty S_45 b_49 8 := oInv.rd hIS_45 t_47.2 hb_49 rfl rfl
              obtain ⟨q_50, hq_50⟩ := og (cq := cq) tb_49.1 (oE_8 tb_49.2)
              obtain ⟨b_51, hb_51⟩ := oInv.nn (i := 2) hIS_45 tb_49 rfl
              refine va_get (D := (dC, dI)) (ci := 8) (v := .ref b_51) (C := RX8) (T := TX8) (N := 6) hx hb hts in_wsX10_act_X8 hown hK hP q_50 hq_50 rfl 2 (by decide) (hts (.fieldLink RX10 187 "ShipOffice$Tape" "code" "[I") iw_X10_act_9) (fun _ h9 => h9) (o_rd hb_51) dX10_act_83 ?_
              have tb_51 : oty S_45 b_51 63 := oInv.rd hIS_45 tb_49.2 hb_51 rfl rfl
              refine lv_aload_n hx hb dX10_act_86 rfl (lv_at hl 1 rfl) ?_
              refine va_get (D := (dC, dI)) (ci := 10) (v := .ref b_49) (C := RX10) (T := TX10) (N := 16) hx hb hts in_wsX10_act_X10 hown hK hP q_48 hq_48 rfl 9 (by decide) (hts (.fieldLink RX10 37 "ShipOffice" "tape" "LShipOffice$Tape;") iw_X10_act_4) (fun _ h9 => h9) (o_rd hb_49) dX10_act_87 ?_
              refine va_get (D := (dC, dI)) (ci := 8) (v := .int (oI S_45 b_49 3)) (C := RX8) (T := TX8) (N := 6) hx hb hts in_wsX10_act_X8 hown hK hP q_50 hq_50 rfl 3 (by decide) (hts (.fieldLink RX10 190 "ShipOffice$Tape" "codeSize" "I") iw_X10_act_10) (fun _ h9 => h9) rfl dX10_act_90 ?_
              refine lv_topi (fun x_52 ex_52 => ?_)
              have hx_52 : 0 ≤ x_52.toInt ∧ x_52.toInt ≤ 60 := iv_of ex_52 (oInv.iv hIS_45 tb_49.2 rfl rfl)
              have gx_52 : x_52.toInt = (oI S_45 b_49 3).toInt := iv_to ex_52
              clear ex_52
              have hFc := o_free hD hS hA
              refine va_callq (va_runS (As := [.ref b_51, .int x_52]) (rest := [.int x2, .int x1, .ref q_44, .ref q_44, .ref b_43]) ⟨hx, hb, hml, hown, hts⟩ (c_J7_copyOf_59c91 l dC dI H.size tL tS tG cq S_45 hIS_45 b_51 tb_51 x_52 (by omega)) (va_cwS 2 hts gX10_act_J7_copyOf_59c91 rfl rfl rfl (by decide +kernel) ⟨(Nat.le_of_ble_eq_true rfl), (Nat.le_of_ble_eq_true rfl)⟩) (pr_SO hP hK hD (hZ.go hS hFc)) rfl rfl hl.1 rfl (lv_room (Nat.le_of_ble_eq_true rfl)) dX10_act_93 ⟨(Nat.le_of_ble_eq_true rfl), (Nat.le_of_ble_eq_true rfl)⟩) hS (fun q _ h => hFc q h) hFc (fun r_54 u t H locs ht hvm w_53 hB hz1 hk1 hS => ?_)
              obtain ⟨S_55, rfl⟩ : ∃ z, z = u := ⟨_, rfl⟩
              obtain ⟨hP1, hK1, hD1⟩ := hB
              rw [ht] at hP1
              have hP : va_P (dC, dI) vwCl (oW cq S_55) H := hP1
              have hD : va_D A (oW cq S_55) := hD1.weaken (fun _ _ _ h => hFc _ h)
              clear hP1 hK1 hD1 hk1 hz1 hvm ht hFc
              refine W.widen (k := 2) (n := 65) (Nat.le_of_ble_eq_true rfl) (Nat.le_of_ble_eq_true rfl) ?_
              obtain ⟨hIS_55, XS_55, hk_56⟩ := w_53
              have X_57 : oX [502, 801, 803, 804, 805, 2012, 2063, 2107, 5001] Z S_55 := oX.st X_46 XS_55 (by decide)
              obtain ⟨b_58, rfl, tb_58⟩ := hk_56
              refine W.eq (g2 := F0 m 96 ls [.ref b_58, .int x2, .int x1, .ref q_44, .ref q_44, .ref b_43]) rfl ?_
              have hzb_58 : x_52.toNatClampNeg = x_52.toInt.toNat := rfl
              have t_59 : oty S_55 q_44 30 := (oX.ty XS_55 tq_44)
              have hFc := o_free hD hS hA
              refine va_callv (va_runI (As := [.int x1, .int x2, .ref b_58]) (rest := [.ref q_44, .ref b_43]) ⟨hx, hb, hml, hown, hts⟩ (c_X0_init l dC dI H.size tL tS tG cq S_55 hIS_55 q_44 t_59 x1 x2 x_52.toNatClampNeg (by omega) b_58 tb_58) (cwI 3 hts gX10_act_X0_init rfl rfl rfl (hts (.initialized RX0) iw_X10_act_8) (hts (.methodLink RX10 199 yX0_init) iw_X10_act_11) (hts (.instanceMethod yX0_init) iw_X10_act_12) rfl (by decide +kernel) ⟨(Nat.le_of_ble_eq_true rfl), (Nat.le_of_ble_eq_true rfl)⟩) (pr_SO hP hK hD (hZ.go hS hFc)) rfl rfl hl.1 rfl (lv_room (Nat.le_of_ble_eq_true rfl)) dX10_act_96 ⟨(Nat.le_of_ble_eq_true rfl), (Nat.le_of_ble_eq_true rfl)⟩) hS (fun q _ h => hFc q h) hFc (fun u t H locs ht hvm w_60 hB hz1 hk1 hS => ?_)
              obtain ⟨S_62, rfl⟩ : ∃ z, z = u := ⟨_, rfl⟩
              obtain ⟨hP1, hK1, hD1⟩ := hB
              rw [ht] at hP1
              have hP : va_P (dC, dI) vwCl (oW cq S_62) H := hP1
              have hD : va_D A (oW cq S_62) := hD1.weaken (fun _ _ _ h => hFc _ h)
              clear hP1 hK1 hD1 hk1 hz1 hvm ht hFc
              refine W.widen (k := 4) (n := 134) (Nat.le_of_ble_eq_true rfl) (Nat.le_of_ble_eq_true rfl) ?_
              obtain ⟨hIS_62, XS_62, hx_63⟩ := w_60
              have hxS_62 := hx_63
              have X_64 : oX [502, 801, 803, 804, 805, 2012, 2063, 2107, 5001] Z S_62 := oX.c X_57 XS_62 nzq_44 (by decide)
              have t_65 : oty S_62 b_43 5 := (oXc.ty XS_62 (ty_ne (oX.ty XS_55 (oX.ty XS_45 tb_43)) t_59 (by decide)) (oX.ty XS_55 (oX.ty XS_45 tb_43)))
              have hFc := o_free hD hS hA
              obtain ⟨q_66, hq_66⟩ := og (cq := cq) t_65.1 (oE_5 t_65.2)
              refine va_callv (va_runV (As := [.ref q_44]) (rest := []) ⟨hx, hb, hml, hown, hts⟩ (c_X5_add l dC dI H.size cq S_62 hIS_62 b_43 t_65 q_44 hxS_62) (cwV 1 hts gX10_act_X5_add rfl rfl rfl (by decide +kernel) ⟨(Nat.le_of_ble_eq_true rfl), (Nat.le_of_ble_eq_true rfl)⟩) (pr_V (r := (RX5, TX5, 3)) hP hK hD q_66 5 rfl hq_66) rfl rfl hl.1 rfl (lv_room (Nat.le_of_ble_eq_true rfl)) dX10_act_99 ⟨(Nat.le_of_ble_eq_true rfl), (Nat.le_of_ble_eq_true rfl)⟩) hS (fun q _ h => hFc q h) hFc (fun u t H locs ht hvm w_67 hB hz1 hk1 hS => ?_)
              obtain ⟨S_69, rfl⟩ : ∃ z, z = u := ⟨_, rfl⟩
              obtain ⟨hP1, hK1, hD1⟩ := hB
              rw [ht] at hP1
              have hP : va_P (dC, dI) vwCl (oW cq S_69) H := hP1
              have hD : va_D A (oW cq S_69) := hD1.weaken (fun _ _ _ h => hFc _ h)
              clear hP1 hK1 hD1 hk1 hz1 hvm ht hFc
              obtain ⟨hIS_69, XS_69⟩ := w_67
              have X_70 : oX [502, 801, 803, 804, 805, 2012, 2063, 2107, 5001] Z S_69 := oX.st X_64 XS_69 (by decide)
              refine lv_aload_n hx hb dX10_act_102 rfl (lv_at hl 1 rfl) ?_
              have t_71 : oty S_69 o 10 := (oX.ty XS_69 (oXc.ty XS_62 (ty_ne (oX.ty XS_55 t_47) t_59 (by decide)) (oX.ty XS_55 t_47)))
              obtain ⟨q_72, hq_72⟩ := og (cq := cq) t_71.1 (oE_10 t_71.2)
              obtain ⟨b_73, hb_73⟩ := oInv.nn (i := 9) hIS_69 t_71 rfl
              refine va_get (D := (dC, dI)) (ci := 10) (v := .ref b_73) (C := RX10) (T := TX10) (N := 16) hx hb hts in_wsX10_act_X10 hown hK hP q_72 hq_72 rfl 9 (by decide) (hts (.fieldLink RX10 37 "ShipOffice" "tape" "LShipOffice$Tape;") iw_X10_act_4) (fun _ h9 => h9) (o_rd hb_73) dX10_act_103 ?_
              have tb_73 : oty S_69 b_73 8 := oInv.rd hIS_69 t_71.2 hb_73 rfl rfl
              refine lv_iconst (v := 0) hx hb dX10_act_106 (by decide) ?_
              obtain ⟨q_74, hq_74⟩ := og (cq := cq) tb_73.1 (oE_8 tb_73.2)
              refine va_put (D := (dC, dI)) (ci := 8) (v := .int 0) (ty := .int) (C := RX8) (T := TX8) (N := 6) hx hb hts in_wsX10_act_X8 tyX8 tyX8_ok nmX8 hown hK hP hD hS q_74 hq_74 rfl 1 (by decide) (hts (.fieldLink RX10 169 "ShipOffice$Tape" "size" "I") iw_X10_act_5) (fun _ h9 => h9) rfl (by decide +kernel) rfl rfl (Nat.le_of_ble_eq_true rfl) dX10_act_107 (fun H locs hP1 hD1 hS => ?_)
              obtain ⟨S_75, eS_75⟩ : ∃ zq, zq = setI S_69 b_73 1 0 := ⟨_, rfl⟩
              have hP : va_P (dC, dI) vwCl (oW cq S_75) H := by rw [eS_75]; exact cP (oset tb_73.1 hq_74 hD rfl (he_8_1 tb_73.2) neI) hP1
              have hD : va_D A (oW cq S_75) := by rw [eS_75]; exact cD (oset tb_73.1 hq_74 hD rfl (he_8_1 tb_73.2) neI) hD1
              clear hP1 hD1
              have hIS_75 : oInv S_75 := by rw [eS_75]; exact oInv.I0 (k := 8) (lo := 0) (hi := 60) hIS_69 tb_73.2 (by decide) rfl rfl rfl (by decide)
              have XS_75 : oX [801] S_69 S_75 := by rw [eS_75]; exact oX.I (k := 8) (key := 801) tb_73.2 rfl (List.mem_singleton.mpr rfl)
              have X_76 : oX [502, 801, 803, 804, 805, 2012, 2063, 2107, 5001] Z S_75 := oX.st X_70 XS_75 (by decide)
              refine lv_iload_n hx hb dX10_act_110 rfl (lv_at hl 0 rfl) ?_
              refine lv_if_ge (tgt := 124) hx hb dX10_act_111 (by decide) (fun c_77 => ?_) (fun c_77 => ?_)
              · have dc_77 := c_le (a := 0) (b := r_29.toInt) (by decide) rfl c_77
                exfalso; omega
              · have dc_77 := c_nle (a := 0) (b := r_29.toInt) (by decide) rfl c_77
                refine lv_aload_n hx hb dX10_act_114 rfl (lv_at hl 1 rfl) ?_
                have t_78 : oty S_75 o 10 := (oX.ty XS_75 t_71)
                obtain ⟨q_79, hq_79⟩ := og (cq := cq) t_78.1 (oE_10 t_78.2)
                obtain ⟨b_80, hb_80⟩ := oInv.nn (i := 8) hIS_75 t_78 rfl
                refine va_get (D := (dC, dI)) (ci := 10) (v := .ref b_80) (C := RX10) (T := TX10) (N := 16) hx hb hts in_wsX10_act_X10 hown hK hP q_79 hq_79 rfl 8 (by decide) (hts (.fieldLink RX10 30 "ShipOffice" "law" "LShipOffice$Law;") iw_X10_act_2) (fun _ h9 => h9) (o_rd hb_80) dX10_act_115 ?_
                have tb_80 : oty S_75 b_80 5 := oInv.rd hIS_75 t_78.2 hb_80 rfl rfl
                obtain ⟨q_81, hq_81⟩ := og (cq := cq) tb_80.1 (oE_5 tb_80.2)
                refine va_get (D := (dC, dI)) (ci := 5) (v := .int (oI S_75 b_80 2)) (C := RX5) (T := TX5) (N := 3) hx hb hts in_wsX10_act_X5 hown hK hP q_81 hq_81 rfl 2 (by decide) (hts (.fieldLink RX10 178 "ShipOffice$Law" "actCount" "I") iw_X10_act_3) (fun _ h9 => h9) rfl dX10_act_118 ?_
                refine lv_topi (fun x_82 ex_82 => ?_)
                have hx_82 : 0 ≤ x_82.toInt ∧ x_82.toInt ≤ 30 := iv_of ex_82 (oInv.iv hIS_75 tb_80.2 rfl rfl)
                have gx_82 : x_82.toInt = (oI S_75 b_80 2).toInt := iv_to ex_82
                clear ex_82
                refine lv_goto (tgt := 128) hx hb dX10_act_121 (by decide) ?_
                exact W.iret (v := x_82) hx hb hr (fun t ht hW => ⟨⟨x_82, S_75, rfl, ⟨hIS_75, X_76⟩, ⟨by rw [ht]; exact hP, va_K.moved hW.alike hK, hD⟩⟩, hS.F ht⟩) hS.2.2 dX10_act_128
          · have dc_25 := c_nlt (a := x_24.toInt) (b := 30) rfl (by decide) c_25
            refine lv_aload_n hx hb dX10_act_50 rfl (lv_at hl 0 rfl) ?_
            refine lv_bipush (v := (-6)) hx hb dX10_act_51 (by decide) ?_
            have hFc := o_free hD hS hA
            refine va_calli (va_runV (As := [.int (-6)]) (rest := []) ⟨hx, hb, hml, hown, hts⟩ (c_X10_refuse l dC dI s.heap.size cq Z gI o to (-6) (by decide)) (cwV 1 hts gX10_act_X10_refuse rfl rfl rfl (by decide +kernel) ⟨(Nat.le_of_ble_eq_true rfl), (Nat.le_of_ble_eq_true rfl)⟩) (pr_V (r := (RX10, TX10, 16)) hP hK hD q_11 10 rfl hq_11) rfl rfl hl.1 rfl (lv_room (Nat.le_of_ble_eq_true rfl)) dX10_act_53 ⟨(Nat.le_of_ble_eq_true rfl), (Nat.le_of_ble_eq_true rfl)⟩) hS (fun q _ h => hFc q h) hFc (fun r_84 u t H locs ht hvm w_83 hB hz1 hk1 hS => ?_)
            obtain ⟨S_85, rfl⟩ : ∃ z, z = u := ⟨_, rfl⟩
            obtain ⟨hP1, hK1, hD1⟩ := hB
            rw [ht] at hP1
            have hP : va_P (dC, dI) vwCl (oW cq S_85) H := hP1
            have hD : va_D A (oW cq S_85) := hD1.weaken (fun _ _ _ h => hFc _ h)
            clear hP1 hK1 hD1 hk1 hz1 hvm ht hFc
            obtain ⟨hIS_85, XS_85, hb_86, hx_87⟩ := w_83
            have X_88 : oX [502, 801, 803, 804, 805, 2012, 2063, 2107, 5001] Z S_85 := oX.st oX.rf XS_85 (by decide)
            have rf_89 : r_84.toInt = -6 := by rw [hx_87]; decide
            refine W.widen (k := 4) (n := 134) (Nat.le_of_ble_eq_true rfl) (Nat.le_of_ble_eq_true rfl) ?_
            exact W.iret (v := r_84) hx hb hr (fun t ht hW => ⟨⟨r_84, S_85, rfl, ⟨hIS_85, X_88⟩, ⟨by rw [ht]; exact hP, va_K.moved hW.alike hK, hD⟩⟩, hS.F ht⟩) hS.2.2 dX10_act_56
      · have dc_13 := c_nle (a := x_12.toInt) (b := x2.toInt) rfl rfl c_13
        refine lv_aload_n hx hb dX10_act_24 rfl (lv_at hl 0 rfl) ?_
        refine lv_bipush (v := (-4)) hx hb dX10_act_25 (by decide) ?_
        have hFc := o_free hD hS hA
        refine va_calli (va_runV (As := [.int (-4)]) (rest := []) ⟨hx, hb, hml, hown, hts⟩ (c_X10_refuse l dC dI s.heap.size cq Z gI o to (-4) (by decide)) (cwV 1 hts gX10_act_X10_refuse rfl rfl rfl (by decide +kernel) ⟨(Nat.le_of_ble_eq_true rfl), (Nat.le_of_ble_eq_true rfl)⟩) (pr_V (r := (RX10, TX10, 16)) hP hK hD q_11 10 rfl hq_11) rfl rfl hl.1 rfl (lv_room (Nat.le_of_ble_eq_true rfl)) dX10_act_27 ⟨(Nat.le_of_ble_eq_true rfl), (Nat.le_of_ble_eq_true rfl)⟩) hS (fun q _ h => hFc q h) hFc (fun r_91 u t H locs ht hvm w_90 hB hz1 hk1 hS => ?_)
        obtain ⟨S_92, rfl⟩ : ∃ z, z = u := ⟨_, rfl⟩
        obtain ⟨hP1, hK1, hD1⟩ := hB
        rw [ht] at hP1
        have hP : va_P (dC, dI) vwCl (oW cq S_92) H := hP1
        have hD : va_D A (oW cq S_92) := hD1.weaken (fun _ _ _ h => hFc _ h)
        clear hP1 hK1 hD1 hk1 hz1 hvm ht hFc
        obtain ⟨hIS_92, XS_92, hb_93, hx_94⟩ := w_90
        have X_95 : oX [502, 801, 803, 804, 805, 2012, 2063, 2107, 5001] Z S_92 := oX.st oX.rf XS_92 (by decide)
        have rf_96 : r_91.toInt = -4 := by rw [hx_94]; decide
        refine W.widen (k := 4) (n := 134) (Nat.le_of_ble_eq_true rfl) (Nat.le_of_ble_eq_true rfl) ?_
        exact W.iret (v := r_91) hx hb hr (fun t ht hW => ⟨⟨r_91, S_92, rfl, ⟨hIS_92, X_95⟩, ⟨by rw [ht]; exact hP, va_K.moved hW.alike hK, hD⟩⟩, hS.F ht⟩) hS.2.2 dX10_act_30
    · have dc_10 := c_nlt (a := x1.toInt) (b := 5) rfl (by decide) c_10
      refine lv_aload_n hx hb dX10_act_9 rfl (lv_at hl 0 rfl) ?_
      refine lv_bipush (v := (-2)) hx hb dX10_act_10 (by decide) ?_
      have hFc := o_free hD hS hA
      obtain ⟨q_97, hq_97⟩ := og (cq := cq) to.1 (oE_10 to.2)
      refine va_calli (va_runV (As := [.int (-2)]) (rest := []) ⟨hx, hb, hml, hown, hts⟩ (c_X10_refuse l dC dI s.heap.size cq Z gI o to (-2) (by decide)) (cwV 1 hts gX10_act_X10_refuse rfl rfl rfl (by decide +kernel) ⟨(Nat.le_of_ble_eq_true rfl), (Nat.le_of_ble_eq_true rfl)⟩) (pr_V (r := (RX10, TX10, 16)) hP hK hD q_97 10 rfl hq_97) rfl rfl hl.1 rfl (lv_room (Nat.le_of_ble_eq_true rfl)) dX10_act_12 ⟨(Nat.le_of_ble_eq_true rfl), (Nat.le_of_ble_eq_true rfl)⟩) hS (fun q _ h => hFc q h) hFc (fun r_99 u t H locs ht hvm w_98 hB hz1 hk1 hS => ?_)
      obtain ⟨S_100, rfl⟩ : ∃ z, z = u := ⟨_, rfl⟩
      obtain ⟨hP1, hK1, hD1⟩ := hB
      rw [ht] at hP1
      have hP : va_P (dC, dI) vwCl (oW cq S_100) H := hP1
      have hD : va_D A (oW cq S_100) := hD1.weaken (fun _ _ _ h => hFc _ h)
      clear hP1 hK1 hD1 hk1 hz1 hvm ht hFc
      obtain ⟨hIS_100, XS_100, hb_101, hx_102⟩ := w_98
      have X_103 : oX [502, 801, 803, 804, 805, 2012, 2063, 2107, 5001] Z S_100 := oX.st oX.rf XS_100 (by decide)
      have rf_104 : r_99.toInt = -2 := by rw [hx_102]; decide
      refine W.widen (k := 4) (n := 134) (Nat.le_of_ble_eq_true rfl) (Nat.le_of_ble_eq_true rfl) ?_
      exact W.iret (v := r_99) hx hb hr (fun t ht hW => ⟨⟨r_99, S_100, rfl, ⟨hIS_100, X_103⟩, ⟨by rw [ht]; exact hP, va_K.moved hW.alike hK, hD⟩⟩, hS.F ht⟩) hS.2.2 dX10_act_15
