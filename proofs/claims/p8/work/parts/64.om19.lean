abbrev cX10_act : ByteArray := prog_1_method_14_code
def yX10_act : MethodName := ⟨RX10, "act", "(II)I"⟩
theorem gw_X5_add : wsX5_add.all goodWord = true := by decide +kernel
theorem gw_X8_parse : wsX8_parse.all goodWord = true := by decide +kernel
theorem gw_J7_copyOf_59c91 : wsJ7_copyOf_59c91.all goodWord = true := by decide +kernel
def wsX10_act_r1 : List Cond := [Cond.fieldLink RX10 73 "ShipOffice" "now" "I", Cond.fieldLink RX10 30 "ShipOffice" "law" "LShipOffice$Law;", Cond.fieldLink RX10 178 "ShipOffice$Law" "actCount" "I", Cond.fieldLink RX10 37 "ShipOffice" "tape" "LShipOffice$Tape;", Cond.classLink RX10 185 RX0, Cond.instantiable RX0 5, Cond.initialized RX0, Cond.fieldLink RX10 187 "ShipOffice$Tape" "code" "[I", Cond.fieldLink RX10 190 "ShipOffice$Tape" "codeSize" "I", Cond.fieldLink RX10 169 "ShipOffice$Tape" "size" "I", Cond.methodLink RX10 69 yX10_refuse, Cond.instanceMethod yX10_refuse, Cond.selects RX10 yX10_refuse yX10_refuse, Cond.initialized RX10, Cond.code yX10_refuse cX10_refuse 2 (some .int), Cond.fieldLink RX10 66 "ShipOffice" "refusals" "[I", Cond.methodLink RX10 181 yX8_parse, Cond.instanceMethod yX8_parse, Cond.selects RX8 yX8_parse yX8_parse, Cond.initialized RX8, Cond.code yX8_parse cX8_parse 1 (some .int), Cond.fieldLink RX8 22 "ShipOffice$Tape" "at" "I", Cond.fieldLink RX8 25 "ShipOffice$Tape" "codeSize" "I", Cond.fieldLink RX8 28 "ShipOffice$Tape" "fault" "I"]
def wsX10_act_r2 : List Cond := [Cond.fieldLink RX8 18 "ShipOffice$Tape" "size" "I", Cond.methodLink RX8 31 yX8_parseSum, Cond.instanceMethod yX8_parseSum, Cond.selects RX8 yX8_parseSum yX8_parseSum, Cond.code yX8_parseSum cX8_parseSum 4 none, Cond.fieldLink RX8 9 "ShipOffice$Tape" "bytes" "[I", Cond.methodLink RX8 35 yX8_parseTerm, Cond.instanceMethod yX8_parseTerm, Cond.selects RX8 yX8_parseTerm yX8_parseTerm, Cond.methodLink RX8 38 yX8_sees, Cond.instanceMethod yX8_sees, Cond.selects RX8 yX8_sees yX8_sees, Cond.code yX8_sees cX8_sees 2 (some .boolean), Cond.methodLink RX8 42 yX8_emitSign, Cond.instanceMethod yX8_emitSign, Cond.selects RX8 yX8_emitSign yX8_emitSign, Cond.code yX8_emitSign cX8_emitSign 3 none, Cond.fieldLink RX8 71 "ShipOffice$Act" "SIGNS" "[C", Cond.methodLink RX8 61 yX8_emit, Cond.instanceMethod yX8_emit, Cond.selects RX8 yX8_emit yX8_emit, Cond.code yX8_emit cX8_emit 2 none, Cond.fieldLink RX8 15 "ShipOffice$Tape" "code" "[I", Cond.code yX8_parseBracket cX8_parseBracket 3 none]
def wsX10_act_r3 : List Cond := [Cond.code yX8_parseTerm cX8_parseTerm 4 none, Cond.methodLink RX8 45 yX8_parseUnit, Cond.instanceMethod yX8_parseUnit, Cond.selects RX8 yX8_parseUnit yX8_parseUnit, Cond.code yX8_parseUnit cX8_parseUnit 3 none, Cond.methodLink RX8 48 yX8_letterHere, Cond.instanceMethod yX8_letterHere, Cond.selects RX8 yX8_letterHere yX8_letterHere, Cond.code yX8_letterHere cX8_letterHere 2 (some .int), Cond.methodLink RX8 52 yX8_seesDigit, Cond.instanceMethod yX8_seesDigit, Cond.selects RX8 yX8_seesDigit yX8_seesDigit, Cond.code yX8_seesDigit cX8_seesDigit 1 (some .boolean), Cond.methodLink RX8 56 yX8_parseNumber, Cond.instanceMethod yX8_parseNumber, Cond.selects RX8 yX8_parseNumber yX8_parseNumber, Cond.code yX8_parseNumber cX8_parseNumber 3 none, Cond.methodLink RX8 64 yX8_parseBracket, Cond.instanceMethod yX8_parseBracket, Cond.selects RX8 yX8_parseBracket yX8_parseBracket, Cond.methodLink RX10 193 yJ7_copyOf_59c91, Cond.static yJ7_copyOf_59c91, Cond.initialized RJ7, Cond.code yJ7_copyOf_59c91 cJ7_copyOf_59c91 3 (some (.array .int))]
def wsX10_act_r4 : List Cond := [Cond.methodLink RJ7 316 ⟨"[I", "clone", "()Ljava/lang/Object;"⟩, Cond.sameMethod "[I" "java/lang/Object" "clone" "()Ljava/lang/Object;", Cond.native ⟨"java/lang/Object", "clone", "()Ljava/lang/Object;"⟩, Cond.instanceMethod ⟨"java/lang/Object", "clone", "()Ljava/lang/Object;"⟩, Cond.selects "[I" ⟨"[I", "clone", "()Ljava/lang/Object;"⟩ ⟨"java/lang/Object", "clone", "()Ljava/lang/Object;"⟩, Cond.classLink RJ7 317 "[I", Cond.arrayClass .int, Cond.methodLink RJ7 304 Lib.Math.min.name, Cond.static Lib.Math.min.name, Cond.initialized "java/lang/Math", Cond.code Lib.Math.min.name Lib.Math.min.code 2 (some .int), Cond.methodLink RJ7 150 arraycopyName, Cond.native arraycopyName, Cond.static arraycopyName, Cond.initialized "java/lang/System", Cond.methodLink RX10 199 yX0_init, Cond.instanceMethod yX0_init, Cond.code yX0_init cX0_init 4 none, Cond.methodLink RX0 1 objectInit, Cond.instanceMethod objectInit, Cond.code objectInit ⟨#[0xb1]⟩ 1 none, Cond.fieldLink RX0 7 "ShipOffice$Act" "purpose" "I", Cond.fieldLink RX0 13 "ShipOffice$Act" "day" "I", Cond.fieldLink RX0 16 "ShipOffice$Act" "code" "[I"]
def wsX10_act_r5 : List Cond := [Cond.fieldLink RX0 20 "ShipOffice$Act" "stack" "[I", Cond.fieldLink RX0 33 "ShipOffice$Act" "plainWorth" "I", Cond.methodLink RX0 29 yX0_worth, Cond.instanceMethod yX0_worth, Cond.selects RX0 yX0_worth yX0_worth, Cond.code yX0_worth cX0_worth 8 (some .int), Cond.methodLink RX0 36 yX0_joined, Cond.static yX0_joined, Cond.code yX0_joined cX0_joined 5 (some .int), Cond.methodLink RX0 40 yX0_held, Cond.static yX0_held, Cond.code yX0_held cX0_held 2 (some .int), Cond.constantLong RX0 44 (1000000000), Cond.constant RX0 46 (1000000000), Cond.constantLong RX0 47 (-1000000000), Cond.constant RX0 49 (-1000000000), Cond.methodLink RX10 202 yX5_add, Cond.instanceMethod yX5_add, Cond.selects RX5 yX5_add yX5_add, Cond.initialized RX5, Cond.code yX5_add cX5_add 2 none, Cond.fieldLink RX5 23 "ShipOffice$Law" "actCount" "I", Cond.fieldLink RX5 11 "ShipOffice$Law" "acts" "[LShipOffice$Act;"]
def wsX10_act : List Cond := .code yX10_act cX10_act 4 (some .int) :: ((wsX10_act_r1 ++ (wsX10_act_r2 ++ (wsX10_act_r3 ++ (wsX10_act_r4 ++ wsX10_act_r5)))) ++ wsX100 ++ wsX50 ++ wsX00 ++ wsX80)
theorem il_X10_act_1 : ∀ w ∈ wsX10_act_r1, w ∈ wsX10_act := fun w h => (List.mem_cons_of_mem _ (List.mem_append_left _ (List.mem_append_left _ (List.mem_append_left _ (List.mem_append_left _ (List.mem_append_left _ h))))))
theorem il_X10_act_2 : ∀ w ∈ wsX10_act_r2, w ∈ wsX10_act := fun w h => (List.mem_cons_of_mem _ (List.mem_append_left _ (List.mem_append_left _ (List.mem_append_left _ (List.mem_append_left _ (List.mem_append_right _ (List.mem_append_left _ h)))))))
theorem il_X10_act_3 : ∀ w ∈ wsX10_act_r3, w ∈ wsX10_act := fun w h => (List.mem_cons_of_mem _ (List.mem_append_left _ (List.mem_append_left _ (List.mem_append_left _ (List.mem_append_left _ (List.mem_append_right _ (List.mem_append_right _ (List.mem_append_left _ h))))))))
theorem il_X10_act_4 : ∀ w ∈ wsX10_act_r4, w ∈ wsX10_act := fun w h => (List.mem_cons_of_mem _ (List.mem_append_left _ (List.mem_append_left _ (List.mem_append_left _ (List.mem_append_left _ (List.mem_append_right _ (List.mem_append_right _ (List.mem_append_right _ (List.mem_append_left _ h)))))))))
theorem il_X10_act_5 : ∀ w ∈ wsX10_act_r5, w ∈ wsX10_act := fun w h => (List.mem_cons_of_mem _ (List.mem_append_left _ (List.mem_append_left _ (List.mem_append_left _ (List.mem_append_left _ (List.mem_append_right _ (List.mem_append_right _ (List.mem_append_right _ (List.mem_append_right _ h)))))))))
theorem il_X10_act_6 : ∀ w ∈ wsX100, w ∈ wsX10_act := fun w h => (List.mem_cons_of_mem _ (List.mem_append_left _ (List.mem_append_left _ (List.mem_append_left _ (List.mem_append_right _ h)))))
theorem il_X10_act_7 : ∀ w ∈ wsX50, w ∈ wsX10_act := fun w h => (List.mem_cons_of_mem _ (List.mem_append_left _ (List.mem_append_left _ (List.mem_append_right _ h))))
theorem il_X10_act_8 : ∀ w ∈ wsX00, w ∈ wsX10_act := fun w h => (List.mem_cons_of_mem _ (List.mem_append_left _ (List.mem_append_right _ h)))
theorem il_X10_act_9 : ∀ w ∈ wsX80, w ∈ wsX10_act := fun w h => (List.mem_cons_of_mem _ (List.mem_append_right _ h))
theorem iw_X10_act_1 : Cond.fieldLink RX10 73 "ShipOffice" "now" "I" ∈ wsX10_act := (mmI il_X10_act_1 0 rfl)
theorem iw_X10_act_2 : Cond.fieldLink RX10 30 "ShipOffice" "law" "LShipOffice$Law;" ∈ wsX10_act := (mmI il_X10_act_1 1 rfl)
theorem iw_X10_act_3 : Cond.fieldLink RX10 178 "ShipOffice$Law" "actCount" "I" ∈ wsX10_act := (mmI il_X10_act_1 2 rfl)
theorem iw_X10_act_4 : Cond.fieldLink RX10 37 "ShipOffice" "tape" "LShipOffice$Tape;" ∈ wsX10_act := (mmI il_X10_act_1 3 rfl)
theorem iw_X10_act_5 : Cond.fieldLink RX10 169 "ShipOffice$Tape" "size" "I" ∈ wsX10_act := (mmI il_X10_act_1 9 rfl)
theorem iw_X10_act_6 : Cond.classLink RX10 185 RX0 ∈ wsX10_act := (mmI il_X10_act_1 4 rfl)
theorem iw_X10_act_7 : Cond.instantiable RX0 5 ∈ wsX10_act := (mmI il_X10_act_1 5 rfl)
theorem iw_X10_act_8 : Cond.initialized RX0 ∈ wsX10_act := (mmI il_X10_act_1 6 rfl)
theorem iw_X10_act_9 : Cond.fieldLink RX10 187 "ShipOffice$Tape" "code" "[I" ∈ wsX10_act := (mmI il_X10_act_1 7 rfl)
theorem iw_X10_act_10 : Cond.fieldLink RX10 190 "ShipOffice$Tape" "codeSize" "I" ∈ wsX10_act := (mmI il_X10_act_1 8 rfl)
theorem iw_X10_act_11 : Cond.methodLink RX10 199 yX0_init ∈ wsX10_act := (mmI il_X10_act_4 15 rfl)
theorem iw_X10_act_12 : Cond.instanceMethod yX0_init ∈ wsX10_act := (mmI il_X10_act_4 16 rfl)
set_option maxRecDepth 100000 in
theorem ggX10_act_X10_refuse : GoodIn wsX10_act wsX10_refuse := goodIn_sub (mmC (mmI il_X10_act_1 14 rfl) (mmA (mmC (mmI il_X10_act_1 15 rfl) mmN) il_X10_act_6)) gw_X10_refuse
theorem gX10_act_X10_refuse : GoodIn wsX10_act (wsV RX10 69 RX10 yX10_refuse wsX10_refuse) := goodIn_app (goodIn_sub (mmC (mmI il_X10_act_1 10 rfl) (mmC (mmI il_X10_act_1 11 rfl) (mmC (mmI il_X10_act_1 12 rfl) (mmC (mmI il_X10_act_1 13 rfl) mmN)))) (by decide +kernel)) ggX10_act_X10_refuse
set_option maxRecDepth 100000 in
theorem ggX10_act_X8_parse : GoodIn wsX10_act wsX8_parse := goodIn_sub (mmC (mmI il_X10_act_1 20 rfl) (mmA (mmA (mmC (mmI il_X10_act_1 21 rfl) (mmC (mmI il_X10_act_1 22 rfl) (mmC (mmI il_X10_act_1 23 rfl) (mmC (mmI il_X10_act_2 0 rfl) (mmC (mmI il_X10_act_2 1 rfl) (mmC (mmI il_X10_act_2 2 rfl) (mmC (mmI il_X10_act_2 3 rfl) (mmC (mmI il_X10_act_1 19 rfl) (mmC (mmI il_X10_act_2 4 rfl) (mmC (mmI il_X10_act_2 5 rfl) (mmC (mmI il_X10_act_2 6 rfl) (mmC (mmI il_X10_act_2 7 rfl) (mmC (mmI il_X10_act_2 8 rfl) (mmC (mmI il_X10_act_2 9 rfl) (mmC (mmI il_X10_act_2 10 rfl) (mmC (mmI il_X10_act_2 11 rfl) (mmC (mmI il_X10_act_2 12 rfl) (mmC (mmI il_X10_act_2 13 rfl) (mmC (mmI il_X10_act_2 14 rfl) (mmC (mmI il_X10_act_2 15 rfl) (mmC (mmI il_X10_act_2 16 rfl) (mmC (mmI il_X10_act_2 17 rfl) (mmC (mmI il_X10_act_2 18 rfl) (mmC (mmI il_X10_act_2 19 rfl) mmN)))))))))))))))))))))))) (mmC (mmI il_X10_act_2 20 rfl) (mmC (mmI il_X10_act_2 21 rfl) (mmC (mmI il_X10_act_2 22 rfl) (mmC (mmI il_X10_act_2 23 rfl) (mmC (mmI il_X10_act_3 0 rfl) (mmC (mmI il_X10_act_3 1 rfl) (mmC (mmI il_X10_act_3 2 rfl) (mmC (mmI il_X10_act_3 3 rfl) (mmC (mmI il_X10_act_3 4 rfl) (mmC (mmI il_X10_act_3 5 rfl) (mmC (mmI il_X10_act_3 6 rfl) (mmC (mmI il_X10_act_3 7 rfl) (mmC (mmI il_X10_act_3 8 rfl) (mmC (mmI il_X10_act_3 9 rfl) (mmC (mmI il_X10_act_3 10 rfl) (mmC (mmI il_X10_act_3 11 rfl) (mmC (mmI il_X10_act_3 12 rfl) (mmC (mmI il_X10_act_3 13 rfl) (mmC (mmI il_X10_act_3 14 rfl) (mmC (mmI il_X10_act_3 15 rfl) (mmC (mmI il_X10_act_3 16 rfl) (mmC (mmI il_X10_act_3 17 rfl) (mmC (mmI il_X10_act_3 18 rfl) (mmC (mmI il_X10_act_3 19 rfl) mmN))))))))))))))))))))))))) il_X10_act_9)) gw_X8_parse
theorem gX10_act_X8_parse : GoodIn wsX10_act (wsV RX10 181 RX8 yX8_parse wsX8_parse) := goodIn_app (goodIn_sub (mmC (mmI il_X10_act_1 16 rfl) (mmC (mmI il_X10_act_1 17 rfl) (mmC (mmI il_X10_act_1 18 rfl) (mmC (mmI il_X10_act_1 19 rfl) mmN)))) (by decide +kernel)) ggX10_act_X8_parse
set_option maxRecDepth 100000 in
theorem ggX10_act_J7_copyOf_59c91 : GoodIn wsX10_act wsJ7_copyOf_59c91 := goodIn_sub (mmC (mmI il_X10_act_3 23 rfl) (mmC (mmI il_X10_act_4 0 rfl) (mmC (mmI il_X10_act_4 1 rfl) (mmC (mmI il_X10_act_4 2 rfl) (mmC (mmI il_X10_act_4 3 rfl) (mmC (mmI il_X10_act_4 4 rfl) (mmC (mmI il_X10_act_4 5 rfl) (mmC (mmI il_X10_act_4 6 rfl) (mmC (mmI il_X10_act_4 7 rfl) (mmC (mmI il_X10_act_4 8 rfl) (mmC (mmI il_X10_act_4 9 rfl) (mmC (mmI il_X10_act_4 10 rfl) (mmC (mmI il_X10_act_4 11 rfl) (mmC (mmI il_X10_act_4 12 rfl) (mmC (mmI il_X10_act_4 13 rfl) (mmC (mmI il_X10_act_4 14 rfl) mmN)))))))))))))))) gw_J7_copyOf_59c91
set_option maxRecDepth 20000 in
theorem gX10_act_J7_copyOf_59c91 : GoodIn wsX10_act (va_wsS RX10 193 yJ7_copyOf_59c91 wsJ7_copyOf_59c91) := goodIn_app (goodIn_of _ (by decide +kernel)) ggX10_act_J7_copyOf_59c91
set_option maxRecDepth 100000 in
theorem ggX10_act_X0_init : GoodIn wsX10_act wsX0_init := goodIn_sub (mmC (mmI il_X10_act_4 17 rfl) (mmA (mmC (mmI il_X10_act_4 18 rfl) (mmC (mmI il_X10_act_4 19 rfl) (mmC (mmI il_X10_act_4 20 rfl) (mmC (mmI il_X10_act_4 21 rfl) (mmC (mmI il_X10_act_4 22 rfl) (mmC (mmI il_X10_act_4 23 rfl) (mmC (mmI il_X10_act_4 6 rfl) (mmC (mmI il_X10_act_5 0 rfl) (mmC (mmI il_X10_act_5 1 rfl) (mmC (mmI il_X10_act_5 2 rfl) (mmC (mmI il_X10_act_5 3 rfl) (mmC (mmI il_X10_act_5 4 rfl) (mmC (mmI il_X10_act_1 6 rfl) (mmC (mmI il_X10_act_5 5 rfl) (mmC (mmI il_X10_act_5 6 rfl) (mmC (mmI il_X10_act_5 7 rfl) (mmC (mmI il_X10_act_5 8 rfl) (mmC (mmI il_X10_act_5 9 rfl) (mmC (mmI il_X10_act_5 10 rfl) (mmC (mmI il_X10_act_5 11 rfl) (mmC (mmI il_X10_act_5 12 rfl) (mmC (mmI il_X10_act_5 13 rfl) (mmC (mmI il_X10_act_5 14 rfl) (mmC (mmI il_X10_act_5 15 rfl) mmN)))))))))))))))))))))))) il_X10_act_8)) gw_X0_init
set_option maxRecDepth 20000 in
theorem gX10_act_X0_init : GoodIn wsX10_act (wsX0_init) := ggX10_act_X0_init
set_option maxRecDepth 100000 in
theorem ggX10_act_X5_add : GoodIn wsX10_act wsX5_add := goodIn_sub (mmC (mmI il_X10_act_5 20 rfl) (mmA (mmC (mmI il_X10_act_5 21 rfl) (mmC (mmI il_X10_act_5 22 rfl) mmN)) il_X10_act_7)) gw_X5_add
theorem gX10_act_X5_add : GoodIn wsX10_act (wsV RX10 202 RX5 yX5_add wsX5_add) := goodIn_app (goodIn_sub (mmC (mmI il_X10_act_5 16 rfl) (mmC (mmI il_X10_act_5 17 rfl) (mmC (mmI il_X10_act_5 18 rfl) (mmC (mmI il_X10_act_5 19 rfl) mmN)))) (by decide +kernel)) ggX10_act_X5_add
theorem dX10_act_0 : decode cX10_act 0 = .ok (.iload_n 1, 1) := by decide +kernel
theorem dX10_act_1 : decode cX10_act 1 = .ok (.ifCond .lt 8, 3) := by decide +kernel
theorem dX10_act_4 : decode cX10_act 4 = .ok (.iload_n 1, 1) := by decide +kernel
theorem dX10_act_5 : decode cX10_act 5 = .ok (.iconst 5, 1) := by decide +kernel
theorem dX10_act_6 : decode cX10_act 6 = .ok (.if_icmp .lt 10, 3) := by decide +kernel
theorem dX10_act_9 : decode cX10_act 9 = .ok (.aload_n 0, 1) := by decide +kernel
theorem dX10_act_10 : decode cX10_act 10 = .ok (.bipush (-2), 2) := by decide +kernel
theorem dX10_act_12 : decode cX10_act 12 = .ok (.invokevirtual 69, 3) := by decide +kernel
theorem dX10_act_15 : decode cX10_act 15 = .ok (.ireturn, 1) := by decide +kernel
theorem dX10_act_16 : decode cX10_act 16 = .ok (.iload_n 2, 1) := by decide +kernel
theorem dX10_act_17 : decode cX10_act 17 = .ok (.aload_n 0, 1) := by decide +kernel
theorem dX10_act_18 : decode cX10_act 18 = .ok (.getfield 73, 3) := by decide +kernel
theorem dX10_act_21 : decode cX10_act 21 = .ok (.if_icmp .ge 10, 3) := by decide +kernel
theorem dX10_act_24 : decode cX10_act 24 = .ok (.aload_n 0, 1) := by decide +kernel
theorem dX10_act_25 : decode cX10_act 25 = .ok (.bipush (-4), 2) := by decide +kernel
theorem dX10_act_27 : decode cX10_act 27 = .ok (.invokevirtual 69, 3) := by decide +kernel
theorem dX10_act_30 : decode cX10_act 30 = .ok (.ireturn, 1) := by decide +kernel
theorem dX10_act_31 : decode cX10_act 31 = .ok (.iload_n 2, 1) := by decide +kernel
theorem dX10_act_32 : decode cX10_act 32 = .ok (.sipush 3000, 3) := by decide +kernel
theorem dX10_act_35 : decode cX10_act 35 = .ok (.if_icmp .gt 15, 3) := by decide +kernel
theorem dX10_act_38 : decode cX10_act 38 = .ok (.aload_n 0, 1) := by decide +kernel
theorem dX10_act_39 : decode cX10_act 39 = .ok (.getfield 30, 3) := by decide +kernel
theorem dX10_act_42 : decode cX10_act 42 = .ok (.getfield 178, 3) := by decide +kernel
theorem dX10_act_45 : decode cX10_act 45 = .ok (.bipush 30, 2) := by decide +kernel
theorem dX10_act_47 : decode cX10_act 47 = .ok (.if_icmp .lt 10, 3) := by decide +kernel
theorem dX10_act_50 : decode cX10_act 50 = .ok (.aload_n 0, 1) := by decide +kernel
theorem dX10_act_51 : decode cX10_act 51 = .ok (.bipush (-6), 2) := by decide +kernel
theorem dX10_act_53 : decode cX10_act 53 = .ok (.invokevirtual 69, 3) := by decide +kernel
theorem dX10_act_56 : decode cX10_act 56 = .ok (.ireturn, 1) := by decide +kernel
theorem dX10_act_57 : decode cX10_act 57 = .ok (.aload_n 0, 1) := by decide +kernel
theorem dX10_act_58 : decode cX10_act 58 = .ok (.getfield 37, 3) := by decide +kernel
theorem dX10_act_61 : decode cX10_act 61 = .ok (.invokevirtual 181, 3) := by decide +kernel
theorem dX10_act_64 : decode cX10_act 64 = .ok (.istore_n 3, 1) := by decide +kernel
theorem dX10_act_65 : decode cX10_act 65 = .ok (.iload_n 3, 1) := by decide +kernel
theorem dX10_act_66 : decode cX10_act 66 = .ok (.ifCond .ge 36, 3) := by decide +kernel
theorem dX10_act_69 : decode cX10_act 69 = .ok (.aload_n 0, 1) := by decide +kernel
theorem dX10_act_70 : decode cX10_act 70 = .ok (.getfield 30, 3) := by decide +kernel
theorem dX10_act_73 : decode cX10_act 73 = .ok (.new 185, 3) := by decide +kernel
theorem dX10_act_76 : decode cX10_act 76 = .ok (.dup, 1) := by decide +kernel
theorem dX10_act_77 : decode cX10_act 77 = .ok (.iload_n 1, 1) := by decide +kernel
theorem dX10_act_78 : decode cX10_act 78 = .ok (.iload_n 2, 1) := by decide +kernel
theorem dX10_act_79 : decode cX10_act 79 = .ok (.aload_n 0, 1) := by decide +kernel
theorem dX10_act_80 : decode cX10_act 80 = .ok (.getfield 37, 3) := by decide +kernel
theorem dX10_act_83 : decode cX10_act 83 = .ok (.getfield 187, 3) := by decide +kernel
theorem dX10_act_86 : decode cX10_act 86 = .ok (.aload_n 0, 1) := by decide +kernel
theorem dX10_act_87 : decode cX10_act 87 = .ok (.getfield 37, 3) := by decide +kernel
theorem dX10_act_90 : decode cX10_act 90 = .ok (.getfield 190, 3) := by decide +kernel
theorem dX10_act_93 : decode cX10_act 93 = .ok (.invokestatic 193, 3) := by decide +kernel
theorem dX10_act_96 : decode cX10_act 96 = .ok (.invokespecial 199, 3) := by decide +kernel
theorem dX10_act_99 : decode cX10_act 99 = .ok (.invokevirtual 202, 3) := by decide +kernel
theorem dX10_act_102 : decode cX10_act 102 = .ok (.aload_n 0, 1) := by decide +kernel
theorem dX10_act_103 : decode cX10_act 103 = .ok (.getfield 37, 3) := by decide +kernel
theorem dX10_act_106 : decode cX10_act 106 = .ok (.iconst 0, 1) := by decide +kernel
theorem dX10_act_107 : decode cX10_act 107 = .ok (.putfield 169, 3) := by decide +kernel
theorem dX10_act_110 : decode cX10_act 110 = .ok (.iload_n 3, 1) := by decide +kernel
theorem dX10_act_111 : decode cX10_act 111 = .ok (.ifCond .ge 13, 3) := by decide +kernel
theorem dX10_act_114 : decode cX10_act 114 = .ok (.aload_n 0, 1) := by decide +kernel
theorem dX10_act_115 : decode cX10_act 115 = .ok (.getfield 30, 3) := by decide +kernel
theorem dX10_act_118 : decode cX10_act 118 = .ok (.getfield 178, 3) := by decide +kernel
theorem dX10_act_121 : decode cX10_act 121 = .ok (.goto 7, 3) := by decide +kernel
theorem dX10_act_124 : decode cX10_act 124 = .ok (.bipush (-20), 2) := by decide +kernel
theorem dX10_act_126 : decode cX10_act 126 = .ok (.iload_n 3, 1) := by decide +kernel
theorem dX10_act_127 : decode cX10_act 127 = .ok (.isub, 1) := by decide +kernel
theorem dX10_act_128 : decode cX10_act 128 = .ok (.ireturn, 1) := by decide +kernel
theorem in_wsX10_act_X10 : ∀ w ∈ wsX100, w ∈ wsX10_act := fun w h => List.mem_cons_of_mem _ (List.mem_append_left _ (List.mem_append_left _ (List.mem_append_left _ (List.mem_append_right _ h))))
theorem in_wsX10_act_X5 : ∀ w ∈ wsX50, w ∈ wsX10_act := fun w h => List.mem_cons_of_mem _ (List.mem_append_left _ (List.mem_append_left _ (List.mem_append_right _ h)))
theorem in_wsX10_act_X8 : ∀ w ∈ wsX80, w ∈ wsX10_act := fun w h => List.mem_cons_of_mem _ (List.mem_append_right _ h)
theorem in_wsX10_act_X0 : ∀ w ∈ wsX00, w ∈ wsX10_act := fun w h => List.mem_cons_of_mem _ (List.mem_append_left _ (List.mem_append_right _ h))
