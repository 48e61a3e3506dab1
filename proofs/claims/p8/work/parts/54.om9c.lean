abbrev cX8_parse : ByteArray := prog_10_method_3_code
def yX8_parse : MethodName := ⟨RX8, "parse", "()I"⟩
def wsX8_parse_r1 : List Cond := [Cond.fieldLink RX8 22 "ShipOffice$Tape" "at" "I", Cond.fieldLink RX8 25 "ShipOffice$Tape" "codeSize" "I", Cond.fieldLink RX8 28 "ShipOffice$Tape" "fault" "I", Cond.fieldLink RX8 18 "ShipOffice$Tape" "size" "I", Cond.methodLink RX8 31 yX8_parseSum, Cond.instanceMethod yX8_parseSum, Cond.selects RX8 yX8_parseSum yX8_parseSum, Cond.initialized RX8, Cond.code yX8_parseSum cX8_parseSum 4 none, Cond.fieldLink RX8 9 "ShipOffice$Tape" "bytes" "[I", Cond.methodLink RX8 35 yX8_parseTerm, Cond.instanceMethod yX8_parseTerm, Cond.selects RX8 yX8_parseTerm yX8_parseTerm, Cond.methodLink RX8 38 yX8_sees, Cond.instanceMethod yX8_sees, Cond.selects RX8 yX8_sees yX8_sees, Cond.code yX8_sees cX8_sees 2 (some .boolean), Cond.methodLink RX8 42 yX8_emitSign, Cond.instanceMethod yX8_emitSign, Cond.selects RX8 yX8_emitSign yX8_emitSign, Cond.code yX8_emitSign cX8_emitSign 3 none, Cond.fieldLink RX8 71 "ShipOffice$Act" "SIGNS" "[C", Cond.methodLink RX8 61 yX8_emit, Cond.instanceMethod yX8_emit]
def wsX8_parse_r2 : List Cond := [Cond.selects RX8 yX8_emit yX8_emit, Cond.code yX8_emit cX8_emit 2 none, Cond.fieldLink RX8 15 "ShipOffice$Tape" "code" "[I", Cond.code yX8_parseBracket cX8_parseBracket 3 none, Cond.code yX8_parseTerm cX8_parseTerm 4 none, Cond.methodLink RX8 45 yX8_parseUnit, Cond.instanceMethod yX8_parseUnit, Cond.selects RX8 yX8_parseUnit yX8_parseUnit, Cond.code yX8_parseUnit cX8_parseUnit 3 none, Cond.methodLink RX8 48 yX8_letterHere, Cond.instanceMethod yX8_letterHere, Cond.selects RX8 yX8_letterHere yX8_letterHere, Cond.code yX8_letterHere cX8_letterHere 2 (some .int), Cond.methodLink RX8 52 yX8_seesDigit, Cond.instanceMethod yX8_seesDigit, Cond.selects RX8 yX8_seesDigit yX8_seesDigit, Cond.code yX8_seesDigit cX8_seesDigit 1 (some .boolean), Cond.methodLink RX8 56 yX8_parseNumber, Cond.instanceMethod yX8_parseNumber, Cond.selects RX8 yX8_parseNumber yX8_parseNumber, Cond.code yX8_parseNumber cX8_parseNumber 3 none, Cond.methodLink RX8 64 yX8_parseBracket, Cond.instanceMethod yX8_parseBracket, Cond.selects RX8 yX8_parseBracket yX8_parseBracket]
def wsX8_parse : List Cond := .code yX8_parse cX8_parse 1 (some .int) :: ((wsX8_parse_r1 ++ wsX8_parse_r2) ++ wsX80)
theorem il_X8_parse_1 : ∀ w ∈ wsX8_parse_r1, w ∈ wsX8_parse := fun w h => (List.mem_cons_of_mem _ (List.mem_append_left _ (List.mem_append_left _ h)))
theorem il_X8_parse_2 : ∀ w ∈ wsX8_parse_r2, w ∈ wsX8_parse := fun w h => (List.mem_cons_of_mem _ (List.mem_append_left _ (List.mem_append_right _ h)))
theorem il_X8_parse_3 : ∀ w ∈ wsX80, w ∈ wsX8_parse := fun w h => (List.mem_cons_of_mem _ (List.mem_append_right _ h))
theorem iw_X8_parse_1 : Cond.fieldLink RX8 22 "ShipOffice$Tape" "at" "I" ∈ wsX8_parse := (mmI il_X8_parse_1 0 rfl)
theorem iw_X8_parse_2 : Cond.fieldLink RX8 25 "ShipOffice$Tape" "codeSize" "I" ∈ wsX8_parse := (mmI il_X8_parse_1 1 rfl)
theorem iw_X8_parse_3 : Cond.fieldLink RX8 28 "ShipOffice$Tape" "fault" "I" ∈ wsX8_parse := (mmI il_X8_parse_1 2 rfl)
theorem iw_X8_parse_4 : Cond.fieldLink RX8 18 "ShipOffice$Tape" "size" "I" ∈ wsX8_parse := (mmI il_X8_parse_1 3 rfl)
set_option maxRecDepth 100000 in
theorem ggX8_parse_X8_parseSum : GoodIn wsX8_parse wsX8_parseSum := goodIn_sub (mmC (mmI il_X8_parse_1 8 rfl) (mmA (mmA (mmC (mmI il_X8_parse_1 2 rfl) (mmC (mmI il_X8_parse_1 9 rfl) (mmC (mmI il_X8_parse_1 0 rfl) (mmC (mmI il_X8_parse_1 10 rfl) (mmC (mmI il_X8_parse_1 11 rfl) (mmC (mmI il_X8_parse_1 12 rfl) (mmC (mmI il_X8_parse_1 7 rfl) (mmC (mmI il_X8_parse_1 13 rfl) (mmC (mmI il_X8_parse_1 14 rfl) (mmC (mmI il_X8_parse_1 15 rfl) (mmC (mmI il_X8_parse_1 16 rfl) (mmC (mmI il_X8_parse_1 3 rfl) (mmC (mmI il_X8_parse_1 17 rfl) (mmC (mmI il_X8_parse_1 18 rfl) (mmC (mmI il_X8_parse_1 19 rfl) (mmC (mmI il_X8_parse_1 20 rfl) (mmC (mmI il_X8_parse_1 21 rfl) (mmC (mmI il_X8_parse_1 22 rfl) (mmC (mmI il_X8_parse_1 23 rfl) (mmC (mmI il_X8_parse_2 0 rfl) (mmC (mmI il_X8_parse_2 1 rfl) (mmC (mmI il_X8_parse_1 1 rfl) (mmC (mmI il_X8_parse_2 2 rfl) (mmC (mmI il_X8_parse_2 3 rfl) mmN)))))))))))))))))))))))) (mmC (mmI il_X8_parse_1 4 rfl) (mmC (mmI il_X8_parse_1 5 rfl) (mmC (mmI il_X8_parse_1 6 rfl) (mmC (mmI il_X8_parse_2 4 rfl) (mmC (mmI il_X8_parse_2 5 rfl) (mmC (mmI il_X8_parse_2 6 rfl) (mmC (mmI il_X8_parse_2 7 rfl) (mmC (mmI il_X8_parse_2 8 rfl) (mmC (mmI il_X8_parse_2 9 rfl) (mmC (mmI il_X8_parse_2 10 rfl) (mmC (mmI il_X8_parse_2 11 rfl) (mmC (mmI il_X8_parse_2 12 rfl) (mmC (mmI il_X8_parse_2 13 rfl) (mmC (mmI il_X8_parse_2 14 rfl) (mmC (mmI il_X8_parse_2 15 rfl) (mmC (mmI il_X8_parse_2 16 rfl) (mmC (mmI il_X8_parse_2 17 rfl) (mmC (mmI il_X8_parse_2 18 rfl) (mmC (mmI il_X8_parse_2 19 rfl) (mmC (mmI il_X8_parse_2 20 rfl) (mmC (mmI il_X8_parse_2 21 rfl) (mmC (mmI il_X8_parse_2 22 rfl) (mmC (mmI il_X8_parse_2 23 rfl) mmN)))))))))))))))))))))))) il_X8_parse_3)) gw_X8_parseSum
theorem gX8_parse_X8_parseSum : GoodIn wsX8_parse (wsV RX8 31 RX8 yX8_parseSum wsX8_parseSum) := goodIn_app (goodIn_sub (mmC (mmI il_X8_parse_1 4 rfl) (mmC (mmI il_X8_parse_1 5 rfl) (mmC (mmI il_X8_parse_1 6 rfl) (mmC (mmI il_X8_parse_1 7 rfl) mmN)))) (by decide +kernel)) ggX8_parse_X8_parseSum
theorem dX8_parse_0 : decode cX8_parse 0 = .ok (.aload_n 0, 1) := by decide +kernel
theorem dX8_parse_1 : decode cX8_parse 1 = .ok (.iconst 0, 1) := by decide +kernel
theorem dX8_parse_2 : decode cX8_parse 2 = .ok (.putfield 22, 3) := by decide +kernel
theorem dX8_parse_5 : decode cX8_parse 5 = .ok (.aload_n 0, 1) := by decide +kernel
theorem dX8_parse_6 : decode cX8_parse 6 = .ok (.iconst 0, 1) := by decide +kernel
theorem dX8_parse_7 : decode cX8_parse 7 = .ok (.putfield 25, 3) := by decide +kernel
theorem dX8_parse_10 : decode cX8_parse 10 = .ok (.aload_n 0, 1) := by decide +kernel
theorem dX8_parse_11 : decode cX8_parse 11 = .ok (.iconst (-1), 1) := by decide +kernel
theorem dX8_parse_12 : decode cX8_parse 12 = .ok (.putfield 28, 3) := by decide +kernel
theorem dX8_parse_15 : decode cX8_parse 15 = .ok (.aload_n 0, 1) := by decide +kernel
theorem dX8_parse_16 : decode cX8_parse 16 = .ok (.iconst 0, 1) := by decide +kernel
theorem dX8_parse_17 : decode cX8_parse 17 = .ok (.invokevirtual 31, 3) := by decide +kernel
theorem dX8_parse_20 : decode cX8_parse 20 = .ok (.aload_n 0, 1) := by decide +kernel
theorem dX8_parse_21 : decode cX8_parse 21 = .ok (.getfield 28, 3) := by decide +kernel
theorem dX8_parse_24 : decode cX8_parse 24 = .ok (.ifCond .ge 22, 3) := by decide +kernel
theorem dX8_parse_27 : decode cX8_parse 27 = .ok (.aload_n 0, 1) := by decide +kernel
theorem dX8_parse_28 : decode cX8_parse 28 = .ok (.getfield 22, 3) := by decide +kernel
theorem dX8_parse_31 : decode cX8_parse 31 = .ok (.aload_n 0, 1) := by decide +kernel
theorem dX8_parse_32 : decode cX8_parse 32 = .ok (.getfield 18, 3) := by decide +kernel
theorem dX8_parse_35 : decode cX8_parse 35 = .ok (.if_icmp .ge 11, 3) := by decide +kernel
theorem dX8_parse_38 : decode cX8_parse 38 = .ok (.aload_n 0, 1) := by decide +kernel
theorem dX8_parse_39 : decode cX8_parse 39 = .ok (.aload_n 0, 1) := by decide +kernel
theorem dX8_parse_40 : decode cX8_parse 40 = .ok (.getfield 22, 3) := by decide +kernel
theorem dX8_parse_43 : decode cX8_parse 43 = .ok (.putfield 28, 3) := by decide +kernel
theorem dX8_parse_46 : decode cX8_parse 46 = .ok (.aload_n 0, 1) := by decide +kernel
theorem dX8_parse_47 : decode cX8_parse 47 = .ok (.getfield 28, 3) := by decide +kernel
theorem dX8_parse_50 : decode cX8_parse 50 = .ok (.ireturn, 1) := by decide +kernel
theorem in_wsX8_parse_X8 : ∀ w ∈ wsX80, w ∈ wsX8_parse := fun w h => List.mem_cons_of_mem _ (List.mem_append_right _ h)
