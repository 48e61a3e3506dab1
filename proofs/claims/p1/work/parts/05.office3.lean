abbrev cX0_init : ByteArray := prog_2_method_1_code
def yX0_init : MethodName := ⟨RX0, "<init>", "(II[I)V"⟩
abbrev cX5_add : ByteArray := prog_7_method_2_code
def yX5_add : MethodName := ⟨RX5, "add", "(LShipOffice$Act;)V"⟩
abbrev cX6_asks : ByteArray := prog_8_method_3_code
def yX6_asks : MethodName := ⟨RX6, "asks", "()Z"⟩
def tyX8 : Nat → FieldType := fun k => match k with
  | 0 => .array .int
  | 1 => .int
  | 2 => .array .int
  | 3 => .int
  | 4 => .int
  | _ => .int
abbrev wsX80 : List Cond := u_ws RX8 TX8 6
theorem nmX8 : ∀ a, a < 6 → ∀ b, b < 6 → a ≠ b → (TX8 a).2.1 ≠ (TX8 b).2.1 := by decide +kernel
theorem tyX8_ok : ∀ k, k < 6 → parseFieldDescriptor (TX8 k).2.2.1 = some (tyX8 k) := by decide +kernel
abbrev cX8_add : ByteArray := prog_10_method_2_code
def yX8_add : MethodName := ⟨RX8, "add", "(I)V"⟩
abbrev cX8_parse : ByteArray := prog_10_method_3_code
def yX8_parse : MethodName := ⟨RX8, "parse", "()I"⟩
abbrev cX8_parseSum : ByteArray := prog_10_method_4_code
def yX8_parseSum : MethodName := ⟨RX8, "parseSum", "(I)V"⟩
abbrev cX8_parseTerm : ByteArray := prog_10_method_5_code
def yX8_parseTerm : MethodName := ⟨RX8, "parseTerm", "(I)V"⟩
abbrev cX8_parseUnit : ByteArray := prog_10_method_6_code
def yX8_parseUnit : MethodName := ⟨RX8, "parseUnit", "(I)V"⟩
abbrev cX8_parseNumber : ByteArray := prog_10_method_7_code
def yX8_parseNumber : MethodName := ⟨RX8, "parseNumber", "()V"⟩
abbrev cX8_parseBracket : ByteArray := prog_10_method_8_code
def yX8_parseBracket : MethodName := ⟨RX8, "parseBracket", "(I)V"⟩
abbrev cX8_sees : ByteArray := prog_10_method_9_code
def yX8_sees : MethodName := ⟨RX8, "sees", "(I)Z"⟩
abbrev cX8_seesDigit : ByteArray := prog_10_method_10_code
def yX8_seesDigit : MethodName := ⟨RX8, "seesDigit", "()Z"⟩
abbrev cX8_letterHere : ByteArray := prog_10_method_11_code
def yX8_letterHere : MethodName := ⟨RX8, "letterHere", "()I"⟩
abbrev cX8_emitSign : ByteArray := prog_10_method_12_code
def yX8_emitSign : MethodName := ⟨RX8, "emitSign", "(I)V"⟩
abbrev cX8_emit : ByteArray := prog_10_method_13_code
def yX8_emit : MethodName := ⟨RX8, "emit", "(I)V"⟩
abbrev cX10_feed : ByteArray := prog_1_method_13_code
def yX10_feed : MethodName := ⟨RX10, "feed", "(IJ)I"⟩
abbrev cX10_act : ByteArray := prog_1_method_14_code
def yX10_act : MethodName := ⟨RX10, "act", "(II)I"⟩
abbrev cX10_count : ByteArray := prog_1_method_36_code
def yX10_count : MethodName := ⟨RX10, "count", "(I)I"⟩
abbrev cX10_openVoyages : ByteArray := prog_1_method_51_code
def yX10_openVoyages : MethodName := ⟨RX10, "openVoyages", "()I"⟩
abbrev cX10_openAgreements : ByteArray := prog_1_method_52_code
def yX10_openAgreements : MethodName := ⟨RX10, "openAgreements", "()I"⟩
abbrev cX10_menWhoAsk : ByteArray := prog_1_method_53_code
def yX10_menWhoAsk : MethodName := ⟨RX10, "menWhoAsk", "()I"⟩
abbrev cJ7_copyOf_59c91 : ByteArray := prog_17_method_123_code
def yJ7_copyOf_59c91 : MethodName := ⟨RJ7, "copyOf", "([II)[I"⟩
def wsX8_add : List Cond := .code yX8_add cX8_add 2 none :: ([.fieldLink RX8 18 "ShipOffice$Tape" "size" "I", .fieldLink RX8 9 "ShipOffice$Tape" "bytes" "[I"] ++ wsX80)
def wsX8_sees : List Cond := .code yX8_sees cX8_sees 2 (some .boolean) :: ([.fieldLink RX8 22 "ShipOffice$Tape" "at" "I", .fieldLink RX8 18 "ShipOffice$Tape" "size" "I", .fieldLink RX8 9 "ShipOffice$Tape" "bytes" "[I"] ++ wsX80)
def wsX8_letterHere : List Cond := .code yX8_letterHere cX8_letterHere 2 (some .int) :: ([.methodLink RX8 38 yX8_sees, .instanceMethod yX8_sees, .selects RX8 yX8_sees yX8_sees, .initialized RX8, .code yX8_sees cX8_sees 2 (some .boolean), .fieldLink RX8 22 "ShipOffice$Tape" "at" "I", .fieldLink RX8 18 "ShipOffice$Tape" "size" "I", .fieldLink RX8 9 "ShipOffice$Tape" "bytes" "[I"] ++ wsX80)
def wsX8_seesDigit : List Cond := .code yX8_seesDigit cX8_seesDigit 1 (some .boolean) :: ([.fieldLink RX8 22 "ShipOffice$Tape" "at" "I", .fieldLink RX8 18 "ShipOffice$Tape" "size" "I", .fieldLink RX8 9 "ShipOffice$Tape" "bytes" "[I"] ++ wsX80)
def wsX8_parseSum_r1 : List Cond := [Cond.fieldLink RX8 28 "ShipOffice$Tape" "fault" "I", Cond.fieldLink RX8 9 "ShipOffice$Tape" "bytes" "[I", Cond.fieldLink RX8 22 "ShipOffice$Tape" "at" "I", Cond.methodLink RX8 35 yX8_parseTerm, Cond.instanceMethod yX8_parseTerm, Cond.selects RX8 yX8_parseTerm yX8_parseTerm, Cond.initialized RX8, Cond.methodLink RX8 38 yX8_sees, Cond.instanceMethod yX8_sees, Cond.selects RX8 yX8_sees yX8_sees, Cond.code yX8_sees cX8_sees 2 (some .boolean), Cond.fieldLink RX8 18 "ShipOffice$Tape" "size" "I", Cond.methodLink RX8 42 yX8_emitSign, Cond.instanceMethod yX8_emitSign, Cond.selects RX8 yX8_emitSign yX8_emitSign, Cond.code yX8_emitSign cX8_emitSign 3 none, Cond.fieldLink RX8 71 "ShipOffice$Act" "SIGNS" "[C", Cond.methodLink RX8 61 yX8_emit, Cond.instanceMethod yX8_emit, Cond.selects RX8 yX8_emit yX8_emit, Cond.code yX8_emit cX8_emit 2 none, Cond.fieldLink RX8 25 "ShipOffice$Tape" "codeSize" "I", Cond.fieldLink RX8 15 "ShipOffice$Tape" "code" "[I", Cond.code yX8_parseBracket cX8_parseBracket 3 none]
def wsX8_parseSum_r2 : List Cond := [Cond.methodLink RX8 31 yX8_parseSum, Cond.instanceMethod yX8_parseSum, Cond.selects RX8 yX8_parseSum yX8_parseSum, Cond.code yX8_parseTerm cX8_parseTerm 4 none, Cond.methodLink RX8 45 yX8_parseUnit, Cond.instanceMethod yX8_parseUnit, Cond.selects RX8 yX8_parseUnit yX8_parseUnit, Cond.code yX8_parseUnit cX8_parseUnit 3 none, Cond.methodLink RX8 48 yX8_letterHere, Cond.instanceMethod yX8_letterHere, Cond.selects RX8 yX8_letterHere yX8_letterHere, Cond.code yX8_letterHere cX8_letterHere 2 (some .int), Cond.methodLink RX8 52 yX8_seesDigit, Cond.instanceMethod yX8_seesDigit, Cond.selects RX8 yX8_seesDigit yX8_seesDigit, Cond.code yX8_seesDigit cX8_seesDigit 1 (some .boolean), Cond.methodLink RX8 56 yX8_parseNumber, Cond.instanceMethod yX8_parseNumber, Cond.selects RX8 yX8_parseNumber yX8_parseNumber, Cond.code yX8_parseNumber cX8_parseNumber 3 none, Cond.methodLink RX8 64 yX8_parseBracket, Cond.instanceMethod yX8_parseBracket, Cond.selects RX8 yX8_parseBracket yX8_parseBracket]
def wsX8_parseSum : List Cond := .code yX8_parseSum cX8_parseSum 4 none :: ((wsX8_parseSum_r1 ++ wsX8_parseSum_r2) ++ wsX80)
def wsX8_parseTerm_r1 : List Cond := [Cond.fieldLink RX8 28 "ShipOffice$Tape" "fault" "I", Cond.fieldLink RX8 9 "ShipOffice$Tape" "bytes" "[I", Cond.fieldLink RX8 22 "ShipOffice$Tape" "at" "I", Cond.methodLink RX8 45 yX8_parseUnit, Cond.instanceMethod yX8_parseUnit, Cond.selects RX8 yX8_parseUnit yX8_parseUnit, Cond.initialized RX8, Cond.methodLink RX8 38 yX8_sees, Cond.instanceMethod yX8_sees, Cond.selects RX8 yX8_sees yX8_sees, Cond.code yX8_sees cX8_sees 2 (some .boolean), Cond.fieldLink RX8 18 "ShipOffice$Tape" "size" "I", Cond.methodLink RX8 42 yX8_emitSign, Cond.instanceMethod yX8_emitSign, Cond.selects RX8 yX8_emitSign yX8_emitSign, Cond.code yX8_emitSign cX8_emitSign 3 none, Cond.fieldLink RX8 71 "ShipOffice$Act" "SIGNS" "[C", Cond.methodLink RX8 61 yX8_emit, Cond.instanceMethod yX8_emit, Cond.selects RX8 yX8_emit yX8_emit, Cond.code yX8_emit cX8_emit 2 none, Cond.fieldLink RX8 25 "ShipOffice$Tape" "codeSize" "I", Cond.fieldLink RX8 15 "ShipOffice$Tape" "code" "[I", Cond.code yX8_parseBracket cX8_parseBracket 3 none]
def wsX8_parseTerm_r2 : List Cond := [Cond.methodLink RX8 31 yX8_parseSum, Cond.instanceMethod yX8_parseSum, Cond.selects RX8 yX8_parseSum yX8_parseSum, Cond.code yX8_parseSum cX8_parseSum 4 none, Cond.methodLink RX8 35 yX8_parseTerm, Cond.instanceMethod yX8_parseTerm, Cond.selects RX8 yX8_parseTerm yX8_parseTerm, Cond.code yX8_parseUnit cX8_parseUnit 3 none, Cond.methodLink RX8 48 yX8_letterHere, Cond.instanceMethod yX8_letterHere, Cond.selects RX8 yX8_letterHere yX8_letterHere, Cond.code yX8_letterHere cX8_letterHere 2 (some .int), Cond.methodLink RX8 52 yX8_seesDigit, Cond.instanceMethod yX8_seesDigit, Cond.selects RX8 yX8_seesDigit yX8_seesDigit, Cond.code yX8_seesDigit cX8_seesDigit 1 (some .boolean), Cond.methodLink RX8 56 yX8_parseNumber, Cond.instanceMethod yX8_parseNumber, Cond.selects RX8 yX8_parseNumber yX8_parseNumber, Cond.code yX8_parseNumber cX8_parseNumber 3 none, Cond.methodLink RX8 64 yX8_parseBracket, Cond.instanceMethod yX8_parseBracket, Cond.selects RX8 yX8_parseBracket yX8_parseBracket]
def wsX8_parseTerm : List Cond := .code yX8_parseTerm cX8_parseTerm 4 none :: ((wsX8_parseTerm_r1 ++ wsX8_parseTerm_r2) ++ wsX80)
def wsX8_parseUnit_r1 : List Cond := [Cond.fieldLink RX8 22 "ShipOffice$Tape" "at" "I", Cond.fieldLink RX8 28 "ShipOffice$Tape" "fault" "I", Cond.methodLink RX8 48 yX8_letterHere, Cond.instanceMethod yX8_letterHere, Cond.selects RX8 yX8_letterHere yX8_letterHere, Cond.initialized RX8, Cond.code yX8_letterHere cX8_letterHere 2 (some .int), Cond.methodLink RX8 38 yX8_sees, Cond.instanceMethod yX8_sees, Cond.selects RX8 yX8_sees yX8_sees, Cond.code yX8_sees cX8_sees 2 (some .boolean), Cond.fieldLink RX8 18 "ShipOffice$Tape" "size" "I", Cond.fieldLink RX8 9 "ShipOffice$Tape" "bytes" "[I", Cond.methodLink RX8 52 yX8_seesDigit, Cond.instanceMethod yX8_seesDigit, Cond.selects RX8 yX8_seesDigit yX8_seesDigit, Cond.code yX8_seesDigit cX8_seesDigit 1 (some .boolean), Cond.methodLink RX8 56 yX8_parseNumber, Cond.instanceMethod yX8_parseNumber, Cond.selects RX8 yX8_parseNumber yX8_parseNumber, Cond.code yX8_parseNumber cX8_parseNumber 3 none, Cond.methodLink RX8 61 yX8_emit, Cond.instanceMethod yX8_emit, Cond.selects RX8 yX8_emit yX8_emit]
def wsX8_parseUnit_r2 : List Cond := [Cond.code yX8_emit cX8_emit 2 none, Cond.fieldLink RX8 25 "ShipOffice$Tape" "codeSize" "I", Cond.fieldLink RX8 15 "ShipOffice$Tape" "code" "[I", Cond.methodLink RX8 64 yX8_parseBracket, Cond.instanceMethod yX8_parseBracket, Cond.selects RX8 yX8_parseBracket yX8_parseBracket, Cond.code yX8_parseBracket cX8_parseBracket 3 none, Cond.methodLink RX8 31 yX8_parseSum, Cond.instanceMethod yX8_parseSum, Cond.selects RX8 yX8_parseSum yX8_parseSum, Cond.methodLink RX8 42 yX8_emitSign, Cond.instanceMethod yX8_emitSign, Cond.selects RX8 yX8_emitSign yX8_emitSign, Cond.code yX8_emitSign cX8_emitSign 3 none, Cond.fieldLink RX8 71 "ShipOffice$Act" "SIGNS" "[C", Cond.code yX8_parseSum cX8_parseSum 4 none, Cond.methodLink RX8 35 yX8_parseTerm, Cond.instanceMethod yX8_parseTerm, Cond.selects RX8 yX8_parseTerm yX8_parseTerm, Cond.code yX8_parseTerm cX8_parseTerm 4 none, Cond.methodLink RX8 45 yX8_parseUnit, Cond.instanceMethod yX8_parseUnit, Cond.selects RX8 yX8_parseUnit yX8_parseUnit]
def wsX8_parseUnit : List Cond := .code yX8_parseUnit cX8_parseUnit 3 none :: ((wsX8_parseUnit_r1 ++ wsX8_parseUnit_r2) ++ wsX80)
def wsX8_parse_r1 : List Cond := [Cond.fieldLink RX8 22 "ShipOffice$Tape" "at" "I", Cond.fieldLink RX8 25 "ShipOffice$Tape" "codeSize" "I", Cond.fieldLink RX8 28 "ShipOffice$Tape" "fault" "I", Cond.fieldLink RX8 18 "ShipOffice$Tape" "size" "I", Cond.methodLink RX8 31 yX8_parseSum, Cond.instanceMethod yX8_parseSum, Cond.selects RX8 yX8_parseSum yX8_parseSum, Cond.initialized RX8, Cond.code yX8_parseSum cX8_parseSum 4 none, Cond.fieldLink RX8 9 "ShipOffice$Tape" "bytes" "[I", Cond.methodLink RX8 35 yX8_parseTerm, Cond.instanceMethod yX8_parseTerm, Cond.selects RX8 yX8_parseTerm yX8_parseTerm, Cond.methodLink RX8 38 yX8_sees, Cond.instanceMethod yX8_sees, Cond.selects RX8 yX8_sees yX8_sees, Cond.code yX8_sees cX8_sees 2 (some .boolean), Cond.methodLink RX8 42 yX8_emitSign, Cond.instanceMethod yX8_emitSign, Cond.selects RX8 yX8_emitSign yX8_emitSign, Cond.code yX8_emitSign cX8_emitSign 3 none, Cond.fieldLink RX8 71 "ShipOffice$Act" "SIGNS" "[C", Cond.methodLink RX8 61 yX8_emit, Cond.instanceMethod yX8_emit]
def wsX8_parse_r2 : List Cond := [Cond.selects RX8 yX8_emit yX8_emit, Cond.code yX8_emit cX8_emit 2 none, Cond.fieldLink RX8 15 "ShipOffice$Tape" "code" "[I", Cond.code yX8_parseBracket cX8_parseBracket 3 none, Cond.code yX8_parseTerm cX8_parseTerm 4 none, Cond.methodLink RX8 45 yX8_parseUnit, Cond.instanceMethod yX8_parseUnit, Cond.selects RX8 yX8_parseUnit yX8_parseUnit, Cond.code yX8_parseUnit cX8_parseUnit 3 none, Cond.methodLink RX8 48 yX8_letterHere, Cond.instanceMethod yX8_letterHere, Cond.selects RX8 yX8_letterHere yX8_letterHere, Cond.code yX8_letterHere cX8_letterHere 2 (some .int), Cond.methodLink RX8 52 yX8_seesDigit, Cond.instanceMethod yX8_seesDigit, Cond.selects RX8 yX8_seesDigit yX8_seesDigit, Cond.code yX8_seesDigit cX8_seesDigit 1 (some .boolean), Cond.methodLink RX8 56 yX8_parseNumber, Cond.instanceMethod yX8_parseNumber, Cond.selects RX8 yX8_parseNumber yX8_parseNumber, Cond.code yX8_parseNumber cX8_parseNumber 3 none, Cond.methodLink RX8 64 yX8_parseBracket, Cond.instanceMethod yX8_parseBracket, Cond.selects RX8 yX8_parseBracket yX8_parseBracket]
def wsX8_parse : List Cond := .code yX8_parse cX8_parse 1 (some .int) :: ((wsX8_parse_r1 ++ wsX8_parse_r2) ++ wsX80)
def wsX10_feed : List Cond := .code yX10_feed cX10_feed 5 (some .int) :: ([.fieldLink RX10 37 "ShipOffice" "tape" "LShipOffice$Tape;", .fieldLink RX10 169 "ShipOffice$Tape" "size" "I", .constantLong RX10 172 (255), .methodLink RX10 69 yX10_refuse, .instanceMethod yX10_refuse, .selects RX10 yX10_refuse yX10_refuse, .initialized RX10, .code yX10_refuse cX10_refuse 2 (some .int), .fieldLink RX10 66 "ShipOffice" "refusals" "[I", .methodLink RX10 174 yX8_add, .instanceMethod yX8_add, .selects RX8 yX8_add yX8_add, .initialized RX8, .code yX8_add cX8_add 2 none, .fieldLink RX8 18 "ShipOffice$Tape" "size" "I", .fieldLink RX8 9 "ShipOffice$Tape" "bytes" "[I"] ++ wsX100 ++ wsX80)
def wsX10_act_r1 : List Cond := [Cond.fieldLink RX10 73 "ShipOffice" "now" "I", Cond.fieldLink RX10 30 "ShipOffice" "law" "LShipOffice$Law;", Cond.fieldLink RX10 178 "ShipOffice$Law" "actCount" "I", Cond.fieldLink RX10 37 "ShipOffice" "tape" "LShipOffice$Tape;", Cond.classLink RX10 185 RX0, Cond.instantiable RX0 5, Cond.initialized RX0, Cond.fieldLink RX10 187 "ShipOffice$Tape" "code" "[I", Cond.fieldLink RX10 190 "ShipOffice$Tape" "codeSize" "I", Cond.fieldLink RX10 169 "ShipOffice$Tape" "size" "I", Cond.methodLink RX10 69 yX10_refuse, Cond.instanceMethod yX10_refuse, Cond.selects RX10 yX10_refuse yX10_refuse, Cond.initialized RX10, Cond.code yX10_refuse cX10_refuse 2 (some .int), Cond.fieldLink RX10 66 "ShipOffice" "refusals" "[I", Cond.methodLink RX10 181 yX8_parse, Cond.instanceMethod yX8_parse, Cond.selects RX8 yX8_parse yX8_parse, Cond.initialized RX8, Cond.code yX8_parse cX8_parse 1 (some .int), Cond.fieldLink RX8 22 "ShipOffice$Tape" "at" "I", Cond.fieldLink RX8 25 "ShipOffice$Tape" "codeSize" "I", Cond.fieldLink RX8 28 "ShipOffice$Tape" "fault" "I"]
def wsX10_act_r2 : List Cond := [Cond.fieldLink RX8 18 "ShipOffice$Tape" "size" "I", Cond.methodLink RX8 31 yX8_parseSum, Cond.instanceMethod yX8_parseSum, Cond.selects RX8 yX8_parseSum yX8_parseSum, Cond.code yX8_parseSum cX8_parseSum 4 none, Cond.fieldLink RX8 9 "ShipOffice$Tape" "bytes" "[I", Cond.methodLink RX8 35 yX8_parseTerm, Cond.instanceMethod yX8_parseTerm, Cond.selects RX8 yX8_parseTerm yX8_parseTerm, Cond.methodLink RX8 38 yX8_sees, Cond.instanceMethod yX8_sees, Cond.selects RX8 yX8_sees yX8_sees, Cond.code yX8_sees cX8_sees 2 (some .boolean), Cond.methodLink RX8 42 yX8_emitSign, Cond.instanceMethod yX8_emitSign, Cond.selects RX8 yX8_emitSign yX8_emitSign, Cond.code yX8_emitSign cX8_emitSign 3 none, Cond.fieldLink RX8 71 "ShipOffice$Act" "SIGNS" "[C", Cond.methodLink RX8 61 yX8_emit, Cond.instanceMethod yX8_emit, Cond.selects RX8 yX8_emit yX8_emit, Cond.code yX8_emit cX8_emit 2 none, Cond.fieldLink RX8 15 "ShipOffice$Tape" "code" "[I", Cond.code yX8_parseBracket cX8_parseBracket 3 none]
def wsX10_act_r3 : List Cond := [Cond.code yX8_parseTerm cX8_parseTerm 4 none, Cond.methodLink RX8 45 yX8_parseUnit, Cond.instanceMethod yX8_parseUnit, Cond.selects RX8 yX8_parseUnit yX8_parseUnit, Cond.code yX8_parseUnit cX8_parseUnit 3 none, Cond.methodLink RX8 48 yX8_letterHere, Cond.instanceMethod yX8_letterHere, Cond.selects RX8 yX8_letterHere yX8_letterHere, Cond.code yX8_letterHere cX8_letterHere 2 (some .int), Cond.methodLink RX8 52 yX8_seesDigit, Cond.instanceMethod yX8_seesDigit, Cond.selects RX8 yX8_seesDigit yX8_seesDigit, Cond.code yX8_seesDigit cX8_seesDigit 1 (some .boolean), Cond.methodLink RX8 56 yX8_parseNumber, Cond.instanceMethod yX8_parseNumber, Cond.selects RX8 yX8_parseNumber yX8_parseNumber, Cond.code yX8_parseNumber cX8_parseNumber 3 none, Cond.methodLink RX8 64 yX8_parseBracket, Cond.instanceMethod yX8_parseBracket, Cond.selects RX8 yX8_parseBracket yX8_parseBracket, Cond.methodLink RX10 193 yJ7_copyOf_59c91, Cond.static yJ7_copyOf_59c91, Cond.initialized RJ7, Cond.code yJ7_copyOf_59c91 cJ7_copyOf_59c91 3 (some (.array .int))]
def wsX10_act_r4 : List Cond := [Cond.methodLink RJ7 316 ⟨"[I", "clone", "()Ljava/lang/Object;"⟩, Cond.sameMethod "[I" "java/lang/Object" "clone" "()Ljava/lang/Object;", Cond.native ⟨"java/lang/Object", "clone", "()Ljava/lang/Object;"⟩, Cond.instanceMethod ⟨"java/lang/Object", "clone", "()Ljava/lang/Object;"⟩, Cond.selects "[I" ⟨"[I", "clone", "()Ljava/lang/Object;"⟩ ⟨"java/lang/Object", "clone", "()Ljava/lang/Object;"⟩, Cond.classLink RJ7 317 "[I", Cond.arrayClass .int, Cond.methodLink RJ7 304 Lib.Math.min.name, Cond.static Lib.Math.min.name, Cond.initialized "java/lang/Math", Cond.code Lib.Math.min.name Lib.Math.min.code 2 (some .int), Cond.methodLink RJ7 150 arraycopyName, Cond.native arraycopyName, Cond.static arraycopyName, Cond.initialized "java/lang/System", Cond.methodLink RX10 199 yX0_init, Cond.instanceMethod yX0_init, Cond.code yX0_init cX0_init 4 none, Cond.methodLink RX0 1 objectInit, Cond.instanceMethod objectInit, Cond.code objectInit ⟨#[0xb1]⟩ 1 none, Cond.fieldLink RX0 7 "ShipOffice$Act" "purpose" "I", Cond.fieldLink RX0 13 "ShipOffice$Act" "day" "I", Cond.fieldLink RX0 16 "ShipOffice$Act" "code" "[I"]
def wsX10_act_r5 : List Cond := [Cond.fieldLink RX0 20 "ShipOffice$Act" "stack" "[I", Cond.fieldLink RX0 33 "ShipOffice$Act" "plainWorth" "I", Cond.methodLink RX0 29 yX0_worth, Cond.instanceMethod yX0_worth, Cond.selects RX0 yX0_worth yX0_worth, Cond.code yX0_worth cX0_worth 8 (some .int), Cond.methodLink RX0 36 yX0_joined, Cond.static yX0_joined, Cond.code yX0_joined cX0_joined 5 (some .int), Cond.methodLink RX0 40 yX0_held, Cond.static yX0_held, Cond.code yX0_held cX0_held 2 (some .int), Cond.constantLong RX0 44 (1000000000), Cond.constant RX0 46 (1000000000), Cond.constantLong RX0 47 (-1000000000), Cond.constant RX0 49 (-1000000000), Cond.methodLink RX10 202 yX5_add, Cond.instanceMethod yX5_add, Cond.selects RX5 yX5_add yX5_add, Cond.initialized RX5, Cond.code yX5_add cX5_add 2 none, Cond.fieldLink RX5 23 "ShipOffice$Law" "actCount" "I", Cond.fieldLink RX5 11 "ShipOffice$Law" "acts" "[LShipOffice$Act;"]
def wsX10_act : List Cond := .code yX10_act cX10_act 4 (some .int) :: ((wsX10_act_r1 ++ (wsX10_act_r2 ++ (wsX10_act_r3 ++ (wsX10_act_r4 ++ wsX10_act_r5)))) ++ wsX100 ++ wsX50 ++ wsX00 ++ wsX80)
def wsX10_openVoyages : List Cond := .code yX10_openVoyages cX10_openVoyages 3 (some .int) :: ([.fieldLink RX10 99 "ShipOffice" "voyageCount" "I", .fieldLink RX10 17 "ShipOffice" "voyages" "[LShipOffice$Voyage;", .fieldLink RX10 107 "ShipOffice$Voyage" "isOver" "Z"] ++ wsX100 ++ wsX90)
def wsX10_openAgreements : List Cond := .code yX10_openAgreements cX10_openAgreements 3 (some .int) :: ([.fieldLink RX10 115 "ShipOffice" "agreementCount" "I", .fieldLink RX10 23 "ShipOffice" "agreements" "[LShipOffice$Agreement;", .methodLink RX10 122 yX1_goesOn, .instanceMethod yX1_goesOn, .selects RX1 yX1_goesOn yX1_goesOn, .initialized RX1, .code yX1_goesOn cX1_goesOn 1 (some .boolean), .fieldLink RX1 10 "ShipOffice$Agreement" "offDay" "I", .constant RX1 9 (1000000), .fieldLink RX1 44 "ShipOffice$Agreement" "isDead" "Z", .fieldLink RX1 33 "ShipOffice$Agreement" "voyage" "LShipOffice$Voyage;", .fieldLink RX1 48 "ShipOffice$Voyage" "lostTold" "I"] ++ wsX100 ++ wsX10 ++ wsX90)
def wsX10_menWhoAsk : List Cond := .code yX10_menWhoAsk cX10_menWhoAsk 3 (some .int) :: ([.fieldLink RX10 86 "ShipOffice" "manCount" "I", .fieldLink RX10 11 "ShipOffice" "men" "[LShipOffice$Man;", .methodLink RX10 341 yX6_asks, .instanceMethod yX6_asks, .selects RX6 yX6_asks yX6_asks, .initialized RX6, .code yX6_asks cX6_asks 5 (some .boolean), .fieldLink RX6 9 "ShipOffice$Man" "wages" "[I"] ++ wsX100 ++ wsX60)
def wsX10_count_r1 : List Cond := [Cond.fieldLink RX10 73 "ShipOffice" "now" "I", Cond.fieldLink RX10 86 "ShipOffice" "manCount" "I", Cond.fieldLink RX10 99 "ShipOffice" "voyageCount" "I", Cond.fieldLink RX10 115 "ShipOffice" "agreementCount" "I", Cond.fieldLink RX10 139 "ShipOffice" "happeningCount" "I", Cond.fieldLink RX10 30 "ShipOffice" "law" "LShipOffice$Law;", Cond.fieldLink RX10 178 "ShipOffice$Law" "actCount" "I", Cond.fieldLink RX10 37 "ShipOffice" "tape" "LShipOffice$Tape;", Cond.fieldLink RX10 169 "ShipOffice$Tape" "size" "I", Cond.fieldLink RX10 353 "ShipOffice" "rowCount" "I", Cond.fieldLink RX10 66 "ShipOffice" "refusals" "[I", Cond.methodLink RX10 356 yX10_openVoyages, Cond.instanceMethod yX10_openVoyages, Cond.selects RX10 yX10_openVoyages yX10_openVoyages, Cond.initialized RX10, Cond.code yX10_openVoyages cX10_openVoyages 3 (some .int), Cond.fieldLink RX10 17 "ShipOffice" "voyages" "[LShipOffice$Voyage;", Cond.fieldLink RX10 107 "ShipOffice$Voyage" "isOver" "Z", Cond.methodLink RX10 359 yX10_openAgreements, Cond.instanceMethod yX10_openAgreements, Cond.selects RX10 yX10_openAgreements yX10_openAgreements, Cond.code yX10_openAgreements cX10_openAgreements 3 (some .int), Cond.fieldLink RX10 23 "ShipOffice" "agreements" "[LShipOffice$Agreement;", Cond.methodLink RX10 122 yX1_goesOn]
def wsX10_count_r2 : List Cond := [Cond.instanceMethod yX1_goesOn, Cond.selects RX1 yX1_goesOn yX1_goesOn, Cond.initialized RX1, Cond.code yX1_goesOn cX1_goesOn 1 (some .boolean), Cond.fieldLink RX1 10 "ShipOffice$Agreement" "offDay" "I", Cond.constant RX1 9 (1000000), Cond.fieldLink RX1 44 "ShipOffice$Agreement" "isDead" "Z", Cond.fieldLink RX1 33 "ShipOffice$Agreement" "voyage" "LShipOffice$Voyage;", Cond.fieldLink RX1 48 "ShipOffice$Voyage" "lostTold" "I", Cond.methodLink RX10 362 yX10_menWhoAsk, Cond.instanceMethod yX10_menWhoAsk, Cond.selects RX10 yX10_menWhoAsk yX10_menWhoAsk, Cond.code yX10_menWhoAsk cX10_menWhoAsk 3 (some .int), Cond.fieldLink RX10 11 "ShipOffice" "men" "[LShipOffice$Man;", Cond.methodLink RX10 341 yX6_asks, Cond.instanceMethod yX6_asks, Cond.selects RX6 yX6_asks yX6_asks, Cond.initialized RX6, Cond.code yX6_asks cX6_asks 5 (some .boolean), Cond.fieldLink RX6 9 "ShipOffice$Man" "wages" "[I"]
def wsX10_count : List Cond := .code yX10_count cX10_count 2 (some .int) :: ((wsX10_count_r1 ++ wsX10_count_r2) ++ wsX100 ++ wsX50 ++ wsX80 ++ wsX90 ++ wsX10 ++ wsX60)
theorem dX8_add_0 : decode cX8_add 0 = .ok (.aload_n 0, 1) := by decide +kernel
theorem dX8_add_1 : decode cX8_add 1 = .ok (.getfield 18, 3) := by decide +kernel
theorem dX8_add_4 : decode cX8_add 4 = .ok (.bipush 60, 2) := by decide +kernel
theorem dX8_add_6 : decode cX8_add 6 = .ok (.if_icmp .ge 23, 3) := by decide +kernel
theorem dX8_add_9 : decode cX8_add 9 = .ok (.aload_n 0, 1) := by decide +kernel
theorem dX8_add_10 : decode cX8_add 10 = .ok (.getfield 9, 3) := by decide +kernel
theorem dX8_add_13 : decode cX8_add 13 = .ok (.aload_n 0, 1) := by decide +kernel
theorem dX8_add_14 : decode cX8_add 14 = .ok (.getfield 18, 3) := by decide +kernel
theorem dX8_add_17 : decode cX8_add 17 = .ok (.iload_n 1, 1) := by decide +kernel
theorem dX8_add_18 : decode cX8_add 18 = .ok (.iastore, 1) := by decide +kernel
theorem dX8_add_19 : decode cX8_add 19 = .ok (.aload_n 0, 1) := by decide +kernel
theorem dX8_add_20 : decode cX8_add 20 = .ok (.dup, 1) := by decide +kernel
theorem dX8_add_21 : decode cX8_add 21 = .ok (.getfield 18, 3) := by decide +kernel
theorem dX8_add_24 : decode cX8_add 24 = .ok (.iconst 1, 1) := by decide +kernel
theorem dX8_add_25 : decode cX8_add 25 = .ok (.iadd, 1) := by decide +kernel
theorem dX8_add_26 : decode cX8_add 26 = .ok (.putfield 18, 3) := by decide +kernel
theorem dX8_add_29 : decode cX8_add 29 = .ok (.return_, 1) := by decide +kernel
set_option maxRecDepth 20000 in
theorem ggX8_parse_X8_parseSum : GoodIn wsX8_parse wsX8_parseSum := goodIn_r _ [9, 3, 10, 1, 11, 12, 13, 8, 14, 15, 16, 17, 4, 18, 19, 20, 21, 22, 23, 24, 25, 26, 2, 27, 28, 5, 6, 7, 29, 30, 31, 32, 33, 34, 35, 36, 37, 38, 39, 40, 41, 42, 43, 44, 45, 46, 47, 48, 49, 50, 51, 52, 53, 54] (by decide +kernel) (by decide +kernel)
set_option maxRecDepth 20000 in
theorem gX8_parse_X8_parseSum : GoodIn wsX8_parse (wsV RX8 31 RX8 yX8_parseSum wsX8_parseSum) := goodIn_app (goodIn_of _ (by decide +kernel)) ggX8_parse_X8_parseSum
theorem dX8_parse_0 : decode cX8_parse 0 = .ok (.aload_n 0, 1) := by decide +kernel
theorem dX8_parse_1 : decode cX8_parse 1 = .ok (.iconst 0, 1) := by decide +kernel
theorem dX8_parse_2 : decode cX8_parse 2 = .ok (.putfield 22, 3) := by decide +kernel
theorem dX8_parse_5 : decode cX8_parse 5 = .ok (.aload_n 0, 1) := by decide +kernel
theorem dX8_parse_6 : decode cX8_parse 6 = .ok (.iconst 0, 1) := by decide +kernel
theorem dX8_parse_7 : decode cX8_parse 7 = .ok (.putfield 25, 3) := by decide +kernel
theorem dX8_parse_10 : decode cX8_parse 10 = .ok (.aload_n 0, 1) := by decide +kernel
theorem dX8_parse_11 : decode cX8_parse 11 = .ok (.iconst (-1), 1) := by decide +kernel
theorem dX8_parse_12 : decode cX8_parse 12 = .ok (.putfield 28, 3) := by decide +kernel
theorem dX8_parse_15 : decode cX8_parse 15 = .ok (.aload_n 0, 1) := by decide +kernel
theorem dX8_parse_16 : decode cX8_parse 16 = .ok (.iconst 0, 1) := by decide +kernel
theorem dX8_parse_17 : decode cX8_parse 17 = .ok (.invokevirtual 31, 3) := by decide +kernel
theorem dX8_parse_20 : decode cX8_parse 20 = .ok (.aload_n 0, 1) := by decide +kernel
theorem dX8_parse_21 : decode cX8_parse 21 = .ok (.getfield 28, 3) := by decide +kernel
theorem dX8_parse_24 : decode cX8_parse 24 = .ok (.ifCond .ge 22, 3) := by decide +kernel
theorem dX8_parse_46 : decode cX8_parse 46 = .ok (.aload_n 0, 1) := by decide +kernel
theorem dX8_parse_47 : decode cX8_parse 47 = .ok (.getfield 28, 3) := by decide +kernel
theorem dX8_parse_50 : decode cX8_parse 50 = .ok (.ireturn, 1) := by decide +kernel
set_option maxRecDepth 20000 in
theorem ggX8_parseSum_X8_parseTerm : GoodIn wsX8_parseSum wsX8_parseTerm := goodIn_r _ [28, 1, 2, 3, 29, 30, 31, 7, 8, 9, 10, 11, 12, 13, 14, 15, 16, 17, 18, 19, 20, 21, 22, 23, 24, 25, 26, 27, 0, 4, 5, 6, 32, 33, 34, 35, 36, 37, 38, 39, 40, 41, 42, 43, 44, 45, 46, 47, 48, 49, 50, 51, 52, 53] (by decide +kernel) (by decide +kernel)
set_option maxRecDepth 20000 in
theorem gX8_parseSum_X8_parseTerm : GoodIn wsX8_parseSum (wsV RX8 35 RX8 yX8_parseTerm wsX8_parseTerm) := goodIn_app (goodIn_of _ (by decide +kernel)) ggX8_parseSum_X8_parseTerm
theorem dX8_parseSum_0 : decode cX8_parseSum 0 = .ok (.aload_n 0, 1) := by decide +kernel
theorem dX8_parseSum_1 : decode cX8_parseSum 1 = .ok (.iload_n 1, 1) := by decide +kernel
theorem dX8_parseSum_2 : decode cX8_parseSum 2 = .ok (.invokevirtual 35, 3) := by decide +kernel
theorem dX8_parseSum_5 : decode cX8_parseSum 5 = .ok (.iconst 0, 1) := by decide +kernel
theorem dX8_parseSum_6 : decode cX8_parseSum 6 = .ok (.istore_n 2, 1) := by decide +kernel
theorem dX8_parseSum_7 : decode cX8_parseSum 7 = .ok (.iload_n 2, 1) := by decide +kernel
theorem dX8_parseSum_8 : decode cX8_parseSum 8 = .ok (.bipush 60, 2) := by decide +kernel
theorem dX8_parseSum_10 : decode cX8_parseSum 10 = .ok (.if_icmp .ge 64, 3) := by decide +kernel
theorem dX8_parseSum_13 : decode cX8_parseSum 13 = .ok (.aload_n 0, 1) := by decide +kernel
theorem dX8_parseSum_14 : decode cX8_parseSum 14 = .ok (.getfield 28, 3) := by decide +kernel
theorem dX8_parseSum_17 : decode cX8_parseSum 17 = .ok (.ifCond .ge 57, 3) := by decide +kernel
theorem dX8_parseSum_74 : decode cX8_parseSum 74 = .ok (.return_, 1) := by decide +kernel
set_option maxRecDepth 20000 in
theorem ggX8_parseTerm_X8_parseUnit : GoodIn wsX8_parseTerm wsX8_parseUnit := goodIn_r _ [32, 3, 1, 33, 34, 35, 7, 36, 8, 9, 10, 11, 12, 2, 37, 38, 39, 40, 41, 42, 43, 44, 18, 19, 20, 21, 22, 23, 45, 46, 47, 24, 25, 26, 27, 13, 14, 15, 16, 17, 28, 29, 30, 31, 0, 4, 5, 6, 48, 49, 50, 51, 52, 53] (by decide +kernel) (by decide +kernel)
set_option maxRecDepth 20000 in
theorem gX8_parseTerm_X8_parseUnit : GoodIn wsX8_parseTerm (wsV RX8 45 RX8 yX8_parseUnit wsX8_parseUnit) := goodIn_app (goodIn_of _ (by decide +kernel)) ggX8_parseTerm_X8_parseUnit
theorem dX8_parseTerm_0 : decode cX8_parseTerm 0 = .ok (.aload_n 0, 1) := by decide +kernel
theorem dX8_parseTerm_1 : decode cX8_parseTerm 1 = .ok (.iload_n 1, 1) := by decide +kernel
theorem dX8_parseTerm_2 : decode cX8_parseTerm 2 = .ok (.invokevirtual 45, 3) := by decide +kernel
theorem dX8_parseTerm_5 : decode cX8_parseTerm 5 = .ok (.iconst 0, 1) := by decide +kernel
theorem dX8_parseTerm_6 : decode cX8_parseTerm 6 = .ok (.istore_n 2, 1) := by decide +kernel
theorem dX8_parseTerm_7 : decode cX8_parseTerm 7 = .ok (.iload_n 2, 1) := by decide +kernel
theorem dX8_parseTerm_8 : decode cX8_parseTerm 8 = .ok (.bipush 60, 2) := by decide +kernel
theorem dX8_parseTerm_10 : decode cX8_parseTerm 10 = .ok (.if_icmp .ge 64, 3) := by decide +kernel
theorem dX8_parseTerm_13 : decode cX8_parseTerm 13 = .ok (.aload_n 0, 1) := by decide +kernel
theorem dX8_parseTerm_14 : decode cX8_parseTerm 14 = .ok (.getfield 28, 3) := by decide +kernel
theorem dX8_parseTerm_17 : decode cX8_parseTerm 17 = .ok (.ifCond .ge 57, 3) := by decide +kernel
theorem dX8_parseTerm_74 : decode cX8_parseTerm 74 = .ok (.return_, 1) := by decide +kernel
set_option maxRecDepth 20000 in
theorem ggX8_parseUnit_X8_letterHere : GoodIn wsX8_parseUnit wsX8_letterHere := goodIn_r _ [7, 8, 9, 10, 6, 11, 1, 12, 13, 48, 49, 50, 51, 52, 53] (by decide +kernel) (by decide +kernel)
set_option maxRecDepth 20000 in
theorem gX8_parseUnit_X8_letterHere : GoodIn wsX8_parseUnit (wsV RX8 48 RX8 yX8_letterHere wsX8_letterHere) := goodIn_app (goodIn_of _ (by decide +kernel)) ggX8_parseUnit_X8_letterHere
set_option maxRecDepth 20000 in
theorem ggX8_parseUnit_X8_seesDigit : GoodIn wsX8_parseUnit wsX8_seesDigit := goodIn_r _ [17, 1, 12, 13, 48, 49, 50, 51, 52, 53] (by decide +kernel) (by decide +kernel)
set_option maxRecDepth 20000 in
theorem gX8_parseUnit_X8_seesDigit : GoodIn wsX8_parseUnit (wsV RX8 52 RX8 yX8_seesDigit wsX8_seesDigit) := goodIn_app (goodIn_of _ (by decide +kernel)) ggX8_parseUnit_X8_seesDigit
set_option maxRecDepth 20000 in
theorem ggX8_parseUnit_X8_sees : GoodIn wsX8_parseUnit wsX8_sees := goodIn_r _ [11, 1, 12, 13, 48, 49, 50, 51, 52, 53] (by decide +kernel) (by decide +kernel)
set_option maxRecDepth 20000 in
theorem gX8_parseUnit_X8_sees : GoodIn wsX8_parseUnit (wsV RX8 38 RX8 yX8_sees wsX8_sees) := goodIn_app (goodIn_of _ (by decide +kernel)) ggX8_parseUnit_X8_sees
theorem dX8_parseUnit_0 : decode cX8_parseUnit 0 = .ok (.aload_n 0, 1) := by decide +kernel
theorem dX8_parseUnit_1 : decode cX8_parseUnit 1 = .ok (.invokevirtual 48, 3) := by decide +kernel
theorem dX8_parseUnit_4 : decode cX8_parseUnit 4 = .ok (.istore_n 2, 1) := by decide +kernel
theorem dX8_parseUnit_5 : decode cX8_parseUnit 5 = .ok (.aload_n 0, 1) := by decide +kernel
theorem dX8_parseUnit_6 : decode cX8_parseUnit 6 = .ok (.invokevirtual 52, 3) := by decide +kernel
theorem dX8_parseUnit_9 : decode cX8_parseUnit 9 = .ok (.ifCond .eq 10, 3) := by decide +kernel
theorem dX8_parseUnit_19 : decode cX8_parseUnit 19 = .ok (.iload_n 2, 1) := by decide +kernel
theorem dX8_parseUnit_20 : decode cX8_parseUnit 20 = .ok (.ifCond .lt 23, 3) := by decide +kernel
theorem dX8_parseUnit_43 : decode cX8_parseUnit 43 = .ok (.aload_n 0, 1) := by decide +kernel
theorem dX8_parseUnit_44 : decode cX8_parseUnit 44 = .ok (.bipush 40, 2) := by decide +kernel
theorem dX8_parseUnit_46 : decode cX8_parseUnit 46 = .ok (.invokevirtual 38, 3) := by decide +kernel
theorem dX8_parseUnit_49 : decode cX8_parseUnit 49 = .ok (.ifCond .eq 28, 3) := by decide +kernel
theorem dX8_parseUnit_77 : decode cX8_parseUnit 77 = .ok (.aload_n 0, 1) := by decide +kernel
theorem dX8_parseUnit_78 : decode cX8_parseUnit 78 = .ok (.aload_n 0, 1) := by decide +kernel
theorem dX8_parseUnit_79 : decode cX8_parseUnit 79 = .ok (.getfield 22, 3) := by decide +kernel
theorem dX8_parseUnit_82 : decode cX8_parseUnit 82 = .ok (.putfield 28, 3) := by decide +kernel
theorem dX8_parseUnit_85 : decode cX8_parseUnit 85 = .ok (.return_, 1) := by decide +kernel
theorem dX8_sees_0 : decode cX8_sees 0 = .ok (.aload_n 0, 1) := by decide +kernel
theorem dX8_sees_1 : decode cX8_sees 1 = .ok (.getfield 22, 3) := by decide +kernel
theorem dX8_sees_4 : decode cX8_sees 4 = .ok (.aload_n 0, 1) := by decide +kernel
theorem dX8_sees_5 : decode cX8_sees 5 = .ok (.getfield 18, 3) := by decide +kernel
theorem dX8_sees_8 : decode cX8_sees 8 = .ok (.if_icmp .ge 20, 3) := by decide +kernel
theorem dX8_sees_28 : decode cX8_sees 28 = .ok (.iconst 0, 1) := by decide +kernel
theorem dX8_sees_29 : decode cX8_sees 29 = .ok (.ireturn, 1) := by decide +kernel
theorem dX8_seesDigit_0 : decode cX8_seesDigit 0 = .ok (.aload_n 0, 1) := by decide +kernel
theorem dX8_seesDigit_1 : decode cX8_seesDigit 1 = .ok (.getfield 22, 3) := by decide +kernel
theorem dX8_seesDigit_4 : decode cX8_seesDigit 4 = .ok (.aload_n 0, 1) := by decide +kernel
theorem dX8_seesDigit_5 : decode cX8_seesDigit 5 = .ok (.getfield 18, 3) := by decide +kernel
theorem dX8_seesDigit_8 : decode cX8_seesDigit 8 = .ok (.if_icmp .ge 35, 3) := by decide +kernel
theorem dX8_seesDigit_43 : decode cX8_seesDigit 43 = .ok (.iconst 0, 1) := by decide +kernel
theorem dX8_seesDigit_44 : decode cX8_seesDigit 44 = .ok (.ireturn, 1) := by decide +kernel
set_option maxRecDepth 20000 in
theorem ggX8_letterHere_X8_sees : GoodIn wsX8_letterHere wsX8_sees := goodIn_r _ [5, 6, 7, 8, 9, 10, 11, 12, 13, 14] (by decide +kernel) (by decide +kernel)
set_option maxRecDepth 20000 in
theorem gX8_letterHere_X8_sees : GoodIn wsX8_letterHere (wsV RX8 38 RX8 yX8_sees wsX8_sees) := goodIn_app (goodIn_of _ (by decide +kernel)) ggX8_letterHere_X8_sees
theorem dX8_letterHere_0 : decode cX8_letterHere 0 = .ok (.iconst 0, 1) := by decide +kernel
theorem dX8_letterHere_1 : decode cX8_letterHere 1 = .ok (.istore_n 1, 1) := by decide +kernel
theorem dX8_letterHere_2 : decode cX8_letterHere 2 = .ok (.iload_n 1, 1) := by decide +kernel
theorem dX8_letterHere_3 : decode cX8_letterHere 3 = .ok (.getstatic 67, 3) := by decide +kernel
theorem dX8_letterHere_6 : decode cX8_letterHere 6 = .ok (.arraylength, 1) := by decide +kernel
theorem dX8_letterHere_7 : decode cX8_letterHere 7 = .ok (.if_icmp .ge 23, 3) := by decide +kernel
theorem dX8_letterHere_10 : decode cX8_letterHere 10 = .ok (.aload_n 0, 1) := by decide +kernel
theorem dX8_letterHere_11 : decode cX8_letterHere 11 = .ok (.getstatic 67, 3) := by decide +kernel
theorem dX8_letterHere_14 : decode cX8_letterHere 14 = .ok (.iload_n 1, 1) := by decide +kernel
theorem dX8_letterHere_15 : decode cX8_letterHere 15 = .ok (.caload, 1) := by decide +kernel
theorem dX8_letterHere_16 : decode cX8_letterHere 16 = .ok (.invokevirtual 38, 3) := by decide +kernel
theorem dX8_letterHere_19 : decode cX8_letterHere 19 = .ok (.ifCond .eq 5, 3) := by decide +kernel
theorem dX8_letterHere_24 : decode cX8_letterHere 24 = .ok (.iinc 1 1, 3) := by decide +kernel
theorem dX8_letterHere_27 : decode cX8_letterHere 27 = .ok (.goto (-25), 3) := by decide +kernel
theorem dX8_letterHere_30 : decode cX8_letterHere 30 = .ok (.iconst (-1), 1) := by decide +kernel
theorem dX8_letterHere_31 : decode cX8_letterHere 31 = .ok (.ireturn, 1) := by decide +kernel
set_option maxRecDepth 20000 in
theorem ggX10_feed_X10_refuse : GoodIn wsX10_feed wsX10_refuse := goodIn_r _ [8, 9, 17, 18, 19, 20, 21, 22, 23, 24, 25, 26, 27, 28, 29, 30, 31, 32] (by decide +kernel) (by decide +kernel)
set_option maxRecDepth 20000 in
theorem gX10_feed_X10_refuse : GoodIn wsX10_feed (wsV RX10 69 RX10 yX10_refuse wsX10_refuse) := goodIn_app (goodIn_of _ (by decide +kernel)) ggX10_feed_X10_refuse
set_option maxRecDepth 20000 in
theorem ggX10_feed_X8_add : GoodIn wsX10_feed wsX8_add := goodIn_r _ [14, 15, 16, 33, 34, 35, 36, 37, 38] (by decide +kernel) (by decide +kernel)
set_option maxRecDepth 20000 in
theorem gX10_feed_X8_add : GoodIn wsX10_feed (wsV RX10 174 RX8 yX8_add wsX8_add) := goodIn_app (goodIn_of _ (by decide +kernel)) ggX10_feed_X8_add
theorem dX10_feed_0 : decode cX10_feed 0 = .ok (.iload_n 1, 1) := by decide +kernel
theorem dX10_feed_1 : decode cX10_feed 1 = .ok (.iconst 1, 1) := by decide +kernel
theorem dX10_feed_2 : decode cX10_feed 2 = .ok (.if_icmp .ge 10, 3) := by decide +kernel
theorem dX10_feed_5 : decode cX10_feed 5 = .ok (.aload_n 0, 1) := by decide +kernel
theorem dX10_feed_6 : decode cX10_feed 6 = .ok (.bipush (-4), 2) := by decide +kernel
theorem dX10_feed_8 : decode cX10_feed 8 = .ok (.invokevirtual 69, 3) := by decide +kernel
theorem dX10_feed_11 : decode cX10_feed 11 = .ok (.ireturn, 1) := by decide +kernel
theorem dX10_feed_12 : decode cX10_feed 12 = .ok (.iload_n 1, 1) := by decide +kernel
theorem dX10_feed_13 : decode cX10_feed 13 = .ok (.bipush 8, 2) := by decide +kernel
theorem dX10_feed_15 : decode cX10_feed 15 = .ok (.if_icmp .gt 17, 3) := by decide +kernel
theorem dX10_feed_18 : decode cX10_feed 18 = .ok (.iload_n 1, 1) := by decide +kernel
theorem dX10_feed_19 : decode cX10_feed 19 = .ok (.bipush 60, 2) := by decide +kernel
theorem dX10_feed_21 : decode cX10_feed 21 = .ok (.aload_n 0, 1) := by decide +kernel
theorem dX10_feed_22 : decode cX10_feed 22 = .ok (.getfield 37, 3) := by decide +kernel
theorem dX10_feed_25 : decode cX10_feed 25 = .ok (.getfield 169, 3) := by decide +kernel
theorem dX10_feed_28 : decode cX10_feed 28 = .ok (.isub, 1) := by decide +kernel
theorem dX10_feed_29 : decode cX10_feed 29 = .ok (.if_icmp .le 10, 3) := by decide +kernel
theorem dX10_feed_32 : decode cX10_feed 32 = .ok (.aload_n 0, 1) := by decide +kernel
theorem dX10_feed_33 : decode cX10_feed 33 = .ok (.bipush (-6), 2) := by decide +kernel
theorem dX10_feed_35 : decode cX10_feed 35 = .ok (.invokevirtual 69, 3) := by decide +kernel
theorem dX10_feed_38 : decode cX10_feed 38 = .ok (.ireturn, 1) := by decide +kernel
theorem dX10_feed_39 : decode cX10_feed 39 = .ok (.iconst 0, 1) := by decide +kernel
theorem dX10_feed_40 : decode cX10_feed 40 = .ok (.istore 4, 2) := by decide +kernel
theorem dX10_feed_42 : decode cX10_feed 42 = .ok (.iload 4, 2) := by decide +kernel
theorem dX10_feed_44 : decode cX10_feed 44 = .ok (.iload_n 1, 1) := by decide +kernel
theorem dX10_feed_45 : decode cX10_feed 45 = .ok (.if_icmp .ge 28, 3) := by decide +kernel
theorem dX10_feed_48 : decode cX10_feed 48 = .ok (.aload_n 0, 1) := by decide +kernel
theorem dX10_feed_49 : decode cX10_feed 49 = .ok (.getfield 37, 3) := by decide +kernel
theorem dX10_feed_52 : decode cX10_feed 52 = .ok (.lload_n 2, 1) := by decide +kernel
theorem dX10_feed_53 : decode cX10_feed 53 = .ok (.bipush 8, 2) := by decide +kernel
theorem dX10_feed_55 : decode cX10_feed 55 = .ok (.iload 4, 2) := by decide +kernel
theorem dX10_feed_57 : decode cX10_feed 57 = .ok (.imul, 1) := by decide +kernel
theorem dX10_feed_58 : decode cX10_feed 58 = .ok (.lshr, 1) := by decide +kernel
theorem dX10_feed_59 : decode cX10_feed 59 = .ok (.ldc2_w 172, 3) := by decide +kernel
theorem dX10_feed_62 : decode cX10_feed 62 = .ok (.land, 1) := by decide +kernel
theorem dX10_feed_63 : decode cX10_feed 63 = .ok (.l2i, 1) := by decide +kernel
theorem dX10_feed_64 : decode cX10_feed 64 = .ok (.invokevirtual 174, 3) := by decide +kernel
theorem dX10_feed_67 : decode cX10_feed 67 = .ok (.iinc 4 1, 3) := by decide +kernel
theorem dX10_feed_70 : decode cX10_feed 70 = .ok (.goto (-28), 3) := by decide +kernel
theorem dX10_feed_73 : decode cX10_feed 73 = .ok (.aload_n 0, 1) := by decide +kernel
theorem dX10_feed_74 : decode cX10_feed 74 = .ok (.getfield 37, 3) := by decide +kernel
theorem dX10_feed_77 : decode cX10_feed 77 = .ok (.getfield 169, 3) := by decide +kernel
theorem dX10_feed_80 : decode cX10_feed 80 = .ok (.ireturn, 1) := by decide +kernel
set_option maxRecDepth 20000 in
theorem ggX10_act_X10_refuse : GoodIn wsX10_act wsX10_refuse := goodIn_r _ [15, 16, 120, 121, 122, 123, 124, 125, 126, 127, 128, 129, 130, 131, 132, 133, 134, 135] (by decide +kernel) (by decide +kernel)
set_option maxRecDepth 20000 in
theorem gX10_act_X10_refuse : GoodIn wsX10_act (wsV RX10 69 RX10 yX10_refuse wsX10_refuse) := goodIn_app (goodIn_of _ (by decide +kernel)) ggX10_act_X10_refuse
set_option maxRecDepth 20000 in
theorem ggX10_act_X8_parse : GoodIn wsX10_act wsX8_parse := goodIn_r _ [21, 22, 23, 24, 25, 26, 27, 28, 20, 29, 30, 31, 32, 33, 34, 35, 36, 37, 38, 39, 40, 41, 42, 43, 44, 45, 46, 47, 48, 49, 50, 51, 52, 53, 54, 55, 56, 57, 58, 59, 60, 61, 62, 63, 64, 65, 66, 67, 68, 144, 145, 146, 147, 148, 149] (by decide +kernel) (by decide +kernel)
set_option maxRecDepth 20000 in
theorem gX10_act_X8_parse : GoodIn wsX10_act (wsV RX10 181 RX8 yX8_parse wsX8_parse) := goodIn_app (goodIn_of _ (by decide +kernel)) ggX10_act_X8_parse
theorem dX10_act_0 : decode cX10_act 0 = .ok (.iload_n 1, 1) := by decide +kernel
theorem dX10_act_1 : decode cX10_act 1 = .ok (.ifCond .lt 8, 3) := by decide +kernel
theorem dX10_act_4 : decode cX10_act 4 = .ok (.iload_n 1, 1) := by decide +kernel
theorem dX10_act_5 : decode cX10_act 5 = .ok (.iconst 5, 1) := by decide +kernel
theorem dX10_act_6 : decode cX10_act 6 = .ok (.if_icmp .lt 10, 3) := by decide +kernel
theorem dX10_act_9 : decode cX10_act 9 = .ok (.aload_n 0, 1) := by decide +kernel
theorem dX10_act_10 : decode cX10_act 10 = .ok (.bipush (-2), 2) := by decide +kernel
theorem dX10_act_12 : decode cX10_act 12 = .ok (.invokevirtual 69, 3) := by decide +kernel
theorem dX10_act_15 : decode cX10_act 15 = .ok (.ireturn, 1) := by decide +kernel
theorem dX10_act_16 : decode cX10_act 16 = .ok (.iload_n 2, 1) := by decide +kernel
theorem dX10_act_17 : decode cX10_act 17 = .ok (.aload_n 0, 1) := by decide +kernel
theorem dX10_act_18 : decode cX10_act 18 = .ok (.getfield 73, 3) := by decide +kernel
theorem dX10_act_21 : decode cX10_act 21 = .ok (.if_icmp .ge 10, 3) := by decide +kernel
theorem dX10_act_24 : decode cX10_act 24 = .ok (.aload_n 0, 1) := by decide +kernel
theorem dX10_act_25 : decode cX10_act 25 = .ok (.bipush (-4), 2) := by decide +kernel
theorem dX10_act_27 : decode cX10_act 27 = .ok (.invokevirtual 69, 3) := by decide +kernel
theorem dX10_act_30 : decode cX10_act 30 = .ok (.ireturn, 1) := by decide +kernel
theorem dX10_act_31 : decode cX10_act 31 = .ok (.iload_n 2, 1) := by decide +kernel
theorem dX10_act_32 : decode cX10_act 32 = .ok (.sipush 3000, 3) := by decide +kernel
theorem dX10_act_35 : decode cX10_act 35 = .ok (.if_icmp .gt 15, 3) := by decide +kernel
theorem dX10_act_38 : decode cX10_act 38 = .ok (.aload_n 0, 1) := by decide +kernel
theorem dX10_act_39 : decode cX10_act 39 = .ok (.getfield 30, 3) := by decide +kernel
theorem dX10_act_42 : decode cX10_act 42 = .ok (.getfield 178, 3) := by decide +kernel
theorem dX10_act_45 : decode cX10_act 45 = .ok (.bipush 30, 2) := by decide +kernel
theorem dX10_act_47 : decode cX10_act 47 = .ok (.if_icmp .lt 10, 3) := by decide +kernel
theorem dX10_act_50 : decode cX10_act 50 = .ok (.aload_n 0, 1) := by decide +kernel
theorem dX10_act_51 : decode cX10_act 51 = .ok (.bipush (-6), 2) := by decide +kernel
theorem dX10_act_53 : decode cX10_act 53 = .ok (.invokevirtual 69, 3) := by decide +kernel
theorem dX10_act_56 : decode cX10_act 56 = .ok (.ireturn, 1) := by decide +kernel
theorem dX10_act_57 : decode cX10_act 57 = .ok (.aload_n 0, 1) := by decide +kernel
theorem dX10_act_58 : decode cX10_act 58 = .ok (.getfield 37, 3) := by decide +kernel
theorem dX10_act_61 : decode cX10_act 61 = .ok (.invokevirtual 181, 3) := by decide +kernel
theorem dX10_act_64 : decode cX10_act 64 = .ok (.istore_n 3, 1) := by decide +kernel
theorem dX10_act_65 : decode cX10_act 65 = .ok (.iload_n 3, 1) := by decide +kernel
theorem dX10_act_66 : decode cX10_act 66 = .ok (.ifCond .ge 36, 3) := by decide +kernel
theorem dX10_act_102 : decode cX10_act 102 = .ok (.aload_n 0, 1) := by decide +kernel
theorem dX10_act_103 : decode cX10_act 103 = .ok (.getfield 37, 3) := by decide +kernel
theorem dX10_act_106 : decode cX10_act 106 = .ok (.iconst 0, 1) := by decide +kernel
theorem dX10_act_107 : decode cX10_act 107 = .ok (.putfield 169, 3) := by decide +kernel
theorem dX10_act_110 : decode cX10_act 110 = .ok (.iload_n 3, 1) := by decide +kernel
theorem dX10_act_111 : decode cX10_act 111 = .ok (.ifCond .ge 13, 3) := by decide +kernel
theorem dX10_act_124 : decode cX10_act 124 = .ok (.bipush (-20), 2) := by decide +kernel
theorem dX10_act_126 : decode cX10_act 126 = .ok (.iload_n 3, 1) := by decide +kernel
theorem dX10_act_127 : decode cX10_act 127 = .ok (.isub, 1) := by decide +kernel
theorem dX10_act_128 : decode cX10_act 128 = .ok (.ireturn, 1) := by decide +kernel
set_option maxRecDepth 20000 in
theorem ggX10_count_X10_openVoyages : GoodIn wsX10_count wsX10_openVoyages := goodIn_r _ [16, 3, 17, 18, 45, 46, 47, 48, 49, 50, 51, 52, 53, 54, 55, 56, 57, 58, 59, 60, 70, 71, 72, 73, 74, 75, 76, 77, 78, 79] (by decide +kernel) (by decide +kernel)
set_option maxRecDepth 20000 in
theorem gX10_count_X10_openVoyages : GoodIn wsX10_count (wsV RX10 356 RX10 yX10_openVoyages wsX10_openVoyages) := goodIn_app (goodIn_of _ (by decide +kernel)) ggX10_count_X10_openVoyages
set_option maxRecDepth 20000 in
theorem ggX10_count_X10_openAgreements : GoodIn wsX10_count wsX10_openAgreements := goodIn_r _ [22, 4, 23, 24, 25, 26, 27, 28, 29, 30, 31, 32, 33, 45, 46, 47, 48, 49, 50, 51, 52, 53, 54, 55, 56, 57, 58, 59, 60, 80, 81, 82, 83, 84, 85, 86, 87, 88, 89, 90, 91, 92, 93, 94, 95, 96, 97, 70, 71, 72, 73, 74, 75, 76, 77, 78, 79] (by decide +kernel) (by decide +kernel)
set_option maxRecDepth 20000 in
theorem gX10_count_X10_openAgreements : GoodIn wsX10_count (wsV RX10 359 RX10 yX10_openAgreements wsX10_openAgreements) := goodIn_app (goodIn_of _ (by decide +kernel)) ggX10_count_X10_openAgreements
set_option maxRecDepth 20000 in
theorem ggX10_count_X10_menWhoAsk : GoodIn wsX10_count wsX10_menWhoAsk := goodIn_r _ [37, 2, 38, 39, 40, 41, 42, 43, 44, 45, 46, 47, 48, 49, 50, 51, 52, 53, 54, 55, 56, 57, 58, 59, 60, 98, 99, 100, 101, 102, 103] (by decide +kernel) (by decide +kernel)
set_option maxRecDepth 20000 in
theorem gX10_count_X10_menWhoAsk : GoodIn wsX10_count (wsV RX10 362 RX10 yX10_menWhoAsk wsX10_menWhoAsk) := goodIn_app (goodIn_of _ (by decide +kernel)) ggX10_count_X10_menWhoAsk
theorem dX10_count_0 : decode cX10_count 0 = .ok (.iload_n 1, 1) := by decide +kernel
theorem dX10_count_1 : decode cX10_count 1 = .ok (.tableswitch 148 0 17 #[87, 92, 97, 102, 107, 112, 117, 122, 130, 138, 148, 148, 148, 148, 148, 148, 148, 143], 87) := by decide +kernel
theorem dX10_count_88 : decode cX10_count 88 = .ok (.aload_n 0, 1) := by decide +kernel
theorem dX10_count_89 : decode cX10_count 89 = .ok (.getfield 73, 3) := by decide +kernel
theorem dX10_count_92 : decode cX10_count 92 = .ok (.ireturn, 1) := by decide +kernel
theorem dX10_count_93 : decode cX10_count 93 = .ok (.aload_n 0, 1) := by decide +kernel
theorem dX10_count_94 : decode cX10_count 94 = .ok (.getfield 86, 3) := by decide +kernel
theorem dX10_count_97 : decode cX10_count 97 = .ok (.ireturn, 1) := by decide +kernel
theorem dX10_count_98 : decode cX10_count 98 = .ok (.aload_n 0, 1) := by decide +kernel
theorem dX10_count_99 : decode cX10_count 99 = .ok (.getfield 99, 3) := by decide +kernel
theorem dX10_count_102 : decode cX10_count 102 = .ok (.ireturn, 1) := by decide +kernel
theorem dX10_count_103 : decode cX10_count 103 = .ok (.aload_n 0, 1) := by decide +kernel
theorem dX10_count_104 : decode cX10_count 104 = .ok (.invokevirtual 356, 3) := by decide +kernel
theorem dX10_count_107 : decode cX10_count 107 = .ok (.ireturn, 1) := by decide +kernel
theorem dX10_count_108 : decode cX10_count 108 = .ok (.aload_n 0, 1) := by decide +kernel
theorem dX10_count_109 : decode cX10_count 109 = .ok (.getfield 115, 3) := by decide +kernel
theorem dX10_count_112 : decode cX10_count 112 = .ok (.ireturn, 1) := by decide +kernel
theorem dX10_count_113 : decode cX10_count 113 = .ok (.aload_n 0, 1) := by decide +kernel
theorem dX10_count_114 : decode cX10_count 114 = .ok (.invokevirtual 359, 3) := by decide +kernel
theorem dX10_count_117 : decode cX10_count 117 = .ok (.ireturn, 1) := by decide +kernel
theorem dX10_count_118 : decode cX10_count 118 = .ok (.aload_n 0, 1) := by decide +kernel
theorem dX10_count_119 : decode cX10_count 119 = .ok (.getfield 139, 3) := by decide +kernel
theorem dX10_count_122 : decode cX10_count 122 = .ok (.ireturn, 1) := by decide +kernel
theorem dX10_count_123 : decode cX10_count 123 = .ok (.aload_n 0, 1) := by decide +kernel
theorem dX10_count_124 : decode cX10_count 124 = .ok (.getfield 30, 3) := by decide +kernel
theorem dX10_count_127 : decode cX10_count 127 = .ok (.getfield 178, 3) := by decide +kernel
theorem dX10_count_130 : decode cX10_count 130 = .ok (.ireturn, 1) := by decide +kernel
theorem dX10_count_131 : decode cX10_count 131 = .ok (.aload_n 0, 1) := by decide +kernel
theorem dX10_count_132 : decode cX10_count 132 = .ok (.getfield 37, 3) := by decide +kernel
theorem dX10_count_135 : decode cX10_count 135 = .ok (.getfield 169, 3) := by decide +kernel
theorem dX10_count_138 : decode cX10_count 138 = .ok (.ireturn, 1) := by decide +kernel
theorem dX10_count_139 : decode cX10_count 139 = .ok (.aload_n 0, 1) := by decide +kernel
theorem dX10_count_140 : decode cX10_count 140 = .ok (.getfield 353, 3) := by decide +kernel
theorem dX10_count_143 : decode cX10_count 143 = .ok (.ireturn, 1) := by decide +kernel
theorem dX10_count_144 : decode cX10_count 144 = .ok (.aload_n 0, 1) := by decide +kernel
theorem dX10_count_145 : decode cX10_count 145 = .ok (.invokevirtual 362, 3) := by decide +kernel
theorem dX10_count_148 : decode cX10_count 148 = .ok (.ireturn, 1) := by decide +kernel
theorem dX10_count_149 : decode cX10_count 149 = .ok (.iload_n 1, 1) := by decide +kernel
theorem dX10_count_150 : decode cX10_count 150 = .ok (.bipush 11, 2) := by decide +kernel
theorem dX10_count_152 : decode cX10_count 152 = .ok (.if_icmp .lt 21, 3) := by decide +kernel
theorem dX10_count_155 : decode cX10_count 155 = .ok (.iload_n 1, 1) := by decide +kernel
theorem dX10_count_156 : decode cX10_count 156 = .ok (.bipush 16, 2) := by decide +kernel
theorem dX10_count_158 : decode cX10_count 158 = .ok (.if_icmp .gt 15, 3) := by decide +kernel
theorem dX10_count_161 : decode cX10_count 161 = .ok (.aload_n 0, 1) := by decide +kernel
theorem dX10_count_162 : decode cX10_count 162 = .ok (.getfield 66, 3) := by decide +kernel
theorem dX10_count_165 : decode cX10_count 165 = .ok (.iload_n 1, 1) := by decide +kernel
theorem dX10_count_166 : decode cX10_count 166 = .ok (.bipush 10, 2) := by decide +kernel
theorem dX10_count_168 : decode cX10_count 168 = .ok (.isub, 1) := by decide +kernel
theorem dX10_count_169 : decode cX10_count 169 = .ok (.iaload, 1) := by decide +kernel
theorem dX10_count_170 : decode cX10_count 170 = .ok (.goto 5, 3) := by decide +kernel
theorem dX10_count_173 : decode cX10_count 173 = .ok (.bipush (-9), 2) := by decide +kernel
theorem dX10_count_175 : decode cX10_count 175 = .ok (.ireturn, 1) := by decide +kernel
theorem dX10_openVoyages_0 : decode cX10_openVoyages 0 = .ok (.iconst 0, 1) := by decide +kernel
theorem dX10_openVoyages_1 : decode cX10_openVoyages 1 = .ok (.istore_n 1, 1) := by decide +kernel
theorem dX10_openVoyages_2 : decode cX10_openVoyages 2 = .ok (.iconst 0, 1) := by decide +kernel
theorem dX10_openVoyages_3 : decode cX10_openVoyages 3 = .ok (.istore_n 2, 1) := by decide +kernel
theorem dX10_openVoyages_4 : decode cX10_openVoyages 4 = .ok (.iload_n 2, 1) := by decide +kernel
theorem dX10_openVoyages_5 : decode cX10_openVoyages 5 = .ok (.aload_n 0, 1) := by decide +kernel
theorem dX10_openVoyages_6 : decode cX10_openVoyages 6 = .ok (.getfield 99, 3) := by decide +kernel
theorem dX10_openVoyages_9 : decode cX10_openVoyages 9 = .ok (.if_icmp .ge 24, 3) := by decide +kernel
theorem dX10_openVoyages_33 : decode cX10_openVoyages 33 = .ok (.iload_n 1, 1) := by decide +kernel
theorem dX10_openVoyages_34 : decode cX10_openVoyages 34 = .ok (.ireturn, 1) := by decide +kernel
theorem dX10_openAgreements_0 : decode cX10_openAgreements 0 = .ok (.iconst 0, 1) := by decide +kernel
theorem dX10_openAgreements_1 : decode cX10_openAgreements 1 = .ok (.istore_n 1, 1) := by decide +kernel
theorem dX10_openAgreements_2 : decode cX10_openAgreements 2 = .ok (.iconst 0, 1) := by decide +kernel
theorem dX10_openAgreements_3 : decode cX10_openAgreements 3 = .ok (.istore_n 2, 1) := by decide +kernel
theorem dX10_openAgreements_4 : decode cX10_openAgreements 4 = .ok (.iload_n 2, 1) := by decide +kernel
theorem dX10_openAgreements_5 : decode cX10_openAgreements 5 = .ok (.aload_n 0, 1) := by decide +kernel
theorem dX10_openAgreements_6 : decode cX10_openAgreements 6 = .ok (.getfield 115, 3) := by decide +kernel
theorem dX10_openAgreements_9 : decode cX10_openAgreements 9 = .ok (.if_icmp .ge 24, 3) := by decide +kernel
theorem dX10_openAgreements_33 : decode cX10_openAgreements 33 = .ok (.iload_n 1, 1) := by decide +kernel
theorem dX10_openAgreements_34 : decode cX10_openAgreements 34 = .ok (.ireturn, 1) := by decide +kernel
theorem dX10_menWhoAsk_0 : decode cX10_menWhoAsk 0 = .ok (.iconst 0, 1) := by decide +kernel
theorem dX10_menWhoAsk_1 : decode cX10_menWhoAsk 1 = .ok (.istore_n 1, 1) := by decide +kernel
theorem dX10_menWhoAsk_2 : decode cX10_menWhoAsk 2 = .ok (.iconst 0, 1) := by decide +kernel
theorem dX10_menWhoAsk_3 : decode cX10_menWhoAsk 3 = .ok (.istore_n 2, 1) := by decide +kernel
theorem dX10_menWhoAsk_4 : decode cX10_menWhoAsk 4 = .ok (.iload_n 2, 1) := by decide +kernel
theorem dX10_menWhoAsk_5 : decode cX10_menWhoAsk 5 = .ok (.aload_n 0, 1) := by decide +kernel
theorem dX10_menWhoAsk_6 : decode cX10_menWhoAsk 6 = .ok (.getfield 86, 3) := by decide +kernel
theorem dX10_menWhoAsk_9 : decode cX10_menWhoAsk 9 = .ok (.if_icmp .ge 24, 3) := by decide +kernel
theorem dX10_menWhoAsk_33 : decode cX10_menWhoAsk 33 = .ok (.iload_n 1, 1) := by decide +kernel
theorem dX10_menWhoAsk_34 : decode cX10_menWhoAsk 34 = .ok (.ireturn, 1) := by decide +kernel
theorem in_wsX10_openVoyages_X10 : ∀ w ∈ wsX100, w ∈ wsX10_openVoyages := fun w h => List.mem_cons_of_mem _ (List.mem_append_left _ (List.mem_append_right _ h))
theorem in_wsX10_openAgreements_X10 : ∀ w ∈ wsX100, w ∈ wsX10_openAgreements := fun w h => List.mem_cons_of_mem _ (List.mem_append_left _ (List.mem_append_left _ (List.mem_append_right _ h)))
theorem in_wsX10_menWhoAsk_X10 : ∀ w ∈ wsX100, w ∈ wsX10_menWhoAsk := fun w h => List.mem_cons_of_mem _ (List.mem_append_left _ (List.mem_append_right _ h))
theorem in_wsX10_count_X10 : ∀ w ∈ wsX100, w ∈ wsX10_count := fun w h => List.mem_cons_of_mem _ (List.mem_append_left _ (List.mem_append_left _ (List.mem_append_left _ (List.mem_append_left _ (List.mem_append_left _ (List.mem_append_right _ h))))))
theorem in_wsX10_count_X5 : ∀ w ∈ wsX50, w ∈ wsX10_count := fun w h => List.mem_cons_of_mem _ (List.mem_append_left _ (List.mem_append_left _ (List.mem_append_left _ (List.mem_append_left _ (List.mem_append_right _ h)))))
theorem in_wsX10_count_X8 : ∀ w ∈ wsX80, w ∈ wsX10_count := fun w h => List.mem_cons_of_mem _ (List.mem_append_left _ (List.mem_append_left _ (List.mem_append_left _ (List.mem_append_right _ h))))
theorem in_wsX8_add_X8 : ∀ w ∈ wsX80, w ∈ wsX8_add := fun w h => List.mem_cons_of_mem _ (List.mem_append_right _ h)
theorem in_wsX10_feed_X10 : ∀ w ∈ wsX100, w ∈ wsX10_feed := fun w h => List.mem_cons_of_mem _ (List.mem_append_left _ (List.mem_append_right _ h))
theorem in_wsX10_feed_X8 : ∀ w ∈ wsX80, w ∈ wsX10_feed := fun w h => List.mem_cons_of_mem _ (List.mem_append_right _ h)
theorem in_wsX8_sees_X8 : ∀ w ∈ wsX80, w ∈ wsX8_sees := fun w h => List.mem_cons_of_mem _ (List.mem_append_right _ h)
theorem in_wsX8_seesDigit_X8 : ∀ w ∈ wsX80, w ∈ wsX8_seesDigit := fun w h => List.mem_cons_of_mem _ (List.mem_append_right _ h)
theorem in_wsX8_parseUnit_X8 : ∀ w ∈ wsX80, w ∈ wsX8_parseUnit := fun w h => List.mem_cons_of_mem _ (List.mem_append_right _ h)
theorem in_wsX8_parseTerm_X8 : ∀ w ∈ wsX80, w ∈ wsX8_parseTerm := fun w h => List.mem_cons_of_mem _ (List.mem_append_right _ h)
theorem in_wsX8_parseSum_X8 : ∀ w ∈ wsX80, w ∈ wsX8_parseSum := fun w h => List.mem_cons_of_mem _ (List.mem_append_right _ h)
theorem in_wsX8_parse_X8 : ∀ w ∈ wsX80, w ∈ wsX8_parse := fun w h => List.mem_cons_of_mem _ (List.mem_append_right _ h)
theorem in_wsX10_act_X10 : ∀ w ∈ wsX100, w ∈ wsX10_act := fun w h => List.mem_cons_of_mem _ (List.mem_append_left _ (List.mem_append_left _ (List.mem_append_left _ (List.mem_append_right _ h))))
theorem in_wsX10_act_X5 : ∀ w ∈ wsX50, w ∈ wsX10_act := fun w h => List.mem_cons_of_mem _ (List.mem_append_left _ (List.mem_append_left _ (List.mem_append_right _ h)))
theorem in_wsX10_act_X8 : ∀ w ∈ wsX80, w ∈ wsX10_act := fun w h => List.mem_cons_of_mem _ (List.mem_append_right _ h)
set_option maxHeartbeats 4000000 in
set_option maxRecDepth 100000 in
theorem c_X10_openVoyages (l : Launch) (dC : Nat → ClassId) (dI : Nat → Nat → Nat) (sz : Nat) (h0 : Nat) (q : Nat → Nat) (cq : Nat → ClassId) : Met l yX10_openVoyages wsX10_openVoyages ({ frames := 0, cells := 0, slots := 0, locals := 0 }) (va_Pc [.ref h0] (pcW (dC, dI) [] [(h0, .inr (10, oF q))] sz)) (va_Qi (fun (r : Int32) (u : Unit) => r = 0) (fun _ _ => True) (va_A [] sz)) 0 0 (va_A [] sz) := by
  refine Met.ofW (cc := cX10_openVoyages) (maxL := 3) (ret := (some .int)) (by decide) rfl ?_
  intro p e s m args below meth c s₁ B hml hv
  obtain ⟨rfl, hsz, hP, hK, hD0⟩ := hv
  have hx := B.exec
  have hb := B.bytes
  have hr := B.returns
  have hts := atoms_spec (ws := wsX10_openVoyages) B.pre
  have hown : s.vm.findClass RX10 = some m.cls := findClass_of_methodNamed B.named
  have hlocks := B.notSynchronized
  subst hsz
  have hD := hD0
  generalize hAe : va_A [] s.heap.size = A at ⊢
  have hA : ∀ q : Nat, s.heap.size ≤ q → A q := fun q h => by rw [← hAe]; exact Or.inr h
  have hS : va_S A s.heap s.heap [] := va_S.rf
  have hP : va_P (dC, dI) vwCl [(h0, .inr (10, oF q))] s.heap := hP
  have hl := lv_entry ([.ref h0]) (n := 3) (Nat.le_of_ble_eq_true rfl)
  rw [lg_entry_eq]
  generalize (lg_sl ([.ref h0]) ++ List.replicate (3 - (lg_sl ([.ref h0])).length) Slot.unset).toArray = ls at hl ⊢
  have hl : lv_has ls 3 [(0, .ref h0)] := hl
  refine lv_iconst (v := 0) hx hb dX10_openVoyages_0 (by decide) ?_
  refine lv_istore_n (lv' := [(1, .int 0), (0, .ref h0)]) hx hb dX10_openVoyages_1 rfl hl (by decide) rfl (fun ls hl => ?_)
  refine lv_iconst (v := 0) hx hb dX10_openVoyages_2 (by decide) ?_
  refine lv_istore_n (lv' := [(2, .int 0), (1, .int 0), (0, .ref h0)]) hx hb dX10_openVoyages_3 rfl hl (by decide) rfl (fun ls hl => ?_)
  refine lv_iload_n hx hb dX10_openVoyages_4 rfl (lv_at hl 0 rfl) ?_
  refine lv_aload_n hx hb dX10_openVoyages_5 rfl (lv_at hl 2 rfl) ?_
  refine va_get (D := (dC, dI)) (ci := 10) (v := .int 0) (C := RX10) (T := TX10) (N := 16) hx hb hts in_wsX10_openVoyages_X10 hown hK hP 0 rfl rfl 4 (by decide) (hts (.fieldLink RX10 99 "ShipOffice" "voyageCount" "I") (by decide +kernel)) (fun _ h9 => h9) rfl dX10_openVoyages_6 ?_
  refine lv_icmp_ge (tgt := 33) hx hb dX10_openVoyages_9 (by decide) (fun _ => ?_) (fun c_1 => absurd c_1 (by decide))
  refine lv_iload_n hx hb dX10_openVoyages_33 rfl (lv_at hl 1 rfl) ?_
  exact W.iret (v := 0) hx hb hr (fun t ht hW => ⟨⟨0, (), rfl, rfl, trivial⟩, hS.F ht⟩) hS.2.2 dX10_openVoyages_34
set_option maxHeartbeats 4000000 in
set_option maxRecDepth 100000 in
theorem c_X10_openAgreements (l : Launch) (dC : Nat → ClassId) (dI : Nat → Nat → Nat) (sz : Nat) (h0 : Nat) (q : Nat → Nat) (cq : Nat → ClassId) : Met l yX10_openAgreements wsX10_openAgreements ({ frames := 0, cells := 0, slots := 0, locals := 0 }) (va_Pc [.ref h0] (pcW (dC, dI) [] [(h0, .inr (10, oF q))] sz)) (va_Qi (fun (r : Int32) (u : Unit) => r = 0) (fun _ _ => True) (va_A [] sz)) 0 0 (va_A [] sz) := by
  refine Met.ofW (cc := cX10_openAgreements) (maxL := 3) (ret := (some .int)) (by decide) rfl ?_
  intro p e s m args below meth c s₁ B hml hv
  obtain ⟨rfl, hsz, hP, hK, hD0⟩ := hv
  have hx := B.exec
  have hb := B.bytes
  have hr := B.returns
  have hts := atoms_spec (ws := wsX10_openAgreements) B.pre
  have hown : s.vm.findClass RX10 = some m.cls := findClass_of_methodNamed B.named
  have hlocks := B.notSynchronized
  subst hsz
  have hD := hD0
  generalize hAe : va_A [] s.heap.size = A at ⊢
  have hA : ∀ q : Nat, s.heap.size ≤ q → A q := fun q h => by rw [← hAe]; exact Or.inr h
  have hS : va_S A s.heap s.heap [] := va_S.rf
  have hP : va_P (dC, dI) vwCl [(h0, .inr (10, oF q))] s.heap := hP
  have hl := lv_entry ([.ref h0]) (n := 3) (Nat.le_of_ble_eq_true rfl)
  rw [lg_entry_eq]
  generalize (lg_sl ([.ref h0]) ++ List.replicate (3 - (lg_sl ([.ref h0])).length) Slot.unset).toArray = ls at hl ⊢
  have hl : lv_has ls 3 [(0, .ref h0)] := hl
  refine lv_iconst (v := 0) hx hb dX10_openAgreements_0 (by decide) ?_
  refine lv_istore_n (lv' := [(1, .int 0), (0, .ref h0)]) hx hb dX10_openAgreements_1 rfl hl (by decide) rfl (fun ls hl => ?_)
  refine lv_iconst (v := 0) hx hb dX10_openAgreements_2 (by decide) ?_
  refine lv_istore_n (lv' := [(2, .int 0), (1, .int 0), (0, .ref h0)]) hx hb dX10_openAgreements_3 rfl hl (by decide) rfl (fun ls hl => ?_)
  refine lv_iload_n hx hb dX10_openAgreements_4 rfl (lv_at hl 0 rfl) ?_
  refine lv_aload_n hx hb dX10_openAgreements_5 rfl (lv_at hl 2 rfl) ?_
  refine va_get (D := (dC, dI)) (ci := 10) (v := .int 0) (C := RX10) (T := TX10) (N := 16) hx hb hts in_wsX10_openAgreements_X10 hown hK hP 0 rfl rfl 6 (by decide) (hts (.fieldLink RX10 115 "ShipOffice" "agreementCount" "I") (by decide +kernel)) (fun _ h9 => h9) rfl dX10_openAgreements_6 ?_
  refine lv_icmp_ge (tgt := 33) hx hb dX10_openAgreements_9 (by decide) (fun _ => ?_) (fun c_1 => absurd c_1 (by decide))
  refine lv_iload_n hx hb dX10_openAgreements_33 rfl (lv_at hl 1 rfl) ?_
  exact W.iret (v := 0) hx hb hr (fun t ht hW => ⟨⟨0, (), rfl, rfl, trivial⟩, hS.F ht⟩) hS.2.2 dX10_openAgreements_34
set_option maxHeartbeats 4000000 in
set_option maxRecDepth 100000 in
theorem c_X10_menWhoAsk (l : Launch) (dC : Nat → ClassId) (dI : Nat → Nat → Nat) (sz : Nat) (h0 : Nat) (q : Nat → Nat) (cq : Nat → ClassId) : Met l yX10_menWhoAsk wsX10_menWhoAsk ({ frames := 0, cells := 0, slots := 0, locals := 0 }) (va_Pc [.ref h0] (pcW (dC, dI) [] [(h0, .inr (10, oF q))] sz)) (va_Qi (fun (r : Int32) (u : Unit) => r = 0) (fun _ _ => True) (va_A [] sz)) 0 0 (va_A [] sz) := by
  refine Met.ofW (cc := cX10_menWhoAsk) (maxL := 3) (ret := (some .int)) (by decide) rfl ?_
  intro p e s m args below meth c s₁ B hml hv
  obtain ⟨rfl, hsz, hP, hK, hD0⟩ := hv
  have hx := B.exec
  have hb := B.bytes
  have hr := B.returns
  have hts := atoms_spec (ws := wsX10_menWhoAsk) B.pre
  have hown : s.vm.findClass RX10 = some m.cls := findClass_of_methodNamed B.named
  have hlocks := B.notSynchronized
  subst hsz
  have hD := hD0
  generalize hAe : va_A [] s.heap.size = A at ⊢
  have hA : ∀ q : Nat, s.heap.size ≤ q → A q := fun q h => by rw [← hAe]; exact Or.inr h
  have hS : va_S A s.heap s.heap [] := va_S.rf
  have hP : va_P (dC, dI) vwCl [(h0, .inr (10, oF q))] s.heap := hP
  have hl := lv_entry ([.ref h0]) (n := 3) (Nat.le_of_ble_eq_true rfl)
  rw [lg_entry_eq]
  generalize (lg_sl ([.ref h0]) ++ List.replicate (3 - (lg_sl ([.ref h0])).length) Slot.unset).toArray = ls at hl ⊢
  have hl : lv_has ls 3 [(0, .ref h0)] := hl
  refine lv_iconst (v := 0) hx hb dX10_menWhoAsk_0 (by decide) ?_
  refine lv_istore_n (lv' := [(1, .int 0), (0, .ref h0)]) hx hb dX10_menWhoAsk_1 rfl hl (by decide) rfl (fun ls hl => ?_)
  refine lv_iconst (v := 0) hx hb dX10_menWhoAsk_2 (by decide) ?_
  refine lv_istore_n (lv' := [(2, .int 0), (1, .int 0), (0, .ref h0)]) hx hb dX10_menWhoAsk_3 rfl hl (by decide) rfl (fun ls hl => ?_)
  refine lv_iload_n hx hb dX10_menWhoAsk_4 rfl (lv_at hl 0 rfl) ?_
  refine lv_aload_n hx hb dX10_menWhoAsk_5 rfl (lv_at hl 2 rfl) ?_
  refine va_get (D := (dC, dI)) (ci := 10) (v := .int 0) (C := RX10) (T := TX10) (N := 16) hx hb hts in_wsX10_menWhoAsk_X10 hown hK hP 0 rfl rfl 2 (by decide) (hts (.fieldLink RX10 86 "ShipOffice" "manCount" "I") (by decide +kernel)) (fun _ h9 => h9) rfl dX10_menWhoAsk_6 ?_
  refine lv_icmp_ge (tgt := 33) hx hb dX10_menWhoAsk_9 (by decide) (fun _ => ?_) (fun c_1 => absurd c_1 (by decide))
  refine lv_iload_n hx hb dX10_menWhoAsk_33 rfl (lv_at hl 1 rfl) ?_
  exact W.iret (v := 0) hx hb hr (fun t ht hW => ⟨⟨0, (), rfl, rfl, trivial⟩, hS.F ht⟩) hS.2.2 dX10_menWhoAsk_34
theorem cnt_neg {w : Int32} (h : w < 0) : w.toInt < 0 := by
  rw [i_lt] at h
  exact h
theorem cnt_big {w : Int32} (h : nI 18 ≤ w) : 17 < w.toInt := by
  rw [i_le] at h
  have : (nI 18).toInt = 18 := by decide
  omega
theorem ilt_of {a b d : Int32} (h : a < b) (h3 : b.toInt ≤ d.toInt) : a < d := by
  rw [i_lt] at h
  rw [i_lt]
  omega
theorem nlt_of {a b d : Int32} (h : a ≤ b) (h3 : d.toInt ≤ a.toInt) : ¬ b < d := by
  rw [i_le] at h
  rw [i_lt]
  omega
theorem igt_of {a b d : Int32} (h : a ≤ b) (h3 : d.toInt < a.toInt) : d < b := by
  rw [i_le] at h
  rw [i_lt]
  omega
set_option maxHeartbeats 4000000 in
set_option maxRecDepth 100000 in
theorem c_X10_count (l : Launch) (dC : Nat → ClassId) (dI : Nat → Nat → Nat) (sz : Nat) (h0 : Nat) (q : Nat → Nat) (cq : Nat → ClassId) (a1 : Int32) : Met l yX10_count wsX10_count ({ frames := 1, cells := 0, slots := 0, locals := 22 }) (va_Pc [.ref h0, .int a1] (pcW (dC, dI) [((cq 15), .int)] [(h0, .inr (10, oF q)), ((q 15), .inl ((cq 15), 7, .inl (fun _ => 0))), ((q 8), .inr (5, [.ref (q 80), .ref (q 81), .int 0])), ((q 9), .inr (8, [.ref (q 90), .int 0, .ref (q 91), .int 0, .int 0, .int 0]))] sz)) (va_Qi (fun (r : Int32) (u : Unit) => r = sp_count a1) (fun _ _ => True) (va_A [(h0, .inr (10, oF q)), ((q 15), .inl ((cq 15), 7, .inl (fun _ => 0))), ((q 8), .inr (5, [.ref (q 80), .ref (q 81), .int 0])), ((q 9), .inr (8, [.ref (q 90), .int 0, .ref (q 91), .int 0, .int 0, .int 0]))] sz)) 0 0 (va_A [(h0, .inr (10, oF q)), ((q 15), .inl ((cq 15), 7, .inl (fun _ => 0))), ((q 8), .inr (5, [.ref (q 80), .ref (q 81), .int 0])), ((q 9), .inr (8, [.ref (q 90), .int 0, .ref (q 91), .int 0, .int 0, .int 0]))] sz) := by
  refine Met.ofW (cc := cX10_count) (maxL := 2) (ret := (some .int)) (by decide) rfl ?_
  intro p e s m args below meth c s₁ B hml hv
  obtain ⟨rfl, hsz, hP, hK, hD0⟩ := hv
  have hx := B.exec
  have hb := B.bytes
  have hr := B.returns
  have hts := atoms_spec (ws := wsX10_count) B.pre
  have hown : s.vm.findClass RX10 = some m.cls := findClass_of_methodNamed B.named
  have hlocks := B.notSynchronized
  subst hsz
  have hD := hD0.self (sz := s.heap.size)
  generalize hAe : va_A [(h0, .inr (10, oF q)), ((q 15), .inl ((cq 15), 7, .inl (fun _ => 0))), ((q 8), .inr (5, [.ref (q 80), .ref (q 81), .int 0])), ((q 9), .inr (8, [.ref (q 90), .int 0, .ref (q 91), .int 0, .int 0, .int 0]))] s.heap.size = A at hD ⊢
  have hA : ∀ q : Nat, s.heap.size ≤ q → A q := fun q h => by rw [← hAe]; exact Or.inr h
  have hS : va_S A s.heap s.heap [] := va_S.rf
  have hP : va_P (dC, dI) vwCl [(h0, .inr (10, oF q)), ((q 15), .inl ((cq 15), 7, .inl (fun _ => 0))), ((q 8), .inr (5, [.ref (q 80), .ref (q 81), .int 0])), ((q 9), .inr (8, [.ref (q 90), .int 0, .ref (q 91), .int 0, .int 0, .int 0]))] s.heap := hP
  have hl := lv_entry ([.ref h0, .int a1]) (n := 2) (Nat.le_of_ble_eq_true rfl)
  rw [lg_entry_eq]
  generalize (lg_sl ([.ref h0, .int a1]) ++ List.replicate (2 - (lg_sl ([.ref h0, .int a1])).length) Slot.unset).toArray = ls at hl ⊢
  have hl : lv_has ls 2 [(0, .ref h0), (1, .int a1)] := hl
  rcases pk_ix a1 (n := 18) (by decide) with h9 | h9 | ⟨j, hj, e9⟩
  · refine lv_iload_n hx hb dX10_count_0 rfl (lv_at hl 1 rfl) ?_
    refine lv_tableOut (tgt := 149) hx hb dX10_count_1 (Or.inl (cnt_neg h9)) (by decide) ?_
    refine lv_iload_n hx hb dX10_count_149 rfl (lv_at hl 1 rfl) ?_
    refine lv_bipush (v := 11) hx hb dX10_count_150 (by decide) ?_
    refine lv_icmp_lt (tgt := 173) hx hb dX10_count_152 (by decide) (fun c_1 => ?_) (fun c_1 => absurd c_1 (fun h => h (ilt_of h9 (by decide))))
    refine lv_bipush (v := (-9)) hx hb dX10_count_173 (by decide) ?_
    exact W.iret (v := (-9)) hx hb hr (fun t ht hW => ⟨⟨(-9), (), rfl, (by simp [sp_count, h9]), trivial⟩, hS.F ht⟩) hS.2.2 dX10_count_175
  · refine lv_iload_n hx hb dX10_count_0 rfl (lv_at hl 1 rfl) ?_
    refine lv_tableOut (tgt := 149) hx hb dX10_count_1 (Or.inr (cnt_big h9)) (by decide) ?_
    refine lv_iload_n hx hb dX10_count_149 rfl (lv_at hl 1 rfl) ?_
    refine lv_bipush (v := 11) hx hb dX10_count_150 (by decide) ?_
    refine lv_icmp_lt (tgt := 173) hx hb dX10_count_152 (by decide) (fun c_2 => absurd c_2 (nlt_of h9 (by decide))) (fun c_2 => ?_)
    refine lv_iload_n hx hb dX10_count_155 rfl (lv_at hl 1 rfl) ?_
    refine lv_bipush (v := 16) hx hb dX10_count_156 (by decide) ?_
    refine lv_icmp_gt (tgt := 173) hx hb dX10_count_158 (by decide) (fun c_3 => ?_) (fun c_3 => absurd c_3 (fun h => h (igt_of h9 (by decide))))
    refine lv_bipush (v := (-9)) hx hb dX10_count_173 (by decide) ?_
    exact W.iret (v := (-9)) hx hb hr (fun t ht hW => ⟨⟨(-9), (), rfl, (by rw [sp_count, if_neg (nlt_of h9 (by decide)), if_pos (show (18 : Int32) ≤ a1 from h9)]), trivial⟩, hS.F ht⟩) hS.2.2 dX10_count_175
  · rcases (show j = 0 ∨ j = 1 ∨ j = 2 ∨ j = 3 ∨ j = 4 ∨ j = 5 ∨ j = 6 ∨ j = 7 ∨ j = 8 ∨ j = 9 ∨ j = 10 ∨ j = 11 ∨ j = 12 ∨ j = 13 ∨ j = 14 ∨ j = 15 ∨ j = 16 ∨ j = 17 by omega) with rfl | rfl | rfl | rfl | rfl | rfl | rfl | rfl | rfl | rfl | rfl | rfl | rfl | rfl | rfl | rfl | rfl | rfl
    · obtain rfl : a1 = 0 := e9.trans (by decide)
      refine lv_iload_n hx hb dX10_count_0 rfl (lv_at hl 1 rfl) ?_
      refine lv_tableIn (x := 0) (off := 87) (tgt := 88) hx hb dX10_count_1 (by decide) (by decide) (by decide) (by decide) ?_
      refine lv_aload_n hx hb dX10_count_88 rfl (lv_at hl 0 rfl) ?_
      refine va_get (D := (dC, dI)) (ci := 10) (v := .int 0) (C := RX10) (T := TX10) (N := 16) hx hb hts in_wsX10_count_X10 hown hK hP 0 rfl rfl 0 (by decide) (hts (.fieldLink RX10 73 "ShipOffice" "now" "I") (by decide +kernel)) (fun _ h9 => h9) rfl dX10_count_89 ?_
      exact W.iret (v := 0) hx hb hr (fun t ht hW => ⟨⟨0, (), rfl, (by decide), trivial⟩, hS.F ht⟩) hS.2.2 dX10_count_92
    · obtain rfl : a1 = 1 := e9.trans (by decide)
      refine lv_iload_n hx hb dX10_count_0 rfl (lv_at hl 1 rfl) ?_
      refine lv_tableIn (x := 1) (off := 92) (tgt := 93) hx hb dX10_count_1 (by decide) (by decide) (by decide) (by decide) ?_
      refine lv_aload_n hx hb dX10_count_93 rfl (lv_at hl 0 rfl) ?_
      refine va_get (D := (dC, dI)) (ci := 10) (v := .int 0) (C := RX10) (T := TX10) (N := 16) hx hb hts in_wsX10_count_X10 hown hK hP 0 rfl rfl 2 (by decide) (hts (.fieldLink RX10 86 "ShipOffice" "manCount" "I") (by decide +kernel)) (fun _ h9 => h9) rfl dX10_count_94 ?_
      exact W.iret (v := 0) hx hb hr (fun t ht hW => ⟨⟨0, (), rfl, (by decide), trivial⟩, hS.F ht⟩) hS.2.2 dX10_count_97
    · obtain rfl : a1 = 2 := e9.trans (by decide)
      refine lv_iload_n hx hb dX10_count_0 rfl (lv_at hl 1 rfl) ?_
      refine lv_tableIn (x := 2) (off := 97) (tgt := 98) hx hb dX10_count_1 (by decide) (by decide) (by decide) (by decide) ?_
      refine lv_aload_n hx hb dX10_count_98 rfl (lv_at hl 0 rfl) ?_
      refine va_get (D := (dC, dI)) (ci := 10) (v := .int 0) (C := RX10) (T := TX10) (N := 16) hx hb hts in_wsX10_count_X10 hown hK hP 0 rfl rfl 4 (by decide) (hts (.fieldLink RX10 99 "ShipOffice" "voyageCount" "I") (by decide +kernel)) (fun _ h9 => h9) rfl dX10_count_99 ?_
      exact W.iret (v := 0) hx hb hr (fun t ht hW => ⟨⟨0, (), rfl, (by decide), trivial⟩, hS.F ht⟩) hS.2.2 dX10_count_102
    · obtain rfl : a1 = 3 := e9.trans (by decide)
      refine lv_iload_n hx hb dX10_count_0 rfl (lv_at hl 1 rfl) ?_
      refine lv_tableIn (x := 3) (off := 102) (tgt := 103) hx hb dX10_count_1 (by decide) (by decide) (by decide) (by decide) ?_
      refine lv_aload_n hx hb dX10_count_103 rfl (lv_at hl 0 rfl) ?_
      have hPc := hP.sub (ws' := [(h0, .inr (10, oF q))]) [0] rfl
      have hDc := hD.sub (ws' := [(h0, .inr (10, oF q))]) [0] (by decide) rfl
      have hKc := hK.sub (tys' := []) [] rfl
      have hFc : ∀ q, va_A [] s.heap.size q → A q := pu_free hS hA
      refine va_calli (va_runV (As := []) (rest := []) ⟨hx, hb, hml, hown, hts⟩ (c_X10_openVoyages l dC dI s.heap.size h0 q cq) (cwV 0 hts gX10_count_X10_openVoyages rfl rfl rfl (by decide +kernel) ⟨(Nat.le_of_ble_eq_true rfl), (Nat.le_of_ble_eq_true rfl)⟩) (pr_V (r := (RX10, TX10, 16)) hPc hKc hDc 0 10 rfl rfl) rfl rfl hl.1 rfl (lv_room (Nat.le_of_ble_eq_true rfl)) dX10_count_104 ⟨(Nat.le_of_ble_eq_true rfl), (Nat.le_of_ble_eq_true rfl)⟩) hS (fun q _ h => hFc q h) hFc (fun r_5 u t H locs ht hvm w_4 hB hz1 hk1 hS => ?_)
      have hP := pu_keep hP hk1
      clear hk1 hz1 hvm hB hPc hDc hKc hFc ht
      subst w_4
      exact W.iret (v := 0) hx hb hr (fun t ht hW => ⟨⟨0, (), rfl, (by decide), trivial⟩, hS.F ht⟩) hS.2.2 dX10_count_107
    · obtain rfl : a1 = 4 := e9.trans (by decide)
      refine lv_iload_n hx hb dX10_count_0 rfl (lv_at hl 1 rfl) ?_
      refine lv_tableIn (x := 4) (off := 107) (tgt := 108) hx hb dX10_count_1 (by decide) (by decide) (by decide) (by decide) ?_
      refine lv_aload_n hx hb dX10_count_108 rfl (lv_at hl 0 rfl) ?_
      refine va_get (D := (dC, dI)) (ci := 10) (v := .int 0) (C := RX10) (T := TX10) (N := 16) hx hb hts in_wsX10_count_X10 hown hK hP 0 rfl rfl 6 (by decide) (hts (.fieldLink RX10 115 "ShipOffice" "agreementCount" "I") (by decide +kernel)) (fun _ h9 => h9) rfl dX10_count_109 ?_
      exact W.iret (v := 0) hx hb hr (fun t ht hW => ⟨⟨0, (), rfl, (by decide), trivial⟩, hS.F ht⟩) hS.2.2 dX10_count_112
    · obtain rfl : a1 = 5 := e9.trans (by decide)
      refine lv_iload_n hx hb dX10_count_0 rfl (lv_at hl 1 rfl) ?_
      refine lv_tableIn (x := 5) (off := 112) (tgt := 113) hx hb dX10_count_1 (by decide) (by decide) (by decide) (by decide) ?_
      refine lv_aload_n hx hb dX10_count_113 rfl (lv_at hl 0 rfl) ?_
      have hPc := hP.sub (ws' := [(h0, .inr (10, oF q))]) [0] rfl
      have hDc := hD.sub (ws' := [(h0, .inr (10, oF q))]) [0] (by decide) rfl
      have hKc := hK.sub (tys' := []) [] rfl
      have hFc : ∀ q, va_A [] s.heap.size q → A q := pu_free hS hA
      refine va_calli (va_runV (As := []) (rest := []) ⟨hx, hb, hml, hown, hts⟩ (c_X10_openAgreements l dC dI s.heap.size h0 q cq) (cwV 0 hts gX10_count_X10_openAgreements rfl rfl rfl (by decide +kernel) ⟨(Nat.le_of_ble_eq_true rfl), (Nat.le_of_ble_eq_true rfl)⟩) (pr_V (r := (RX10, TX10, 16)) hPc hKc hDc 0 10 rfl rfl) rfl rfl hl.1 rfl (lv_room (Nat.le_of_ble_eq_true rfl)) dX10_count_114 ⟨(Nat.le_of_ble_eq_true rfl), (Nat.le_of_ble_eq_true rfl)⟩) hS (fun q _ h => hFc q h) hFc (fun r_7 u t H locs ht hvm w_6 hB hz1 hk1 hS => ?_)
      have hP := pu_keep hP hk1
      clear hk1 hz1 hvm hB hPc hDc hKc hFc ht
      subst w_6
      exact W.iret (v := 0) hx hb hr (fun t ht hW => ⟨⟨0, (), rfl, (by decide), trivial⟩, hS.F ht⟩) hS.2.2 dX10_count_117
    · obtain rfl : a1 = 6 := e9.trans (by decide)
      refine lv_iload_n hx hb dX10_count_0 rfl (lv_at hl 1 rfl) ?_
      refine lv_tableIn (x := 6) (off := 117) (tgt := 118) hx hb dX10_count_1 (by decide) (by decide) (by decide) (by decide) ?_
      refine lv_aload_n hx hb dX10_count_118 rfl (lv_at hl 0 rfl) ?_
      refine va_get (D := (dC, dI)) (ci := 10) (v := .int 0) (C := RX10) (T := TX10) (N := 16) hx hb hts in_wsX10_count_X10 hown hK hP 0 rfl rfl 7 (by decide) (hts (.fieldLink RX10 139 "ShipOffice" "happeningCount" "I") (by decide +kernel)) (fun _ h9 => h9) rfl dX10_count_119 ?_
      exact W.iret (v := 0) hx hb hr (fun t ht hW => ⟨⟨0, (), rfl, (by decide), trivial⟩, hS.F ht⟩) hS.2.2 dX10_count_122
    · obtain rfl : a1 = 7 := e9.trans (by decide)
      refine lv_iload_n hx hb dX10_count_0 rfl (lv_at hl 1 rfl) ?_
      refine lv_tableIn (x := 7) (off := 122) (tgt := 123) hx hb dX10_count_1 (by decide) (by decide) (by decide) (by decide) ?_
      refine lv_aload_n hx hb dX10_count_123 rfl (lv_at hl 0 rfl) ?_
      refine va_get (D := (dC, dI)) (ci := 10) (v := .ref (q 8)) (C := RX10) (T := TX10) (N := 16) hx hb hts in_wsX10_count_X10 hown hK hP 0 rfl rfl 8 (by decide) (hts (.fieldLink RX10 30 "ShipOffice" "law" "LShipOffice$Law;") (by decide +kernel)) (fun _ h9 => h9) rfl dX10_count_124 ?_
      refine va_get (D := (dC, dI)) (ci := 5) (v := .int 0) (C := RX5) (T := TX5) (N := 3) hx hb hts in_wsX10_count_X5 hown hK hP 2 rfl rfl 2 (by decide) (hts (.fieldLink RX10 178 "ShipOffice$Law" "actCount" "I") (by decide +kernel)) (fun _ h9 => h9) rfl dX10_count_127 ?_
      exact W.iret (v := 0) hx hb hr (fun t ht hW => ⟨⟨0, (), rfl, (by decide), trivial⟩, hS.F ht⟩) hS.2.2 dX10_count_130
    · obtain rfl : a1 = 8 := e9.trans (by decide)
      refine lv_iload_n hx hb dX10_count_0 rfl (lv_at hl 1 rfl) ?_
      refine lv_tableIn (x := 8) (off := 130) (tgt := 131) hx hb dX10_count_1 (by decide) (by decide) (by decide) (by decide) ?_
      refine lv_aload_n hx hb dX10_count_131 rfl (lv_at hl 0 rfl) ?_
      refine va_get (D := (dC, dI)) (ci := 10) (v := .ref (q 9)) (C := RX10) (T := TX10) (N := 16) hx hb hts in_wsX10_count_X10 hown hK hP 0 rfl rfl 9 (by decide) (hts (.fieldLink RX10 37 "ShipOffice" "tape" "LShipOffice$Tape;") (by decide +kernel)) (fun _ h9 => h9) rfl dX10_count_132 ?_
      refine va_get (D := (dC, dI)) (ci := 8) (v := .int 0) (C := RX8) (T := TX8) (N := 6) hx hb hts in_wsX10_count_X8 hown hK hP 3 rfl rfl 1 (by decide) (hts (.fieldLink RX10 169 "ShipOffice$Tape" "size" "I") (by decide +kernel)) (fun _ h9 => h9) rfl dX10_count_135 ?_
      exact W.iret (v := 0) hx hb hr (fun t ht hW => ⟨⟨0, (), rfl, (by decide), trivial⟩, hS.F ht⟩) hS.2.2 dX10_count_138
    · obtain rfl : a1 = 9 := e9.trans (by decide)
      refine lv_iload_n hx hb dX10_count_0 rfl (lv_at hl 1 rfl) ?_
      refine lv_tableIn (x := 9) (off := 138) (tgt := 139) hx hb dX10_count_1 (by decide) (by decide) (by decide) (by decide) ?_
      refine lv_aload_n hx hb dX10_count_139 rfl (lv_at hl 0 rfl) ?_
      refine va_get (D := (dC, dI)) (ci := 10) (v := .int 0) (C := RX10) (T := TX10) (N := 16) hx hb hts in_wsX10_count_X10 hown hK hP 0 rfl rfl 14 (by decide) (hts (.fieldLink RX10 353 "ShipOffice" "rowCount" "I") (by decide +kernel)) (fun _ h9 => h9) rfl dX10_count_140 ?_
      exact W.iret (v := 0) hx hb hr (fun t ht hW => ⟨⟨0, (), rfl, (by decide), trivial⟩, hS.F ht⟩) hS.2.2 dX10_count_143
    · obtain rfl : a1 = 10 := e9.trans (by decide)
      refine lv_iload_n hx hb dX10_count_0 rfl (lv_at hl 1 rfl) ?_
      refine lv_tableIn (x := 10) (off := 148) (tgt := 149) hx hb dX10_count_1 (by decide) (by decide) (by decide) (by decide) ?_
      refine lv_iload_n hx hb dX10_count_149 rfl (lv_at hl 1 rfl) ?_
      refine lv_bipush (v := 11) hx hb dX10_count_150 (by decide) ?_
      refine lv_icmp_lt (tgt := 173) hx hb dX10_count_152 (by decide) (fun _ => ?_) (fun c_8 => absurd c_8 (by decide))
      refine lv_bipush (v := (-9)) hx hb dX10_count_173 (by decide) ?_
      exact W.iret (v := (-9)) hx hb hr (fun t ht hW => ⟨⟨(-9), (), rfl, (by decide), trivial⟩, hS.F ht⟩) hS.2.2 dX10_count_175
    · obtain rfl : a1 = 11 := e9.trans (by decide)
      refine lv_iload_n hx hb dX10_count_0 rfl (lv_at hl 1 rfl) ?_
      refine lv_tableIn (x := 11) (off := 148) (tgt := 149) hx hb dX10_count_1 (by decide) (by decide) (by decide) (by decide) ?_
      refine lv_iload_n hx hb dX10_count_149 rfl (lv_at hl 1 rfl) ?_
      refine lv_bipush (v := 11) hx hb dX10_count_150 (by decide) ?_
      refine lv_icmp_lt (tgt := 173) hx hb dX10_count_152 (by decide) (fun c_9 => absurd c_9 (by decide)) (fun _ => ?_)
      refine lv_iload_n hx hb dX10_count_155 rfl (lv_at hl 1 rfl) ?_
      refine lv_bipush (v := 16) hx hb dX10_count_156 (by decide) ?_
      refine lv_icmp_gt (tgt := 173) hx hb dX10_count_158 (by decide) (fun c_10 => absurd c_10 (by decide)) (fun _ => ?_)
      refine lv_aload_n hx hb dX10_count_161 rfl (lv_at hl 0 rfl) ?_
      refine va_get (D := (dC, dI)) (ci := 10) (v := .ref (q 15)) (C := RX10) (T := TX10) (N := 16) hx hb hts in_wsX10_count_X10 hown hK hP 0 rfl rfl 15 (by decide) (hts (.fieldLink RX10 66 "ShipOffice" "refusals" "[I") (by decide +kernel)) (fun _ h9 => h9) rfl dX10_count_162 ?_
      refine lv_iload_n hx hb dX10_count_165 rfl (lv_at hl 1 rfl) ?_
      refine lv_bipush (v := 10) hx hb dX10_count_166 (by decide) ?_
      refine lv_isub hx hb dX10_count_168 ?_
      refine lv_topi (fun y ey => ?_)
      obtain rfl : y = 1 := ey.trans (by decide)
      refine va_iald hx hb hK hP 1 0 rfl rfl (by unfold vp_in; decide) dX10_count_169 ?_
      refine W.eq (g2 := F0 m 170 ls [.int 0]) rfl ?_
      refine lv_goto (tgt := 175) hx hb dX10_count_170 (by decide) ?_
      exact W.iret (v := 0) hx hb hr (fun t ht hW => ⟨⟨0, (), rfl, (by decide), trivial⟩, hS.F ht⟩) hS.2.2 dX10_count_175
    · obtain rfl : a1 = 12 := e9.trans (by decide)
      refine lv_iload_n hx hb dX10_count_0 rfl (lv_at hl 1 rfl) ?_
      refine lv_tableIn (x := 12) (off := 148) (tgt := 149) hx hb dX10_count_1 (by decide) (by decide) (by decide) (by decide) ?_
      refine lv_iload_n hx hb dX10_count_149 rfl (lv_at hl 1 rfl) ?_
      refine lv_bipush (v := 11) hx hb dX10_count_150 (by decide) ?_
      refine lv_icmp_lt (tgt := 173) hx hb dX10_count_152 (by decide) (fun c_11 => absurd c_11 (by decide)) (fun _ => ?_)
      refine lv_iload_n hx hb dX10_count_155 rfl (lv_at hl 1 rfl) ?_
      refine lv_bipush (v := 16) hx hb dX10_count_156 (by decide) ?_
      refine lv_icmp_gt (tgt := 173) hx hb dX10_count_158 (by decide) (fun c_12 => absurd c_12 (by decide)) (fun _ => ?_)
      refine lv_aload_n hx hb dX10_count_161 rfl (lv_at hl 0 rfl) ?_
      refine va_get (D := (dC, dI)) (ci := 10) (v := .ref (q 15)) (C := RX10) (T := TX10) (N := 16) hx hb hts in_wsX10_count_X10 hown hK hP 0 rfl rfl 15 (by decide) (hts (.fieldLink RX10 66 "ShipOffice" "refusals" "[I") (by decide +kernel)) (fun _ h9 => h9) rfl dX10_count_162 ?_
      refine lv_iload_n hx hb dX10_count_165 rfl (lv_at hl 1 rfl) ?_
      refine lv_bipush (v := 10) hx hb dX10_count_166 (by decide) ?_
      refine lv_isub hx hb dX10_count_168 ?_
      refine lv_topi (fun y ey => ?_)
      obtain rfl : y = 2 := ey.trans (by decide)
      refine va_iald hx hb hK hP 1 0 rfl rfl (by unfold vp_in; decide) dX10_count_169 ?_
      refine W.eq (g2 := F0 m 170 ls [.int 0]) rfl ?_
      refine lv_goto (tgt := 175) hx hb dX10_count_170 (by decide) ?_
      exact W.iret (v := 0) hx hb hr (fun t ht hW => ⟨⟨0, (), rfl, (by decide), trivial⟩, hS.F ht⟩) hS.2.2 dX10_count_175
    · obtain rfl : a1 = 13 := e9.trans (by decide)
      refine lv_iload_n hx hb dX10_count_0 rfl (lv_at hl 1 rfl) ?_
      refine lv_tableIn (x := 13) (off := 148) (tgt := 149) hx hb dX10_count_1 (by decide) (by decide) (by decide) (by decide) ?_
      refine lv_iload_n hx hb dX10_count_149 rfl (lv_at hl 1 rfl) ?_
      refine lv_bipush (v := 11) hx hb dX10_count_150 (by decide) ?_
      refine lv_icmp_lt (tgt := 173) hx hb dX10_count_152 (by decide) (fun c_13 => absurd c_13 (by decide)) (fun _ => ?_)
      refine lv_iload_n hx hb dX10_count_155 rfl (lv_at hl 1 rfl) ?_
      refine lv_bipush (v := 16) hx hb dX10_count_156 (by decide) ?_
      refine lv_icmp_gt (tgt := 173) hx hb dX10_count_158 (by decide) (fun c_14 => absurd c_14 (by decide)) (fun _ => ?_)
      refine lv_aload_n hx hb dX10_count_161 rfl (lv_at hl 0 rfl) ?_
      refine va_get (D := (dC, dI)) (ci := 10) (v := .ref (q 15)) (C := RX10) (T := TX10) (N := 16) hx hb hts in_wsX10_count_X10 hown hK hP 0 rfl rfl 15 (by decide) (hts (.fieldLink RX10 66 "ShipOffice" "refusals" "[I") (by decide +kernel)) (fun _ h9 => h9) rfl dX10_count_162 ?_
      refine lv_iload_n hx hb dX10_count_165 rfl (lv_at hl 1 rfl) ?_
      refine lv_bipush (v := 10) hx hb dX10_count_166 (by decide) ?_
      refine lv_isub hx hb dX10_count_168 ?_
      refine lv_topi (fun y ey => ?_)
      obtain rfl : y = 3 := ey.trans (by decide)
      refine va_iald hx hb hK hP 1 0 rfl rfl (by unfold vp_in; decide) dX10_count_169 ?_
      refine W.eq (g2 := F0 m 170 ls [.int 0]) rfl ?_
      refine lv_goto (tgt := 175) hx hb dX10_count_170 (by decide) ?_
      exact W.iret (v := 0) hx hb hr (fun t ht hW => ⟨⟨0, (), rfl, (by decide), trivial⟩, hS.F ht⟩) hS.2.2 dX10_count_175
    · obtain rfl : a1 = 14 := e9.trans (by decide)
      refine lv_iload_n hx hb dX10_count_0 rfl (lv_at hl 1 rfl) ?_
      refine lv_tableIn (x := 14) (off := 148) (tgt := 149) hx hb dX10_count_1 (by decide) (by decide) (by decide) (by decide) ?_
      refine lv_iload_n hx hb dX10_count_149 rfl (lv_at hl 1 rfl) ?_
      refine lv_bipush (v := 11) hx hb dX10_count_150 (by decide) ?_
      refine lv_icmp_lt (tgt := 173) hx hb dX10_count_152 (by decide) (fun c_15 => absurd c_15 (by decide)) (fun _ => ?_)
      refine lv_iload_n hx hb dX10_count_155 rfl (lv_at hl 1 rfl) ?_
      refine lv_bipush (v := 16) hx hb dX10_count_156 (by decide) ?_
      refine lv_icmp_gt (tgt := 173) hx hb dX10_count_158 (by decide) (fun c_16 => absurd c_16 (by decide)) (fun _ => ?_)
      refine lv_aload_n hx hb dX10_count_161 rfl (lv_at hl 0 rfl) ?_
      refine va_get (D := (dC, dI)) (ci := 10) (v := .ref (q 15)) (C := RX10) (T := TX10) (N := 16) hx hb hts in_wsX10_count_X10 hown hK hP 0 rfl rfl 15 (by decide) (hts (.fieldLink RX10 66 "ShipOffice" "refusals" "[I") (by decide +kernel)) (fun _ h9 => h9) rfl dX10_count_162 ?_
      refine lv_iload_n hx hb dX10_count_165 rfl (lv_at hl 1 rfl) ?_
      refine lv_bipush (v := 10) hx hb dX10_count_166 (by decide) ?_
      refine lv_isub hx hb dX10_count_168 ?_
      refine lv_topi (fun y ey => ?_)
      obtain rfl : y = 4 := ey.trans (by decide)
      refine va_iald hx hb hK hP 1 0 rfl rfl (by unfold vp_in; decide) dX10_count_169 ?_
      refine W.eq (g2 := F0 m 170 ls [.int 0]) rfl ?_
      refine lv_goto (tgt := 175) hx hb dX10_count_170 (by decide) ?_
      exact W.iret (v := 0) hx hb hr (fun t ht hW => ⟨⟨0, (), rfl, (by decide), trivial⟩, hS.F ht⟩) hS.2.2 dX10_count_175
    · obtain rfl : a1 = 15 := e9.trans (by decide)
      refine lv_iload_n hx hb dX10_count_0 rfl (lv_at hl 1 rfl) ?_
      refine lv_tableIn (x := 15) (off := 148) (tgt := 149) hx hb dX10_count_1 (by decide) (by decide) (by decide) (by decide) ?_
      refine lv_iload_n hx hb dX10_count_149 rfl (lv_at hl 1 rfl) ?_
      refine lv_bipush (v := 11) hx hb dX10_count_150 (by decide) ?_
      refine lv_icmp_lt (tgt := 173) hx hb dX10_count_152 (by decide) (fun c_17 => absurd c_17 (by decide)) (fun _ => ?_)
      refine lv_iload_n hx hb dX10_count_155 rfl (lv_at hl 1 rfl) ?_
      refine lv_bipush (v := 16) hx hb dX10_count_156 (by decide) ?_
      refine lv_icmp_gt (tgt := 173) hx hb dX10_count_158 (by decide) (fun c_18 => absurd c_18 (by decide)) (fun _ => ?_)
      refine lv_aload_n hx hb dX10_count_161 rfl (lv_at hl 0 rfl) ?_
      refine va_get (D := (dC, dI)) (ci := 10) (v := .ref (q 15)) (C := RX10) (T := TX10) (N := 16) hx hb hts in_wsX10_count_X10 hown hK hP 0 rfl rfl 15 (by decide) (hts (.fieldLink RX10 66 "ShipOffice" "refusals" "[I") (by decide +kernel)) (fun _ h9 => h9) rfl dX10_count_162 ?_
      refine lv_iload_n hx hb dX10_count_165 rfl (lv_at hl 1 rfl) ?_
      refine lv_bipush (v := 10) hx hb dX10_count_166 (by decide) ?_
      refine lv_isub hx hb dX10_count_168 ?_
      refine lv_topi (fun y ey => ?_)
      obtain rfl : y = 5 := ey.trans (by decide)
      refine va_iald hx hb hK hP 1 0 rfl rfl (by unfold vp_in; decide) dX10_count_169 ?_
      refine W.eq (g2 := F0 m 170 ls [.int 0]) rfl ?_
      refine lv_goto (tgt := 175) hx hb dX10_count_170 (by decide) ?_
      exact W.iret (v := 0) hx hb hr (fun t ht hW => ⟨⟨0, (), rfl, (by decide), trivial⟩, hS.F ht⟩) hS.2.2 dX10_count_175
    · obtain rfl : a1 = 16 := e9.trans (by decide)
      refine lv_iload_n hx hb dX10_count_0 rfl (lv_at hl 1 rfl) ?_
      refine lv_tableIn (x := 16) (off := 148) (tgt := 149) hx hb dX10_count_1 (by decide) (by decide) (by decide) (by decide) ?_
      refine lv_iload_n hx hb dX10_count_149 rfl (lv_at hl 1 rfl) ?_
      refine lv_bipush (v := 11) hx hb dX10_count_150 (by decide) ?_
      refine lv_icmp_lt (tgt := 173) hx hb dX10_count_152 (by decide) (fun c_19 => absurd c_19 (by decide)) (fun _ => ?_)
      refine lv_iload_n hx hb dX10_count_155 rfl (lv_at hl 1 rfl) ?_
      refine lv_bipush (v := 16) hx hb dX10_count_156 (by decide) ?_
      refine lv_icmp_gt (tgt := 173) hx hb dX10_count_158 (by decide) (fun c_20 => absurd c_20 (by decide)) (fun _ => ?_)
      refine lv_aload_n hx hb dX10_count_161 rfl (lv_at hl 0 rfl) ?_
      refine va_get (D := (dC, dI)) (ci := 10) (v := .ref (q 15)) (C := RX10) (T := TX10) (N := 16) hx hb hts in_wsX10_count_X10 hown hK hP 0 rfl rfl 15 (by decide) (hts (.fieldLink RX10 66 "ShipOffice" "refusals" "[I") (by decide +kernel)) (fun _ h9 => h9) rfl dX10_count_162 ?_
      refine lv_iload_n hx hb dX10_count_165 rfl (lv_at hl 1 rfl) ?_
      refine lv_bipush (v := 10) hx hb dX10_count_166 (by decide) ?_
      refine lv_isub hx hb dX10_count_168 ?_
      refine lv_topi (fun y ey => ?_)
      obtain rfl : y = 6 := ey.trans (by decide)
      refine va_iald hx hb hK hP 1 0 rfl rfl (by unfold vp_in; decide) dX10_count_169 ?_
      refine W.eq (g2 := F0 m 170 ls [.int 0]) rfl ?_
      refine lv_goto (tgt := 175) hx hb dX10_count_170 (by decide) ?_
      exact W.iret (v := 0) hx hb hr (fun t ht hW => ⟨⟨0, (), rfl, (by decide), trivial⟩, hS.F ht⟩) hS.2.2 dX10_count_175
    · obtain rfl : a1 = 17 := e9.trans (by decide)
      refine lv_iload_n hx hb dX10_count_0 rfl (lv_at hl 1 rfl) ?_
      refine lv_tableIn (x := 17) (off := 143) (tgt := 144) hx hb dX10_count_1 (by decide) (by decide) (by decide) (by decide) ?_
      refine lv_aload_n hx hb dX10_count_144 rfl (lv_at hl 0 rfl) ?_
      have hPc := hP.sub (ws' := [(h0, .inr (10, oF q))]) [0] rfl
      have hDc := hD.sub (ws' := [(h0, .inr (10, oF q))]) [0] (by decide) rfl
      have hKc := hK.sub (tys' := []) [] rfl
      have hFc : ∀ q, va_A [] s.heap.size q → A q := pu_free hS hA
      refine va_calli (va_runV (As := []) (rest := []) ⟨hx, hb, hml, hown, hts⟩ (c_X10_menWhoAsk l dC dI s.heap.size h0 q cq) (cwV 0 hts gX10_count_X10_menWhoAsk rfl rfl rfl (by decide +kernel) ⟨(Nat.le_of_ble_eq_true rfl), (Nat.le_of_ble_eq_true rfl)⟩) (pr_V (r := (RX10, TX10, 16)) hPc hKc hDc 0 10 rfl rfl) rfl rfl hl.1 rfl (lv_room (Nat.le_of_ble_eq_true rfl)) dX10_count_145 ⟨(Nat.le_of_ble_eq_true rfl), (Nat.le_of_ble_eq_true rfl)⟩) hS (fun q _ h => hFc q h) hFc (fun r_22 u t H locs ht hvm w_21 hB hz1 hk1 hS => ?_)
      have hP := pu_keep hP hk1
      clear hk1 hz1 hvm hB hPc hDc hKc hFc ht
      subst w_21
      exact W.iret (v := 0) hx hb hr (fun t ht hW => ⟨⟨0, (), rfl, (by decide), trivial⟩, hS.F ht⟩) hS.2.2 dX10_count_148
set_option maxHeartbeats 4000000 in
set_option maxRecDepth 100000 in
theorem c_X8_add_0 (l : Launch) (dC : Nat → ClassId) (dI : Nat → Nat → Nat) (sz : Nat) (h0 : Nat) (q : Nat → Nat) (cq : Nat → ClassId) (f : Nat → Int32) (v : Int32) : Met l yX8_add wsX8_add ({ frames := 0, cells := 0, slots := 0, locals := 0 }) (va_Pc [.ref (q 9), .int v] (pcW (dC, dI) [((cq 90), .int)] [((q 9), .inr (8, [.ref (q 90), .int 0, .ref (q 91), .int 0, .int 0, .int 0])), ((q 90), .inl ((cq 90), 60, .inl f))] sz)) (va_Qv (fun (u : (Nat → Int32)) => True) (fun u t => va_P (dC, dI) vwCl [((q 9), .inr (8, [.ref (q 90), .int 1, .ref (q 91), .int 0, .int 0, .int 0])), ((q 90), .inl ((cq 90), 60, .inl u))] t.heap ∧ va_K (dC, dI) vwCl [((cq 90), .int)] t ∧ va_D (va_A [((q 9), .inr (8, [.ref (q 90), .int 0, .ref (q 91), .int 0, .int 0, .int 0])), ((q 90), .inl ((cq 90), 60, .inl f))] sz) [((q 9), .inr (8, [.ref (q 90), .int 1, .ref (q 91), .int 0, .int 0, .int 0])), ((q 90), .inl ((cq 90), 60, .inl u))]) (va_A [((q 9), .inr (8, [.ref (q 90), .int 0, .ref (q 91), .int 0, .int 0, .int 0])), ((q 90), .inl ((cq 90), 60, .inl f))] sz)) 0 0 (va_A [((q 9), .inr (8, [.ref (q 90), .int 0, .ref (q 91), .int 0, .int 0, .int 0])), ((q 90), .inl ((cq 90), 60, .inl f))] sz) := by
  refine Met.ofW (cc := cX8_add) (maxL := 2) (ret := none) (by decide) rfl ?_
  intro p e s m args below meth c s₁ B hml hv
  obtain ⟨rfl, hsz, hP, hK, hD0⟩ := hv
  have hx := B.exec
  have hb := B.bytes
  have hr := B.returns
  have hts := atoms_spec (ws := wsX8_add) B.pre
  have hown : s.vm.findClass RX8 = some m.cls := findClass_of_methodNamed B.named
  have hlocks := B.notSynchronized
  subst hsz
  have hD := hD0.self (sz := s.heap.size)
  generalize hAe : va_A [((q 9), .inr (8, [.ref (q 90), .int 0, .ref (q 91), .int 0, .int 0, .int 0])), ((q 90), .inl ((cq 90), 60, .inl f))] s.heap.size = A at hD ⊢
  have hA : ∀ q : Nat, s.heap.size ≤ q → A q := fun q h => by rw [← hAe]; exact Or.inr h
  have hS : va_S A s.heap s.heap [] := va_S.rf
  have hP : va_P (dC, dI) vwCl [((q 9), .inr (8, [.ref (q 90), .int 0, .ref (q 91), .int 0, .int 0, .int 0])), ((q 90), .inl ((cq 90), 60, .inl f))] s.heap := hP
  have hl := lv_entry ([.ref (q 9), .int v]) (n := 2) (Nat.le_of_ble_eq_true rfl)
  rw [lg_entry_eq]
  generalize (lg_sl ([.ref (q 9), .int v]) ++ List.replicate (2 - (lg_sl ([.ref (q 9), .int v])).length) Slot.unset).toArray = ls at hl ⊢
  have hl : lv_has ls 2 [(0, .ref (q 9)), (1, .int v)] := hl
  refine lv_aload_n hx hb dX8_add_0 rfl (lv_at hl 0 rfl) ?_
  refine va_get (D := (dC, dI)) (ci := 8) (v := .int 0) (C := RX8) (T := TX8) (N := 6) hx hb hts in_wsX8_add_X8 hown hK hP 0 rfl rfl 1 (by decide) (hts (.fieldLink RX8 18 "ShipOffice$Tape" "size" "I") (by decide +kernel)) (fun _ h9 => h9) rfl dX8_add_1 ?_
  refine lv_bipush (v := 60) hx hb dX8_add_4 (by decide) ?_
  refine lv_icmp_ge (tgt := 29) hx hb dX8_add_6 (by decide) (fun c_1 => absurd c_1 (by decide)) (fun _ => ?_)
  refine lv_aload_n hx hb dX8_add_9 rfl (lv_at hl 0 rfl) ?_
  refine va_get (D := (dC, dI)) (ci := 8) (v := .ref (q 90)) (C := RX8) (T := TX8) (N := 6) hx hb hts in_wsX8_add_X8 hown hK hP 0 rfl rfl 0 (by decide) (hts (.fieldLink RX8 9 "ShipOffice$Tape" "bytes" "[I") (by decide +kernel)) (fun _ h9 => h9) rfl dX8_add_10 ?_
  refine lv_aload_n hx hb dX8_add_13 rfl (lv_at hl 0 rfl) ?_
  refine va_get (D := (dC, dI)) (ci := 8) (v := .int 0) (C := RX8) (T := TX8) (N := 6) hx hb hts in_wsX8_add_X8 hown hK hP 0 rfl rfl 1 (by decide) (hts (.fieldLink RX8 18 "ShipOffice$Tape" "size" "I") (by decide +kernel)) (fun _ h9 => h9) rfl dX8_add_14 ?_
  refine lv_iload_n hx hb dX8_add_17 rfl (lv_at hl 1 rfl) ?_
  refine va_iast hx hb hK hP hD hS 1 0 rfl rfl (by unfold vp_in; decide) dX8_add_18 (fun H locs hP hD hS => ?_)
  have hP : va_P (dC, dI) vwCl [((q 9), .inr (8, [.ref (q 90), .int 0, .ref (q 91), .int 0, .int 0, .int 0])), ((q 90), .inl ((cq 90), 60, .inl (upd f (0 : Int32).toNatClampNeg v)))] H := hP
  have hD : va_D A [((q 9), .inr (8, [.ref (q 90), .int 0, .ref (q 91), .int 0, .int 0, .int 0])), ((q 90), .inl ((cq 90), 60, .inl (upd f (0 : Int32).toNatClampNeg v)))] := hD
  refine lv_aload_n hx hb dX8_add_19 rfl (lv_at hl 0 rfl) ?_
  refine lv_dup hx hb dX8_add_20 rfl ?_
  refine va_get (D := (dC, dI)) (ci := 8) (v := .int 0) (C := RX8) (T := TX8) (N := 6) hx hb hts in_wsX8_add_X8 hown hK hP 0 rfl rfl 1 (by decide) (hts (.fieldLink RX8 18 "ShipOffice$Tape" "size" "I") (by decide +kernel)) (fun _ h9 => h9) rfl dX8_add_21 ?_
  refine lv_iconst (v := 1) hx hb dX8_add_24 (by decide) ?_
  refine lv_iadd hx hb dX8_add_25 ?_
  refine lv_topi (fun y ey => ?_)
  obtain rfl : y = 1 := ey.trans (by decide)
  refine va_put (D := (dC, dI)) (ci := 8) (v := .int 1) (ty := .int) (C := RX8) (T := TX8) (N := 6) hx hb hts in_wsX8_add_X8 tyX8 tyX8_ok nmX8 hown hK hP hD hS 0 rfl rfl 1 (by decide) (hts (.fieldLink RX8 18 "ShipOffice$Tape" "size" "I") (by decide +kernel)) (fun _ h9 => h9) rfl (by decide +kernel) rfl rfl (Nat.le_of_ble_eq_true rfl) dX8_add_26 (fun H locs hP hD hS => ?_)
  have hP : va_P (dC, dI) vwCl [((q 9), .inr (8, [.ref (q 90), .int 1, .ref (q 91), .int 0, .int 0, .int 0])), ((q 90), .inl ((cq 90), 60, .inl (upd f (0 : Int32).toNatClampNeg v)))] H := hP
  have hD : va_D A [((q 9), .inr (8, [.ref (q 90), .int 1, .ref (q 91), .int 0, .int 0, .int 0])), ((q 90), .inl ((cq 90), 60, .inl (upd f (0 : Int32).toNatClampNeg v)))] := hD
  have hP9 := hP.sub (ws' := [((q 9), .inr (8, [.ref (q 90), .int 1, .ref (q 91), .int 0, .int 0, .int 0])), ((q 90), .inl ((cq 90), 60, .inl (upd f (0 : Int32).toNatClampNeg v)))]) [0, 1] rfl
  have hD9 := hD.sub (ws' := [((q 9), .inr (8, [.ref (q 90), .int 1, .ref (q 91), .int 0, .int 0, .int 0])), ((q 90), .inl ((cq 90), 60, .inl (upd f (0 : Int32).toNatClampNeg v)))]) [0, 1] (by decide) rfl
  have hK9 := hK.sub (tys' := [((cq 90), .int)]) [0] rfl
  subst hAe
  exact W.vret hx hb hr (fun t ht hW => ⟨⟨(upd f (0 : Int32).toNatClampNeg v), rfl, trivial, ⟨by rw [ht]; exact hP9, va_K.moved hW.alike hK9, hD9⟩⟩, hS.F ht⟩) hS.2.2 dX8_add_29
set_option maxHeartbeats 4000000 in
set_option maxRecDepth 100000 in
theorem c_X8_add_1 (l : Launch) (dC : Nat → ClassId) (dI : Nat → Nat → Nat) (sz : Nat) (h0 : Nat) (q : Nat → Nat) (cq : Nat → ClassId) (f : Nat → Int32) (v : Int32) : Met l yX8_add wsX8_add ({ frames := 0, cells := 0, slots := 0, locals := 0 }) (va_Pc [.ref (q 9), .int v] (pcW (dC, dI) [((cq 90), .int)] [((q 9), .inr (8, [.ref (q 90), .int 1, .ref (q 91), .int 0, .int 0, .int 0])), ((q 90), .inl ((cq 90), 60, .inl f))] sz)) (va_Qv (fun (u : (Nat → Int32)) => True) (fun u t => va_P (dC, dI) vwCl [((q 9), .inr (8, [.ref (q 90), .int 2, .ref (q 91), .int 0, .int 0, .int 0])), ((q 90), .inl ((cq 90), 60, .inl u))] t.heap ∧ va_K (dC, dI) vwCl [((cq 90), .int)] t ∧ va_D (va_A [((q 9), .inr (8, [.ref (q 90), .int 1, .ref (q 91), .int 0, .int 0, .int 0])), ((q 90), .inl ((cq 90), 60, .inl f))] sz) [((q 9), .inr (8, [.ref (q 90), .int 2, .ref (q 91), .int 0, .int 0, .int 0])), ((q 90), .inl ((cq 90), 60, .inl u))]) (va_A [((q 9), .inr (8, [.ref (q 90), .int 1, .ref (q 91), .int 0, .int 0, .int 0])), ((q 90), .inl ((cq 90), 60, .inl f))] sz)) 0 0 (va_A [((q 9), .inr (8, [.ref (q 90), .int 1, .ref (q 91), .int 0, .int 0, .int 0])), ((q 90), .inl ((cq 90), 60, .inl f))] sz) := by
  refine Met.ofW (cc := cX8_add) (maxL := 2) (ret := none) (by decide) rfl ?_
  intro p e s m args below meth c s₁ B hml hv
  obtain ⟨rfl, hsz, hP, hK, hD0⟩ := hv
  have hx := B.exec
  have hb := B.bytes
  have hr := B.returns
  have hts := atoms_spec (ws := wsX8_add) B.pre
  have hown : s.vm.findClass RX8 = some m.cls := findClass_of_methodNamed B.named
  have hlocks := B.notSynchronized
  subst hsz
  have hD := hD0.self (sz := s.heap.size)
  generalize hAe : va_A [((q 9), .inr (8, [.ref (q 90), .int 1, .ref (q 91), .int 0, .int 0, .int 0])), ((q 90), .inl ((cq 90), 60, .inl f))] s.heap.size = A at hD ⊢
  have hA : ∀ q : Nat, s.heap.size ≤ q → A q := fun q h => by rw [← hAe]; exact Or.inr h
  have hS : va_S A s.heap s.heap [] := va_S.rf
  have hP : va_P (dC, dI) vwCl [((q 9), .inr (8, [.ref (q 90), .int 1, .ref (q 91), .int 0, .int 0, .int 0])), ((q 90), .inl ((cq 90), 60, .inl f))] s.heap := hP
  have hl := lv_entry ([.ref (q 9), .int v]) (n := 2) (Nat.le_of_ble_eq_true rfl)
  rw [lg_entry_eq]
  generalize (lg_sl ([.ref (q 9), .int v]) ++ List.replicate (2 - (lg_sl ([.ref (q 9), .int v])).length) Slot.unset).toArray = ls at hl ⊢
  have hl : lv_has ls 2 [(0, .ref (q 9)), (1, .int v)] := hl
  refine lv_aload_n hx hb dX8_add_0 rfl (lv_at hl 0 rfl) ?_
  refine va_get (D := (dC, dI)) (ci := 8) (v := .int 1) (C := RX8) (T := TX8) (N := 6) hx hb hts in_wsX8_add_X8 hown hK hP 0 rfl rfl 1 (by decide) (hts (.fieldLink RX8 18 "ShipOffice$Tape" "size" "I") (by decide +kernel)) (fun _ h9 => h9) rfl dX8_add_1 ?_
  refine lv_bipush (v := 60) hx hb dX8_add_4 (by decide) ?_
  refine lv_icmp_ge (tgt := 29) hx hb dX8_add_6 (by decide) (fun c_1 => absurd c_1 (by decide)) (fun _ => ?_)
  refine lv_aload_n hx hb dX8_add_9 rfl (lv_at hl 0 rfl) ?_
  refine va_get (D := (dC, dI)) (ci := 8) (v := .ref (q 90)) (C := RX8) (T := TX8) (N := 6) hx hb hts in_wsX8_add_X8 hown hK hP 0 rfl rfl 0 (by decide) (hts (.fieldLink RX8 9 "ShipOffice$Tape" "bytes" "[I") (by decide +kernel)) (fun _ h9 => h9) rfl dX8_add_10 ?_
  refine lv_aload_n hx hb dX8_add_13 rfl (lv_at hl 0 rfl) ?_
  refine va_get (D := (dC, dI)) (ci := 8) (v := .int 1) (C := RX8) (T := TX8) (N := 6) hx hb hts in_wsX8_add_X8 hown hK hP 0 rfl rfl 1 (by decide) (hts (.fieldLink RX8 18 "ShipOffice$Tape" "size" "I") (by decide +kernel)) (fun _ h9 => h9) rfl dX8_add_14 ?_
  refine lv_iload_n hx hb dX8_add_17 rfl (lv_at hl 1 rfl) ?_
  refine va_iast hx hb hK hP hD hS 1 0 rfl rfl (by unfold vp_in; decide) dX8_add_18 (fun H locs hP hD hS => ?_)
  have hP : va_P (dC, dI) vwCl [((q 9), .inr (8, [.ref (q 90), .int 1, .ref (q 91), .int 0, .int 0, .int 0])), ((q 90), .inl ((cq 90), 60, .inl (upd f (1 : Int32).toNatClampNeg v)))] H := hP
  have hD : va_D A [((q 9), .inr (8, [.ref (q 90), .int 1, .ref (q 91), .int 0, .int 0, .int 0])), ((q 90), .inl ((cq 90), 60, .inl (upd f (1 : Int32).toNatClampNeg v)))] := hD
  refine lv_aload_n hx hb dX8_add_19 rfl (lv_at hl 0 rfl) ?_
  refine lv_dup hx hb dX8_add_20 rfl ?_
  refine va_get (D := (dC, dI)) (ci := 8) (v := .int 1) (C := RX8) (T := TX8) (N := 6) hx hb hts in_wsX8_add_X8 hown hK hP 0 rfl rfl 1 (by decide) (hts (.fieldLink RX8 18 "ShipOffice$Tape" "size" "I") (by decide +kernel)) (fun _ h9 => h9) rfl dX8_add_21 ?_
  refine lv_iconst (v := 1) hx hb dX8_add_24 (by decide) ?_
  refine lv_iadd hx hb dX8_add_25 ?_
  refine lv_topi (fun y ey => ?_)
  obtain rfl : y = 2 := ey.trans (by decide)
  refine va_put (D := (dC, dI)) (ci := 8) (v := .int 2) (ty := .int) (C := RX8) (T := TX8) (N := 6) hx hb hts in_wsX8_add_X8 tyX8 tyX8_ok nmX8 hown hK hP hD hS 0 rfl rfl 1 (by decide) (hts (.fieldLink RX8 18 "ShipOffice$Tape" "size" "I") (by decide +kernel)) (fun _ h9 => h9) rfl (by decide +kernel) rfl rfl (Nat.le_of_ble_eq_true rfl) dX8_add_26 (fun H locs hP hD hS => ?_)
  have hP : va_P (dC, dI) vwCl [((q 9), .inr (8, [.ref (q 90), .int 2, .ref (q 91), .int 0, .int 0, .int 0])), ((q 90), .inl ((cq 90), 60, .inl (upd f (1 : Int32).toNatClampNeg v)))] H := hP
  have hD : va_D A [((q 9), .inr (8, [.ref (q 90), .int 2, .ref (q 91), .int 0, .int 0, .int 0])), ((q 90), .inl ((cq 90), 60, .inl (upd f (1 : Int32).toNatClampNeg v)))] := hD
  have hP9 := hP.sub (ws' := [((q 9), .inr (8, [.ref (q 90), .int 2, .ref (q 91), .int 0, .int 0, .int 0])), ((q 90), .inl ((cq 90), 60, .inl (upd f (1 : Int32).toNatClampNeg v)))]) [0, 1] rfl
  have hD9 := hD.sub (ws' := [((q 9), .inr (8, [.ref (q 90), .int 2, .ref (q 91), .int 0, .int 0, .int 0])), ((q 90), .inl ((cq 90), 60, .inl (upd f (1 : Int32).toNatClampNeg v)))]) [0, 1] (by decide) rfl
  have hK9 := hK.sub (tys' := [((cq 90), .int)]) [0] rfl
  subst hAe
  exact W.vret hx hb hr (fun t ht hW => ⟨⟨(upd f (1 : Int32).toNatClampNeg v), rfl, trivial, ⟨by rw [ht]; exact hP9, va_K.moved hW.alike hK9, hD9⟩⟩, hS.F ht⟩) hS.2.2 dX8_add_29
set_option maxHeartbeats 4000000 in
set_option maxRecDepth 100000 in
theorem c_X8_add_2 (l : Launch) (dC : Nat → ClassId) (dI : Nat → Nat → Nat) (sz : Nat) (h0 : Nat) (q : Nat → Nat) (cq : Nat → ClassId) (f : Nat → Int32) (v : Int32) : Met l yX8_add wsX8_add ({ frames := 0, cells := 0, slots := 0, locals := 0 }) (va_Pc [.ref (q 9), .int v] (pcW (dC, dI) [((cq 90), .int)] [((q 9), .inr (8, [.ref (q 90), .int 2, .ref (q 91), .int 0, .int 0, .int 0])), ((q 90), .inl ((cq 90), 60, .inl f))] sz)) (va_Qv (fun (u : (Nat → Int32)) => True) (fun u t => va_P (dC, dI) vwCl [((q 9), .inr (8, [.ref (q 90), .int 3, .ref (q 91), .int 0, .int 0, .int 0])), ((q 90), .inl ((cq 90), 60, .inl u))] t.heap ∧ va_K (dC, dI) vwCl [((cq 90), .int)] t ∧ va_D (va_A [((q 9), .inr (8, [.ref (q 90), .int 2, .ref (q 91), .int 0, .int 0, .int 0])), ((q 90), .inl ((cq 90), 60, .inl f))] sz) [((q 9), .inr (8, [.ref (q 90), .int 3, .ref (q 91), .int 0, .int 0, .int 0])), ((q 90), .inl ((cq 90), 60, .inl u))]) (va_A [((q 9), .inr (8, [.ref (q 90), .int 2, .ref (q 91), .int 0, .int 0, .int 0])), ((q 90), .inl ((cq 90), 60, .inl f))] sz)) 0 0 (va_A [((q 9), .inr (8, [.ref (q 90), .int 2, .ref (q 91), .int 0, .int 0, .int 0])), ((q 90), .inl ((cq 90), 60, .inl f))] sz) := by
  refine Met.ofW (cc := cX8_add) (maxL := 2) (ret := none) (by decide) rfl ?_
  intro p e s m args below meth c s₁ B hml hv
  obtain ⟨rfl, hsz, hP, hK, hD0⟩ := hv
  have hx := B.exec
  have hb := B.bytes
  have hr := B.returns
  have hts := atoms_spec (ws := wsX8_add) B.pre
  have hown : s.vm.findClass RX8 = some m.cls := findClass_of_methodNamed B.named
  have hlocks := B.notSynchronized
  subst hsz
  have hD := hD0.self (sz := s.heap.size)
  generalize hAe : va_A [((q 9), .inr (8, [.ref (q 90), .int 2, .ref (q 91), .int 0, .int 0, .int 0])), ((q 90), .inl ((cq 90), 60, .inl f))] s.heap.size = A at hD ⊢
  have hA : ∀ q : Nat, s.heap.size ≤ q → A q := fun q h => by rw [← hAe]; exact Or.inr h
  have hS : va_S A s.heap s.heap [] := va_S.rf
  have hP : va_P (dC, dI) vwCl [((q 9), .inr (8, [.ref (q 90), .int 2, .ref (q 91), .int 0, .int 0, .int 0])), ((q 90), .inl ((cq 90), 60, .inl f))] s.heap := hP
  have hl := lv_entry ([.ref (q 9), .int v]) (n := 2) (Nat.le_of_ble_eq_true rfl)
  rw [lg_entry_eq]
  generalize (lg_sl ([.ref (q 9), .int v]) ++ List.replicate (2 - (lg_sl ([.ref (q 9), .int v])).length) Slot.unset).toArray = ls at hl ⊢
  have hl : lv_has ls 2 [(0, .ref (q 9)), (1, .int v)] := hl
  refine lv_aload_n hx hb dX8_add_0 rfl (lv_at hl 0 rfl) ?_
  refine va_get (D := (dC, dI)) (ci := 8) (v := .int 2) (C := RX8) (T := TX8) (N := 6) hx hb hts in_wsX8_add_X8 hown hK hP 0 rfl rfl 1 (by decide) (hts (.fieldLink RX8 18 "ShipOffice$Tape" "size" "I") (by decide +kernel)) (fun _ h9 => h9) rfl dX8_add_1 ?_
  refine lv_bipush (v := 60) hx hb dX8_add_4 (by decide) ?_
  refine lv_icmp_ge (tgt := 29) hx hb dX8_add_6 (by decide) (fun c_1 => absurd c_1 (by decide)) (fun _ => ?_)
  refine lv_aload_n hx hb dX8_add_9 rfl (lv_at hl 0 rfl) ?_
  refine va_get (D := (dC, dI)) (ci := 8) (v := .ref (q 90)) (C := RX8) (T := TX8) (N := 6) hx hb hts in_wsX8_add_X8 hown hK hP 0 rfl rfl 0 (by decide) (hts (.fieldLink RX8 9 "ShipOffice$Tape" "bytes" "[I") (by decide +kernel)) (fun _ h9 => h9) rfl dX8_add_10 ?_
  refine lv_aload_n hx hb dX8_add_13 rfl (lv_at hl 0 rfl) ?_
  refine va_get (D := (dC, dI)) (ci := 8) (v := .int 2) (C := RX8) (T := TX8) (N := 6) hx hb hts in_wsX8_add_X8 hown hK hP 0 rfl rfl 1 (by decide) (hts (.fieldLink RX8 18 "ShipOffice$Tape" "size" "I") (by decide +kernel)) (fun _ h9 => h9) rfl dX8_add_14 ?_
  refine lv_iload_n hx hb dX8_add_17 rfl (lv_at hl 1 rfl) ?_
  refine va_iast hx hb hK hP hD hS 1 0 rfl rfl (by unfold vp_in; decide) dX8_add_18 (fun H locs hP hD hS => ?_)
  have hP : va_P (dC, dI) vwCl [((q 9), .inr (8, [.ref (q 90), .int 2, .ref (q 91), .int 0, .int 0, .int 0])), ((q 90), .inl ((cq 90), 60, .inl (upd f (2 : Int32).toNatClampNeg v)))] H := hP
  have hD : va_D A [((q 9), .inr (8, [.ref (q 90), .int 2, .ref (q 91), .int 0, .int 0, .int 0])), ((q 90), .inl ((cq 90), 60, .inl (upd f (2 : Int32).toNatClampNeg v)))] := hD
  refine lv_aload_n hx hb dX8_add_19 rfl (lv_at hl 0 rfl) ?_
  refine lv_dup hx hb dX8_add_20 rfl ?_
  refine va_get (D := (dC, dI)) (ci := 8) (v := .int 2) (C := RX8) (T := TX8) (N := 6) hx hb hts in_wsX8_add_X8 hown hK hP 0 rfl rfl 1 (by decide) (hts (.fieldLink RX8 18 "ShipOffice$Tape" "size" "I") (by decide +kernel)) (fun _ h9 => h9) rfl dX8_add_21 ?_
  refine lv_iconst (v := 1) hx hb dX8_add_24 (by decide) ?_
  refine lv_iadd hx hb dX8_add_25 ?_
  refine lv_topi (fun y ey => ?_)
  obtain rfl : y = 3 := ey.trans (by decide)
  refine va_put (D := (dC, dI)) (ci := 8) (v := .int 3) (ty := .int) (C := RX8) (T := TX8) (N := 6) hx hb hts in_wsX8_add_X8 tyX8 tyX8_ok nmX8 hown hK hP hD hS 0 rfl rfl 1 (by decide) (hts (.fieldLink RX8 18 "ShipOffice$Tape" "size" "I") (by decide +kernel)) (fun _ h9 => h9) rfl (by decide +kernel) rfl rfl (Nat.le_of_ble_eq_true rfl) dX8_add_26 (fun H locs hP hD hS => ?_)
  have hP : va_P (dC, dI) vwCl [((q 9), .inr (8, [.ref (q 90), .int 3, .ref (q 91), .int 0, .int 0, .int 0])), ((q 90), .inl ((cq 90), 60, .inl (upd f (2 : Int32).toNatClampNeg v)))] H := hP
  have hD : va_D A [((q 9), .inr (8, [.ref (q 90), .int 3, .ref (q 91), .int 0, .int 0, .int 0])), ((q 90), .inl ((cq 90), 60, .inl (upd f (2 : Int32).toNatClampNeg v)))] := hD
  have hP9 := hP.sub (ws' := [((q 9), .inr (8, [.ref (q 90), .int 3, .ref (q 91), .int 0, .int 0, .int 0])), ((q 90), .inl ((cq 90), 60, .inl (upd f (2 : Int32).toNatClampNeg v)))]) [0, 1] rfl
  have hD9 := hD.sub (ws' := [((q 9), .inr (8, [.ref (q 90), .int 3, .ref (q 91), .int 0, .int 0, .int 0])), ((q 90), .inl ((cq 90), 60, .inl (upd f (2 : Int32).toNatClampNeg v)))]) [0, 1] (by decide) rfl
  have hK9 := hK.sub (tys' := [((cq 90), .int)]) [0] rfl
  subst hAe
  exact W.vret hx hb hr (fun t ht hW => ⟨⟨(upd f (2 : Int32).toNatClampNeg v), rfl, trivial, ⟨by rw [ht]; exact hP9, va_K.moved hW.alike hK9, hD9⟩⟩, hS.F ht⟩) hS.2.2 dX8_add_29
set_option maxHeartbeats 4000000 in
set_option maxRecDepth 100000 in
theorem c_X8_add_3 (l : Launch) (dC : Nat → ClassId) (dI : Nat → Nat → Nat) (sz : Nat) (h0 : Nat) (q : Nat → Nat) (cq : Nat → ClassId) (f : Nat → Int32) (v : Int32) : Met l yX8_add wsX8_add ({ frames := 0, cells := 0, slots := 0, locals := 0 }) (va_Pc [.ref (q 9), .int v] (pcW (dC, dI) [((cq 90), .int)] [((q 9), .inr (8, [.ref (q 90), .int 3, .ref (q 91), .int 0, .int 0, .int 0])), ((q 90), .inl ((cq 90), 60, .inl f))] sz)) (va_Qv (fun (u : (Nat → Int32)) => True) (fun u t => va_P (dC, dI) vwCl [((q 9), .inr (8, [.ref (q 90), .int 4, .ref (q 91), .int 0, .int 0, .int 0])), ((q 90), .inl ((cq 90), 60, .inl u))] t.heap ∧ va_K (dC, dI) vwCl [((cq 90), .int)] t ∧ va_D (va_A [((q 9), .inr (8, [.ref (q 90), .int 3, .ref (q 91), .int 0, .int 0, .int 0])), ((q 90), .inl ((cq 90), 60, .inl f))] sz) [((q 9), .inr (8, [.ref (q 90), .int 4, .ref (q 91), .int 0, .int 0, .int 0])), ((q 90), .inl ((cq 90), 60, .inl u))]) (va_A [((q 9), .inr (8, [.ref (q 90), .int 3, .ref (q 91), .int 0, .int 0, .int 0])), ((q 90), .inl ((cq 90), 60, .inl f))] sz)) 0 0 (va_A [((q 9), .inr (8, [.ref (q 90), .int 3, .ref (q 91), .int 0, .int 0, .int 0])), ((q 90), .inl ((cq 90), 60, .inl f))] sz) := by
  refine Met.ofW (cc := cX8_add) (maxL := 2) (ret := none) (by decide) rfl ?_
  intro p e s m args below meth c s₁ B hml hv
  obtain ⟨rfl, hsz, hP, hK, hD0⟩ := hv
  have hx := B.exec
  have hb := B.bytes
  have hr := B.returns
  have hts := atoms_spec (ws := wsX8_add) B.pre
  have hown : s.vm.findClass RX8 = some m.cls := findClass_of_methodNamed B.named
  have hlocks := B.notSynchronized
  subst hsz
  have hD := hD0.self (sz := s.heap.size)
  generalize hAe : va_A [((q 9), .inr (8, [.ref (q 90), .int 3, .ref (q 91), .int 0, .int 0, .int 0])), ((q 90), .inl ((cq 90), 60, .inl f))] s.heap.size = A at hD ⊢
  have hA : ∀ q : Nat, s.heap.size ≤ q → A q := fun q h => by rw [← hAe]; exact Or.inr h
  have hS : va_S A s.heap s.heap [] := va_S.rf
  have hP : va_P (dC, dI) vwCl [((q 9), .inr (8, [.ref (q 90), .int 3, .ref (q 91), .int 0, .int 0, .int 0])), ((q 90), .inl ((cq 90), 60, .inl f))] s.heap := hP
  have hl := lv_entry ([.ref (q 9), .int v]) (n := 2) (Nat.le_of_ble_eq_true rfl)
  rw [lg_entry_eq]
  generalize (lg_sl ([.ref (q 9), .int v]) ++ List.replicate (2 - (lg_sl ([.ref (q 9), .int v])).length) Slot.unset).toArray = ls at hl ⊢
  have hl : lv_has ls 2 [(0, .ref (q 9)), (1, .int v)] := hl
  refine lv_aload_n hx hb dX8_add_0 rfl (lv_at hl 0 rfl) ?_
  refine va_get (D := (dC, dI)) (ci := 8) (v := .int 3) (C := RX8) (T := TX8) (N := 6) hx hb hts in_wsX8_add_X8 hown hK hP 0 rfl rfl 1 (by decide) (hts (.fieldLink RX8 18 "ShipOffice$Tape" "size" "I") (by decide +kernel)) (fun _ h9 => h9) rfl dX8_add_1 ?_
  refine lv_bipush (v := 60) hx hb dX8_add_4 (by decide) ?_
  refine lv_icmp_ge (tgt := 29) hx hb dX8_add_6 (by decide) (fun c_1 => absurd c_1 (by decide)) (fun _ => ?_)
  refine lv_aload_n hx hb dX8_add_9 rfl (lv_at hl 0 rfl) ?_
  refine va_get (D := (dC, dI)) (ci := 8) (v := .ref (q 90)) (C := RX8) (T := TX8) (N := 6) hx hb hts in_wsX8_add_X8 hown hK hP 0 rfl rfl 0 (by decide) (hts (.fieldLink RX8 9 "ShipOffice$Tape" "bytes" "[I") (by decide +kernel)) (fun _ h9 => h9) rfl dX8_add_10 ?_
  refine lv_aload_n hx hb dX8_add_13 rfl (lv_at hl 0 rfl) ?_
  refine va_get (D := (dC, dI)) (ci := 8) (v := .int 3) (C := RX8) (T := TX8) (N := 6) hx hb hts in_wsX8_add_X8 hown hK hP 0 rfl rfl 1 (by decide) (hts (.fieldLink RX8 18 "ShipOffice$Tape" "size" "I") (by decide +kernel)) (fun _ h9 => h9) rfl dX8_add_14 ?_
  refine lv_iload_n hx hb dX8_add_17 rfl (lv_at hl 1 rfl) ?_
  refine va_iast hx hb hK hP hD hS 1 0 rfl rfl (by unfold vp_in; decide) dX8_add_18 (fun H locs hP hD hS => ?_)
  have hP : va_P (dC, dI) vwCl [((q 9), .inr (8, [.ref (q 90), .int 3, .ref (q 91), .int 0, .int 0, .int 0])), ((q 90), .inl ((cq 90), 60, .inl (upd f (3 : Int32).toNatClampNeg v)))] H := hP
  have hD : va_D A [((q 9), .inr (8, [.ref (q 90), .int 3, .ref (q 91), .int 0, .int 0, .int 0])), ((q 90), .inl ((cq 90), 60, .inl (upd f (3 : Int32).toNatClampNeg v)))] := hD
  refine lv_aload_n hx hb dX8_add_19 rfl (lv_at hl 0 rfl) ?_
  refine lv_dup hx hb dX8_add_20 rfl ?_
  refine va_get (D := (dC, dI)) (ci := 8) (v := .int 3) (C := RX8) (T := TX8) (N := 6) hx hb hts in_wsX8_add_X8 hown hK hP 0 rfl rfl 1 (by decide) (hts (.fieldLink RX8 18 "ShipOffice$Tape" "size" "I") (by decide +kernel)) (fun _ h9 => h9) rfl dX8_add_21 ?_
  refine lv_iconst (v := 1) hx hb dX8_add_24 (by decide) ?_
  refine lv_iadd hx hb dX8_add_25 ?_
  refine lv_topi (fun y ey => ?_)
  obtain rfl : y = 4 := ey.trans (by decide)
  refine va_put (D := (dC, dI)) (ci := 8) (v := .int 4) (ty := .int) (C := RX8) (T := TX8) (N := 6) hx hb hts in_wsX8_add_X8 tyX8 tyX8_ok nmX8 hown hK hP hD hS 0 rfl rfl 1 (by decide) (hts (.fieldLink RX8 18 "ShipOffice$Tape" "size" "I") (by decide +kernel)) (fun _ h9 => h9) rfl (by decide +kernel) rfl rfl (Nat.le_of_ble_eq_true rfl) dX8_add_26 (fun H locs hP hD hS => ?_)
  have hP : va_P (dC, dI) vwCl [((q 9), .inr (8, [.ref (q 90), .int 4, .ref (q 91), .int 0, .int 0, .int 0])), ((q 90), .inl ((cq 90), 60, .inl (upd f (3 : Int32).toNatClampNeg v)))] H := hP
  have hD : va_D A [((q 9), .inr (8, [.ref (q 90), .int 4, .ref (q 91), .int 0, .int 0, .int 0])), ((q 90), .inl ((cq 90), 60, .inl (upd f (3 : Int32).toNatClampNeg v)))] := hD
  have hP9 := hP.sub (ws' := [((q 9), .inr (8, [.ref (q 90), .int 4, .ref (q 91), .int 0, .int 0, .int 0])), ((q 90), .inl ((cq 90), 60, .inl (upd f (3 : Int32).toNatClampNeg v)))]) [0, 1] rfl
  have hD9 := hD.sub (ws' := [((q 9), .inr (8, [.ref (q 90), .int 4, .ref (q 91), .int 0, .int 0, .int 0])), ((q 90), .inl ((cq 90), 60, .inl (upd f (3 : Int32).toNatClampNeg v)))]) [0, 1] (by decide) rfl
  have hK9 := hK.sub (tys' := [((cq 90), .int)]) [0] rfl
  subst hAe
  exact W.vret hx hb hr (fun t ht hW => ⟨⟨(upd f (3 : Int32).toNatClampNeg v), rfl, trivial, ⟨by rw [ht]; exact hP9, va_K.moved hW.alike hK9, hD9⟩⟩, hS.F ht⟩) hS.2.2 dX8_add_29
set_option maxHeartbeats 4000000 in
set_option maxRecDepth 100000 in
theorem c_X8_add_4 (l : Launch) (dC : Nat → ClassId) (dI : Nat → Nat → Nat) (sz : Nat) (h0 : Nat) (q : Nat → Nat) (cq : Nat → ClassId) (f : Nat → Int32) (v : Int32) : Met l yX8_add wsX8_add ({ frames := 0, cells := 0, slots := 0, locals := 0 }) (va_Pc [.ref (q 9), .int v] (pcW (dC, dI) [((cq 90), .int)] [((q 9), .inr (8, [.ref (q 90), .int 4, .ref (q 91), .int 0, .int 0, .int 0])), ((q 90), .inl ((cq 90), 60, .inl f))] sz)) (va_Qv (fun (u : (Nat → Int32)) => True) (fun u t => va_P (dC, dI) vwCl [((q 9), .inr (8, [.ref (q 90), .int 5, .ref (q 91), .int 0, .int 0, .int 0])), ((q 90), .inl ((cq 90), 60, .inl u))] t.heap ∧ va_K (dC, dI) vwCl [((cq 90), .int)] t ∧ va_D (va_A [((q 9), .inr (8, [.ref (q 90), .int 4, .ref (q 91), .int 0, .int 0, .int 0])), ((q 90), .inl ((cq 90), 60, .inl f))] sz) [((q 9), .inr (8, [.ref (q 90), .int 5, .ref (q 91), .int 0, .int 0, .int 0])), ((q 90), .inl ((cq 90), 60, .inl u))]) (va_A [((q 9), .inr (8, [.ref (q 90), .int 4, .ref (q 91), .int 0, .int 0, .int 0])), ((q 90), .inl ((cq 90), 60, .inl f))] sz)) 0 0 (va_A [((q 9), .inr (8, [.ref (q 90), .int 4, .ref (q 91), .int 0, .int 0, .int 0])), ((q 90), .inl ((cq 90), 60, .inl f))] sz) := by
  refine Met.ofW (cc := cX8_add) (maxL := 2) (ret := none) (by decide) rfl ?_
  intro p e s m args below meth c s₁ B hml hv
  obtain ⟨rfl, hsz, hP, hK, hD0⟩ := hv
  have hx := B.exec
  have hb := B.bytes
  have hr := B.returns
  have hts := atoms_spec (ws := wsX8_add) B.pre
  have hown : s.vm.findClass RX8 = some m.cls := findClass_of_methodNamed B.named
  have hlocks := B.notSynchronized
  subst hsz
  have hD := hD0.self (sz := s.heap.size)
  generalize hAe : va_A [((q 9), .inr (8, [.ref (q 90), .int 4, .ref (q 91), .int 0, .int 0, .int 0])), ((q 90), .inl ((cq 90), 60, .inl f))] s.heap.size = A at hD ⊢
  have hA : ∀ q : Nat, s.heap.size ≤ q → A q := fun q h => by rw [← hAe]; exact Or.inr h
  have hS : va_S A s.heap s.heap [] := va_S.rf
  have hP : va_P (dC, dI) vwCl [((q 9), .inr (8, [.ref (q 90), .int 4, .ref (q 91), .int 0, .int 0, .int 0])), ((q 90), .inl ((cq 90), 60, .inl f))] s.heap := hP
  have hl := lv_entry ([.ref (q 9), .int v]) (n := 2) (Nat.le_of_ble_eq_true rfl)
  rw [lg_entry_eq]
  generalize (lg_sl ([.ref (q 9), .int v]) ++ List.replicate (2 - (lg_sl ([.ref (q 9), .int v])).length) Slot.unset).toArray = ls at hl ⊢
  have hl : lv_has ls 2 [(0, .ref (q 9)), (1, .int v)] := hl
  refine lv_aload_n hx hb dX8_add_0 rfl (lv_at hl 0 rfl) ?_
  refine va_get (D := (dC, dI)) (ci := 8) (v := .int 4) (C := RX8) (T := TX8) (N := 6) hx hb hts in_wsX8_add_X8 hown hK hP 0 rfl rfl 1 (by decide) (hts (.fieldLink RX8 18 "ShipOffice$Tape" "size" "I") (by decide +kernel)) (fun _ h9 => h9) rfl dX8_add_1 ?_
  refine lv_bipush (v := 60) hx hb dX8_add_4 (by decide) ?_
  refine lv_icmp_ge (tgt := 29) hx hb dX8_add_6 (by decide) (fun c_1 => absurd c_1 (by decide)) (fun _ => ?_)
  refine lv_aload_n hx hb dX8_add_9 rfl (lv_at hl 0 rfl) ?_
  refine va_get (D := (dC, dI)) (ci := 8) (v := .ref (q 90)) (C := RX8) (T := TX8) (N := 6) hx hb hts in_wsX8_add_X8 hown hK hP 0 rfl rfl 0 (by decide) (hts (.fieldLink RX8 9 "ShipOffice$Tape" "bytes" "[I") (by decide +kernel)) (fun _ h9 => h9) rfl dX8_add_10 ?_
  refine lv_aload_n hx hb dX8_add_13 rfl (lv_at hl 0 rfl) ?_
  refine va_get (D := (dC, dI)) (ci := 8) (v := .int 4) (C := RX8) (T := TX8) (N := 6) hx hb hts in_wsX8_add_X8 hown hK hP 0 rfl rfl 1 (by decide) (hts (.fieldLink RX8 18 "ShipOffice$Tape" "size" "I") (by decide +kernel)) (fun _ h9 => h9) rfl dX8_add_14 ?_
  refine lv_iload_n hx hb dX8_add_17 rfl (lv_at hl 1 rfl) ?_
  refine va_iast hx hb hK hP hD hS 1 0 rfl rfl (by unfold vp_in; decide) dX8_add_18 (fun H locs hP hD hS => ?_)
  have hP : va_P (dC, dI) vwCl [((q 9), .inr (8, [.ref (q 90), .int 4, .ref (q 91), .int 0, .int 0, .int 0])), ((q 90), .inl ((cq 90), 60, .inl (upd f (4 : Int32).toNatClampNeg v)))] H := hP
  have hD : va_D A [((q 9), .inr (8, [.ref (q 90), .int 4, .ref (q 91), .int 0, .int 0, .int 0])), ((q 90), .inl ((cq 90), 60, .inl (upd f (4 : Int32).toNatClampNeg v)))] := hD
  refine lv_aload_n hx hb dX8_add_19 rfl (lv_at hl 0 rfl) ?_
  refine lv_dup hx hb dX8_add_20 rfl ?_
  refine va_get (D := (dC, dI)) (ci := 8) (v := .int 4) (C := RX8) (T := TX8) (N := 6) hx hb hts in_wsX8_add_X8 hown hK hP 0 rfl rfl 1 (by decide) (hts (.fieldLink RX8 18 "ShipOffice$Tape" "size" "I") (by decide +kernel)) (fun _ h9 => h9) rfl dX8_add_21 ?_
  refine lv_iconst (v := 1) hx hb dX8_add_24 (by decide) ?_
  refine lv_iadd hx hb dX8_add_25 ?_
  refine lv_topi (fun y ey => ?_)
  obtain rfl : y = 5 := ey.trans (by decide)
  refine va_put (D := (dC, dI)) (ci := 8) (v := .int 5) (ty := .int) (C := RX8) (T := TX8) (N := 6) hx hb hts in_wsX8_add_X8 tyX8 tyX8_ok nmX8 hown hK hP hD hS 0 rfl rfl 1 (by decide) (hts (.fieldLink RX8 18 "ShipOffice$Tape" "size" "I") (by decide +kernel)) (fun _ h9 => h9) rfl (by decide +kernel) rfl rfl (Nat.le_of_ble_eq_true rfl) dX8_add_26 (fun H locs hP hD hS => ?_)
  have hP : va_P (dC, dI) vwCl [((q 9), .inr (8, [.ref (q 90), .int 5, .ref (q 91), .int 0, .int 0, .int 0])), ((q 90), .inl ((cq 90), 60, .inl (upd f (4 : Int32).toNatClampNeg v)))] H := hP
  have hD : va_D A [((q 9), .inr (8, [.ref (q 90), .int 5, .ref (q 91), .int 0, .int 0, .int 0])), ((q 90), .inl ((cq 90), 60, .inl (upd f (4 : Int32).toNatClampNeg v)))] := hD
  have hP9 := hP.sub (ws' := [((q 9), .inr (8, [.ref (q 90), .int 5, .ref (q 91), .int 0, .int 0, .int 0])), ((q 90), .inl ((cq 90), 60, .inl (upd f (4 : Int32).toNatClampNeg v)))]) [0, 1] rfl
  have hD9 := hD.sub (ws' := [((q 9), .inr (8, [.ref (q 90), .int 5, .ref (q 91), .int 0, .int 0, .int 0])), ((q 90), .inl ((cq 90), 60, .inl (upd f (4 : Int32).toNatClampNeg v)))]) [0, 1] (by decide) rfl
  have hK9 := hK.sub (tys' := [((cq 90), .int)]) [0] rfl
  subst hAe
  exact W.vret hx hb hr (fun t ht hW => ⟨⟨(upd f (4 : Int32).toNatClampNeg v), rfl, trivial, ⟨by rw [ht]; exact hP9, va_K.moved hW.alike hK9, hD9⟩⟩, hS.F ht⟩) hS.2.2 dX8_add_29
set_option maxHeartbeats 4000000 in
set_option maxRecDepth 100000 in
theorem c_X8_add_5 (l : Launch) (dC : Nat → ClassId) (dI : Nat → Nat → Nat) (sz : Nat) (h0 : Nat) (q : Nat → Nat) (cq : Nat → ClassId) (f : Nat → Int32) (v : Int32) : Met l yX8_add wsX8_add ({ frames := 0, cells := 0, slots := 0, locals := 0 }) (va_Pc [.ref (q 9), .int v] (pcW (dC, dI) [((cq 90), .int)] [((q 9), .inr (8, [.ref (q 90), .int 5, .ref (q 91), .int 0, .int 0, .int 0])), ((q 90), .inl ((cq 90), 60, .inl f))] sz)) (va_Qv (fun (u : (Nat → Int32)) => True) (fun u t => va_P (dC, dI) vwCl [((q 9), .inr (8, [.ref (q 90), .int 6, .ref (q 91), .int 0, .int 0, .int 0])), ((q 90), .inl ((cq 90), 60, .inl u))] t.heap ∧ va_K (dC, dI) vwCl [((cq 90), .int)] t ∧ va_D (va_A [((q 9), .inr (8, [.ref (q 90), .int 5, .ref (q 91), .int 0, .int 0, .int 0])), ((q 90), .inl ((cq 90), 60, .inl f))] sz) [((q 9), .inr (8, [.ref (q 90), .int 6, .ref (q 91), .int 0, .int 0, .int 0])), ((q 90), .inl ((cq 90), 60, .inl u))]) (va_A [((q 9), .inr (8, [.ref (q 90), .int 5, .ref (q 91), .int 0, .int 0, .int 0])), ((q 90), .inl ((cq 90), 60, .inl f))] sz)) 0 0 (va_A [((q 9), .inr (8, [.ref (q 90), .int 5, .ref (q 91), .int 0, .int 0, .int 0])), ((q 90), .inl ((cq 90), 60, .inl f))] sz) := by
  refine Met.ofW (cc := cX8_add) (maxL := 2) (ret := none) (by decide) rfl ?_
  intro p e s m args below meth c s₁ B hml hv
  obtain ⟨rfl, hsz, hP, hK, hD0⟩ := hv
  have hx := B.exec
  have hb := B.bytes
  have hr := B.returns
  have hts := atoms_spec (ws := wsX8_add) B.pre
  have hown : s.vm.findClass RX8 = some m.cls := findClass_of_methodNamed B.named
  have hlocks := B.notSynchronized
  subst hsz
  have hD := hD0.self (sz := s.heap.size)
  generalize hAe : va_A [((q 9), .inr (8, [.ref (q 90), .int 5, .ref (q 91), .int 0, .int 0, .int 0])), ((q 90), .inl ((cq 90), 60, .inl f))] s.heap.size = A at hD ⊢
  have hA : ∀ q : Nat, s.heap.size ≤ q → A q := fun q h => by rw [← hAe]; exact Or.inr h
  have hS : va_S A s.heap s.heap [] := va_S.rf
  have hP : va_P (dC, dI) vwCl [((q 9), .inr (8, [.ref (q 90), .int 5, .ref (q 91), .int 0, .int 0, .int 0])), ((q 90), .inl ((cq 90), 60, .inl f))] s.heap := hP
  have hl := lv_entry ([.ref (q 9), .int v]) (n := 2) (Nat.le_of_ble_eq_true rfl)
  rw [lg_entry_eq]
  generalize (lg_sl ([.ref (q 9), .int v]) ++ List.replicate (2 - (lg_sl ([.ref (q 9), .int v])).length) Slot.unset).toArray = ls at hl ⊢
  have hl : lv_has ls 2 [(0, .ref (q 9)), (1, .int v)] := hl
  refine lv_aload_n hx hb dX8_add_0 rfl (lv_at hl 0 rfl) ?_
  refine va_get (D := (dC, dI)) (ci := 8) (v := .int 5) (C := RX8) (T := TX8) (N := 6) hx hb hts in_wsX8_add_X8 hown hK hP 0 rfl rfl 1 (by decide) (hts (.fieldLink RX8 18 "ShipOffice$Tape" "size" "I") (by decide +kernel)) (fun _ h9 => h9) rfl dX8_add_1 ?_
  refine lv_bipush (v := 60) hx hb dX8_add_4 (by decide) ?_
  refine lv_icmp_ge (tgt := 29) hx hb dX8_add_6 (by decide) (fun c_1 => absurd c_1 (by decide)) (fun _ => ?_)
  refine lv_aload_n hx hb dX8_add_9 rfl (lv_at hl 0 rfl) ?_
  refine va_get (D := (dC, dI)) (ci := 8) (v := .ref (q 90)) (C := RX8) (T := TX8) (N := 6) hx hb hts in_wsX8_add_X8 hown hK hP 0 rfl rfl 0 (by decide) (hts (.fieldLink RX8 9 "ShipOffice$Tape" "bytes" "[I") (by decide +kernel)) (fun _ h9 => h9) rfl dX8_add_10 ?_
  refine lv_aload_n hx hb dX8_add_13 rfl (lv_at hl 0 rfl) ?_
  refine va_get (D := (dC, dI)) (ci := 8) (v := .int 5) (C := RX8) (T := TX8) (N := 6) hx hb hts in_wsX8_add_X8 hown hK hP 0 rfl rfl 1 (by decide) (hts (.fieldLink RX8 18 "ShipOffice$Tape" "size" "I") (by decide +kernel)) (fun _ h9 => h9) rfl dX8_add_14 ?_
  refine lv_iload_n hx hb dX8_add_17 rfl (lv_at hl 1 rfl) ?_
  refine va_iast hx hb hK hP hD hS 1 0 rfl rfl (by unfold vp_in; decide) dX8_add_18 (fun H locs hP hD hS => ?_)
  have hP : va_P (dC, dI) vwCl [((q 9), .inr (8, [.ref (q 90), .int 5, .ref (q 91), .int 0, .int 0, .int 0])), ((q 90), .inl ((cq 90), 60, .inl (upd f (5 : Int32).toNatClampNeg v)))] H := hP
  have hD : va_D A [((q 9), .inr (8, [.ref (q 90), .int 5, .ref (q 91), .int 0, .int 0, .int 0])), ((q 90), .inl ((cq 90), 60, .inl (upd f (5 : Int32).toNatClampNeg v)))] := hD
  refine lv_aload_n hx hb dX8_add_19 rfl (lv_at hl 0 rfl) ?_
  refine lv_dup hx hb dX8_add_20 rfl ?_
  refine va_get (D := (dC, dI)) (ci := 8) (v := .int 5) (C := RX8) (T := TX8) (N := 6) hx hb hts in_wsX8_add_X8 hown hK hP 0 rfl rfl 1 (by decide) (hts (.fieldLink RX8 18 "ShipOffice$Tape" "size" "I") (by decide +kernel)) (fun _ h9 => h9) rfl dX8_add_21 ?_
  refine lv_iconst (v := 1) hx hb dX8_add_24 (by decide) ?_
  refine lv_iadd hx hb dX8_add_25 ?_
  refine lv_topi (fun y ey => ?_)
  obtain rfl : y = 6 := ey.trans (by decide)
  refine va_put (D := (dC, dI)) (ci := 8) (v := .int 6) (ty := .int) (C := RX8) (T := TX8) (N := 6) hx hb hts in_wsX8_add_X8 tyX8 tyX8_ok nmX8 hown hK hP hD hS 0 rfl rfl 1 (by decide) (hts (.fieldLink RX8 18 "ShipOffice$Tape" "size" "I") (by decide +kernel)) (fun _ h9 => h9) rfl (by decide +kernel) rfl rfl (Nat.le_of_ble_eq_true rfl) dX8_add_26 (fun H locs hP hD hS => ?_)
  have hP : va_P (dC, dI) vwCl [((q 9), .inr (8, [.ref (q 90), .int 6, .ref (q 91), .int 0, .int 0, .int 0])), ((q 90), .inl ((cq 90), 60, .inl (upd f (5 : Int32).toNatClampNeg v)))] H := hP
  have hD : va_D A [((q 9), .inr (8, [.ref (q 90), .int 6, .ref (q 91), .int 0, .int 0, .int 0])), ((q 90), .inl ((cq 90), 60, .inl (upd f (5 : Int32).toNatClampNeg v)))] := hD
  have hP9 := hP.sub (ws' := [((q 9), .inr (8, [.ref (q 90), .int 6, .ref (q 91), .int 0, .int 0, .int 0])), ((q 90), .inl ((cq 90), 60, .inl (upd f (5 : Int32).toNatClampNeg v)))]) [0, 1] rfl
  have hD9 := hD.sub (ws' := [((q 9), .inr (8, [.ref (q 90), .int 6, .ref (q 91), .int 0, .int 0, .int 0])), ((q 90), .inl ((cq 90), 60, .inl (upd f (5 : Int32).toNatClampNeg v)))]) [0, 1] (by decide) rfl
  have hK9 := hK.sub (tys' := [((cq 90), .int)]) [0] rfl
  subst hAe
  exact W.vret hx hb hr (fun t ht hW => ⟨⟨(upd f (5 : Int32).toNatClampNeg v), rfl, trivial, ⟨by rw [ht]; exact hP9, va_K.moved hW.alike hK9, hD9⟩⟩, hS.F ht⟩) hS.2.2 dX8_add_29
set_option maxHeartbeats 4000000 in
set_option maxRecDepth 100000 in
theorem c_X8_add_6 (l : Launch) (dC : Nat → ClassId) (dI : Nat → Nat → Nat) (sz : Nat) (h0 : Nat) (q : Nat → Nat) (cq : Nat → ClassId) (f : Nat → Int32) (v : Int32) : Met l yX8_add wsX8_add ({ frames := 0, cells := 0, slots := 0, locals := 0 }) (va_Pc [.ref (q 9), .int v] (pcW (dC, dI) [((cq 90), .int)] [((q 9), .inr (8, [.ref (q 90), .int 6, .ref (q 91), .int 0, .int 0, .int 0])), ((q 90), .inl ((cq 90), 60, .inl f))] sz)) (va_Qv (fun (u : (Nat → Int32)) => True) (fun u t => va_P (dC, dI) vwCl [((q 9), .inr (8, [.ref (q 90), .int 7, .ref (q 91), .int 0, .int 0, .int 0])), ((q 90), .inl ((cq 90), 60, .inl u))] t.heap ∧ va_K (dC, dI) vwCl [((cq 90), .int)] t ∧ va_D (va_A [((q 9), .inr (8, [.ref (q 90), .int 6, .ref (q 91), .int 0, .int 0, .int 0])), ((q 90), .inl ((cq 90), 60, .inl f))] sz) [((q 9), .inr (8, [.ref (q 90), .int 7, .ref (q 91), .int 0, .int 0, .int 0])), ((q 90), .inl ((cq 90), 60, .inl u))]) (va_A [((q 9), .inr (8, [.ref (q 90), .int 6, .ref (q 91), .int 0, .int 0, .int 0])), ((q 90), .inl ((cq 90), 60, .inl f))] sz)) 0 0 (va_A [((q 9), .inr (8, [.ref (q 90), .int 6, .ref (q 91), .int 0, .int 0, .int 0])), ((q 90), .inl ((cq 90), 60, .inl f))] sz) := by
  refine Met.ofW (cc := cX8_add) (maxL := 2) (ret := none) (by decide) rfl ?_
  intro p e s m args below meth c s₁ B hml hv
  obtain ⟨rfl, hsz, hP, hK, hD0⟩ := hv
  have hx := B.exec
  have hb := B.bytes
  have hr := B.returns
  have hts := atoms_spec (ws := wsX8_add) B.pre
  have hown : s.vm.findClass RX8 = some m.cls := findClass_of_methodNamed B.named
  have hlocks := B.notSynchronized
  subst hsz
  have hD := hD0.self (sz := s.heap.size)
  generalize hAe : va_A [((q 9), .inr (8, [.ref (q 90), .int 6, .ref (q 91), .int 0, .int 0, .int 0])), ((q 90), .inl ((cq 90), 60, .inl f))] s.heap.size = A at hD ⊢
  have hA : ∀ q : Nat, s.heap.size ≤ q → A q := fun q h => by rw [← hAe]; exact Or.inr h
  have hS : va_S A s.heap s.heap [] := va_S.rf
  have hP : va_P (dC, dI) vwCl [((q 9), .inr (8, [.ref (q 90), .int 6, .ref (q 91), .int 0, .int 0, .int 0])), ((q 90), .inl ((cq 90), 60, .inl f))] s.heap := hP
  have hl := lv_entry ([.ref (q 9), .int v]) (n := 2) (Nat.le_of_ble_eq_true rfl)
  rw [lg_entry_eq]
  generalize (lg_sl ([.ref (q 9), .int v]) ++ List.replicate (2 - (lg_sl ([.ref (q 9), .int v])).length) Slot.unset).toArray = ls at hl ⊢
  have hl : lv_has ls 2 [(0, .ref (q 9)), (1, .int v)] := hl
  refine lv_aload_n hx hb dX8_add_0 rfl (lv_at hl 0 rfl) ?_
  refine va_get (D := (dC, dI)) (ci := 8) (v := .int 6) (C := RX8) (T := TX8) (N := 6) hx hb hts in_wsX8_add_X8 hown hK hP 0 rfl rfl 1 (by decide) (hts (.fieldLink RX8 18 "ShipOffice$Tape" "size" "I") (by decide +kernel)) (fun _ h9 => h9) rfl dX8_add_1 ?_
  refine lv_bipush (v := 60) hx hb dX8_add_4 (by decide) ?_
  refine lv_icmp_ge (tgt := 29) hx hb dX8_add_6 (by decide) (fun c_1 => absurd c_1 (by decide)) (fun _ => ?_)
  refine lv_aload_n hx hb dX8_add_9 rfl (lv_at hl 0 rfl) ?_
  refine va_get (D := (dC, dI)) (ci := 8) (v := .ref (q 90)) (C := RX8) (T := TX8) (N := 6) hx hb hts in_wsX8_add_X8 hown hK hP 0 rfl rfl 0 (by decide) (hts (.fieldLink RX8 9 "ShipOffice$Tape" "bytes" "[I") (by decide +kernel)) (fun _ h9 => h9) rfl dX8_add_10 ?_
  refine lv_aload_n hx hb dX8_add_13 rfl (lv_at hl 0 rfl) ?_
  refine va_get (D := (dC, dI)) (ci := 8) (v := .int 6) (C := RX8) (T := TX8) (N := 6) hx hb hts in_wsX8_add_X8 hown hK hP 0 rfl rfl 1 (by decide) (hts (.fieldLink RX8 18 "ShipOffice$Tape" "size" "I") (by decide +kernel)) (fun _ h9 => h9) rfl dX8_add_14 ?_
  refine lv_iload_n hx hb dX8_add_17 rfl (lv_at hl 1 rfl) ?_
  refine va_iast hx hb hK hP hD hS 1 0 rfl rfl (by unfold vp_in; decide) dX8_add_18 (fun H locs hP hD hS => ?_)
  have hP : va_P (dC, dI) vwCl [((q 9), .inr (8, [.ref (q 90), .int 6, .ref (q 91), .int 0, .int 0, .int 0])), ((q 90), .inl ((cq 90), 60, .inl (upd f (6 : Int32).toNatClampNeg v)))] H := hP
  have hD : va_D A [((q 9), .inr (8, [.ref (q 90), .int 6, .ref (q 91), .int 0, .int 0, .int 0])), ((q 90), .inl ((cq 90), 60, .inl (upd f (6 : Int32).toNatClampNeg v)))] := hD
  refine lv_aload_n hx hb dX8_add_19 rfl (lv_at hl 0 rfl) ?_
  refine lv_dup hx hb dX8_add_20 rfl ?_
  refine va_get (D := (dC, dI)) (ci := 8) (v := .int 6) (C := RX8) (T := TX8) (N := 6) hx hb hts in_wsX8_add_X8 hown hK hP 0 rfl rfl 1 (by decide) (hts (.fieldLink RX8 18 "ShipOffice$Tape" "size" "I") (by decide +kernel)) (fun _ h9 => h9) rfl dX8_add_21 ?_
  refine lv_iconst (v := 1) hx hb dX8_add_24 (by decide) ?_
  refine lv_iadd hx hb dX8_add_25 ?_
  refine lv_topi (fun y ey => ?_)
  obtain rfl : y = 7 := ey.trans (by decide)
  refine va_put (D := (dC, dI)) (ci := 8) (v := .int 7) (ty := .int) (C := RX8) (T := TX8) (N := 6) hx hb hts in_wsX8_add_X8 tyX8 tyX8_ok nmX8 hown hK hP hD hS 0 rfl rfl 1 (by decide) (hts (.fieldLink RX8 18 "ShipOffice$Tape" "size" "I") (by decide +kernel)) (fun _ h9 => h9) rfl (by decide +kernel) rfl rfl (Nat.le_of_ble_eq_true rfl) dX8_add_26 (fun H locs hP hD hS => ?_)
  have hP : va_P (dC, dI) vwCl [((q 9), .inr (8, [.ref (q 90), .int 7, .ref (q 91), .int 0, .int 0, .int 0])), ((q 90), .inl ((cq 90), 60, .inl (upd f (6 : Int32).toNatClampNeg v)))] H := hP
  have hD : va_D A [((q 9), .inr (8, [.ref (q 90), .int 7, .ref (q 91), .int 0, .int 0, .int 0])), ((q 90), .inl ((cq 90), 60, .inl (upd f (6 : Int32).toNatClampNeg v)))] := hD
  have hP9 := hP.sub (ws' := [((q 9), .inr (8, [.ref (q 90), .int 7, .ref (q 91), .int 0, .int 0, .int 0])), ((q 90), .inl ((cq 90), 60, .inl (upd f (6 : Int32).toNatClampNeg v)))]) [0, 1] rfl
  have hD9 := hD.sub (ws' := [((q 9), .inr (8, [.ref (q 90), .int 7, .ref (q 91), .int 0, .int 0, .int 0])), ((q 90), .inl ((cq 90), 60, .inl (upd f (6 : Int32).toNatClampNeg v)))]) [0, 1] (by decide) rfl
  have hK9 := hK.sub (tys' := [((cq 90), .int)]) [0] rfl
  subst hAe
  exact W.vret hx hb hr (fun t ht hW => ⟨⟨(upd f (6 : Int32).toNatClampNeg v), rfl, trivial, ⟨by rw [ht]; exact hP9, va_K.moved hW.alike hK9, hD9⟩⟩, hS.F ht⟩) hS.2.2 dX8_add_29
set_option maxHeartbeats 4000000 in
set_option maxRecDepth 100000 in
theorem c_X8_add_7 (l : Launch) (dC : Nat → ClassId) (dI : Nat → Nat → Nat) (sz : Nat) (h0 : Nat) (q : Nat → Nat) (cq : Nat → ClassId) (f : Nat → Int32) (v : Int32) : Met l yX8_add wsX8_add ({ frames := 0, cells := 0, slots := 0, locals := 0 }) (va_Pc [.ref (q 9), .int v] (pcW (dC, dI) [((cq 90), .int)] [((q 9), .inr (8, [.ref (q 90), .int 7, .ref (q 91), .int 0, .int 0, .int 0])), ((q 90), .inl ((cq 90), 60, .inl f))] sz)) (va_Qv (fun (u : (Nat → Int32)) => True) (fun u t => va_P (dC, dI) vwCl [((q 9), .inr (8, [.ref (q 90), .int 8, .ref (q 91), .int 0, .int 0, .int 0])), ((q 90), .inl ((cq 90), 60, .inl u))] t.heap ∧ va_K (dC, dI) vwCl [((cq 90), .int)] t ∧ va_D (va_A [((q 9), .inr (8, [.ref (q 90), .int 7, .ref (q 91), .int 0, .int 0, .int 0])), ((q 90), .inl ((cq 90), 60, .inl f))] sz) [((q 9), .inr (8, [.ref (q 90), .int 8, .ref (q 91), .int 0, .int 0, .int 0])), ((q 90), .inl ((cq 90), 60, .inl u))]) (va_A [((q 9), .inr (8, [.ref (q 90), .int 7, .ref (q 91), .int 0, .int 0, .int 0])), ((q 90), .inl ((cq 90), 60, .inl f))] sz)) 0 0 (va_A [((q 9), .inr (8, [.ref (q 90), .int 7, .ref (q 91), .int 0, .int 0, .int 0])), ((q 90), .inl ((cq 90), 60, .inl f))] sz) := by
  refine Met.ofW (cc := cX8_add) (maxL := 2) (ret := none) (by decide) rfl ?_
  intro p e s m args below meth c s₁ B hml hv
  obtain ⟨rfl, hsz, hP, hK, hD0⟩ := hv
  have hx := B.exec
  have hb := B.bytes
  have hr := B.returns
  have hts := atoms_spec (ws := wsX8_add) B.pre
  have hown : s.vm.findClass RX8 = some m.cls := findClass_of_methodNamed B.named
  have hlocks := B.notSynchronized
  subst hsz
  have hD := hD0.self (sz := s.heap.size)
  generalize hAe : va_A [((q 9), .inr (8, [.ref (q 90), .int 7, .ref (q 91), .int 0, .int 0, .int 0])), ((q 90), .inl ((cq 90), 60, .inl f))] s.heap.size = A at hD ⊢
  have hA : ∀ q : Nat, s.heap.size ≤ q → A q := fun q h => by rw [← hAe]; exact Or.inr h
  have hS : va_S A s.heap s.heap [] := va_S.rf
  have hP : va_P (dC, dI) vwCl [((q 9), .inr (8, [.ref (q 90), .int 7, .ref (q 91), .int 0, .int 0, .int 0])), ((q 90), .inl ((cq 90), 60, .inl f))] s.heap := hP
  have hl := lv_entry ([.ref (q 9), .int v]) (n := 2) (Nat.le_of_ble_eq_true rfl)
  rw [lg_entry_eq]
  generalize (lg_sl ([.ref (q 9), .int v]) ++ List.replicate (2 - (lg_sl ([.ref (q 9), .int v])).length) Slot.unset).toArray = ls at hl ⊢
  have hl : lv_has ls 2 [(0, .ref (q 9)), (1, .int v)] := hl
  refine lv_aload_n hx hb dX8_add_0 rfl (lv_at hl 0 rfl) ?_
  refine va_get (D := (dC, dI)) (ci := 8) (v := .int 7) (C := RX8) (T := TX8) (N := 6) hx hb hts in_wsX8_add_X8 hown hK hP 0 rfl rfl 1 (by decide) (hts (.fieldLink RX8 18 "ShipOffice$Tape" "size" "I") (by decide +kernel)) (fun _ h9 => h9) rfl dX8_add_1 ?_
  refine lv_bipush (v := 60) hx hb dX8_add_4 (by decide) ?_
  refine lv_icmp_ge (tgt := 29) hx hb dX8_add_6 (by decide) (fun c_1 => absurd c_1 (by decide)) (fun _ => ?_)
  refine lv_aload_n hx hb dX8_add_9 rfl (lv_at hl 0 rfl) ?_
  refine va_get (D := (dC, dI)) (ci := 8) (v := .ref (q 90)) (C := RX8) (T := TX8) (N := 6) hx hb hts in_wsX8_add_X8 hown hK hP 0 rfl rfl 0 (by decide) (hts (.fieldLink RX8 9 "ShipOffice$Tape" "bytes" "[I") (by decide +kernel)) (fun _ h9 => h9) rfl dX8_add_10 ?_
  refine lv_aload_n hx hb dX8_add_13 rfl (lv_at hl 0 rfl) ?_
  refine va_get (D := (dC, dI)) (ci := 8) (v := .int 7) (C := RX8) (T := TX8) (N := 6) hx hb hts in_wsX8_add_X8 hown hK hP 0 rfl rfl 1 (by decide) (hts (.fieldLink RX8 18 "ShipOffice$Tape" "size" "I") (by decide +kernel)) (fun _ h9 => h9) rfl dX8_add_14 ?_
  refine lv_iload_n hx hb dX8_add_17 rfl (lv_at hl 1 rfl) ?_
  refine va_iast hx hb hK hP hD hS 1 0 rfl rfl (by unfold vp_in; decide) dX8_add_18 (fun H locs hP hD hS => ?_)
  have hP : va_P (dC, dI) vwCl [((q 9), .inr (8, [.ref (q 90), .int 7, .ref (q 91), .int 0, .int 0, .int 0])), ((q 90), .inl ((cq 90), 60, .inl (upd f (7 : Int32).toNatClampNeg v)))] H := hP
  have hD : va_D A [((q 9), .inr (8, [.ref (q 90), .int 7, .ref (q 91), .int 0, .int 0, .int 0])), ((q 90), .inl ((cq 90), 60, .inl (upd f (7 : Int32).toNatClampNeg v)))] := hD
  refine lv_aload_n hx hb dX8_add_19 rfl (lv_at hl 0 rfl) ?_
  refine lv_dup hx hb dX8_add_20 rfl ?_
  refine va_get (D := (dC, dI)) (ci := 8) (v := .int 7) (C := RX8) (T := TX8) (N := 6) hx hb hts in_wsX8_add_X8 hown hK hP 0 rfl rfl 1 (by decide) (hts (.fieldLink RX8 18 "ShipOffice$Tape" "size" "I") (by decide +kernel)) (fun _ h9 => h9) rfl dX8_add_21 ?_
  refine lv_iconst (v := 1) hx hb dX8_add_24 (by decide) ?_
  refine lv_iadd hx hb dX8_add_25 ?_
  refine lv_topi (fun y ey => ?_)
  obtain rfl : y = 8 := ey.trans (by decide)
  refine va_put (D := (dC, dI)) (ci := 8) (v := .int 8) (ty := .int) (C := RX8) (T := TX8) (N := 6) hx hb hts in_wsX8_add_X8 tyX8 tyX8_ok nmX8 hown hK hP hD hS 0 rfl rfl 1 (by decide) (hts (.fieldLink RX8 18 "ShipOffice$Tape" "size" "I") (by decide +kernel)) (fun _ h9 => h9) rfl (by decide +kernel) rfl rfl (Nat.le_of_ble_eq_true rfl) dX8_add_26 (fun H locs hP hD hS => ?_)
  have hP : va_P (dC, dI) vwCl [((q 9), .inr (8, [.ref (q 90), .int 8, .ref (q 91), .int 0, .int 0, .int 0])), ((q 90), .inl ((cq 90), 60, .inl (upd f (7 : Int32).toNatClampNeg v)))] H := hP
  have hD : va_D A [((q 9), .inr (8, [.ref (q 90), .int 8, .ref (q 91), .int 0, .int 0, .int 0])), ((q 90), .inl ((cq 90), 60, .inl (upd f (7 : Int32).toNatClampNeg v)))] := hD
  have hP9 := hP.sub (ws' := [((q 9), .inr (8, [.ref (q 90), .int 8, .ref (q 91), .int 0, .int 0, .int 0])), ((q 90), .inl ((cq 90), 60, .inl (upd f (7 : Int32).toNatClampNeg v)))]) [0, 1] rfl
  have hD9 := hD.sub (ws' := [((q 9), .inr (8, [.ref (q 90), .int 8, .ref (q 91), .int 0, .int 0, .int 0])), ((q 90), .inl ((cq 90), 60, .inl (upd f (7 : Int32).toNatClampNeg v)))]) [0, 1] (by decide) rfl
  have hK9 := hK.sub (tys' := [((cq 90), .int)]) [0] rfl
  subst hAe
  exact W.vret hx hb hr (fun t ht hW => ⟨⟨(upd f (7 : Int32).toNatClampNeg v), rfl, trivial, ⟨by rw [ht]; exact hP9, va_K.moved hW.alike hK9, hD9⟩⟩, hS.F ht⟩) hS.2.2 dX8_add_29
set_option maxHeartbeats 4000000 in
set_option maxRecDepth 100000 in
theorem c_X10_feed (l : Launch) (dC : Nat → ClassId) (dI : Nat → Nat → Nat) (sz : Nat) (h0 : Nat) (q : Nat → Nat) (cq : Nat → ClassId) (a1 : Int32) (a2 : Int64) : Met l yX10_feed wsX10_feed ({ frames := 1, cells := 0, slots := 0, locals := 21 }) (va_Pc [.ref h0, .int a1, .long a2] (pcW (dC, dI) [((cq 15), .int), ((cq 90), .int)] [(h0, .inr (10, oF q)), ((q 15), .inl ((cq 15), 7, .inl (fun _ => 0))), ((q 9), .inr (8, [.ref (q 90), .int 0, .ref (q 91), .int 0, .int 0, .int 0])), ((q 90), .inl ((cq 90), 60, .inl (fun _ => 0)))] sz)) (va_Qi (fun (r : Int32) (u : Unit) => r = sp_feed a1) (fun _ _ => True) (va_A [(h0, .inr (10, oF q)), ((q 15), .inl ((cq 15), 7, .inl (fun _ => 0))), ((q 9), .inr (8, [.ref (q 90), .int 0, .ref (q 91), .int 0, .int 0, .int 0])), ((q 90), .inl ((cq 90), 60, .inl (fun _ => 0)))] sz)) 0 0 (va_A [(h0, .inr (10, oF q)), ((q 15), .inl ((cq 15), 7, .inl (fun _ => 0))), ((q 9), .inr (8, [.ref (q 90), .int 0, .ref (q 91), .int 0, .int 0, .int 0])), ((q 90), .inl ((cq 90), 60, .inl (fun _ => 0)))] sz) := by
  refine Met.ofW (cc := cX10_feed) (maxL := 5) (ret := (some .int)) (by decide) rfl ?_
  intro p e s m args below meth c s₁ B hml hv
  obtain ⟨rfl, hsz, hP, hK, hD0⟩ := hv
  have hx := B.exec
  have hb := B.bytes
  have hr := B.returns
  have hts := atoms_spec (ws := wsX10_feed) B.pre
  have hown : s.vm.findClass RX10 = some m.cls := findClass_of_methodNamed B.named
  have hlocks := B.notSynchronized
  subst hsz
  have hD := hD0.self (sz := s.heap.size)
  generalize hAe : va_A [(h0, .inr (10, oF q)), ((q 15), .inl ((cq 15), 7, .inl (fun _ => 0))), ((q 9), .inr (8, [.ref (q 90), .int 0, .ref (q 91), .int 0, .int 0, .int 0])), ((q 90), .inl ((cq 90), 60, .inl (fun _ => 0)))] s.heap.size = A at hD ⊢
  have hA : ∀ q : Nat, s.heap.size ≤ q → A q := fun q h => by rw [← hAe]; exact Or.inr h
  have hS : va_S A s.heap s.heap [] := va_S.rf
  have hP : va_P (dC, dI) vwCl [(h0, .inr (10, oF q)), ((q 15), .inl ((cq 15), 7, .inl (fun _ => 0))), ((q 9), .inr (8, [.ref (q 90), .int 0, .ref (q 91), .int 0, .int 0, .int 0])), ((q 90), .inl ((cq 90), 60, .inl (fun _ => 0)))] s.heap := hP
  have hl := lv_entry ([.ref h0, .int a1, .long a2]) (n := 5) (Nat.le_of_ble_eq_true rfl)
  rw [lg_entry_eq]
  generalize (lg_sl ([.ref h0, .int a1, .long a2]) ++ List.replicate (5 - (lg_sl ([.ref h0, .int a1, .long a2])).length) Slot.unset).toArray = ls at hl ⊢
  have hl : lv_has ls 5 [(0, .ref h0), (1, .int a1), (2, .long a2)] := hl
  refine lv_iload_n hx hb dX10_feed_0 rfl (lv_at hl 1 rfl) ?_
  refine lv_iconst (v := 1) hx hb dX10_feed_1 (by decide) ?_
  refine lv_icmp_ge (tgt := 12) hx hb dX10_feed_2 (by decide) (fun c_1 => ?_) (fun c_1 => ?_)
  · refine lv_iload_n hx hb dX10_feed_12 rfl (lv_at hl 1 rfl) ?_
    refine lv_bipush (v := 8) hx hb dX10_feed_13 (by decide) ?_
    refine lv_icmp_gt (tgt := 32) hx hb dX10_feed_15 (by decide) (fun c_2 => ?_) (fun c_2 => ?_)
    · refine lv_aload_n hx hb dX10_feed_32 rfl (lv_at hl 0 rfl) ?_
      refine lv_bipush (v := (-6)) hx hb dX10_feed_33 (by decide) ?_
      have hPc := hP.sub (ws' := [(h0, .inr (10, oF q)), ((q 15), .inl ((cq 15), 7, .inl (fun _ => 0)))]) [0, 1] rfl
      have hDc := hD.sub (ws' := [(h0, .inr (10, oF q)), ((q 15), .inl ((cq 15), 7, .inl (fun _ => 0)))]) [0, 1] (by decide) rfl
      have hKc := hK.sub (tys' := [((cq 15), .int)]) [0] rfl
      have hFc := va_free (wc := [(h0, .inr (10, oF q)), ((q 15), .inl ((cq 15), 7, .inl (fun _ => 0)))]) hD hS hA [0, 1] rfl
      refine va_calli (va_runV (As := [.int (-6)]) (rest := []) ⟨hx, hb, hml, hown, hts⟩ (c_X10_refuse l dC dI s.heap.size h0 q cq (-6) (by unfold vp_in; decide)) (cwV 1 hts gX10_feed_X10_refuse rfl rfl rfl (by decide +kernel) ⟨(Nat.le_of_ble_eq_true rfl), (Nat.le_of_ble_eq_true rfl)⟩) (pr_V (r := (RX10, TX10, 16)) hPc hKc hDc 0 10 rfl rfl) rfl rfl hl.1 rfl (lv_room (Nat.le_of_ble_eq_true rfl)) dX10_feed_35 ⟨(Nat.le_of_ble_eq_true rfl), (Nat.le_of_ble_eq_true rfl)⟩) hS (fun q _ h => hFc q h) hFc (fun r_4 u t H locs ht hvm w_3 hB hz1 hk1 hS => ?_)
      subst w_3
      exact W.iret (v := (-6)) hx hb hr (fun t ht hW => ⟨⟨(-6), (), rfl, (by simp [sp_feed, c_1, c_2]), trivial⟩, hS.F ht⟩) hS.2.2 dX10_feed_38
    · refine lv_iload_n hx hb dX10_feed_18 rfl (lv_at hl 1 rfl) ?_
      refine lv_bipush (v := 60) hx hb dX10_feed_19 (by decide) ?_
      refine lv_aload_n hx hb dX10_feed_21 rfl (lv_at hl 0 rfl) ?_
      refine va_get (D := (dC, dI)) (ci := 10) (v := .ref (q 9)) (C := RX10) (T := TX10) (N := 16) hx hb hts in_wsX10_feed_X10 hown hK hP 0 rfl rfl 9 (by decide) (hts (.fieldLink RX10 37 "ShipOffice" "tape" "LShipOffice$Tape;") (by decide +kernel)) (fun _ h9 => h9) rfl dX10_feed_22 ?_
      refine va_get (D := (dC, dI)) (ci := 8) (v := .int 0) (C := RX8) (T := TX8) (N := 6) hx hb hts in_wsX10_feed_X8 hown hK hP 2 rfl rfl 1 (by decide) (hts (.fieldLink RX10 169 "ShipOffice$Tape" "size" "I") (by decide +kernel)) (fun _ h9 => h9) rfl dX10_feed_25 ?_
      refine lv_isub hx hb dX10_feed_28 ?_
      refine lv_topi (fun y ey => ?_)
      obtain rfl : y = 60 := ey.trans (by decide)
      refine lv_icmp_le (tgt := 39) hx hb dX10_feed_29 (by decide) (fun c_5 => ?_) (fun c_5 => absurd c_5 (fun h => h (ile_of_nlt c_2 (by decide))))
      refine lv_iconst (v := 0) hx hb dX10_feed_39 (by decide) ?_
      refine lv_istore (lv' := [(4, .int 0), (0, .ref h0), (1, .int a1), (2, .long a2)]) hx hb dX10_feed_40 hl (by decide) rfl (fun ls hl => ?_)
      refine lv_iload hx hb dX10_feed_42 (lv_at hl 0 rfl) ?_
      refine lv_iload_n hx hb dX10_feed_44 rfl (lv_at hl 2 rfl) ?_
      refine lv_icmp_ge (tgt := 73) hx hb dX10_feed_45 (by decide) (fun c_6 => absurd c_6 (nle_of_le c_1 (by decide))) (fun c_6 => ?_)
      refine lv_aload_n hx hb dX10_feed_48 rfl (lv_at hl 1 rfl) ?_
      refine va_get (D := (dC, dI)) (ci := 10) (v := .ref (q 9)) (C := RX10) (T := TX10) (N := 16) hx hb hts in_wsX10_feed_X10 hown hK hP 0 rfl rfl 9 (by decide) (hts (.fieldLink RX10 37 "ShipOffice" "tape" "LShipOffice$Tape;") (by decide +kernel)) (fun _ h9 => h9) rfl dX10_feed_49 ?_
      refine lv_lload_n hx hb dX10_feed_52 rfl (lv_at hl 3 rfl) ?_
      refine lv_bipush (v := 8) hx hb dX10_feed_53 (by decide) ?_
      refine lv_iload hx hb dX10_feed_55 (lv_at hl 0 rfl) ?_
      refine lv_imul hx hb dX10_feed_57 ?_
      refine lv_topi (fun y ey => ?_)
      obtain rfl : y = 0 := ey.trans (by decide)
      refine lv_lshr (v := a2 >>> ((0 : Int32).toInt64 &&& 63)) hx hb dX10_feed_58 rfl ?_
      refine lv_ldc2 (v := 255) hx hb hown (hts (.constantLong RX10 172 (255)) (by decide +kernel)) dX10_feed_59 ?_
      refine lv_land hx hb dX10_feed_62 ?_
      refine lv_l2i (v := ((a2 >>> ((0 : Int32).toInt64 &&& 63)) &&& 255 : Int64).toInt32) hx hb dX10_feed_63 rfl ?_
      have hPc := hP.sub (ws' := [((q 9), .inr (8, [.ref (q 90), .int 0, .ref (q 91), .int 0, .int 0, .int 0])), ((q 90), .inl ((cq 90), 60, .inl (fun _ => 0)))]) [2, 3] rfl
      have hDc := hD.sub (ws' := [((q 9), .inr (8, [.ref (q 90), .int 0, .ref (q 91), .int 0, .int 0, .int 0])), ((q 90), .inl ((cq 90), 60, .inl (fun _ => 0)))]) [2, 3] (by decide) rfl
      have hKc := hK.sub (tys' := [((cq 90), .int)]) [1] rfl
      have hFc := va_free (wc := [((q 9), .inr (8, [.ref (q 90), .int 0, .ref (q 91), .int 0, .int 0, .int 0])), ((q 90), .inl ((cq 90), 60, .inl (fun _ => 0)))]) hD hS hA [2, 3] rfl
      refine va_callv (va_runV (As := [.int (((a2 >>> ((0 : Int32).toInt64 &&& 63)) &&& 255 : Int64).toInt32)]) (rest := []) ⟨hx, hb, hml, hown, hts⟩ (c_X8_add_0 l dC dI s.heap.size h0 q cq (fun _ => 0) (((a2 >>> ((0 : Int32).toInt64 &&& 63)) &&& 255 : Int64).toInt32)) (cwV 1 hts gX10_feed_X8_add rfl rfl rfl (by decide +kernel) ⟨(Nat.le_of_ble_eq_true rfl), (Nat.le_of_ble_eq_true rfl)⟩) (pr_V (r := (RX8, TX8, 6)) hPc hKc hDc 0 8 rfl rfl) rfl rfl hl.1 rfl (lv_room (Nat.le_of_ble_eq_true rfl)) dX10_feed_64 ⟨(Nat.le_of_ble_eq_true rfl), (Nat.le_of_ble_eq_true rfl)⟩) hS (fun q _ h => hFc q h) hFc (fun u t H locs ht hvm w_7 hB hz1 hk1 hS => ?_)
      obtain ⟨f_9, rfl⟩ : ∃ z, z = u := ⟨_, rfl⟩
      obtain ⟨hP1, hK1, hD1⟩ := hB
      rw [ht] at hP1
      have hK1 := va_K.moved hvm.symm hK1
      obtain ⟨hP, hD⟩ := va_join (wr := [(h0, .inr (10, oF q)), ((q 15), .inl ((cq 15), 7, .inl (fun _ => 0)))]) (w1 := [((q 9), .inr (8, [.ref (q 90), .int 1, .ref (q 91), .int 0, .int 0, .int 0])), ((q 90), .inl ((cq 90), 60, .inl f_9))]) hP hD [2, 3] [0, 1] rfl rfl (by decide) (by decide) hk1 hFc hP1 hD1
      have hK := hK.app hK1
      have hP : va_P (dC, dI) vwCl [(h0, .inr (10, oF q)), ((q 15), .inl ((cq 15), 7, .inl (fun _ => 0))), ((q 9), .inr (8, [.ref (q 90), .int 1, .ref (q 91), .int 0, .int 0, .int 0])), ((q 90), .inl ((cq 90), 60, .inl f_9))] H := hP
      have hD : va_D A [(h0, .inr (10, oF q)), ((q 15), .inl ((cq 15), 7, .inl (fun _ => 0))), ((q 9), .inr (8, [.ref (q 90), .int 1, .ref (q 91), .int 0, .int 0, .int 0])), ((q 90), .inl ((cq 90), 60, .inl f_9))] := hD
      have hK : va_K (dC, dI) vwCl [((cq 15), .int), ((cq 90), .int), ((cq 90), .int)] s := hK
      clear hP1 hK1 hD1 hk1 hz1 hvm ht hPc hDc hKc hFc
      refine lv_iinc (v := 1) (lv' := [(4, .int 1), (0, .ref h0), (1, .int a1), (2, .long a2)]) hx hb dX10_feed_67 hl (k := 0) rfl (by decide) (by decide) rfl (fun ls hl => ?_)
      refine lv_goto (tgt := 42) hx hb dX10_feed_70 (by decide) ?_
      refine lv_iload hx hb dX10_feed_42 (lv_at hl 0 rfl) ?_
      refine lv_iload_n hx hb dX10_feed_44 rfl (lv_at hl 2 rfl) ?_
      refine lv_icmp_ge (tgt := 73) hx hb dX10_feed_45 (by decide) (fun c_10 => ?_) (fun c_10 => ?_)
      · refine lv_aload_n hx hb dX10_feed_73 rfl (lv_at hl 1 rfl) ?_
        refine va_get (D := (dC, dI)) (ci := 10) (v := .ref (q 9)) (C := RX10) (T := TX10) (N := 16) hx hb hts in_wsX10_feed_X10 hown hK hP 0 rfl rfl 9 (by decide) (hts (.fieldLink RX10 37 "ShipOffice" "tape" "LShipOffice$Tape;") (by decide +kernel)) (fun _ h9 => h9) rfl dX10_feed_74 ?_
        refine va_get (D := (dC, dI)) (ci := 8) (v := .int 1) (C := RX8) (T := TX8) (N := 6) hx hb hts in_wsX10_feed_X8 hown hK hP 2 rfl rfl 1 (by decide) (hts (.fieldLink RX10 169 "ShipOffice$Tape" "size" "I") (by decide +kernel)) (fun _ h9 => h9) rfl dX10_feed_77 ?_
        exact W.iret (v := 1) hx hb hr (fun t ht hW => ⟨⟨1, (), rfl, (by obtain rfl : a1 = 1 := feq c_6 c_10 (by decide); decide), trivial⟩, hS.F ht⟩) hS.2.2 dX10_feed_80
      · refine lv_aload_n hx hb dX10_feed_48 rfl (lv_at hl 1 rfl) ?_
        refine va_get (D := (dC, dI)) (ci := 10) (v := .ref (q 9)) (C := RX10) (T := TX10) (N := 16) hx hb hts in_wsX10_feed_X10 hown hK hP 0 rfl rfl 9 (by decide) (hts (.fieldLink RX10 37 "ShipOffice" "tape" "LShipOffice$Tape;") (by decide +kernel)) (fun _ h9 => h9) rfl dX10_feed_49 ?_
        refine lv_lload_n hx hb dX10_feed_52 rfl (lv_at hl 3 rfl) ?_
        refine lv_bipush (v := 8) hx hb dX10_feed_53 (by decide) ?_
        refine lv_iload hx hb dX10_feed_55 (lv_at hl 0 rfl) ?_
        refine lv_imul hx hb dX10_feed_57 ?_
        refine lv_topi (fun y ey => ?_)
        obtain rfl : y = 8 := ey.trans (by decide)
        refine lv_lshr (v := a2 >>> ((8 : Int32).toInt64 &&& 63)) hx hb dX10_feed_58 rfl ?_
        refine lv_ldc2 (v := 255) hx hb hown (hts (.constantLong RX10 172 (255)) (by decide +kernel)) dX10_feed_59 ?_
        refine lv_land hx hb dX10_feed_62 ?_
        refine lv_l2i (v := ((a2 >>> ((8 : Int32).toInt64 &&& 63)) &&& 255 : Int64).toInt32) hx hb dX10_feed_63 rfl ?_
        have hPc := hP.sub (ws' := [((q 9), .inr (8, [.ref (q 90), .int 1, .ref (q 91), .int 0, .int 0, .int 0])), ((q 90), .inl ((cq 90), 60, .inl f_9))]) [2, 3] rfl
        have hDc := hD.sub (ws' := [((q 9), .inr (8, [.ref (q 90), .int 1, .ref (q 91), .int 0, .int 0, .int 0])), ((q 90), .inl ((cq 90), 60, .inl f_9))]) [2, 3] (by decide) rfl
        have hKc := hK.sub (tys' := [((cq 90), .int)]) [1] rfl
        have hFc := va_free (wc := [((q 9), .inr (8, [.ref (q 90), .int 1, .ref (q 91), .int 0, .int 0, .int 0])), ((q 90), .inl ((cq 90), 60, .inl f_9))]) hD hS hA [2, 3] rfl
        refine va_callv (va_runV (As := [.int (((a2 >>> ((8 : Int32).toInt64 &&& 63)) &&& 255 : Int64).toInt32)]) (rest := []) ⟨hx, hb, hml, hown, hts⟩ (c_X8_add_1 l dC dI H.size h0 q cq f_9 (((a2 >>> ((8 : Int32).toInt64 &&& 63)) &&& 255 : Int64).toInt32)) (cwV 1 hts gX10_feed_X8_add rfl rfl rfl (by decide +kernel) ⟨(Nat.le_of_ble_eq_true rfl), (Nat.le_of_ble_eq_true rfl)⟩) (pr_V (r := (RX8, TX8, 6)) hPc hKc hDc 0 8 rfl rfl) rfl rfl hl.1 rfl (lv_room (Nat.le_of_ble_eq_true rfl)) dX10_feed_64 ⟨(Nat.le_of_ble_eq_true rfl), (Nat.le_of_ble_eq_true rfl)⟩) hS (fun q _ h => hFc q h) hFc (fun u t H locs ht hvm w_11 hB hz1 hk1 hS => ?_)
        obtain ⟨f_13, rfl⟩ : ∃ z, z = u := ⟨_, rfl⟩
        obtain ⟨hP1, hK1, hD1⟩ := hB
        rw [ht] at hP1
        have hK1 := va_K.moved hvm.symm hK1
        obtain ⟨hP, hD⟩ := va_join (wr := [(h0, .inr (10, oF q)), ((q 15), .inl ((cq 15), 7, .inl (fun _ => 0)))]) (w1 := [((q 9), .inr (8, [.ref (q 90), .int 2, .ref (q 91), .int 0, .int 0, .int 0])), ((q 90), .inl ((cq 90), 60, .inl f_13))]) hP hD [2, 3] [0, 1] rfl rfl (by decide) (by decide) hk1 hFc hP1 hD1
        have hK := hK.app hK1
        have hP : va_P (dC, dI) vwCl [(h0, .inr (10, oF q)), ((q 15), .inl ((cq 15), 7, .inl (fun _ => 0))), ((q 9), .inr (8, [.ref (q 90), .int 2, .ref (q 91), .int 0, .int 0, .int 0])), ((q 90), .inl ((cq 90), 60, .inl f_13))] H := hP
        have hD : va_D A [(h0, .inr (10, oF q)), ((q 15), .inl ((cq 15), 7, .inl (fun _ => 0))), ((q 9), .inr (8, [.ref (q 90), .int 2, .ref (q 91), .int 0, .int 0, .int 0])), ((q 90), .inl ((cq 90), 60, .inl f_13))] := hD
        have hK : va_K (dC, dI) vwCl [((cq 15), .int), ((cq 90), .int), ((cq 90), .int), ((cq 90), .int)] s := hK
        clear hP1 hK1 hD1 hk1 hz1 hvm ht hPc hDc hKc hFc
        refine lv_iinc (v := 2) (lv' := [(4, .int 2), (0, .ref h0), (1, .int a1), (2, .long a2)]) hx hb dX10_feed_67 hl (k := 0) rfl (by decide) (by decide) rfl (fun ls hl => ?_)
        refine lv_goto (tgt := 42) hx hb dX10_feed_70 (by decide) ?_
        refine lv_iload hx hb dX10_feed_42 (lv_at hl 0 rfl) ?_
        refine lv_iload_n hx hb dX10_feed_44 rfl (lv_at hl 2 rfl) ?_
        refine lv_icmp_ge (tgt := 73) hx hb dX10_feed_45 (by decide) (fun c_14 => ?_) (fun c_14 => ?_)
        · refine lv_aload_n hx hb dX10_feed_73 rfl (lv_at hl 1 rfl) ?_
          refine va_get (D := (dC, dI)) (ci := 10) (v := .ref (q 9)) (C := RX10) (T := TX10) (N := 16) hx hb hts in_wsX10_feed_X10 hown hK hP 0 rfl rfl 9 (by decide) (hts (.fieldLink RX10 37 "ShipOffice" "tape" "LShipOffice$Tape;") (by decide +kernel)) (fun _ h9 => h9) rfl dX10_feed_74 ?_
          refine va_get (D := (dC, dI)) (ci := 8) (v := .int 2) (C := RX8) (T := TX8) (N := 6) hx hb hts in_wsX10_feed_X8 hown hK hP 2 rfl rfl 1 (by decide) (hts (.fieldLink RX10 169 "ShipOffice$Tape" "size" "I") (by decide +kernel)) (fun _ h9 => h9) rfl dX10_feed_77 ?_
          exact W.iret (v := 2) hx hb hr (fun t ht hW => ⟨⟨2, (), rfl, (by obtain rfl : a1 = 2 := feq c_10 c_14 (by decide); decide), trivial⟩, hS.F ht⟩) hS.2.2 dX10_feed_80
        · refine lv_aload_n hx hb dX10_feed_48 rfl (lv_at hl 1 rfl) ?_
          refine va_get (D := (dC, dI)) (ci := 10) (v := .ref (q 9)) (C := RX10) (T := TX10) (N := 16) hx hb hts in_wsX10_feed_X10 hown hK hP 0 rfl rfl 9 (by decide) (hts (.fieldLink RX10 37 "ShipOffice" "tape" "LShipOffice$Tape;") (by decide +kernel)) (fun _ h9 => h9) rfl dX10_feed_49 ?_
          refine lv_lload_n hx hb dX10_feed_52 rfl (lv_at hl 3 rfl) ?_
          refine lv_bipush (v := 8) hx hb dX10_feed_53 (by decide) ?_
          refine lv_iload hx hb dX10_feed_55 (lv_at hl 0 rfl) ?_
          refine lv_imul hx hb dX10_feed_57 ?_
          refine lv_topi (fun y ey => ?_)
          obtain rfl : y = 16 := ey.trans (by decide)
          refine lv_lshr (v := a2 >>> ((16 : Int32).toInt64 &&& 63)) hx hb dX10_feed_58 rfl ?_
          refine lv_ldc2 (v := 255) hx hb hown (hts (.constantLong RX10 172 (255)) (by decide +kernel)) dX10_feed_59 ?_
          refine lv_land hx hb dX10_feed_62 ?_
          refine lv_l2i (v := ((a2 >>> ((16 : Int32).toInt64 &&& 63)) &&& 255 : Int64).toInt32) hx hb dX10_feed_63 rfl ?_
          have hPc := hP.sub (ws' := [((q 9), .inr (8, [.ref (q 90), .int 2, .ref (q 91), .int 0, .int 0, .int 0])), ((q 90), .inl ((cq 90), 60, .inl f_13))]) [2, 3] rfl
          have hDc := hD.sub (ws' := [((q 9), .inr (8, [.ref (q 90), .int 2, .ref (q 91), .int 0, .int 0, .int 0])), ((q 90), .inl ((cq 90), 60, .inl f_13))]) [2, 3] (by decide) rfl
          have hKc := hK.sub (tys' := [((cq 90), .int)]) [1] rfl
          have hFc := va_free (wc := [((q 9), .inr (8, [.ref (q 90), .int 2, .ref (q 91), .int 0, .int 0, .int 0])), ((q 90), .inl ((cq 90), 60, .inl f_13))]) hD hS hA [2, 3] rfl
          refine va_callv (va_runV (As := [.int (((a2 >>> ((16 : Int32).toInt64 &&& 63)) &&& 255 : Int64).toInt32)]) (rest := []) ⟨hx, hb, hml, hown, hts⟩ (c_X8_add_2 l dC dI H.size h0 q cq f_13 (((a2 >>> ((16 : Int32).toInt64 &&& 63)) &&& 255 : Int64).toInt32)) (cwV 1 hts gX10_feed_X8_add rfl rfl rfl (by decide +kernel) ⟨(Nat.le_of_ble_eq_true rfl), (Nat.le_of_ble_eq_true rfl)⟩) (pr_V (r := (RX8, TX8, 6)) hPc hKc hDc 0 8 rfl rfl) rfl rfl hl.1 rfl (lv_room (Nat.le_of_ble_eq_true rfl)) dX10_feed_64 ⟨(Nat.le_of_ble_eq_true rfl), (Nat.le_of_ble_eq_true rfl)⟩) hS (fun q _ h => hFc q h) hFc (fun u t H locs ht hvm w_15 hB hz1 hk1 hS => ?_)
          obtain ⟨f_17, rfl⟩ : ∃ z, z = u := ⟨_, rfl⟩
          obtain ⟨hP1, hK1, hD1⟩ := hB
          rw [ht] at hP1
          have hK1 := va_K.moved hvm.symm hK1
          obtain ⟨hP, hD⟩ := va_join (wr := [(h0, .inr (10, oF q)), ((q 15), .inl ((cq 15), 7, .inl (fun _ => 0)))]) (w1 := [((q 9), .inr (8, [.ref (q 90), .int 3, .ref (q 91), .int 0, .int 0, .int 0])), ((q 90), .inl ((cq 90), 60, .inl f_17))]) hP hD [2, 3] [0, 1] rfl rfl (by decide) (by decide) hk1 hFc hP1 hD1
          have hK := hK.app hK1
          have hP : va_P (dC, dI) vwCl [(h0, .inr (10, oF q)), ((q 15), .inl ((cq 15), 7, .inl (fun _ => 0))), ((q 9), .inr (8, [.ref (q 90), .int 3, .ref (q 91), .int 0, .int 0, .int 0])), ((q 90), .inl ((cq 90), 60, .inl f_17))] H := hP
          have hD : va_D A [(h0, .inr (10, oF q)), ((q 15), .inl ((cq 15), 7, .inl (fun _ => 0))), ((q 9), .inr (8, [.ref (q 90), .int 3, .ref (q 91), .int 0, .int 0, .int 0])), ((q 90), .inl ((cq 90), 60, .inl f_17))] := hD
          have hK : va_K (dC, dI) vwCl [((cq 15), .int), ((cq 90), .int), ((cq 90), .int), ((cq 90), .int), ((cq 90), .int)] s := hK
          clear hP1 hK1 hD1 hk1 hz1 hvm ht hPc hDc hKc hFc
          refine lv_iinc (v := 3) (lv' := [(4, .int 3), (0, .ref h0), (1, .int a1), (2, .long a2)]) hx hb dX10_feed_67 hl (k := 0) rfl (by decide) (by decide) rfl (fun ls hl => ?_)
          refine lv_goto (tgt := 42) hx hb dX10_feed_70 (by decide) ?_
          refine lv_iload hx hb dX10_feed_42 (lv_at hl 0 rfl) ?_
          refine lv_iload_n hx hb dX10_feed_44 rfl (lv_at hl 2 rfl) ?_
          refine lv_icmp_ge (tgt := 73) hx hb dX10_feed_45 (by decide) (fun c_18 => ?_) (fun c_18 => ?_)
          · refine lv_aload_n hx hb dX10_feed_73 rfl (lv_at hl 1 rfl) ?_
            refine va_get (D := (dC, dI)) (ci := 10) (v := .ref (q 9)) (C := RX10) (T := TX10) (N := 16) hx hb hts in_wsX10_feed_X10 hown hK hP 0 rfl rfl 9 (by decide) (hts (.fieldLink RX10 37 "ShipOffice" "tape" "LShipOffice$Tape;") (by decide +kernel)) (fun _ h9 => h9) rfl dX10_feed_74 ?_
            refine va_get (D := (dC, dI)) (ci := 8) (v := .int 3) (C := RX8) (T := TX8) (N := 6) hx hb hts in_wsX10_feed_X8 hown hK hP 2 rfl rfl 1 (by decide) (hts (.fieldLink RX10 169 "ShipOffice$Tape" "size" "I") (by decide +kernel)) (fun _ h9 => h9) rfl dX10_feed_77 ?_
            exact W.iret (v := 3) hx hb hr (fun t ht hW => ⟨⟨3, (), rfl, (by obtain rfl : a1 = 3 := feq c_14 c_18 (by decide); decide), trivial⟩, hS.F ht⟩) hS.2.2 dX10_feed_80
          · refine lv_aload_n hx hb dX10_feed_48 rfl (lv_at hl 1 rfl) ?_
            refine va_get (D := (dC, dI)) (ci := 10) (v := .ref (q 9)) (C := RX10) (T := TX10) (N := 16) hx hb hts in_wsX10_feed_X10 hown hK hP 0 rfl rfl 9 (by decide) (hts (.fieldLink RX10 37 "ShipOffice" "tape" "LShipOffice$Tape;") (by decide +kernel)) (fun _ h9 => h9) rfl dX10_feed_49 ?_
            refine lv_lload_n hx hb dX10_feed_52 rfl (lv_at hl 3 rfl) ?_
            refine lv_bipush (v := 8) hx hb dX10_feed_53 (by decide) ?_
            refine lv_iload hx hb dX10_feed_55 (lv_at hl 0 rfl) ?_
            refine lv_imul hx hb dX10_feed_57 ?_
            refine lv_topi (fun y ey => ?_)
            obtain rfl : y = 24 := ey.trans (by decide)
            refine lv_lshr (v := a2 >>> ((24 : Int32).toInt64 &&& 63)) hx hb dX10_feed_58 rfl ?_
            refine lv_ldc2 (v := 255) hx hb hown (hts (.constantLong RX10 172 (255)) (by decide +kernel)) dX10_feed_59 ?_
            refine lv_land hx hb dX10_feed_62 ?_
            refine lv_l2i (v := ((a2 >>> ((24 : Int32).toInt64 &&& 63)) &&& 255 : Int64).toInt32) hx hb dX10_feed_63 rfl ?_
            have hPc := hP.sub (ws' := [((q 9), .inr (8, [.ref (q 90), .int 3, .ref (q 91), .int 0, .int 0, .int 0])), ((q 90), .inl ((cq 90), 60, .inl f_17))]) [2, 3] rfl
            have hDc := hD.sub (ws' := [((q 9), .inr (8, [.ref (q 90), .int 3, .ref (q 91), .int 0, .int 0, .int 0])), ((q 90), .inl ((cq 90), 60, .inl f_17))]) [2, 3] (by decide) rfl
            have hKc := hK.sub (tys' := [((cq 90), .int)]) [1] rfl
            have hFc := va_free (wc := [((q 9), .inr (8, [.ref (q 90), .int 3, .ref (q 91), .int 0, .int 0, .int 0])), ((q 90), .inl ((cq 90), 60, .inl f_17))]) hD hS hA [2, 3] rfl
            refine va_callv (va_runV (As := [.int (((a2 >>> ((24 : Int32).toInt64 &&& 63)) &&& 255 : Int64).toInt32)]) (rest := []) ⟨hx, hb, hml, hown, hts⟩ (c_X8_add_3 l dC dI H.size h0 q cq f_17 (((a2 >>> ((24 : Int32).toInt64 &&& 63)) &&& 255 : Int64).toInt32)) (cwV 1 hts gX10_feed_X8_add rfl rfl rfl (by decide +kernel) ⟨(Nat.le_of_ble_eq_true rfl), (Nat.le_of_ble_eq_true rfl)⟩) (pr_V (r := (RX8, TX8, 6)) hPc hKc hDc 0 8 rfl rfl) rfl rfl hl.1 rfl (lv_room (Nat.le_of_ble_eq_true rfl)) dX10_feed_64 ⟨(Nat.le_of_ble_eq_true rfl), (Nat.le_of_ble_eq_true rfl)⟩) hS (fun q _ h => hFc q h) hFc (fun u t H locs ht hvm w_19 hB hz1 hk1 hS => ?_)
            obtain ⟨f_21, rfl⟩ : ∃ z, z = u := ⟨_, rfl⟩
            obtain ⟨hP1, hK1, hD1⟩ := hB
            rw [ht] at hP1
            have hK1 := va_K.moved hvm.symm hK1
            obtain ⟨hP, hD⟩ := va_join (wr := [(h0, .inr (10, oF q)), ((q 15), .inl ((cq 15), 7, .inl (fun _ => 0)))]) (w1 := [((q 9), .inr (8, [.ref (q 90), .int 4, .ref (q 91), .int 0, .int 0, .int 0])), ((q 90), .inl ((cq 90), 60, .inl f_21))]) hP hD [2, 3] [0, 1] rfl rfl (by decide) (by decide) hk1 hFc hP1 hD1
            have hK := hK.app hK1
            have hP : va_P (dC, dI) vwCl [(h0, .inr (10, oF q)), ((q 15), .inl ((cq 15), 7, .inl (fun _ => 0))), ((q 9), .inr (8, [.ref (q 90), .int 4, .ref (q 91), .int 0, .int 0, .int 0])), ((q 90), .inl ((cq 90), 60, .inl f_21))] H := hP
            have hD : va_D A [(h0, .inr (10, oF q)), ((q 15), .inl ((cq 15), 7, .inl (fun _ => 0))), ((q 9), .inr (8, [.ref (q 90), .int 4, .ref (q 91), .int 0, .int 0, .int 0])), ((q 90), .inl ((cq 90), 60, .inl f_21))] := hD
            have hK : va_K (dC, dI) vwCl [((cq 15), .int), ((cq 90), .int), ((cq 90), .int), ((cq 90), .int), ((cq 90), .int), ((cq 90), .int)] s := hK
            clear hP1 hK1 hD1 hk1 hz1 hvm ht hPc hDc hKc hFc
            refine lv_iinc (v := 4) (lv' := [(4, .int 4), (0, .ref h0), (1, .int a1), (2, .long a2)]) hx hb dX10_feed_67 hl (k := 0) rfl (by decide) (by decide) rfl (fun ls hl => ?_)
            refine lv_goto (tgt := 42) hx hb dX10_feed_70 (by decide) ?_
            refine lv_iload hx hb dX10_feed_42 (lv_at hl 0 rfl) ?_
            refine lv_iload_n hx hb dX10_feed_44 rfl (lv_at hl 2 rfl) ?_
            refine lv_icmp_ge (tgt := 73) hx hb dX10_feed_45 (by decide) (fun c_22 => ?_) (fun c_22 => ?_)
            · refine lv_aload_n hx hb dX10_feed_73 rfl (lv_at hl 1 rfl) ?_
              refine va_get (D := (dC, dI)) (ci := 10) (v := .ref (q 9)) (C := RX10) (T := TX10) (N := 16) hx hb hts in_wsX10_feed_X10 hown hK hP 0 rfl rfl 9 (by decide) (hts (.fieldLink RX10 37 "ShipOffice" "tape" "LShipOffice$Tape;") (by decide +kernel)) (fun _ h9 => h9) rfl dX10_feed_74 ?_
              refine va_get (D := (dC, dI)) (ci := 8) (v := .int 4) (C := RX8) (T := TX8) (N := 6) hx hb hts in_wsX10_feed_X8 hown hK hP 2 rfl rfl 1 (by decide) (hts (.fieldLink RX10 169 "ShipOffice$Tape" "size" "I") (by decide +kernel)) (fun _ h9 => h9) rfl dX10_feed_77 ?_
              exact W.iret (v := 4) hx hb hr (fun t ht hW => ⟨⟨4, (), rfl, (by obtain rfl : a1 = 4 := feq c_18 c_22 (by decide); decide), trivial⟩, hS.F ht⟩) hS.2.2 dX10_feed_80
            · refine lv_aload_n hx hb dX10_feed_48 rfl (lv_at hl 1 rfl) ?_
              refine va_get (D := (dC, dI)) (ci := 10) (v := .ref (q 9)) (C := RX10) (T := TX10) (N := 16) hx hb hts in_wsX10_feed_X10 hown hK hP 0 rfl rfl 9 (by decide) (hts (.fieldLink RX10 37 "ShipOffice" "tape" "LShipOffice$Tape;") (by decide +kernel)) (fun _ h9 => h9) rfl dX10_feed_49 ?_
              refine lv_lload_n hx hb dX10_feed_52 rfl (lv_at hl 3 rfl) ?_
              refine lv_bipush (v := 8) hx hb dX10_feed_53 (by decide) ?_
              refine lv_iload hx hb dX10_feed_55 (lv_at hl 0 rfl) ?_
              refine lv_imul hx hb dX10_feed_57 ?_
              refine lv_topi (fun y ey => ?_)
              obtain rfl : y = 32 := ey.trans (by decide)
              refine lv_lshr (v := a2 >>> ((32 : Int32).toInt64 &&& 63)) hx hb dX10_feed_58 rfl ?_
              refine lv_ldc2 (v := 255) hx hb hown (hts (.constantLong RX10 172 (255)) (by decide +kernel)) dX10_feed_59 ?_
              refine lv_land hx hb dX10_feed_62 ?_
              refine lv_l2i (v := ((a2 >>> ((32 : Int32).toInt64 &&& 63)) &&& 255 : Int64).toInt32) hx hb dX10_feed_63 rfl ?_
              have hPc := hP.sub (ws' := [((q 9), .inr (8, [.ref (q 90), .int 4, .ref (q 91), .int 0, .int 0, .int 0])), ((q 90), .inl ((cq 90), 60, .inl f_21))]) [2, 3] rfl
              have hDc := hD.sub (ws' := [((q 9), .inr (8, [.ref (q 90), .int 4, .ref (q 91), .int 0, .int 0, .int 0])), ((q 90), .inl ((cq 90), 60, .inl f_21))]) [2, 3] (by decide) rfl
              have hKc := hK.sub (tys' := [((cq 90), .int)]) [1] rfl
              have hFc := va_free (wc := [((q 9), .inr (8, [.ref (q 90), .int 4, .ref (q 91), .int 0, .int 0, .int 0])), ((q 90), .inl ((cq 90), 60, .inl f_21))]) hD hS hA [2, 3] rfl
              refine va_callv (va_runV (As := [.int (((a2 >>> ((32 : Int32).toInt64 &&& 63)) &&& 255 : Int64).toInt32)]) (rest := []) ⟨hx, hb, hml, hown, hts⟩ (c_X8_add_4 l dC dI H.size h0 q cq f_21 (((a2 >>> ((32 : Int32).toInt64 &&& 63)) &&& 255 : Int64).toInt32)) (cwV 1 hts gX10_feed_X8_add rfl rfl rfl (by decide +kernel) ⟨(Nat.le_of_ble_eq_true rfl), (Nat.le_of_ble_eq_true rfl)⟩) (pr_V (r := (RX8, TX8, 6)) hPc hKc hDc 0 8 rfl rfl) rfl rfl hl.1 rfl (lv_room (Nat.le_of_ble_eq_true rfl)) dX10_feed_64 ⟨(Nat.le_of_ble_eq_true rfl), (Nat.le_of_ble_eq_true rfl)⟩) hS (fun q _ h => hFc q h) hFc (fun u t H locs ht hvm w_23 hB hz1 hk1 hS => ?_)
              obtain ⟨f_25, rfl⟩ : ∃ z, z = u := ⟨_, rfl⟩
              obtain ⟨hP1, hK1, hD1⟩ := hB
              rw [ht] at hP1
              have hK1 := va_K.moved hvm.symm hK1
              obtain ⟨hP, hD⟩ := va_join (wr := [(h0, .inr (10, oF q)), ((q 15), .inl ((cq 15), 7, .inl (fun _ => 0)))]) (w1 := [((q 9), .inr (8, [.ref (q 90), .int 5, .ref (q 91), .int 0, .int 0, .int 0])), ((q 90), .inl ((cq 90), 60, .inl f_25))]) hP hD [2, 3] [0, 1] rfl rfl (by decide) (by decide) hk1 hFc hP1 hD1
              have hK := hK.app hK1
              have hP : va_P (dC, dI) vwCl [(h0, .inr (10, oF q)), ((q 15), .inl ((cq 15), 7, .inl (fun _ => 0))), ((q 9), .inr (8, [.ref (q 90), .int 5, .ref (q 91), .int 0, .int 0, .int 0])), ((q 90), .inl ((cq 90), 60, .inl f_25))] H := hP
              have hD : va_D A [(h0, .inr (10, oF q)), ((q 15), .inl ((cq 15), 7, .inl (fun _ => 0))), ((q 9), .inr (8, [.ref (q 90), .int 5, .ref (q 91), .int 0, .int 0, .int 0])), ((q 90), .inl ((cq 90), 60, .inl f_25))] := hD
              have hK : va_K (dC, dI) vwCl [((cq 15), .int), ((cq 90), .int), ((cq 90), .int), ((cq 90), .int), ((cq 90), .int), ((cq 90), .int), ((cq 90), .int)] s := hK
              clear hP1 hK1 hD1 hk1 hz1 hvm ht hPc hDc hKc hFc
              refine lv_iinc (v := 5) (lv' := [(4, .int 5), (0, .ref h0), (1, .int a1), (2, .long a2)]) hx hb dX10_feed_67 hl (k := 0) rfl (by decide) (by decide) rfl (fun ls hl => ?_)
              refine lv_goto (tgt := 42) hx hb dX10_feed_70 (by decide) ?_
              refine lv_iload hx hb dX10_feed_42 (lv_at hl 0 rfl) ?_
              refine lv_iload_n hx hb dX10_feed_44 rfl (lv_at hl 2 rfl) ?_
              refine lv_icmp_ge (tgt := 73) hx hb dX10_feed_45 (by decide) (fun c_26 => ?_) (fun c_26 => ?_)
              · refine lv_aload_n hx hb dX10_feed_73 rfl (lv_at hl 1 rfl) ?_
                refine va_get (D := (dC, dI)) (ci := 10) (v := .ref (q 9)) (C := RX10) (T := TX10) (N := 16) hx hb hts in_wsX10_feed_X10 hown hK hP 0 rfl rfl 9 (by decide) (hts (.fieldLink RX10 37 "ShipOffice" "tape" "LShipOffice$Tape;") (by decide +kernel)) (fun _ h9 => h9) rfl dX10_feed_74 ?_
                refine va_get (D := (dC, dI)) (ci := 8) (v := .int 5) (C := RX8) (T := TX8) (N := 6) hx hb hts in_wsX10_feed_X8 hown hK hP 2 rfl rfl 1 (by decide) (hts (.fieldLink RX10 169 "ShipOffice$Tape" "size" "I") (by decide +kernel)) (fun _ h9 => h9) rfl dX10_feed_77 ?_
                exact W.iret (v := 5) hx hb hr (fun t ht hW => ⟨⟨5, (), rfl, (by obtain rfl : a1 = 5 := feq c_22 c_26 (by decide); decide), trivial⟩, hS.F ht⟩) hS.2.2 dX10_feed_80
              · refine lv_aload_n hx hb dX10_feed_48 rfl (lv_at hl 1 rfl) ?_
                refine va_get (D := (dC, dI)) (ci := 10) (v := .ref (q 9)) (C := RX10) (T := TX10) (N := 16) hx hb hts in_wsX10_feed_X10 hown hK hP 0 rfl rfl 9 (by decide) (hts (.fieldLink RX10 37 "ShipOffice" "tape" "LShipOffice$Tape;") (by decide +kernel)) (fun _ h9 => h9) rfl dX10_feed_49 ?_
                refine lv_lload_n hx hb dX10_feed_52 rfl (lv_at hl 3 rfl) ?_
                refine lv_bipush (v := 8) hx hb dX10_feed_53 (by decide) ?_
                refine lv_iload hx hb dX10_feed_55 (lv_at hl 0 rfl) ?_
                refine lv_imul hx hb dX10_feed_57 ?_
                refine lv_topi (fun y ey => ?_)
                obtain rfl : y = 40 := ey.trans (by decide)
                refine lv_lshr (v := a2 >>> ((40 : Int32).toInt64 &&& 63)) hx hb dX10_feed_58 rfl ?_
                refine lv_ldc2 (v := 255) hx hb hown (hts (.constantLong RX10 172 (255)) (by decide +kernel)) dX10_feed_59 ?_
                refine lv_land hx hb dX10_feed_62 ?_
                refine lv_l2i (v := ((a2 >>> ((40 : Int32).toInt64 &&& 63)) &&& 255 : Int64).toInt32) hx hb dX10_feed_63 rfl ?_
                have hPc := hP.sub (ws' := [((q 9), .inr (8, [.ref (q 90), .int 5, .ref (q 91), .int 0, .int 0, .int 0])), ((q 90), .inl ((cq 90), 60, .inl f_25))]) [2, 3] rfl
                have hDc := hD.sub (ws' := [((q 9), .inr (8, [.ref (q 90), .int 5, .ref (q 91), .int 0, .int 0, .int 0])), ((q 90), .inl ((cq 90), 60, .inl f_25))]) [2, 3] (by decide) rfl
                have hKc := hK.sub (tys' := [((cq 90), .int)]) [1] rfl
                have hFc := va_free (wc := [((q 9), .inr (8, [.ref (q 90), .int 5, .ref (q 91), .int 0, .int 0, .int 0])), ((q 90), .inl ((cq 90), 60, .inl f_25))]) hD hS hA [2, 3] rfl
                refine va_callv (va_runV (As := [.int (((a2 >>> ((40 : Int32).toInt64 &&& 63)) &&& 255 : Int64).toInt32)]) (rest := []) ⟨hx, hb, hml, hown, hts⟩ (c_X8_add_5 l dC dI H.size h0 q cq f_25 (((a2 >>> ((40 : Int32).toInt64 &&& 63)) &&& 255 : Int64).toInt32)) (cwV 1 hts gX10_feed_X8_add rfl rfl rfl (by decide +kernel) ⟨(Nat.le_of_ble_eq_true rfl), (Nat.le_of_ble_eq_true rfl)⟩) (pr_V (r := (RX8, TX8, 6)) hPc hKc hDc 0 8 rfl rfl) rfl rfl hl.1 rfl (lv_room (Nat.le_of_ble_eq_true rfl)) dX10_feed_64 ⟨(Nat.le_of_ble_eq_true rfl), (Nat.le_of_ble_eq_true rfl)⟩) hS (fun q _ h => hFc q h) hFc (fun u t H locs ht hvm w_27 hB hz1 hk1 hS => ?_)
                obtain ⟨f_29, rfl⟩ : ∃ z, z = u := ⟨_, rfl⟩
                obtain ⟨hP1, hK1, hD1⟩ := hB
                rw [ht] at hP1
                have hK1 := va_K.moved hvm.symm hK1
                obtain ⟨hP, hD⟩ := va_join (wr := [(h0, .inr (10, oF q)), ((q 15), .inl ((cq 15), 7, .inl (fun _ => 0)))]) (w1 := [((q 9), .inr (8, [.ref (q 90), .int 6, .ref (q 91), .int 0, .int 0, .int 0])), ((q 90), .inl ((cq 90), 60, .inl f_29))]) hP hD [2, 3] [0, 1] rfl rfl (by decide) (by decide) hk1 hFc hP1 hD1
                have hK := hK.app hK1
                have hP : va_P (dC, dI) vwCl [(h0, .inr (10, oF q)), ((q 15), .inl ((cq 15), 7, .inl (fun _ => 0))), ((q 9), .inr (8, [.ref (q 90), .int 6, .ref (q 91), .int 0, .int 0, .int 0])), ((q 90), .inl ((cq 90), 60, .inl f_29))] H := hP
                have hD : va_D A [(h0, .inr (10, oF q)), ((q 15), .inl ((cq 15), 7, .inl (fun _ => 0))), ((q 9), .inr (8, [.ref (q 90), .int 6, .ref (q 91), .int 0, .int 0, .int 0])), ((q 90), .inl ((cq 90), 60, .inl f_29))] := hD
                have hK : va_K (dC, dI) vwCl [((cq 15), .int), ((cq 90), .int), ((cq 90), .int), ((cq 90), .int), ((cq 90), .int), ((cq 90), .int), ((cq 90), .int), ((cq 90), .int)] s := hK
                clear hP1 hK1 hD1 hk1 hz1 hvm ht hPc hDc hKc hFc
                refine lv_iinc (v := 6) (lv' := [(4, .int 6), (0, .ref h0), (1, .int a1), (2, .long a2)]) hx hb dX10_feed_67 hl (k := 0) rfl (by decide) (by decide) rfl (fun ls hl => ?_)
                refine lv_goto (tgt := 42) hx hb dX10_feed_70 (by decide) ?_
                refine lv_iload hx hb dX10_feed_42 (lv_at hl 0 rfl) ?_
                refine lv_iload_n hx hb dX10_feed_44 rfl (lv_at hl 2 rfl) ?_
                refine lv_icmp_ge (tgt := 73) hx hb dX10_feed_45 (by decide) (fun c_30 => ?_) (fun c_30 => ?_)
                · refine lv_aload_n hx hb dX10_feed_73 rfl (lv_at hl 1 rfl) ?_
                  refine va_get (D := (dC, dI)) (ci := 10) (v := .ref (q 9)) (C := RX10) (T := TX10) (N := 16) hx hb hts in_wsX10_feed_X10 hown hK hP 0 rfl rfl 9 (by decide) (hts (.fieldLink RX10 37 "ShipOffice" "tape" "LShipOffice$Tape;") (by decide +kernel)) (fun _ h9 => h9) rfl dX10_feed_74 ?_
                  refine va_get (D := (dC, dI)) (ci := 8) (v := .int 6) (C := RX8) (T := TX8) (N := 6) hx hb hts in_wsX10_feed_X8 hown hK hP 2 rfl rfl 1 (by decide) (hts (.fieldLink RX10 169 "ShipOffice$Tape" "size" "I") (by decide +kernel)) (fun _ h9 => h9) rfl dX10_feed_77 ?_
                  exact W.iret (v := 6) hx hb hr (fun t ht hW => ⟨⟨6, (), rfl, (by obtain rfl : a1 = 6 := feq c_26 c_30 (by decide); decide), trivial⟩, hS.F ht⟩) hS.2.2 dX10_feed_80
                · refine lv_aload_n hx hb dX10_feed_48 rfl (lv_at hl 1 rfl) ?_
                  refine va_get (D := (dC, dI)) (ci := 10) (v := .ref (q 9)) (C := RX10) (T := TX10) (N := 16) hx hb hts in_wsX10_feed_X10 hown hK hP 0 rfl rfl 9 (by decide) (hts (.fieldLink RX10 37 "ShipOffice" "tape" "LShipOffice$Tape;") (by decide +kernel)) (fun _ h9 => h9) rfl dX10_feed_49 ?_
                  refine lv_lload_n hx hb dX10_feed_52 rfl (lv_at hl 3 rfl) ?_
                  refine lv_bipush (v := 8) hx hb dX10_feed_53 (by decide) ?_
                  refine lv_iload hx hb dX10_feed_55 (lv_at hl 0 rfl) ?_
                  refine lv_imul hx hb dX10_feed_57 ?_
                  refine lv_topi (fun y ey => ?_)
                  obtain rfl : y = 48 := ey.trans (by decide)
                  refine lv_lshr (v := a2 >>> ((48 : Int32).toInt64 &&& 63)) hx hb dX10_feed_58 rfl ?_
                  refine lv_ldc2 (v := 255) hx hb hown (hts (.constantLong RX10 172 (255)) (by decide +kernel)) dX10_feed_59 ?_
                  refine lv_land hx hb dX10_feed_62 ?_
                  refine lv_l2i (v := ((a2 >>> ((48 : Int32).toInt64 &&& 63)) &&& 255 : Int64).toInt32) hx hb dX10_feed_63 rfl ?_
                  have hPc := hP.sub (ws' := [((q 9), .inr (8, [.ref (q 90), .int 6, .ref (q 91), .int 0, .int 0, .int 0])), ((q 90), .inl ((cq 90), 60, .inl f_29))]) [2, 3] rfl
                  have hDc := hD.sub (ws' := [((q 9), .inr (8, [.ref (q 90), .int 6, .ref (q 91), .int 0, .int 0, .int 0])), ((q 90), .inl ((cq 90), 60, .inl f_29))]) [2, 3] (by decide) rfl
                  have hKc := hK.sub (tys' := [((cq 90), .int)]) [1] rfl
                  have hFc := va_free (wc := [((q 9), .inr (8, [.ref (q 90), .int 6, .ref (q 91), .int 0, .int 0, .int 0])), ((q 90), .inl ((cq 90), 60, .inl f_29))]) hD hS hA [2, 3] rfl
                  refine va_callv (va_runV (As := [.int (((a2 >>> ((48 : Int32).toInt64 &&& 63)) &&& 255 : Int64).toInt32)]) (rest := []) ⟨hx, hb, hml, hown, hts⟩ (c_X8_add_6 l dC dI H.size h0 q cq f_29 (((a2 >>> ((48 : Int32).toInt64 &&& 63)) &&& 255 : Int64).toInt32)) (cwV 1 hts gX10_feed_X8_add rfl rfl rfl (by decide +kernel) ⟨(Nat.le_of_ble_eq_true rfl), (Nat.le_of_ble_eq_true rfl)⟩) (pr_V (r := (RX8, TX8, 6)) hPc hKc hDc 0 8 rfl rfl) rfl rfl hl.1 rfl (lv_room (Nat.le_of_ble_eq_true rfl)) dX10_feed_64 ⟨(Nat.le_of_ble_eq_true rfl), (Nat.le_of_ble_eq_true rfl)⟩) hS (fun q _ h => hFc q h) hFc (fun u t H locs ht hvm w_31 hB hz1 hk1 hS => ?_)
                  obtain ⟨f_33, rfl⟩ : ∃ z, z = u := ⟨_, rfl⟩
                  obtain ⟨hP1, hK1, hD1⟩ := hB
                  rw [ht] at hP1
                  have hK1 := va_K.moved hvm.symm hK1
                  obtain ⟨hP, hD⟩ := va_join (wr := [(h0, .inr (10, oF q)), ((q 15), .inl ((cq 15), 7, .inl (fun _ => 0)))]) (w1 := [((q 9), .inr (8, [.ref (q 90), .int 7, .ref (q 91), .int 0, .int 0, .int 0])), ((q 90), .inl ((cq 90), 60, .inl f_33))]) hP hD [2, 3] [0, 1] rfl rfl (by decide) (by decide) hk1 hFc hP1 hD1
                  have hK := hK.app hK1
                  have hP : va_P (dC, dI) vwCl [(h0, .inr (10, oF q)), ((q 15), .inl ((cq 15), 7, .inl (fun _ => 0))), ((q 9), .inr (8, [.ref (q 90), .int 7, .ref (q 91), .int 0, .int 0, .int 0])), ((q 90), .inl ((cq 90), 60, .inl f_33))] H := hP
                  have hD : va_D A [(h0, .inr (10, oF q)), ((q 15), .inl ((cq 15), 7, .inl (fun _ => 0))), ((q 9), .inr (8, [.ref (q 90), .int 7, .ref (q 91), .int 0, .int 0, .int 0])), ((q 90), .inl ((cq 90), 60, .inl f_33))] := hD
                  have hK : va_K (dC, dI) vwCl [((cq 15), .int), ((cq 90), .int), ((cq 90), .int), ((cq 90), .int), ((cq 90), .int), ((cq 90), .int), ((cq 90), .int), ((cq 90), .int), ((cq 90), .int)] s := hK
                  clear hP1 hK1 hD1 hk1 hz1 hvm ht hPc hDc hKc hFc
                  refine lv_iinc (v := 7) (lv' := [(4, .int 7), (0, .ref h0), (1, .int a1), (2, .long a2)]) hx hb dX10_feed_67 hl (k := 0) rfl (by decide) (by decide) rfl (fun ls hl => ?_)
                  refine lv_goto (tgt := 42) hx hb dX10_feed_70 (by decide) ?_
                  refine lv_iload hx hb dX10_feed_42 (lv_at hl 0 rfl) ?_
                  refine lv_iload_n hx hb dX10_feed_44 rfl (lv_at hl 2 rfl) ?_
                  refine lv_icmp_ge (tgt := 73) hx hb dX10_feed_45 (by decide) (fun c_34 => ?_) (fun c_34 => ?_)
                  · refine lv_aload_n hx hb dX10_feed_73 rfl (lv_at hl 1 rfl) ?_
                    refine va_get (D := (dC, dI)) (ci := 10) (v := .ref (q 9)) (C := RX10) (T := TX10) (N := 16) hx hb hts in_wsX10_feed_X10 hown hK hP 0 rfl rfl 9 (by decide) (hts (.fieldLink RX10 37 "ShipOffice" "tape" "LShipOffice$Tape;") (by decide +kernel)) (fun _ h9 => h9) rfl dX10_feed_74 ?_
                    refine va_get (D := (dC, dI)) (ci := 8) (v := .int 7) (C := RX8) (T := TX8) (N := 6) hx hb hts in_wsX10_feed_X8 hown hK hP 2 rfl rfl 1 (by decide) (hts (.fieldLink RX10 169 "ShipOffice$Tape" "size" "I") (by decide +kernel)) (fun _ h9 => h9) rfl dX10_feed_77 ?_
                    exact W.iret (v := 7) hx hb hr (fun t ht hW => ⟨⟨7, (), rfl, (by obtain rfl : a1 = 7 := feq c_30 c_34 (by decide); decide), trivial⟩, hS.F ht⟩) hS.2.2 dX10_feed_80
                  · refine lv_aload_n hx hb dX10_feed_48 rfl (lv_at hl 1 rfl) ?_
                    refine va_get (D := (dC, dI)) (ci := 10) (v := .ref (q 9)) (C := RX10) (T := TX10) (N := 16) hx hb hts in_wsX10_feed_X10 hown hK hP 0 rfl rfl 9 (by decide) (hts (.fieldLink RX10 37 "ShipOffice" "tape" "LShipOffice$Tape;") (by decide +kernel)) (fun _ h9 => h9) rfl dX10_feed_49 ?_
                    refine lv_lload_n hx hb dX10_feed_52 rfl (lv_at hl 3 rfl) ?_
                    refine lv_bipush (v := 8) hx hb dX10_feed_53 (by decide) ?_
                    refine lv_iload hx hb dX10_feed_55 (lv_at hl 0 rfl) ?_
                    refine lv_imul hx hb dX10_feed_57 ?_
                    refine lv_topi (fun y ey => ?_)
                    obtain rfl : y = 56 := ey.trans (by decide)
                    refine lv_lshr (v := a2 >>> ((56 : Int32).toInt64 &&& 63)) hx hb dX10_feed_58 rfl ?_
                    refine lv_ldc2 (v := 255) hx hb hown (hts (.constantLong RX10 172 (255)) (by decide +kernel)) dX10_feed_59 ?_
                    refine lv_land hx hb dX10_feed_62 ?_
                    refine lv_l2i (v := ((a2 >>> ((56 : Int32).toInt64 &&& 63)) &&& 255 : Int64).toInt32) hx hb dX10_feed_63 rfl ?_
                    have hPc := hP.sub (ws' := [((q 9), .inr (8, [.ref (q 90), .int 7, .ref (q 91), .int 0, .int 0, .int 0])), ((q 90), .inl ((cq 90), 60, .inl f_33))]) [2, 3] rfl
                    have hDc := hD.sub (ws' := [((q 9), .inr (8, [.ref (q 90), .int 7, .ref (q 91), .int 0, .int 0, .int 0])), ((q 90), .inl ((cq 90), 60, .inl f_33))]) [2, 3] (by decide) rfl
                    have hKc := hK.sub (tys' := [((cq 90), .int)]) [1] rfl
                    have hFc := va_free (wc := [((q 9), .inr (8, [.ref (q 90), .int 7, .ref (q 91), .int 0, .int 0, .int 0])), ((q 90), .inl ((cq 90), 60, .inl f_33))]) hD hS hA [2, 3] rfl
                    refine va_callv (va_runV (As := [.int (((a2 >>> ((56 : Int32).toInt64 &&& 63)) &&& 255 : Int64).toInt32)]) (rest := []) ⟨hx, hb, hml, hown, hts⟩ (c_X8_add_7 l dC dI H.size h0 q cq f_33 (((a2 >>> ((56 : Int32).toInt64 &&& 63)) &&& 255 : Int64).toInt32)) (cwV 1 hts gX10_feed_X8_add rfl rfl rfl (by decide +kernel) ⟨(Nat.le_of_ble_eq_true rfl), (Nat.le_of_ble_eq_true rfl)⟩) (pr_V (r := (RX8, TX8, 6)) hPc hKc hDc 0 8 rfl rfl) rfl rfl hl.1 rfl (lv_room (Nat.le_of_ble_eq_true rfl)) dX10_feed_64 ⟨(Nat.le_of_ble_eq_true rfl), (Nat.le_of_ble_eq_true rfl)⟩) hS (fun q _ h => hFc q h) hFc (fun u t H locs ht hvm w_35 hB hz1 hk1 hS => ?_)
                    obtain ⟨f_37, rfl⟩ : ∃ z, z = u := ⟨_, rfl⟩
                    obtain ⟨hP1, hK1, hD1⟩ := hB
                    rw [ht] at hP1
                    have hK1 := va_K.moved hvm.symm hK1
                    obtain ⟨hP, hD⟩ := va_join (wr := [(h0, .inr (10, oF q)), ((q 15), .inl ((cq 15), 7, .inl (fun _ => 0)))]) (w1 := [((q 9), .inr (8, [.ref (q 90), .int 8, .ref (q 91), .int 0, .int 0, .int 0])), ((q 90), .inl ((cq 90), 60, .inl f_37))]) hP hD [2, 3] [0, 1] rfl rfl (by decide) (by decide) hk1 hFc hP1 hD1
                    have hK := hK.app hK1
                    have hP : va_P (dC, dI) vwCl [(h0, .inr (10, oF q)), ((q 15), .inl ((cq 15), 7, .inl (fun _ => 0))), ((q 9), .inr (8, [.ref (q 90), .int 8, .ref (q 91), .int 0, .int 0, .int 0])), ((q 90), .inl ((cq 90), 60, .inl f_37))] H := hP
                    have hD : va_D A [(h0, .inr (10, oF q)), ((q 15), .inl ((cq 15), 7, .inl (fun _ => 0))), ((q 9), .inr (8, [.ref (q 90), .int 8, .ref (q 91), .int 0, .int 0, .int 0])), ((q 90), .inl ((cq 90), 60, .inl f_37))] := hD
                    have hK : va_K (dC, dI) vwCl [((cq 15), .int), ((cq 90), .int), ((cq 90), .int), ((cq 90), .int), ((cq 90), .int), ((cq 90), .int), ((cq 90), .int), ((cq 90), .int), ((cq 90), .int), ((cq 90), .int)] s := hK
                    clear hP1 hK1 hD1 hk1 hz1 hvm ht hPc hDc hKc hFc
                    refine lv_iinc (v := 8) (lv' := [(4, .int 8), (0, .ref h0), (1, .int a1), (2, .long a2)]) hx hb dX10_feed_67 hl (k := 0) rfl (by decide) (by decide) rfl (fun ls hl => ?_)
                    refine lv_goto (tgt := 42) hx hb dX10_feed_70 (by decide) ?_
                    refine lv_iload hx hb dX10_feed_42 (lv_at hl 0 rfl) ?_
                    refine lv_iload_n hx hb dX10_feed_44 rfl (lv_at hl 2 rfl) ?_
                    refine lv_icmp_ge (tgt := 73) hx hb dX10_feed_45 (by decide) (fun c_38 => ?_) (fun c_38 => absurd c_38 (fun h => h (ile_of_nlt c_2 (by decide))))
                    refine lv_aload_n hx hb dX10_feed_73 rfl (lv_at hl 1 rfl) ?_
                    refine va_get (D := (dC, dI)) (ci := 10) (v := .ref (q 9)) (C := RX10) (T := TX10) (N := 16) hx hb hts in_wsX10_feed_X10 hown hK hP 0 rfl rfl 9 (by decide) (hts (.fieldLink RX10 37 "ShipOffice" "tape" "LShipOffice$Tape;") (by decide +kernel)) (fun _ h9 => h9) rfl dX10_feed_74 ?_
                    refine va_get (D := (dC, dI)) (ci := 8) (v := .int 8) (C := RX8) (T := TX8) (N := 6) hx hb hts in_wsX10_feed_X8 hown hK hP 2 rfl rfl 1 (by decide) (hts (.fieldLink RX10 169 "ShipOffice$Tape" "size" "I") (by decide +kernel)) (fun _ h9 => h9) rfl dX10_feed_77 ?_
                    exact W.iret (v := 8) hx hb hr (fun t ht hW => ⟨⟨8, (), rfl, (by obtain rfl : a1 = 8 := feq c_34 c_38 (by decide); decide), trivial⟩, hS.F ht⟩) hS.2.2 dX10_feed_80
  · refine lv_aload_n hx hb dX10_feed_5 rfl (lv_at hl 0 rfl) ?_
    refine lv_bipush (v := (-4)) hx hb dX10_feed_6 (by decide) ?_
    have hPc := hP.sub (ws' := [(h0, .inr (10, oF q)), ((q 15), .inl ((cq 15), 7, .inl (fun _ => 0)))]) [0, 1] rfl
    have hDc := hD.sub (ws' := [(h0, .inr (10, oF q)), ((q 15), .inl ((cq 15), 7, .inl (fun _ => 0)))]) [0, 1] (by decide) rfl
    have hKc := hK.sub (tys' := [((cq 15), .int)]) [0] rfl
    have hFc := va_free (wc := [(h0, .inr (10, oF q)), ((q 15), .inl ((cq 15), 7, .inl (fun _ => 0)))]) hD hS hA [0, 1] rfl
    refine va_calli (va_runV (As := [.int (-4)]) (rest := []) ⟨hx, hb, hml, hown, hts⟩ (c_X10_refuse l dC dI s.heap.size h0 q cq (-4) (by unfold vp_in; decide)) (cwV 1 hts gX10_feed_X10_refuse rfl rfl rfl (by decide +kernel) ⟨(Nat.le_of_ble_eq_true rfl), (Nat.le_of_ble_eq_true rfl)⟩) (pr_V (r := (RX10, TX10, 16)) hPc hKc hDc 0 10 rfl rfl) rfl rfl hl.1 rfl (lv_room (Nat.le_of_ble_eq_true rfl)) dX10_feed_8 ⟨(Nat.le_of_ble_eq_true rfl), (Nat.le_of_ble_eq_true rfl)⟩) hS (fun q _ h => hFc q h) hFc (fun r_40 u t H locs ht hvm w_39 hB hz1 hk1 hS => ?_)
    subst w_39
    exact W.iret (v := (-4)) hx hb hr (fun t ht hW => ⟨⟨(-4), (), rfl, (by simp [sp_feed, c_1]), trivial⟩, hS.F ht⟩) hS.2.2 dX10_feed_11
set_option maxHeartbeats 4000000 in
set_option maxRecDepth 100000 in
theorem c_X8_sees (l : Launch) (dC : Nat → ClassId) (dI : Nat → Nat → Nat) (sz : Nat) (h0 : Nat) (q : Nat → Nat) (cq : Nat → ClassId) (v : Int32) : Met l yX8_sees wsX8_sees ({ frames := 0, cells := 0, slots := 0, locals := 0 }) (va_Pc [.ref (q 9), .int v] (pcW (dC, dI) [] [((q 9), .inr (8, [.ref (q 90), .int 0, .ref (q 91), .int 0, .int 0, .int (-1)]))] sz)) (va_Qi (fun (r : Int32) (u : Unit) => r = 0) (fun _ _ => True) (va_A [] sz)) 0 0 (va_A [] sz) := by
  refine Met.ofW (cc := cX8_sees) (maxL := 2) (ret := (some .boolean)) (by decide) rfl ?_
  intro p e s m args below meth c s₁ B hml hv
  obtain ⟨rfl, hsz, hP, hK, hD0⟩ := hv
  have hx := B.exec
  have hb := B.bytes
  have hr := B.returns
  have hts := atoms_spec (ws := wsX8_sees) B.pre
  have hown : s.vm.findClass RX8 = some m.cls := findClass_of_methodNamed B.named
  have hlocks := B.notSynchronized
  subst hsz
  have hD := hD0
  generalize hAe : va_A [] s.heap.size = A at ⊢
  have hA : ∀ q : Nat, s.heap.size ≤ q → A q := fun q h => by rw [← hAe]; exact Or.inr h
  have hS : va_S A s.heap s.heap [] := va_S.rf
  have hP : va_P (dC, dI) vwCl [((q 9), .inr (8, [.ref (q 90), .int 0, .ref (q 91), .int 0, .int 0, .int (-1)]))] s.heap := hP
  have hl := lv_entry ([.ref (q 9), .int v]) (n := 2) (Nat.le_of_ble_eq_true rfl)
  rw [lg_entry_eq]
  generalize (lg_sl ([.ref (q 9), .int v]) ++ List.replicate (2 - (lg_sl ([.ref (q 9), .int v])).length) Slot.unset).toArray = ls at hl ⊢
  have hl : lv_has ls 2 [(0, .ref (q 9)), (1, .int v)] := hl
  refine lv_aload_n hx hb dX8_sees_0 rfl (lv_at hl 0 rfl) ?_
  refine va_get (D := (dC, dI)) (ci := 8) (v := .int 0) (C := RX8) (T := TX8) (N := 6) hx hb hts in_wsX8_sees_X8 hown hK hP 0 rfl rfl 4 (by decide) (hts (.fieldLink RX8 22 "ShipOffice$Tape" "at" "I") (by decide +kernel)) (fun _ h9 => h9) rfl dX8_sees_1 ?_
  refine lv_aload_n hx hb dX8_sees_4 rfl (lv_at hl 0 rfl) ?_
  refine va_get (D := (dC, dI)) (ci := 8) (v := .int 0) (C := RX8) (T := TX8) (N := 6) hx hb hts in_wsX8_sees_X8 hown hK hP 0 rfl rfl 1 (by decide) (hts (.fieldLink RX8 18 "ShipOffice$Tape" "size" "I") (by decide +kernel)) (fun _ h9 => h9) rfl dX8_sees_5 ?_
  refine lv_icmp_ge (tgt := 28) hx hb dX8_sees_8 (by decide) (fun _ => ?_) (fun c_1 => absurd c_1 (by decide))
  refine lv_iconst (v := 0) hx hb dX8_sees_28 (by decide) ?_
  exact W.zret (v := 0) hx hb hr rfl (fun t ht hW => ⟨⟨0, (), rfl, rfl, trivial⟩, hS.F ht⟩) hS.2.2 dX8_sees_29
set_option maxHeartbeats 4000000 in
set_option maxRecDepth 100000 in
theorem c_X8_seesDigit (l : Launch) (dC : Nat → ClassId) (dI : Nat → Nat → Nat) (sz : Nat) (h0 : Nat) (q : Nat → Nat) (cq : Nat → ClassId) : Met l yX8_seesDigit wsX8_seesDigit ({ frames := 0, cells := 0, slots := 0, locals := 0 }) (va_Pc [.ref (q 9)] (pcW (dC, dI) [] [((q 9), .inr (8, [.ref (q 90), .int 0, .ref (q 91), .int 0, .int 0, .int (-1)]))] sz)) (va_Qi (fun (r : Int32) (u : Unit) => r = 0) (fun _ _ => True) (va_A [] sz)) 0 0 (va_A [] sz) := by
  refine Met.ofW (cc := cX8_seesDigit) (maxL := 1) (ret := (some .boolean)) (by decide) rfl ?_
  intro p e s m args below meth c s₁ B hml hv
  obtain ⟨rfl, hsz, hP, hK, hD0⟩ := hv
  have hx := B.exec
  have hb := B.bytes
  have hr := B.returns
  have hts := atoms_spec (ws := wsX8_seesDigit) B.pre
  have hown : s.vm.findClass RX8 = some m.cls := findClass_of_methodNamed B.named
  have hlocks := B.notSynchronized
  subst hsz
  have hD := hD0
  generalize hAe : va_A [] s.heap.size = A at ⊢
  have hA : ∀ q : Nat, s.heap.size ≤ q → A q := fun q h => by rw [← hAe]; exact Or.inr h
  have hS : va_S A s.heap s.heap [] := va_S.rf
  have hP : va_P (dC, dI) vwCl [((q 9), .inr (8, [.ref (q 90), .int 0, .ref (q 91), .int 0, .int 0, .int (-1)]))] s.heap := hP
  have hl := lv_entry ([.ref (q 9)]) (n := 1) (Nat.le_of_ble_eq_true rfl)
  rw [lg_entry_eq]
  generalize (lg_sl ([.ref (q 9)]) ++ List.replicate (1 - (lg_sl ([.ref (q 9)])).length) Slot.unset).toArray = ls at hl ⊢
  have hl : lv_has ls 1 [(0, .ref (q 9))] := hl
  refine lv_aload_n hx hb dX8_seesDigit_0 rfl (lv_at hl 0 rfl) ?_
  refine va_get (D := (dC, dI)) (ci := 8) (v := .int 0) (C := RX8) (T := TX8) (N := 6) hx hb hts in_wsX8_seesDigit_X8 hown hK hP 0 rfl rfl 4 (by decide) (hts (.fieldLink RX8 22 "ShipOffice$Tape" "at" "I") (by decide +kernel)) (fun _ h9 => h9) rfl dX8_seesDigit_1 ?_
  refine lv_aload_n hx hb dX8_seesDigit_4 rfl (lv_at hl 0 rfl) ?_
  refine va_get (D := (dC, dI)) (ci := 8) (v := .int 0) (C := RX8) (T := TX8) (N := 6) hx hb hts in_wsX8_seesDigit_X8 hown hK hP 0 rfl rfl 1 (by decide) (hts (.fieldLink RX8 18 "ShipOffice$Tape" "size" "I") (by decide +kernel)) (fun _ h9 => h9) rfl dX8_seesDigit_5 ?_
  refine lv_icmp_ge (tgt := 43) hx hb dX8_seesDigit_8 (by decide) (fun _ => ?_) (fun c_1 => absurd c_1 (by decide))
  refine lv_iconst (v := 0) hx hb dX8_seesDigit_43 (by decide) ?_
  exact W.zret (v := 0) hx hb hr rfl (fun t ht hW => ⟨⟨0, (), rfl, rfl, trivial⟩, hS.F ht⟩) hS.2.2 dX8_seesDigit_44
set_option maxHeartbeats 4000000 in
set_option maxRecDepth 100000 in
theorem c_X8_letterHere (l : Launch) (dC : Nat → ClassId) (dI : Nat → Nat → Nat) (sz : Nat) (tL tS : Nat) (h0 : Nat) (q : Nat → Nat) (cq : Nat → ClassId) : Met l yX8_letterHere wsX8_letterHere ({ frames := 1, cells := 0, slots := 0, locals := 21 }) (va_Pc [.ref (q 9)] (pcS (dC, dI) [] [((q 9), .inr (8, [.ref (q 90), .int 0, .ref (q 91), .int 0, .int 0, .int (-1)]))] sz tL tS [])) (va_Qi (fun (r : Int32) (u : Unit) => r = -1) (fun _ _ => True) (va_A [] sz)) 0 0 (va_A [] sz) := by
  refine Met.ofW (cc := cX8_letterHere) (maxL := 2) (ret := (some .int)) (by decide) rfl ?_
  intro p e s m args below meth c s₁ B hml hv
  obtain ⟨rfl, ⟨hsz, hP, hK, hD0⟩, hZ⟩ := hv
  have hx := B.exec
  have hb := B.bytes
  have hr := B.returns
  have hts := atoms_spec (ws := wsX8_letterHere) B.pre
  have hown : s.vm.findClass RX8 = some m.cls := findClass_of_methodNamed B.named
  have hlocks := B.notSynchronized
  subst hsz
  have hD := hD0
  generalize hAe : va_A [] s.heap.size = A at hZ ⊢
  have hA : ∀ q : Nat, s.heap.size ≤ q → A q := fun q h => by rw [← hAe]; exact Or.inr h
  have hS : va_S A s.heap s.heap [] := va_S.rf
  have hP : va_P (dC, dI) vwCl [((q 9), .inr (8, [.ref (q 90), .int 0, .ref (q 91), .int 0, .int 0, .int (-1)]))] s.heap := hP
  have hl := lv_entry ([.ref (q 9)]) (n := 2) (Nat.le_of_ble_eq_true rfl)
  rw [lg_entry_eq]
  generalize (lg_sl ([.ref (q 9)]) ++ List.replicate (2 - (lg_sl ([.ref (q 9)])).length) Slot.unset).toArray = ls at hl ⊢
  have hl : lv_has ls 2 [(0, .ref (q 9))] := hl
  refine lv_iconst (v := 0) hx hb dX8_letterHere_0 (by decide) ?_
  refine lv_istore_n (lv' := [(1, .int 0), (0, .ref (q 9))]) hx hb dX8_letterHere_1 rfl hl (by decide) rfl (fun ls hl => ?_)
  refine lv_iload_n hx hb dX8_letterHere_2 rfl (lv_at hl 0 rfl) ?_
  refine va_getsN hx hb hZ.1 hS hown (va_Nw.use rfl hZ.2.2.2.2.2.1) (fun _ h9 => h9) dX8_letterHere_3 ?_
  refine va_tlen (v := 8) hx hb hZ.2.1 hS rfl dX8_letterHere_6 ?_
  refine lv_icmp_ge (tgt := 30) hx hb dX8_letterHere_7 (by decide) (fun c_1 => absurd c_1 (by decide)) (fun _ => ?_)
  refine lv_aload_n hx hb dX8_letterHere_10 rfl (lv_at hl 1 rfl) ?_
  refine va_getsN hx hb hZ.1 hS hown (va_Nw.use rfl hZ.2.2.2.2.2.1) (fun _ h9 => h9) dX8_letterHere_11 ?_
  refine lv_iload_n hx hb dX8_letterHere_14 rfl (lv_at hl 0 rfl) ?_
  refine va_tc hx hb hZ.2.1 hS (by unfold vp_in; decide) (v := .int 119) rfl dX8_letterHere_15 ?_
  have hPc := hP.sub (ws' := [((q 9), .inr (8, [.ref (q 90), .int 0, .ref (q 91), .int 0, .int 0, .int (-1)]))]) [0] rfl
  have hDc := hD.sub (ws' := [((q 9), .inr (8, [.ref (q 90), .int 0, .ref (q 91), .int 0, .int 0, .int (-1)]))]) [0] (by decide) rfl
  have hKc := hK.sub (tys' := []) [] rfl
  have hFc : ∀ q, va_A [] s.heap.size q → A q := pu_free hS hA
  refine va_calli (va_runV (As := [.int 119]) (rest := []) ⟨hx, hb, hml, hown, hts⟩ (c_X8_sees l dC dI s.heap.size h0 q cq 119) (cwV 1 hts gX8_letterHere_X8_sees rfl rfl rfl (by decide +kernel) ⟨(Nat.le_of_ble_eq_true rfl), (Nat.le_of_ble_eq_true rfl)⟩) (pr_V (r := (RX8, TX8, 6)) hPc hKc hDc 0 8 rfl rfl) rfl rfl hl.1 rfl (lv_room (Nat.le_of_ble_eq_true rfl)) dX8_letterHere_16 ⟨(Nat.le_of_ble_eq_true rfl), (Nat.le_of_ble_eq_true rfl)⟩) hS (fun q _ h => hFc q h) hFc (fun r_3 u t H locs ht hvm w_2 hB hz1 hk1 hS => ?_)
  have hP := pu_keep hP hk1
  clear hk1 hz1 hvm hB hPc hDc hKc hFc ht
  subst w_2
  refine lv_if_eq (tgt := 24) hx hb dX8_letterHere_19 (by decide) (fun _ => ?_) (fun c_4 => absurd c_4 (by decide))
  refine lv_iinc (v := 1) (lv' := [(1, .int 1), (0, .ref (q 9))]) hx hb dX8_letterHere_24 hl (k := 0) rfl (by decide) (by decide) rfl (fun ls hl => ?_)
  refine lv_goto (tgt := 2) hx hb dX8_letterHere_27 (by decide) ?_
  refine lv_iload_n hx hb dX8_letterHere_2 rfl (lv_at hl 0 rfl) ?_
  refine va_getsN hx hb hZ.1 hS hown (va_Nw.use rfl hZ.2.2.2.2.2.1) (fun _ h9 => h9) dX8_letterHere_3 ?_
  refine va_tlen (v := 8) hx hb hZ.2.1 hS rfl dX8_letterHere_6 ?_
  refine lv_icmp_ge (tgt := 30) hx hb dX8_letterHere_7 (by decide) (fun c_5 => absurd c_5 (by decide)) (fun _ => ?_)
  refine lv_aload_n hx hb dX8_letterHere_10 rfl (lv_at hl 1 rfl) ?_
  refine va_getsN hx hb hZ.1 hS hown (va_Nw.use rfl hZ.2.2.2.2.2.1) (fun _ h9 => h9) dX8_letterHere_11 ?_
  refine lv_iload_n hx hb dX8_letterHere_14 rfl (lv_at hl 0 rfl) ?_
  refine va_tc hx hb hZ.2.1 hS (by unfold vp_in; decide) (v := .int 114) rfl dX8_letterHere_15 ?_
  have hPc := hP.sub (ws' := [((q 9), .inr (8, [.ref (q 90), .int 0, .ref (q 91), .int 0, .int 0, .int (-1)]))]) [0] rfl
  have hDc := hD.sub (ws' := [((q 9), .inr (8, [.ref (q 90), .int 0, .ref (q 91), .int 0, .int 0, .int (-1)]))]) [0] (by decide) rfl
  have hKc := hK.sub (tys' := []) [] rfl
  have hFc : ∀ q, va_A [] H.size q → A q := pu_free hS hA
  refine va_calli (va_runV (As := [.int 114]) (rest := []) ⟨hx, hb, hml, hown, hts⟩ (c_X8_sees l dC dI H.size h0 q cq 114) (cwV 1 hts gX8_letterHere_X8_sees rfl rfl rfl (by decide +kernel) ⟨(Nat.le_of_ble_eq_true rfl), (Nat.le_of_ble_eq_true rfl)⟩) (pr_V (r := (RX8, TX8, 6)) hPc hKc hDc 0 8 rfl rfl) rfl rfl hl.1 rfl (lv_room (Nat.le_of_ble_eq_true rfl)) dX8_letterHere_16 ⟨(Nat.le_of_ble_eq_true rfl), (Nat.le_of_ble_eq_true rfl)⟩) hS (fun q _ h => hFc q h) hFc (fun r_7 u t H locs ht hvm w_6 hB hz1 hk1 hS => ?_)
  have hP := pu_keep hP hk1
  clear hk1 hz1 hvm hB hPc hDc hKc hFc ht
  subst w_6
  refine lv_if_eq (tgt := 24) hx hb dX8_letterHere_19 (by decide) (fun _ => ?_) (fun c_8 => absurd c_8 (by decide))
  refine lv_iinc (v := 2) (lv' := [(1, .int 2), (0, .ref (q 9))]) hx hb dX8_letterHere_24 hl (k := 0) rfl (by decide) (by decide) rfl (fun ls hl => ?_)
  refine lv_goto (tgt := 2) hx hb dX8_letterHere_27 (by decide) ?_
  refine lv_iload_n hx hb dX8_letterHere_2 rfl (lv_at hl 0 rfl) ?_
  refine va_getsN hx hb hZ.1 hS hown (va_Nw.use rfl hZ.2.2.2.2.2.1) (fun _ h9 => h9) dX8_letterHere_3 ?_
  refine va_tlen (v := 8) hx hb hZ.2.1 hS rfl dX8_letterHere_6 ?_
  refine lv_icmp_ge (tgt := 30) hx hb dX8_letterHere_7 (by decide) (fun c_9 => absurd c_9 (by decide)) (fun _ => ?_)
  refine lv_aload_n hx hb dX8_letterHere_10 rfl (lv_at hl 1 rfl) ?_
  refine va_getsN hx hb hZ.1 hS hown (va_Nw.use rfl hZ.2.2.2.2.2.1) (fun _ h9 => h9) dX8_letterHere_11 ?_
  refine lv_iload_n hx hb dX8_letterHere_14 rfl (lv_at hl 0 rfl) ?_
  refine va_tc hx hb hZ.2.1 hS (by unfold vp_in; decide) (v := .int 97) rfl dX8_letterHere_15 ?_
  have hPc := hP.sub (ws' := [((q 9), .inr (8, [.ref (q 90), .int 0, .ref (q 91), .int 0, .int 0, .int (-1)]))]) [0] rfl
  have hDc := hD.sub (ws' := [((q 9), .inr (8, [.ref (q 90), .int 0, .ref (q 91), .int 0, .int 0, .int (-1)]))]) [0] (by decide) rfl
  have hKc := hK.sub (tys' := []) [] rfl
  have hFc : ∀ q, va_A [] H.size q → A q := pu_free hS hA
  refine va_calli (va_runV (As := [.int 97]) (rest := []) ⟨hx, hb, hml, hown, hts⟩ (c_X8_sees l dC dI H.size h0 q cq 97) (cwV 1 hts gX8_letterHere_X8_sees rfl rfl rfl (by decide +kernel) ⟨(Nat.le_of_ble_eq_true rfl), (Nat.le_of_ble_eq_true rfl)⟩) (pr_V (r := (RX8, TX8, 6)) hPc hKc hDc 0 8 rfl rfl) rfl rfl hl.1 rfl (lv_room (Nat.le_of_ble_eq_true rfl)) dX8_letterHere_16 ⟨(Nat.le_of_ble_eq_true rfl), (Nat.le_of_ble_eq_true rfl)⟩) hS (fun q _ h => hFc q h) hFc (fun r_11 u t H locs ht hvm w_10 hB hz1 hk1 hS => ?_)
  have hP := pu_keep hP hk1
  clear hk1 hz1 hvm hB hPc hDc hKc hFc ht
  subst w_10
  refine lv_if_eq (tgt := 24) hx hb dX8_letterHere_19 (by decide) (fun _ => ?_) (fun c_12 => absurd c_12 (by decide))
  refine lv_iinc (v := 3) (lv' := [(1, .int 3), (0, .ref (q 9))]) hx hb dX8_letterHere_24 hl (k := 0) rfl (by decide) (by decide) rfl (fun ls hl => ?_)
  refine lv_goto (tgt := 2) hx hb dX8_letterHere_27 (by decide) ?_
  refine lv_iload_n hx hb dX8_letterHere_2 rfl (lv_at hl 0 rfl) ?_
  refine va_getsN hx hb hZ.1 hS hown (va_Nw.use rfl hZ.2.2.2.2.2.1) (fun _ h9 => h9) dX8_letterHere_3 ?_
  refine va_tlen (v := 8) hx hb hZ.2.1 hS rfl dX8_letterHere_6 ?_
  refine lv_icmp_ge (tgt := 30) hx hb dX8_letterHere_7 (by decide) (fun c_13 => absurd c_13 (by decide)) (fun _ => ?_)
  refine lv_aload_n hx hb dX8_letterHere_10 rfl (lv_at hl 1 rfl) ?_
  refine va_getsN hx hb hZ.1 hS hown (va_Nw.use rfl hZ.2.2.2.2.2.1) (fun _ h9 => h9) dX8_letterHere_11 ?_
  refine lv_iload_n hx hb dX8_letterHere_14 rfl (lv_at hl 0 rfl) ?_
  refine va_tc hx hb hZ.2.1 hS (by unfold vp_in; decide) (v := .int 100) rfl dX8_letterHere_15 ?_
  have hPc := hP.sub (ws' := [((q 9), .inr (8, [.ref (q 90), .int 0, .ref (q 91), .int 0, .int 0, .int (-1)]))]) [0] rfl
  have hDc := hD.sub (ws' := [((q 9), .inr (8, [.ref (q 90), .int 0, .ref (q 91), .int 0, .int 0, .int (-1)]))]) [0] (by decide) rfl
  have hKc := hK.sub (tys' := []) [] rfl
  have hFc : ∀ q, va_A [] H.size q → A q := pu_free hS hA
  refine va_calli (va_runV (As := [.int 100]) (rest := []) ⟨hx, hb, hml, hown, hts⟩ (c_X8_sees l dC dI H.size h0 q cq 100) (cwV 1 hts gX8_letterHere_X8_sees rfl rfl rfl (by decide +kernel) ⟨(Nat.le_of_ble_eq_true rfl), (Nat.le_of_ble_eq_true rfl)⟩) (pr_V (r := (RX8, TX8, 6)) hPc hKc hDc 0 8 rfl rfl) rfl rfl hl.1 rfl (lv_room (Nat.le_of_ble_eq_true rfl)) dX8_letterHere_16 ⟨(Nat.le_of_ble_eq_true rfl), (Nat.le_of_ble_eq_true rfl)⟩) hS (fun q _ h => hFc q h) hFc (fun r_15 u t H locs ht hvm w_14 hB hz1 hk1 hS => ?_)
  have hP := pu_keep hP hk1
  clear hk1 hz1 hvm hB hPc hDc hKc hFc ht
  subst w_14
  refine lv_if_eq (tgt := 24) hx hb dX8_letterHere_19 (by decide) (fun _ => ?_) (fun c_16 => absurd c_16 (by decide))
  refine lv_iinc (v := 4) (lv' := [(1, .int 4), (0, .ref (q 9))]) hx hb dX8_letterHere_24 hl (k := 0) rfl (by decide) (by decide) rfl (fun ls hl => ?_)
  refine lv_goto (tgt := 2) hx hb dX8_letterHere_27 (by decide) ?_
  refine lv_iload_n hx hb dX8_letterHere_2 rfl (lv_at hl 0 rfl) ?_
  refine va_getsN hx hb hZ.1 hS hown (va_Nw.use rfl hZ.2.2.2.2.2.1) (fun _ h9 => h9) dX8_letterHere_3 ?_
  refine va_tlen (v := 8) hx hb hZ.2.1 hS rfl dX8_letterHere_6 ?_
  refine lv_icmp_ge (tgt := 30) hx hb dX8_letterHere_7 (by decide) (fun c_17 => absurd c_17 (by decide)) (fun _ => ?_)
  refine lv_aload_n hx hb dX8_letterHere_10 rfl (lv_at hl 1 rfl) ?_
  refine va_getsN hx hb hZ.1 hS hown (va_Nw.use rfl hZ.2.2.2.2.2.1) (fun _ h9 => h9) dX8_letterHere_11 ?_
  refine lv_iload_n hx hb dX8_letterHere_14 rfl (lv_at hl 0 rfl) ?_
  refine va_tc hx hb hZ.2.1 hS (by unfold vp_in; decide) (v := .int 110) rfl dX8_letterHere_15 ?_
  have hPc := hP.sub (ws' := [((q 9), .inr (8, [.ref (q 90), .int 0, .ref (q 91), .int 0, .int 0, .int (-1)]))]) [0] rfl
  have hDc := hD.sub (ws' := [((q 9), .inr (8, [.ref (q 90), .int 0, .ref (q 91), .int 0, .int 0, .int (-1)]))]) [0] (by decide) rfl
  have hKc := hK.sub (tys' := []) [] rfl
  have hFc : ∀ q, va_A [] H.size q → A q := pu_free hS hA
  refine va_calli (va_runV (As := [.int 110]) (rest := []) ⟨hx, hb, hml, hown, hts⟩ (c_X8_sees l dC dI H.size h0 q cq 110) (cwV 1 hts gX8_letterHere_X8_sees rfl rfl rfl (by decide +kernel) ⟨(Nat.le_of_ble_eq_true rfl), (Nat.le_of_ble_eq_true rfl)⟩) (pr_V (r := (RX8, TX8, 6)) hPc hKc hDc 0 8 rfl rfl) rfl rfl hl.1 rfl (lv_room (Nat.le_of_ble_eq_true rfl)) dX8_letterHere_16 ⟨(Nat.le_of_ble_eq_true rfl), (Nat.le_of_ble_eq_true rfl)⟩) hS (fun q _ h => hFc q h) hFc (fun r_19 u t H locs ht hvm w_18 hB hz1 hk1 hS => ?_)
  have hP := pu_keep hP hk1
  clear hk1 hz1 hvm hB hPc hDc hKc hFc ht
  subst w_18
  refine lv_if_eq (tgt := 24) hx hb dX8_letterHere_19 (by decide) (fun _ => ?_) (fun c_20 => absurd c_20 (by decide))
  refine lv_iinc (v := 5) (lv' := [(1, .int 5), (0, .ref (q 9))]) hx hb dX8_letterHere_24 hl (k := 0) rfl (by decide) (by decide) rfl (fun ls hl => ?_)
  refine lv_goto (tgt := 2) hx hb dX8_letterHere_27 (by decide) ?_
  refine lv_iload_n hx hb dX8_letterHere_2 rfl (lv_at hl 0 rfl) ?_
  refine va_getsN hx hb hZ.1 hS hown (va_Nw.use rfl hZ.2.2.2.2.2.1) (fun _ h9 => h9) dX8_letterHere_3 ?_
  refine va_tlen (v := 8) hx hb hZ.2.1 hS rfl dX8_letterHere_6 ?_
  refine lv_icmp_ge (tgt := 30) hx hb dX8_letterHere_7 (by decide) (fun c_21 => absurd c_21 (by decide)) (fun _ => ?_)
  refine lv_aload_n hx hb dX8_letterHere_10 rfl (lv_at hl 1 rfl) ?_
  refine va_getsN hx hb hZ.1 hS hown (va_Nw.use rfl hZ.2.2.2.2.2.1) (fun _ h9 => h9) dX8_letterHere_11 ?_
  refine lv_iload_n hx hb dX8_letterHere_14 rfl (lv_at hl 0 rfl) ?_
  refine va_tc hx hb hZ.2.1 hS (by unfold vp_in; decide) (v := .int 115) rfl dX8_letterHere_15 ?_
  have hPc := hP.sub (ws' := [((q 9), .inr (8, [.ref (q 90), .int 0, .ref (q 91), .int 0, .int 0, .int (-1)]))]) [0] rfl
  have hDc := hD.sub (ws' := [((q 9), .inr (8, [.ref (q 90), .int 0, .ref (q 91), .int 0, .int 0, .int (-1)]))]) [0] (by decide) rfl
  have hKc := hK.sub (tys' := []) [] rfl
  have hFc : ∀ q, va_A [] H.size q → A q := pu_free hS hA
  refine va_calli (va_runV (As := [.int 115]) (rest := []) ⟨hx, hb, hml, hown, hts⟩ (c_X8_sees l dC dI H.size h0 q cq 115) (cwV 1 hts gX8_letterHere_X8_sees rfl rfl rfl (by decide +kernel) ⟨(Nat.le_of_ble_eq_true rfl), (Nat.le_of_ble_eq_true rfl)⟩) (pr_V (r := (RX8, TX8, 6)) hPc hKc hDc 0 8 rfl rfl) rfl rfl hl.1 rfl (lv_room (Nat.le_of_ble_eq_true rfl)) dX8_letterHere_16 ⟨(Nat.le_of_ble_eq_true rfl), (Nat.le_of_ble_eq_true rfl)⟩) hS (fun q _ h => hFc q h) hFc (fun r_23 u t H locs ht hvm w_22 hB hz1 hk1 hS => ?_)
  have hP := pu_keep hP hk1
  clear hk1 hz1 hvm hB hPc hDc hKc hFc ht
  subst w_22
  refine lv_if_eq (tgt := 24) hx hb dX8_letterHere_19 (by decide) (fun _ => ?_) (fun c_24 => absurd c_24 (by decide))
  refine lv_iinc (v := 6) (lv' := [(1, .int 6), (0, .ref (q 9))]) hx hb dX8_letterHere_24 hl (k := 0) rfl (by decide) (by decide) rfl (fun ls hl => ?_)
  refine lv_goto (tgt := 2) hx hb dX8_letterHere_27 (by decide) ?_
  refine lv_iload_n hx hb dX8_letterHere_2 rfl (lv_at hl 0 rfl) ?_
  refine va_getsN hx hb hZ.1 hS hown (va_Nw.use rfl hZ.2.2.2.2.2.1) (fun _ h9 => h9) dX8_letterHere_3 ?_
  refine va_tlen (v := 8) hx hb hZ.2.1 hS rfl dX8_letterHere_6 ?_
  refine lv_icmp_ge (tgt := 30) hx hb dX8_letterHere_7 (by decide) (fun c_25 => absurd c_25 (by decide)) (fun _ => ?_)
  refine lv_aload_n hx hb dX8_letterHere_10 rfl (lv_at hl 1 rfl) ?_
  refine va_getsN hx hb hZ.1 hS hown (va_Nw.use rfl hZ.2.2.2.2.2.1) (fun _ h9 => h9) dX8_letterHere_11 ?_
  refine lv_iload_n hx hb dX8_letterHere_14 rfl (lv_at hl 0 rfl) ?_
  refine va_tc hx hb hZ.2.1 hS (by unfold vp_in; decide) (v := .int 108) rfl dX8_letterHere_15 ?_
  have hPc := hP.sub (ws' := [((q 9), .inr (8, [.ref (q 90), .int 0, .ref (q 91), .int 0, .int 0, .int (-1)]))]) [0] rfl
  have hDc := hD.sub (ws' := [((q 9), .inr (8, [.ref (q 90), .int 0, .ref (q 91), .int 0, .int 0, .int (-1)]))]) [0] (by decide) rfl
  have hKc := hK.sub (tys' := []) [] rfl
  have hFc : ∀ q, va_A [] H.size q → A q := pu_free hS hA
  refine va_calli (va_runV (As := [.int 108]) (rest := []) ⟨hx, hb, hml, hown, hts⟩ (c_X8_sees l dC dI H.size h0 q cq 108) (cwV 1 hts gX8_letterHere_X8_sees rfl rfl rfl (by decide +kernel) ⟨(Nat.le_of_ble_eq_true rfl), (Nat.le_of_ble_eq_true rfl)⟩) (pr_V (r := (RX8, TX8, 6)) hPc hKc hDc 0 8 rfl rfl) rfl rfl hl.1 rfl (lv_room (Nat.le_of_ble_eq_true rfl)) dX8_letterHere_16 ⟨(Nat.le_of_ble_eq_true rfl), (Nat.le_of_ble_eq_true rfl)⟩) hS (fun q _ h => hFc q h) hFc (fun r_27 u t H locs ht hvm w_26 hB hz1 hk1 hS => ?_)
  have hP := pu_keep hP hk1
  clear hk1 hz1 hvm hB hPc hDc hKc hFc ht
  subst w_26
  refine lv_if_eq (tgt := 24) hx hb dX8_letterHere_19 (by decide) (fun _ => ?_) (fun c_28 => absurd c_28 (by decide))
  refine lv_iinc (v := 7) (lv' := [(1, .int 7), (0, .ref (q 9))]) hx hb dX8_letterHere_24 hl (k := 0) rfl (by decide) (by decide) rfl (fun ls hl => ?_)
  refine lv_goto (tgt := 2) hx hb dX8_letterHere_27 (by decide) ?_
  refine lv_iload_n hx hb dX8_letterHere_2 rfl (lv_at hl 0 rfl) ?_
  refine va_getsN hx hb hZ.1 hS hown (va_Nw.use rfl hZ.2.2.2.2.2.1) (fun _ h9 => h9) dX8_letterHere_3 ?_
  refine va_tlen (v := 8) hx hb hZ.2.1 hS rfl dX8_letterHere_6 ?_
  refine lv_icmp_ge (tgt := 30) hx hb dX8_letterHere_7 (by decide) (fun c_29 => absurd c_29 (by decide)) (fun _ => ?_)
  refine lv_aload_n hx hb dX8_letterHere_10 rfl (lv_at hl 1 rfl) ?_
  refine va_getsN hx hb hZ.1 hS hown (va_Nw.use rfl hZ.2.2.2.2.2.1) (fun _ h9 => h9) dX8_letterHere_11 ?_
  refine lv_iload_n hx hb dX8_letterHere_14 rfl (lv_at hl 0 rfl) ?_
  refine va_tc hx hb hZ.2.1 hS (by unfold vp_in; decide) (v := .int 120) rfl dX8_letterHere_15 ?_
  have hPc := hP.sub (ws' := [((q 9), .inr (8, [.ref (q 90), .int 0, .ref (q 91), .int 0, .int 0, .int (-1)]))]) [0] rfl
  have hDc := hD.sub (ws' := [((q 9), .inr (8, [.ref (q 90), .int 0, .ref (q 91), .int 0, .int 0, .int (-1)]))]) [0] (by decide) rfl
  have hKc := hK.sub (tys' := []) [] rfl
  have hFc : ∀ q, va_A [] H.size q → A q := pu_free hS hA
  refine va_calli (va_runV (As := [.int 120]) (rest := []) ⟨hx, hb, hml, hown, hts⟩ (c_X8_sees l dC dI H.size h0 q cq 120) (cwV 1 hts gX8_letterHere_X8_sees rfl rfl rfl (by decide +kernel) ⟨(Nat.le_of_ble_eq_true rfl), (Nat.le_of_ble_eq_true rfl)⟩) (pr_V (r := (RX8, TX8, 6)) hPc hKc hDc 0 8 rfl rfl) rfl rfl hl.1 rfl (lv_room (Nat.le_of_ble_eq_true rfl)) dX8_letterHere_16 ⟨(Nat.le_of_ble_eq_true rfl), (Nat.le_of_ble_eq_true rfl)⟩) hS (fun q _ h => hFc q h) hFc (fun r_31 u t H locs ht hvm w_30 hB hz1 hk1 hS => ?_)
  have hP := pu_keep hP hk1
  clear hk1 hz1 hvm hB hPc hDc hKc hFc ht
  subst w_30
  refine lv_if_eq (tgt := 24) hx hb dX8_letterHere_19 (by decide) (fun _ => ?_) (fun c_32 => absurd c_32 (by decide))
  refine lv_iinc (v := 8) (lv' := [(1, .int 8), (0, .ref (q 9))]) hx hb dX8_letterHere_24 hl (k := 0) rfl (by decide) (by decide) rfl (fun ls hl => ?_)
  refine lv_goto (tgt := 2) hx hb dX8_letterHere_27 (by decide) ?_
  refine lv_iload_n hx hb dX8_letterHere_2 rfl (lv_at hl 0 rfl) ?_
  refine va_getsN hx hb hZ.1 hS hown (va_Nw.use rfl hZ.2.2.2.2.2.1) (fun _ h9 => h9) dX8_letterHere_3 ?_
  refine va_tlen (v := 8) hx hb hZ.2.1 hS rfl dX8_letterHere_6 ?_
  refine lv_icmp_ge (tgt := 30) hx hb dX8_letterHere_7 (by decide) (fun _ => ?_) (fun c_33 => absurd c_33 (by decide))
  refine lv_iconst (v := (-1)) hx hb dX8_letterHere_30 (by decide) ?_
  exact W.iret (v := (-1)) hx hb hr (fun t ht hW => ⟨⟨(-1), (), rfl, rfl, trivial⟩, hS.F ht⟩) hS.2.2 dX8_letterHere_31
set_option maxHeartbeats 4000000 in
set_option maxRecDepth 100000 in
theorem c_X8_parseUnit (l : Launch) (dC : Nat → ClassId) (dI : Nat → Nat → Nat) (sz : Nat) (tL tS : Nat) (h0 : Nat) (q : Nat → Nat) (cq : Nat → ClassId) : Met l yX8_parseUnit wsX8_parseUnit ({ frames := 2, cells := 0, slots := 0, locals := 42 }) (va_Pc [.ref (q 9), .int 0] (pcS (dC, dI) [] [((q 9), .inr (8, [.ref (q 90), .int 0, .ref (q 91), .int 0, .int 0, .int (-1)]))] sz tL tS [((q 9), .inr (8, [.ref (q 90), .int 0, .ref (q 91), .int 0, .int 0, .int (-1)]))])) (va_Qv (fun (u : Unit) => True) (fun u t => va_P (dC, dI) vwCl [((q 9), .inr (8, [.ref (q 90), .int 0, .ref (q 91), .int 0, .int 0, .int 0]))] t.heap ∧ va_K (dC, dI) vwCl [] t ∧ va_D (va_A [((q 9), .inr (8, [.ref (q 90), .int 0, .ref (q 91), .int 0, .int 0, .int (-1)]))] sz) [((q 9), .inr (8, [.ref (q 90), .int 0, .ref (q 91), .int 0, .int 0, .int 0]))]) (va_A [((q 9), .inr (8, [.ref (q 90), .int 0, .ref (q 91), .int 0, .int 0, .int (-1)]))] sz)) 0 0 (va_A [((q 9), .inr (8, [.ref (q 90), .int 0, .ref (q 91), .int 0, .int 0, .int (-1)]))] sz) := by
  refine Met.ofW (cc := cX8_parseUnit) (maxL := 3) (ret := none) (by decide) rfl ?_
  intro p e s m args below meth c s₁ B hml hv
  obtain ⟨rfl, ⟨hsz, hP, hK, hD0⟩, hZ⟩ := hv
  have hx := B.exec
  have hb := B.bytes
  have hr := B.returns
  have hts := atoms_spec (ws := wsX8_parseUnit) B.pre
  have hown : s.vm.findClass RX8 = some m.cls := findClass_of_methodNamed B.named
  have hlocks := B.notSynchronized
  subst hsz
  have hD := hD0.self (sz := s.heap.size)
  generalize hAe : va_A [((q 9), .inr (8, [.ref (q 90), .int 0, .ref (q 91), .int 0, .int 0, .int (-1)]))] s.heap.size = A at hD hZ ⊢
  have hA : ∀ q : Nat, s.heap.size ≤ q → A q := fun q h => by rw [← hAe]; exact Or.inr h
  have hS : va_S A s.heap s.heap [] := va_S.rf
  have hP : va_P (dC, dI) vwCl [((q 9), .inr (8, [.ref (q 90), .int 0, .ref (q 91), .int 0, .int 0, .int (-1)]))] s.heap := hP
  have hl := lv_entry ([.ref (q 9), .int 0]) (n := 3) (Nat.le_of_ble_eq_true rfl)
  rw [lg_entry_eq]
  generalize (lg_sl ([.ref (q 9), .int 0]) ++ List.replicate (3 - (lg_sl ([.ref (q 9), .int 0])).length) Slot.unset).toArray = ls at hl ⊢
  have hl : lv_has ls 3 [(0, .ref (q 9)), (1, .int 0)] := hl
  refine lv_aload_n hx hb dX8_parseUnit_0 rfl (lv_at hl 0 rfl) ?_
  have hPc := hP.sub (ws' := [((q 9), .inr (8, [.ref (q 90), .int 0, .ref (q 91), .int 0, .int 0, .int (-1)]))]) [0] rfl
  have hDc := hD.sub (ws' := [((q 9), .inr (8, [.ref (q 90), .int 0, .ref (q 91), .int 0, .int 0, .int (-1)]))]) [0] (by decide) rfl
  have hKc := hK.sub (tys' := []) [] rfl
  have hFc : ∀ q, va_A [] s.heap.size q → A q := pu_free hS hA
  refine va_calli (va_runV (As := []) (rest := []) ⟨hx, hb, hml, hown, hts⟩ (c_X8_letterHere l dC dI s.heap.size tL tS h0 q cq) (cwV 0 hts gX8_parseUnit_X8_letterHere rfl rfl rfl (by decide +kernel) ⟨(Nat.le_of_ble_eq_true rfl), (Nat.le_of_ble_eq_true rfl)⟩) (pr_VS (r := (RX8, TX8, 6)) hPc hKc hDc 0 8 rfl rfl (hZ.go hS hFc)) rfl rfl hl.1 rfl (lv_room (Nat.le_of_ble_eq_true rfl)) dX8_parseUnit_1 ⟨(Nat.le_of_ble_eq_true rfl), (Nat.le_of_ble_eq_true rfl)⟩) hS (fun q _ h => hFc q h) hFc (fun r_2 u t H locs ht hvm w_1 hB hz1 hk1 hS => ?_)
  have hP := pu_keep hP hk1
  clear hk1 hz1 hvm hB hPc hDc hKc hFc ht
  subst w_1
  refine lv_istore_n (lv' := [(2, .int (-1)), (0, .ref (q 9)), (1, .int 0)]) hx hb dX8_parseUnit_4 rfl hl (by decide) rfl (fun ls hl => ?_)
  refine lv_aload_n hx hb dX8_parseUnit_5 rfl (lv_at hl 1 rfl) ?_
  have hPc := hP.sub (ws' := [((q 9), .inr (8, [.ref (q 90), .int 0, .ref (q 91), .int 0, .int 0, .int (-1)]))]) [0] rfl
  have hDc := hD.sub (ws' := [((q 9), .inr (8, [.ref (q 90), .int 0, .ref (q 91), .int 0, .int 0, .int (-1)]))]) [0] (by decide) rfl
  have hKc := hK.sub (tys' := []) [] rfl
  have hFc : ∀ q, va_A [] H.size q → A q := pu_free hS hA
  refine va_calli (va_runV (As := []) (rest := []) ⟨hx, hb, hml, hown, hts⟩ (c_X8_seesDigit l dC dI H.size h0 q cq) (cwV 0 hts gX8_parseUnit_X8_seesDigit rfl rfl rfl (by decide +kernel) ⟨(Nat.le_of_ble_eq_true rfl), (Nat.le_of_ble_eq_true rfl)⟩) (pr_V (r := (RX8, TX8, 6)) hPc hKc hDc 0 8 rfl rfl) rfl rfl hl.1 rfl (lv_room (Nat.le_of_ble_eq_true rfl)) dX8_parseUnit_6 ⟨(Nat.le_of_ble_eq_true rfl), (Nat.le_of_ble_eq_true rfl)⟩) hS (fun q _ h => hFc q h) hFc (fun r_4 u t H locs ht hvm w_3 hB hz1 hk1 hS => ?_)
  have hP := pu_keep hP hk1
  clear hk1 hz1 hvm hB hPc hDc hKc hFc ht
  subst w_3
  refine lv_if_eq (tgt := 19) hx hb dX8_parseUnit_9 (by decide) (fun _ => ?_) (fun c_5 => absurd c_5 (by decide))
  refine lv_iload_n hx hb dX8_parseUnit_19 rfl (lv_at hl 0 rfl) ?_
  refine lv_if_lt (tgt := 43) hx hb dX8_parseUnit_20 (by decide) (fun _ => ?_) (fun c_6 => absurd c_6 (by decide))
  refine lv_aload_n hx hb dX8_parseUnit_43 rfl (lv_at hl 1 rfl) ?_
  refine lv_bipush (v := 40) hx hb dX8_parseUnit_44 (by decide) ?_
  have hPc := hP.sub (ws' := [((q 9), .inr (8, [.ref (q 90), .int 0, .ref (q 91), .int 0, .int 0, .int (-1)]))]) [0] rfl
  have hDc := hD.sub (ws' := [((q 9), .inr (8, [.ref (q 90), .int 0, .ref (q 91), .int 0, .int 0, .int (-1)]))]) [0] (by decide) rfl
  have hKc := hK.sub (tys' := []) [] rfl
  have hFc : ∀ q, va_A [] H.size q → A q := pu_free hS hA
  refine va_calli (va_runV (As := [.int 40]) (rest := []) ⟨hx, hb, hml, hown, hts⟩ (c_X8_sees l dC dI H.size h0 q cq 40) (cwV 1 hts gX8_parseUnit_X8_sees rfl rfl rfl (by decide +kernel) ⟨(Nat.le_of_ble_eq_true rfl), (Nat.le_of_ble_eq_true rfl)⟩) (pr_V (r := (RX8, TX8, 6)) hPc hKc hDc 0 8 rfl rfl) rfl rfl hl.1 rfl (lv_room (Nat.le_of_ble_eq_true rfl)) dX8_parseUnit_46 ⟨(Nat.le_of_ble_eq_true rfl), (Nat.le_of_ble_eq_true rfl)⟩) hS (fun q _ h => hFc q h) hFc (fun r_8 u t H locs ht hvm w_7 hB hz1 hk1 hS => ?_)
  have hP := pu_keep hP hk1
  clear hk1 hz1 hvm hB hPc hDc hKc hFc ht
  subst w_7
  refine lv_if_eq (tgt := 77) hx hb dX8_parseUnit_49 (by decide) (fun _ => ?_) (fun c_9 => absurd c_9 (by decide))
  refine lv_aload_n hx hb dX8_parseUnit_77 rfl (lv_at hl 1 rfl) ?_
  refine lv_aload_n hx hb dX8_parseUnit_78 rfl (lv_at hl 1 rfl) ?_
  refine va_get (D := (dC, dI)) (ci := 8) (v := .int 0) (C := RX8) (T := TX8) (N := 6) hx hb hts in_wsX8_parseUnit_X8 hown hK hP 0 rfl rfl 4 (by decide) (hts (.fieldLink RX8 22 "ShipOffice$Tape" "at" "I") (by decide +kernel)) (fun _ h9 => h9) rfl dX8_parseUnit_79 ?_
  refine va_put (D := (dC, dI)) (ci := 8) (v := .int 0) (ty := .int) (C := RX8) (T := TX8) (N := 6) hx hb hts in_wsX8_parseUnit_X8 tyX8 tyX8_ok nmX8 hown hK hP hD hS 0 rfl rfl 5 (by decide) (hts (.fieldLink RX8 28 "ShipOffice$Tape" "fault" "I") (by decide +kernel)) (fun _ h9 => h9) rfl (by decide +kernel) rfl rfl (Nat.le_of_ble_eq_true rfl) dX8_parseUnit_82 (fun H locs hP hD hS => ?_)
  have hP : va_P (dC, dI) vwCl [((q 9), .inr (8, [.ref (q 90), .int 0, .ref (q 91), .int 0, .int 0, .int 0]))] H := hP
  have hD : va_D A [((q 9), .inr (8, [.ref (q 90), .int 0, .ref (q 91), .int 0, .int 0, .int 0]))] := hD
  have hP9 := hP.sub (ws' := [((q 9), .inr (8, [.ref (q 90), .int 0, .ref (q 91), .int 0, .int 0, .int 0]))]) [0] rfl
  have hD9 := hD.sub (ws' := [((q 9), .inr (8, [.ref (q 90), .int 0, .ref (q 91), .int 0, .int 0, .int 0]))]) [0] (by decide) rfl
  have hK9 := hK.sub (tys' := []) [] rfl
  subst hAe
  exact W.vret hx hb hr (fun t ht hW => ⟨⟨(), rfl, trivial, ⟨by rw [ht]; exact hP9, va_K.moved hW.alike hK9, hD9⟩⟩, hS.F ht⟩) hS.2.2 dX8_parseUnit_85
set_option maxHeartbeats 4000000 in
set_option maxRecDepth 100000 in
theorem c_X8_parseTerm (l : Launch) (dC : Nat → ClassId) (dI : Nat → Nat → Nat) (sz : Nat) (tL tS : Nat) (h0 : Nat) (q : Nat → Nat) (cq : Nat → ClassId) : Met l yX8_parseTerm wsX8_parseTerm ({ frames := 3, cells := 0, slots := 0, locals := 64 }) (va_Pc [.ref (q 9), .int 0] (pcS (dC, dI) [] [((q 9), .inr (8, [.ref (q 90), .int 0, .ref (q 91), .int 0, .int 0, .int (-1)]))] sz tL tS [((q 9), .inr (8, [.ref (q 90), .int 0, .ref (q 91), .int 0, .int 0, .int (-1)]))])) (va_Qv (fun (u : Unit) => True) (fun u t => va_P (dC, dI) vwCl [((q 9), .inr (8, [.ref (q 90), .int 0, .ref (q 91), .int 0, .int 0, .int 0]))] t.heap ∧ va_K (dC, dI) vwCl [] t ∧ va_D (va_A [((q 9), .inr (8, [.ref (q 90), .int 0, .ref (q 91), .int 0, .int 0, .int (-1)]))] sz) [((q 9), .inr (8, [.ref (q 90), .int 0, .ref (q 91), .int 0, .int 0, .int 0]))]) (va_A [((q 9), .inr (8, [.ref (q 90), .int 0, .ref (q 91), .int 0, .int 0, .int (-1)]))] sz)) 0 0 (va_A [((q 9), .inr (8, [.ref (q 90), .int 0, .ref (q 91), .int 0, .int 0, .int (-1)]))] sz) := by
  refine Met.ofW (cc := cX8_parseTerm) (maxL := 4) (ret := none) (by decide) rfl ?_
  intro p e s m args below meth c s₁ B hml hv
  obtain ⟨rfl, ⟨hsz, hP, hK, hD0⟩, hZ⟩ := hv
  have hx := B.exec
  have hb := B.bytes
  have hr := B.returns
  have hts := atoms_spec (ws := wsX8_parseTerm) B.pre
  have hown : s.vm.findClass RX8 = some m.cls := findClass_of_methodNamed B.named
  have hlocks := B.notSynchronized
  subst hsz
  have hD := hD0.self (sz := s.heap.size)
  generalize hAe : va_A [((q 9), .inr (8, [.ref (q 90), .int 0, .ref (q 91), .int 0, .int 0, .int (-1)]))] s.heap.size = A at hD hZ ⊢
  have hA : ∀ q : Nat, s.heap.size ≤ q → A q := fun q h => by rw [← hAe]; exact Or.inr h
  have hS : va_S A s.heap s.heap [] := va_S.rf
  have hP : va_P (dC, dI) vwCl [((q 9), .inr (8, [.ref (q 90), .int 0, .ref (q 91), .int 0, .int 0, .int (-1)]))] s.heap := hP
  have hl := lv_entry ([.ref (q 9), .int 0]) (n := 4) (Nat.le_of_ble_eq_true rfl)
  rw [lg_entry_eq]
  generalize (lg_sl ([.ref (q 9), .int 0]) ++ List.replicate (4 - (lg_sl ([.ref (q 9), .int 0])).length) Slot.unset).toArray = ls at hl ⊢
  have hl : lv_has ls 4 [(0, .ref (q 9)), (1, .int 0)] := hl
  refine lv_aload_n hx hb dX8_parseTerm_0 rfl (lv_at hl 0 rfl) ?_
  refine lv_iload_n hx hb dX8_parseTerm_1 rfl (lv_at hl 1 rfl) ?_
  have hPc := hP.sub (ws' := [((q 9), .inr (8, [.ref (q 90), .int 0, .ref (q 91), .int 0, .int 0, .int (-1)]))]) [0] rfl
  have hDc := hD.sub (ws' := [((q 9), .inr (8, [.ref (q 90), .int 0, .ref (q 91), .int 0, .int 0, .int (-1)]))]) [0] (by decide) rfl
  have hKc := hK.sub (tys' := []) [] rfl
  have hFc := va_free (wc := [((q 9), .inr (8, [.ref (q 90), .int 0, .ref (q 91), .int 0, .int 0, .int (-1)]))]) hD hS hA [0] rfl
  refine va_callv (va_runV (As := [.int 0]) (rest := []) ⟨hx, hb, hml, hown, hts⟩ (c_X8_parseUnit l dC dI s.heap.size tL tS h0 q cq) (cwV 1 hts gX8_parseTerm_X8_parseUnit rfl rfl rfl (by decide +kernel) ⟨(Nat.le_of_ble_eq_true rfl), (Nat.le_of_ble_eq_true rfl)⟩) (pr_VS (r := (RX8, TX8, 6)) hPc hKc hDc 0 8 rfl rfl (hZ.go hS hFc)) rfl rfl hl.1 rfl (lv_room (Nat.le_of_ble_eq_true rfl)) dX8_parseTerm_2 ⟨(Nat.le_of_ble_eq_true rfl), (Nat.le_of_ble_eq_true rfl)⟩) hS (fun q _ h => hFc q h) hFc (fun u t H locs ht hvm w_1 hB hz1 hk1 hS => ?_)
  obtain ⟨hP1, hK1, hD1⟩ := hB
  rw [ht] at hP1
  have hK1 := va_K.moved hvm.symm hK1
  obtain ⟨hP, hD⟩ := va_join (wr := []) (w1 := [((q 9), .inr (8, [.ref (q 90), .int 0, .ref (q 91), .int 0, .int 0, .int 0]))]) hP hD [0] [] rfl rfl (by decide) (by decide) hk1 hFc hP1 hD1
  have hK := hK.app hK1
  have hP : va_P (dC, dI) vwCl [((q 9), .inr (8, [.ref (q 90), .int 0, .ref (q 91), .int 0, .int 0, .int 0]))] H := hP
  have hD : va_D A [((q 9), .inr (8, [.ref (q 90), .int 0, .ref (q 91), .int 0, .int 0, .int 0]))] := hD
  have hK : va_K (dC, dI) vwCl [] s := hK
  clear hP1 hK1 hD1 hk1 hz1 hvm ht hPc hDc hKc hFc
  refine lv_iconst (v := 0) hx hb dX8_parseTerm_5 (by decide) ?_
  refine lv_istore_n (lv' := [(2, .int 0), (0, .ref (q 9)), (1, .int 0)]) hx hb dX8_parseTerm_6 rfl hl (by decide) rfl (fun ls hl => ?_)
  refine lv_iload_n hx hb dX8_parseTerm_7 rfl (lv_at hl 0 rfl) ?_
  refine lv_bipush (v := 60) hx hb dX8_parseTerm_8 (by decide) ?_
  refine lv_icmp_ge (tgt := 74) hx hb dX8_parseTerm_10 (by decide) (fun c_3 => absurd c_3 (by decide)) (fun _ => ?_)
  refine lv_aload_n hx hb dX8_parseTerm_13 rfl (lv_at hl 1 rfl) ?_
  refine va_get (D := (dC, dI)) (ci := 8) (v := .int 0) (C := RX8) (T := TX8) (N := 6) hx hb hts in_wsX8_parseTerm_X8 hown hK hP 0 rfl rfl 5 (by decide) (hts (.fieldLink RX8 28 "ShipOffice$Tape" "fault" "I") (by decide +kernel)) (fun _ h9 => h9) rfl dX8_parseTerm_14 ?_
  refine lv_if_ge (tgt := 74) hx hb dX8_parseTerm_17 (by decide) (fun _ => ?_) (fun c_4 => absurd c_4 (by decide))
  have hP9 := hP.sub (ws' := [((q 9), .inr (8, [.ref (q 90), .int 0, .ref (q 91), .int 0, .int 0, .int 0]))]) [0] rfl
  have hD9 := hD.sub (ws' := [((q 9), .inr (8, [.ref (q 90), .int 0, .ref (q 91), .int 0, .int 0, .int 0]))]) [0] (by decide) rfl
  have hK9 := hK.sub (tys' := []) [] rfl
  subst hAe
  exact W.vret hx hb hr (fun t ht hW => ⟨⟨(), rfl, trivial, ⟨by rw [ht]; exact hP9, va_K.moved hW.alike hK9, hD9⟩⟩, hS.F ht⟩) hS.2.2 dX8_parseTerm_74
set_option maxHeartbeats 4000000 in
set_option maxRecDepth 100000 in
theorem c_X8_parseSum (l : Launch) (dC : Nat → ClassId) (dI : Nat → Nat → Nat) (sz : Nat) (tL tS : Nat) (h0 : Nat) (q : Nat → Nat) (cq : Nat → ClassId) : Met l yX8_parseSum wsX8_parseSum ({ frames := 4, cells := 0, slots := 0, locals := 87 }) (va_Pc [.ref (q 9), .int 0] (pcS (dC, dI) [] [((q 9), .inr (8, [.ref (q 90), .int 0, .ref (q 91), .int 0, .int 0, .int (-1)]))] sz tL tS [((q 9), .inr (8, [.ref (q 90), .int 0, .ref (q 91), .int 0, .int 0, .int (-1)]))])) (va_Qv (fun (u : Unit) => True) (fun u t => va_P (dC, dI) vwCl [((q 9), .inr (8, [.ref (q 90), .int 0, .ref (q 91), .int 0, .int 0, .int 0]))] t.heap ∧ va_K (dC, dI) vwCl [] t ∧ va_D (va_A [((q 9), .inr (8, [.ref (q 90), .int 0, .ref (q 91), .int 0, .int 0, .int (-1)]))] sz) [((q 9), .inr (8, [.ref (q 90), .int 0, .ref (q 91), .int 0, .int 0, .int 0]))]) (va_A [((q 9), .inr (8, [.ref (q 90), .int 0, .ref (q 91), .int 0, .int 0, .int (-1)]))] sz)) 0 0 (va_A [((q 9), .inr (8, [.ref (q 90), .int 0, .ref (q 91), .int 0, .int 0, .int (-1)]))] sz) := by
  refine Met.ofW (cc := cX8_parseSum) (maxL := 4) (ret := none) (by decide) rfl ?_
  intro p e s m args below meth c s₁ B hml hv
  obtain ⟨rfl, ⟨hsz, hP, hK, hD0⟩, hZ⟩ := hv
  have hx := B.exec
  have hb := B.bytes
  have hr := B.returns
  have hts := atoms_spec (ws := wsX8_parseSum) B.pre
  have hown : s.vm.findClass RX8 = some m.cls := findClass_of_methodNamed B.named
  have hlocks := B.notSynchronized
  subst hsz
  have hD := hD0.self (sz := s.heap.size)
  generalize hAe : va_A [((q 9), .inr (8, [.ref (q 90), .int 0, .ref (q 91), .int 0, .int 0, .int (-1)]))] s.heap.size = A at hD hZ ⊢
  have hA : ∀ q : Nat, s.heap.size ≤ q → A q := fun q h => by rw [← hAe]; exact Or.inr h
  have hS : va_S A s.heap s.heap [] := va_S.rf
  have hP : va_P (dC, dI) vwCl [((q 9), .inr (8, [.ref (q 90), .int 0, .ref (q 91), .int 0, .int 0, .int (-1)]))] s.heap := hP
  have hl := lv_entry ([.ref (q 9), .int 0]) (n := 4) (Nat.le_of_ble_eq_true rfl)
  rw [lg_entry_eq]
  generalize (lg_sl ([.ref (q 9), .int 0]) ++ List.replicate (4 - (lg_sl ([.ref (q 9), .int 0])).length) Slot.unset).toArray = ls at hl ⊢
  have hl : lv_has ls 4 [(0, .ref (q 9)), (1, .int 0)] := hl
  refine lv_aload_n hx hb dX8_parseSum_0 rfl (lv_at hl 0 rfl) ?_
  refine lv_iload_n hx hb dX8_parseSum_1 rfl (lv_at hl 1 rfl) ?_
  have hPc := hP.sub (ws' := [((q 9), .inr (8, [.ref (q 90), .int 0, .ref (q 91), .int 0, .int 0, .int (-1)]))]) [0] rfl
  have hDc := hD.sub (ws' := [((q 9), .inr (8, [.ref (q 90), .int 0, .ref (q 91), .int 0, .int 0, .int (-1)]))]) [0] (by decide) rfl
  have hKc := hK.sub (tys' := []) [] rfl
  have hFc := va_free (wc := [((q 9), .inr (8, [.ref (q 90), .int 0, .ref (q 91), .int 0, .int 0, .int (-1)]))]) hD hS hA [0] rfl
  refine va_callv (va_runV (As := [.int 0]) (rest := []) ⟨hx, hb, hml, hown, hts⟩ (c_X8_parseTerm l dC dI s.heap.size tL tS h0 q cq) (cwV 1 hts gX8_parseSum_X8_parseTerm rfl rfl rfl (by decide +kernel) ⟨(Nat.le_of_ble_eq_true rfl), (Nat.le_of_ble_eq_true rfl)⟩) (pr_VS (r := (RX8, TX8, 6)) hPc hKc hDc 0 8 rfl rfl (hZ.go hS hFc)) rfl rfl hl.1 rfl (lv_room (Nat.le_of_ble_eq_true rfl)) dX8_parseSum_2 ⟨(Nat.le_of_ble_eq_true rfl), (Nat.le_of_ble_eq_true rfl)⟩) hS (fun q _ h => hFc q h) hFc (fun u t H locs ht hvm w_1 hB hz1 hk1 hS => ?_)
  obtain ⟨hP1, hK1, hD1⟩ := hB
  rw [ht] at hP1
  have hK1 := va_K.moved hvm.symm hK1
  obtain ⟨hP, hD⟩ := va_join (wr := []) (w1 := [((q 9), .inr (8, [.ref (q 90), .int 0, .ref (q 91), .int 0, .int 0, .int 0]))]) hP hD [0] [] rfl rfl (by decide) (by decide) hk1 hFc hP1 hD1
  have hK := hK.app hK1
  have hP : va_P (dC, dI) vwCl [((q 9), .inr (8, [.ref (q 90), .int 0, .ref (q 91), .int 0, .int 0, .int 0]))] H := hP
  have hD : va_D A [((q 9), .inr (8, [.ref (q 90), .int 0, .ref (q 91), .int 0, .int 0, .int 0]))] := hD
  have hK : va_K (dC, dI) vwCl [] s := hK
  clear hP1 hK1 hD1 hk1 hz1 hvm ht hPc hDc hKc hFc
  refine lv_iconst (v := 0) hx hb dX8_parseSum_5 (by decide) ?_
  refine lv_istore_n (lv' := [(2, .int 0), (0, .ref (q 9)), (1, .int 0)]) hx hb dX8_parseSum_6 rfl hl (by decide) rfl (fun ls hl => ?_)
  refine lv_iload_n hx hb dX8_parseSum_7 rfl (lv_at hl 0 rfl) ?_
  refine lv_bipush (v := 60) hx hb dX8_parseSum_8 (by decide) ?_
  refine lv_icmp_ge (tgt := 74) hx hb dX8_parseSum_10 (by decide) (fun c_3 => absurd c_3 (by decide)) (fun _ => ?_)
  refine lv_aload_n hx hb dX8_parseSum_13 rfl (lv_at hl 1 rfl) ?_
  refine va_get (D := (dC, dI)) (ci := 8) (v := .int 0) (C := RX8) (T := TX8) (N := 6) hx hb hts in_wsX8_parseSum_X8 hown hK hP 0 rfl rfl 5 (by decide) (hts (.fieldLink RX8 28 "ShipOffice$Tape" "fault" "I") (by decide +kernel)) (fun _ h9 => h9) rfl dX8_parseSum_14 ?_
  refine lv_if_ge (tgt := 74) hx hb dX8_parseSum_17 (by decide) (fun _ => ?_) (fun c_4 => absurd c_4 (by decide))
  have hP9 := hP.sub (ws' := [((q 9), .inr (8, [.ref (q 90), .int 0, .ref (q 91), .int 0, .int 0, .int 0]))]) [0] rfl
  have hD9 := hD.sub (ws' := [((q 9), .inr (8, [.ref (q 90), .int 0, .ref (q 91), .int 0, .int 0, .int 0]))]) [0] (by decide) rfl
  have hK9 := hK.sub (tys' := []) [] rfl
  subst hAe
  exact W.vret hx hb hr (fun t ht hW => ⟨⟨(), rfl, trivial, ⟨by rw [ht]; exact hP9, va_K.moved hW.alike hK9, hD9⟩⟩, hS.F ht⟩) hS.2.2 dX8_parseSum_74
set_option maxHeartbeats 4000000 in
set_option maxRecDepth 100000 in
theorem c_X8_parse (l : Launch) (dC : Nat → ClassId) (dI : Nat → Nat → Nat) (sz : Nat) (tL tS : Nat) (h0 : Nat) (q : Nat → Nat) (cq : Nat → ClassId) : Met l yX8_parse wsX8_parse ({ frames := 5, cells := 0, slots := 0, locals := 110 }) (va_Pc [.ref (q 9)] (pcS (dC, dI) [] [((q 9), .inr (8, [.ref (q 90), .int 0, .ref (q 91), .int 0, .int 0, .int 0]))] sz tL tS [((q 9), .inr (8, [.ref (q 90), .int 0, .ref (q 91), .int 0, .int 0, .int 0]))])) (va_Qi (fun (r : Int32) (u : Unit) => r = 0) (fun u t => va_P (dC, dI) vwCl [((q 9), .inr (8, [.ref (q 90), .int 0, .ref (q 91), .int 0, .int 0, .int 0]))] t.heap ∧ va_K (dC, dI) vwCl [] t ∧ va_D (va_A [((q 9), .inr (8, [.ref (q 90), .int 0, .ref (q 91), .int 0, .int 0, .int 0]))] sz) [((q 9), .inr (8, [.ref (q 90), .int 0, .ref (q 91), .int 0, .int 0, .int 0]))]) (va_A [((q 9), .inr (8, [.ref (q 90), .int 0, .ref (q 91), .int 0, .int 0, .int 0]))] sz)) 0 0 (va_A [((q 9), .inr (8, [.ref (q 90), .int 0, .ref (q 91), .int 0, .int 0, .int 0]))] sz) := by
  refine Met.ofW (cc := cX8_parse) (maxL := 1) (ret := (some .int)) (by decide) rfl ?_
  intro p e s m args below meth c s₁ B hml hv
  obtain ⟨rfl, ⟨hsz, hP, hK, hD0⟩, hZ⟩ := hv
  have hx := B.exec
  have hb := B.bytes
  have hr := B.returns
  have hts := atoms_spec (ws := wsX8_parse) B.pre
  have hown : s.vm.findClass RX8 = some m.cls := findClass_of_methodNamed B.named
  have hlocks := B.notSynchronized
  subst hsz
  have hD := hD0.self (sz := s.heap.size)
  generalize hAe : va_A [((q 9), .inr (8, [.ref (q 90), .int 0, .ref (q 91), .int 0, .int 0, .int 0]))] s.heap.size = A at hD hZ ⊢
  have hA : ∀ q : Nat, s.heap.size ≤ q → A q := fun q h => by rw [← hAe]; exact Or.inr h
  have hS : va_S A s.heap s.heap [] := va_S.rf
  have hP : va_P (dC, dI) vwCl [((q 9), .inr (8, [.ref (q 90), .int 0, .ref (q 91), .int 0, .int 0, .int 0]))] s.heap := hP
  have hl := lv_entry ([.ref (q 9)]) (n := 1) (Nat.le_of_ble_eq_true rfl)
  rw [lg_entry_eq]
  generalize (lg_sl ([.ref (q 9)]) ++ List.replicate (1 - (lg_sl ([.ref (q 9)])).length) Slot.unset).toArray = ls at hl ⊢
  have hl : lv_has ls 1 [(0, .ref (q 9))] := hl
  refine lv_aload_n hx hb dX8_parse_0 rfl (lv_at hl 0 rfl) ?_
  refine lv_iconst (v := 0) hx hb dX8_parse_1 (by decide) ?_
  refine va_put (D := (dC, dI)) (ci := 8) (v := .int 0) (ty := .int) (C := RX8) (T := TX8) (N := 6) hx hb hts in_wsX8_parse_X8 tyX8 tyX8_ok nmX8 hown hK hP hD hS 0 rfl rfl 4 (by decide) (hts (.fieldLink RX8 22 "ShipOffice$Tape" "at" "I") (by decide +kernel)) (fun _ h9 => h9) rfl (by decide +kernel) rfl rfl (Nat.le_of_ble_eq_true rfl) dX8_parse_2 (fun H locs hP hD hS => ?_)
  have hP : va_P (dC, dI) vwCl [((q 9), .inr (8, [.ref (q 90), .int 0, .ref (q 91), .int 0, .int 0, .int 0]))] H := hP
  have hD : va_D A [((q 9), .inr (8, [.ref (q 90), .int 0, .ref (q 91), .int 0, .int 0, .int 0]))] := hD
  refine lv_aload_n hx hb dX8_parse_5 rfl (lv_at hl 0 rfl) ?_
  refine lv_iconst (v := 0) hx hb dX8_parse_6 (by decide) ?_
  refine va_put (D := (dC, dI)) (ci := 8) (v := .int 0) (ty := .int) (C := RX8) (T := TX8) (N := 6) hx hb hts in_wsX8_parse_X8 tyX8 tyX8_ok nmX8 hown hK hP hD hS 0 rfl rfl 3 (by decide) (hts (.fieldLink RX8 25 "ShipOffice$Tape" "codeSize" "I") (by decide +kernel)) (fun _ h9 => h9) rfl (by decide +kernel) rfl rfl (Nat.le_of_ble_eq_true rfl) dX8_parse_7 (fun H locs hP hD hS => ?_)
  have hP : va_P (dC, dI) vwCl [((q 9), .inr (8, [.ref (q 90), .int 0, .ref (q 91), .int 0, .int 0, .int 0]))] H := hP
  have hD : va_D A [((q 9), .inr (8, [.ref (q 90), .int 0, .ref (q 91), .int 0, .int 0, .int 0]))] := hD
  refine lv_aload_n hx hb dX8_parse_10 rfl (lv_at hl 0 rfl) ?_
  refine lv_iconst (v := (-1)) hx hb dX8_parse_11 (by decide) ?_
  refine va_put (D := (dC, dI)) (ci := 8) (v := .int (-1)) (ty := .int) (C := RX8) (T := TX8) (N := 6) hx hb hts in_wsX8_parse_X8 tyX8 tyX8_ok nmX8 hown hK hP hD hS 0 rfl rfl 5 (by decide) (hts (.fieldLink RX8 28 "ShipOffice$Tape" "fault" "I") (by decide +kernel)) (fun _ h9 => h9) rfl (by decide +kernel) rfl rfl (Nat.le_of_ble_eq_true rfl) dX8_parse_12 (fun H locs hP hD hS => ?_)
  have hP : va_P (dC, dI) vwCl [((q 9), .inr (8, [.ref (q 90), .int 0, .ref (q 91), .int 0, .int 0, .int (-1)]))] H := hP
  have hD : va_D A [((q 9), .inr (8, [.ref (q 90), .int 0, .ref (q 91), .int 0, .int 0, .int (-1)]))] := hD
  refine lv_aload_n hx hb dX8_parse_15 rfl (lv_at hl 0 rfl) ?_
  refine lv_iconst (v := 0) hx hb dX8_parse_16 (by decide) ?_
  have hPc := hP.sub (ws' := [((q 9), .inr (8, [.ref (q 90), .int 0, .ref (q 91), .int 0, .int 0, .int (-1)]))]) [0] rfl
  have hDc := hD.sub (ws' := [((q 9), .inr (8, [.ref (q 90), .int 0, .ref (q 91), .int 0, .int 0, .int (-1)]))]) [0] (by decide) rfl
  have hKc := hK.sub (tys' := []) [] rfl
  have hFc := va_free (wc := [((q 9), .inr (8, [.ref (q 90), .int 0, .ref (q 91), .int 0, .int 0, .int (-1)]))]) hD hS hA [0] rfl
  refine va_callv (va_runV (As := [.int 0]) (rest := []) ⟨hx, hb, hml, hown, hts⟩ (c_X8_parseSum l dC dI H.size tL tS h0 q cq) (cwV 1 hts gX8_parse_X8_parseSum rfl rfl rfl (by decide +kernel) ⟨(Nat.le_of_ble_eq_true rfl), (Nat.le_of_ble_eq_true rfl)⟩) (pr_VS (r := (RX8, TX8, 6)) hPc hKc hDc 0 8 rfl rfl (hZ.go hS hFc)) rfl rfl hl.1 rfl (lv_room (Nat.le_of_ble_eq_true rfl)) dX8_parse_17 ⟨(Nat.le_of_ble_eq_true rfl), (Nat.le_of_ble_eq_true rfl)⟩) hS (fun q _ h => hFc q h) hFc (fun u t H locs ht hvm w_1 hB hz1 hk1 hS => ?_)
  obtain ⟨hP1, hK1, hD1⟩ := hB
  rw [ht] at hP1
  have hK1 := va_K.moved hvm.symm hK1
  obtain ⟨hP, hD⟩ := va_join (wr := []) (w1 := [((q 9), .inr (8, [.ref (q 90), .int 0, .ref (q 91), .int 0, .int 0, .int 0]))]) hP hD [0] [] rfl rfl (by decide) (by decide) hk1 hFc hP1 hD1
  have hK := hK.app hK1
  have hP : va_P (dC, dI) vwCl [((q 9), .inr (8, [.ref (q 90), .int 0, .ref (q 91), .int 0, .int 0, .int 0]))] H := hP
  have hD : va_D A [((q 9), .inr (8, [.ref (q 90), .int 0, .ref (q 91), .int 0, .int 0, .int 0]))] := hD
  have hK : va_K (dC, dI) vwCl [] s := hK
  clear hP1 hK1 hD1 hk1 hz1 hvm ht hPc hDc hKc hFc
  refine lv_aload_n hx hb dX8_parse_20 rfl (lv_at hl 0 rfl) ?_
  refine va_get (D := (dC, dI)) (ci := 8) (v := .int 0) (C := RX8) (T := TX8) (N := 6) hx hb hts in_wsX8_parse_X8 hown hK hP 0 rfl rfl 5 (by decide) (hts (.fieldLink RX8 28 "ShipOffice$Tape" "fault" "I") (by decide +kernel)) (fun _ h9 => h9) rfl dX8_parse_21 ?_
  refine lv_if_ge (tgt := 46) hx hb dX8_parse_24 (by decide) (fun _ => ?_) (fun c_3 => absurd c_3 (by decide))
  refine lv_aload_n hx hb dX8_parse_46 rfl (lv_at hl 0 rfl) ?_
  refine va_get (D := (dC, dI)) (ci := 8) (v := .int 0) (C := RX8) (T := TX8) (N := 6) hx hb hts in_wsX8_parse_X8 hown hK hP 0 rfl rfl 5 (by decide) (hts (.fieldLink RX8 28 "ShipOffice$Tape" "fault" "I") (by decide +kernel)) (fun _ h9 => h9) rfl dX8_parse_47 ?_
  have hP9 := hP.sub (ws' := [((q 9), .inr (8, [.ref (q 90), .int 0, .ref (q 91), .int 0, .int 0, .int 0]))]) [0] rfl
  have hD9 := hD.sub (ws' := [((q 9), .inr (8, [.ref (q 90), .int 0, .ref (q 91), .int 0, .int 0, .int 0]))]) [0] (by decide) rfl
  have hK9 := hK.sub (tys' := []) [] rfl
  subst hAe
  exact W.iret (v := 0) hx hb hr (fun t ht hW => ⟨⟨0, (), rfl, rfl, ⟨by rw [ht]; exact hP9, va_K.moved hW.alike hK9, hD9⟩⟩, hS.F ht⟩) hS.2.2 dX8_parse_50
set_option maxHeartbeats 4000000 in
set_option maxRecDepth 100000 in
theorem c_X10_act (l : Launch) (dC : Nat → ClassId) (dI : Nat → Nat → Nat) (sz : Nat) (tL tS : Nat) (h0 : Nat) (q : Nat → Nat) (cq : Nat → ClassId) (a1 : Int32) (a2 : Int32) : Met l yX10_act wsX10_act ({ frames := 6, cells := 0, slots := 0, locals := 130 }) (va_Pc [.ref h0, .int a1, .int a2] (pcS (dC, dI) [((cq 15), .int)] [(h0, .inr (10, oF q)), ((q 15), .inl ((cq 15), 7, .inl (fun _ => 0))), ((q 8), .inr (5, [.ref (q 80), .ref (q 81), .int 0])), ((q 9), .inr (8, [.ref (q 90), .int 0, .ref (q 91), .int 0, .int 0, .int 0]))] sz tL tS [(h0, .inr (10, oF q)), ((q 15), .inl ((cq 15), 7, .inl (fun _ => 0))), ((q 8), .inr (5, [.ref (q 80), .ref (q 81), .int 0])), ((q 9), .inr (8, [.ref (q 90), .int 0, .ref (q 91), .int 0, .int 0, .int 0]))])) (va_Qi (fun (r : Int32) (u : Unit) => r = sp_act a1 a2) (fun _ _ => True) (va_A [(h0, .inr (10, oF q)), ((q 15), .inl ((cq 15), 7, .inl (fun _ => 0))), ((q 8), .inr (5, [.ref (q 80), .ref (q 81), .int 0])), ((q 9), .inr (8, [.ref (q 90), .int 0, .ref (q 91), .int 0, .int 0, .int 0]))] sz)) 0 0 (va_A [(h0, .inr (10, oF q)), ((q 15), .inl ((cq 15), 7, .inl (fun _ => 0))), ((q 8), .inr (5, [.ref (q 80), .ref (q 81), .int 0])), ((q 9), .inr (8, [.ref (q 90), .int 0, .ref (q 91), .int 0, .int 0, .int 0]))] sz) := by
  refine Met.ofW (cc := cX10_act) (maxL := 4) (ret := (some .int)) (by decide) rfl ?_
  intro p e s m args below meth c s₁ B hml hv
  obtain ⟨rfl, ⟨hsz, hP, hK, hD0⟩, hZ⟩ := hv
  have hx := B.exec
  have hb := B.bytes
  have hr := B.returns
  have hts := atoms_spec (ws := wsX10_act) B.pre
  have hown : s.vm.findClass RX10 = some m.cls := findClass_of_methodNamed B.named
  have hlocks := B.notSynchronized
  subst hsz
  have hD := hD0.self (sz := s.heap.size)
  generalize hAe : va_A [(h0, .inr (10, oF q)), ((q 15), .inl ((cq 15), 7, .inl (fun _ => 0))), ((q 8), .inr (5, [.ref (q 80), .ref (q 81), .int 0])), ((q 9), .inr (8, [.ref (q 90), .int 0, .ref (q 91), .int 0, .int 0, .int 0]))] s.heap.size = A at hD hZ ⊢
  have hA : ∀ q : Nat, s.heap.size ≤ q → A q := fun q h => by rw [← hAe]; exact Or.inr h
  have hS : va_S A s.heap s.heap [] := va_S.rf
  have hP : va_P (dC, dI) vwCl [(h0, .inr (10, oF q)), ((q 15), .inl ((cq 15), 7, .inl (fun _ => 0))), ((q 8), .inr (5, [.ref (q 80), .ref (q 81), .int 0])), ((q 9), .inr (8, [.ref (q 90), .int 0, .ref (q 91), .int 0, .int 0, .int 0]))] s.heap := hP
  have hl := lv_entry ([.ref h0, .int a1, .int a2]) (n := 4) (Nat.le_of_ble_eq_true rfl)
  rw [lg_entry_eq]
  generalize (lg_sl ([.ref h0, .int a1, .int a2]) ++ List.replicate (4 - (lg_sl ([.ref h0, .int a1, .int a2])).length) Slot.unset).toArray = ls at hl ⊢
  have hl : lv_has ls 4 [(0, .ref h0), (1, .int a1), (2, .int a2)] := hl
  refine lv_iload_n hx hb dX10_act_0 rfl (lv_at hl 1 rfl) ?_
  refine lv_if_lt (tgt := 9) hx hb dX10_act_1 (by decide) (fun c_1 => ?_) (fun c_1 => ?_)
  · refine lv_aload_n hx hb dX10_act_9 rfl (lv_at hl 0 rfl) ?_
    refine lv_bipush (v := (-2)) hx hb dX10_act_10 (by decide) ?_
    have hPc := hP.sub (ws' := [(h0, .inr (10, oF q)), ((q 15), .inl ((cq 15), 7, .inl (fun _ => 0)))]) [0, 1] rfl
    have hDc := hD.sub (ws' := [(h0, .inr (10, oF q)), ((q 15), .inl ((cq 15), 7, .inl (fun _ => 0)))]) [0, 1] (by decide) rfl
    have hKc := hK.sub (tys' := [((cq 15), .int)]) [0] rfl
    have hFc := va_free (wc := [(h0, .inr (10, oF q)), ((q 15), .inl ((cq 15), 7, .inl (fun _ => 0)))]) hD hS hA [0, 1] rfl
    refine va_calli (va_runV (As := [.int (-2)]) (rest := []) ⟨hx, hb, hml, hown, hts⟩ (c_X10_refuse l dC dI s.heap.size h0 q cq (-2) (by unfold vp_in; decide)) (cwV 1 hts gX10_act_X10_refuse rfl rfl rfl (by decide +kernel) ⟨(Nat.le_of_ble_eq_true rfl), (Nat.le_of_ble_eq_true rfl)⟩) (pr_V (r := (RX10, TX10, 16)) hPc hKc hDc 0 10 rfl rfl) rfl rfl hl.1 rfl (lv_room (Nat.le_of_ble_eq_true rfl)) dX10_act_12 ⟨(Nat.le_of_ble_eq_true rfl), (Nat.le_of_ble_eq_true rfl)⟩) hS (fun q _ h => hFc q h) hFc (fun r_3 u t H locs ht hvm w_2 hB hz1 hk1 hS => ?_)
    subst w_2
    exact W.iret (v := (-2)) hx hb hr (fun t ht hW => ⟨⟨(-2), (), rfl, (by simp [sp_act, isI_lt 5 c_1]), trivial⟩, hS.F ht⟩) hS.2.2 dX10_act_15
  · refine lv_iload_n hx hb dX10_act_4 rfl (lv_at hl 1 rfl) ?_
    refine lv_iconst (v := 5) hx hb dX10_act_5 (by decide) ?_
    refine lv_icmp_lt (tgt := 16) hx hb dX10_act_6 (by decide) (fun c_4 => ?_) (fun c_4 => ?_)
    · refine lv_iload_n hx hb dX10_act_16 rfl (lv_at hl 2 rfl) ?_
      refine lv_aload_n hx hb dX10_act_17 rfl (lv_at hl 0 rfl) ?_
      refine va_get (D := (dC, dI)) (ci := 10) (v := .int 0) (C := RX10) (T := TX10) (N := 16) hx hb hts in_wsX10_act_X10 hown hK hP 0 rfl rfl 0 (by decide) (hts (.fieldLink RX10 73 "ShipOffice" "now" "I") (by decide +kernel)) (fun _ h9 => h9) rfl dX10_act_18 ?_
      refine lv_icmp_ge (tgt := 31) hx hb dX10_act_21 (by decide) (fun c_5 => ?_) (fun c_5 => ?_)
      · refine lv_iload_n hx hb dX10_act_31 rfl (lv_at hl 2 rfl) ?_
        refine lv_sipush (v := 3000) hx hb dX10_act_32 (by decide) ?_
        refine lv_icmp_gt (tgt := 50) hx hb dX10_act_35 (by decide) (fun c_6 => ?_) (fun c_6 => ?_)
        · refine lv_aload_n hx hb dX10_act_50 rfl (lv_at hl 0 rfl) ?_
          refine lv_bipush (v := (-6)) hx hb dX10_act_51 (by decide) ?_
          have hPc := hP.sub (ws' := [(h0, .inr (10, oF q)), ((q 15), .inl ((cq 15), 7, .inl (fun _ => 0)))]) [0, 1] rfl
          have hDc := hD.sub (ws' := [(h0, .inr (10, oF q)), ((q 15), .inl ((cq 15), 7, .inl (fun _ => 0)))]) [0, 1] (by decide) rfl
          have hKc := hK.sub (tys' := [((cq 15), .int)]) [0] rfl
          have hFc := va_free (wc := [(h0, .inr (10, oF q)), ((q 15), .inl ((cq 15), 7, .inl (fun _ => 0)))]) hD hS hA [0, 1] rfl
          refine va_calli (va_runV (As := [.int (-6)]) (rest := []) ⟨hx, hb, hml, hown, hts⟩ (c_X10_refuse l dC dI s.heap.size h0 q cq (-6) (by unfold vp_in; decide)) (cwV 1 hts gX10_act_X10_refuse rfl rfl rfl (by decide +kernel) ⟨(Nat.le_of_ble_eq_true rfl), (Nat.le_of_ble_eq_true rfl)⟩) (pr_V (r := (RX10, TX10, 16)) hPc hKc hDc 0 10 rfl rfl) rfl rfl hl.1 rfl (lv_room (Nat.le_of_ble_eq_true rfl)) dX10_act_53 ⟨(Nat.le_of_ble_eq_true rfl), (Nat.le_of_ble_eq_true rfl)⟩) hS (fun q _ h => hFc q h) hFc (fun r_8 u t H locs ht hvm w_7 hB hz1 hk1 hS => ?_)
          subst w_7
          exact W.iret (v := (-6)) hx hb hr (fun t ht hW => ⟨⟨(-6), (), rfl, (by simp [sp_act, isI_in c_1 (Int32.not_le.mpr c_4), c_5, c_6]), trivial⟩, hS.F ht⟩) hS.2.2 dX10_act_56
        · refine lv_aload_n hx hb dX10_act_38 rfl (lv_at hl 0 rfl) ?_
          refine va_get (D := (dC, dI)) (ci := 10) (v := .ref (q 8)) (C := RX10) (T := TX10) (N := 16) hx hb hts in_wsX10_act_X10 hown hK hP 0 rfl rfl 8 (by decide) (hts (.fieldLink RX10 30 "ShipOffice" "law" "LShipOffice$Law;") (by decide +kernel)) (fun _ h9 => h9) rfl dX10_act_39 ?_
          refine va_get (D := (dC, dI)) (ci := 5) (v := .int 0) (C := RX5) (T := TX5) (N := 3) hx hb hts in_wsX10_act_X5 hown hK hP 2 rfl rfl 2 (by decide) (hts (.fieldLink RX10 178 "ShipOffice$Law" "actCount" "I") (by decide +kernel)) (fun _ h9 => h9) rfl dX10_act_42 ?_
          refine lv_bipush (v := 30) hx hb dX10_act_45 (by decide) ?_
          refine lv_icmp_lt (tgt := 57) hx hb dX10_act_47 (by decide) (fun _ => ?_) (fun c_9 => absurd c_9 (by decide))
          refine lv_aload_n hx hb dX10_act_57 rfl (lv_at hl 0 rfl) ?_
          refine va_get (D := (dC, dI)) (ci := 10) (v := .ref (q 9)) (C := RX10) (T := TX10) (N := 16) hx hb hts in_wsX10_act_X10 hown hK hP 0 rfl rfl 9 (by decide) (hts (.fieldLink RX10 37 "ShipOffice" "tape" "LShipOffice$Tape;") (by decide +kernel)) (fun _ h9 => h9) rfl dX10_act_58 ?_
          have hPc := hP.sub (ws' := [((q 9), .inr (8, [.ref (q 90), .int 0, .ref (q 91), .int 0, .int 0, .int 0]))]) [3] rfl
          have hDc := hD.sub (ws' := [((q 9), .inr (8, [.ref (q 90), .int 0, .ref (q 91), .int 0, .int 0, .int 0]))]) [3] (by decide) rfl
          have hKc := hK.sub (tys' := []) [] rfl
          have hFc := va_free (wc := [((q 9), .inr (8, [.ref (q 90), .int 0, .ref (q 91), .int 0, .int 0, .int 0]))]) hD hS hA [3] rfl
          refine va_calli (va_runV (As := []) (rest := []) ⟨hx, hb, hml, hown, hts⟩ (c_X8_parse l dC dI s.heap.size tL tS h0 q cq) (cwV 0 hts gX10_act_X8_parse rfl rfl rfl (by decide +kernel) ⟨(Nat.le_of_ble_eq_true rfl), (Nat.le_of_ble_eq_true rfl)⟩) (pr_VS (r := (RX8, TX8, 6)) hPc hKc hDc 0 8 rfl rfl (hZ.go hS hFc)) rfl rfl hl.1 rfl (lv_room (Nat.le_of_ble_eq_true rfl)) dX10_act_61 ⟨(Nat.le_of_ble_eq_true rfl), (Nat.le_of_ble_eq_true rfl)⟩) hS (fun q _ h => hFc q h) hFc (fun r_11 u t H locs ht hvm w_10 hB hz1 hk1 hS => ?_)
          obtain ⟨hP1, hK1, hD1⟩ := hB
          rw [ht] at hP1
          have hK1 := va_K.moved hvm.symm hK1
          obtain ⟨hP, hD⟩ := va_join (wr := [(h0, .inr (10, oF q)), ((q 15), .inl ((cq 15), 7, .inl (fun _ => 0))), ((q 8), .inr (5, [.ref (q 80), .ref (q 81), .int 0]))]) (w1 := [((q 9), .inr (8, [.ref (q 90), .int 0, .ref (q 91), .int 0, .int 0, .int 0]))]) hP hD [3] [0, 1, 2] rfl rfl (by decide) (by decide) hk1 hFc hP1 hD1
          have hK := hK.app hK1
          have hP : va_P (dC, dI) vwCl [(h0, .inr (10, oF q)), ((q 15), .inl ((cq 15), 7, .inl (fun _ => 0))), ((q 8), .inr (5, [.ref (q 80), .ref (q 81), .int 0])), ((q 9), .inr (8, [.ref (q 90), .int 0, .ref (q 91), .int 0, .int 0, .int 0]))] H := hP
          have hD : va_D A [(h0, .inr (10, oF q)), ((q 15), .inl ((cq 15), 7, .inl (fun _ => 0))), ((q 8), .inr (5, [.ref (q 80), .ref (q 81), .int 0])), ((q 9), .inr (8, [.ref (q 90), .int 0, .ref (q 91), .int 0, .int 0, .int 0]))] := hD
          have hK : va_K (dC, dI) vwCl [((cq 15), .int)] s := hK
          clear hP1 hK1 hD1 hk1 hz1 hvm ht hPc hDc hKc hFc
          subst w_10
          refine lv_istore_n (lv' := [(3, .int 0), (0, .ref h0), (1, .int a1), (2, .int a2)]) hx hb dX10_act_64 rfl hl (by decide) rfl (fun ls hl => ?_)
          refine lv_iload_n hx hb dX10_act_65 rfl (lv_at hl 0 rfl) ?_
          refine lv_if_ge (tgt := 102) hx hb dX10_act_66 (by decide) (fun _ => ?_) (fun c_12 => absurd c_12 (by decide))
          refine lv_aload_n hx hb dX10_act_102 rfl (lv_at hl 1 rfl) ?_
          refine va_get (D := (dC, dI)) (ci := 10) (v := .ref (q 9)) (C := RX10) (T := TX10) (N := 16) hx hb hts in_wsX10_act_X10 hown hK hP 0 rfl rfl 9 (by decide) (hts (.fieldLink RX10 37 "ShipOffice" "tape" "LShipOffice$Tape;") (by decide +kernel)) (fun _ h9 => h9) rfl dX10_act_103 ?_
          refine lv_iconst (v := 0) hx hb dX10_act_106 (by decide) ?_
          refine va_put (D := (dC, dI)) (ci := 8) (v := .int 0) (ty := .int) (C := RX8) (T := TX8) (N := 6) hx hb hts in_wsX10_act_X8 tyX8 tyX8_ok nmX8 hown hK hP hD hS 3 rfl rfl 1 (by decide) (hts (.fieldLink RX10 169 "ShipOffice$Tape" "size" "I") (by decide +kernel)) (fun _ h9 => h9) rfl (by decide +kernel) rfl rfl (Nat.le_of_ble_eq_true rfl) dX10_act_107 (fun H locs hP hD hS => ?_)
          have hP : va_P (dC, dI) vwCl [(h0, .inr (10, oF q)), ((q 15), .inl ((cq 15), 7, .inl (fun _ => 0))), ((q 8), .inr (5, [.ref (q 80), .ref (q 81), .int 0])), ((q 9), .inr (8, [.ref (q 90), .int 0, .ref (q 91), .int 0, .int 0, .int 0]))] H := hP
          have hD : va_D A [(h0, .inr (10, oF q)), ((q 15), .inl ((cq 15), 7, .inl (fun _ => 0))), ((q 8), .inr (5, [.ref (q 80), .ref (q 81), .int 0])), ((q 9), .inr (8, [.ref (q 90), .int 0, .ref (q 91), .int 0, .int 0, .int 0]))] := hD
          refine lv_iload_n hx hb dX10_act_110 rfl (lv_at hl 0 rfl) ?_
          refine lv_if_ge (tgt := 124) hx hb dX10_act_111 (by decide) (fun _ => ?_) (fun c_13 => absurd c_13 (by decide))
          refine lv_bipush (v := (-20)) hx hb dX10_act_124 (by decide) ?_
          refine lv_iload_n hx hb dX10_act_126 rfl (lv_at hl 0 rfl) ?_
          refine lv_isub hx hb dX10_act_127 ?_
          refine lv_topi (fun y ey => ?_)
          obtain rfl : y = (-20) := ey.trans (by decide)
          exact W.iret (v := (-20)) hx hb hr (fun t ht hW => ⟨⟨(-20), (), rfl, (by simp [sp_act, isI_in c_1 (Int32.not_le.mpr c_4), c_5, c_6]), trivial⟩, hS.F ht⟩) hS.2.2 dX10_act_128
      · refine lv_aload_n hx hb dX10_act_24 rfl (lv_at hl 0 rfl) ?_
        refine lv_bipush (v := (-4)) hx hb dX10_act_25 (by decide) ?_
        have hPc := hP.sub (ws' := [(h0, .inr (10, oF q)), ((q 15), .inl ((cq 15), 7, .inl (fun _ => 0)))]) [0, 1] rfl
        have hDc := hD.sub (ws' := [(h0, .inr (10, oF q)), ((q 15), .inl ((cq 15), 7, .inl (fun _ => 0)))]) [0, 1] (by decide) rfl
        have hKc := hK.sub (tys' := [((cq 15), .int)]) [0] rfl
        have hFc := va_free (wc := [(h0, .inr (10, oF q)), ((q 15), .inl ((cq 15), 7, .inl (fun _ => 0)))]) hD hS hA [0, 1] rfl
        refine va_calli (va_runV (As := [.int (-4)]) (rest := []) ⟨hx, hb, hml, hown, hts⟩ (c_X10_refuse l dC dI s.heap.size h0 q cq (-4) (by unfold vp_in; decide)) (cwV 1 hts gX10_act_X10_refuse rfl rfl rfl (by decide +kernel) ⟨(Nat.le_of_ble_eq_true rfl), (Nat.le_of_ble_eq_true rfl)⟩) (pr_V (r := (RX10, TX10, 16)) hPc hKc hDc 0 10 rfl rfl) rfl rfl hl.1 rfl (lv_room (Nat.le_of_ble_eq_true rfl)) dX10_act_27 ⟨(Nat.le_of_ble_eq_true rfl), (Nat.le_of_ble_eq_true rfl)⟩) hS (fun q _ h => hFc q h) hFc (fun r_15 u t H locs ht hvm w_14 hB hz1 hk1 hS => ?_)
        subst w_14
        exact W.iret (v := (-4)) hx hb hr (fun t ht hW => ⟨⟨(-4), (), rfl, (by simp [sp_act, isI_in c_1 (Int32.not_le.mpr c_4), c_5]), trivial⟩, hS.F ht⟩) hS.2.2 dX10_act_30
    · refine lv_aload_n hx hb dX10_act_9 rfl (lv_at hl 0 rfl) ?_
      refine lv_bipush (v := (-2)) hx hb dX10_act_10 (by decide) ?_
      have hPc := hP.sub (ws' := [(h0, .inr (10, oF q)), ((q 15), .inl ((cq 15), 7, .inl (fun _ => 0)))]) [0, 1] rfl
      have hDc := hD.sub (ws' := [(h0, .inr (10, oF q)), ((q 15), .inl ((cq 15), 7, .inl (fun _ => 0)))]) [0, 1] (by decide) rfl
      have hKc := hK.sub (tys' := [((cq 15), .int)]) [0] rfl
      have hFc := va_free (wc := [(h0, .inr (10, oF q)), ((q 15), .inl ((cq 15), 7, .inl (fun _ => 0)))]) hD hS hA [0, 1] rfl
      refine va_calli (va_runV (As := [.int (-2)]) (rest := []) ⟨hx, hb, hml, hown, hts⟩ (c_X10_refuse l dC dI s.heap.size h0 q cq (-2) (by unfold vp_in; decide)) (cwV 1 hts gX10_act_X10_refuse rfl rfl rfl (by decide +kernel) ⟨(Nat.le_of_ble_eq_true rfl), (Nat.le_of_ble_eq_true rfl)⟩) (pr_V (r := (RX10, TX10, 16)) hPc hKc hDc 0 10 rfl rfl) rfl rfl hl.1 rfl (lv_room (Nat.le_of_ble_eq_true rfl)) dX10_act_12 ⟨(Nat.le_of_ble_eq_true rfl), (Nat.le_of_ble_eq_true rfl)⟩) hS (fun q _ h => hFc q h) hFc (fun r_17 u t H locs ht hvm w_16 hB hz1 hk1 hS => ?_)
      subst w_16
      exact W.iret (v := (-2)) hx hb hr (fun t ht hW => ⟨⟨(-2), (), rfl, (by simp [sp_act, isI_ge (Int32.not_lt.mp c_4)]), trivial⟩, hS.F ht⟩) hS.2.2 dX10_act_15
