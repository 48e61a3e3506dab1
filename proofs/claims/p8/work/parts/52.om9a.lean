abbrev cX8_parseSum : ByteArray := prog_10_method_4_code
def yX8_parseSum : MethodName := ⟨RX8, "parseSum", "(I)V"⟩
abbrev cX8_parseTerm : ByteArray := prog_10_method_5_code
def yX8_parseTerm : MethodName := ⟨RX8, "parseTerm", "(I)V"⟩
abbrev cX8_parseUnit : ByteArray := prog_10_method_6_code
def yX8_parseUnit : MethodName := ⟨RX8, "parseUnit", "(I)V"⟩
abbrev cX8_parseBracket : ByteArray := prog_10_method_8_code
def yX8_parseBracket : MethodName := ⟨RX8, "parseBracket", "(I)V"⟩
theorem gw_X8_emitSign : wsX8_emitSign.all goodWord = true := by decide +kernel
theorem gw_X8_letterHere : wsX8_letterHere.all goodWord = true := by decide +kernel
theorem gw_X8_parseNumber : wsX8_parseNumber.all goodWord = true := by decide +kernel
def wsX8_parseBracket_r1 : List Cond := [Cond.fieldLink RX8 28 "ShipOffice$Tape" "fault" "I", Cond.fieldLink RX8 9 "ShipOffice$Tape" "bytes" "[I", Cond.fieldLink RX8 22 "ShipOffice$Tape" "at" "I", Cond.methodLink RX8 31 yX8_parseSum, Cond.instanceMethod yX8_parseSum, Cond.selects RX8 yX8_parseSum yX8_parseSum, Cond.initialized RX8, Cond.methodLink RX8 38 yX8_sees, Cond.instanceMethod yX8_sees, Cond.selects RX8 yX8_sees yX8_sees, Cond.code yX8_sees cX8_sees 2 (some .boolean), Cond.fieldLink RX8 18 "ShipOffice$Tape" "size" "I", Cond.methodLink RX8 42 yX8_emitSign, Cond.instanceMethod yX8_emitSign, Cond.selects RX8 yX8_emitSign yX8_emitSign, Cond.code yX8_emitSign cX8_emitSign 3 none, Cond.fieldLink RX8 71 "ShipOffice$Act" "SIGNS" "[C", Cond.methodLink RX8 61 yX8_emit, Cond.instanceMethod yX8_emit, Cond.selects RX8 yX8_emit yX8_emit, Cond.code yX8_emit cX8_emit 2 none, Cond.fieldLink RX8 25 "ShipOffice$Tape" "codeSize" "I", Cond.fieldLink RX8 15 "ShipOffice$Tape" "code" "[I", Cond.code yX8_parseSum cX8_parseSum 4 none]
def wsX8_parseBracket_r2 : List Cond := [Cond.methodLink RX8 35 yX8_parseTerm, Cond.instanceMethod yX8_parseTerm, Cond.selects RX8 yX8_parseTerm yX8_parseTerm, Cond.code yX8_parseTerm cX8_parseTerm 4 none, Cond.methodLink RX8 45 yX8_parseUnit, Cond.instanceMethod yX8_parseUnit, Cond.selects RX8 yX8_parseUnit yX8_parseUnit, Cond.code yX8_parseUnit cX8_parseUnit 3 none, Cond.methodLink RX8 48 yX8_letterHere, Cond.instanceMethod yX8_letterHere, Cond.selects RX8 yX8_letterHere yX8_letterHere, Cond.code yX8_letterHere cX8_letterHere 2 (some .int), Cond.methodLink RX8 52 yX8_seesDigit, Cond.instanceMethod yX8_seesDigit, Cond.selects RX8 yX8_seesDigit yX8_seesDigit, Cond.code yX8_seesDigit cX8_seesDigit 1 (some .boolean), Cond.methodLink RX8 56 yX8_parseNumber, Cond.instanceMethod yX8_parseNumber, Cond.selects RX8 yX8_parseNumber yX8_parseNumber, Cond.code yX8_parseNumber cX8_parseNumber 3 none, Cond.methodLink RX8 64 yX8_parseBracket, Cond.instanceMethod yX8_parseBracket, Cond.selects RX8 yX8_parseBracket yX8_parseBracket]
def wsX8_parseBracket : List Cond := .code yX8_parseBracket cX8_parseBracket 3 none :: ((wsX8_parseBracket_r1 ++ wsX8_parseBracket_r2) ++ wsX80)
theorem gw_X8_parseBracket : wsX8_parseBracket.all goodWord = true := by decide +kernel
theorem il_X8_parseBracket_1 : ∀ w ∈ wsX8_parseBracket_r1, w ∈ wsX8_parseBracket := fun w h => (List.mem_cons_of_mem _ (List.mem_append_left _ (List.mem_append_left _ h)))
theorem il_X8_parseBracket_2 : ∀ w ∈ wsX8_parseBracket_r2, w ∈ wsX8_parseBracket := fun w h => (List.mem_cons_of_mem _ (List.mem_append_left _ (List.mem_append_right _ h)))
theorem il_X8_parseBracket_3 : ∀ w ∈ wsX80, w ∈ wsX8_parseBracket := fun w h => (List.mem_cons_of_mem _ (List.mem_append_right _ h))
theorem iw_X8_parseBracket_1 : Cond.fieldLink RX8 28 "ShipOffice$Tape" "fault" "I" ∈ wsX8_parseBracket := (mmI il_X8_parseBracket_1 0 rfl)
theorem iw_X8_parseBracket_2 : Cond.fieldLink RX8 22 "ShipOffice$Tape" "at" "I" ∈ wsX8_parseBracket := (mmI il_X8_parseBracket_1 2 rfl)
theorem iw_X8_parseBracket_3 : Cond.fieldLink RX8 9 "ShipOffice$Tape" "bytes" "[I" ∈ wsX8_parseBracket := (mmI il_X8_parseBracket_1 1 rfl)
def wsX8_parseSum_r1 : List Cond := [Cond.fieldLink RX8 28 "ShipOffice$Tape" "fault" "I", Cond.fieldLink RX8 9 "ShipOffice$Tape" "bytes" "[I", Cond.fieldLink RX8 22 "ShipOffice$Tape" "at" "I", Cond.methodLink RX8 35 yX8_parseTerm, Cond.instanceMethod yX8_parseTerm, Cond.selects RX8 yX8_parseTerm yX8_parseTerm, Cond.initialized RX8, Cond.methodLink RX8 38 yX8_sees, Cond.instanceMethod yX8_sees, Cond.selects RX8 yX8_sees yX8_sees, Cond.code yX8_sees cX8_sees 2 (some .boolean), Cond.fieldLink RX8 18 "ShipOffice$Tape" "size" "I", Cond.methodLink RX8 42 yX8_emitSign, Cond.instanceMethod yX8_emitSign, Cond.selects RX8 yX8_emitSign yX8_emitSign, Cond.code yX8_emitSign cX8_emitSign 3 none, Cond.fieldLink RX8 71 "ShipOffice$Act" "SIGNS" "[C", Cond.methodLink RX8 61 yX8_emit, Cond.instanceMethod yX8_emit, Cond.selects RX8 yX8_emit yX8_emit, Cond.code yX8_emit cX8_emit 2 none, Cond.fieldLink RX8 25 "ShipOffice$Tape" "codeSize" "I", Cond.fieldLink RX8 15 "ShipOffice$Tape" "code" "[I", Cond.code yX8_parseBracket cX8_parseBracket 3 none]
def wsX8_parseSum_r2 : List Cond := [Cond.methodLink RX8 31 yX8_parseSum, Cond.instanceMethod yX8_parseSum, Cond.selects RX8 yX8_parseSum yX8_parseSum, Cond.code yX8_parseTerm cX8_parseTerm 4 none, Cond.methodLink RX8 45 yX8_parseUnit, Cond.instanceMethod yX8_parseUnit, Cond.selects RX8 yX8_parseUnit yX8_parseUnit, Cond.code yX8_parseUnit cX8_parseUnit 3 none, Cond.methodLink RX8 48 yX8_letterHere, Cond.instanceMethod yX8_letterHere, Cond.selects RX8 yX8_letterHere yX8_letterHere, Cond.code yX8_letterHere cX8_letterHere 2 (some .int), Cond.methodLink RX8 52 yX8_seesDigit, Cond.instanceMethod yX8_seesDigit, Cond.selects RX8 yX8_seesDigit yX8_seesDigit, Cond.code yX8_seesDigit cX8_seesDigit 1 (some .boolean), Cond.methodLink RX8 56 yX8_parseNumber, Cond.instanceMethod yX8_parseNumber, Cond.selects RX8 yX8_parseNumber yX8_parseNumber, Cond.code yX8_parseNumber cX8_parseNumber 3 none, Cond.methodLink RX8 64 yX8_parseBracket, Cond.instanceMethod yX8_parseBracket, Cond.selects RX8 yX8_parseBracket yX8_parseBracket]
def wsX8_parseSum : List Cond := .code yX8_parseSum cX8_parseSum 4 none :: ((wsX8_parseSum_r1 ++ wsX8_parseSum_r2) ++ wsX80)
theorem gw_X8_parseSum : wsX8_parseSum.all goodWord = true := by decide +kernel
theorem il_X8_parseSum_1 : ∀ w ∈ wsX8_parseSum_r1, w ∈ wsX8_parseSum := fun w h => (List.mem_cons_of_mem _ (List.mem_append_left _ (List.mem_append_left _ h)))
theorem il_X8_parseSum_2 : ∀ w ∈ wsX8_parseSum_r2, w ∈ wsX8_parseSum := fun w h => (List.mem_cons_of_mem _ (List.mem_append_left _ (List.mem_append_right _ h)))
theorem il_X8_parseSum_3 : ∀ w ∈ wsX80, w ∈ wsX8_parseSum := fun w h => (List.mem_cons_of_mem _ (List.mem_append_right _ h))
theorem iw_X8_parseSum_1 : Cond.fieldLink RX8 28 "ShipOffice$Tape" "fault" "I" ∈ wsX8_parseSum := (mmI il_X8_parseSum_1 0 rfl)
theorem iw_X8_parseSum_2 : Cond.fieldLink RX8 9 "ShipOffice$Tape" "bytes" "[I" ∈ wsX8_parseSum := (mmI il_X8_parseSum_1 1 rfl)
theorem iw_X8_parseSum_3 : Cond.fieldLink RX8 22 "ShipOffice$Tape" "at" "I" ∈ wsX8_parseSum := (mmI il_X8_parseSum_1 2 rfl)
def wsX8_parseTerm_r1 : List Cond := [Cond.fieldLink RX8 28 "ShipOffice$Tape" "fault" "I", Cond.fieldLink RX8 9 "ShipOffice$Tape" "bytes" "[I", Cond.fieldLink RX8 22 "ShipOffice$Tape" "at" "I", Cond.methodLink RX8 45 yX8_parseUnit, Cond.instanceMethod yX8_parseUnit, Cond.selects RX8 yX8_parseUnit yX8_parseUnit, Cond.initialized RX8, Cond.methodLink RX8 38 yX8_sees, Cond.instanceMethod yX8_sees, Cond.selects RX8 yX8_sees yX8_sees, Cond.code yX8_sees cX8_sees 2 (some .boolean), Cond.fieldLink RX8 18 "ShipOffice$Tape" "size" "I", Cond.methodLink RX8 42 yX8_emitSign, Cond.instanceMethod yX8_emitSign, Cond.selects RX8 yX8_emitSign yX8_emitSign, Cond.code yX8_emitSign cX8_emitSign 3 none, Cond.fieldLink RX8 71 "ShipOffice$Act" "SIGNS" "[C", Cond.methodLink RX8 61 yX8_emit, Cond.instanceMethod yX8_emit, Cond.selects RX8 yX8_emit yX8_emit, Cond.code yX8_emit cX8_emit 2 none, Cond.fieldLink RX8 25 "ShipOffice$Tape" "codeSize" "I", Cond.fieldLink RX8 15 "ShipOffice$Tape" "code" "[I", Cond.code yX8_parseBracket cX8_parseBracket 3 none]
def wsX8_parseTerm_r2 : List Cond := [Cond.methodLink RX8 31 yX8_parseSum, Cond.instanceMethod yX8_parseSum, Cond.selects RX8 yX8_parseSum yX8_parseSum, Cond.code yX8_parseSum cX8_parseSum 4 none, Cond.methodLink RX8 35 yX8_parseTerm, Cond.instanceMethod yX8_parseTerm, Cond.selects RX8 yX8_parseTerm yX8_parseTerm, Cond.code yX8_parseUnit cX8_parseUnit 3 none, Cond.methodLink RX8 48 yX8_letterHere, Cond.instanceMethod yX8_letterHere, Cond.selects RX8 yX8_letterHere yX8_letterHere, Cond.code yX8_letterHere cX8_letterHere 2 (some .int), Cond.methodLink RX8 52 yX8_seesDigit, Cond.instanceMethod yX8_seesDigit, Cond.selects RX8 yX8_seesDigit yX8_seesDigit, Cond.code yX8_seesDigit cX8_seesDigit 1 (some .boolean), Cond.methodLink RX8 56 yX8_parseNumber, Cond.instanceMethod yX8_parseNumber, Cond.selects RX8 yX8_parseNumber yX8_parseNumber, Cond.code yX8_parseNumber cX8_parseNumber 3 none, Cond.methodLink RX8 64 yX8_parseBracket, Cond.instanceMethod yX8_parseBracket, Cond.selects RX8 yX8_parseBracket yX8_parseBracket]
def wsX8_parseTerm : List Cond := .code yX8_parseTerm cX8_parseTerm 4 none :: ((wsX8_parseTerm_r1 ++ wsX8_parseTerm_r2) ++ wsX80)
theorem gw_X8_parseTerm : wsX8_parseTerm.all goodWord = true := by decide +kernel
theorem il_X8_parseTerm_1 : ∀ w ∈ wsX8_parseTerm_r1, w ∈ wsX8_parseTerm := fun w h => (List.mem_cons_of_mem _ (List.mem_append_left _ (List.mem_append_left _ h)))
theorem il_X8_parseTerm_2 : ∀ w ∈ wsX8_parseTerm_r2, w ∈ wsX8_parseTerm := fun w h => (List.mem_cons_of_mem _ (List.mem_append_left _ (List.mem_append_right _ h)))
theorem il_X8_parseTerm_3 : ∀ w ∈ wsX80, w ∈ wsX8_parseTerm := fun w h => (List.mem_cons_of_mem _ (List.mem_append_right _ h))
theorem iw_X8_parseTerm_1 : Cond.fieldLink RX8 28 "ShipOffice$Tape" "fault" "I" ∈ wsX8_parseTerm := (mmI il_X8_parseTerm_1 0 rfl)
theorem iw_X8_parseTerm_2 : Cond.fieldLink RX8 9 "ShipOffice$Tape" "bytes" "[I" ∈ wsX8_parseTerm := (mmI il_X8_parseTerm_1 1 rfl)
theorem iw_X8_parseTerm_3 : Cond.fieldLink RX8 22 "ShipOffice$Tape" "at" "I" ∈ wsX8_parseTerm := (mmI il_X8_parseTerm_1 2 rfl)
def wsX8_parseUnit_r1 : List Cond := [Cond.fieldLink RX8 22 "ShipOffice$Tape" "at" "I", Cond.fieldLink RX8 28 "ShipOffice$Tape" "fault" "I", Cond.methodLink RX8 48 yX8_letterHere, Cond.instanceMethod yX8_letterHere, Cond.selects RX8 yX8_letterHere yX8_letterHere, Cond.initialized RX8, Cond.code yX8_letterHere cX8_letterHere 2 (some .int), Cond.methodLink RX8 38 yX8_sees, Cond.instanceMethod yX8_sees, Cond.selects RX8 yX8_sees yX8_sees, Cond.code yX8_sees cX8_sees 2 (some .boolean), Cond.fieldLink RX8 18 "ShipOffice$Tape" "size" "I", Cond.fieldLink RX8 9 "ShipOffice$Tape" "bytes" "[I", Cond.methodLink RX8 52 yX8_seesDigit, Cond.instanceMethod yX8_seesDigit, Cond.selects RX8 yX8_seesDigit yX8_seesDigit, Cond.code yX8_seesDigit cX8_seesDigit 1 (some .boolean), Cond.methodLink RX8 56 yX8_parseNumber, Cond.instanceMethod yX8_parseNumber, Cond.selects RX8 yX8_parseNumber yX8_parseNumber, Cond.code yX8_parseNumber cX8_parseNumber 3 none, Cond.methodLink RX8 61 yX8_emit, Cond.instanceMethod yX8_emit, Cond.selects RX8 yX8_emit yX8_emit]
def wsX8_parseUnit_r2 : List Cond := [Cond.code yX8_emit cX8_emit 2 none, Cond.fieldLink RX8 25 "ShipOffice$Tape" "codeSize" "I", Cond.fieldLink RX8 15 "ShipOffice$Tape" "code" "[I", Cond.methodLink RX8 64 yX8_parseBracket, Cond.instanceMethod yX8_parseBracket, Cond.selects RX8 yX8_parseBracket yX8_parseBracket, Cond.code yX8_parseBracket cX8_parseBracket 3 none, Cond.methodLink RX8 31 yX8_parseSum, Cond.instanceMethod yX8_parseSum, Cond.selects RX8 yX8_parseSum yX8_parseSum, Cond.methodLink RX8 42 yX8_emitSign, Cond.instanceMethod yX8_emitSign, Cond.selects RX8 yX8_emitSign yX8_emitSign, Cond.code yX8_emitSign cX8_emitSign 3 none, Cond.fieldLink RX8 71 "ShipOffice$Act" "SIGNS" "[C", Cond.code yX8_parseSum cX8_parseSum 4 none, Cond.methodLink RX8 35 yX8_parseTerm, Cond.instanceMethod yX8_parseTerm, Cond.selects RX8 yX8_parseTerm yX8_parseTerm, Cond.code yX8_parseTerm cX8_parseTerm 4 none, Cond.methodLink RX8 45 yX8_parseUnit, Cond.instanceMethod yX8_parseUnit, Cond.selects RX8 yX8_parseUnit yX8_parseUnit]
def wsX8_parseUnit : List Cond := .code yX8_parseUnit cX8_parseUnit 3 none :: ((wsX8_parseUnit_r1 ++ wsX8_parseUnit_r2) ++ wsX80)
theorem gw_X8_parseUnit : wsX8_parseUnit.all goodWord = true := by decide +kernel
theorem il_X8_parseUnit_1 : ∀ w ∈ wsX8_parseUnit_r1, w ∈ wsX8_parseUnit := fun w h => (List.mem_cons_of_mem _ (List.mem_append_left _ (List.mem_append_left _ h)))
theorem il_X8_parseUnit_2 : ∀ w ∈ wsX8_parseUnit_r2, w ∈ wsX8_parseUnit := fun w h => (List.mem_cons_of_mem _ (List.mem_append_left _ (List.mem_append_right _ h)))
theorem il_X8_parseUnit_3 : ∀ w ∈ wsX80, w ∈ wsX8_parseUnit := fun w h => (List.mem_cons_of_mem _ (List.mem_append_right _ h))
theorem iw_X8_parseUnit_1 : Cond.fieldLink RX8 22 "ShipOffice$Tape" "at" "I" ∈ wsX8_parseUnit := (mmI il_X8_parseUnit_1 0 rfl)
theorem iw_X8_parseUnit_2 : Cond.fieldLink RX8 28 "ShipOffice$Tape" "fault" "I" ∈ wsX8_parseUnit := (mmI il_X8_parseUnit_1 1 rfl)
set_option maxRecDepth 100000 in
theorem ggX8_parseSum_X8_parseTerm : GoodIn wsX8_parseSum wsX8_parseTerm := goodIn_sub (mmC (mmI il_X8_parseSum_2 3 rfl) (mmA (mmA (mmC (mmI il_X8_parseSum_1 0 rfl) (mmC (mmI il_X8_parseSum_1 1 rfl) (mmC (mmI il_X8_parseSum_1 2 rfl) (mmC (mmI il_X8_parseSum_2 4 rfl) (mmC (mmI il_X8_parseSum_2 5 rfl) (mmC (mmI il_X8_parseSum_2 6 rfl) (mmC (mmI il_X8_parseSum_1 6 rfl) (mmC (mmI il_X8_parseSum_1 7 rfl) (mmC (mmI il_X8_parseSum_1 8 rfl) (mmC (mmI il_X8_parseSum_1 9 rfl) (mmC (mmI il_X8_parseSum_1 10 rfl) (mmC (mmI il_X8_parseSum_1 11 rfl) (mmC (mmI il_X8_parseSum_1 12 rfl) (mmC (mmI il_X8_parseSum_1 13 rfl) (mmC (mmI il_X8_parseSum_1 14 rfl) (mmC (mmI il_X8_parseSum_1 15 rfl) (mmC (mmI il_X8_parseSum_1 16 rfl) (mmC (mmI il_X8_parseSum_1 17 rfl) (mmC (mmI il_X8_parseSum_1 18 rfl) (mmC (mmI il_X8_parseSum_1 19 rfl) (mmC (mmI il_X8_parseSum_1 20 rfl) (mmC (mmI il_X8_parseSum_1 21 rfl) (mmC (mmI il_X8_parseSum_1 22 rfl) (mmC (mmI il_X8_parseSum_1 23 rfl) mmN)))))))))))))))))))))))) (mmC (mmI il_X8_parseSum_2 0 rfl) (mmC (mmI il_X8_parseSum_2 1 rfl) (mmC (mmI il_X8_parseSum_2 2 rfl) (mmC (List.mem_cons_self) (mmC (mmI il_X8_parseSum_1 3 rfl) (mmC (mmI il_X8_parseSum_1 4 rfl) (mmC (mmI il_X8_parseSum_1 5 rfl) (mmC (mmI il_X8_parseSum_2 7 rfl) (mmC (mmI il_X8_parseSum_2 8 rfl) (mmC (mmI il_X8_parseSum_2 9 rfl) (mmC (mmI il_X8_parseSum_2 10 rfl) (mmC (mmI il_X8_parseSum_2 11 rfl) (mmC (mmI il_X8_parseSum_2 12 rfl) (mmC (mmI il_X8_parseSum_2 13 rfl) (mmC (mmI il_X8_parseSum_2 14 rfl) (mmC (mmI il_X8_parseSum_2 15 rfl) (mmC (mmI il_X8_parseSum_2 16 rfl) (mmC (mmI il_X8_parseSum_2 17 rfl) (mmC (mmI il_X8_parseSum_2 18 rfl) (mmC (mmI il_X8_parseSum_2 19 rfl) (mmC (mmI il_X8_parseSum_2 20 rfl) (mmC (mmI il_X8_parseSum_2 21 rfl) (mmC (mmI il_X8_parseSum_2 22 rfl) mmN)))))))))))))))))))))))) il_X8_parseSum_3)) gw_X8_parseTerm
theorem gX8_parseSum_X8_parseTerm : GoodIn wsX8_parseSum (wsV RX8 35 RX8 yX8_parseTerm wsX8_parseTerm) := goodIn_app (goodIn_sub (mmC (mmI il_X8_parseSum_1 3 rfl) (mmC (mmI il_X8_parseSum_1 4 rfl) (mmC (mmI il_X8_parseSum_1 5 rfl) (mmC (mmI il_X8_parseSum_1 6 rfl) mmN)))) (by decide +kernel)) ggX8_parseSum_X8_parseTerm
set_option maxRecDepth 100000 in
theorem ggX8_parseSum_X8_sees : GoodIn wsX8_parseSum wsX8_sees := goodIn_sub (mmC (mmI il_X8_parseSum_1 10 rfl) (mmA (mmC (mmI il_X8_parseSum_1 2 rfl) (mmC (mmI il_X8_parseSum_1 11 rfl) (mmC (mmI il_X8_parseSum_1 1 rfl) mmN))) il_X8_parseSum_3)) gw_X8_sees
theorem gX8_parseSum_X8_sees : GoodIn wsX8_parseSum (wsV RX8 38 RX8 yX8_sees wsX8_sees) := goodIn_app (goodIn_sub (mmC (mmI il_X8_parseSum_1 7 rfl) (mmC (mmI il_X8_parseSum_1 8 rfl) (mmC (mmI il_X8_parseSum_1 9 rfl) (mmC (mmI il_X8_parseSum_1 6 rfl) mmN)))) (by decide +kernel)) ggX8_parseSum_X8_sees
set_option maxRecDepth 100000 in
theorem ggX8_parseSum_X8_emitSign : GoodIn wsX8_parseSum wsX8_emitSign := goodIn_sub (mmC (mmI il_X8_parseSum_1 15 rfl) (mmA (mmC (mmI il_X8_parseSum_1 16 rfl) (mmC (mmI il_X8_parseSum_1 17 rfl) (mmC (mmI il_X8_parseSum_1 18 rfl) (mmC (mmI il_X8_parseSum_1 19 rfl) (mmC (mmI il_X8_parseSum_1 6 rfl) (mmC (mmI il_X8_parseSum_1 20 rfl) (mmC (mmI il_X8_parseSum_1 21 rfl) (mmC (mmI il_X8_parseSum_1 22 rfl) mmN)))))))) il_X8_parseSum_3)) gw_X8_emitSign
theorem gX8_parseSum_X8_emitSign : GoodIn wsX8_parseSum (wsV RX8 42 RX8 yX8_emitSign wsX8_emitSign) := goodIn_app (goodIn_sub (mmC (mmI il_X8_parseSum_1 12 rfl) (mmC (mmI il_X8_parseSum_1 13 rfl) (mmC (mmI il_X8_parseSum_1 14 rfl) (mmC (mmI il_X8_parseSum_1 6 rfl) mmN)))) (by decide +kernel)) ggX8_parseSum_X8_emitSign
theorem dX8_parseSum_0 : decode cX8_parseSum 0 = .ok (.aload_n 0, 1) := by decide +kernel
theorem dX8_parseSum_1 : decode cX8_parseSum 1 = .ok (.iload_n 1, 1) := by decide +kernel
theorem dX8_parseSum_2 : decode cX8_parseSum 2 = .ok (.invokevirtual 35, 3) := by decide +kernel
theorem dX8_parseSum_5 : decode cX8_parseSum 5 = .ok (.iconst 0, 1) := by decide +kernel
theorem dX8_parseSum_6 : decode cX8_parseSum 6 = .ok (.istore_n 2, 1) := by decide +kernel
theorem dX8_parseSum_7 : decode cX8_parseSum 7 = .ok (.iload_n 2, 1) := by decide +kernel
theorem dX8_parseSum_8 : decode cX8_parseSum 8 = .ok (.bipush 60, 2) := by decide +kernel
theorem dX8_parseSum_10 : decode cX8_parseSum 10 = .ok (.if_icmp .ge 64, 3) := by decide +kernel
theorem dX8_parseSum_13 : decode cX8_parseSum 13 = .ok (.aload_n 0, 1) := by decide +kernel
theorem dX8_parseSum_14 : decode cX8_parseSum 14 = .ok (.getfield 28, 3) := by decide +kernel
theorem dX8_parseSum_17 : decode cX8_parseSum 17 = .ok (.ifCond .ge 57, 3) := by decide +kernel
theorem dX8_parseSum_20 : decode cX8_parseSum 20 = .ok (.aload_n 0, 1) := by decide +kernel
theorem dX8_parseSum_21 : decode cX8_parseSum 21 = .ok (.bipush 43, 2) := by decide +kernel
theorem dX8_parseSum_23 : decode cX8_parseSum 23 = .ok (.invokevirtual 38, 3) := by decide +kernel
theorem dX8_parseSum_26 : decode cX8_parseSum 26 = .ok (.ifCond .ne 12, 3) := by decide +kernel
theorem dX8_parseSum_29 : decode cX8_parseSum 29 = .ok (.aload_n 0, 1) := by decide +kernel
theorem dX8_parseSum_30 : decode cX8_parseSum 30 = .ok (.bipush 45, 2) := by decide +kernel
theorem dX8_parseSum_32 : decode cX8_parseSum 32 = .ok (.invokevirtual 38, 3) := by decide +kernel
theorem dX8_parseSum_35 : decode cX8_parseSum 35 = .ok (.ifCond .eq 39, 3) := by decide +kernel
theorem dX8_parseSum_38 : decode cX8_parseSum 38 = .ok (.aload_n 0, 1) := by decide +kernel
theorem dX8_parseSum_39 : decode cX8_parseSum 39 = .ok (.getfield 9, 3) := by decide +kernel
theorem dX8_parseSum_42 : decode cX8_parseSum 42 = .ok (.aload_n 0, 1) := by decide +kernel
theorem dX8_parseSum_43 : decode cX8_parseSum 43 = .ok (.getfield 22, 3) := by decide +kernel
theorem dX8_parseSum_46 : decode cX8_parseSum 46 = .ok (.iaload, 1) := by decide +kernel
theorem dX8_parseSum_47 : decode cX8_parseSum 47 = .ok (.istore_n 3, 1) := by decide +kernel
theorem dX8_parseSum_48 : decode cX8_parseSum 48 = .ok (.aload_n 0, 1) := by decide +kernel
theorem dX8_parseSum_49 : decode cX8_parseSum 49 = .ok (.dup, 1) := by decide +kernel
theorem dX8_parseSum_50 : decode cX8_parseSum 50 = .ok (.getfield 22, 3) := by decide +kernel
theorem dX8_parseSum_53 : decode cX8_parseSum 53 = .ok (.iconst 1, 1) := by decide +kernel
theorem dX8_parseSum_54 : decode cX8_parseSum 54 = .ok (.iadd, 1) := by decide +kernel
theorem dX8_parseSum_55 : decode cX8_parseSum 55 = .ok (.putfield 22, 3) := by decide +kernel
theorem dX8_parseSum_58 : decode cX8_parseSum 58 = .ok (.aload_n 0, 1) := by decide +kernel
theorem dX8_parseSum_59 : decode cX8_parseSum 59 = .ok (.iload_n 1, 1) := by decide +kernel
theorem dX8_parseSum_60 : decode cX8_parseSum 60 = .ok (.invokevirtual 35, 3) := by decide +kernel
theorem dX8_parseSum_63 : decode cX8_parseSum 63 = .ok (.aload_n 0, 1) := by decide +kernel
theorem dX8_parseSum_64 : decode cX8_parseSum 64 = .ok (.iload_n 3, 1) := by decide +kernel
theorem dX8_parseSum_65 : decode cX8_parseSum 65 = .ok (.invokevirtual 42, 3) := by decide +kernel
theorem dX8_parseSum_68 : decode cX8_parseSum 68 = .ok (.iinc 2 1, 3) := by decide +kernel
theorem dX8_parseSum_71 : decode cX8_parseSum 71 = .ok (.goto (-64), 3) := by decide +kernel
theorem dX8_parseSum_74 : decode cX8_parseSum 74 = .ok (.return_, 1) := by decide +kernel
set_option maxRecDepth 100000 in
theorem ggX8_parseTerm_X8_parseUnit : GoodIn wsX8_parseTerm wsX8_parseUnit := goodIn_sub (mmC (mmI il_X8_parseTerm_2 7 rfl) (mmA (mmA (mmC (mmI il_X8_parseTerm_1 2 rfl) (mmC (mmI il_X8_parseTerm_1 0 rfl) (mmC (mmI il_X8_parseTerm_2 8 rfl) (mmC (mmI il_X8_parseTerm_2 9 rfl) (mmC (mmI il_X8_parseTerm_2 10 rfl) (mmC (mmI il_X8_parseTerm_1 6 rfl) (mmC (mmI il_X8_parseTerm_2 11 rfl) (mmC (mmI il_X8_parseTerm_1 7 rfl) (mmC (mmI il_X8_parseTerm_1 8 rfl) (mmC (mmI il_X8_parseTerm_1 9 rfl) (mmC (mmI il_X8_parseTerm_1 10 rfl) (mmC (mmI il_X8_parseTerm_1 11 rfl) (mmC (mmI il_X8_parseTerm_1 1 rfl) (mmC (mmI il_X8_parseTerm_2 12 rfl) (mmC (mmI il_X8_parseTerm_2 13 rfl) (mmC (mmI il_X8_parseTerm_2 14 rfl) (mmC (mmI il_X8_parseTerm_2 15 rfl) (mmC (mmI il_X8_parseTerm_2 16 rfl) (mmC (mmI il_X8_parseTerm_2 17 rfl) (mmC (mmI il_X8_parseTerm_2 18 rfl) (mmC (mmI il_X8_parseTerm_2 19 rfl) (mmC (mmI il_X8_parseTerm_1 17 rfl) (mmC (mmI il_X8_parseTerm_1 18 rfl) (mmC (mmI il_X8_parseTerm_1 19 rfl) mmN)))))))))))))))))))))))) (mmC (mmI il_X8_parseTerm_1 20 rfl) (mmC (mmI il_X8_parseTerm_1 21 rfl) (mmC (mmI il_X8_parseTerm_1 22 rfl) (mmC (mmI il_X8_parseTerm_2 20 rfl) (mmC (mmI il_X8_parseTerm_2 21 rfl) (mmC (mmI il_X8_parseTerm_2 22 rfl) (mmC (mmI il_X8_parseTerm_1 23 rfl) (mmC (mmI il_X8_parseTerm_2 0 rfl) (mmC (mmI il_X8_parseTerm_2 1 rfl) (mmC (mmI il_X8_parseTerm_2 2 rfl) (mmC (mmI il_X8_parseTerm_1 12 rfl) (mmC (mmI il_X8_parseTerm_1 13 rfl) (mmC (mmI il_X8_parseTerm_1 14 rfl) (mmC (mmI il_X8_parseTerm_1 15 rfl) (mmC (mmI il_X8_parseTerm_1 16 rfl) (mmC (mmI il_X8_parseTerm_2 3 rfl) (mmC (mmI il_X8_parseTerm_2 4 rfl) (mmC (mmI il_X8_parseTerm_2 5 rfl) (mmC (mmI il_X8_parseTerm_2 6 rfl) (mmC (List.mem_cons_self) (mmC (mmI il_X8_parseTerm_1 3 rfl) (mmC (mmI il_X8_parseTerm_1 4 rfl) (mmC (mmI il_X8_parseTerm_1 5 rfl) mmN)))))))))))))))))))))))) il_X8_parseTerm_3)) gw_X8_parseUnit
theorem gX8_parseTerm_X8_parseUnit : GoodIn wsX8_parseTerm (wsV RX8 45 RX8 yX8_parseUnit wsX8_parseUnit) := goodIn_app (goodIn_sub (mmC (mmI il_X8_parseTerm_1 3 rfl) (mmC (mmI il_X8_parseTerm_1 4 rfl) (mmC (mmI il_X8_parseTerm_1 5 rfl) (mmC (mmI il_X8_parseTerm_1 6 rfl) mmN)))) (by decide +kernel)) ggX8_parseTerm_X8_parseUnit
set_option maxRecDepth 100000 in
theorem ggX8_parseTerm_X8_sees : GoodIn wsX8_parseTerm wsX8_sees := goodIn_sub (mmC (mmI il_X8_parseTerm_1 10 rfl) (mmA (mmC (mmI il_X8_parseTerm_1 2 rfl) (mmC (mmI il_X8_parseTerm_1 11 rfl) (mmC (mmI il_X8_parseTerm_1 1 rfl) mmN))) il_X8_parseTerm_3)) gw_X8_sees
theorem gX8_parseTerm_X8_sees : GoodIn wsX8_parseTerm (wsV RX8 38 RX8 yX8_sees wsX8_sees) := goodIn_app (goodIn_sub (mmC (mmI il_X8_parseTerm_1 7 rfl) (mmC (mmI il_X8_parseTerm_1 8 rfl) (mmC (mmI il_X8_parseTerm_1 9 rfl) (mmC (mmI il_X8_parseTerm_1 6 rfl) mmN)))) (by decide +kernel)) ggX8_parseTerm_X8_sees
set_option maxRecDepth 100000 in
theorem ggX8_parseTerm_X8_emitSign : GoodIn wsX8_parseTerm wsX8_emitSign := goodIn_sub (mmC (mmI il_X8_parseTerm_1 15 rfl) (mmA (mmC (mmI il_X8_parseTerm_1 16 rfl) (mmC (mmI il_X8_parseTerm_1 17 rfl) (mmC (mmI il_X8_parseTerm_1 18 rfl) (mmC (mmI il_X8_parseTerm_1 19 rfl) (mmC (mmI il_X8_parseTerm_1 6 rfl) (mmC (mmI il_X8_parseTerm_1 20 rfl) (mmC (mmI il_X8_parseTerm_1 21 rfl) (mmC (mmI il_X8_parseTerm_1 22 rfl) mmN)))))))) il_X8_parseTerm_3)) gw_X8_emitSign
theorem gX8_parseTerm_X8_emitSign : GoodIn wsX8_parseTerm (wsV RX8 42 RX8 yX8_emitSign wsX8_emitSign) := goodIn_app (goodIn_sub (mmC (mmI il_X8_parseTerm_1 12 rfl) (mmC (mmI il_X8_parseTerm_1 13 rfl) (mmC (mmI il_X8_parseTerm_1 14 rfl) (mmC (mmI il_X8_parseTerm_1 6 rfl) mmN)))) (by decide +kernel)) ggX8_parseTerm_X8_emitSign
theorem dX8_parseTerm_0 : decode cX8_parseTerm 0 = .ok (.aload_n 0, 1) := by decide +kernel
theorem dX8_parseTerm_1 : decode cX8_parseTerm 1 = .ok (.iload_n 1, 1) := by decide +kernel
theorem dX8_parseTerm_2 : decode cX8_parseTerm 2 = .ok (.invokevirtual 45, 3) := by decide +kernel
theorem dX8_parseTerm_5 : decode cX8_parseTerm 5 = .ok (.iconst 0, 1) := by decide +kernel
theorem dX8_parseTerm_6 : decode cX8_parseTerm 6 = .ok (.istore_n 2, 1) := by decide +kernel
theorem dX8_parseTerm_7 : decode cX8_parseTerm 7 = .ok (.iload_n 2, 1) := by decide +kernel
theorem dX8_parseTerm_8 : decode cX8_parseTerm 8 = .ok (.bipush 60, 2) := by decide +kernel
theorem dX8_parseTerm_10 : decode cX8_parseTerm 10 = .ok (.if_icmp .ge 64, 3) := by decide +kernel
theorem dX8_parseTerm_13 : decode cX8_parseTerm 13 = .ok (.aload_n 0, 1) := by decide +kernel
theorem dX8_parseTerm_14 : decode cX8_parseTerm 14 = .ok (.getfield 28, 3) := by decide +kernel
theorem dX8_parseTerm_17 : decode cX8_parseTerm 17 = .ok (.ifCond .ge 57, 3) := by decide +kernel
theorem dX8_parseTerm_20 : decode cX8_parseTerm 20 = .ok (.aload_n 0, 1) := by decide +kernel
theorem dX8_parseTerm_21 : decode cX8_parseTerm 21 = .ok (.bipush 42, 2) := by decide +kernel
theorem dX8_parseTerm_23 : decode cX8_parseTerm 23 = .ok (.invokevirtual 38, 3) := by decide +kernel
theorem dX8_parseTerm_26 : decode cX8_parseTerm 26 = .ok (.ifCond .ne 12, 3) := by decide +kernel
theorem dX8_parseTerm_29 : decode cX8_parseTerm 29 = .ok (.aload_n 0, 1) := by decide +kernel
theorem dX8_parseTerm_30 : decode cX8_parseTerm 30 = .ok (.bipush 47, 2) := by decide +kernel
theorem dX8_parseTerm_32 : decode cX8_parseTerm 32 = .ok (.invokevirtual 38, 3) := by decide +kernel
theorem dX8_parseTerm_35 : decode cX8_parseTerm 35 = .ok (.ifCond .eq 39, 3) := by decide +kernel
theorem dX8_parseTerm_38 : decode cX8_parseTerm 38 = .ok (.aload_n 0, 1) := by decide +kernel
theorem dX8_parseTerm_39 : decode cX8_parseTerm 39 = .ok (.getfield 9, 3) := by decide +kernel
theorem dX8_parseTerm_42 : decode cX8_parseTerm 42 = .ok (.aload_n 0, 1) := by decide +kernel
theorem dX8_parseTerm_43 : decode cX8_parseTerm 43 = .ok (.getfield 22, 3) := by decide +kernel
theorem dX8_parseTerm_46 : decode cX8_parseTerm 46 = .ok (.iaload, 1) := by decide +kernel
theorem dX8_parseTerm_47 : decode cX8_parseTerm 47 = .ok (.istore_n 3, 1) := by decide +kernel
theorem dX8_parseTerm_48 : decode cX8_parseTerm 48 = .ok (.aload_n 0, 1) := by decide +kernel
theorem dX8_parseTerm_49 : decode cX8_parseTerm 49 = .ok (.dup, 1) := by decide +kernel
theorem dX8_parseTerm_50 : decode cX8_parseTerm 50 = .ok (.getfield 22, 3) := by decide +kernel
theorem dX8_parseTerm_53 : decode cX8_parseTerm 53 = .ok (.iconst 1, 1) := by decide +kernel
theorem dX8_parseTerm_54 : decode cX8_parseTerm 54 = .ok (.iadd, 1) := by decide +kernel
theorem dX8_parseTerm_55 : decode cX8_parseTerm 55 = .ok (.putfield 22, 3) := by decide +kernel
theorem dX8_parseTerm_58 : decode cX8_parseTerm 58 = .ok (.aload_n 0, 1) := by decide +kernel
theorem dX8_parseTerm_59 : decode cX8_parseTerm 59 = .ok (.iload_n 1, 1) := by decide +kernel
theorem dX8_parseTerm_60 : decode cX8_parseTerm 60 = .ok (.invokevirtual 45, 3) := by decide +kernel
theorem dX8_parseTerm_63 : decode cX8_parseTerm 63 = .ok (.aload_n 0, 1) := by decide +kernel
theorem dX8_parseTerm_64 : decode cX8_parseTerm 64 = .ok (.iload_n 3, 1) := by decide +kernel
theorem dX8_parseTerm_65 : decode cX8_parseTerm 65 = .ok (.invokevirtual 42, 3) := by decide +kernel
theorem dX8_parseTerm_68 : decode cX8_parseTerm 68 = .ok (.iinc 2 1, 3) := by decide +kernel
theorem dX8_parseTerm_71 : decode cX8_parseTerm 71 = .ok (.goto (-64), 3) := by decide +kernel
theorem dX8_parseTerm_74 : decode cX8_parseTerm 74 = .ok (.return_, 1) := by decide +kernel
set_option maxRecDepth 100000 in
theorem ggX8_parseUnit_X8_letterHere : GoodIn wsX8_parseUnit wsX8_letterHere := goodIn_sub (mmC (mmI il_X8_parseUnit_1 6 rfl) (mmA (mmC (mmI il_X8_parseUnit_1 7 rfl) (mmC (mmI il_X8_parseUnit_1 8 rfl) (mmC (mmI il_X8_parseUnit_1 9 rfl) (mmC (mmI il_X8_parseUnit_1 5 rfl) (mmC (mmI il_X8_parseUnit_1 10 rfl) (mmC (mmI il_X8_parseUnit_1 0 rfl) (mmC (mmI il_X8_parseUnit_1 11 rfl) (mmC (mmI il_X8_parseUnit_1 12 rfl) mmN)))))))) il_X8_parseUnit_3)) gw_X8_letterHere
theorem gX8_parseUnit_X8_letterHere : GoodIn wsX8_parseUnit (wsV RX8 48 RX8 yX8_letterHere wsX8_letterHere) := goodIn_app (goodIn_sub (mmC (mmI il_X8_parseUnit_1 2 rfl) (mmC (mmI il_X8_parseUnit_1 3 rfl) (mmC (mmI il_X8_parseUnit_1 4 rfl) (mmC (mmI il_X8_parseUnit_1 5 rfl) mmN)))) (by decide +kernel)) ggX8_parseUnit_X8_letterHere
set_option maxRecDepth 100000 in
theorem ggX8_parseUnit_X8_seesDigit : GoodIn wsX8_parseUnit wsX8_seesDigit := goodIn_sub (mmC (mmI il_X8_parseUnit_1 16 rfl) (mmA (mmC (mmI il_X8_parseUnit_1 0 rfl) (mmC (mmI il_X8_parseUnit_1 11 rfl) (mmC (mmI il_X8_parseUnit_1 12 rfl) mmN))) il_X8_parseUnit_3)) gw_X8_seesDigit
theorem gX8_parseUnit_X8_seesDigit : GoodIn wsX8_parseUnit (wsV RX8 52 RX8 yX8_seesDigit wsX8_seesDigit) := goodIn_app (goodIn_sub (mmC (mmI il_X8_parseUnit_1 13 rfl) (mmC (mmI il_X8_parseUnit_1 14 rfl) (mmC (mmI il_X8_parseUnit_1 15 rfl) (mmC (mmI il_X8_parseUnit_1 5 rfl) mmN)))) (by decide +kernel)) ggX8_parseUnit_X8_seesDigit
set_option maxRecDepth 100000 in
theorem ggX8_parseUnit_X8_parseNumber : GoodIn wsX8_parseUnit wsX8_parseNumber := goodIn_sub (mmC (mmI il_X8_parseUnit_1 20 rfl) (mmA (mmC (mmI il_X8_parseUnit_1 12 rfl) (mmC (mmI il_X8_parseUnit_1 0 rfl) (mmC (mmI il_X8_parseUnit_1 13 rfl) (mmC (mmI il_X8_parseUnit_1 14 rfl) (mmC (mmI il_X8_parseUnit_1 15 rfl) (mmC (mmI il_X8_parseUnit_1 5 rfl) (mmC (mmI il_X8_parseUnit_1 16 rfl) (mmC (mmI il_X8_parseUnit_1 11 rfl) (mmC (mmI il_X8_parseUnit_1 21 rfl) (mmC (mmI il_X8_parseUnit_1 22 rfl) (mmC (mmI il_X8_parseUnit_1 23 rfl) (mmC (mmI il_X8_parseUnit_2 0 rfl) (mmC (mmI il_X8_parseUnit_2 1 rfl) (mmC (mmI il_X8_parseUnit_2 2 rfl) mmN)))))))))))))) il_X8_parseUnit_3)) gw_X8_parseNumber
theorem gX8_parseUnit_X8_parseNumber : GoodIn wsX8_parseUnit (wsV RX8 56 RX8 yX8_parseNumber wsX8_parseNumber) := goodIn_app (goodIn_sub (mmC (mmI il_X8_parseUnit_1 17 rfl) (mmC (mmI il_X8_parseUnit_1 18 rfl) (mmC (mmI il_X8_parseUnit_1 19 rfl) (mmC (mmI il_X8_parseUnit_1 5 rfl) mmN)))) (by decide +kernel)) ggX8_parseUnit_X8_parseNumber
set_option maxRecDepth 100000 in
theorem ggX8_parseUnit_X8_emit : GoodIn wsX8_parseUnit wsX8_emit := goodIn_sub (mmC (mmI il_X8_parseUnit_2 0 rfl) (mmA (mmC (mmI il_X8_parseUnit_2 1 rfl) (mmC (mmI il_X8_parseUnit_2 2 rfl) mmN)) il_X8_parseUnit_3)) gw_X8_emit
theorem gX8_parseUnit_X8_emit : GoodIn wsX8_parseUnit (wsV RX8 61 RX8 yX8_emit wsX8_emit) := goodIn_app (goodIn_sub (mmC (mmI il_X8_parseUnit_1 21 rfl) (mmC (mmI il_X8_parseUnit_1 22 rfl) (mmC (mmI il_X8_parseUnit_1 23 rfl) (mmC (mmI il_X8_parseUnit_1 5 rfl) mmN)))) (by decide +kernel)) ggX8_parseUnit_X8_emit
set_option maxRecDepth 100000 in
theorem ggX8_parseUnit_X8_sees : GoodIn wsX8_parseUnit wsX8_sees := goodIn_sub (mmC (mmI il_X8_parseUnit_1 10 rfl) (mmA (mmC (mmI il_X8_parseUnit_1 0 rfl) (mmC (mmI il_X8_parseUnit_1 11 rfl) (mmC (mmI il_X8_parseUnit_1 12 rfl) mmN))) il_X8_parseUnit_3)) gw_X8_sees
theorem gX8_parseUnit_X8_sees : GoodIn wsX8_parseUnit (wsV RX8 38 RX8 yX8_sees wsX8_sees) := goodIn_app (goodIn_sub (mmC (mmI il_X8_parseUnit_1 7 rfl) (mmC (mmI il_X8_parseUnit_1 8 rfl) (mmC (mmI il_X8_parseUnit_1 9 rfl) (mmC (mmI il_X8_parseUnit_1 5 rfl) mmN)))) (by decide +kernel)) ggX8_parseUnit_X8_sees
set_option maxRecDepth 100000 in
theorem ggX8_parseUnit_X8_parseBracket : GoodIn wsX8_parseUnit wsX8_parseBracket := goodIn_sub (mmC (mmI il_X8_parseUnit_2 6 rfl) (mmA (mmA (mmC (mmI il_X8_parseUnit_1 1 rfl) (mmC (mmI il_X8_parseUnit_1 12 rfl) (mmC (mmI il_X8_parseUnit_1 0 rfl) (mmC (mmI il_X8_parseUnit_2 7 rfl) (mmC (mmI il_X8_parseUnit_2 8 rfl) (mmC (mmI il_X8_parseUnit_2 9 rfl) (mmC (mmI il_X8_parseUnit_1 5 rfl) (mmC (mmI il_X8_parseUnit_1 7 rfl) (mmC (mmI il_X8_parseUnit_1 8 rfl) (mmC (mmI il_X8_parseUnit_1 9 rfl) (mmC (mmI il_X8_parseUnit_1 10 rfl) (mmC (mmI il_X8_parseUnit_1 11 rfl) (mmC (mmI il_X8_parseUnit_2 10 rfl) (mmC (mmI il_X8_parseUnit_2 11 rfl) (mmC (mmI il_X8_parseUnit_2 12 rfl) (mmC (mmI il_X8_parseUnit_2 13 rfl) (mmC (mmI il_X8_parseUnit_2 14 rfl) (mmC (mmI il_X8_parseUnit_1 21 rfl) (mmC (mmI il_X8_parseUnit_1 22 rfl) (mmC (mmI il_X8_parseUnit_1 23 rfl) (mmC (mmI il_X8_parseUnit_2 0 rfl) (mmC (mmI il_X8_parseUnit_2 1 rfl) (mmC (mmI il_X8_parseUnit_2 2 rfl) (mmC (mmI il_X8_parseUnit_2 15 rfl) mmN)))))))))))))))))))))))) (mmC (mmI il_X8_parseUnit_2 16 rfl) (mmC (mmI il_X8_parseUnit_2 17 rfl) (mmC (mmI il_X8_parseUnit_2 18 rfl) (mmC (mmI il_X8_parseUnit_2 19 rfl) (mmC (mmI il_X8_parseUnit_2 20 rfl) (mmC (mmI il_X8_parseUnit_2 21 rfl) (mmC (mmI il_X8_parseUnit_2 22 rfl) (mmC (List.mem_cons_self) (mmC (mmI il_X8_parseUnit_1 2 rfl) (mmC (mmI il_X8_parseUnit_1 3 rfl) (mmC (mmI il_X8_parseUnit_1 4 rfl) (mmC (mmI il_X8_parseUnit_1 6 rfl) (mmC (mmI il_X8_parseUnit_1 13 rfl) (mmC (mmI il_X8_parseUnit_1 14 rfl) (mmC (mmI il_X8_parseUnit_1 15 rfl) (mmC (mmI il_X8_parseUnit_1 16 rfl) (mmC (mmI il_X8_parseUnit_1 17 rfl) (mmC (mmI il_X8_parseUnit_1 18 rfl) (mmC (mmI il_X8_parseUnit_1 19 rfl) (mmC (mmI il_X8_parseUnit_1 20 rfl) (mmC (mmI il_X8_parseUnit_2 3 rfl) (mmC (mmI il_X8_parseUnit_2 4 rfl) (mmC (mmI il_X8_parseUnit_2 5 rfl) mmN)))))))))))))))))))))))) il_X8_parseUnit_3)) gw_X8_parseBracket
theorem gX8_parseUnit_X8_parseBracket : GoodIn wsX8_parseUnit (wsV RX8 64 RX8 yX8_parseBracket wsX8_parseBracket) := goodIn_app (goodIn_sub (mmC (mmI il_X8_parseUnit_2 3 rfl) (mmC (mmI il_X8_parseUnit_2 4 rfl) (mmC (mmI il_X8_parseUnit_2 5 rfl) (mmC (mmI il_X8_parseUnit_1 5 rfl) mmN)))) (by decide +kernel)) ggX8_parseUnit_X8_parseBracket
theorem dX8_parseUnit_0 : decode cX8_parseUnit 0 = .ok (.aload_n 0, 1) := by decide +kernel
theorem dX8_parseUnit_1 : decode cX8_parseUnit 1 = .ok (.invokevirtual 48, 3) := by decide +kernel
theorem dX8_parseUnit_4 : decode cX8_parseUnit 4 = .ok (.istore_n 2, 1) := by decide +kernel
theorem dX8_parseUnit_5 : decode cX8_parseUnit 5 = .ok (.aload_n 0, 1) := by decide +kernel
theorem dX8_parseUnit_6 : decode cX8_parseUnit 6 = .ok (.invokevirtual 52, 3) := by decide +kernel
theorem dX8_parseUnit_9 : decode cX8_parseUnit 9 = .ok (.ifCond .eq 10, 3) := by decide +kernel
theorem dX8_parseUnit_12 : decode cX8_parseUnit 12 = .ok (.aload_n 0, 1) := by decide +kernel
theorem dX8_parseUnit_13 : decode cX8_parseUnit 13 = .ok (.invokevirtual 56, 3) := by decide +kernel
theorem dX8_parseUnit_16 : decode cX8_parseUnit 16 = .ok (.goto 69, 3) := by decide +kernel
theorem dX8_parseUnit_19 : decode cX8_parseUnit 19 = .ok (.iload_n 2, 1) := by decide +kernel
theorem dX8_parseUnit_20 : decode cX8_parseUnit 20 = .ok (.ifCond .lt 23, 3) := by decide +kernel
theorem dX8_parseUnit_23 : decode cX8_parseUnit 23 = .ok (.aload_n 0, 1) := by decide +kernel
theorem dX8_parseUnit_24 : decode cX8_parseUnit 24 = .ok (.dup, 1) := by decide +kernel
theorem dX8_parseUnit_25 : decode cX8_parseUnit 25 = .ok (.getfield 22, 3) := by decide +kernel
theorem dX8_parseUnit_28 : decode cX8_parseUnit 28 = .ok (.iconst 1, 1) := by decide +kernel
theorem dX8_parseUnit_29 : decode cX8_parseUnit 29 = .ok (.iadd, 1) := by decide +kernel
theorem dX8_parseUnit_30 : decode cX8_parseUnit 30 = .ok (.putfield 22, 3) := by decide +kernel
theorem dX8_parseUnit_33 : decode cX8_parseUnit 33 = .ok (.aload_n 0, 1) := by decide +kernel
theorem dX8_parseUnit_34 : decode cX8_parseUnit 34 = .ok (.iconst (-1), 1) := by decide +kernel
theorem dX8_parseUnit_35 : decode cX8_parseUnit 35 = .ok (.iload_n 2, 1) := by decide +kernel
theorem dX8_parseUnit_36 : decode cX8_parseUnit 36 = .ok (.isub, 1) := by decide +kernel
theorem dX8_parseUnit_37 : decode cX8_parseUnit 37 = .ok (.invokevirtual 61, 3) := by decide +kernel
theorem dX8_parseUnit_40 : decode cX8_parseUnit 40 = .ok (.goto 45, 3) := by decide +kernel
theorem dX8_parseUnit_43 : decode cX8_parseUnit 43 = .ok (.aload_n 0, 1) := by decide +kernel
theorem dX8_parseUnit_44 : decode cX8_parseUnit 44 = .ok (.bipush 40, 2) := by decide +kernel
theorem dX8_parseUnit_46 : decode cX8_parseUnit 46 = .ok (.invokevirtual 38, 3) := by decide +kernel
theorem dX8_parseUnit_49 : decode cX8_parseUnit 49 = .ok (.ifCond .eq 28, 3) := by decide +kernel
theorem dX8_parseUnit_52 : decode cX8_parseUnit 52 = .ok (.iload_n 1, 1) := by decide +kernel
theorem dX8_parseUnit_53 : decode cX8_parseUnit 53 = .ok (.iconst 5, 1) := by decide +kernel
theorem dX8_parseUnit_54 : decode cX8_parseUnit 54 = .ok (.if_icmp .ge 23, 3) := by decide +kernel
theorem dX8_parseUnit_57 : decode cX8_parseUnit 57 = .ok (.aload_n 0, 1) := by decide +kernel
theorem dX8_parseUnit_58 : decode cX8_parseUnit 58 = .ok (.dup, 1) := by decide +kernel
theorem dX8_parseUnit_59 : decode cX8_parseUnit 59 = .ok (.getfield 22, 3) := by decide +kernel
theorem dX8_parseUnit_62 : decode cX8_parseUnit 62 = .ok (.iconst 1, 1) := by decide +kernel
theorem dX8_parseUnit_63 : decode cX8_parseUnit 63 = .ok (.iadd, 1) := by decide +kernel
theorem dX8_parseUnit_64 : decode cX8_parseUnit 64 = .ok (.putfield 22, 3) := by decide +kernel
theorem dX8_parseUnit_67 : decode cX8_parseUnit 67 = .ok (.aload_n 0, 1) := by decide +kernel
theorem dX8_parseUnit_68 : decode cX8_parseUnit 68 = .ok (.iload_n 1, 1) := by decide +kernel
theorem dX8_parseUnit_69 : decode cX8_parseUnit 69 = .ok (.iconst 1, 1) := by decide +kernel
theorem dX8_parseUnit_70 : decode cX8_parseUnit 70 = .ok (.iadd, 1) := by decide +kernel
theorem dX8_parseUnit_71 : decode cX8_parseUnit 71 = .ok (.invokevirtual 64, 3) := by decide +kernel
theorem dX8_parseUnit_74 : decode cX8_parseUnit 74 = .ok (.goto 11, 3) := by decide +kernel
theorem dX8_parseUnit_77 : decode cX8_parseUnit 77 = .ok (.aload_n 0, 1) := by decide +kernel
theorem dX8_parseUnit_78 : decode cX8_parseUnit 78 = .ok (.aload_n 0, 1) := by decide +kernel
theorem dX8_parseUnit_79 : decode cX8_parseUnit 79 = .ok (.getfield 22, 3) := by decide +kernel
theorem dX8_parseUnit_82 : decode cX8_parseUnit 82 = .ok (.putfield 28, 3) := by decide +kernel
theorem dX8_parseUnit_85 : decode cX8_parseUnit 85 = .ok (.return_, 1) := by decide +kernel
set_option maxRecDepth 100000 in
theorem ggX8_parseBracket_X8_parseSum : GoodIn wsX8_parseBracket wsX8_parseSum := goodIn_sub (mmC (mmI il_X8_parseBracket_1 23 rfl) (mmA (mmA (mmC (mmI il_X8_parseBracket_1 0 rfl) (mmC (mmI il_X8_parseBracket_1 1 rfl) (mmC (mmI il_X8_parseBracket_1 2 rfl) (mmC (mmI il_X8_parseBracket_2 0 rfl) (mmC (mmI il_X8_parseBracket_2 1 rfl) (mmC (mmI il_X8_parseBracket_2 2 rfl) (mmC (mmI il_X8_parseBracket_1 6 rfl) (mmC (mmI il_X8_parseBracket_1 7 rfl) (mmC (mmI il_X8_parseBracket_1 8 rfl) (mmC (mmI il_X8_parseBracket_1 9 rfl) (mmC (mmI il_X8_parseBracket_1 10 rfl) (mmC (mmI il_X8_parseBracket_1 11 rfl) (mmC (mmI il_X8_parseBracket_1 12 rfl) (mmC (mmI il_X8_parseBracket_1 13 rfl) (mmC (mmI il_X8_parseBracket_1 14 rfl) (mmC (mmI il_X8_parseBracket_1 15 rfl) (mmC (mmI il_X8_parseBracket_1 16 rfl) (mmC (mmI il_X8_parseBracket_1 17 rfl) (mmC (mmI il_X8_parseBracket_1 18 rfl) (mmC (mmI il_X8_parseBracket_1 19 rfl) (mmC (mmI il_X8_parseBracket_1 20 rfl) (mmC (mmI il_X8_parseBracket_1 21 rfl) (mmC (mmI il_X8_parseBracket_1 22 rfl) (mmC (List.mem_cons_self) mmN)))))))))))))))))))))))) (mmC (mmI il_X8_parseBracket_1 3 rfl) (mmC (mmI il_X8_parseBracket_1 4 rfl) (mmC (mmI il_X8_parseBracket_1 5 rfl) (mmC (mmI il_X8_parseBracket_2 3 rfl) (mmC (mmI il_X8_parseBracket_2 4 rfl) (mmC (mmI il_X8_parseBracket_2 5 rfl) (mmC (mmI il_X8_parseBracket_2 6 rfl) (mmC (mmI il_X8_parseBracket_2 7 rfl) (mmC (mmI il_X8_parseBracket_2 8 rfl) (mmC (mmI il_X8_parseBracket_2 9 rfl) (mmC (mmI il_X8_parseBracket_2 10 rfl) (mmC (mmI il_X8_parseBracket_2 11 rfl) (mmC (mmI il_X8_parseBracket_2 12 rfl) (mmC (mmI il_X8_parseBracket_2 13 rfl) (mmC (mmI il_X8_parseBracket_2 14 rfl) (mmC (mmI il_X8_parseBracket_2 15 rfl) (mmC (mmI il_X8_parseBracket_2 16 rfl) (mmC (mmI il_X8_parseBracket_2 17 rfl) (mmC (mmI il_X8_parseBracket_2 18 rfl) (mmC (mmI il_X8_parseBracket_2 19 rfl) (mmC (mmI il_X8_parseBracket_2 20 rfl) (mmC (mmI il_X8_parseBracket_2 21 rfl) (mmC (mmI il_X8_parseBracket_2 22 rfl) mmN)))))))))))))))))))))))) il_X8_parseBracket_3)) gw_X8_parseSum
theorem gX8_parseBracket_X8_parseSum : GoodIn wsX8_parseBracket (wsV RX8 31 RX8 yX8_parseSum wsX8_parseSum) := goodIn_app (goodIn_sub (mmC (mmI il_X8_parseBracket_1 3 rfl) (mmC (mmI il_X8_parseBracket_1 4 rfl) (mmC (mmI il_X8_parseBracket_1 5 rfl) (mmC (mmI il_X8_parseBracket_1 6 rfl) mmN)))) (by decide +kernel)) ggX8_parseBracket_X8_parseSum
set_option maxRecDepth 100000 in
theorem ggX8_parseBracket_X8_sees : GoodIn wsX8_parseBracket wsX8_sees := goodIn_sub (mmC (mmI il_X8_parseBracket_1 10 rfl) (mmA (mmC (mmI il_X8_parseBracket_1 2 rfl) (mmC (mmI il_X8_parseBracket_1 11 rfl) (mmC (mmI il_X8_parseBracket_1 1 rfl) mmN))) il_X8_parseBracket_3)) gw_X8_sees
theorem gX8_parseBracket_X8_sees : GoodIn wsX8_parseBracket (wsV RX8 38 RX8 yX8_sees wsX8_sees) := goodIn_app (goodIn_sub (mmC (mmI il_X8_parseBracket_1 7 rfl) (mmC (mmI il_X8_parseBracket_1 8 rfl) (mmC (mmI il_X8_parseBracket_1 9 rfl) (mmC (mmI il_X8_parseBracket_1 6 rfl) mmN)))) (by decide +kernel)) ggX8_parseBracket_X8_sees
set_option maxRecDepth 100000 in
theorem ggX8_parseBracket_X8_emitSign : GoodIn wsX8_parseBracket wsX8_emitSign := goodIn_sub (mmC (mmI il_X8_parseBracket_1 15 rfl) (mmA (mmC (mmI il_X8_parseBracket_1 16 rfl) (mmC (mmI il_X8_parseBracket_1 17 rfl) (mmC (mmI il_X8_parseBracket_1 18 rfl) (mmC (mmI il_X8_parseBracket_1 19 rfl) (mmC (mmI il_X8_parseBracket_1 6 rfl) (mmC (mmI il_X8_parseBracket_1 20 rfl) (mmC (mmI il_X8_parseBracket_1 21 rfl) (mmC (mmI il_X8_parseBracket_1 22 rfl) mmN)))))))) il_X8_parseBracket_3)) gw_X8_emitSign
theorem gX8_parseBracket_X8_emitSign : GoodIn wsX8_parseBracket (wsV RX8 42 RX8 yX8_emitSign wsX8_emitSign) := goodIn_app (goodIn_sub (mmC (mmI il_X8_parseBracket_1 12 rfl) (mmC (mmI il_X8_parseBracket_1 13 rfl) (mmC (mmI il_X8_parseBracket_1 14 rfl) (mmC (mmI il_X8_parseBracket_1 6 rfl) mmN)))) (by decide +kernel)) ggX8_parseBracket_X8_emitSign
theorem dX8_parseBracket_0 : decode cX8_parseBracket 0 = .ok (.aload_n 0, 1) := by decide +kernel
theorem dX8_parseBracket_1 : decode cX8_parseBracket 1 = .ok (.iload_n 1, 1) := by decide +kernel
theorem dX8_parseBracket_2 : decode cX8_parseBracket 2 = .ok (.invokevirtual 31, 3) := by decide +kernel
theorem dX8_parseBracket_5 : decode cX8_parseBracket 5 = .ok (.aload_n 0, 1) := by decide +kernel
theorem dX8_parseBracket_6 : decode cX8_parseBracket 6 = .ok (.getfield 28, 3) := by decide +kernel
theorem dX8_parseBracket_9 : decode cX8_parseBracket 9 = .ok (.ifCond .ge 60, 3) := by decide +kernel
theorem dX8_parseBracket_12 : decode cX8_parseBracket 12 = .ok (.aload_n 0, 1) := by decide +kernel
theorem dX8_parseBracket_13 : decode cX8_parseBracket 13 = .ok (.bipush 60, 2) := by decide +kernel
theorem dX8_parseBracket_15 : decode cX8_parseBracket 15 = .ok (.invokevirtual 38, 3) := by decide +kernel
theorem dX8_parseBracket_18 : decode cX8_parseBracket 18 = .ok (.ifCond .ne 21, 3) := by decide +kernel
theorem dX8_parseBracket_21 : decode cX8_parseBracket 21 = .ok (.aload_n 0, 1) := by decide +kernel
theorem dX8_parseBracket_22 : decode cX8_parseBracket 22 = .ok (.bipush 61, 2) := by decide +kernel
theorem dX8_parseBracket_24 : decode cX8_parseBracket 24 = .ok (.invokevirtual 38, 3) := by decide +kernel
theorem dX8_parseBracket_27 : decode cX8_parseBracket 27 = .ok (.ifCond .ne 12, 3) := by decide +kernel
theorem dX8_parseBracket_30 : decode cX8_parseBracket 30 = .ok (.aload_n 0, 1) := by decide +kernel
theorem dX8_parseBracket_31 : decode cX8_parseBracket 31 = .ok (.bipush 62, 2) := by decide +kernel
theorem dX8_parseBracket_33 : decode cX8_parseBracket 33 = .ok (.invokevirtual 38, 3) := by decide +kernel
theorem dX8_parseBracket_36 : decode cX8_parseBracket 36 = .ok (.ifCond .eq 33, 3) := by decide +kernel
theorem dX8_parseBracket_39 : decode cX8_parseBracket 39 = .ok (.aload_n 0, 1) := by decide +kernel
theorem dX8_parseBracket_40 : decode cX8_parseBracket 40 = .ok (.getfield 9, 3) := by decide +kernel
theorem dX8_parseBracket_43 : decode cX8_parseBracket 43 = .ok (.aload_n 0, 1) := by decide +kernel
theorem dX8_parseBracket_44 : decode cX8_parseBracket 44 = .ok (.getfield 22, 3) := by decide +kernel
theorem dX8_parseBracket_47 : decode cX8_parseBracket 47 = .ok (.iaload, 1) := by decide +kernel
theorem dX8_parseBracket_48 : decode cX8_parseBracket 48 = .ok (.istore_n 2, 1) := by decide +kernel
theorem dX8_parseBracket_49 : decode cX8_parseBracket 49 = .ok (.aload_n 0, 1) := by decide +kernel
theorem dX8_parseBracket_50 : decode cX8_parseBracket 50 = .ok (.dup, 1) := by decide +kernel
theorem dX8_parseBracket_51 : decode cX8_parseBracket 51 = .ok (.getfield 22, 3) := by decide +kernel
theorem dX8_parseBracket_54 : decode cX8_parseBracket 54 = .ok (.iconst 1, 1) := by decide +kernel
theorem dX8_parseBracket_55 : decode cX8_parseBracket 55 = .ok (.iadd, 1) := by decide +kernel
theorem dX8_parseBracket_56 : decode cX8_parseBracket 56 = .ok (.putfield 22, 3) := by decide +kernel
theorem dX8_parseBracket_59 : decode cX8_parseBracket 59 = .ok (.aload_n 0, 1) := by decide +kernel
theorem dX8_parseBracket_60 : decode cX8_parseBracket 60 = .ok (.iload_n 1, 1) := by decide +kernel
theorem dX8_parseBracket_61 : decode cX8_parseBracket 61 = .ok (.invokevirtual 31, 3) := by decide +kernel
theorem dX8_parseBracket_64 : decode cX8_parseBracket 64 = .ok (.aload_n 0, 1) := by decide +kernel
theorem dX8_parseBracket_65 : decode cX8_parseBracket 65 = .ok (.iload_n 2, 1) := by decide +kernel
theorem dX8_parseBracket_66 : decode cX8_parseBracket 66 = .ok (.invokevirtual 42, 3) := by decide +kernel
theorem dX8_parseBracket_69 : decode cX8_parseBracket 69 = .ok (.aload_n 0, 1) := by decide +kernel
theorem dX8_parseBracket_70 : decode cX8_parseBracket 70 = .ok (.getfield 28, 3) := by decide +kernel
theorem dX8_parseBracket_73 : decode cX8_parseBracket 73 = .ok (.ifCond .ge 25, 3) := by decide +kernel
theorem dX8_parseBracket_76 : decode cX8_parseBracket 76 = .ok (.aload_n 0, 1) := by decide +kernel
theorem dX8_parseBracket_77 : decode cX8_parseBracket 77 = .ok (.bipush 41, 2) := by decide +kernel
theorem dX8_parseBracket_79 : decode cX8_parseBracket 79 = .ok (.invokevirtual 38, 3) := by decide +kernel
theorem dX8_parseBracket_82 : decode cX8_parseBracket 82 = .ok (.ifCond .eq 16, 3) := by decide +kernel
theorem dX8_parseBracket_85 : decode cX8_parseBracket 85 = .ok (.aload_n 0, 1) := by decide +kernel
theorem dX8_parseBracket_86 : decode cX8_parseBracket 86 = .ok (.dup, 1) := by decide +kernel
theorem dX8_parseBracket_87 : decode cX8_parseBracket 87 = .ok (.getfield 22, 3) := by decide +kernel
theorem dX8_parseBracket_90 : decode cX8_parseBracket 90 = .ok (.iconst 1, 1) := by decide +kernel
theorem dX8_parseBracket_91 : decode cX8_parseBracket 91 = .ok (.iadd, 1) := by decide +kernel
theorem dX8_parseBracket_92 : decode cX8_parseBracket 92 = .ok (.putfield 22, 3) := by decide +kernel
theorem dX8_parseBracket_95 : decode cX8_parseBracket 95 = .ok (.goto 18, 3) := by decide +kernel
theorem dX8_parseBracket_98 : decode cX8_parseBracket 98 = .ok (.aload_n 0, 1) := by decide +kernel
theorem dX8_parseBracket_99 : decode cX8_parseBracket 99 = .ok (.getfield 28, 3) := by decide +kernel
theorem dX8_parseBracket_102 : decode cX8_parseBracket 102 = .ok (.ifCond .ge 11, 3) := by decide +kernel
theorem dX8_parseBracket_105 : decode cX8_parseBracket 105 = .ok (.aload_n 0, 1) := by decide +kernel
theorem dX8_parseBracket_106 : decode cX8_parseBracket 106 = .ok (.aload_n 0, 1) := by decide +kernel
theorem dX8_parseBracket_107 : decode cX8_parseBracket 107 = .ok (.getfield 22, 3) := by decide +kernel
theorem dX8_parseBracket_110 : decode cX8_parseBracket 110 = .ok (.putfield 28, 3) := by decide +kernel
theorem dX8_parseBracket_113 : decode cX8_parseBracket 113 = .ok (.return_, 1) := by decide +kernel
theorem in_wsX8_parseUnit_X8 : ∀ w ∈ wsX80, w ∈ wsX8_parseUnit := fun w h => List.mem_cons_of_mem _ (List.mem_append_right _ h)
theorem in_wsX8_parseTerm_X8 : ∀ w ∈ wsX80, w ∈ wsX8_parseTerm := fun w h => List.mem_cons_of_mem _ (List.mem_append_right _ h)
theorem in_wsX8_parseSum_X8 : ∀ w ∈ wsX80, w ∈ wsX8_parseSum := fun w h => List.mem_cons_of_mem _ (List.mem_append_right _ h)
theorem in_wsX8_parseBracket_X8 : ∀ w ∈ wsX80, w ∈ wsX8_parseBracket := fun w h => List.mem_cons_of_mem _ (List.mem_append_right _ h)
