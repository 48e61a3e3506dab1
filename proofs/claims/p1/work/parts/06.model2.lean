def tyX11 : Nat → FieldType := fun k => match k with
  | 0 => .array .int
  | 1 => .array .int
  | 2 => .array .int
  | 3 => .array .int
  | 4 => .array .int
  | 5 => .array .int
  | 6 => .array .int
  | 7 => .array .int
  | 8 => .array .int
  | 9 => .array .int
  | 10 => .array .int
  | 11 => .array .int
  | 12 => .array .int
  | 13 => .array .int
  | 14 => .array .int
  | 15 => .array .int
  | 16 => .array .int
  | 17 => .array .int
  | 18 => .array .int
  | 19 => .array .int
  | 20 => .array .int
  | 21 => .array .int
  | 22 => .array .int
  | 23 => .array .int
  | 24 => .array .int
  | 25 => .array .int
  | 26 => .array .int
  | 27 => .array .int
  | 28 => .array .int
  | 29 => .array .int
  | 30 => .array .int
  | 31 => .array .int
  | 32 => .array .int
  | 33 => .array .int
  | 34 => .array .int
  | 35 => .array .int
  | 36 => .array .int
  | 37 => .array .boolean
  | 38 => .int
  | 39 => .int
  | 40 => .int
  | 41 => .int
  | 42 => .int
  | 43 => .int
  | 44 => .array .int
  | 45 => .array .int
  | 46 => .int
  | 47 => .int
  | 48 => .int
  | 49 => .int
  | 50 => .int
  | 51 => .boolean
  | 52 => .array .int
  | 53 => .array .int
  | 54 => .array .int
  | 55 => .array .int
  | 56 => .array .int
  | 57 => .array .int
  | 58 => .int
  | 59 => .int
  | 60 => .int
  | 61 => .array .int
  | _ => .int
theorem nmX11 : ∀ a, a < 63 → ∀ b, b < 63 → a ≠ b → (TX11 a).2.1 ≠ (TX11 b).2.1 := by decide +kernel
theorem tyX11_ok : ∀ k, k < 63 → parseFieldDescriptor (TX11 k).2.2.1 = some (tyX11 k) := by decide +kernel
abbrev cX11_days : ByteArray := prog_13_method_9_code
def yX11_days : MethodName := ⟨RX11, "days", "(I)I"⟩
abbrev cX11_miles : ByteArray := prog_13_method_10_code
def yX11_miles : MethodName := ⟨RX11, "miles", "(III)I"⟩
abbrev cX11_man : ByteArray := prog_13_method_11_code
def yX11_man : MethodName := ⟨RX11, "man", "(III)I"⟩
abbrev cX11_voyage : ByteArray := prog_13_method_12_code
def yX11_voyage : MethodName := ⟨RX11, "voyage", "(II)I"⟩
abbrev cX11_feed : ByteArray := prog_13_method_25_code
def yX11_feed : MethodName := ⟨RX11, "feed", "(IJ)I"⟩
abbrev cX11_act : ByteArray := prog_13_method_35_code
def yX11_act : MethodName := ⟨RX11, "act", "(II)I"⟩
abbrev cX11_asksAny : ByteArray := prog_13_method_75_code
def yX11_asksAny : MethodName := ⟨RX11, "asksAny", "(I)Z"⟩
abbrev cX11_put : ByteArray := prog_13_method_79_code
def yX11_put : MethodName := ⟨RX11, "put", "(I)I"⟩
abbrev cX11_count : ByteArray := prog_13_method_81_code
def yX11_count : MethodName := ⟨RX11, "count", "(I)I"⟩
def wsX11_days : List Cond := .code yX11_days cX11_days 2 (some .int) :: ([.fieldLink RX11 171 "ShipOfficeModel" "now" "I", .methodLink RX11 153 yX11_refuse, .instanceMethod yX11_refuse, .selects RX11 yX11_refuse yX11_refuse, .initialized RX11, .code yX11_refuse cX11_refuse 2 (some .int), .fieldLink RX11 7 "ShipOfficeModel" "refusals" "[I"] ++ wsX110)
def wsX11_miles : List Cond := .code yX11_miles cX11_miles 5 (some .int) :: ([.fieldLink RX11 13 "ShipOfficeModel" "mile" "[I", .methodLink RX11 174 yX11_isPort, .static yX11_isPort, .initialized RX11, .code yX11_isPort cX11_isPort 1 (some .boolean), .methodLink RX11 161 yX11_isIn, .static yX11_isIn, .code yX11_isIn cX11_isIn 2 (some .boolean), .methodLink RX11 153 yX11_refuse, .instanceMethod yX11_refuse, .selects RX11 yX11_refuse yX11_refuse, .code yX11_refuse cX11_refuse 2 (some .int), .fieldLink RX11 7 "ShipOfficeModel" "refusals" "[I"] ++ wsX110)
def wsX11_man : List Cond := .code yX11_man cX11_man 4 (some .int) :: ([.constant RX11 178 (99999), .fieldLink RX11 171 "ShipOfficeModel" "now" "I", .fieldLink RX11 157 "ShipOfficeModel" "men" "I", .fieldLink RX11 16 "ShipOfficeModel" "name" "[I", .fieldLink RX11 19 "ShipOfficeModel" "marks" "[I", .fieldLink RX11 22 "ShipOfficeModel" "born" "[I", .methodLink RX11 153 yX11_refuse, .instanceMethod yX11_refuse, .selects RX11 yX11_refuse yX11_refuse, .initialized RX11, .code yX11_refuse cX11_refuse 2 (some .int), .fieldLink RX11 7 "ShipOfficeModel" "refusals" "[I"] ++ wsX110)
def wsX11_voyage : List Cond := .code yX11_voyage cX11_voyage 4 (some .int) :: ([.fieldLink RX11 165 "ShipOfficeModel" "voyages" "I", .fieldLink RX11 28 "ShipOfficeModel" "ship" "[I", .fieldLink RX11 37 "ShipOfficeModel" "endedOn" "[I", .fieldLink RX11 31 "ShipOfficeModel" "opened" "[I", .fieldLink RX11 171 "ShipOfficeModel" "now" "I", .fieldLink RX11 34 "ShipOfficeModel" "openPort" "[I", .methodLink RX11 161 yX11_isIn, .static yX11_isIn, .initialized RX11, .code yX11_isIn cX11_isIn 2 (some .boolean), .methodLink RX11 174 yX11_isPort, .static yX11_isPort, .code yX11_isPort cX11_isPort 1 (some .boolean), .methodLink RX11 153 yX11_refuse, .instanceMethod yX11_refuse, .selects RX11 yX11_refuse yX11_refuse, .code yX11_refuse cX11_refuse 2 (some .int), .fieldLink RX11 7 "ShipOfficeModel" "refusals" "[I"] ++ wsX110)
def wsX11_feed : List Cond := .code yX11_feed cX11_feed 5 (some .int) :: ([.fieldLink RX11 205 "ShipOfficeModel" "taped" "I", .fieldLink RX11 125 "ShipOfficeModel" "tape" "[I", .constantLong RX11 208 (255), .methodLink RX11 153 yX11_refuse, .instanceMethod yX11_refuse, .selects RX11 yX11_refuse yX11_refuse, .initialized RX11, .code yX11_refuse cX11_refuse 2 (some .int), .fieldLink RX11 7 "ShipOfficeModel" "refusals" "[I"] ++ wsX110)
def wsX11_sign : List Cond := .code yX11_sign cX11_sign 1 (some .int) :: ([.fieldLink RX11 210 "ShipOfficeModel" "at" "I", .fieldLink RX11 213 "ShipOfficeModel" "size" "I", .fieldLink RX11 216 "ShipOfficeModel" "base" "I", .fieldLink RX11 125 "ShipOfficeModel" "tape" "[I", .fieldLink RX11 67 "ShipOfficeModel" "text" "[I"] ++ wsX110)
def wsX11_isLetter : List Cond := .code yX11_isLetter cX11_isLetter 1 (some .boolean) :: ([])
def wsX11_breaks : List Cond := .code yX11_breaks cX11_breaks 1 (some .int) :: ([.fieldLink RX11 223 "ShipOfficeModel" "isWell" "Z"] ++ wsX110)
def wsX11_sum_r1 : List Cond := [Cond.fieldLink RX11 223 "ShipOfficeModel" "isWell" "Z", Cond.fieldLink RX11 210 "ShipOfficeModel" "at" "I", Cond.methodLink RX11 231 yX11_term, Cond.instanceMethod yX11_term, Cond.selects RX11 yX11_term yX11_term, Cond.initialized RX11, Cond.methodLink RX11 227 yX11_sign, Cond.instanceMethod yX11_sign, Cond.selects RX11 yX11_sign yX11_sign, Cond.code yX11_sign cX11_sign 1 (some .int), Cond.fieldLink RX11 213 "ShipOfficeModel" "size" "I", Cond.fieldLink RX11 216 "ShipOfficeModel" "base" "I", Cond.fieldLink RX11 125 "ShipOfficeModel" "tape" "[I", Cond.fieldLink RX11 67 "ShipOfficeModel" "text" "[I", Cond.methodLink RX11 234 yX11_held, Cond.static yX11_held, Cond.code yX11_held cX11_held 2 (some .int), Cond.constantLong RX11 219 (1000000000), Cond.constantLong RX11 221 (-1000000000), Cond.code yX11_term cX11_term 4 (some .int), Cond.methodLink RX11 238 yX11_unit, Cond.instanceMethod yX11_unit, Cond.selects RX11 yX11_unit yX11_unit, Cond.code yX11_unit cX11_unit 5 (some .int)]
def wsX11_sum_r2 : List Cond := [Cond.fieldLink RX11 128 "ShipOfficeModel" "letters" "[I", Cond.fieldLink RX11 244 "ShipOfficeModel" "deep" "I", Cond.methodLink RX11 241 yX11_isLetter, Cond.static yX11_isLetter, Cond.code yX11_isLetter cX11_isLetter 1 (some .boolean), Cond.methodLink RX11 247 yX11_breaks, Cond.instanceMethod yX11_breaks, Cond.selects RX11 yX11_breaks yX11_breaks, Cond.code yX11_breaks cX11_breaks 1 (some .int), Cond.methodLink RX11 250 yX11_sum, Cond.instanceMethod yX11_sum, Cond.selects RX11 yX11_sum yX11_sum, Cond.methodLink RX11 253 yX11_takes, Cond.instanceMethod yX11_takes, Cond.selects RX11 yX11_takes yX11_takes, Cond.code yX11_takes cX11_takes 2 (some .boolean)]
def wsX11_sum : List Cond := .code yX11_sum cX11_sum 4 (some .int) :: ((wsX11_sum_r1 ++ wsX11_sum_r2) ++ wsX110)
def wsX11_term_r1 : List Cond := [Cond.fieldLink RX11 223 "ShipOfficeModel" "isWell" "Z", Cond.fieldLink RX11 210 "ShipOfficeModel" "at" "I", Cond.methodLink RX11 238 yX11_unit, Cond.instanceMethod yX11_unit, Cond.selects RX11 yX11_unit yX11_unit, Cond.initialized RX11, Cond.methodLink RX11 227 yX11_sign, Cond.instanceMethod yX11_sign, Cond.selects RX11 yX11_sign yX11_sign, Cond.code yX11_sign cX11_sign 1 (some .int), Cond.fieldLink RX11 213 "ShipOfficeModel" "size" "I", Cond.fieldLink RX11 216 "ShipOfficeModel" "base" "I", Cond.fieldLink RX11 125 "ShipOfficeModel" "tape" "[I", Cond.fieldLink RX11 67 "ShipOfficeModel" "text" "[I", Cond.methodLink RX11 234 yX11_held, Cond.static yX11_held, Cond.code yX11_held cX11_held 2 (some .int), Cond.constantLong RX11 219 (1000000000), Cond.constantLong RX11 221 (-1000000000), Cond.code yX11_sum cX11_sum 4 (some .int), Cond.methodLink RX11 231 yX11_term, Cond.instanceMethod yX11_term, Cond.selects RX11 yX11_term yX11_term, Cond.code yX11_unit cX11_unit 5 (some .int)]
def wsX11_term_r2 : List Cond := [Cond.fieldLink RX11 128 "ShipOfficeModel" "letters" "[I", Cond.fieldLink RX11 244 "ShipOfficeModel" "deep" "I", Cond.methodLink RX11 241 yX11_isLetter, Cond.static yX11_isLetter, Cond.code yX11_isLetter cX11_isLetter 1 (some .boolean), Cond.methodLink RX11 247 yX11_breaks, Cond.instanceMethod yX11_breaks, Cond.selects RX11 yX11_breaks yX11_breaks, Cond.code yX11_breaks cX11_breaks 1 (some .int), Cond.methodLink RX11 250 yX11_sum, Cond.instanceMethod yX11_sum, Cond.selects RX11 yX11_sum yX11_sum, Cond.methodLink RX11 253 yX11_takes, Cond.instanceMethod yX11_takes, Cond.selects RX11 yX11_takes yX11_takes, Cond.code yX11_takes cX11_takes 2 (some .boolean)]
def wsX11_term : List Cond := .code yX11_term cX11_term 4 (some .int) :: ((wsX11_term_r1 ++ wsX11_term_r2) ++ wsX110)
def wsX11_unit_r1 : List Cond := [Cond.fieldLink RX11 223 "ShipOfficeModel" "isWell" "Z", Cond.fieldLink RX11 210 "ShipOfficeModel" "at" "I", Cond.fieldLink RX11 128 "ShipOfficeModel" "letters" "[I", Cond.fieldLink RX11 244 "ShipOfficeModel" "deep" "I", Cond.methodLink RX11 227 yX11_sign, Cond.instanceMethod yX11_sign, Cond.selects RX11 yX11_sign yX11_sign, Cond.initialized RX11, Cond.code yX11_sign cX11_sign 1 (some .int), Cond.fieldLink RX11 213 "ShipOfficeModel" "size" "I", Cond.fieldLink RX11 216 "ShipOfficeModel" "base" "I", Cond.fieldLink RX11 125 "ShipOfficeModel" "tape" "[I", Cond.fieldLink RX11 67 "ShipOfficeModel" "text" "[I", Cond.methodLink RX11 241 yX11_isLetter, Cond.static yX11_isLetter, Cond.code yX11_isLetter cX11_isLetter 1 (some .boolean), Cond.methodLink RX11 234 yX11_held, Cond.static yX11_held, Cond.code yX11_held cX11_held 2 (some .int), Cond.constantLong RX11 219 (1000000000), Cond.constantLong RX11 221 (-1000000000), Cond.methodLink RX11 247 yX11_breaks, Cond.instanceMethod yX11_breaks, Cond.selects RX11 yX11_breaks yX11_breaks]
def wsX11_unit_r2 : List Cond := [Cond.code yX11_breaks cX11_breaks 1 (some .int), Cond.methodLink RX11 250 yX11_sum, Cond.instanceMethod yX11_sum, Cond.selects RX11 yX11_sum yX11_sum, Cond.methodLink RX11 253 yX11_takes, Cond.instanceMethod yX11_takes, Cond.selects RX11 yX11_takes yX11_takes, Cond.code yX11_takes cX11_takes 2 (some .boolean), Cond.code yX11_sum cX11_sum 4 (some .int), Cond.methodLink RX11 231 yX11_term, Cond.instanceMethod yX11_term, Cond.selects RX11 yX11_term yX11_term, Cond.code yX11_term cX11_term 4 (some .int), Cond.methodLink RX11 238 yX11_unit, Cond.instanceMethod yX11_unit, Cond.selects RX11 yX11_unit yX11_unit]
def wsX11_unit : List Cond := .code yX11_unit cX11_unit 5 (some .int) :: ((wsX11_unit_r1 ++ wsX11_unit_r2) ++ wsX110)
def wsX11_goesThrough_r1 : List Cond := [Cond.fieldLink RX11 216 "ShipOfficeModel" "base" "I", Cond.fieldLink RX11 213 "ShipOfficeModel" "size" "I", Cond.fieldLink RX11 210 "ShipOfficeModel" "at" "I", Cond.fieldLink RX11 244 "ShipOfficeModel" "deep" "I", Cond.fieldLink RX11 223 "ShipOfficeModel" "isWell" "Z", Cond.methodLink RX11 250 yX11_sum, Cond.instanceMethod yX11_sum, Cond.selects RX11 yX11_sum yX11_sum, Cond.initialized RX11, Cond.code yX11_sum cX11_sum 4 (some .int), Cond.methodLink RX11 231 yX11_term, Cond.instanceMethod yX11_term, Cond.selects RX11 yX11_term yX11_term, Cond.methodLink RX11 227 yX11_sign, Cond.instanceMethod yX11_sign, Cond.selects RX11 yX11_sign yX11_sign, Cond.code yX11_sign cX11_sign 1 (some .int), Cond.fieldLink RX11 125 "ShipOfficeModel" "tape" "[I", Cond.fieldLink RX11 67 "ShipOfficeModel" "text" "[I", Cond.methodLink RX11 234 yX11_held, Cond.static yX11_held, Cond.code yX11_held cX11_held 2 (some .int), Cond.constantLong RX11 219 (1000000000), Cond.constantLong RX11 221 (-1000000000)]
def wsX11_goesThrough_r2 : List Cond := [Cond.code yX11_term cX11_term 4 (some .int), Cond.methodLink RX11 238 yX11_unit, Cond.instanceMethod yX11_unit, Cond.selects RX11 yX11_unit yX11_unit, Cond.code yX11_unit cX11_unit 5 (some .int), Cond.fieldLink RX11 128 "ShipOfficeModel" "letters" "[I", Cond.methodLink RX11 241 yX11_isLetter, Cond.static yX11_isLetter, Cond.code yX11_isLetter cX11_isLetter 1 (some .boolean), Cond.methodLink RX11 247 yX11_breaks, Cond.instanceMethod yX11_breaks, Cond.selects RX11 yX11_breaks yX11_breaks, Cond.code yX11_breaks cX11_breaks 1 (some .int), Cond.methodLink RX11 253 yX11_takes, Cond.instanceMethod yX11_takes, Cond.selects RX11 yX11_takes yX11_takes, Cond.code yX11_takes cX11_takes 2 (some .boolean)]
def wsX11_goesThrough : List Cond := .code yX11_goesThrough cX11_goesThrough 3 (some .int) :: ((wsX11_goesThrough_r1 ++ wsX11_goesThrough_r2) ++ wsX110)
def wsX11_act_r1 : List Cond := [Cond.fieldLink RX11 171 "ShipOfficeModel" "now" "I", Cond.fieldLink RX11 256 "ShipOfficeModel" "acts" "I", Cond.fieldLink RX11 205 "ShipOfficeModel" "taped" "I", Cond.fieldLink RX11 223 "ShipOfficeModel" "isWell" "Z", Cond.fieldLink RX11 210 "ShipOfficeModel" "at" "I", Cond.fieldLink RX11 67 "ShipOfficeModel" "text" "[I", Cond.fieldLink RX11 125 "ShipOfficeModel" "tape" "[I", Cond.fieldLink RX11 58 "ShipOfficeModel" "textSize" "[I", Cond.fieldLink RX11 61 "ShipOfficeModel" "purpose" "[I", Cond.fieldLink RX11 64 "ShipOfficeModel" "from" "[I", Cond.methodLink RX11 161 yX11_isIn, Cond.static yX11_isIn, Cond.initialized RX11, Cond.code yX11_isIn cX11_isIn 2 (some .boolean), Cond.methodLink RX11 153 yX11_refuse, Cond.instanceMethod yX11_refuse, Cond.selects RX11 yX11_refuse yX11_refuse, Cond.code yX11_refuse cX11_refuse 2 (some .int), Cond.fieldLink RX11 7 "ShipOfficeModel" "refusals" "[I", Cond.methodLink RX11 259 yX11_goesThrough, Cond.instanceMethod yX11_goesThrough, Cond.selects RX11 yX11_goesThrough yX11_goesThrough, Cond.code yX11_goesThrough cX11_goesThrough 3 (some .int), Cond.fieldLink RX11 216 "ShipOfficeModel" "base" "I"]
def wsX11_act_r2 : List Cond := [Cond.fieldLink RX11 213 "ShipOfficeModel" "size" "I", Cond.fieldLink RX11 244 "ShipOfficeModel" "deep" "I", Cond.methodLink RX11 250 yX11_sum, Cond.instanceMethod yX11_sum, Cond.selects RX11 yX11_sum yX11_sum, Cond.code yX11_sum cX11_sum 4 (some .int), Cond.methodLink RX11 231 yX11_term, Cond.instanceMethod yX11_term, Cond.selects RX11 yX11_term yX11_term, Cond.methodLink RX11 227 yX11_sign, Cond.instanceMethod yX11_sign, Cond.selects RX11 yX11_sign yX11_sign, Cond.code yX11_sign cX11_sign 1 (some .int), Cond.methodLink RX11 234 yX11_held, Cond.static yX11_held, Cond.code yX11_held cX11_held 2 (some .int), Cond.constantLong RX11 219 (1000000000), Cond.constantLong RX11 221 (-1000000000), Cond.code yX11_term cX11_term 4 (some .int), Cond.methodLink RX11 238 yX11_unit, Cond.instanceMethod yX11_unit, Cond.selects RX11 yX11_unit yX11_unit, Cond.code yX11_unit cX11_unit 5 (some .int), Cond.fieldLink RX11 128 "ShipOfficeModel" "letters" "[I"]
def wsX11_act_r3 : List Cond := [Cond.methodLink RX11 241 yX11_isLetter, Cond.static yX11_isLetter, Cond.code yX11_isLetter cX11_isLetter 1 (some .boolean), Cond.methodLink RX11 247 yX11_breaks, Cond.instanceMethod yX11_breaks, Cond.selects RX11 yX11_breaks yX11_breaks, Cond.code yX11_breaks cX11_breaks 1 (some .int), Cond.methodLink RX11 253 yX11_takes, Cond.instanceMethod yX11_takes, Cond.selects RX11 yX11_takes yX11_takes, Cond.code yX11_takes cX11_takes 2 (some .boolean)]
def wsX11_act : List Cond := .code yX11_act cX11_act 7 (some .int) :: ((wsX11_act_r1 ++ (wsX11_act_r2 ++ wsX11_act_r3)) ++ wsX110)
def wsX11_put : List Cond := .code yX11_put cX11_put 2 (some .int) :: ([.fieldLink RX11 357 "ShipOfficeModel" "rowed" "I", .fieldLink RX11 149 "ShipOfficeModel" "row" "[I", .methodLink RX11 153 yX11_refuse, .instanceMethod yX11_refuse, .selects RX11 yX11_refuse yX11_refuse, .initialized RX11, .code yX11_refuse cX11_refuse 2 (some .int), .fieldLink RX11 7 "ShipOfficeModel" "refusals" "[I"] ++ wsX110)
def wsX11_count_r1 : List Cond := [Cond.fieldLink RX11 7 "ShipOfficeModel" "refusals" "[I", Cond.fieldLink RX11 171 "ShipOfficeModel" "now" "I", Cond.fieldLink RX11 157 "ShipOfficeModel" "men" "I", Cond.fieldLink RX11 165 "ShipOfficeModel" "voyages" "I", Cond.fieldLink RX11 37 "ShipOfficeModel" "endedOn" "[I", Cond.fieldLink RX11 168 "ShipOfficeModel" "agreements" "I", Cond.fieldLink RX11 179 "ShipOfficeModel" "happened" "I", Cond.fieldLink RX11 256 "ShipOfficeModel" "acts" "I", Cond.fieldLink RX11 205 "ShipOfficeModel" "taped" "I", Cond.fieldLink RX11 357 "ShipOfficeModel" "rowed" "I", Cond.methodLink RX11 188 yX11_goesOn, Cond.instanceMethod yX11_goesOn, Cond.selects RX11 yX11_goesOn yX11_goesOn, Cond.initialized RX11, Cond.code yX11_goesOn cX11_goesOn 2 (some .boolean), Cond.fieldLink RX11 88 "ShipOfficeModel" "offOn" "[I", Cond.fieldLink RX11 73 "ShipOfficeModel" "voyage" "[I", Cond.methodLink RX11 182 yX11_wasTold, Cond.instanceMethod yX11_wasTold, Cond.selects RX11 yX11_wasTold yX11_wasTold, Cond.code yX11_wasTold cX11_wasTold 4 (some .boolean), Cond.fieldLink RX11 40 "ShipOfficeModel" "what" "[I", Cond.fieldLink RX11 43 "ShipOfficeModel" "whose" "[I", Cond.methodLink RX11 351 yX11_asksAny]
def wsX11_count_r2 : List Cond := [Cond.instanceMethod yX11_asksAny, Cond.selects RX11 yX11_asksAny yX11_asksAny, Cond.code yX11_asksAny cX11_asksAny 2 (some .boolean), Cond.fieldLink RX11 25 "ShipOfficeModel" "asks" "[I"]
def wsX11_count : List Cond := .code yX11_count cX11_count 4 (some .int) :: ((wsX11_count_r1 ++ wsX11_count_r2) ++ wsX110)
set_option maxRecDepth 20000 in
theorem ggX11_days_X11_refuse : GoodIn wsX11_days wsX11_refuse := goodIn_r _ [6, 7, 8, 9, 10, 11, 12, 13, 14, 15, 16, 17, 18, 19, 20, 21, 22, 23, 24, 25, 26, 27, 28, 29, 30, 31, 32, 33, 34, 35, 36, 37, 38, 39, 40, 41, 42, 43, 44, 45, 46, 47, 48, 49, 50, 51, 52, 53, 54, 55, 56, 57, 58, 59, 60, 61, 62, 63, 64, 65, 66, 67, 68, 69, 70] (by decide +kernel) (by decide +kernel)
set_option maxRecDepth 20000 in
theorem gX11_days_X11_refuse : GoodIn wsX11_days (wsV RX11 153 RX11 yX11_refuse wsX11_refuse) := goodIn_app (goodIn_of _ (by decide +kernel)) ggX11_days_X11_refuse
theorem dX11_days_0 : decode cX11_days 0 = .ok (.iload_n 1, 1) := by decide +kernel
theorem dX11_days_1 : decode cX11_days 1 = .ok (.iconst 1, 1) := by decide +kernel
theorem dX11_days_2 : decode cX11_days 2 = .ok (.if_icmp .ge 10, 3) := by decide +kernel
theorem dX11_days_5 : decode cX11_days 5 = .ok (.aload_n 0, 1) := by decide +kernel
theorem dX11_days_6 : decode cX11_days 6 = .ok (.bipush (-4), 2) := by decide +kernel
theorem dX11_days_8 : decode cX11_days 8 = .ok (.invokevirtual 153, 3) := by decide +kernel
theorem dX11_days_11 : decode cX11_days 11 = .ok (.ireturn, 1) := by decide +kernel
theorem dX11_days_12 : decode cX11_days 12 = .ok (.iload_n 1, 1) := by decide +kernel
theorem dX11_days_13 : decode cX11_days 13 = .ok (.sipush 3000, 3) := by decide +kernel
theorem dX11_days_16 : decode cX11_days 16 = .ok (.aload_n 0, 1) := by decide +kernel
theorem dX11_days_17 : decode cX11_days 17 = .ok (.getfield 171, 3) := by decide +kernel
theorem dX11_days_20 : decode cX11_days 20 = .ok (.isub, 1) := by decide +kernel
theorem dX11_days_21 : decode cX11_days 21 = .ok (.if_icmp .le 10, 3) := by decide +kernel
theorem dX11_days_24 : decode cX11_days 24 = .ok (.aload_n 0, 1) := by decide +kernel
theorem dX11_days_25 : decode cX11_days 25 = .ok (.bipush (-6), 2) := by decide +kernel
theorem dX11_days_27 : decode cX11_days 27 = .ok (.invokevirtual 153, 3) := by decide +kernel
theorem dX11_days_30 : decode cX11_days 30 = .ok (.ireturn, 1) := by decide +kernel
theorem dX11_days_31 : decode cX11_days 31 = .ok (.aload_n 0, 1) := by decide +kernel
theorem dX11_days_32 : decode cX11_days 32 = .ok (.dup, 1) := by decide +kernel
theorem dX11_days_33 : decode cX11_days 33 = .ok (.getfield 171, 3) := by decide +kernel
theorem dX11_days_36 : decode cX11_days 36 = .ok (.iload_n 1, 1) := by decide +kernel
theorem dX11_days_37 : decode cX11_days 37 = .ok (.iadd, 1) := by decide +kernel
theorem dX11_days_38 : decode cX11_days 38 = .ok (.putfield 171, 3) := by decide +kernel
theorem dX11_days_41 : decode cX11_days 41 = .ok (.aload_n 0, 1) := by decide +kernel
theorem dX11_days_42 : decode cX11_days 42 = .ok (.getfield 171, 3) := by decide +kernel
theorem dX11_days_45 : decode cX11_days 45 = .ok (.ireturn, 1) := by decide +kernel
set_option maxRecDepth 20000 in
theorem ggX11_miles_X11_isPort : GoodIn wsX11_miles wsX11_isPort := goodIn_r _ [5, 6, 7, 4, 8] (by decide +kernel) (by decide +kernel)
set_option maxRecDepth 20000 in
theorem gX11_miles_X11_isPort : GoodIn wsX11_miles (va_wsS RX11 174 yX11_isPort wsX11_isPort) := goodIn_app (goodIn_of _ (by decide +kernel)) ggX11_miles_X11_isPort
set_option maxRecDepth 20000 in
theorem ggX11_miles_X11_refuse : GoodIn wsX11_miles wsX11_refuse := goodIn_r _ [12, 13, 14, 15, 16, 17, 18, 19, 20, 21, 22, 23, 24, 25, 26, 27, 28, 29, 30, 31, 32, 33, 34, 35, 36, 37, 38, 39, 40, 41, 42, 43, 44, 45, 46, 47, 48, 49, 50, 51, 52, 53, 54, 55, 56, 57, 58, 59, 60, 61, 62, 63, 64, 65, 66, 67, 68, 69, 70, 71, 72, 73, 74, 75, 76] (by decide +kernel) (by decide +kernel)
set_option maxRecDepth 20000 in
theorem gX11_miles_X11_refuse : GoodIn wsX11_miles (wsV RX11 153 RX11 yX11_refuse wsX11_refuse) := goodIn_app (goodIn_of _ (by decide +kernel)) ggX11_miles_X11_refuse
theorem dX11_miles_0 : decode cX11_miles 0 = .ok (.iload_n 1, 1) := by decide +kernel
theorem dX11_miles_1 : decode cX11_miles 1 = .ok (.invokestatic 174, 3) := by decide +kernel
theorem dX11_miles_4 : decode cX11_miles 4 = .ok (.ifCond .eq 15, 3) := by decide +kernel
theorem dX11_miles_7 : decode cX11_miles 7 = .ok (.iload_n 2, 1) := by decide +kernel
theorem dX11_miles_8 : decode cX11_miles 8 = .ok (.invokestatic 174, 3) := by decide +kernel
theorem dX11_miles_11 : decode cX11_miles 11 = .ok (.ifCond .eq 8, 3) := by decide +kernel
theorem dX11_miles_14 : decode cX11_miles 14 = .ok (.iload_n 1, 1) := by decide +kernel
theorem dX11_miles_15 : decode cX11_miles 15 = .ok (.iload_n 2, 1) := by decide +kernel
theorem dX11_miles_16 : decode cX11_miles 16 = .ok (.if_icmp .ne 9, 3) := by decide +kernel
theorem dX11_miles_19 : decode cX11_miles 19 = .ok (.aload_n 0, 1) := by decide +kernel
theorem dX11_miles_20 : decode cX11_miles 20 = .ok (.iconst (-1), 1) := by decide +kernel
theorem dX11_miles_21 : decode cX11_miles 21 = .ok (.invokevirtual 153, 3) := by decide +kernel
theorem dX11_miles_24 : decode cX11_miles 24 = .ok (.ireturn, 1) := by decide +kernel
theorem dX11_miles_25 : decode cX11_miles 25 = .ok (.iload_n 3, 1) := by decide +kernel
theorem dX11_miles_26 : decode cX11_miles 26 = .ok (.ifCond .ge 10, 3) := by decide +kernel
theorem dX11_miles_29 : decode cX11_miles 29 = .ok (.aload_n 0, 1) := by decide +kernel
theorem dX11_miles_30 : decode cX11_miles 30 = .ok (.bipush (-4), 2) := by decide +kernel
theorem dX11_miles_32 : decode cX11_miles 32 = .ok (.invokevirtual 153, 3) := by decide +kernel
theorem dX11_miles_35 : decode cX11_miles 35 = .ok (.ireturn, 1) := by decide +kernel
theorem dX11_miles_36 : decode cX11_miles 36 = .ok (.iload_n 3, 1) := by decide +kernel
theorem dX11_miles_37 : decode cX11_miles 37 = .ok (.sipush 9999, 3) := by decide +kernel
theorem dX11_miles_40 : decode cX11_miles 40 = .ok (.if_icmp .le 10, 3) := by decide +kernel
theorem dX11_miles_43 : decode cX11_miles 43 = .ok (.aload_n 0, 1) := by decide +kernel
theorem dX11_miles_44 : decode cX11_miles 44 = .ok (.bipush (-6), 2) := by decide +kernel
theorem dX11_miles_46 : decode cX11_miles 46 = .ok (.invokevirtual 153, 3) := by decide +kernel
theorem dX11_miles_49 : decode cX11_miles 49 = .ok (.ireturn, 1) := by decide +kernel
theorem dX11_miles_50 : decode cX11_miles 50 = .ok (.aload_n 0, 1) := by decide +kernel
theorem dX11_miles_51 : decode cX11_miles 51 = .ok (.getfield 13, 3) := by decide +kernel
theorem dX11_miles_54 : decode cX11_miles 54 = .ok (.bipush 10, 2) := by decide +kernel
theorem dX11_miles_56 : decode cX11_miles 56 = .ok (.iload_n 1, 1) := by decide +kernel
theorem dX11_miles_57 : decode cX11_miles 57 = .ok (.imul, 1) := by decide +kernel
theorem dX11_miles_58 : decode cX11_miles 58 = .ok (.iload_n 2, 1) := by decide +kernel
theorem dX11_miles_59 : decode cX11_miles 59 = .ok (.iadd, 1) := by decide +kernel
theorem dX11_miles_60 : decode cX11_miles 60 = .ok (.iaload, 1) := by decide +kernel
theorem dX11_miles_61 : decode cX11_miles 61 = .ok (.istore 4, 2) := by decide +kernel
theorem dX11_miles_63 : decode cX11_miles 63 = .ok (.aload_n 0, 1) := by decide +kernel
theorem dX11_miles_64 : decode cX11_miles 64 = .ok (.getfield 13, 3) := by decide +kernel
theorem dX11_miles_67 : decode cX11_miles 67 = .ok (.bipush 10, 2) := by decide +kernel
theorem dX11_miles_69 : decode cX11_miles 69 = .ok (.iload_n 1, 1) := by decide +kernel
theorem dX11_miles_70 : decode cX11_miles 70 = .ok (.imul, 1) := by decide +kernel
theorem dX11_miles_71 : decode cX11_miles 71 = .ok (.iload_n 2, 1) := by decide +kernel
theorem dX11_miles_72 : decode cX11_miles 72 = .ok (.iadd, 1) := by decide +kernel
theorem dX11_miles_73 : decode cX11_miles 73 = .ok (.iload_n 3, 1) := by decide +kernel
theorem dX11_miles_74 : decode cX11_miles 74 = .ok (.iastore, 1) := by decide +kernel
theorem dX11_miles_75 : decode cX11_miles 75 = .ok (.aload_n 0, 1) := by decide +kernel
theorem dX11_miles_76 : decode cX11_miles 76 = .ok (.getfield 13, 3) := by decide +kernel
theorem dX11_miles_79 : decode cX11_miles 79 = .ok (.bipush 10, 2) := by decide +kernel
theorem dX11_miles_81 : decode cX11_miles 81 = .ok (.iload_n 2, 1) := by decide +kernel
theorem dX11_miles_82 : decode cX11_miles 82 = .ok (.imul, 1) := by decide +kernel
theorem dX11_miles_83 : decode cX11_miles 83 = .ok (.iload_n 1, 1) := by decide +kernel
theorem dX11_miles_84 : decode cX11_miles 84 = .ok (.iadd, 1) := by decide +kernel
theorem dX11_miles_85 : decode cX11_miles 85 = .ok (.iload_n 3, 1) := by decide +kernel
theorem dX11_miles_86 : decode cX11_miles 86 = .ok (.iastore, 1) := by decide +kernel
theorem dX11_miles_87 : decode cX11_miles 87 = .ok (.iload 4, 2) := by decide +kernel
theorem dX11_miles_89 : decode cX11_miles 89 = .ok (.ireturn, 1) := by decide +kernel
set_option maxRecDepth 20000 in
theorem ggX11_man_X11_refuse : GoodIn wsX11_man wsX11_refuse := goodIn_r _ [11, 12, 13, 14, 15, 16, 17, 18, 19, 20, 21, 22, 23, 24, 25, 26, 27, 28, 29, 30, 31, 32, 33, 34, 35, 36, 37, 38, 39, 40, 41, 42, 43, 44, 45, 46, 47, 48, 49, 50, 51, 52, 53, 54, 55, 56, 57, 58, 59, 60, 61, 62, 63, 64, 65, 66, 67, 68, 69, 70, 71, 72, 73, 74, 75] (by decide +kernel) (by decide +kernel)
set_option maxRecDepth 20000 in
theorem gX11_man_X11_refuse : GoodIn wsX11_man (wsV RX11 153 RX11 yX11_refuse wsX11_refuse) := goodIn_app (goodIn_of _ (by decide +kernel)) ggX11_man_X11_refuse
theorem dX11_man_0 : decode cX11_man 0 = .ok (.iload_n 1, 1) := by decide +kernel
theorem dX11_man_1 : decode cX11_man 1 = .ok (.ifCond .lt 14, 3) := by decide +kernel
theorem dX11_man_4 : decode cX11_man 4 = .ok (.iload_n 2, 1) := by decide +kernel
theorem dX11_man_5 : decode cX11_man 5 = .ok (.ifCond .lt 10, 3) := by decide +kernel
theorem dX11_man_8 : decode cX11_man 8 = .ok (.iload_n 3, 1) := by decide +kernel
theorem dX11_man_9 : decode cX11_man 9 = .ok (.sipush (-30000), 3) := by decide +kernel
theorem dX11_man_12 : decode cX11_man 12 = .ok (.if_icmp .ge 10, 3) := by decide +kernel
theorem dX11_man_15 : decode cX11_man 15 = .ok (.aload_n 0, 1) := by decide +kernel
theorem dX11_man_16 : decode cX11_man 16 = .ok (.bipush (-4), 2) := by decide +kernel
theorem dX11_man_18 : decode cX11_man 18 = .ok (.invokevirtual 153, 3) := by decide +kernel
theorem dX11_man_21 : decode cX11_man 21 = .ok (.ireturn, 1) := by decide +kernel
theorem dX11_man_22 : decode cX11_man 22 = .ok (.iload_n 1, 1) := by decide +kernel
theorem dX11_man_23 : decode cX11_man 23 = .ok (.sipush 9999, 3) := by decide +kernel
theorem dX11_man_26 : decode cX11_man 26 = .ok (.if_icmp .gt 26, 3) := by decide +kernel
theorem dX11_man_29 : decode cX11_man 29 = .ok (.iload_n 2, 1) := by decide +kernel
theorem dX11_man_30 : decode cX11_man 30 = .ok (.ldc 178, 2) := by decide +kernel
theorem dX11_man_32 : decode cX11_man 32 = .ok (.if_icmp .gt 20, 3) := by decide +kernel
theorem dX11_man_35 : decode cX11_man 35 = .ok (.iload_n 3, 1) := by decide +kernel
theorem dX11_man_36 : decode cX11_man 36 = .ok (.aload_n 0, 1) := by decide +kernel
theorem dX11_man_37 : decode cX11_man 37 = .ok (.getfield 171, 3) := by decide +kernel
theorem dX11_man_40 : decode cX11_man 40 = .ok (.if_icmp .gt 12, 3) := by decide +kernel
theorem dX11_man_43 : decode cX11_man 43 = .ok (.aload_n 0, 1) := by decide +kernel
theorem dX11_man_44 : decode cX11_man 44 = .ok (.getfield 157, 3) := by decide +kernel
theorem dX11_man_47 : decode cX11_man 47 = .ok (.bipush 40, 2) := by decide +kernel
theorem dX11_man_49 : decode cX11_man 49 = .ok (.if_icmp .ne 10, 3) := by decide +kernel
theorem dX11_man_52 : decode cX11_man 52 = .ok (.aload_n 0, 1) := by decide +kernel
theorem dX11_man_53 : decode cX11_man 53 = .ok (.bipush (-6), 2) := by decide +kernel
theorem dX11_man_55 : decode cX11_man 55 = .ok (.invokevirtual 153, 3) := by decide +kernel
theorem dX11_man_58 : decode cX11_man 58 = .ok (.ireturn, 1) := by decide +kernel
theorem dX11_man_59 : decode cX11_man 59 = .ok (.aload_n 0, 1) := by decide +kernel
theorem dX11_man_60 : decode cX11_man 60 = .ok (.getfield 16, 3) := by decide +kernel
theorem dX11_man_63 : decode cX11_man 63 = .ok (.aload_n 0, 1) := by decide +kernel
theorem dX11_man_64 : decode cX11_man 64 = .ok (.getfield 157, 3) := by decide +kernel
theorem dX11_man_67 : decode cX11_man 67 = .ok (.iload_n 1, 1) := by decide +kernel
theorem dX11_man_68 : decode cX11_man 68 = .ok (.iastore, 1) := by decide +kernel
theorem dX11_man_69 : decode cX11_man 69 = .ok (.aload_n 0, 1) := by decide +kernel
theorem dX11_man_70 : decode cX11_man 70 = .ok (.getfield 19, 3) := by decide +kernel
theorem dX11_man_73 : decode cX11_man 73 = .ok (.aload_n 0, 1) := by decide +kernel
theorem dX11_man_74 : decode cX11_man 74 = .ok (.getfield 157, 3) := by decide +kernel
theorem dX11_man_77 : decode cX11_man 77 = .ok (.iload_n 2, 1) := by decide +kernel
theorem dX11_man_78 : decode cX11_man 78 = .ok (.iastore, 1) := by decide +kernel
theorem dX11_man_79 : decode cX11_man 79 = .ok (.aload_n 0, 1) := by decide +kernel
theorem dX11_man_80 : decode cX11_man 80 = .ok (.getfield 22, 3) := by decide +kernel
theorem dX11_man_83 : decode cX11_man 83 = .ok (.aload_n 0, 1) := by decide +kernel
theorem dX11_man_84 : decode cX11_man 84 = .ok (.getfield 157, 3) := by decide +kernel
theorem dX11_man_87 : decode cX11_man 87 = .ok (.iload_n 3, 1) := by decide +kernel
theorem dX11_man_88 : decode cX11_man 88 = .ok (.iastore, 1) := by decide +kernel
theorem dX11_man_89 : decode cX11_man 89 = .ok (.aload_n 0, 1) := by decide +kernel
theorem dX11_man_90 : decode cX11_man 90 = .ok (.dup, 1) := by decide +kernel
theorem dX11_man_91 : decode cX11_man 91 = .ok (.getfield 157, 3) := by decide +kernel
theorem dX11_man_94 : decode cX11_man 94 = .ok (.iconst 1, 1) := by decide +kernel
theorem dX11_man_95 : decode cX11_man 95 = .ok (.iadd, 1) := by decide +kernel
theorem dX11_man_96 : decode cX11_man 96 = .ok (.putfield 157, 3) := by decide +kernel
theorem dX11_man_99 : decode cX11_man 99 = .ok (.aload_n 0, 1) := by decide +kernel
theorem dX11_man_100 : decode cX11_man 100 = .ok (.getfield 157, 3) := by decide +kernel
theorem dX11_man_103 : decode cX11_man 103 = .ok (.iconst 1, 1) := by decide +kernel
theorem dX11_man_104 : decode cX11_man 104 = .ok (.isub, 1) := by decide +kernel
theorem dX11_man_105 : decode cX11_man 105 = .ok (.ireturn, 1) := by decide +kernel
set_option maxRecDepth 20000 in
theorem ggX11_voyage_X11_isIn : GoodIn wsX11_voyage wsX11_isIn := goodIn_r _ [10] (by decide +kernel) (by decide +kernel)
set_option maxRecDepth 20000 in
theorem gX11_voyage_X11_isIn : GoodIn wsX11_voyage (va_wsS RX11 161 yX11_isIn wsX11_isIn) := goodIn_app (goodIn_of _ (by decide +kernel)) ggX11_voyage_X11_isIn
set_option maxRecDepth 20000 in
theorem ggX11_voyage_X11_isPort : GoodIn wsX11_voyage wsX11_isPort := goodIn_r _ [13, 7, 8, 9, 10] (by decide +kernel) (by decide +kernel)
set_option maxRecDepth 20000 in
theorem gX11_voyage_X11_isPort : GoodIn wsX11_voyage (va_wsS RX11 174 yX11_isPort wsX11_isPort) := goodIn_app (goodIn_of _ (by decide +kernel)) ggX11_voyage_X11_isPort
set_option maxRecDepth 20000 in
theorem ggX11_voyage_X11_refuse : GoodIn wsX11_voyage wsX11_refuse := goodIn_r _ [17, 18, 19, 20, 21, 22, 23, 24, 25, 26, 27, 28, 29, 30, 31, 32, 33, 34, 35, 36, 37, 38, 39, 40, 41, 42, 43, 44, 45, 46, 47, 48, 49, 50, 51, 52, 53, 54, 55, 56, 57, 58, 59, 60, 61, 62, 63, 64, 65, 66, 67, 68, 69, 70, 71, 72, 73, 74, 75, 76, 77, 78, 79, 80, 81] (by decide +kernel) (by decide +kernel)
set_option maxRecDepth 20000 in
theorem gX11_voyage_X11_refuse : GoodIn wsX11_voyage (wsV RX11 153 RX11 yX11_refuse wsX11_refuse) := goodIn_app (goodIn_of _ (by decide +kernel)) ggX11_voyage_X11_refuse
theorem dX11_voyage_0 : decode cX11_voyage 0 = .ok (.iload_n 1, 1) := by decide +kernel
theorem dX11_voyage_1 : decode cX11_voyage 1 = .ok (.bipush 10, 2) := by decide +kernel
theorem dX11_voyage_3 : decode cX11_voyage 3 = .ok (.invokestatic 161, 3) := by decide +kernel
theorem dX11_voyage_6 : decode cX11_voyage 6 = .ok (.ifCond .eq 10, 3) := by decide +kernel
theorem dX11_voyage_9 : decode cX11_voyage 9 = .ok (.iload_n 2, 1) := by decide +kernel
theorem dX11_voyage_10 : decode cX11_voyage 10 = .ok (.invokestatic 174, 3) := by decide +kernel
theorem dX11_voyage_13 : decode cX11_voyage 13 = .ok (.ifCond .ne 9, 3) := by decide +kernel
theorem dX11_voyage_16 : decode cX11_voyage 16 = .ok (.aload_n 0, 1) := by decide +kernel
theorem dX11_voyage_17 : decode cX11_voyage 17 = .ok (.iconst (-1), 1) := by decide +kernel
theorem dX11_voyage_18 : decode cX11_voyage 18 = .ok (.invokevirtual 153, 3) := by decide +kernel
theorem dX11_voyage_21 : decode cX11_voyage 21 = .ok (.ireturn, 1) := by decide +kernel
theorem dX11_voyage_22 : decode cX11_voyage 22 = .ok (.iconst 0, 1) := by decide +kernel
theorem dX11_voyage_23 : decode cX11_voyage 23 = .ok (.istore_n 3, 1) := by decide +kernel
theorem dX11_voyage_24 : decode cX11_voyage 24 = .ok (.iload_n 3, 1) := by decide +kernel
theorem dX11_voyage_25 : decode cX11_voyage 25 = .ok (.aload_n 0, 1) := by decide +kernel
theorem dX11_voyage_26 : decode cX11_voyage 26 = .ok (.getfield 165, 3) := by decide +kernel
theorem dX11_voyage_29 : decode cX11_voyage 29 = .ok (.if_icmp .ge 35, 3) := by decide +kernel
theorem dX11_voyage_64 : decode cX11_voyage 64 = .ok (.aload_n 0, 1) := by decide +kernel
theorem dX11_voyage_65 : decode cX11_voyage 65 = .ok (.getfield 165, 3) := by decide +kernel
theorem dX11_voyage_68 : decode cX11_voyage 68 = .ok (.bipush 20, 2) := by decide +kernel
theorem dX11_voyage_70 : decode cX11_voyage 70 = .ok (.if_icmp .ne 10, 3) := by decide +kernel
theorem dX11_voyage_80 : decode cX11_voyage 80 = .ok (.aload_n 0, 1) := by decide +kernel
theorem dX11_voyage_81 : decode cX11_voyage 81 = .ok (.getfield 28, 3) := by decide +kernel
theorem dX11_voyage_84 : decode cX11_voyage 84 = .ok (.aload_n 0, 1) := by decide +kernel
theorem dX11_voyage_85 : decode cX11_voyage 85 = .ok (.getfield 165, 3) := by decide +kernel
theorem dX11_voyage_88 : decode cX11_voyage 88 = .ok (.iload_n 1, 1) := by decide +kernel
theorem dX11_voyage_89 : decode cX11_voyage 89 = .ok (.iastore, 1) := by decide +kernel
theorem dX11_voyage_90 : decode cX11_voyage 90 = .ok (.aload_n 0, 1) := by decide +kernel
theorem dX11_voyage_91 : decode cX11_voyage 91 = .ok (.getfield 31, 3) := by decide +kernel
theorem dX11_voyage_94 : decode cX11_voyage 94 = .ok (.aload_n 0, 1) := by decide +kernel
theorem dX11_voyage_95 : decode cX11_voyage 95 = .ok (.getfield 165, 3) := by decide +kernel
theorem dX11_voyage_98 : decode cX11_voyage 98 = .ok (.aload_n 0, 1) := by decide +kernel
theorem dX11_voyage_99 : decode cX11_voyage 99 = .ok (.getfield 171, 3) := by decide +kernel
theorem dX11_voyage_102 : decode cX11_voyage 102 = .ok (.iastore, 1) := by decide +kernel
theorem dX11_voyage_103 : decode cX11_voyage 103 = .ok (.aload_n 0, 1) := by decide +kernel
theorem dX11_voyage_104 : decode cX11_voyage 104 = .ok (.getfield 34, 3) := by decide +kernel
theorem dX11_voyage_107 : decode cX11_voyage 107 = .ok (.aload_n 0, 1) := by decide +kernel
theorem dX11_voyage_108 : decode cX11_voyage 108 = .ok (.getfield 165, 3) := by decide +kernel
theorem dX11_voyage_111 : decode cX11_voyage 111 = .ok (.iload_n 2, 1) := by decide +kernel
theorem dX11_voyage_112 : decode cX11_voyage 112 = .ok (.iastore, 1) := by decide +kernel
theorem dX11_voyage_113 : decode cX11_voyage 113 = .ok (.aload_n 0, 1) := by decide +kernel
theorem dX11_voyage_114 : decode cX11_voyage 114 = .ok (.getfield 37, 3) := by decide +kernel
theorem dX11_voyage_117 : decode cX11_voyage 117 = .ok (.aload_n 0, 1) := by decide +kernel
theorem dX11_voyage_118 : decode cX11_voyage 118 = .ok (.getfield 165, 3) := by decide +kernel
theorem dX11_voyage_121 : decode cX11_voyage 121 = .ok (.iconst (-1), 1) := by decide +kernel
theorem dX11_voyage_122 : decode cX11_voyage 122 = .ok (.iastore, 1) := by decide +kernel
theorem dX11_voyage_123 : decode cX11_voyage 123 = .ok (.aload_n 0, 1) := by decide +kernel
theorem dX11_voyage_124 : decode cX11_voyage 124 = .ok (.dup, 1) := by decide +kernel
theorem dX11_voyage_125 : decode cX11_voyage 125 = .ok (.getfield 165, 3) := by decide +kernel
theorem dX11_voyage_128 : decode cX11_voyage 128 = .ok (.iconst 1, 1) := by decide +kernel
theorem dX11_voyage_129 : decode cX11_voyage 129 = .ok (.iadd, 1) := by decide +kernel
theorem dX11_voyage_130 : decode cX11_voyage 130 = .ok (.putfield 165, 3) := by decide +kernel
theorem dX11_voyage_133 : decode cX11_voyage 133 = .ok (.aload_n 0, 1) := by decide +kernel
theorem dX11_voyage_134 : decode cX11_voyage 134 = .ok (.getfield 165, 3) := by decide +kernel
theorem dX11_voyage_137 : decode cX11_voyage 137 = .ok (.iconst 1, 1) := by decide +kernel
theorem dX11_voyage_138 : decode cX11_voyage 138 = .ok (.isub, 1) := by decide +kernel
theorem dX11_voyage_139 : decode cX11_voyage 139 = .ok (.ireturn, 1) := by decide +kernel
set_option maxRecDepth 20000 in
theorem ggX11_feed_X11_refuse : GoodIn wsX11_feed wsX11_refuse := goodIn_r _ [8, 9, 10, 11, 12, 13, 14, 15, 16, 17, 18, 19, 20, 21, 22, 23, 24, 25, 26, 27, 28, 29, 30, 31, 32, 33, 34, 35, 36, 37, 38, 39, 40, 41, 42, 43, 44, 45, 46, 47, 48, 49, 50, 51, 52, 53, 54, 55, 56, 57, 58, 59, 60, 61, 62, 63, 64, 65, 66, 67, 68, 69, 70, 71, 72] (by decide +kernel) (by decide +kernel)
set_option maxRecDepth 20000 in
theorem gX11_feed_X11_refuse : GoodIn wsX11_feed (wsV RX11 153 RX11 yX11_refuse wsX11_refuse) := goodIn_app (goodIn_of _ (by decide +kernel)) ggX11_feed_X11_refuse
theorem dX11_feed_0 : decode cX11_feed 0 = .ok (.iload_n 1, 1) := by decide +kernel
theorem dX11_feed_1 : decode cX11_feed 1 = .ok (.iconst 1, 1) := by decide +kernel
theorem dX11_feed_2 : decode cX11_feed 2 = .ok (.if_icmp .ge 10, 3) := by decide +kernel
theorem dX11_feed_5 : decode cX11_feed 5 = .ok (.aload_n 0, 1) := by decide +kernel
theorem dX11_feed_6 : decode cX11_feed 6 = .ok (.bipush (-4), 2) := by decide +kernel
theorem dX11_feed_8 : decode cX11_feed 8 = .ok (.invokevirtual 153, 3) := by decide +kernel
theorem dX11_feed_11 : decode cX11_feed 11 = .ok (.ireturn, 1) := by decide +kernel
theorem dX11_feed_12 : decode cX11_feed 12 = .ok (.iload_n 1, 1) := by decide +kernel
theorem dX11_feed_13 : decode cX11_feed 13 = .ok (.bipush 8, 2) := by decide +kernel
theorem dX11_feed_15 : decode cX11_feed 15 = .ok (.if_icmp .gt 14, 3) := by decide +kernel
theorem dX11_feed_18 : decode cX11_feed 18 = .ok (.aload_n 0, 1) := by decide +kernel
theorem dX11_feed_19 : decode cX11_feed 19 = .ok (.getfield 205, 3) := by decide +kernel
theorem dX11_feed_22 : decode cX11_feed 22 = .ok (.iload_n 1, 1) := by decide +kernel
theorem dX11_feed_23 : decode cX11_feed 23 = .ok (.iadd, 1) := by decide +kernel
theorem dX11_feed_24 : decode cX11_feed 24 = .ok (.bipush 60, 2) := by decide +kernel
theorem dX11_feed_26 : decode cX11_feed 26 = .ok (.if_icmp .le 10, 3) := by decide +kernel
theorem dX11_feed_29 : decode cX11_feed 29 = .ok (.aload_n 0, 1) := by decide +kernel
theorem dX11_feed_30 : decode cX11_feed 30 = .ok (.bipush (-6), 2) := by decide +kernel
theorem dX11_feed_32 : decode cX11_feed 32 = .ok (.invokevirtual 153, 3) := by decide +kernel
theorem dX11_feed_35 : decode cX11_feed 35 = .ok (.ireturn, 1) := by decide +kernel
theorem dX11_feed_36 : decode cX11_feed 36 = .ok (.iconst 0, 1) := by decide +kernel
theorem dX11_feed_37 : decode cX11_feed 37 = .ok (.istore 4, 2) := by decide +kernel
theorem dX11_feed_39 : decode cX11_feed 39 = .ok (.iload 4, 2) := by decide +kernel
theorem dX11_feed_41 : decode cX11_feed 41 = .ok (.iload_n 1, 1) := by decide +kernel
theorem dX11_feed_42 : decode cX11_feed 42 = .ok (.if_icmp .ge 40, 3) := by decide +kernel
theorem dX11_feed_45 : decode cX11_feed 45 = .ok (.aload_n 0, 1) := by decide +kernel
theorem dX11_feed_46 : decode cX11_feed 46 = .ok (.getfield 125, 3) := by decide +kernel
theorem dX11_feed_49 : decode cX11_feed 49 = .ok (.aload_n 0, 1) := by decide +kernel
theorem dX11_feed_50 : decode cX11_feed 50 = .ok (.getfield 205, 3) := by decide +kernel
theorem dX11_feed_53 : decode cX11_feed 53 = .ok (.lload_n 2, 1) := by decide +kernel
theorem dX11_feed_54 : decode cX11_feed 54 = .ok (.bipush 8, 2) := by decide +kernel
theorem dX11_feed_56 : decode cX11_feed 56 = .ok (.iload 4, 2) := by decide +kernel
theorem dX11_feed_58 : decode cX11_feed 58 = .ok (.imul, 1) := by decide +kernel
theorem dX11_feed_59 : decode cX11_feed 59 = .ok (.lshr, 1) := by decide +kernel
theorem dX11_feed_60 : decode cX11_feed 60 = .ok (.ldc2_w 208, 3) := by decide +kernel
theorem dX11_feed_63 : decode cX11_feed 63 = .ok (.land, 1) := by decide +kernel
theorem dX11_feed_64 : decode cX11_feed 64 = .ok (.l2i, 1) := by decide +kernel
theorem dX11_feed_65 : decode cX11_feed 65 = .ok (.iastore, 1) := by decide +kernel
theorem dX11_feed_66 : decode cX11_feed 66 = .ok (.aload_n 0, 1) := by decide +kernel
theorem dX11_feed_67 : decode cX11_feed 67 = .ok (.dup, 1) := by decide +kernel
theorem dX11_feed_68 : decode cX11_feed 68 = .ok (.getfield 205, 3) := by decide +kernel
theorem dX11_feed_71 : decode cX11_feed 71 = .ok (.iconst 1, 1) := by decide +kernel
theorem dX11_feed_72 : decode cX11_feed 72 = .ok (.iadd, 1) := by decide +kernel
theorem dX11_feed_73 : decode cX11_feed 73 = .ok (.putfield 205, 3) := by decide +kernel
theorem dX11_feed_76 : decode cX11_feed 76 = .ok (.iinc 4 1, 3) := by decide +kernel
theorem dX11_feed_79 : decode cX11_feed 79 = .ok (.goto (-40), 3) := by decide +kernel
theorem dX11_feed_82 : decode cX11_feed 82 = .ok (.aload_n 0, 1) := by decide +kernel
theorem dX11_feed_83 : decode cX11_feed 83 = .ok (.getfield 205, 3) := by decide +kernel
theorem dX11_feed_86 : decode cX11_feed 86 = .ok (.ireturn, 1) := by decide +kernel
theorem dX11_sign_0 : decode cX11_sign 0 = .ok (.aload_n 0, 1) := by decide +kernel
theorem dX11_sign_1 : decode cX11_sign 1 = .ok (.getfield 210, 3) := by decide +kernel
theorem dX11_sign_4 : decode cX11_sign 4 = .ok (.aload_n 0, 1) := by decide +kernel
theorem dX11_sign_5 : decode cX11_sign 5 = .ok (.getfield 213, 3) := by decide +kernel
theorem dX11_sign_8 : decode cX11_sign 8 = .ok (.if_icmp .lt 7, 3) := by decide +kernel
theorem dX11_sign_11 : decode cX11_sign 11 = .ok (.iconst (-1), 1) := by decide +kernel
theorem dX11_sign_12 : decode cX11_sign 12 = .ok (.goto 36, 3) := by decide +kernel
theorem dX11_sign_48 : decode cX11_sign 48 = .ok (.ireturn, 1) := by decide +kernel
theorem dX11_isLetter_0 : decode cX11_isLetter 0 = .ok (.iload_n 0, 1) := by decide +kernel
theorem dX11_isLetter_1 : decode cX11_isLetter 1 = .ok (.bipush 119, 2) := by decide +kernel
theorem dX11_isLetter_3 : decode cX11_isLetter 3 = .ok (.if_icmp .eq 45, 3) := by decide +kernel
theorem dX11_isLetter_6 : decode cX11_isLetter 6 = .ok (.iload_n 0, 1) := by decide +kernel
theorem dX11_isLetter_7 : decode cX11_isLetter 7 = .ok (.bipush 114, 2) := by decide +kernel
theorem dX11_isLetter_9 : decode cX11_isLetter 9 = .ok (.if_icmp .eq 39, 3) := by decide +kernel
theorem dX11_isLetter_12 : decode cX11_isLetter 12 = .ok (.iload_n 0, 1) := by decide +kernel
theorem dX11_isLetter_13 : decode cX11_isLetter 13 = .ok (.bipush 97, 2) := by decide +kernel
theorem dX11_isLetter_15 : decode cX11_isLetter 15 = .ok (.if_icmp .eq 33, 3) := by decide +kernel
theorem dX11_isLetter_18 : decode cX11_isLetter 18 = .ok (.iload_n 0, 1) := by decide +kernel
theorem dX11_isLetter_19 : decode cX11_isLetter 19 = .ok (.bipush 100, 2) := by decide +kernel
theorem dX11_isLetter_21 : decode cX11_isLetter 21 = .ok (.if_icmp .eq 27, 3) := by decide +kernel
theorem dX11_isLetter_24 : decode cX11_isLetter 24 = .ok (.iload_n 0, 1) := by decide +kernel
theorem dX11_isLetter_25 : decode cX11_isLetter 25 = .ok (.bipush 110, 2) := by decide +kernel
theorem dX11_isLetter_27 : decode cX11_isLetter 27 = .ok (.if_icmp .eq 21, 3) := by decide +kernel
theorem dX11_isLetter_30 : decode cX11_isLetter 30 = .ok (.iload_n 0, 1) := by decide +kernel
theorem dX11_isLetter_31 : decode cX11_isLetter 31 = .ok (.bipush 115, 2) := by decide +kernel
theorem dX11_isLetter_33 : decode cX11_isLetter 33 = .ok (.if_icmp .eq 15, 3) := by decide +kernel
theorem dX11_isLetter_36 : decode cX11_isLetter 36 = .ok (.iload_n 0, 1) := by decide +kernel
theorem dX11_isLetter_37 : decode cX11_isLetter 37 = .ok (.bipush 108, 2) := by decide +kernel
theorem dX11_isLetter_39 : decode cX11_isLetter 39 = .ok (.if_icmp .eq 9, 3) := by decide +kernel
theorem dX11_isLetter_42 : decode cX11_isLetter 42 = .ok (.iload_n 0, 1) := by decide +kernel
theorem dX11_isLetter_43 : decode cX11_isLetter 43 = .ok (.bipush 120, 2) := by decide +kernel
theorem dX11_isLetter_45 : decode cX11_isLetter 45 = .ok (.if_icmp .ne 7, 3) := by decide +kernel
theorem dX11_isLetter_52 : decode cX11_isLetter 52 = .ok (.iconst 0, 1) := by decide +kernel
theorem dX11_isLetter_53 : decode cX11_isLetter 53 = .ok (.ireturn, 1) := by decide +kernel
set_option maxRecDepth 20000 in
theorem ggX11_sum_X11_term : GoodIn wsX11_sum wsX11_term := goodIn_r _ [20, 1, 2, 21, 22, 23, 6, 7, 8, 9, 10, 11, 12, 13, 14, 15, 16, 17, 18, 19, 0, 3, 4, 5, 24, 25, 26, 27, 28, 29, 30, 31, 32, 33, 34, 35, 36, 37, 38, 39, 40, 41, 42, 43, 44, 45, 46, 47, 48, 49, 50, 51, 52, 53, 54, 55, 56, 57, 58, 59, 60, 61, 62, 63, 64, 65, 66, 67, 68, 69, 70, 71, 72, 73, 74, 75, 76, 77, 78, 79, 80, 81, 82, 83, 84, 85, 86, 87, 88, 89, 90, 91, 92, 93, 94, 95, 96, 97, 98, 99, 100, 101, 102, 103] (by decide +kernel) (by decide +kernel)
set_option maxRecDepth 20000 in
theorem gX11_sum_X11_term : GoodIn wsX11_sum (wsV RX11 231 RX11 yX11_term wsX11_term) := goodIn_app (goodIn_of _ (by decide +kernel)) ggX11_sum_X11_term
theorem dX11_sum_0 : decode cX11_sum 0 = .ok (.aload_n 0, 1) := by decide +kernel
theorem dX11_sum_1 : decode cX11_sum 1 = .ok (.invokevirtual 231, 3) := by decide +kernel
theorem dX11_sum_4 : decode cX11_sum 4 = .ok (.istore_n 1, 1) := by decide +kernel
theorem dX11_sum_5 : decode cX11_sum 5 = .ok (.aload_n 0, 1) := by decide +kernel
theorem dX11_sum_6 : decode cX11_sum 6 = .ok (.getfield 223, 3) := by decide +kernel
theorem dX11_sum_9 : decode cX11_sum 9 = .ok (.ifCond .eq 67, 3) := by decide +kernel
theorem dX11_sum_76 : decode cX11_sum 76 = .ok (.iload_n 1, 1) := by decide +kernel
theorem dX11_sum_77 : decode cX11_sum 77 = .ok (.ireturn, 1) := by decide +kernel
set_option maxRecDepth 20000 in
theorem ggX11_term_X11_unit : GoodIn wsX11_term wsX11_unit := goodIn_r _ [24, 1, 2, 25, 26, 7, 8, 9, 6, 10, 11, 12, 13, 14, 27, 28, 29, 15, 16, 17, 18, 19, 30, 31, 32, 33, 34, 35, 36, 37, 38, 39, 40, 20, 21, 22, 23, 0, 3, 4, 5, 41, 42, 43, 44, 45, 46, 47, 48, 49, 50, 51, 52, 53, 54, 55, 56, 57, 58, 59, 60, 61, 62, 63, 64, 65, 66, 67, 68, 69, 70, 71, 72, 73, 74, 75, 76, 77, 78, 79, 80, 81, 82, 83, 84, 85, 86, 87, 88, 89, 90, 91, 92, 93, 94, 95, 96, 97, 98, 99, 100, 101, 102, 103] (by decide +kernel) (by decide +kernel)
set_option maxRecDepth 20000 in
theorem gX11_term_X11_unit : GoodIn wsX11_term (wsV RX11 238 RX11 yX11_unit wsX11_unit) := goodIn_app (goodIn_of _ (by decide +kernel)) ggX11_term_X11_unit
theorem dX11_term_0 : decode cX11_term 0 = .ok (.aload_n 0, 1) := by decide +kernel
theorem dX11_term_1 : decode cX11_term 1 = .ok (.invokevirtual 238, 3) := by decide +kernel
theorem dX11_term_4 : decode cX11_term 4 = .ok (.istore_n 1, 1) := by decide +kernel
theorem dX11_term_5 : decode cX11_term 5 = .ok (.aload_n 0, 1) := by decide +kernel
theorem dX11_term_6 : decode cX11_term 6 = .ok (.getfield 223, 3) := by decide +kernel
theorem dX11_term_9 : decode cX11_term 9 = .ok (.ifCond .eq 78, 3) := by decide +kernel
theorem dX11_term_87 : decode cX11_term 87 = .ok (.iload_n 1, 1) := by decide +kernel
theorem dX11_term_88 : decode cX11_term 88 = .ok (.ireturn, 1) := by decide +kernel
theorem dX11_breaks_0 : decode cX11_breaks 0 = .ok (.aload_n 0, 1) := by decide +kernel
theorem dX11_breaks_1 : decode cX11_breaks 1 = .ok (.iconst 0, 1) := by decide +kernel
theorem dX11_breaks_2 : decode cX11_breaks 2 = .ok (.putfield 223, 3) := by decide +kernel
theorem dX11_breaks_5 : decode cX11_breaks 5 = .ok (.iconst 0, 1) := by decide +kernel
theorem dX11_breaks_6 : decode cX11_breaks 6 = .ok (.ireturn, 1) := by decide +kernel
set_option maxRecDepth 20000 in
theorem ggX11_unit_X11_sign : GoodIn wsX11_unit wsX11_sign := goodIn_r _ [9, 2, 10, 11, 12, 13, 41, 42, 43, 44, 45, 46, 47, 48, 49, 50, 51, 52, 53, 54, 55, 56, 57, 58, 59, 60, 61, 62, 63, 64, 65, 66, 67, 68, 69, 70, 71, 72, 73, 74, 75, 76, 77, 78, 79, 80, 81, 82, 83, 84, 85, 86, 87, 88, 89, 90, 91, 92, 93, 94, 95, 96, 97, 98, 99, 100, 101, 102, 103] (by decide +kernel) (by decide +kernel)
set_option maxRecDepth 20000 in
theorem gX11_unit_X11_sign : GoodIn wsX11_unit (wsV RX11 227 RX11 yX11_sign wsX11_sign) := goodIn_app (goodIn_of _ (by decide +kernel)) ggX11_unit_X11_sign
set_option maxRecDepth 20000 in
theorem ggX11_unit_X11_isLetter : GoodIn wsX11_unit wsX11_isLetter := goodIn_r _ [16] (by decide +kernel) (by decide +kernel)
set_option maxRecDepth 20000 in
theorem gX11_unit_X11_isLetter : GoodIn wsX11_unit (va_wsS RX11 241 yX11_isLetter wsX11_isLetter) := goodIn_app (goodIn_of _ (by decide +kernel)) ggX11_unit_X11_isLetter
set_option maxRecDepth 20000 in
theorem ggX11_unit_X11_breaks : GoodIn wsX11_unit wsX11_breaks := goodIn_r _ [25, 1, 41, 42, 43, 44, 45, 46, 47, 48, 49, 50, 51, 52, 53, 54, 55, 56, 57, 58, 59, 60, 61, 62, 63, 64, 65, 66, 67, 68, 69, 70, 71, 72, 73, 74, 75, 76, 77, 78, 79, 80, 81, 82, 83, 84, 85, 86, 87, 88, 89, 90, 91, 92, 93, 94, 95, 96, 97, 98, 99, 100, 101, 102, 103] (by decide +kernel) (by decide +kernel)
set_option maxRecDepth 20000 in
theorem gX11_unit_X11_breaks : GoodIn wsX11_unit (wsV RX11 247 RX11 yX11_breaks wsX11_breaks) := goodIn_app (goodIn_of _ (by decide +kernel)) ggX11_unit_X11_breaks
theorem dX11_unit_0 : decode cX11_unit 0 = .ok (.aload_n 0, 1) := by decide +kernel
theorem dX11_unit_1 : decode cX11_unit 1 = .ok (.getfield 223, 3) := by decide +kernel
theorem dX11_unit_4 : decode cX11_unit 4 = .ok (.ifCond .ne 5, 3) := by decide +kernel
theorem dX11_unit_9 : decode cX11_unit 9 = .ok (.aload_n 0, 1) := by decide +kernel
theorem dX11_unit_10 : decode cX11_unit 10 = .ok (.invokevirtual 227, 3) := by decide +kernel
theorem dX11_unit_13 : decode cX11_unit 13 = .ok (.istore_n 1, 1) := by decide +kernel
theorem dX11_unit_14 : decode cX11_unit 14 = .ok (.iload_n 1, 1) := by decide +kernel
theorem dX11_unit_15 : decode cX11_unit 15 = .ok (.invokestatic 241, 3) := by decide +kernel
theorem dX11_unit_18 : decode cX11_unit 18 = .ok (.ifCond .eq 24, 3) := by decide +kernel
theorem dX11_unit_42 : decode cX11_unit 42 = .ok (.iload_n 1, 1) := by decide +kernel
theorem dX11_unit_43 : decode cX11_unit 43 = .ok (.bipush 40, 2) := by decide +kernel
theorem dX11_unit_45 : decode cX11_unit 45 = .ok (.if_icmp .ne 165, 3) := by decide +kernel
theorem dX11_unit_210 : decode cX11_unit 210 = .ok (.iconst 0, 1) := by decide +kernel
theorem dX11_unit_211 : decode cX11_unit 211 = .ok (.istore_n 2, 1) := by decide +kernel
theorem dX11_unit_212 : decode cX11_unit 212 = .ok (.iconst 0, 1) := by decide +kernel
theorem dX11_unit_213 : decode cX11_unit 213 = .ok (.istore_n 3, 1) := by decide +kernel
theorem dX11_unit_214 : decode cX11_unit 214 = .ok (.iload_n 3, 1) := by decide +kernel
theorem dX11_unit_215 : decode cX11_unit 215 = .ok (.iconst 5, 1) := by decide +kernel
theorem dX11_unit_216 : decode cX11_unit 216 = .ok (.if_icmp .ge 50, 3) := by decide +kernel
theorem dX11_unit_219 : decode cX11_unit 219 = .ok (.aload_n 0, 1) := by decide +kernel
theorem dX11_unit_220 : decode cX11_unit 220 = .ok (.invokevirtual 227, 3) := by decide +kernel
theorem dX11_unit_223 : decode cX11_unit 223 = .ok (.bipush 48, 2) := by decide +kernel
theorem dX11_unit_225 : decode cX11_unit 225 = .ok (.if_icmp .lt 41, 3) := by decide +kernel
theorem dX11_unit_266 : decode cX11_unit 266 = .ok (.iload_n 3, 1) := by decide +kernel
theorem dX11_unit_267 : decode cX11_unit 267 = .ok (.ifCond .ne 10, 3) := by decide +kernel
theorem dX11_unit_270 : decode cX11_unit 270 = .ok (.aload_n 0, 1) := by decide +kernel
theorem dX11_unit_271 : decode cX11_unit 271 = .ok (.invokevirtual 247, 3) := by decide +kernel
theorem dX11_unit_274 : decode cX11_unit 274 = .ok (.goto 4, 3) := by decide +kernel
theorem dX11_unit_278 : decode cX11_unit 278 = .ok (.ireturn, 1) := by decide +kernel
set_option maxRecDepth 20000 in
theorem ggX11_goesThrough_X11_sum : GoodIn wsX11_goesThrough wsX11_sum := goodIn_r _ [10, 5, 3, 11, 12, 13, 9, 14, 15, 16, 17, 2, 1, 18, 19, 20, 21, 22, 23, 24, 25, 26, 27, 28, 29, 30, 4, 31, 32, 33, 34, 35, 36, 37, 6, 7, 8, 38, 39, 40, 41, 42, 43, 44, 45, 46, 47, 48, 49, 50, 51, 52, 53, 54, 55, 56, 57, 58, 59, 60, 61, 62, 63, 64, 65, 66, 67, 68, 69, 70, 71, 72, 73, 74, 75, 76, 77, 78, 79, 80, 81, 82, 83, 84, 85, 86, 87, 88, 89, 90, 91, 92, 93, 94, 95, 96, 97, 98, 99, 100, 101, 102, 103, 104] (by decide +kernel) (by decide +kernel)
set_option maxRecDepth 20000 in
theorem gX11_goesThrough_X11_sum : GoodIn wsX11_goesThrough (wsV RX11 250 RX11 yX11_sum wsX11_sum) := goodIn_app (goodIn_of _ (by decide +kernel)) ggX11_goesThrough_X11_sum
theorem dX11_goesThrough_0 : decode cX11_goesThrough 0 = .ok (.aload_n 0, 1) := by decide +kernel
theorem dX11_goesThrough_1 : decode cX11_goesThrough 1 = .ok (.iload_n 1, 1) := by decide +kernel
theorem dX11_goesThrough_2 : decode cX11_goesThrough 2 = .ok (.putfield 216, 3) := by decide +kernel
theorem dX11_goesThrough_5 : decode cX11_goesThrough 5 = .ok (.aload_n 0, 1) := by decide +kernel
theorem dX11_goesThrough_6 : decode cX11_goesThrough 6 = .ok (.iload_n 2, 1) := by decide +kernel
theorem dX11_goesThrough_7 : decode cX11_goesThrough 7 = .ok (.putfield 213, 3) := by decide +kernel
theorem dX11_goesThrough_10 : decode cX11_goesThrough 10 = .ok (.aload_n 0, 1) := by decide +kernel
theorem dX11_goesThrough_11 : decode cX11_goesThrough 11 = .ok (.iconst 0, 1) := by decide +kernel
theorem dX11_goesThrough_12 : decode cX11_goesThrough 12 = .ok (.putfield 210, 3) := by decide +kernel
theorem dX11_goesThrough_15 : decode cX11_goesThrough 15 = .ok (.aload_n 0, 1) := by decide +kernel
theorem dX11_goesThrough_16 : decode cX11_goesThrough 16 = .ok (.iconst 0, 1) := by decide +kernel
theorem dX11_goesThrough_17 : decode cX11_goesThrough 17 = .ok (.putfield 244, 3) := by decide +kernel
theorem dX11_goesThrough_20 : decode cX11_goesThrough 20 = .ok (.aload_n 0, 1) := by decide +kernel
theorem dX11_goesThrough_21 : decode cX11_goesThrough 21 = .ok (.iconst 1, 1) := by decide +kernel
theorem dX11_goesThrough_22 : decode cX11_goesThrough 22 = .ok (.putfield 223, 3) := by decide +kernel
theorem dX11_goesThrough_25 : decode cX11_goesThrough 25 = .ok (.aload_n 0, 1) := by decide +kernel
theorem dX11_goesThrough_26 : decode cX11_goesThrough 26 = .ok (.invokevirtual 250, 3) := by decide +kernel
theorem dX11_goesThrough_29 : decode cX11_goesThrough 29 = .ok (.ireturn, 1) := by decide +kernel
set_option maxRecDepth 20000 in
theorem ggX11_act_X11_isIn : GoodIn wsX11_act wsX11_isIn := goodIn_r _ [14] (by decide +kernel) (by decide +kernel)
set_option maxRecDepth 20000 in
theorem gX11_act_X11_isIn : GoodIn wsX11_act (va_wsS RX11 161 yX11_isIn wsX11_isIn) := goodIn_app (goodIn_of _ (by decide +kernel)) ggX11_act_X11_isIn
set_option maxRecDepth 20000 in
theorem ggX11_act_X11_refuse : GoodIn wsX11_act wsX11_refuse := goodIn_r _ [18, 19, 60, 61, 62, 63, 64, 65, 66, 67, 68, 69, 70, 71, 72, 73, 74, 75, 76, 77, 78, 79, 80, 81, 82, 83, 84, 85, 86, 87, 88, 89, 90, 91, 92, 93, 94, 95, 96, 97, 98, 99, 100, 101, 102, 103, 104, 105, 106, 107, 108, 109, 110, 111, 112, 113, 114, 115, 116, 117, 118, 119, 120, 121, 122] (by decide +kernel) (by decide +kernel)
set_option maxRecDepth 20000 in
theorem gX11_act_X11_refuse : GoodIn wsX11_act (wsV RX11 153 RX11 yX11_refuse wsX11_refuse) := goodIn_app (goodIn_of _ (by decide +kernel)) ggX11_act_X11_refuse
set_option maxRecDepth 20000 in
theorem ggX11_act_X11_goesThrough : GoodIn wsX11_act wsX11_goesThrough := goodIn_r _ [23, 24, 25, 5, 26, 4, 27, 28, 29, 13, 30, 31, 32, 33, 34, 35, 36, 37, 7, 6, 38, 39, 40, 41, 42, 43, 44, 45, 46, 47, 48, 49, 50, 51, 52, 53, 54, 55, 56, 57, 58, 59, 60, 61, 62, 63, 64, 65, 66, 67, 68, 69, 70, 71, 72, 73, 74, 75, 76, 77, 78, 79, 80, 81, 82, 83, 84, 85, 86, 87, 88, 89, 90, 91, 92, 93, 94, 95, 96, 97, 98, 99, 100, 101, 102, 103, 104, 105, 106, 107, 108, 109, 110, 111, 112, 113, 114, 115, 116, 117, 118, 119, 120, 121, 122] (by decide +kernel) (by decide +kernel)
set_option maxRecDepth 20000 in
theorem gX11_act_X11_goesThrough : GoodIn wsX11_act (wsV RX11 259 RX11 yX11_goesThrough wsX11_goesThrough) := goodIn_app (goodIn_of _ (by decide +kernel)) ggX11_act_X11_goesThrough
theorem dX11_act_0 : decode cX11_act 0 = .ok (.iload_n 1, 1) := by decide +kernel
theorem dX11_act_1 : decode cX11_act 1 = .ok (.iconst 5, 1) := by decide +kernel
theorem dX11_act_2 : decode cX11_act 2 = .ok (.invokestatic 161, 3) := by decide +kernel
theorem dX11_act_5 : decode cX11_act 5 = .ok (.ifCond .ne 10, 3) := by decide +kernel
theorem dX11_act_8 : decode cX11_act 8 = .ok (.aload_n 0, 1) := by decide +kernel
theorem dX11_act_9 : decode cX11_act 9 = .ok (.bipush (-2), 2) := by decide +kernel
theorem dX11_act_11 : decode cX11_act 11 = .ok (.invokevirtual 153, 3) := by decide +kernel
theorem dX11_act_14 : decode cX11_act 14 = .ok (.ireturn, 1) := by decide +kernel
theorem dX11_act_15 : decode cX11_act 15 = .ok (.iload_n 2, 1) := by decide +kernel
theorem dX11_act_16 : decode cX11_act 16 = .ok (.aload_n 0, 1) := by decide +kernel
theorem dX11_act_17 : decode cX11_act 17 = .ok (.getfield 171, 3) := by decide +kernel
theorem dX11_act_20 : decode cX11_act 20 = .ok (.if_icmp .ge 10, 3) := by decide +kernel
theorem dX11_act_23 : decode cX11_act 23 = .ok (.aload_n 0, 1) := by decide +kernel
theorem dX11_act_24 : decode cX11_act 24 = .ok (.bipush (-4), 2) := by decide +kernel
theorem dX11_act_26 : decode cX11_act 26 = .ok (.invokevirtual 153, 3) := by decide +kernel
theorem dX11_act_29 : decode cX11_act 29 = .ok (.ireturn, 1) := by decide +kernel
theorem dX11_act_30 : decode cX11_act 30 = .ok (.iload_n 2, 1) := by decide +kernel
theorem dX11_act_31 : decode cX11_act 31 = .ok (.sipush 3000, 3) := by decide +kernel
theorem dX11_act_34 : decode cX11_act 34 = .ok (.if_icmp .gt 12, 3) := by decide +kernel
theorem dX11_act_37 : decode cX11_act 37 = .ok (.aload_n 0, 1) := by decide +kernel
theorem dX11_act_38 : decode cX11_act 38 = .ok (.getfield 256, 3) := by decide +kernel
theorem dX11_act_41 : decode cX11_act 41 = .ok (.bipush 30, 2) := by decide +kernel
theorem dX11_act_43 : decode cX11_act 43 = .ok (.if_icmp .ne 10, 3) := by decide +kernel
theorem dX11_act_46 : decode cX11_act 46 = .ok (.aload_n 0, 1) := by decide +kernel
theorem dX11_act_47 : decode cX11_act 47 = .ok (.bipush (-6), 2) := by decide +kernel
theorem dX11_act_49 : decode cX11_act 49 = .ok (.invokevirtual 153, 3) := by decide +kernel
theorem dX11_act_52 : decode cX11_act 52 = .ok (.ireturn, 1) := by decide +kernel
theorem dX11_act_53 : decode cX11_act 53 = .ok (.aload_n 0, 1) := by decide +kernel
theorem dX11_act_54 : decode cX11_act 54 = .ok (.iconst (-1), 1) := by decide +kernel
theorem dX11_act_55 : decode cX11_act 55 = .ok (.aload_n 0, 1) := by decide +kernel
theorem dX11_act_56 : decode cX11_act 56 = .ok (.getfield 205, 3) := by decide +kernel
theorem dX11_act_59 : decode cX11_act 59 = .ok (.invokevirtual 259, 3) := by decide +kernel
theorem dX11_act_62 : decode cX11_act 62 = .ok (.istore_n 3, 1) := by decide +kernel
theorem dX11_act_63 : decode cX11_act 63 = .ok (.aload_n 0, 1) := by decide +kernel
theorem dX11_act_64 : decode cX11_act 64 = .ok (.getfield 223, 3) := by decide +kernel
theorem dX11_act_67 : decode cX11_act 67 = .ok (.ifCond .eq 18, 3) := by decide +kernel
theorem dX11_act_85 : decode cX11_act 85 = .ok (.iconst 0, 1) := by decide +kernel
theorem dX11_act_86 : decode cX11_act 86 = .ok (.istore 4, 2) := by decide +kernel
theorem dX11_act_88 : decode cX11_act 88 = .ok (.aload_n 0, 1) := by decide +kernel
theorem dX11_act_89 : decode cX11_act 89 = .ok (.getfield 205, 3) := by decide +kernel
theorem dX11_act_92 : decode cX11_act 92 = .ok (.istore 5, 2) := by decide +kernel
theorem dX11_act_94 : decode cX11_act 94 = .ok (.aload_n 0, 1) := by decide +kernel
theorem dX11_act_95 : decode cX11_act 95 = .ok (.iconst 0, 1) := by decide +kernel
theorem dX11_act_96 : decode cX11_act 96 = .ok (.putfield 205, 3) := by decide +kernel
theorem dX11_act_99 : decode cX11_act 99 = .ok (.iload 4, 2) := by decide +kernel
theorem dX11_act_101 : decode cX11_act 101 = .ok (.ifCond .ne 11, 3) := by decide +kernel
theorem dX11_act_104 : decode cX11_act 104 = .ok (.bipush (-20), 2) := by decide +kernel
theorem dX11_act_106 : decode cX11_act 106 = .ok (.aload_n 0, 1) := by decide +kernel
theorem dX11_act_107 : decode cX11_act 107 = .ok (.getfield 210, 3) := by decide +kernel
theorem dX11_act_110 : decode cX11_act 110 = .ok (.isub, 1) := by decide +kernel
theorem dX11_act_111 : decode cX11_act 111 = .ok (.ireturn, 1) := by decide +kernel
theorem dX11_put_0 : decode cX11_put 0 = .ok (.aload_n 0, 1) := by decide +kernel
theorem dX11_put_1 : decode cX11_put 1 = .ok (.getfield 357, 3) := by decide +kernel
theorem dX11_put_4 : decode cX11_put 4 = .ok (.bipush 12, 2) := by decide +kernel
theorem dX11_put_6 : decode cX11_put 6 = .ok (.if_icmp .ne 10, 3) := by decide +kernel
theorem dX11_put_16 : decode cX11_put 16 = .ok (.aload_n 0, 1) := by decide +kernel
theorem dX11_put_17 : decode cX11_put 17 = .ok (.getfield 149, 3) := by decide +kernel
theorem dX11_put_20 : decode cX11_put 20 = .ok (.aload_n 0, 1) := by decide +kernel
theorem dX11_put_21 : decode cX11_put 21 = .ok (.getfield 357, 3) := by decide +kernel
theorem dX11_put_24 : decode cX11_put 24 = .ok (.iload_n 1, 1) := by decide +kernel
theorem dX11_put_25 : decode cX11_put 25 = .ok (.iastore, 1) := by decide +kernel
theorem dX11_put_26 : decode cX11_put 26 = .ok (.aload_n 0, 1) := by decide +kernel
theorem dX11_put_27 : decode cX11_put 27 = .ok (.dup, 1) := by decide +kernel
theorem dX11_put_28 : decode cX11_put 28 = .ok (.getfield 357, 3) := by decide +kernel
theorem dX11_put_31 : decode cX11_put 31 = .ok (.iconst 1, 1) := by decide +kernel
theorem dX11_put_32 : decode cX11_put 32 = .ok (.iadd, 1) := by decide +kernel
theorem dX11_put_33 : decode cX11_put 33 = .ok (.putfield 357, 3) := by decide +kernel
theorem dX11_put_36 : decode cX11_put 36 = .ok (.aload_n 0, 1) := by decide +kernel
theorem dX11_put_37 : decode cX11_put 37 = .ok (.getfield 357, 3) := by decide +kernel
theorem dX11_put_40 : decode cX11_put 40 = .ok (.ireturn, 1) := by decide +kernel
theorem dX11_count_0 : decode cX11_count 0 = .ok (.iload_n 1, 1) := by decide +kernel
theorem dX11_count_1 : decode cX11_count 1 = .ok (.bipush 10, 2) := by decide +kernel
theorem dX11_count_3 : decode cX11_count 3 = .ok (.if_icmp .le 19, 3) := by decide +kernel
theorem dX11_count_6 : decode cX11_count 6 = .ok (.iload_n 1, 1) := by decide +kernel
theorem dX11_count_7 : decode cX11_count 7 = .ok (.bipush 17, 2) := by decide +kernel
theorem dX11_count_9 : decode cX11_count 9 = .ok (.if_icmp .ge 13, 3) := by decide +kernel
theorem dX11_count_12 : decode cX11_count 12 = .ok (.aload_n 0, 1) := by decide +kernel
theorem dX11_count_13 : decode cX11_count 13 = .ok (.getfield 7, 3) := by decide +kernel
theorem dX11_count_16 : decode cX11_count 16 = .ok (.iload_n 1, 1) := by decide +kernel
theorem dX11_count_17 : decode cX11_count 17 = .ok (.bipush 10, 2) := by decide +kernel
theorem dX11_count_19 : decode cX11_count 19 = .ok (.isub, 1) := by decide +kernel
theorem dX11_count_20 : decode cX11_count 20 = .ok (.iaload, 1) := by decide +kernel
theorem dX11_count_21 : decode cX11_count 21 = .ok (.ireturn, 1) := by decide +kernel
theorem dX11_count_22 : decode cX11_count 22 = .ok (.iconst 0, 1) := by decide +kernel
theorem dX11_count_23 : decode cX11_count 23 = .ok (.istore_n 2, 1) := by decide +kernel
theorem dX11_count_24 : decode cX11_count 24 = .ok (.iload_n 1, 1) := by decide +kernel
theorem dX11_count_25 : decode cX11_count 25 = .ok (.tableswitch 230 0 17 #[87, 92, 97, 102, 137, 142, 176, 181, 186, 191, 230, 230, 230, 230, 230, 230, 230, 196], 87) := by decide +kernel
theorem dX11_count_112 : decode cX11_count 112 = .ok (.aload_n 0, 1) := by decide +kernel
theorem dX11_count_113 : decode cX11_count 113 = .ok (.getfield 171, 3) := by decide +kernel
theorem dX11_count_116 : decode cX11_count 116 = .ok (.ireturn, 1) := by decide +kernel
theorem dX11_count_117 : decode cX11_count 117 = .ok (.aload_n 0, 1) := by decide +kernel
theorem dX11_count_118 : decode cX11_count 118 = .ok (.getfield 157, 3) := by decide +kernel
theorem dX11_count_121 : decode cX11_count 121 = .ok (.ireturn, 1) := by decide +kernel
theorem dX11_count_122 : decode cX11_count 122 = .ok (.aload_n 0, 1) := by decide +kernel
theorem dX11_count_123 : decode cX11_count 123 = .ok (.getfield 165, 3) := by decide +kernel
theorem dX11_count_126 : decode cX11_count 126 = .ok (.ireturn, 1) := by decide +kernel
theorem dX11_count_127 : decode cX11_count 127 = .ok (.iconst 0, 1) := by decide +kernel
theorem dX11_count_128 : decode cX11_count 128 = .ok (.istore_n 3, 1) := by decide +kernel
theorem dX11_count_129 : decode cX11_count 129 = .ok (.iload_n 3, 1) := by decide +kernel
theorem dX11_count_130 : decode cX11_count 130 = .ok (.aload_n 0, 1) := by decide +kernel
theorem dX11_count_131 : decode cX11_count 131 = .ok (.getfield 165, 3) := by decide +kernel
theorem dX11_count_134 : decode cX11_count 134 = .ok (.if_icmp .ge 26, 3) := by decide +kernel
theorem dX11_count_160 : decode cX11_count 160 = .ok (.iload_n 2, 1) := by decide +kernel
theorem dX11_count_161 : decode cX11_count 161 = .ok (.ireturn, 1) := by decide +kernel
theorem dX11_count_162 : decode cX11_count 162 = .ok (.aload_n 0, 1) := by decide +kernel
theorem dX11_count_163 : decode cX11_count 163 = .ok (.getfield 168, 3) := by decide +kernel
theorem dX11_count_166 : decode cX11_count 166 = .ok (.ireturn, 1) := by decide +kernel
theorem dX11_count_167 : decode cX11_count 167 = .ok (.iconst 0, 1) := by decide +kernel
theorem dX11_count_168 : decode cX11_count 168 = .ok (.istore_n 3, 1) := by decide +kernel
theorem dX11_count_169 : decode cX11_count 169 = .ok (.iload_n 3, 1) := by decide +kernel
theorem dX11_count_170 : decode cX11_count 170 = .ok (.aload_n 0, 1) := by decide +kernel
theorem dX11_count_171 : decode cX11_count 171 = .ok (.getfield 168, 3) := by decide +kernel
theorem dX11_count_174 : decode cX11_count 174 = .ok (.if_icmp .ge 25, 3) := by decide +kernel
theorem dX11_count_199 : decode cX11_count 199 = .ok (.iload_n 2, 1) := by decide +kernel
theorem dX11_count_200 : decode cX11_count 200 = .ok (.ireturn, 1) := by decide +kernel
theorem dX11_count_201 : decode cX11_count 201 = .ok (.aload_n 0, 1) := by decide +kernel
theorem dX11_count_202 : decode cX11_count 202 = .ok (.getfield 179, 3) := by decide +kernel
theorem dX11_count_205 : decode cX11_count 205 = .ok (.ireturn, 1) := by decide +kernel
theorem dX11_count_206 : decode cX11_count 206 = .ok (.aload_n 0, 1) := by decide +kernel
theorem dX11_count_207 : decode cX11_count 207 = .ok (.getfield 256, 3) := by decide +kernel
theorem dX11_count_210 : decode cX11_count 210 = .ok (.ireturn, 1) := by decide +kernel
theorem dX11_count_211 : decode cX11_count 211 = .ok (.aload_n 0, 1) := by decide +kernel
theorem dX11_count_212 : decode cX11_count 212 = .ok (.getfield 205, 3) := by decide +kernel
theorem dX11_count_215 : decode cX11_count 215 = .ok (.ireturn, 1) := by decide +kernel
theorem dX11_count_216 : decode cX11_count 216 = .ok (.aload_n 0, 1) := by decide +kernel
theorem dX11_count_217 : decode cX11_count 217 = .ok (.getfield 357, 3) := by decide +kernel
theorem dX11_count_220 : decode cX11_count 220 = .ok (.ireturn, 1) := by decide +kernel
theorem dX11_count_221 : decode cX11_count 221 = .ok (.iconst 0, 1) := by decide +kernel
theorem dX11_count_222 : decode cX11_count 222 = .ok (.istore_n 3, 1) := by decide +kernel
theorem dX11_count_223 : decode cX11_count 223 = .ok (.iload_n 3, 1) := by decide +kernel
theorem dX11_count_224 : decode cX11_count 224 = .ok (.aload_n 0, 1) := by decide +kernel
theorem dX11_count_225 : decode cX11_count 225 = .ok (.getfield 157, 3) := by decide +kernel
theorem dX11_count_228 : decode cX11_count 228 = .ok (.if_icmp .ge 25, 3) := by decide +kernel
theorem dX11_count_253 : decode cX11_count 253 = .ok (.iload_n 2, 1) := by decide +kernel
theorem dX11_count_254 : decode cX11_count 254 = .ok (.ireturn, 1) := by decide +kernel
theorem dX11_count_255 : decode cX11_count 255 = .ok (.bipush (-9), 2) := by decide +kernel
theorem dX11_count_257 : decode cX11_count 257 = .ok (.ireturn, 1) := by decide +kernel
theorem in_wsX11_days_X11 : ∀ w ∈ wsX110, w ∈ wsX11_days := fun w h => List.mem_cons_of_mem _ (List.mem_append_right _ h)
theorem in_wsX11_miles_X11 : ∀ w ∈ wsX110, w ∈ wsX11_miles := fun w h => List.mem_cons_of_mem _ (List.mem_append_right _ h)
theorem in_wsX11_man_X11 : ∀ w ∈ wsX110, w ∈ wsX11_man := fun w h => List.mem_cons_of_mem _ (List.mem_append_right _ h)
theorem in_wsX11_voyage_X11 : ∀ w ∈ wsX110, w ∈ wsX11_voyage := fun w h => List.mem_cons_of_mem _ (List.mem_append_right _ h)
theorem in_wsX11_put_X11 : ∀ w ∈ wsX110, w ∈ wsX11_put := fun w h => List.mem_cons_of_mem _ (List.mem_append_right _ h)
theorem in_wsX11_count_X11 : ∀ w ∈ wsX110, w ∈ wsX11_count := fun w h => List.mem_cons_of_mem _ (List.mem_append_right _ h)
theorem in_wsX11_feed_X11 : ∀ w ∈ wsX110, w ∈ wsX11_feed := fun w h => List.mem_cons_of_mem _ (List.mem_append_right _ h)
theorem in_wsX11_sign_X11 : ∀ w ∈ wsX110, w ∈ wsX11_sign := fun w h => List.mem_cons_of_mem _ (List.mem_append_right _ h)
theorem in_wsX11_breaks_X11 : ∀ w ∈ wsX110, w ∈ wsX11_breaks := fun w h => List.mem_cons_of_mem _ (List.mem_append_right _ h)
theorem in_wsX11_unit_X11 : ∀ w ∈ wsX110, w ∈ wsX11_unit := fun w h => List.mem_cons_of_mem _ (List.mem_append_right _ h)
theorem in_wsX11_term_X11 : ∀ w ∈ wsX110, w ∈ wsX11_term := fun w h => List.mem_cons_of_mem _ (List.mem_append_right _ h)
theorem in_wsX11_sum_X11 : ∀ w ∈ wsX110, w ∈ wsX11_sum := fun w h => List.mem_cons_of_mem _ (List.mem_append_right _ h)
theorem in_wsX11_goesThrough_X11 : ∀ w ∈ wsX110, w ∈ wsX11_goesThrough := fun w h => List.mem_cons_of_mem _ (List.mem_append_right _ h)
theorem in_wsX11_act_X11 : ∀ w ∈ wsX110, w ∈ wsX11_act := fun w h => List.mem_cons_of_mem _ (List.mem_append_right _ h)
theorem ile_of_lt {a b d : Int32} (h : a < b) (h3 : b.toInt ≤ d.toInt) : a ≤ d := by
  rw [i_lt] at h
  rw [i_le]
  omega
set_option maxHeartbeats 4000000 in
set_option maxRecDepth 100000 in
theorem c_X11_days (l : Launch) (dC : Nat → ClassId) (dI : Nat → Nat → Nat) (sz : Nat) (g0 : Nat) (pq : Nat → Nat) (cp : Nat → ClassId) (a1 : Int32) : Met l yX11_days wsX11_days ({ frames := 1, cells := 0, slots := 0, locals := 21 }) (va_Pc [.ref g0, .int a1] (pcW (dC, dI) [((cp 0), .int)] [(g0, .inr (11, mF pq)), ((pq 0), .inl ((cp 0), 7, .inl (fun _ => 0)))] sz)) (va_Qi (fun (r : Int32) (u : Unit) => r = sp_days a1) (fun _ _ => True) (va_A [(g0, .inr (11, mF pq)), ((pq 0), .inl ((cp 0), 7, .inl (fun _ => 0)))] sz)) 0 0 (va_A [(g0, .inr (11, mF pq)), ((pq 0), .inl ((cp 0), 7, .inl (fun _ => 0)))] sz) := by
  refine Met.ofW (cc := cX11_days) (maxL := 2) (ret := (some .int)) (by decide) rfl ?_
  intro p e s m args below meth c s₁ B hml hv
  obtain ⟨rfl, hsz, hP, hK, hD0⟩ := hv
  have hx := B.exec
  have hb := B.bytes
  have hr := B.returns
  have hts := atoms_spec (ws := wsX11_days) B.pre
  have hown : s.vm.findClass RX11 = some m.cls := findClass_of_methodNamed B.named
  have hlocks := B.notSynchronized
  subst hsz
  have hD := hD0.self (sz := s.heap.size)
  generalize hAe : va_A [(g0, .inr (11, mF pq)), ((pq 0), .inl ((cp 0), 7, .inl (fun _ => 0)))] s.heap.size = A at hD ⊢
  have hA : ∀ q : Nat, s.heap.size ≤ q → A q := fun q h => by rw [← hAe]; exact Or.inr h
  have hS : va_S A s.heap s.heap [] := va_S.rf
  have hP : va_P (dC, dI) vwCl [(g0, .inr (11, mF pq)), ((pq 0), .inl ((cp 0), 7, .inl (fun _ => 0)))] s.heap := hP
  have hl := lv_entry ([.ref g0, .int a1]) (n := 2) (Nat.le_of_ble_eq_true rfl)
  rw [lg_entry_eq]
  generalize (lg_sl ([.ref g0, .int a1]) ++ List.replicate (2 - (lg_sl ([.ref g0, .int a1])).length) Slot.unset).toArray = ls at hl ⊢
  have hl : lv_has ls 2 [(0, .ref g0), (1, .int a1)] := hl
  refine lv_iload_n hx hb dX11_days_0 rfl (lv_at hl 1 rfl) ?_
  refine lv_iconst (v := 1) hx hb dX11_days_1 (by decide) ?_
  refine lv_icmp_ge (tgt := 12) hx hb dX11_days_2 (by decide) (fun c_1 => ?_) (fun c_1 => ?_)
  · refine lv_iload_n hx hb dX11_days_12 rfl (lv_at hl 1 rfl) ?_
    refine lv_sipush (v := 3000) hx hb dX11_days_13 (by decide) ?_
    refine lv_aload_n hx hb dX11_days_16 rfl (lv_at hl 0 rfl) ?_
    refine va_get (D := (dC, dI)) (ci := 11) (v := .int 0) (C := RX11) (T := TX11) (N := 63) hx hb hts in_wsX11_days_X11 hown hK hP 0 rfl rfl 38 (by decide) (hts (.fieldLink RX11 171 "ShipOfficeModel" "now" "I") (by decide +kernel)) (fun _ h9 => h9) rfl dX11_days_17 ?_
    refine lv_isub hx hb dX11_days_20 ?_
    refine lv_topi (fun y ey => ?_)
    obtain rfl : y = 3000 := ey.trans (by decide)
    refine lv_icmp_le (tgt := 31) hx hb dX11_days_21 (by decide) (fun c_2 => ?_) (fun c_2 => ?_)
    · refine lv_aload_n hx hb dX11_days_31 rfl (lv_at hl 0 rfl) ?_
      refine lv_dup hx hb dX11_days_32 rfl ?_
      refine va_get (D := (dC, dI)) (ci := 11) (v := .int 0) (C := RX11) (T := TX11) (N := 63) hx hb hts in_wsX11_days_X11 hown hK hP 0 rfl rfl 38 (by decide) (hts (.fieldLink RX11 171 "ShipOfficeModel" "now" "I") (by decide +kernel)) (fun _ h9 => h9) rfl dX11_days_33 ?_
      refine lv_iload_n hx hb dX11_days_36 rfl (lv_at hl 1 rfl) ?_
      refine lv_iadd hx hb dX11_days_37 ?_
      refine va_put (D := (dC, dI)) (ci := 11) (v := .int (0 + a1)) (ty := .int) (C := RX11) (T := TX11) (N := 63) hx hb hts in_wsX11_days_X11 tyX11 tyX11_ok nmX11 hown hK hP hD hS 0 rfl rfl 38 (by decide) (hts (.fieldLink RX11 171 "ShipOfficeModel" "now" "I") (by decide +kernel)) (fun _ h9 => h9) rfl (by decide +kernel) rfl rfl (Nat.le_of_ble_eq_true rfl) dX11_days_38 (fun H locs hP hD hS => ?_)
      have hP : va_P (dC, dI) vwCl [(g0, .inr (11, ((mF pq).set 38 (.int (0 + a1))))), ((pq 0), .inl ((cp 0), 7, .inl (fun _ => 0)))] H := hP
      have hD : va_D A [(g0, .inr (11, ((mF pq).set 38 (.int (0 + a1))))), ((pq 0), .inl ((cp 0), 7, .inl (fun _ => 0)))] := hD
      refine lv_aload_n hx hb dX11_days_41 rfl (lv_at hl 0 rfl) ?_
      refine va_get (D := (dC, dI)) (ci := 11) (v := .int (0 + a1)) (C := RX11) (T := TX11) (N := 63) hx hb hts in_wsX11_days_X11 hown hK hP 0 rfl rfl 38 (by decide) (hts (.fieldLink RX11 171 "ShipOfficeModel" "now" "I") (by decide +kernel)) (fun _ h9 => h9) rfl dX11_days_42 ?_
      exact W.iret (v := (0 + a1)) hx hb hr (fun t ht hW => ⟨⟨(0 + a1), (), rfl, (by simp [sp_days, c_1, c_2]), trivial⟩, hS.F ht⟩) hS.2.2 dX11_days_45
    · refine lv_aload_n hx hb dX11_days_24 rfl (lv_at hl 0 rfl) ?_
      refine lv_bipush (v := (-6)) hx hb dX11_days_25 (by decide) ?_
      have hPc := hP.sub (ws' := [(g0, .inr (11, mF pq)), ((pq 0), .inl ((cp 0), 7, .inl (fun _ => 0)))]) [0, 1] rfl
      have hDc := hD.sub (ws' := [(g0, .inr (11, mF pq)), ((pq 0), .inl ((cp 0), 7, .inl (fun _ => 0)))]) [0, 1] (by decide) rfl
      have hKc := hK.sub (tys' := [((cp 0), .int)]) [0] rfl
      have hFc := va_free (wc := [(g0, .inr (11, mF pq)), ((pq 0), .inl ((cp 0), 7, .inl (fun _ => 0)))]) hD hS hA [0, 1] rfl
      refine va_calli (va_runV (As := [.int (-6)]) (rest := []) ⟨hx, hb, hml, hown, hts⟩ (c_X11_refuse l dC dI s.heap.size g0 pq cp (-6) (by unfold vp_in; decide)) (cwV 1 hts gX11_days_X11_refuse rfl rfl rfl (by decide +kernel) ⟨(Nat.le_of_ble_eq_true rfl), (Nat.le_of_ble_eq_true rfl)⟩) (pr_V (r := (RX11, TX11, 63)) hPc hKc hDc 0 11 rfl rfl) rfl rfl hl.1 rfl (lv_room (Nat.le_of_ble_eq_true rfl)) dX11_days_27 ⟨(Nat.le_of_ble_eq_true rfl), (Nat.le_of_ble_eq_true rfl)⟩) hS (fun q _ h => hFc q h) hFc (fun r_4 u t H locs ht hvm w_3 hB hz1 hk1 hS => ?_)
      subst w_3
      exact W.iret (v := (-6)) hx hb hr (fun t ht hW => ⟨⟨(-6), (), rfl, (by simp [sp_days, c_1, c_2]), trivial⟩, hS.F ht⟩) hS.2.2 dX11_days_30
  · refine lv_aload_n hx hb dX11_days_5 rfl (lv_at hl 0 rfl) ?_
    refine lv_bipush (v := (-4)) hx hb dX11_days_6 (by decide) ?_
    have hPc := hP.sub (ws' := [(g0, .inr (11, mF pq)), ((pq 0), .inl ((cp 0), 7, .inl (fun _ => 0)))]) [0, 1] rfl
    have hDc := hD.sub (ws' := [(g0, .inr (11, mF pq)), ((pq 0), .inl ((cp 0), 7, .inl (fun _ => 0)))]) [0, 1] (by decide) rfl
    have hKc := hK.sub (tys' := [((cp 0), .int)]) [0] rfl
    have hFc := va_free (wc := [(g0, .inr (11, mF pq)), ((pq 0), .inl ((cp 0), 7, .inl (fun _ => 0)))]) hD hS hA [0, 1] rfl
    refine va_calli (va_runV (As := [.int (-4)]) (rest := []) ⟨hx, hb, hml, hown, hts⟩ (c_X11_refuse l dC dI s.heap.size g0 pq cp (-4) (by unfold vp_in; decide)) (cwV 1 hts gX11_days_X11_refuse rfl rfl rfl (by decide +kernel) ⟨(Nat.le_of_ble_eq_true rfl), (Nat.le_of_ble_eq_true rfl)⟩) (pr_V (r := (RX11, TX11, 63)) hPc hKc hDc 0 11 rfl rfl) rfl rfl hl.1 rfl (lv_room (Nat.le_of_ble_eq_true rfl)) dX11_days_8 ⟨(Nat.le_of_ble_eq_true rfl), (Nat.le_of_ble_eq_true rfl)⟩) hS (fun q _ h => hFc q h) hFc (fun r_6 u t H locs ht hvm w_5 hB hz1 hk1 hS => ?_)
    subst w_5
    exact W.iret (v := (-4)) hx hb hr (fun t ht hW => ⟨⟨(-4), (), rfl, (by simp [sp_days, c_1]), trivial⟩, hS.F ht⟩) hS.2.2 dX11_days_11
set_option maxHeartbeats 4000000 in
set_option maxRecDepth 100000 in
theorem c_X11_miles (l : Launch) (dC : Nat → ClassId) (dI : Nat → Nat → Nat) (sz : Nat) (g0 : Nat) (pq : Nat → Nat) (cp : Nat → ClassId) (a1 : Int32) (a2 : Int32) (a3 : Int32) : Met l yX11_miles wsX11_miles ({ frames := 2, cells := 0, slots := 0, locals := 41 }) (va_Pc [.ref g0, .int a1, .int a2, .int a3] (pcW (dC, dI) [((cp 0), .int), ((cp 1), .int)] [(g0, .inr (11, mF pq)), ((pq 0), .inl ((cp 0), 7, .inl (fun _ => 0))), ((pq 1), .inl ((cp 1), 100, .inl (fun _ => 0)))] sz)) (va_Qi (fun (r : Int32) (u : Unit) => r = sp_miles a1 a2 a3) (fun _ _ => True) (va_A [(g0, .inr (11, mF pq)), ((pq 0), .inl ((cp 0), 7, .inl (fun _ => 0))), ((pq 1), .inl ((cp 1), 100, .inl (fun _ => 0)))] sz)) 0 0 (va_A [(g0, .inr (11, mF pq)), ((pq 0), .inl ((cp 0), 7, .inl (fun _ => 0))), ((pq 1), .inl ((cp 1), 100, .inl (fun _ => 0)))] sz) := by
  refine Met.ofW (cc := cX11_miles) (maxL := 5) (ret := (some .int)) (by decide) rfl ?_
  intro p e s m args below meth c s₁ B hml hv
  obtain ⟨rfl, hsz, hP, hK, hD0⟩ := hv
  have hx := B.exec
  have hb := B.bytes
  have hr := B.returns
  have hts := atoms_spec (ws := wsX11_miles) B.pre
  have hown : s.vm.findClass RX11 = some m.cls := findClass_of_methodNamed B.named
  have hlocks := B.notSynchronized
  subst hsz
  have hD := hD0.self (sz := s.heap.size)
  generalize hAe : va_A [(g0, .inr (11, mF pq)), ((pq 0), .inl ((cp 0), 7, .inl (fun _ => 0))), ((pq 1), .inl ((cp 1), 100, .inl (fun _ => 0)))] s.heap.size = A at hD ⊢
  have hA : ∀ q : Nat, s.heap.size ≤ q → A q := fun q h => by rw [← hAe]; exact Or.inr h
  have hS : va_S A s.heap s.heap [] := va_S.rf
  have hP : va_P (dC, dI) vwCl [(g0, .inr (11, mF pq)), ((pq 0), .inl ((cp 0), 7, .inl (fun _ => 0))), ((pq 1), .inl ((cp 1), 100, .inl (fun _ => 0)))] s.heap := hP
  have hl := lv_entry ([.ref g0, .int a1, .int a2, .int a3]) (n := 5) (Nat.le_of_ble_eq_true rfl)
  rw [lg_entry_eq]
  generalize (lg_sl ([.ref g0, .int a1, .int a2, .int a3]) ++ List.replicate (5 - (lg_sl ([.ref g0, .int a1, .int a2, .int a3])).length) Slot.unset).toArray = ls at hl ⊢
  have hl : lv_has ls 5 [(0, .ref g0), (1, .int a1), (2, .int a2), (3, .int a3)] := hl
  refine lv_iload_n hx hb dX11_miles_0 rfl (lv_at hl 1 rfl) ?_
  have hPc := hP.sub (ws' := []) [] rfl
  have hDc := hD.sub (ws' := []) [] (by decide) rfl
  have hKc := hK.sub (tys' := []) [] rfl
  have hFc : ∀ q, va_A [] s.heap.size q → A q := pu_free hS hA
  refine va_calli (va_runS (As := [.int a1]) (rest := []) ⟨hx, hb, hml, hown, hts⟩ (c_X11_isPort l dC dI s.heap.size a1) (va_cwS 1 hts gX11_miles_X11_isPort rfl rfl rfl (by decide +kernel) ⟨(Nat.le_of_ble_eq_true rfl), (Nat.le_of_ble_eq_true rfl)⟩) (pr_S hPc hKc hDc) rfl rfl hl.1 rfl (lv_room (Nat.le_of_ble_eq_true rfl)) dX11_miles_1 ⟨(Nat.le_of_ble_eq_true rfl), (Nat.le_of_ble_eq_true rfl)⟩) hS (fun q _ h => hFc q h) hFc (fun r_2 u t H locs ht hvm w_1 hB hz1 hk1 hS => ?_)
  have hP := pu_keep hP hk1
  clear hk1 hz1 hvm hB hPc hDc hKc hFc ht
  subst w_1
  refine lv_if_eq (tgt := 19) hx hb dX11_miles_4 (by decide) (fun c_3 => ?_) (fun c_3 => ?_)
  · refine lv_aload_n hx hb dX11_miles_19 rfl (lv_at hl 0 rfl) ?_
    refine lv_iconst (v := (-1)) hx hb dX11_miles_20 (by decide) ?_
    have hPc := hP.sub (ws' := [(g0, .inr (11, mF pq)), ((pq 0), .inl ((cp 0), 7, .inl (fun _ => 0)))]) [0, 1] rfl
    have hDc := hD.sub (ws' := [(g0, .inr (11, mF pq)), ((pq 0), .inl ((cp 0), 7, .inl (fun _ => 0)))]) [0, 1] (by decide) rfl
    have hKc := hK.sub (tys' := [((cp 0), .int)]) [0] rfl
    have hFc := va_free (wc := [(g0, .inr (11, mF pq)), ((pq 0), .inl ((cp 0), 7, .inl (fun _ => 0)))]) hD hS hA [0, 1] rfl
    refine va_calli (va_runV (As := [.int (-1)]) (rest := []) ⟨hx, hb, hml, hown, hts⟩ (c_X11_refuse l dC dI H.size g0 pq cp (-1) (by unfold vp_in; decide)) (cwV 1 hts gX11_miles_X11_refuse rfl rfl rfl (by decide +kernel) ⟨(Nat.le_of_ble_eq_true rfl), (Nat.le_of_ble_eq_true rfl)⟩) (pr_V (r := (RX11, TX11, 63)) hPc hKc hDc 0 11 rfl rfl) rfl rfl hl.1 rfl (lv_room (Nat.le_of_ble_eq_true rfl)) dX11_miles_21 ⟨(Nat.le_of_ble_eq_true rfl), (Nat.le_of_ble_eq_true rfl)⟩) hS (fun q _ h => hFc q h) hFc (fun r_5 u t H locs ht hvm w_4 hB hz1 hk1 hS => ?_)
    subst w_4
    exact W.iret (v := (-1)) hx hb hr (fun t ht hW => ⟨⟨(-1), (), rfl, (by simp [sp_miles, c_3]), trivial⟩, hS.F ht⟩) hS.2.2 dX11_miles_24
  · refine lv_iload_n hx hb dX11_miles_7 rfl (lv_at hl 2 rfl) ?_
    have hPc := hP.sub (ws' := []) [] rfl
    have hDc := hD.sub (ws' := []) [] (by decide) rfl
    have hKc := hK.sub (tys' := []) [] rfl
    have hFc : ∀ q, va_A [] H.size q → A q := pu_free hS hA
    refine va_calli (va_runS (As := [.int a2]) (rest := []) ⟨hx, hb, hml, hown, hts⟩ (c_X11_isPort l dC dI H.size a2) (va_cwS 1 hts gX11_miles_X11_isPort rfl rfl rfl (by decide +kernel) ⟨(Nat.le_of_ble_eq_true rfl), (Nat.le_of_ble_eq_true rfl)⟩) (pr_S hPc hKc hDc) rfl rfl hl.1 rfl (lv_room (Nat.le_of_ble_eq_true rfl)) dX11_miles_8 ⟨(Nat.le_of_ble_eq_true rfl), (Nat.le_of_ble_eq_true rfl)⟩) hS (fun q _ h => hFc q h) hFc (fun r_7 u t H locs ht hvm w_6 hB hz1 hk1 hS => ?_)
    have hP := pu_keep hP hk1
    clear hk1 hz1 hvm hB hPc hDc hKc hFc ht
    subst w_6
    refine lv_if_eq (tgt := 19) hx hb dX11_miles_11 (by decide) (fun c_8 => ?_) (fun c_8 => ?_)
    · refine lv_aload_n hx hb dX11_miles_19 rfl (lv_at hl 0 rfl) ?_
      refine lv_iconst (v := (-1)) hx hb dX11_miles_20 (by decide) ?_
      have hPc := hP.sub (ws' := [(g0, .inr (11, mF pq)), ((pq 0), .inl ((cp 0), 7, .inl (fun _ => 0)))]) [0, 1] rfl
      have hDc := hD.sub (ws' := [(g0, .inr (11, mF pq)), ((pq 0), .inl ((cp 0), 7, .inl (fun _ => 0)))]) [0, 1] (by decide) rfl
      have hKc := hK.sub (tys' := [((cp 0), .int)]) [0] rfl
      have hFc := va_free (wc := [(g0, .inr (11, mF pq)), ((pq 0), .inl ((cp 0), 7, .inl (fun _ => 0)))]) hD hS hA [0, 1] rfl
      refine va_calli (va_runV (As := [.int (-1)]) (rest := []) ⟨hx, hb, hml, hown, hts⟩ (c_X11_refuse l dC dI H.size g0 pq cp (-1) (by unfold vp_in; decide)) (cwV 1 hts gX11_miles_X11_refuse rfl rfl rfl (by decide +kernel) ⟨(Nat.le_of_ble_eq_true rfl), (Nat.le_of_ble_eq_true rfl)⟩) (pr_V (r := (RX11, TX11, 63)) hPc hKc hDc 0 11 rfl rfl) rfl rfl hl.1 rfl (lv_room (Nat.le_of_ble_eq_true rfl)) dX11_miles_21 ⟨(Nat.le_of_ble_eq_true rfl), (Nat.le_of_ble_eq_true rfl)⟩) hS (fun q _ h => hFc q h) hFc (fun r_10 u t H locs ht hvm w_9 hB hz1 hk1 hS => ?_)
      subst w_9
      exact W.iret (v := (-1)) hx hb hr (fun t ht hW => ⟨⟨(-1), (), rfl, (by simp [sp_miles, c_3, c_8]), trivial⟩, hS.F ht⟩) hS.2.2 dX11_miles_24
    · refine lv_iload_n hx hb dX11_miles_14 rfl (lv_at hl 1 rfl) ?_
      refine lv_iload_n hx hb dX11_miles_15 rfl (lv_at hl 2 rfl) ?_
      refine lv_icmp_ne (tgt := 25) hx hb dX11_miles_16 (by decide) (fun c_11 => ?_) (fun c_11 => ?_)
      · refine lv_iload_n hx hb dX11_miles_25 rfl (lv_at hl 3 rfl) ?_
        refine lv_if_ge (tgt := 36) hx hb dX11_miles_26 (by decide) (fun c_12 => ?_) (fun c_12 => ?_)
        · refine lv_iload_n hx hb dX11_miles_36 rfl (lv_at hl 3 rfl) ?_
          refine lv_sipush (v := 9999) hx hb dX11_miles_37 (by decide) ?_
          refine lv_icmp_le (tgt := 50) hx hb dX11_miles_40 (by decide) (fun c_13 => ?_) (fun c_13 => ?_)
          · refine lv_aload_n hx hb dX11_miles_50 rfl (lv_at hl 0 rfl) ?_
            refine va_get (D := (dC, dI)) (ci := 11) (v := .ref (pq 1)) (C := RX11) (T := TX11) (N := 63) hx hb hts in_wsX11_miles_X11 hown hK hP 0 rfl rfl 1 (by decide) (hts (.fieldLink RX11 13 "ShipOfficeModel" "mile" "[I") (by decide +kernel)) (fun _ h9 => h9) rfl dX11_miles_51 ?_
            refine lv_bipush (v := 10) hx hb dX11_miles_54 (by decide) ?_
            refine lv_iload_n hx hb dX11_miles_56 rfl (lv_at hl 1 rfl) ?_
            refine lv_imul hx hb dX11_miles_57 ?_
            refine lv_iload_n hx hb dX11_miles_58 rfl (lv_at hl 2 rfl) ?_
            refine lv_iadd hx hb dX11_miles_59 ?_
            refine va_iald hx hb hK hP 2 1 rfl rfl (mi_in2 c_3 c_8) dX11_miles_60 ?_
            refine W.eq (g2 := F0 m 61 ls [.int 0]) rfl ?_
            refine lv_istore (lv' := [(4, .int 0), (0, .ref g0), (1, .int a1), (2, .int a2), (3, .int a3)]) hx hb dX11_miles_61 hl (by decide) rfl (fun ls hl => ?_)
            refine lv_aload_n hx hb dX11_miles_63 rfl (lv_at hl 1 rfl) ?_
            refine va_get (D := (dC, dI)) (ci := 11) (v := .ref (pq 1)) (C := RX11) (T := TX11) (N := 63) hx hb hts in_wsX11_miles_X11 hown hK hP 0 rfl rfl 1 (by decide) (hts (.fieldLink RX11 13 "ShipOfficeModel" "mile" "[I") (by decide +kernel)) (fun _ h9 => h9) rfl dX11_miles_64 ?_
            refine lv_bipush (v := 10) hx hb dX11_miles_67 (by decide) ?_
            refine lv_iload_n hx hb dX11_miles_69 rfl (lv_at hl 2 rfl) ?_
            refine lv_imul hx hb dX11_miles_70 ?_
            refine lv_iload_n hx hb dX11_miles_71 rfl (lv_at hl 3 rfl) ?_
            refine lv_iadd hx hb dX11_miles_72 ?_
            refine lv_iload_n hx hb dX11_miles_73 rfl (lv_at hl 4 rfl) ?_
            refine va_iast hx hb hK hP hD hS 2 1 rfl rfl (mi_in2 c_3 c_8) dX11_miles_74 (fun H locs hP hD hS => ?_)
            have hP : va_P (dC, dI) vwCl [(g0, .inr (11, mF pq)), ((pq 0), .inl ((cp 0), 7, .inl (fun _ => 0))), ((pq 1), .inl ((cp 1), 100, .inl (upd (fun _ => 0) ((10 * a1) + a2 : Int32).toNatClampNeg a3)))] H := hP
            have hD : va_D A [(g0, .inr (11, mF pq)), ((pq 0), .inl ((cp 0), 7, .inl (fun _ => 0))), ((pq 1), .inl ((cp 1), 100, .inl (upd (fun _ => 0) ((10 * a1) + a2 : Int32).toNatClampNeg a3)))] := hD
            refine lv_aload_n hx hb dX11_miles_75 rfl (lv_at hl 1 rfl) ?_
            refine va_get (D := (dC, dI)) (ci := 11) (v := .ref (pq 1)) (C := RX11) (T := TX11) (N := 63) hx hb hts in_wsX11_miles_X11 hown hK hP 0 rfl rfl 1 (by decide) (hts (.fieldLink RX11 13 "ShipOfficeModel" "mile" "[I") (by decide +kernel)) (fun _ h9 => h9) rfl dX11_miles_76 ?_
            refine lv_bipush (v := 10) hx hb dX11_miles_79 (by decide) ?_
            refine lv_iload_n hx hb dX11_miles_81 rfl (lv_at hl 3 rfl) ?_
            refine lv_imul hx hb dX11_miles_82 ?_
            refine lv_iload_n hx hb dX11_miles_83 rfl (lv_at hl 2 rfl) ?_
            refine lv_iadd hx hb dX11_miles_84 ?_
            refine lv_iload_n hx hb dX11_miles_85 rfl (lv_at hl 4 rfl) ?_
            refine va_iast hx hb hK hP hD hS 2 1 rfl rfl (mi_in2 c_8 c_3) dX11_miles_86 (fun H locs hP hD hS => ?_)
            have hP : va_P (dC, dI) vwCl [(g0, .inr (11, mF pq)), ((pq 0), .inl ((cp 0), 7, .inl (fun _ => 0))), ((pq 1), .inl ((cp 1), 100, .inl (upd (upd (fun _ => 0) ((10 * a1) + a2 : Int32).toNatClampNeg a3) ((10 * a2) + a1 : Int32).toNatClampNeg a3)))] H := hP
            have hD : va_D A [(g0, .inr (11, mF pq)), ((pq 0), .inl ((cp 0), 7, .inl (fun _ => 0))), ((pq 1), .inl ((cp 1), 100, .inl (upd (upd (fun _ => 0) ((10 * a1) + a2 : Int32).toNatClampNeg a3) ((10 * a2) + a1 : Int32).toNatClampNeg a3)))] := hD
            refine lv_iload hx hb dX11_miles_87 (lv_at hl 0 rfl) ?_
            exact W.iret (v := 0) hx hb hr (fun t ht hW => ⟨⟨0, (), rfl, (by simp [sp_miles, c_3, c_8, c_11, c_12, c_13]), trivial⟩, hS.F ht⟩) hS.2.2 dX11_miles_89
          · refine lv_aload_n hx hb dX11_miles_43 rfl (lv_at hl 0 rfl) ?_
            refine lv_bipush (v := (-6)) hx hb dX11_miles_44 (by decide) ?_
            have hPc := hP.sub (ws' := [(g0, .inr (11, mF pq)), ((pq 0), .inl ((cp 0), 7, .inl (fun _ => 0)))]) [0, 1] rfl
            have hDc := hD.sub (ws' := [(g0, .inr (11, mF pq)), ((pq 0), .inl ((cp 0), 7, .inl (fun _ => 0)))]) [0, 1] (by decide) rfl
            have hKc := hK.sub (tys' := [((cp 0), .int)]) [0] rfl
            have hFc := va_free (wc := [(g0, .inr (11, mF pq)), ((pq 0), .inl ((cp 0), 7, .inl (fun _ => 0)))]) hD hS hA [0, 1] rfl
            refine va_calli (va_runV (As := [.int (-6)]) (rest := []) ⟨hx, hb, hml, hown, hts⟩ (c_X11_refuse l dC dI H.size g0 pq cp (-6) (by unfold vp_in; decide)) (cwV 1 hts gX11_miles_X11_refuse rfl rfl rfl (by decide +kernel) ⟨(Nat.le_of_ble_eq_true rfl), (Nat.le_of_ble_eq_true rfl)⟩) (pr_V (r := (RX11, TX11, 63)) hPc hKc hDc 0 11 rfl rfl) rfl rfl hl.1 rfl (lv_room (Nat.le_of_ble_eq_true rfl)) dX11_miles_46 ⟨(Nat.le_of_ble_eq_true rfl), (Nat.le_of_ble_eq_true rfl)⟩) hS (fun q _ h => hFc q h) hFc (fun r_15 u t H locs ht hvm w_14 hB hz1 hk1 hS => ?_)
            subst w_14
            exact W.iret (v := (-6)) hx hb hr (fun t ht hW => ⟨⟨(-6), (), rfl, (by simp [sp_miles, c_3, c_8, c_11, c_12, c_13]), trivial⟩, hS.F ht⟩) hS.2.2 dX11_miles_49
        · refine lv_aload_n hx hb dX11_miles_29 rfl (lv_at hl 0 rfl) ?_
          refine lv_bipush (v := (-4)) hx hb dX11_miles_30 (by decide) ?_
          have hPc := hP.sub (ws' := [(g0, .inr (11, mF pq)), ((pq 0), .inl ((cp 0), 7, .inl (fun _ => 0)))]) [0, 1] rfl
          have hDc := hD.sub (ws' := [(g0, .inr (11, mF pq)), ((pq 0), .inl ((cp 0), 7, .inl (fun _ => 0)))]) [0, 1] (by decide) rfl
          have hKc := hK.sub (tys' := [((cp 0), .int)]) [0] rfl
          have hFc := va_free (wc := [(g0, .inr (11, mF pq)), ((pq 0), .inl ((cp 0), 7, .inl (fun _ => 0)))]) hD hS hA [0, 1] rfl
          refine va_calli (va_runV (As := [.int (-4)]) (rest := []) ⟨hx, hb, hml, hown, hts⟩ (c_X11_refuse l dC dI H.size g0 pq cp (-4) (by unfold vp_in; decide)) (cwV 1 hts gX11_miles_X11_refuse rfl rfl rfl (by decide +kernel) ⟨(Nat.le_of_ble_eq_true rfl), (Nat.le_of_ble_eq_true rfl)⟩) (pr_V (r := (RX11, TX11, 63)) hPc hKc hDc 0 11 rfl rfl) rfl rfl hl.1 rfl (lv_room (Nat.le_of_ble_eq_true rfl)) dX11_miles_32 ⟨(Nat.le_of_ble_eq_true rfl), (Nat.le_of_ble_eq_true rfl)⟩) hS (fun q _ h => hFc q h) hFc (fun r_17 u t H locs ht hvm w_16 hB hz1 hk1 hS => ?_)
          subst w_16
          exact W.iret (v := (-4)) hx hb hr (fun t ht hW => ⟨⟨(-4), (), rfl, (by simp [sp_miles, c_3, c_8, c_11, c_12]), trivial⟩, hS.F ht⟩) hS.2.2 dX11_miles_35
      · refine lv_aload_n hx hb dX11_miles_19 rfl (lv_at hl 0 rfl) ?_
        refine lv_iconst (v := (-1)) hx hb dX11_miles_20 (by decide) ?_
        have hPc := hP.sub (ws' := [(g0, .inr (11, mF pq)), ((pq 0), .inl ((cp 0), 7, .inl (fun _ => 0)))]) [0, 1] rfl
        have hDc := hD.sub (ws' := [(g0, .inr (11, mF pq)), ((pq 0), .inl ((cp 0), 7, .inl (fun _ => 0)))]) [0, 1] (by decide) rfl
        have hKc := hK.sub (tys' := [((cp 0), .int)]) [0] rfl
        have hFc := va_free (wc := [(g0, .inr (11, mF pq)), ((pq 0), .inl ((cp 0), 7, .inl (fun _ => 0)))]) hD hS hA [0, 1] rfl
        refine va_calli (va_runV (As := [.int (-1)]) (rest := []) ⟨hx, hb, hml, hown, hts⟩ (c_X11_refuse l dC dI H.size g0 pq cp (-1) (by unfold vp_in; decide)) (cwV 1 hts gX11_miles_X11_refuse rfl rfl rfl (by decide +kernel) ⟨(Nat.le_of_ble_eq_true rfl), (Nat.le_of_ble_eq_true rfl)⟩) (pr_V (r := (RX11, TX11, 63)) hPc hKc hDc 0 11 rfl rfl) rfl rfl hl.1 rfl (lv_room (Nat.le_of_ble_eq_true rfl)) dX11_miles_21 ⟨(Nat.le_of_ble_eq_true rfl), (Nat.le_of_ble_eq_true rfl)⟩) hS (fun q _ h => hFc q h) hFc (fun r_19 u t H locs ht hvm w_18 hB hz1 hk1 hS => ?_)
        subst w_18
        exact W.iret (v := (-1)) hx hb hr (fun t ht hW => ⟨⟨(-1), (), rfl, (by simp [sp_miles, c_3, c_8, c_11]), trivial⟩, hS.F ht⟩) hS.2.2 dX11_miles_24
set_option maxHeartbeats 4000000 in
set_option maxRecDepth 100000 in
theorem c_X11_man (l : Launch) (dC : Nat → ClassId) (dI : Nat → Nat → Nat) (sz : Nat) (g0 : Nat) (pq : Nat → Nat) (cp : Nat → ClassId) (a1 : Int32) (a2 : Int32) (a3 : Int32) : Met l yX11_man wsX11_man ({ frames := 1, cells := 0, slots := 0, locals := 21 }) (va_Pc [.ref g0, .int a1, .int a2, .int a3] (pcW (dC, dI) [((cp 0), .int), ((cp 2), .int), ((cp 3), .int), ((cp 4), .int)] [(g0, .inr (11, mF pq)), ((pq 0), .inl ((cp 0), 7, .inl (fun _ => 0))), ((pq 2), .inl ((cp 2), 40, .inl (fun _ => 0))), ((pq 3), .inl ((cp 3), 40, .inl (fun _ => 0))), ((pq 4), .inl ((cp 4), 40, .inl (fun _ => 0)))] sz)) (va_Qi (fun (r : Int32) (u : Unit) => r = sp_man a1 a2 a3) (fun _ _ => True) (va_A [(g0, .inr (11, mF pq)), ((pq 0), .inl ((cp 0), 7, .inl (fun _ => 0))), ((pq 2), .inl ((cp 2), 40, .inl (fun _ => 0))), ((pq 3), .inl ((cp 3), 40, .inl (fun _ => 0))), ((pq 4), .inl ((cp 4), 40, .inl (fun _ => 0)))] sz)) 0 0 (va_A [(g0, .inr (11, mF pq)), ((pq 0), .inl ((cp 0), 7, .inl (fun _ => 0))), ((pq 2), .inl ((cp 2), 40, .inl (fun _ => 0))), ((pq 3), .inl ((cp 3), 40, .inl (fun _ => 0))), ((pq 4), .inl ((cp 4), 40, .inl (fun _ => 0)))] sz) := by
  refine Met.ofW (cc := cX11_man) (maxL := 4) (ret := (some .int)) (by decide) rfl ?_
  intro p e s m args below meth c s₁ B hml hv
  obtain ⟨rfl, hsz, hP, hK, hD0⟩ := hv
  have hx := B.exec
  have hb := B.bytes
  have hr := B.returns
  have hts := atoms_spec (ws := wsX11_man) B.pre
  have hown : s.vm.findClass RX11 = some m.cls := findClass_of_methodNamed B.named
  have hlocks := B.notSynchronized
  subst hsz
  have hD := hD0.self (sz := s.heap.size)
  generalize hAe : va_A [(g0, .inr (11, mF pq)), ((pq 0), .inl ((cp 0), 7, .inl (fun _ => 0))), ((pq 2), .inl ((cp 2), 40, .inl (fun _ => 0))), ((pq 3), .inl ((cp 3), 40, .inl (fun _ => 0))), ((pq 4), .inl ((cp 4), 40, .inl (fun _ => 0)))] s.heap.size = A at hD ⊢
  have hA : ∀ q : Nat, s.heap.size ≤ q → A q := fun q h => by rw [← hAe]; exact Or.inr h
  have hS : va_S A s.heap s.heap [] := va_S.rf
  have hP : va_P (dC, dI) vwCl [(g0, .inr (11, mF pq)), ((pq 0), .inl ((cp 0), 7, .inl (fun _ => 0))), ((pq 2), .inl ((cp 2), 40, .inl (fun _ => 0))), ((pq 3), .inl ((cp 3), 40, .inl (fun _ => 0))), ((pq 4), .inl ((cp 4), 40, .inl (fun _ => 0)))] s.heap := hP
  have hl := lv_entry ([.ref g0, .int a1, .int a2, .int a3]) (n := 4) (Nat.le_of_ble_eq_true rfl)
  rw [lg_entry_eq]
  generalize (lg_sl ([.ref g0, .int a1, .int a2, .int a3]) ++ List.replicate (4 - (lg_sl ([.ref g0, .int a1, .int a2, .int a3])).length) Slot.unset).toArray = ls at hl ⊢
  have hl : lv_has ls 4 [(0, .ref g0), (1, .int a1), (2, .int a2), (3, .int a3)] := hl
  refine lv_iload_n hx hb dX11_man_0 rfl (lv_at hl 1 rfl) ?_
  refine lv_if_lt (tgt := 15) hx hb dX11_man_1 (by decide) (fun c_1 => ?_) (fun c_1 => ?_)
  · refine lv_aload_n hx hb dX11_man_15 rfl (lv_at hl 0 rfl) ?_
    refine lv_bipush (v := (-4)) hx hb dX11_man_16 (by decide) ?_
    have hPc := hP.sub (ws' := [(g0, .inr (11, mF pq)), ((pq 0), .inl ((cp 0), 7, .inl (fun _ => 0)))]) [0, 1] rfl
    have hDc := hD.sub (ws' := [(g0, .inr (11, mF pq)), ((pq 0), .inl ((cp 0), 7, .inl (fun _ => 0)))]) [0, 1] (by decide) rfl
    have hKc := hK.sub (tys' := [((cp 0), .int)]) [0] rfl
    have hFc := va_free (wc := [(g0, .inr (11, mF pq)), ((pq 0), .inl ((cp 0), 7, .inl (fun _ => 0)))]) hD hS hA [0, 1] rfl
    refine va_calli (va_runV (As := [.int (-4)]) (rest := []) ⟨hx, hb, hml, hown, hts⟩ (c_X11_refuse l dC dI s.heap.size g0 pq cp (-4) (by unfold vp_in; decide)) (cwV 1 hts gX11_man_X11_refuse rfl rfl rfl (by decide +kernel) ⟨(Nat.le_of_ble_eq_true rfl), (Nat.le_of_ble_eq_true rfl)⟩) (pr_V (r := (RX11, TX11, 63)) hPc hKc hDc 0 11 rfl rfl) rfl rfl hl.1 rfl (lv_room (Nat.le_of_ble_eq_true rfl)) dX11_man_18 ⟨(Nat.le_of_ble_eq_true rfl), (Nat.le_of_ble_eq_true rfl)⟩) hS (fun q _ h => hFc q h) hFc (fun r_3 u t H locs ht hvm w_2 hB hz1 hk1 hS => ?_)
    subst w_2
    exact W.iret (v := (-4)) hx hb hr (fun t ht hW => ⟨⟨(-4), (), rfl, (by simp [sp_man, c_1]), trivial⟩, hS.F ht⟩) hS.2.2 dX11_man_21
  · refine lv_iload_n hx hb dX11_man_4 rfl (lv_at hl 2 rfl) ?_
    refine lv_if_lt (tgt := 15) hx hb dX11_man_5 (by decide) (fun c_4 => ?_) (fun c_4 => ?_)
    · refine lv_aload_n hx hb dX11_man_15 rfl (lv_at hl 0 rfl) ?_
      refine lv_bipush (v := (-4)) hx hb dX11_man_16 (by decide) ?_
      have hPc := hP.sub (ws' := [(g0, .inr (11, mF pq)), ((pq 0), .inl ((cp 0), 7, .inl (fun _ => 0)))]) [0, 1] rfl
      have hDc := hD.sub (ws' := [(g0, .inr (11, mF pq)), ((pq 0), .inl ((cp 0), 7, .inl (fun _ => 0)))]) [0, 1] (by decide) rfl
      have hKc := hK.sub (tys' := [((cp 0), .int)]) [0] rfl
      have hFc := va_free (wc := [(g0, .inr (11, mF pq)), ((pq 0), .inl ((cp 0), 7, .inl (fun _ => 0)))]) hD hS hA [0, 1] rfl
      refine va_calli (va_runV (As := [.int (-4)]) (rest := []) ⟨hx, hb, hml, hown, hts⟩ (c_X11_refuse l dC dI s.heap.size g0 pq cp (-4) (by unfold vp_in; decide)) (cwV 1 hts gX11_man_X11_refuse rfl rfl rfl (by decide +kernel) ⟨(Nat.le_of_ble_eq_true rfl), (Nat.le_of_ble_eq_true rfl)⟩) (pr_V (r := (RX11, TX11, 63)) hPc hKc hDc 0 11 rfl rfl) rfl rfl hl.1 rfl (lv_room (Nat.le_of_ble_eq_true rfl)) dX11_man_18 ⟨(Nat.le_of_ble_eq_true rfl), (Nat.le_of_ble_eq_true rfl)⟩) hS (fun q _ h => hFc q h) hFc (fun r_6 u t H locs ht hvm w_5 hB hz1 hk1 hS => ?_)
      subst w_5
      exact W.iret (v := (-4)) hx hb hr (fun t ht hW => ⟨⟨(-4), (), rfl, (by simp [sp_man, c_1, c_4]), trivial⟩, hS.F ht⟩) hS.2.2 dX11_man_21
    · refine lv_iload_n hx hb dX11_man_8 rfl (lv_at hl 3 rfl) ?_
      refine lv_sipush (v := (-30000)) hx hb dX11_man_9 (by decide) ?_
      refine lv_icmp_ge (tgt := 22) hx hb dX11_man_12 (by decide) (fun c_7 => ?_) (fun c_7 => ?_)
      · refine lv_iload_n hx hb dX11_man_22 rfl (lv_at hl 1 rfl) ?_
        refine lv_sipush (v := 9999) hx hb dX11_man_23 (by decide) ?_
        refine lv_icmp_gt (tgt := 52) hx hb dX11_man_26 (by decide) (fun c_8 => ?_) (fun c_8 => ?_)
        · refine lv_aload_n hx hb dX11_man_52 rfl (lv_at hl 0 rfl) ?_
          refine lv_bipush (v := (-6)) hx hb dX11_man_53 (by decide) ?_
          have hPc := hP.sub (ws' := [(g0, .inr (11, mF pq)), ((pq 0), .inl ((cp 0), 7, .inl (fun _ => 0)))]) [0, 1] rfl
          have hDc := hD.sub (ws' := [(g0, .inr (11, mF pq)), ((pq 0), .inl ((cp 0), 7, .inl (fun _ => 0)))]) [0, 1] (by decide) rfl
          have hKc := hK.sub (tys' := [((cp 0), .int)]) [0] rfl
          have hFc := va_free (wc := [(g0, .inr (11, mF pq)), ((pq 0), .inl ((cp 0), 7, .inl (fun _ => 0)))]) hD hS hA [0, 1] rfl
          refine va_calli (va_runV (As := [.int (-6)]) (rest := []) ⟨hx, hb, hml, hown, hts⟩ (c_X11_refuse l dC dI s.heap.size g0 pq cp (-6) (by unfold vp_in; decide)) (cwV 1 hts gX11_man_X11_refuse rfl rfl rfl (by decide +kernel) ⟨(Nat.le_of_ble_eq_true rfl), (Nat.le_of_ble_eq_true rfl)⟩) (pr_V (r := (RX11, TX11, 63)) hPc hKc hDc 0 11 rfl rfl) rfl rfl hl.1 rfl (lv_room (Nat.le_of_ble_eq_true rfl)) dX11_man_55 ⟨(Nat.le_of_ble_eq_true rfl), (Nat.le_of_ble_eq_true rfl)⟩) hS (fun q _ h => hFc q h) hFc (fun r_10 u t H locs ht hvm w_9 hB hz1 hk1 hS => ?_)
          subst w_9
          exact W.iret (v := (-6)) hx hb hr (fun t ht hW => ⟨⟨(-6), (), rfl, (by simp [sp_man, c_1, c_4, c_7, c_8]), trivial⟩, hS.F ht⟩) hS.2.2 dX11_man_58
        · refine lv_iload_n hx hb dX11_man_29 rfl (lv_at hl 2 rfl) ?_
          refine lv_ldc (v := 99999) hx hb hown (hts (.constant RX11 178 (99999)) (by decide +kernel)) dX11_man_30 ?_
          refine lv_icmp_gt (tgt := 52) hx hb dX11_man_32 (by decide) (fun c_11 => ?_) (fun c_11 => ?_)
          · refine lv_aload_n hx hb dX11_man_52 rfl (lv_at hl 0 rfl) ?_
            refine lv_bipush (v := (-6)) hx hb dX11_man_53 (by decide) ?_
            have hPc := hP.sub (ws' := [(g0, .inr (11, mF pq)), ((pq 0), .inl ((cp 0), 7, .inl (fun _ => 0)))]) [0, 1] rfl
            have hDc := hD.sub (ws' := [(g0, .inr (11, mF pq)), ((pq 0), .inl ((cp 0), 7, .inl (fun _ => 0)))]) [0, 1] (by decide) rfl
            have hKc := hK.sub (tys' := [((cp 0), .int)]) [0] rfl
            have hFc := va_free (wc := [(g0, .inr (11, mF pq)), ((pq 0), .inl ((cp 0), 7, .inl (fun _ => 0)))]) hD hS hA [0, 1] rfl
            refine va_calli (va_runV (As := [.int (-6)]) (rest := []) ⟨hx, hb, hml, hown, hts⟩ (c_X11_refuse l dC dI s.heap.size g0 pq cp (-6) (by unfold vp_in; decide)) (cwV 1 hts gX11_man_X11_refuse rfl rfl rfl (by decide +kernel) ⟨(Nat.le_of_ble_eq_true rfl), (Nat.le_of_ble_eq_true rfl)⟩) (pr_V (r := (RX11, TX11, 63)) hPc hKc hDc 0 11 rfl rfl) rfl rfl hl.1 rfl (lv_room (Nat.le_of_ble_eq_true rfl)) dX11_man_55 ⟨(Nat.le_of_ble_eq_true rfl), (Nat.le_of_ble_eq_true rfl)⟩) hS (fun q _ h => hFc q h) hFc (fun r_13 u t H locs ht hvm w_12 hB hz1 hk1 hS => ?_)
            subst w_12
            exact W.iret (v := (-6)) hx hb hr (fun t ht hW => ⟨⟨(-6), (), rfl, (by simp [sp_man, c_1, c_4, c_7, c_8, c_11]), trivial⟩, hS.F ht⟩) hS.2.2 dX11_man_58
          · refine lv_iload_n hx hb dX11_man_35 rfl (lv_at hl 3 rfl) ?_
            refine lv_aload_n hx hb dX11_man_36 rfl (lv_at hl 0 rfl) ?_
            refine va_get (D := (dC, dI)) (ci := 11) (v := .int 0) (C := RX11) (T := TX11) (N := 63) hx hb hts in_wsX11_man_X11 hown hK hP 0 rfl rfl 38 (by decide) (hts (.fieldLink RX11 171 "ShipOfficeModel" "now" "I") (by decide +kernel)) (fun _ h9 => h9) rfl dX11_man_37 ?_
            refine lv_icmp_gt (tgt := 52) hx hb dX11_man_40 (by decide) (fun c_14 => ?_) (fun c_14 => ?_)
            · refine lv_aload_n hx hb dX11_man_52 rfl (lv_at hl 0 rfl) ?_
              refine lv_bipush (v := (-6)) hx hb dX11_man_53 (by decide) ?_
              have hPc := hP.sub (ws' := [(g0, .inr (11, mF pq)), ((pq 0), .inl ((cp 0), 7, .inl (fun _ => 0)))]) [0, 1] rfl
              have hDc := hD.sub (ws' := [(g0, .inr (11, mF pq)), ((pq 0), .inl ((cp 0), 7, .inl (fun _ => 0)))]) [0, 1] (by decide) rfl
              have hKc := hK.sub (tys' := [((cp 0), .int)]) [0] rfl
              have hFc := va_free (wc := [(g0, .inr (11, mF pq)), ((pq 0), .inl ((cp 0), 7, .inl (fun _ => 0)))]) hD hS hA [0, 1] rfl
              refine va_calli (va_runV (As := [.int (-6)]) (rest := []) ⟨hx, hb, hml, hown, hts⟩ (c_X11_refuse l dC dI s.heap.size g0 pq cp (-6) (by unfold vp_in; decide)) (cwV 1 hts gX11_man_X11_refuse rfl rfl rfl (by decide +kernel) ⟨(Nat.le_of_ble_eq_true rfl), (Nat.le_of_ble_eq_true rfl)⟩) (pr_V (r := (RX11, TX11, 63)) hPc hKc hDc 0 11 rfl rfl) rfl rfl hl.1 rfl (lv_room (Nat.le_of_ble_eq_true rfl)) dX11_man_55 ⟨(Nat.le_of_ble_eq_true rfl), (Nat.le_of_ble_eq_true rfl)⟩) hS (fun q _ h => hFc q h) hFc (fun r_16 u t H locs ht hvm w_15 hB hz1 hk1 hS => ?_)
              subst w_15
              exact W.iret (v := (-6)) hx hb hr (fun t ht hW => ⟨⟨(-6), (), rfl, (by simp [sp_man, c_1, c_4, c_7, c_8, c_11, c_14]), trivial⟩, hS.F ht⟩) hS.2.2 dX11_man_58
            · refine lv_aload_n hx hb dX11_man_43 rfl (lv_at hl 0 rfl) ?_
              refine va_get (D := (dC, dI)) (ci := 11) (v := .int 0) (C := RX11) (T := TX11) (N := 63) hx hb hts in_wsX11_man_X11 hown hK hP 0 rfl rfl 39 (by decide) (hts (.fieldLink RX11 157 "ShipOfficeModel" "men" "I") (by decide +kernel)) (fun _ h9 => h9) rfl dX11_man_44 ?_
              refine lv_bipush (v := 40) hx hb dX11_man_47 (by decide) ?_
              refine lv_icmp_ne (tgt := 59) hx hb dX11_man_49 (by decide) (fun _ => ?_) (fun c_17 => absurd c_17 (by decide))
              refine lv_aload_n hx hb dX11_man_59 rfl (lv_at hl 0 rfl) ?_
              refine va_get (D := (dC, dI)) (ci := 11) (v := .ref (pq 2)) (C := RX11) (T := TX11) (N := 63) hx hb hts in_wsX11_man_X11 hown hK hP 0 rfl rfl 2 (by decide) (hts (.fieldLink RX11 16 "ShipOfficeModel" "name" "[I") (by decide +kernel)) (fun _ h9 => h9) rfl dX11_man_60 ?_
              refine lv_aload_n hx hb dX11_man_63 rfl (lv_at hl 0 rfl) ?_
              refine va_get (D := (dC, dI)) (ci := 11) (v := .int 0) (C := RX11) (T := TX11) (N := 63) hx hb hts in_wsX11_man_X11 hown hK hP 0 rfl rfl 39 (by decide) (hts (.fieldLink RX11 157 "ShipOfficeModel" "men" "I") (by decide +kernel)) (fun _ h9 => h9) rfl dX11_man_64 ?_
              refine lv_iload_n hx hb dX11_man_67 rfl (lv_at hl 1 rfl) ?_
              refine va_iast hx hb hK hP hD hS 2 1 rfl rfl (by unfold vp_in; decide) dX11_man_68 (fun H locs hP hD hS => ?_)
              have hP : va_P (dC, dI) vwCl [(g0, .inr (11, mF pq)), ((pq 0), .inl ((cp 0), 7, .inl (fun _ => 0))), ((pq 2), .inl ((cp 2), 40, .inl (upd (fun _ => 0) (0 : Int32).toNatClampNeg a1))), ((pq 3), .inl ((cp 3), 40, .inl (fun _ => 0))), ((pq 4), .inl ((cp 4), 40, .inl (fun _ => 0)))] H := hP
              have hD : va_D A [(g0, .inr (11, mF pq)), ((pq 0), .inl ((cp 0), 7, .inl (fun _ => 0))), ((pq 2), .inl ((cp 2), 40, .inl (upd (fun _ => 0) (0 : Int32).toNatClampNeg a1))), ((pq 3), .inl ((cp 3), 40, .inl (fun _ => 0))), ((pq 4), .inl ((cp 4), 40, .inl (fun _ => 0)))] := hD
              refine lv_aload_n hx hb dX11_man_69 rfl (lv_at hl 0 rfl) ?_
              refine va_get (D := (dC, dI)) (ci := 11) (v := .ref (pq 3)) (C := RX11) (T := TX11) (N := 63) hx hb hts in_wsX11_man_X11 hown hK hP 0 rfl rfl 3 (by decide) (hts (.fieldLink RX11 19 "ShipOfficeModel" "marks" "[I") (by decide +kernel)) (fun _ h9 => h9) rfl dX11_man_70 ?_
              refine lv_aload_n hx hb dX11_man_73 rfl (lv_at hl 0 rfl) ?_
              refine va_get (D := (dC, dI)) (ci := 11) (v := .int 0) (C := RX11) (T := TX11) (N := 63) hx hb hts in_wsX11_man_X11 hown hK hP 0 rfl rfl 39 (by decide) (hts (.fieldLink RX11 157 "ShipOfficeModel" "men" "I") (by decide +kernel)) (fun _ h9 => h9) rfl dX11_man_74 ?_
              refine lv_iload_n hx hb dX11_man_77 rfl (lv_at hl 2 rfl) ?_
              refine va_iast hx hb hK hP hD hS 3 2 rfl rfl (by unfold vp_in; decide) dX11_man_78 (fun H locs hP hD hS => ?_)
              have hP : va_P (dC, dI) vwCl [(g0, .inr (11, mF pq)), ((pq 0), .inl ((cp 0), 7, .inl (fun _ => 0))), ((pq 2), .inl ((cp 2), 40, .inl (upd (fun _ => 0) (0 : Int32).toNatClampNeg a1))), ((pq 3), .inl ((cp 3), 40, .inl (upd (fun _ => 0) (0 : Int32).toNatClampNeg a2))), ((pq 4), .inl ((cp 4), 40, .inl (fun _ => 0)))] H := hP
              have hD : va_D A [(g0, .inr (11, mF pq)), ((pq 0), .inl ((cp 0), 7, .inl (fun _ => 0))), ((pq 2), .inl ((cp 2), 40, .inl (upd (fun _ => 0) (0 : Int32).toNatClampNeg a1))), ((pq 3), .inl ((cp 3), 40, .inl (upd (fun _ => 0) (0 : Int32).toNatClampNeg a2))), ((pq 4), .inl ((cp 4), 40, .inl (fun _ => 0)))] := hD
              refine lv_aload_n hx hb dX11_man_79 rfl (lv_at hl 0 rfl) ?_
              refine va_get (D := (dC, dI)) (ci := 11) (v := .ref (pq 4)) (C := RX11) (T := TX11) (N := 63) hx hb hts in_wsX11_man_X11 hown hK hP 0 rfl rfl 4 (by decide) (hts (.fieldLink RX11 22 "ShipOfficeModel" "born" "[I") (by decide +kernel)) (fun _ h9 => h9) rfl dX11_man_80 ?_
              refine lv_aload_n hx hb dX11_man_83 rfl (lv_at hl 0 rfl) ?_
              refine va_get (D := (dC, dI)) (ci := 11) (v := .int 0) (C := RX11) (T := TX11) (N := 63) hx hb hts in_wsX11_man_X11 hown hK hP 0 rfl rfl 39 (by decide) (hts (.fieldLink RX11 157 "ShipOfficeModel" "men" "I") (by decide +kernel)) (fun _ h9 => h9) rfl dX11_man_84 ?_
              refine lv_iload_n hx hb dX11_man_87 rfl (lv_at hl 3 rfl) ?_
              refine va_iast hx hb hK hP hD hS 4 3 rfl rfl (by unfold vp_in; decide) dX11_man_88 (fun H locs hP hD hS => ?_)
              have hP : va_P (dC, dI) vwCl [(g0, .inr (11, mF pq)), ((pq 0), .inl ((cp 0), 7, .inl (fun _ => 0))), ((pq 2), .inl ((cp 2), 40, .inl (upd (fun _ => 0) (0 : Int32).toNatClampNeg a1))), ((pq 3), .inl ((cp 3), 40, .inl (upd (fun _ => 0) (0 : Int32).toNatClampNeg a2))), ((pq 4), .inl ((cp 4), 40, .inl (upd (fun _ => 0) (0 : Int32).toNatClampNeg a3)))] H := hP
              have hD : va_D A [(g0, .inr (11, mF pq)), ((pq 0), .inl ((cp 0), 7, .inl (fun _ => 0))), ((pq 2), .inl ((cp 2), 40, .inl (upd (fun _ => 0) (0 : Int32).toNatClampNeg a1))), ((pq 3), .inl ((cp 3), 40, .inl (upd (fun _ => 0) (0 : Int32).toNatClampNeg a2))), ((pq 4), .inl ((cp 4), 40, .inl (upd (fun _ => 0) (0 : Int32).toNatClampNeg a3)))] := hD
              refine lv_aload_n hx hb dX11_man_89 rfl (lv_at hl 0 rfl) ?_
              refine lv_dup hx hb dX11_man_90 rfl ?_
              refine va_get (D := (dC, dI)) (ci := 11) (v := .int 0) (C := RX11) (T := TX11) (N := 63) hx hb hts in_wsX11_man_X11 hown hK hP 0 rfl rfl 39 (by decide) (hts (.fieldLink RX11 157 "ShipOfficeModel" "men" "I") (by decide +kernel)) (fun _ h9 => h9) rfl dX11_man_91 ?_
              refine lv_iconst (v := 1) hx hb dX11_man_94 (by decide) ?_
              refine lv_iadd hx hb dX11_man_95 ?_
              refine lv_topi (fun y ey => ?_)
              obtain rfl : y = 1 := ey.trans (by decide)
              refine va_put (D := (dC, dI)) (ci := 11) (v := .int 1) (ty := .int) (C := RX11) (T := TX11) (N := 63) hx hb hts in_wsX11_man_X11 tyX11 tyX11_ok nmX11 hown hK hP hD hS 0 rfl rfl 39 (by decide) (hts (.fieldLink RX11 157 "ShipOfficeModel" "men" "I") (by decide +kernel)) (fun _ h9 => h9) rfl (by decide +kernel) rfl rfl (Nat.le_of_ble_eq_true rfl) dX11_man_96 (fun H locs hP hD hS => ?_)
              have hP : va_P (dC, dI) vwCl [(g0, .inr (11, ((mF pq).set 39 (.int 1)))), ((pq 0), .inl ((cp 0), 7, .inl (fun _ => 0))), ((pq 2), .inl ((cp 2), 40, .inl (upd (fun _ => 0) (0 : Int32).toNatClampNeg a1))), ((pq 3), .inl ((cp 3), 40, .inl (upd (fun _ => 0) (0 : Int32).toNatClampNeg a2))), ((pq 4), .inl ((cp 4), 40, .inl (upd (fun _ => 0) (0 : Int32).toNatClampNeg a3)))] H := hP
              have hD : va_D A [(g0, .inr (11, ((mF pq).set 39 (.int 1)))), ((pq 0), .inl ((cp 0), 7, .inl (fun _ => 0))), ((pq 2), .inl ((cp 2), 40, .inl (upd (fun _ => 0) (0 : Int32).toNatClampNeg a1))), ((pq 3), .inl ((cp 3), 40, .inl (upd (fun _ => 0) (0 : Int32).toNatClampNeg a2))), ((pq 4), .inl ((cp 4), 40, .inl (upd (fun _ => 0) (0 : Int32).toNatClampNeg a3)))] := hD
              refine lv_aload_n hx hb dX11_man_99 rfl (lv_at hl 0 rfl) ?_
              refine va_get (D := (dC, dI)) (ci := 11) (v := .int 1) (C := RX11) (T := TX11) (N := 63) hx hb hts in_wsX11_man_X11 hown hK hP 0 rfl rfl 39 (by decide) (hts (.fieldLink RX11 157 "ShipOfficeModel" "men" "I") (by decide +kernel)) (fun _ h9 => h9) rfl dX11_man_100 ?_
              refine lv_iconst (v := 1) hx hb dX11_man_103 (by decide) ?_
              refine lv_isub hx hb dX11_man_104 ?_
              refine lv_topi (fun y ey => ?_)
              obtain rfl : y = 0 := ey.trans (by decide)
              exact W.iret (v := 0) hx hb hr (fun t ht hW => ⟨⟨0, (), rfl, (by simp [sp_man, c_1, c_4, c_7, c_8, c_11, c_14]), trivial⟩, hS.F ht⟩) hS.2.2 dX11_man_105
      · refine lv_aload_n hx hb dX11_man_15 rfl (lv_at hl 0 rfl) ?_
        refine lv_bipush (v := (-4)) hx hb dX11_man_16 (by decide) ?_
        have hPc := hP.sub (ws' := [(g0, .inr (11, mF pq)), ((pq 0), .inl ((cp 0), 7, .inl (fun _ => 0)))]) [0, 1] rfl
        have hDc := hD.sub (ws' := [(g0, .inr (11, mF pq)), ((pq 0), .inl ((cp 0), 7, .inl (fun _ => 0)))]) [0, 1] (by decide) rfl
        have hKc := hK.sub (tys' := [((cp 0), .int)]) [0] rfl
        have hFc := va_free (wc := [(g0, .inr (11, mF pq)), ((pq 0), .inl ((cp 0), 7, .inl (fun _ => 0)))]) hD hS hA [0, 1] rfl
        refine va_calli (va_runV (As := [.int (-4)]) (rest := []) ⟨hx, hb, hml, hown, hts⟩ (c_X11_refuse l dC dI s.heap.size g0 pq cp (-4) (by unfold vp_in; decide)) (cwV 1 hts gX11_man_X11_refuse rfl rfl rfl (by decide +kernel) ⟨(Nat.le_of_ble_eq_true rfl), (Nat.le_of_ble_eq_true rfl)⟩) (pr_V (r := (RX11, TX11, 63)) hPc hKc hDc 0 11 rfl rfl) rfl rfl hl.1 rfl (lv_room (Nat.le_of_ble_eq_true rfl)) dX11_man_18 ⟨(Nat.le_of_ble_eq_true rfl), (Nat.le_of_ble_eq_true rfl)⟩) hS (fun q _ h => hFc q h) hFc (fun r_19 u t H locs ht hvm w_18 hB hz1 hk1 hS => ?_)
        subst w_18
        exact W.iret (v := (-4)) hx hb hr (fun t ht hW => ⟨⟨(-4), (), rfl, (by simp [sp_man, c_1, c_4, c_7]), trivial⟩, hS.F ht⟩) hS.2.2 dX11_man_21
set_option maxHeartbeats 4000000 in
set_option maxRecDepth 100000 in
theorem c_X11_voyage (l : Launch) (dC : Nat → ClassId) (dI : Nat → Nat → Nat) (sz : Nat) (g0 : Nat) (pq : Nat → Nat) (cp : Nat → ClassId) (a1 : Int32) (a2 : Int32) : Met l yX11_voyage wsX11_voyage ({ frames := 2, cells := 0, slots := 0, locals := 41 }) (va_Pc [.ref g0, .int a1, .int a2] (pcW (dC, dI) [((cp 0), .int), ((cp 6), .int), ((cp 7), .int), ((cp 8), .int), ((cp 9), .int)] [(g0, .inr (11, mF pq)), ((pq 0), .inl ((cp 0), 7, .inl (fun _ => 0))), ((pq 6), .inl ((cp 6), 20, .inl (fun _ => 0))), ((pq 7), .inl ((cp 7), 20, .inl (fun _ => 0))), ((pq 8), .inl ((cp 8), 20, .inl (fun _ => 0))), ((pq 9), .inl ((cp 9), 20, .inl (fun _ => 0)))] sz)) (va_Qi (fun (r : Int32) (u : Unit) => r = sp_voyage a1 a2) (fun _ _ => True) (va_A [(g0, .inr (11, mF pq)), ((pq 0), .inl ((cp 0), 7, .inl (fun _ => 0))), ((pq 6), .inl ((cp 6), 20, .inl (fun _ => 0))), ((pq 7), .inl ((cp 7), 20, .inl (fun _ => 0))), ((pq 8), .inl ((cp 8), 20, .inl (fun _ => 0))), ((pq 9), .inl ((cp 9), 20, .inl (fun _ => 0)))] sz)) 0 0 (va_A [(g0, .inr (11, mF pq)), ((pq 0), .inl ((cp 0), 7, .inl (fun _ => 0))), ((pq 6), .inl ((cp 6), 20, .inl (fun _ => 0))), ((pq 7), .inl ((cp 7), 20, .inl (fun _ => 0))), ((pq 8), .inl ((cp 8), 20, .inl (fun _ => 0))), ((pq 9), .inl ((cp 9), 20, .inl (fun _ => 0)))] sz) := by
  refine Met.ofW (cc := cX11_voyage) (maxL := 4) (ret := (some .int)) (by decide) rfl ?_
  intro p e s m args below meth c s₁ B hml hv
  obtain ⟨rfl, hsz, hP, hK, hD0⟩ := hv
  have hx := B.exec
  have hb := B.bytes
  have hr := B.returns
  have hts := atoms_spec (ws := wsX11_voyage) B.pre
  have hown : s.vm.findClass RX11 = some m.cls := findClass_of_methodNamed B.named
  have hlocks := B.notSynchronized
  subst hsz
  have hD := hD0.self (sz := s.heap.size)
  generalize hAe : va_A [(g0, .inr (11, mF pq)), ((pq 0), .inl ((cp 0), 7, .inl (fun _ => 0))), ((pq 6), .inl ((cp 6), 20, .inl (fun _ => 0))), ((pq 7), .inl ((cp 7), 20, .inl (fun _ => 0))), ((pq 8), .inl ((cp 8), 20, .inl (fun _ => 0))), ((pq 9), .inl ((cp 9), 20, .inl (fun _ => 0)))] s.heap.size = A at hD ⊢
  have hA : ∀ q : Nat, s.heap.size ≤ q → A q := fun q h => by rw [← hAe]; exact Or.inr h
  have hS : va_S A s.heap s.heap [] := va_S.rf
  have hP : va_P (dC, dI) vwCl [(g0, .inr (11, mF pq)), ((pq 0), .inl ((cp 0), 7, .inl (fun _ => 0))), ((pq 6), .inl ((cp 6), 20, .inl (fun _ => 0))), ((pq 7), .inl ((cp 7), 20, .inl (fun _ => 0))), ((pq 8), .inl ((cp 8), 20, .inl (fun _ => 0))), ((pq 9), .inl ((cp 9), 20, .inl (fun _ => 0)))] s.heap := hP
  have hl := lv_entry ([.ref g0, .int a1, .int a2]) (n := 4) (Nat.le_of_ble_eq_true rfl)
  rw [lg_entry_eq]
  generalize (lg_sl ([.ref g0, .int a1, .int a2]) ++ List.replicate (4 - (lg_sl ([.ref g0, .int a1, .int a2])).length) Slot.unset).toArray = ls at hl ⊢
  have hl : lv_has ls 4 [(0, .ref g0), (1, .int a1), (2, .int a2)] := hl
  refine lv_iload_n hx hb dX11_voyage_0 rfl (lv_at hl 1 rfl) ?_
  refine lv_bipush (v := 10) hx hb dX11_voyage_1 (by decide) ?_
  have hPc := hP.sub (ws' := []) [] rfl
  have hDc := hD.sub (ws' := []) [] (by decide) rfl
  have hKc := hK.sub (tys' := []) [] rfl
  have hFc : ∀ q, va_A [] s.heap.size q → A q := pu_free hS hA
  refine va_calli (va_runS (As := [.int a1, .int 10]) (rest := []) ⟨hx, hb, hml, hown, hts⟩ (c_X11_isIn l dC dI s.heap.size a1 10) (va_cwS 2 hts gX11_voyage_X11_isIn rfl rfl rfl (by decide +kernel) ⟨(Nat.le_of_ble_eq_true rfl), (Nat.le_of_ble_eq_true rfl)⟩) (pr_S hPc hKc hDc) rfl rfl hl.1 rfl (lv_room (Nat.le_of_ble_eq_true rfl)) dX11_voyage_3 ⟨(Nat.le_of_ble_eq_true rfl), (Nat.le_of_ble_eq_true rfl)⟩) hS (fun q _ h => hFc q h) hFc (fun r_2 u t H locs ht hvm w_1 hB hz1 hk1 hS => ?_)
  have hP := pu_keep hP hk1
  clear hk1 hz1 hvm hB hPc hDc hKc hFc ht
  subst w_1
  refine lv_if_eq (tgt := 16) hx hb dX11_voyage_6 (by decide) (fun c_3 => ?_) (fun c_3 => ?_)
  · refine lv_aload_n hx hb dX11_voyage_16 rfl (lv_at hl 0 rfl) ?_
    refine lv_iconst (v := (-1)) hx hb dX11_voyage_17 (by decide) ?_
    have hPc := hP.sub (ws' := [(g0, .inr (11, mF pq)), ((pq 0), .inl ((cp 0), 7, .inl (fun _ => 0)))]) [0, 1] rfl
    have hDc := hD.sub (ws' := [(g0, .inr (11, mF pq)), ((pq 0), .inl ((cp 0), 7, .inl (fun _ => 0)))]) [0, 1] (by decide) rfl
    have hKc := hK.sub (tys' := [((cp 0), .int)]) [0] rfl
    have hFc := va_free (wc := [(g0, .inr (11, mF pq)), ((pq 0), .inl ((cp 0), 7, .inl (fun _ => 0)))]) hD hS hA [0, 1] rfl
    refine va_calli (va_runV (As := [.int (-1)]) (rest := []) ⟨hx, hb, hml, hown, hts⟩ (c_X11_refuse l dC dI H.size g0 pq cp (-1) (by unfold vp_in; decide)) (cwV 1 hts gX11_voyage_X11_refuse rfl rfl rfl (by decide +kernel) ⟨(Nat.le_of_ble_eq_true rfl), (Nat.le_of_ble_eq_true rfl)⟩) (pr_V (r := (RX11, TX11, 63)) hPc hKc hDc 0 11 rfl rfl) rfl rfl hl.1 rfl (lv_room (Nat.le_of_ble_eq_true rfl)) dX11_voyage_18 ⟨(Nat.le_of_ble_eq_true rfl), (Nat.le_of_ble_eq_true rfl)⟩) hS (fun q _ h => hFc q h) hFc (fun r_5 u t H locs ht hvm w_4 hB hz1 hk1 hS => ?_)
    subst w_4
    exact W.iret (v := (-1)) hx hb hr (fun t ht hW => ⟨⟨(-1), (), rfl, (by simp [sp_voyage, c_3]), trivial⟩, hS.F ht⟩) hS.2.2 dX11_voyage_21
  · refine lv_iload_n hx hb dX11_voyage_9 rfl (lv_at hl 2 rfl) ?_
    have hPc := hP.sub (ws' := []) [] rfl
    have hDc := hD.sub (ws' := []) [] (by decide) rfl
    have hKc := hK.sub (tys' := []) [] rfl
    have hFc : ∀ q, va_A [] H.size q → A q := pu_free hS hA
    refine va_calli (va_runS (As := [.int a2]) (rest := []) ⟨hx, hb, hml, hown, hts⟩ (c_X11_isPort l dC dI H.size a2) (va_cwS 1 hts gX11_voyage_X11_isPort rfl rfl rfl (by decide +kernel) ⟨(Nat.le_of_ble_eq_true rfl), (Nat.le_of_ble_eq_true rfl)⟩) (pr_S hPc hKc hDc) rfl rfl hl.1 rfl (lv_room (Nat.le_of_ble_eq_true rfl)) dX11_voyage_10 ⟨(Nat.le_of_ble_eq_true rfl), (Nat.le_of_ble_eq_true rfl)⟩) hS (fun q _ h => hFc q h) hFc (fun r_7 u t H locs ht hvm w_6 hB hz1 hk1 hS => ?_)
    have hP := pu_keep hP hk1
    clear hk1 hz1 hvm hB hPc hDc hKc hFc ht
    subst w_6
    refine lv_if_ne (tgt := 22) hx hb dX11_voyage_13 (by decide) (fun c_8 => ?_) (fun c_8 => ?_)
    · refine lv_iconst (v := 0) hx hb dX11_voyage_22 (by decide) ?_
      refine lv_istore_n (lv' := [(3, .int 0), (0, .ref g0), (1, .int a1), (2, .int a2)]) hx hb dX11_voyage_23 rfl hl (by decide) rfl (fun ls hl => ?_)
      refine lv_iload_n hx hb dX11_voyage_24 rfl (lv_at hl 0 rfl) ?_
      refine lv_aload_n hx hb dX11_voyage_25 rfl (lv_at hl 1 rfl) ?_
      refine va_get (D := (dC, dI)) (ci := 11) (v := .int 0) (C := RX11) (T := TX11) (N := 63) hx hb hts in_wsX11_voyage_X11 hown hK hP 0 rfl rfl 40 (by decide) (hts (.fieldLink RX11 165 "ShipOfficeModel" "voyages" "I") (by decide +kernel)) (fun _ h9 => h9) rfl dX11_voyage_26 ?_
      refine lv_icmp_ge (tgt := 64) hx hb dX11_voyage_29 (by decide) (fun _ => ?_) (fun c_9 => absurd c_9 (by decide))
      refine lv_aload_n hx hb dX11_voyage_64 rfl (lv_at hl 1 rfl) ?_
      refine va_get (D := (dC, dI)) (ci := 11) (v := .int 0) (C := RX11) (T := TX11) (N := 63) hx hb hts in_wsX11_voyage_X11 hown hK hP 0 rfl rfl 40 (by decide) (hts (.fieldLink RX11 165 "ShipOfficeModel" "voyages" "I") (by decide +kernel)) (fun _ h9 => h9) rfl dX11_voyage_65 ?_
      refine lv_bipush (v := 20) hx hb dX11_voyage_68 (by decide) ?_
      refine lv_icmp_ne (tgt := 80) hx hb dX11_voyage_70 (by decide) (fun _ => ?_) (fun c_10 => absurd c_10 (by decide))
      refine lv_aload_n hx hb dX11_voyage_80 rfl (lv_at hl 1 rfl) ?_
      refine va_get (D := (dC, dI)) (ci := 11) (v := .ref (pq 6)) (C := RX11) (T := TX11) (N := 63) hx hb hts in_wsX11_voyage_X11 hown hK hP 0 rfl rfl 6 (by decide) (hts (.fieldLink RX11 28 "ShipOfficeModel" "ship" "[I") (by decide +kernel)) (fun _ h9 => h9) rfl dX11_voyage_81 ?_
      refine lv_aload_n hx hb dX11_voyage_84 rfl (lv_at hl 1 rfl) ?_
      refine va_get (D := (dC, dI)) (ci := 11) (v := .int 0) (C := RX11) (T := TX11) (N := 63) hx hb hts in_wsX11_voyage_X11 hown hK hP 0 rfl rfl 40 (by decide) (hts (.fieldLink RX11 165 "ShipOfficeModel" "voyages" "I") (by decide +kernel)) (fun _ h9 => h9) rfl dX11_voyage_85 ?_
      refine lv_iload_n hx hb dX11_voyage_88 rfl (lv_at hl 2 rfl) ?_
      refine va_iast hx hb hK hP hD hS 2 1 rfl rfl (by unfold vp_in; decide) dX11_voyage_89 (fun H locs hP hD hS => ?_)
      have hP : va_P (dC, dI) vwCl [(g0, .inr (11, mF pq)), ((pq 0), .inl ((cp 0), 7, .inl (fun _ => 0))), ((pq 6), .inl ((cp 6), 20, .inl (upd (fun _ => 0) (0 : Int32).toNatClampNeg a1))), ((pq 7), .inl ((cp 7), 20, .inl (fun _ => 0))), ((pq 8), .inl ((cp 8), 20, .inl (fun _ => 0))), ((pq 9), .inl ((cp 9), 20, .inl (fun _ => 0)))] H := hP
      have hD : va_D A [(g0, .inr (11, mF pq)), ((pq 0), .inl ((cp 0), 7, .inl (fun _ => 0))), ((pq 6), .inl ((cp 6), 20, .inl (upd (fun _ => 0) (0 : Int32).toNatClampNeg a1))), ((pq 7), .inl ((cp 7), 20, .inl (fun _ => 0))), ((pq 8), .inl ((cp 8), 20, .inl (fun _ => 0))), ((pq 9), .inl ((cp 9), 20, .inl (fun _ => 0)))] := hD
      refine lv_aload_n hx hb dX11_voyage_90 rfl (lv_at hl 1 rfl) ?_
      refine va_get (D := (dC, dI)) (ci := 11) (v := .ref (pq 7)) (C := RX11) (T := TX11) (N := 63) hx hb hts in_wsX11_voyage_X11 hown hK hP 0 rfl rfl 7 (by decide) (hts (.fieldLink RX11 31 "ShipOfficeModel" "opened" "[I") (by decide +kernel)) (fun _ h9 => h9) rfl dX11_voyage_91 ?_
      refine lv_aload_n hx hb dX11_voyage_94 rfl (lv_at hl 1 rfl) ?_
      refine va_get (D := (dC, dI)) (ci := 11) (v := .int 0) (C := RX11) (T := TX11) (N := 63) hx hb hts in_wsX11_voyage_X11 hown hK hP 0 rfl rfl 40 (by decide) (hts (.fieldLink RX11 165 "ShipOfficeModel" "voyages" "I") (by decide +kernel)) (fun _ h9 => h9) rfl dX11_voyage_95 ?_
      refine lv_aload_n hx hb dX11_voyage_98 rfl (lv_at hl 1 rfl) ?_
      refine va_get (D := (dC, dI)) (ci := 11) (v := .int 0) (C := RX11) (T := TX11) (N := 63) hx hb hts in_wsX11_voyage_X11 hown hK hP 0 rfl rfl 38 (by decide) (hts (.fieldLink RX11 171 "ShipOfficeModel" "now" "I") (by decide +kernel)) (fun _ h9 => h9) rfl dX11_voyage_99 ?_
      refine va_iast hx hb hK hP hD hS 3 2 rfl rfl (by unfold vp_in; decide) dX11_voyage_102 (fun H locs hP hD hS => ?_)
      have hP : va_P (dC, dI) vwCl [(g0, .inr (11, mF pq)), ((pq 0), .inl ((cp 0), 7, .inl (fun _ => 0))), ((pq 6), .inl ((cp 6), 20, .inl (upd (fun _ => 0) (0 : Int32).toNatClampNeg a1))), ((pq 7), .inl ((cp 7), 20, .inl (upd (fun _ => 0) (0 : Int32).toNatClampNeg 0))), ((pq 8), .inl ((cp 8), 20, .inl (fun _ => 0))), ((pq 9), .inl ((cp 9), 20, .inl (fun _ => 0)))] H := hP
      have hD : va_D A [(g0, .inr (11, mF pq)), ((pq 0), .inl ((cp 0), 7, .inl (fun _ => 0))), ((pq 6), .inl ((cp 6), 20, .inl (upd (fun _ => 0) (0 : Int32).toNatClampNeg a1))), ((pq 7), .inl ((cp 7), 20, .inl (upd (fun _ => 0) (0 : Int32).toNatClampNeg 0))), ((pq 8), .inl ((cp 8), 20, .inl (fun _ => 0))), ((pq 9), .inl ((cp 9), 20, .inl (fun _ => 0)))] := hD
      refine lv_aload_n hx hb dX11_voyage_103 rfl (lv_at hl 1 rfl) ?_
      refine va_get (D := (dC, dI)) (ci := 11) (v := .ref (pq 8)) (C := RX11) (T := TX11) (N := 63) hx hb hts in_wsX11_voyage_X11 hown hK hP 0 rfl rfl 8 (by decide) (hts (.fieldLink RX11 34 "ShipOfficeModel" "openPort" "[I") (by decide +kernel)) (fun _ h9 => h9) rfl dX11_voyage_104 ?_
      refine lv_aload_n hx hb dX11_voyage_107 rfl (lv_at hl 1 rfl) ?_
      refine va_get (D := (dC, dI)) (ci := 11) (v := .int 0) (C := RX11) (T := TX11) (N := 63) hx hb hts in_wsX11_voyage_X11 hown hK hP 0 rfl rfl 40 (by decide) (hts (.fieldLink RX11 165 "ShipOfficeModel" "voyages" "I") (by decide +kernel)) (fun _ h9 => h9) rfl dX11_voyage_108 ?_
      refine lv_iload_n hx hb dX11_voyage_111 rfl (lv_at hl 3 rfl) ?_
      refine va_iast hx hb hK hP hD hS 4 3 rfl rfl (by unfold vp_in; decide) dX11_voyage_112 (fun H locs hP hD hS => ?_)
      have hP : va_P (dC, dI) vwCl [(g0, .inr (11, mF pq)), ((pq 0), .inl ((cp 0), 7, .inl (fun _ => 0))), ((pq 6), .inl ((cp 6), 20, .inl (upd (fun _ => 0) (0 : Int32).toNatClampNeg a1))), ((pq 7), .inl ((cp 7), 20, .inl (upd (fun _ => 0) (0 : Int32).toNatClampNeg 0))), ((pq 8), .inl ((cp 8), 20, .inl (upd (fun _ => 0) (0 : Int32).toNatClampNeg a2))), ((pq 9), .inl ((cp 9), 20, .inl (fun _ => 0)))] H := hP
      have hD : va_D A [(g0, .inr (11, mF pq)), ((pq 0), .inl ((cp 0), 7, .inl (fun _ => 0))), ((pq 6), .inl ((cp 6), 20, .inl (upd (fun _ => 0) (0 : Int32).toNatClampNeg a1))), ((pq 7), .inl ((cp 7), 20, .inl (upd (fun _ => 0) (0 : Int32).toNatClampNeg 0))), ((pq 8), .inl ((cp 8), 20, .inl (upd (fun _ => 0) (0 : Int32).toNatClampNeg a2))), ((pq 9), .inl ((cp 9), 20, .inl (fun _ => 0)))] := hD
      refine lv_aload_n hx hb dX11_voyage_113 rfl (lv_at hl 1 rfl) ?_
      refine va_get (D := (dC, dI)) (ci := 11) (v := .ref (pq 9)) (C := RX11) (T := TX11) (N := 63) hx hb hts in_wsX11_voyage_X11 hown hK hP 0 rfl rfl 9 (by decide) (hts (.fieldLink RX11 37 "ShipOfficeModel" "endedOn" "[I") (by decide +kernel)) (fun _ h9 => h9) rfl dX11_voyage_114 ?_
      refine lv_aload_n hx hb dX11_voyage_117 rfl (lv_at hl 1 rfl) ?_
      refine va_get (D := (dC, dI)) (ci := 11) (v := .int 0) (C := RX11) (T := TX11) (N := 63) hx hb hts in_wsX11_voyage_X11 hown hK hP 0 rfl rfl 40 (by decide) (hts (.fieldLink RX11 165 "ShipOfficeModel" "voyages" "I") (by decide +kernel)) (fun _ h9 => h9) rfl dX11_voyage_118 ?_
      refine lv_iconst (v := (-1)) hx hb dX11_voyage_121 (by decide) ?_
      refine va_iast hx hb hK hP hD hS 5 4 rfl rfl (by unfold vp_in; decide) dX11_voyage_122 (fun H locs hP hD hS => ?_)
      have hP : va_P (dC, dI) vwCl [(g0, .inr (11, mF pq)), ((pq 0), .inl ((cp 0), 7, .inl (fun _ => 0))), ((pq 6), .inl ((cp 6), 20, .inl (upd (fun _ => 0) (0 : Int32).toNatClampNeg a1))), ((pq 7), .inl ((cp 7), 20, .inl (upd (fun _ => 0) (0 : Int32).toNatClampNeg 0))), ((pq 8), .inl ((cp 8), 20, .inl (upd (fun _ => 0) (0 : Int32).toNatClampNeg a2))), ((pq 9), .inl ((cp 9), 20, .inl (upd (fun _ => 0) (0 : Int32).toNatClampNeg (-1))))] H := hP
      have hD : va_D A [(g0, .inr (11, mF pq)), ((pq 0), .inl ((cp 0), 7, .inl (fun _ => 0))), ((pq 6), .inl ((cp 6), 20, .inl (upd (fun _ => 0) (0 : Int32).toNatClampNeg a1))), ((pq 7), .inl ((cp 7), 20, .inl (upd (fun _ => 0) (0 : Int32).toNatClampNeg 0))), ((pq 8), .inl ((cp 8), 20, .inl (upd (fun _ => 0) (0 : Int32).toNatClampNeg a2))), ((pq 9), .inl ((cp 9), 20, .inl (upd (fun _ => 0) (0 : Int32).toNatClampNeg (-1))))] := hD
      refine lv_aload_n hx hb dX11_voyage_123 rfl (lv_at hl 1 rfl) ?_
      refine lv_dup hx hb dX11_voyage_124 rfl ?_
      refine va_get (D := (dC, dI)) (ci := 11) (v := .int 0) (C := RX11) (T := TX11) (N := 63) hx hb hts in_wsX11_voyage_X11 hown hK hP 0 rfl rfl 40 (by decide) (hts (.fieldLink RX11 165 "ShipOfficeModel" "voyages" "I") (by decide +kernel)) (fun _ h9 => h9) rfl dX11_voyage_125 ?_
      refine lv_iconst (v := 1) hx hb dX11_voyage_128 (by decide) ?_
      refine lv_iadd hx hb dX11_voyage_129 ?_
      refine lv_topi (fun y ey => ?_)
      obtain rfl : y = 1 := ey.trans (by decide)
      refine va_put (D := (dC, dI)) (ci := 11) (v := .int 1) (ty := .int) (C := RX11) (T := TX11) (N := 63) hx hb hts in_wsX11_voyage_X11 tyX11 tyX11_ok nmX11 hown hK hP hD hS 0 rfl rfl 40 (by decide) (hts (.fieldLink RX11 165 "ShipOfficeModel" "voyages" "I") (by decide +kernel)) (fun _ h9 => h9) rfl (by decide +kernel) rfl rfl (Nat.le_of_ble_eq_true rfl) dX11_voyage_130 (fun H locs hP hD hS => ?_)
      have hP : va_P (dC, dI) vwCl [(g0, .inr (11, ((mF pq).set 40 (.int 1)))), ((pq 0), .inl ((cp 0), 7, .inl (fun _ => 0))), ((pq 6), .inl ((cp 6), 20, .inl (upd (fun _ => 0) (0 : Int32).toNatClampNeg a1))), ((pq 7), .inl ((cp 7), 20, .inl (upd (fun _ => 0) (0 : Int32).toNatClampNeg 0))), ((pq 8), .inl ((cp 8), 20, .inl (upd (fun _ => 0) (0 : Int32).toNatClampNeg a2))), ((pq 9), .inl ((cp 9), 20, .inl (upd (fun _ => 0) (0 : Int32).toNatClampNeg (-1))))] H := hP
      have hD : va_D A [(g0, .inr (11, ((mF pq).set 40 (.int 1)))), ((pq 0), .inl ((cp 0), 7, .inl (fun _ => 0))), ((pq 6), .inl ((cp 6), 20, .inl (upd (fun _ => 0) (0 : Int32).toNatClampNeg a1))), ((pq 7), .inl ((cp 7), 20, .inl (upd (fun _ => 0) (0 : Int32).toNatClampNeg 0))), ((pq 8), .inl ((cp 8), 20, .inl (upd (fun _ => 0) (0 : Int32).toNatClampNeg a2))), ((pq 9), .inl ((cp 9), 20, .inl (upd (fun _ => 0) (0 : Int32).toNatClampNeg (-1))))] := hD
      refine lv_aload_n hx hb dX11_voyage_133 rfl (lv_at hl 1 rfl) ?_
      refine va_get (D := (dC, dI)) (ci := 11) (v := .int 1) (C := RX11) (T := TX11) (N := 63) hx hb hts in_wsX11_voyage_X11 hown hK hP 0 rfl rfl 40 (by decide) (hts (.fieldLink RX11 165 "ShipOfficeModel" "voyages" "I") (by decide +kernel)) (fun _ h9 => h9) rfl dX11_voyage_134 ?_
      refine lv_iconst (v := 1) hx hb dX11_voyage_137 (by decide) ?_
      refine lv_isub hx hb dX11_voyage_138 ?_
      refine lv_topi (fun y ey => ?_)
      obtain rfl : y = 0 := ey.trans (by decide)
      exact W.iret (v := 0) hx hb hr (fun t ht hW => ⟨⟨0, (), rfl, (by simp [sp_voyage, c_3, c_8]), trivial⟩, hS.F ht⟩) hS.2.2 dX11_voyage_139
    · refine lv_aload_n hx hb dX11_voyage_16 rfl (lv_at hl 0 rfl) ?_
      refine lv_iconst (v := (-1)) hx hb dX11_voyage_17 (by decide) ?_
      have hPc := hP.sub (ws' := [(g0, .inr (11, mF pq)), ((pq 0), .inl ((cp 0), 7, .inl (fun _ => 0)))]) [0, 1] rfl
      have hDc := hD.sub (ws' := [(g0, .inr (11, mF pq)), ((pq 0), .inl ((cp 0), 7, .inl (fun _ => 0)))]) [0, 1] (by decide) rfl
      have hKc := hK.sub (tys' := [((cp 0), .int)]) [0] rfl
      have hFc := va_free (wc := [(g0, .inr (11, mF pq)), ((pq 0), .inl ((cp 0), 7, .inl (fun _ => 0)))]) hD hS hA [0, 1] rfl
      refine va_calli (va_runV (As := [.int (-1)]) (rest := []) ⟨hx, hb, hml, hown, hts⟩ (c_X11_refuse l dC dI H.size g0 pq cp (-1) (by unfold vp_in; decide)) (cwV 1 hts gX11_voyage_X11_refuse rfl rfl rfl (by decide +kernel) ⟨(Nat.le_of_ble_eq_true rfl), (Nat.le_of_ble_eq_true rfl)⟩) (pr_V (r := (RX11, TX11, 63)) hPc hKc hDc 0 11 rfl rfl) rfl rfl hl.1 rfl (lv_room (Nat.le_of_ble_eq_true rfl)) dX11_voyage_18 ⟨(Nat.le_of_ble_eq_true rfl), (Nat.le_of_ble_eq_true rfl)⟩) hS (fun q _ h => hFc q h) hFc (fun r_12 u t H locs ht hvm w_11 hB hz1 hk1 hS => ?_)
      subst w_11
      exact W.iret (v := (-1)) hx hb hr (fun t ht hW => ⟨⟨(-1), (), rfl, (by simp [sp_voyage, c_3, c_8]), trivial⟩, hS.F ht⟩) hS.2.2 dX11_voyage_21
set_option maxHeartbeats 4000000 in
set_option maxRecDepth 100000 in
theorem c_X11_put (l : Launch) (dC : Nat → ClassId) (dI : Nat → Nat → Nat) (sz : Nat) (g0 : Nat) (pq : Nat → Nat) (cp : Nat → ClassId) (a1 : Int32) : Met l yX11_put wsX11_put ({ frames := 0, cells := 0, slots := 0, locals := 0 }) (va_Pc [.ref g0, .int a1] (pcW (dC, dI) [((cp 61), .int)] [(g0, .inr (11, mF pq)), ((pq 61), .inl ((cp 61), 12, .inl (fun _ => 0)))] sz)) (va_Qi (fun (r : Int32) (u : Unit) => r = 1) (fun _ _ => True) (va_A [(g0, .inr (11, mF pq)), ((pq 61), .inl ((cp 61), 12, .inl (fun _ => 0)))] sz)) 0 0 (va_A [(g0, .inr (11, mF pq)), ((pq 61), .inl ((cp 61), 12, .inl (fun _ => 0)))] sz) := by
  refine Met.ofW (cc := cX11_put) (maxL := 2) (ret := (some .int)) (by decide) rfl ?_
  intro p e s m args below meth c s₁ B hml hv
  obtain ⟨rfl, hsz, hP, hK, hD0⟩ := hv
  have hx := B.exec
  have hb := B.bytes
  have hr := B.returns
  have hts := atoms_spec (ws := wsX11_put) B.pre
  have hown : s.vm.findClass RX11 = some m.cls := findClass_of_methodNamed B.named
  have hlocks := B.notSynchronized
  subst hsz
  have hD := hD0.self (sz := s.heap.size)
  generalize hAe : va_A [(g0, .inr (11, mF pq)), ((pq 61), .inl ((cp 61), 12, .inl (fun _ => 0)))] s.heap.size = A at hD ⊢
  have hA : ∀ q : Nat, s.heap.size ≤ q → A q := fun q h => by rw [← hAe]; exact Or.inr h
  have hS : va_S A s.heap s.heap [] := va_S.rf
  have hP : va_P (dC, dI) vwCl [(g0, .inr (11, mF pq)), ((pq 61), .inl ((cp 61), 12, .inl (fun _ => 0)))] s.heap := hP
  have hl := lv_entry ([.ref g0, .int a1]) (n := 2) (Nat.le_of_ble_eq_true rfl)
  rw [lg_entry_eq]
  generalize (lg_sl ([.ref g0, .int a1]) ++ List.replicate (2 - (lg_sl ([.ref g0, .int a1])).length) Slot.unset).toArray = ls at hl ⊢
  have hl : lv_has ls 2 [(0, .ref g0), (1, .int a1)] := hl
  refine lv_aload_n hx hb dX11_put_0 rfl (lv_at hl 0 rfl) ?_
  refine va_get (D := (dC, dI)) (ci := 11) (v := .int 0) (C := RX11) (T := TX11) (N := 63) hx hb hts in_wsX11_put_X11 hown hK hP 0 rfl rfl 62 (by decide) (hts (.fieldLink RX11 357 "ShipOfficeModel" "rowed" "I") (by decide +kernel)) (fun _ h9 => h9) rfl dX11_put_1 ?_
  refine lv_bipush (v := 12) hx hb dX11_put_4 (by decide) ?_
  refine lv_icmp_ne (tgt := 16) hx hb dX11_put_6 (by decide) (fun _ => ?_) (fun c_1 => absurd c_1 (by decide))
  refine lv_aload_n hx hb dX11_put_16 rfl (lv_at hl 0 rfl) ?_
  refine va_get (D := (dC, dI)) (ci := 11) (v := .ref (pq 61)) (C := RX11) (T := TX11) (N := 63) hx hb hts in_wsX11_put_X11 hown hK hP 0 rfl rfl 61 (by decide) (hts (.fieldLink RX11 149 "ShipOfficeModel" "row" "[I") (by decide +kernel)) (fun _ h9 => h9) rfl dX11_put_17 ?_
  refine lv_aload_n hx hb dX11_put_20 rfl (lv_at hl 0 rfl) ?_
  refine va_get (D := (dC, dI)) (ci := 11) (v := .int 0) (C := RX11) (T := TX11) (N := 63) hx hb hts in_wsX11_put_X11 hown hK hP 0 rfl rfl 62 (by decide) (hts (.fieldLink RX11 357 "ShipOfficeModel" "rowed" "I") (by decide +kernel)) (fun _ h9 => h9) rfl dX11_put_21 ?_
  refine lv_iload_n hx hb dX11_put_24 rfl (lv_at hl 1 rfl) ?_
  refine va_iast hx hb hK hP hD hS 1 0 rfl rfl (by unfold vp_in; decide) dX11_put_25 (fun H locs hP hD hS => ?_)
  have hP : va_P (dC, dI) vwCl [(g0, .inr (11, mF pq)), ((pq 61), .inl ((cp 61), 12, .inl (upd (fun _ => 0) (0 : Int32).toNatClampNeg a1)))] H := hP
  have hD : va_D A [(g0, .inr (11, mF pq)), ((pq 61), .inl ((cp 61), 12, .inl (upd (fun _ => 0) (0 : Int32).toNatClampNeg a1)))] := hD
  refine lv_aload_n hx hb dX11_put_26 rfl (lv_at hl 0 rfl) ?_
  refine lv_dup hx hb dX11_put_27 rfl ?_
  refine va_get (D := (dC, dI)) (ci := 11) (v := .int 0) (C := RX11) (T := TX11) (N := 63) hx hb hts in_wsX11_put_X11 hown hK hP 0 rfl rfl 62 (by decide) (hts (.fieldLink RX11 357 "ShipOfficeModel" "rowed" "I") (by decide +kernel)) (fun _ h9 => h9) rfl dX11_put_28 ?_
  refine lv_iconst (v := 1) hx hb dX11_put_31 (by decide) ?_
  refine lv_iadd hx hb dX11_put_32 ?_
  refine lv_topi (fun y ey => ?_)
  obtain rfl : y = 1 := ey.trans (by decide)
  refine va_put (D := (dC, dI)) (ci := 11) (v := .int 1) (ty := .int) (C := RX11) (T := TX11) (N := 63) hx hb hts in_wsX11_put_X11 tyX11 tyX11_ok nmX11 hown hK hP hD hS 0 rfl rfl 62 (by decide) (hts (.fieldLink RX11 357 "ShipOfficeModel" "rowed" "I") (by decide +kernel)) (fun _ h9 => h9) rfl (by decide +kernel) rfl rfl (Nat.le_of_ble_eq_true rfl) dX11_put_33 (fun H locs hP hD hS => ?_)
  have hP : va_P (dC, dI) vwCl [(g0, .inr (11, ((mF pq).set 62 (.int 1)))), ((pq 61), .inl ((cp 61), 12, .inl (upd (fun _ => 0) (0 : Int32).toNatClampNeg a1)))] H := hP
  have hD : va_D A [(g0, .inr (11, ((mF pq).set 62 (.int 1)))), ((pq 61), .inl ((cp 61), 12, .inl (upd (fun _ => 0) (0 : Int32).toNatClampNeg a1)))] := hD
  refine lv_aload_n hx hb dX11_put_36 rfl (lv_at hl 0 rfl) ?_
  refine va_get (D := (dC, dI)) (ci := 11) (v := .int 1) (C := RX11) (T := TX11) (N := 63) hx hb hts in_wsX11_put_X11 hown hK hP 0 rfl rfl 62 (by decide) (hts (.fieldLink RX11 357 "ShipOfficeModel" "rowed" "I") (by decide +kernel)) (fun _ h9 => h9) rfl dX11_put_37 ?_
  exact W.iret (v := 1) hx hb hr (fun t ht hW => ⟨⟨1, (), rfl, rfl, trivial⟩, hS.F ht⟩) hS.2.2 dX11_put_40
set_option maxHeartbeats 4000000 in
set_option maxRecDepth 100000 in
theorem c_X11_count (l : Launch) (dC : Nat → ClassId) (dI : Nat → Nat → Nat) (sz : Nat) (g0 : Nat) (pq : Nat → Nat) (cp : Nat → ClassId) (a1 : Int32) : Met l yX11_count wsX11_count ({ frames := 0, cells := 0, slots := 0, locals := 0 }) (va_Pc [.ref g0, .int a1] (pcW (dC, dI) [((cp 0), .int)] [(g0, .inr (11, mF pq)), ((pq 0), .inl ((cp 0), 7, .inl (fun _ => 0)))] sz)) (va_Qi (fun (r : Int32) (u : Unit) => r = sp_count a1) (fun _ _ => True) (va_A [(g0, .inr (11, mF pq)), ((pq 0), .inl ((cp 0), 7, .inl (fun _ => 0)))] sz)) 0 0 (va_A [(g0, .inr (11, mF pq)), ((pq 0), .inl ((cp 0), 7, .inl (fun _ => 0)))] sz) := by
  refine Met.ofW (cc := cX11_count) (maxL := 4) (ret := (some .int)) (by decide) rfl ?_
  intro p e s m args below meth c s₁ B hml hv
  obtain ⟨rfl, hsz, hP, hK, hD0⟩ := hv
  have hx := B.exec
  have hb := B.bytes
  have hr := B.returns
  have hts := atoms_spec (ws := wsX11_count) B.pre
  have hown : s.vm.findClass RX11 = some m.cls := findClass_of_methodNamed B.named
  have hlocks := B.notSynchronized
  subst hsz
  have hD := hD0.self (sz := s.heap.size)
  generalize hAe : va_A [(g0, .inr (11, mF pq)), ((pq 0), .inl ((cp 0), 7, .inl (fun _ => 0)))] s.heap.size = A at hD ⊢
  have hA : ∀ q : Nat, s.heap.size ≤ q → A q := fun q h => by rw [← hAe]; exact Or.inr h
  have hS : va_S A s.heap s.heap [] := va_S.rf
  have hP : va_P (dC, dI) vwCl [(g0, .inr (11, mF pq)), ((pq 0), .inl ((cp 0), 7, .inl (fun _ => 0)))] s.heap := hP
  have hl := lv_entry ([.ref g0, .int a1]) (n := 4) (Nat.le_of_ble_eq_true rfl)
  rw [lg_entry_eq]
  generalize (lg_sl ([.ref g0, .int a1]) ++ List.replicate (4 - (lg_sl ([.ref g0, .int a1])).length) Slot.unset).toArray = ls at hl ⊢
  have hl : lv_has ls 4 [(0, .ref g0), (1, .int a1)] := hl
  rcases pk_ix a1 (n := 18) (by decide) with h9 | h9 | ⟨j, hj, e9⟩
  · refine lv_iload_n hx hb dX11_count_0 rfl (lv_at hl 1 rfl) ?_
    refine lv_bipush (v := 10) hx hb dX11_count_1 (by decide) ?_
    refine lv_icmp_le (tgt := 22) hx hb dX11_count_3 (by decide) (fun c_1 => ?_) (fun c_1 => absurd c_1 (fun h => h (ile_of_lt h9 (by decide))))
    refine lv_iconst (v := 0) hx hb dX11_count_22 (by decide) ?_
    refine lv_istore_n (lv' := [(2, .int 0), (0, .ref g0), (1, .int a1)]) hx hb dX11_count_23 rfl hl (by decide) rfl (fun ls hl => ?_)
    refine lv_iload_n hx hb dX11_count_24 rfl (lv_at hl 2 rfl) ?_
    refine lv_tableOut (tgt := 255) hx hb dX11_count_25 (Or.inl (cnt_neg h9)) (by decide) ?_
    refine lv_bipush (v := (-9)) hx hb dX11_count_255 (by decide) ?_
    exact W.iret (v := (-9)) hx hb hr (fun t ht hW => ⟨⟨(-9), (), rfl, (by simp [sp_count, h9]), trivial⟩, hS.F ht⟩) hS.2.2 dX11_count_257
  · refine lv_iload_n hx hb dX11_count_0 rfl (lv_at hl 1 rfl) ?_
    refine lv_bipush (v := 10) hx hb dX11_count_1 (by decide) ?_
    refine lv_icmp_le (tgt := 22) hx hb dX11_count_3 (by decide) (fun c_2 => absurd c_2 (nle_of_le h9 (by decide))) (fun c_2 => ?_)
    refine lv_iload_n hx hb dX11_count_6 rfl (lv_at hl 1 rfl) ?_
    refine lv_bipush (v := 17) hx hb dX11_count_7 (by decide) ?_
    refine lv_icmp_ge (tgt := 22) hx hb dX11_count_9 (by decide) (fun c_3 => ?_) (fun c_3 => absurd c_3 (fun h => h (Int32.not_lt.mp (nlt_of h9 (by decide)))))
    refine lv_iconst (v := 0) hx hb dX11_count_22 (by decide) ?_
    refine lv_istore_n (lv' := [(2, .int 0), (0, .ref g0), (1, .int a1)]) hx hb dX11_count_23 rfl hl (by decide) rfl (fun ls hl => ?_)
    refine lv_iload_n hx hb dX11_count_24 rfl (lv_at hl 2 rfl) ?_
    refine lv_tableOut (tgt := 255) hx hb dX11_count_25 (Or.inr (cnt_big h9)) (by decide) ?_
    refine lv_bipush (v := (-9)) hx hb dX11_count_255 (by decide) ?_
    exact W.iret (v := (-9)) hx hb hr (fun t ht hW => ⟨⟨(-9), (), rfl, (by rw [sp_count, if_neg (nlt_of h9 (by decide)), if_pos (show (18 : Int32) ≤ a1 from h9)]), trivial⟩, hS.F ht⟩) hS.2.2 dX11_count_257
  · rcases (show j = 0 ∨ j = 1 ∨ j = 2 ∨ j = 3 ∨ j = 4 ∨ j = 5 ∨ j = 6 ∨ j = 7 ∨ j = 8 ∨ j = 9 ∨ j = 10 ∨ j = 11 ∨ j = 12 ∨ j = 13 ∨ j = 14 ∨ j = 15 ∨ j = 16 ∨ j = 17 by omega) with rfl | rfl | rfl | rfl | rfl | rfl | rfl | rfl | rfl | rfl | rfl | rfl | rfl | rfl | rfl | rfl | rfl | rfl
    · obtain rfl : a1 = 0 := e9.trans (by decide)
      refine lv_iload_n hx hb dX11_count_0 rfl (lv_at hl 1 rfl) ?_
      refine lv_bipush (v := 10) hx hb dX11_count_1 (by decide) ?_
      refine lv_icmp_le (tgt := 22) hx hb dX11_count_3 (by decide) (fun _ => ?_) (fun c_4 => absurd c_4 (by decide))
      refine lv_iconst (v := 0) hx hb dX11_count_22 (by decide) ?_
      refine lv_istore_n (lv' := [(2, .int 0), (0, .ref g0), (1, .int 0)]) hx hb dX11_count_23 rfl hl (by decide) rfl (fun ls hl => ?_)
      refine lv_iload_n hx hb dX11_count_24 rfl (lv_at hl 2 rfl) ?_
      refine lv_tableIn (x := 0) (off := 87) (tgt := 112) hx hb dX11_count_25 (by decide) (by decide) (by decide) (by decide) ?_
      refine lv_aload_n hx hb dX11_count_112 rfl (lv_at hl 1 rfl) ?_
      refine va_get (D := (dC, dI)) (ci := 11) (v := .int 0) (C := RX11) (T := TX11) (N := 63) hx hb hts in_wsX11_count_X11 hown hK hP 0 rfl rfl 38 (by decide) (hts (.fieldLink RX11 171 "ShipOfficeModel" "now" "I") (by decide +kernel)) (fun _ h9 => h9) rfl dX11_count_113 ?_
      exact W.iret (v := 0) hx hb hr (fun t ht hW => ⟨⟨0, (), rfl, (by decide), trivial⟩, hS.F ht⟩) hS.2.2 dX11_count_116
    · obtain rfl : a1 = 1 := e9.trans (by decide)
      refine lv_iload_n hx hb dX11_count_0 rfl (lv_at hl 1 rfl) ?_
      refine lv_bipush (v := 10) hx hb dX11_count_1 (by decide) ?_
      refine lv_icmp_le (tgt := 22) hx hb dX11_count_3 (by decide) (fun _ => ?_) (fun c_5 => absurd c_5 (by decide))
      refine lv_iconst (v := 0) hx hb dX11_count_22 (by decide) ?_
      refine lv_istore_n (lv' := [(2, .int 0), (0, .ref g0), (1, .int 1)]) hx hb dX11_count_23 rfl hl (by decide) rfl (fun ls hl => ?_)
      refine lv_iload_n hx hb dX11_count_24 rfl (lv_at hl 2 rfl) ?_
      refine lv_tableIn (x := 1) (off := 92) (tgt := 117) hx hb dX11_count_25 (by decide) (by decide) (by decide) (by decide) ?_
      refine lv_aload_n hx hb dX11_count_117 rfl (lv_at hl 1 rfl) ?_
      refine va_get (D := (dC, dI)) (ci := 11) (v := .int 0) (C := RX11) (T := TX11) (N := 63) hx hb hts in_wsX11_count_X11 hown hK hP 0 rfl rfl 39 (by decide) (hts (.fieldLink RX11 157 "ShipOfficeModel" "men" "I") (by decide +kernel)) (fun _ h9 => h9) rfl dX11_count_118 ?_
      exact W.iret (v := 0) hx hb hr (fun t ht hW => ⟨⟨0, (), rfl, (by decide), trivial⟩, hS.F ht⟩) hS.2.2 dX11_count_121
    · obtain rfl : a1 = 2 := e9.trans (by decide)
      refine lv_iload_n hx hb dX11_count_0 rfl (lv_at hl 1 rfl) ?_
      refine lv_bipush (v := 10) hx hb dX11_count_1 (by decide) ?_
      refine lv_icmp_le (tgt := 22) hx hb dX11_count_3 (by decide) (fun _ => ?_) (fun c_6 => absurd c_6 (by decide))
      refine lv_iconst (v := 0) hx hb dX11_count_22 (by decide) ?_
      refine lv_istore_n (lv' := [(2, .int 0), (0, .ref g0), (1, .int 2)]) hx hb dX11_count_23 rfl hl (by decide) rfl (fun ls hl => ?_)
      refine lv_iload_n hx hb dX11_count_24 rfl (lv_at hl 2 rfl) ?_
      refine lv_tableIn (x := 2) (off := 97) (tgt := 122) hx hb dX11_count_25 (by decide) (by decide) (by decide) (by decide) ?_
      refine lv_aload_n hx hb dX11_count_122 rfl (lv_at hl 1 rfl) ?_
      refine va_get (D := (dC, dI)) (ci := 11) (v := .int 0) (C := RX11) (T := TX11) (N := 63) hx hb hts in_wsX11_count_X11 hown hK hP 0 rfl rfl 40 (by decide) (hts (.fieldLink RX11 165 "ShipOfficeModel" "voyages" "I") (by decide +kernel)) (fun _ h9 => h9) rfl dX11_count_123 ?_
      exact W.iret (v := 0) hx hb hr (fun t ht hW => ⟨⟨0, (), rfl, (by decide), trivial⟩, hS.F ht⟩) hS.2.2 dX11_count_126
    · obtain rfl : a1 = 3 := e9.trans (by decide)
      refine lv_iload_n hx hb dX11_count_0 rfl (lv_at hl 1 rfl) ?_
      refine lv_bipush (v := 10) hx hb dX11_count_1 (by decide) ?_
      refine lv_icmp_le (tgt := 22) hx hb dX11_count_3 (by decide) (fun _ => ?_) (fun c_7 => absurd c_7 (by decide))
      refine lv_iconst (v := 0) hx hb dX11_count_22 (by decide) ?_
      refine lv_istore_n (lv' := [(2, .int 0), (0, .ref g0), (1, .int 3)]) hx hb dX11_count_23 rfl hl (by decide) rfl (fun ls hl => ?_)
      refine lv_iload_n hx hb dX11_count_24 rfl (lv_at hl 2 rfl) ?_
      refine lv_tableIn (x := 3) (off := 102) (tgt := 127) hx hb dX11_count_25 (by decide) (by decide) (by decide) (by decide) ?_
      refine lv_iconst (v := 0) hx hb dX11_count_127 (by decide) ?_
      refine lv_istore_n (lv' := [(3, .int 0), (2, .int 0), (0, .ref g0), (1, .int 3)]) hx hb dX11_count_128 rfl hl (by decide) rfl (fun ls hl => ?_)
      refine lv_iload_n hx hb dX11_count_129 rfl (lv_at hl 0 rfl) ?_
      refine lv_aload_n hx hb dX11_count_130 rfl (lv_at hl 2 rfl) ?_
      refine va_get (D := (dC, dI)) (ci := 11) (v := .int 0) (C := RX11) (T := TX11) (N := 63) hx hb hts in_wsX11_count_X11 hown hK hP 0 rfl rfl 40 (by decide) (hts (.fieldLink RX11 165 "ShipOfficeModel" "voyages" "I") (by decide +kernel)) (fun _ h9 => h9) rfl dX11_count_131 ?_
      refine lv_icmp_ge (tgt := 160) hx hb dX11_count_134 (by decide) (fun _ => ?_) (fun c_8 => absurd c_8 (by decide))
      refine lv_iload_n hx hb dX11_count_160 rfl (lv_at hl 1 rfl) ?_
      exact W.iret (v := 0) hx hb hr (fun t ht hW => ⟨⟨0, (), rfl, (by decide), trivial⟩, hS.F ht⟩) hS.2.2 dX11_count_161
    · obtain rfl : a1 = 4 := e9.trans (by decide)
      refine lv_iload_n hx hb dX11_count_0 rfl (lv_at hl 1 rfl) ?_
      refine lv_bipush (v := 10) hx hb dX11_count_1 (by decide) ?_
      refine lv_icmp_le (tgt := 22) hx hb dX11_count_3 (by decide) (fun _ => ?_) (fun c_9 => absurd c_9 (by decide))
      refine lv_iconst (v := 0) hx hb dX11_count_22 (by decide) ?_
      refine lv_istore_n (lv' := [(2, .int 0), (0, .ref g0), (1, .int 4)]) hx hb dX11_count_23 rfl hl (by decide) rfl (fun ls hl => ?_)
      refine lv_iload_n hx hb dX11_count_24 rfl (lv_at hl 2 rfl) ?_
      refine lv_tableIn (x := 4) (off := 137) (tgt := 162) hx hb dX11_count_25 (by decide) (by decide) (by decide) (by decide) ?_
      refine lv_aload_n hx hb dX11_count_162 rfl (lv_at hl 1 rfl) ?_
      refine va_get (D := (dC, dI)) (ci := 11) (v := .int 0) (C := RX11) (T := TX11) (N := 63) hx hb hts in_wsX11_count_X11 hown hK hP 0 rfl rfl 43 (by decide) (hts (.fieldLink RX11 168 "ShipOfficeModel" "agreements" "I") (by decide +kernel)) (fun _ h9 => h9) rfl dX11_count_163 ?_
      exact W.iret (v := 0) hx hb hr (fun t ht hW => ⟨⟨0, (), rfl, (by decide), trivial⟩, hS.F ht⟩) hS.2.2 dX11_count_166
    · obtain rfl : a1 = 5 := e9.trans (by decide)
      refine lv_iload_n hx hb dX11_count_0 rfl (lv_at hl 1 rfl) ?_
      refine lv_bipush (v := 10) hx hb dX11_count_1 (by decide) ?_
      refine lv_icmp_le (tgt := 22) hx hb dX11_count_3 (by decide) (fun _ => ?_) (fun c_10 => absurd c_10 (by decide))
      refine lv_iconst (v := 0) hx hb dX11_count_22 (by decide) ?_
      refine lv_istore_n (lv' := [(2, .int 0), (0, .ref g0), (1, .int 5)]) hx hb dX11_count_23 rfl hl (by decide) rfl (fun ls hl => ?_)
      refine lv_iload_n hx hb dX11_count_24 rfl (lv_at hl 2 rfl) ?_
      refine lv_tableIn (x := 5) (off := 142) (tgt := 167) hx hb dX11_count_25 (by decide) (by decide) (by decide) (by decide) ?_
      refine lv_iconst (v := 0) hx hb dX11_count_167 (by decide) ?_
      refine lv_istore_n (lv' := [(3, .int 0), (2, .int 0), (0, .ref g0), (1, .int 5)]) hx hb dX11_count_168 rfl hl (by decide) rfl (fun ls hl => ?_)
      refine lv_iload_n hx hb dX11_count_169 rfl (lv_at hl 0 rfl) ?_
      refine lv_aload_n hx hb dX11_count_170 rfl (lv_at hl 2 rfl) ?_
      refine va_get (D := (dC, dI)) (ci := 11) (v := .int 0) (C := RX11) (T := TX11) (N := 63) hx hb hts in_wsX11_count_X11 hown hK hP 0 rfl rfl 43 (by decide) (hts (.fieldLink RX11 168 "ShipOfficeModel" "agreements" "I") (by decide +kernel)) (fun _ h9 => h9) rfl dX11_count_171 ?_
      refine lv_icmp_ge (tgt := 199) hx hb dX11_count_174 (by decide) (fun _ => ?_) (fun c_11 => absurd c_11 (by decide))
      refine lv_iload_n hx hb dX11_count_199 rfl (lv_at hl 1 rfl) ?_
      exact W.iret (v := 0) hx hb hr (fun t ht hW => ⟨⟨0, (), rfl, (by decide), trivial⟩, hS.F ht⟩) hS.2.2 dX11_count_200
    · obtain rfl : a1 = 6 := e9.trans (by decide)
      refine lv_iload_n hx hb dX11_count_0 rfl (lv_at hl 1 rfl) ?_
      refine lv_bipush (v := 10) hx hb dX11_count_1 (by decide) ?_
      refine lv_icmp_le (tgt := 22) hx hb dX11_count_3 (by decide) (fun _ => ?_) (fun c_12 => absurd c_12 (by decide))
      refine lv_iconst (v := 0) hx hb dX11_count_22 (by decide) ?_
      refine lv_istore_n (lv' := [(2, .int 0), (0, .ref g0), (1, .int 6)]) hx hb dX11_count_23 rfl hl (by decide) rfl (fun ls hl => ?_)
      refine lv_iload_n hx hb dX11_count_24 rfl (lv_at hl 2 rfl) ?_
      refine lv_tableIn (x := 6) (off := 176) (tgt := 201) hx hb dX11_count_25 (by decide) (by decide) (by decide) (by decide) ?_
      refine lv_aload_n hx hb dX11_count_201 rfl (lv_at hl 1 rfl) ?_
      refine va_get (D := (dC, dI)) (ci := 11) (v := .int 0) (C := RX11) (T := TX11) (N := 63) hx hb hts in_wsX11_count_X11 hown hK hP 0 rfl rfl 41 (by decide) (hts (.fieldLink RX11 179 "ShipOfficeModel" "happened" "I") (by decide +kernel)) (fun _ h9 => h9) rfl dX11_count_202 ?_
      exact W.iret (v := 0) hx hb hr (fun t ht hW => ⟨⟨0, (), rfl, (by decide), trivial⟩, hS.F ht⟩) hS.2.2 dX11_count_205
    · obtain rfl : a1 = 7 := e9.trans (by decide)
      refine lv_iload_n hx hb dX11_count_0 rfl (lv_at hl 1 rfl) ?_
      refine lv_bipush (v := 10) hx hb dX11_count_1 (by decide) ?_
      refine lv_icmp_le (tgt := 22) hx hb dX11_count_3 (by decide) (fun _ => ?_) (fun c_13 => absurd c_13 (by decide))
      refine lv_iconst (v := 0) hx hb dX11_count_22 (by decide) ?_
      refine lv_istore_n (lv' := [(2, .int 0), (0, .ref g0), (1, .int 7)]) hx hb dX11_count_23 rfl hl (by decide) rfl (fun ls hl => ?_)
      refine lv_iload_n hx hb dX11_count_24 rfl (lv_at hl 2 rfl) ?_
      refine lv_tableIn (x := 7) (off := 181) (tgt := 206) hx hb dX11_count_25 (by decide) (by decide) (by decide) (by decide) ?_
      refine lv_aload_n hx hb dX11_count_206 rfl (lv_at hl 1 rfl) ?_
      refine va_get (D := (dC, dI)) (ci := 11) (v := .int 0) (C := RX11) (T := TX11) (N := 63) hx hb hts in_wsX11_count_X11 hown hK hP 0 rfl rfl 42 (by decide) (hts (.fieldLink RX11 256 "ShipOfficeModel" "acts" "I") (by decide +kernel)) (fun _ h9 => h9) rfl dX11_count_207 ?_
      exact W.iret (v := 0) hx hb hr (fun t ht hW => ⟨⟨0, (), rfl, (by decide), trivial⟩, hS.F ht⟩) hS.2.2 dX11_count_210
    · obtain rfl : a1 = 8 := e9.trans (by decide)
      refine lv_iload_n hx hb dX11_count_0 rfl (lv_at hl 1 rfl) ?_
      refine lv_bipush (v := 10) hx hb dX11_count_1 (by decide) ?_
      refine lv_icmp_le (tgt := 22) hx hb dX11_count_3 (by decide) (fun _ => ?_) (fun c_14 => absurd c_14 (by decide))
      refine lv_iconst (v := 0) hx hb dX11_count_22 (by decide) ?_
      refine lv_istore_n (lv' := [(2, .int 0), (0, .ref g0), (1, .int 8)]) hx hb dX11_count_23 rfl hl (by decide) rfl (fun ls hl => ?_)
      refine lv_iload_n hx hb dX11_count_24 rfl (lv_at hl 2 rfl) ?_
      refine lv_tableIn (x := 8) (off := 186) (tgt := 211) hx hb dX11_count_25 (by decide) (by decide) (by decide) (by decide) ?_
      refine lv_aload_n hx hb dX11_count_211 rfl (lv_at hl 1 rfl) ?_
      refine va_get (D := (dC, dI)) (ci := 11) (v := .int 0) (C := RX11) (T := TX11) (N := 63) hx hb hts in_wsX11_count_X11 hown hK hP 0 rfl rfl 46 (by decide) (hts (.fieldLink RX11 205 "ShipOfficeModel" "taped" "I") (by decide +kernel)) (fun _ h9 => h9) rfl dX11_count_212 ?_
      exact W.iret (v := 0) hx hb hr (fun t ht hW => ⟨⟨0, (), rfl, (by decide), trivial⟩, hS.F ht⟩) hS.2.2 dX11_count_215
    · obtain rfl : a1 = 9 := e9.trans (by decide)
      refine lv_iload_n hx hb dX11_count_0 rfl (lv_at hl 1 rfl) ?_
      refine lv_bipush (v := 10) hx hb dX11_count_1 (by decide) ?_
      refine lv_icmp_le (tgt := 22) hx hb dX11_count_3 (by decide) (fun _ => ?_) (fun c_15 => absurd c_15 (by decide))
      refine lv_iconst (v := 0) hx hb dX11_count_22 (by decide) ?_
      refine lv_istore_n (lv' := [(2, .int 0), (0, .ref g0), (1, .int 9)]) hx hb dX11_count_23 rfl hl (by decide) rfl (fun ls hl => ?_)
      refine lv_iload_n hx hb dX11_count_24 rfl (lv_at hl 2 rfl) ?_
      refine lv_tableIn (x := 9) (off := 191) (tgt := 216) hx hb dX11_count_25 (by decide) (by decide) (by decide) (by decide) ?_
      refine lv_aload_n hx hb dX11_count_216 rfl (lv_at hl 1 rfl) ?_
      refine va_get (D := (dC, dI)) (ci := 11) (v := .int 0) (C := RX11) (T := TX11) (N := 63) hx hb hts in_wsX11_count_X11 hown hK hP 0 rfl rfl 62 (by decide) (hts (.fieldLink RX11 357 "ShipOfficeModel" "rowed" "I") (by decide +kernel)) (fun _ h9 => h9) rfl dX11_count_217 ?_
      exact W.iret (v := 0) hx hb hr (fun t ht hW => ⟨⟨0, (), rfl, (by decide), trivial⟩, hS.F ht⟩) hS.2.2 dX11_count_220
    · obtain rfl : a1 = 10 := e9.trans (by decide)
      refine lv_iload_n hx hb dX11_count_0 rfl (lv_at hl 1 rfl) ?_
      refine lv_bipush (v := 10) hx hb dX11_count_1 (by decide) ?_
      refine lv_icmp_le (tgt := 22) hx hb dX11_count_3 (by decide) (fun _ => ?_) (fun c_16 => absurd c_16 (by decide))
      refine lv_iconst (v := 0) hx hb dX11_count_22 (by decide) ?_
      refine lv_istore_n (lv' := [(2, .int 0), (0, .ref g0), (1, .int 10)]) hx hb dX11_count_23 rfl hl (by decide) rfl (fun ls hl => ?_)
      refine lv_iload_n hx hb dX11_count_24 rfl (lv_at hl 2 rfl) ?_
      refine lv_tableIn (x := 10) (off := 230) (tgt := 255) hx hb dX11_count_25 (by decide) (by decide) (by decide) (by decide) ?_
      refine lv_bipush (v := (-9)) hx hb dX11_count_255 (by decide) ?_
      exact W.iret (v := (-9)) hx hb hr (fun t ht hW => ⟨⟨(-9), (), rfl, (by decide), trivial⟩, hS.F ht⟩) hS.2.2 dX11_count_257
    · obtain rfl : a1 = 11 := e9.trans (by decide)
      refine lv_iload_n hx hb dX11_count_0 rfl (lv_at hl 1 rfl) ?_
      refine lv_bipush (v := 10) hx hb dX11_count_1 (by decide) ?_
      refine lv_icmp_le (tgt := 22) hx hb dX11_count_3 (by decide) (fun c_17 => absurd c_17 (by decide)) (fun _ => ?_)
      refine lv_iload_n hx hb dX11_count_6 rfl (lv_at hl 1 rfl) ?_
      refine lv_bipush (v := 17) hx hb dX11_count_7 (by decide) ?_
      refine lv_icmp_ge (tgt := 22) hx hb dX11_count_9 (by decide) (fun c_18 => absurd c_18 (by decide)) (fun _ => ?_)
      refine lv_aload_n hx hb dX11_count_12 rfl (lv_at hl 0 rfl) ?_
      refine va_get (D := (dC, dI)) (ci := 11) (v := .ref (pq 0)) (C := RX11) (T := TX11) (N := 63) hx hb hts in_wsX11_count_X11 hown hK hP 0 rfl rfl 0 (by decide) (hts (.fieldLink RX11 7 "ShipOfficeModel" "refusals" "[I") (by decide +kernel)) (fun _ h9 => h9) rfl dX11_count_13 ?_
      refine lv_iload_n hx hb dX11_count_16 rfl (lv_at hl 1 rfl) ?_
      refine lv_bipush (v := 10) hx hb dX11_count_17 (by decide) ?_
      refine lv_isub hx hb dX11_count_19 ?_
      refine lv_topi (fun y ey => ?_)
      obtain rfl : y = 1 := ey.trans (by decide)
      refine va_iald hx hb hK hP 1 0 rfl rfl (by unfold vp_in; decide) dX11_count_20 ?_
      refine W.eq (g2 := F0 m 21 ls [.int 0]) rfl ?_
      exact W.iret (v := 0) hx hb hr (fun t ht hW => ⟨⟨0, (), rfl, (by decide), trivial⟩, hS.F ht⟩) hS.2.2 dX11_count_21
    · obtain rfl : a1 = 12 := e9.trans (by decide)
      refine lv_iload_n hx hb dX11_count_0 rfl (lv_at hl 1 rfl) ?_
      refine lv_bipush (v := 10) hx hb dX11_count_1 (by decide) ?_
      refine lv_icmp_le (tgt := 22) hx hb dX11_count_3 (by decide) (fun c_19 => absurd c_19 (by decide)) (fun _ => ?_)
      refine lv_iload_n hx hb dX11_count_6 rfl (lv_at hl 1 rfl) ?_
      refine lv_bipush (v := 17) hx hb dX11_count_7 (by decide) ?_
      refine lv_icmp_ge (tgt := 22) hx hb dX11_count_9 (by decide) (fun c_20 => absurd c_20 (by decide)) (fun _ => ?_)
      refine lv_aload_n hx hb dX11_count_12 rfl (lv_at hl 0 rfl) ?_
      refine va_get (D := (dC, dI)) (ci := 11) (v := .ref (pq 0)) (C := RX11) (T := TX11) (N := 63) hx hb hts in_wsX11_count_X11 hown hK hP 0 rfl rfl 0 (by decide) (hts (.fieldLink RX11 7 "ShipOfficeModel" "refusals" "[I") (by decide +kernel)) (fun _ h9 => h9) rfl dX11_count_13 ?_
      refine lv_iload_n hx hb dX11_count_16 rfl (lv_at hl 1 rfl) ?_
      refine lv_bipush (v := 10) hx hb dX11_count_17 (by decide) ?_
      refine lv_isub hx hb dX11_count_19 ?_
      refine lv_topi (fun y ey => ?_)
      obtain rfl : y = 2 := ey.trans (by decide)
      refine va_iald hx hb hK hP 1 0 rfl rfl (by unfold vp_in; decide) dX11_count_20 ?_
      refine W.eq (g2 := F0 m 21 ls [.int 0]) rfl ?_
      exact W.iret (v := 0) hx hb hr (fun t ht hW => ⟨⟨0, (), rfl, (by decide), trivial⟩, hS.F ht⟩) hS.2.2 dX11_count_21
    · obtain rfl : a1 = 13 := e9.trans (by decide)
      refine lv_iload_n hx hb dX11_count_0 rfl (lv_at hl 1 rfl) ?_
      refine lv_bipush (v := 10) hx hb dX11_count_1 (by decide) ?_
      refine lv_icmp_le (tgt := 22) hx hb dX11_count_3 (by decide) (fun c_21 => absurd c_21 (by decide)) (fun _ => ?_)
      refine lv_iload_n hx hb dX11_count_6 rfl (lv_at hl 1 rfl) ?_
      refine lv_bipush (v := 17) hx hb dX11_count_7 (by decide) ?_
      refine lv_icmp_ge (tgt := 22) hx hb dX11_count_9 (by decide) (fun c_22 => absurd c_22 (by decide)) (fun _ => ?_)
      refine lv_aload_n hx hb dX11_count_12 rfl (lv_at hl 0 rfl) ?_
      refine va_get (D := (dC, dI)) (ci := 11) (v := .ref (pq 0)) (C := RX11) (T := TX11) (N := 63) hx hb hts in_wsX11_count_X11 hown hK hP 0 rfl rfl 0 (by decide) (hts (.fieldLink RX11 7 "ShipOfficeModel" "refusals" "[I") (by decide +kernel)) (fun _ h9 => h9) rfl dX11_count_13 ?_
      refine lv_iload_n hx hb dX11_count_16 rfl (lv_at hl 1 rfl) ?_
      refine lv_bipush (v := 10) hx hb dX11_count_17 (by decide) ?_
      refine lv_isub hx hb dX11_count_19 ?_
      refine lv_topi (fun y ey => ?_)
      obtain rfl : y = 3 := ey.trans (by decide)
      refine va_iald hx hb hK hP 1 0 rfl rfl (by unfold vp_in; decide) dX11_count_20 ?_
      refine W.eq (g2 := F0 m 21 ls [.int 0]) rfl ?_
      exact W.iret (v := 0) hx hb hr (fun t ht hW => ⟨⟨0, (), rfl, (by decide), trivial⟩, hS.F ht⟩) hS.2.2 dX11_count_21
    · obtain rfl : a1 = 14 := e9.trans (by decide)
      refine lv_iload_n hx hb dX11_count_0 rfl (lv_at hl 1 rfl) ?_
      refine lv_bipush (v := 10) hx hb dX11_count_1 (by decide) ?_
      refine lv_icmp_le (tgt := 22) hx hb dX11_count_3 (by decide) (fun c_23 => absurd c_23 (by decide)) (fun _ => ?_)
      refine lv_iload_n hx hb dX11_count_6 rfl (lv_at hl 1 rfl) ?_
      refine lv_bipush (v := 17) hx hb dX11_count_7 (by decide) ?_
      refine lv_icmp_ge (tgt := 22) hx hb dX11_count_9 (by decide) (fun c_24 => absurd c_24 (by decide)) (fun _ => ?_)
      refine lv_aload_n hx hb dX11_count_12 rfl (lv_at hl 0 rfl) ?_
      refine va_get (D := (dC, dI)) (ci := 11) (v := .ref (pq 0)) (C := RX11) (T := TX11) (N := 63) hx hb hts in_wsX11_count_X11 hown hK hP 0 rfl rfl 0 (by decide) (hts (.fieldLink RX11 7 "ShipOfficeModel" "refusals" "[I") (by decide +kernel)) (fun _ h9 => h9) rfl dX11_count_13 ?_
      refine lv_iload_n hx hb dX11_count_16 rfl (lv_at hl 1 rfl) ?_
      refine lv_bipush (v := 10) hx hb dX11_count_17 (by decide) ?_
      refine lv_isub hx hb dX11_count_19 ?_
      refine lv_topi (fun y ey => ?_)
      obtain rfl : y = 4 := ey.trans (by decide)
      refine va_iald hx hb hK hP 1 0 rfl rfl (by unfold vp_in; decide) dX11_count_20 ?_
      refine W.eq (g2 := F0 m 21 ls [.int 0]) rfl ?_
      exact W.iret (v := 0) hx hb hr (fun t ht hW => ⟨⟨0, (), rfl, (by decide), trivial⟩, hS.F ht⟩) hS.2.2 dX11_count_21
    · obtain rfl : a1 = 15 := e9.trans (by decide)
      refine lv_iload_n hx hb dX11_count_0 rfl (lv_at hl 1 rfl) ?_
      refine lv_bipush (v := 10) hx hb dX11_count_1 (by decide) ?_
      refine lv_icmp_le (tgt := 22) hx hb dX11_count_3 (by decide) (fun c_25 => absurd c_25 (by decide)) (fun _ => ?_)
      refine lv_iload_n hx hb dX11_count_6 rfl (lv_at hl 1 rfl) ?_
      refine lv_bipush (v := 17) hx hb dX11_count_7 (by decide) ?_
      refine lv_icmp_ge (tgt := 22) hx hb dX11_count_9 (by decide) (fun c_26 => absurd c_26 (by decide)) (fun _ => ?_)
      refine lv_aload_n hx hb dX11_count_12 rfl (lv_at hl 0 rfl) ?_
      refine va_get (D := (dC, dI)) (ci := 11) (v := .ref (pq 0)) (C := RX11) (T := TX11) (N := 63) hx hb hts in_wsX11_count_X11 hown hK hP 0 rfl rfl 0 (by decide) (hts (.fieldLink RX11 7 "ShipOfficeModel" "refusals" "[I") (by decide +kernel)) (fun _ h9 => h9) rfl dX11_count_13 ?_
      refine lv_iload_n hx hb dX11_count_16 rfl (lv_at hl 1 rfl) ?_
      refine lv_bipush (v := 10) hx hb dX11_count_17 (by decide) ?_
      refine lv_isub hx hb dX11_count_19 ?_
      refine lv_topi (fun y ey => ?_)
      obtain rfl : y = 5 := ey.trans (by decide)
      refine va_iald hx hb hK hP 1 0 rfl rfl (by unfold vp_in; decide) dX11_count_20 ?_
      refine W.eq (g2 := F0 m 21 ls [.int 0]) rfl ?_
      exact W.iret (v := 0) hx hb hr (fun t ht hW => ⟨⟨0, (), rfl, (by decide), trivial⟩, hS.F ht⟩) hS.2.2 dX11_count_21
    · obtain rfl : a1 = 16 := e9.trans (by decide)
      refine lv_iload_n hx hb dX11_count_0 rfl (lv_at hl 1 rfl) ?_
      refine lv_bipush (v := 10) hx hb dX11_count_1 (by decide) ?_
      refine lv_icmp_le (tgt := 22) hx hb dX11_count_3 (by decide) (fun c_27 => absurd c_27 (by decide)) (fun _ => ?_)
      refine lv_iload_n hx hb dX11_count_6 rfl (lv_at hl 1 rfl) ?_
      refine lv_bipush (v := 17) hx hb dX11_count_7 (by decide) ?_
      refine lv_icmp_ge (tgt := 22) hx hb dX11_count_9 (by decide) (fun c_28 => absurd c_28 (by decide)) (fun _ => ?_)
      refine lv_aload_n hx hb dX11_count_12 rfl (lv_at hl 0 rfl) ?_
      refine va_get (D := (dC, dI)) (ci := 11) (v := .ref (pq 0)) (C := RX11) (T := TX11) (N := 63) hx hb hts in_wsX11_count_X11 hown hK hP 0 rfl rfl 0 (by decide) (hts (.fieldLink RX11 7 "ShipOfficeModel" "refusals" "[I") (by decide +kernel)) (fun _ h9 => h9) rfl dX11_count_13 ?_
      refine lv_iload_n hx hb dX11_count_16 rfl (lv_at hl 1 rfl) ?_
      refine lv_bipush (v := 10) hx hb dX11_count_17 (by decide) ?_
      refine lv_isub hx hb dX11_count_19 ?_
      refine lv_topi (fun y ey => ?_)
      obtain rfl : y = 6 := ey.trans (by decide)
      refine va_iald hx hb hK hP 1 0 rfl rfl (by unfold vp_in; decide) dX11_count_20 ?_
      refine W.eq (g2 := F0 m 21 ls [.int 0]) rfl ?_
      exact W.iret (v := 0) hx hb hr (fun t ht hW => ⟨⟨0, (), rfl, (by decide), trivial⟩, hS.F ht⟩) hS.2.2 dX11_count_21
    · obtain rfl : a1 = 17 := e9.trans (by decide)
      refine lv_iload_n hx hb dX11_count_0 rfl (lv_at hl 1 rfl) ?_
      refine lv_bipush (v := 10) hx hb dX11_count_1 (by decide) ?_
      refine lv_icmp_le (tgt := 22) hx hb dX11_count_3 (by decide) (fun c_29 => absurd c_29 (by decide)) (fun _ => ?_)
      refine lv_iload_n hx hb dX11_count_6 rfl (lv_at hl 1 rfl) ?_
      refine lv_bipush (v := 17) hx hb dX11_count_7 (by decide) ?_
      refine lv_icmp_ge (tgt := 22) hx hb dX11_count_9 (by decide) (fun _ => ?_) (fun c_30 => absurd c_30 (by decide))
      refine lv_iconst (v := 0) hx hb dX11_count_22 (by decide) ?_
      refine lv_istore_n (lv' := [(2, .int 0), (0, .ref g0), (1, .int 17)]) hx hb dX11_count_23 rfl hl (by decide) rfl (fun ls hl => ?_)
      refine lv_iload_n hx hb dX11_count_24 rfl (lv_at hl 2 rfl) ?_
      refine lv_tableIn (x := 17) (off := 196) (tgt := 221) hx hb dX11_count_25 (by decide) (by decide) (by decide) (by decide) ?_
      refine lv_iconst (v := 0) hx hb dX11_count_221 (by decide) ?_
      refine lv_istore_n (lv' := [(3, .int 0), (2, .int 0), (0, .ref g0), (1, .int 17)]) hx hb dX11_count_222 rfl hl (by decide) rfl (fun ls hl => ?_)
      refine lv_iload_n hx hb dX11_count_223 rfl (lv_at hl 0 rfl) ?_
      refine lv_aload_n hx hb dX11_count_224 rfl (lv_at hl 2 rfl) ?_
      refine va_get (D := (dC, dI)) (ci := 11) (v := .int 0) (C := RX11) (T := TX11) (N := 63) hx hb hts in_wsX11_count_X11 hown hK hP 0 rfl rfl 39 (by decide) (hts (.fieldLink RX11 157 "ShipOfficeModel" "men" "I") (by decide +kernel)) (fun _ h9 => h9) rfl dX11_count_225 ?_
      refine lv_icmp_ge (tgt := 253) hx hb dX11_count_228 (by decide) (fun _ => ?_) (fun c_31 => absurd c_31 (by decide))
      refine lv_iload_n hx hb dX11_count_253 rfl (lv_at hl 1 rfl) ?_
      exact W.iret (v := 0) hx hb hr (fun t ht hW => ⟨⟨0, (), rfl, (by decide), trivial⟩, hS.F ht⟩) hS.2.2 dX11_count_254
set_option maxHeartbeats 4000000 in
set_option maxRecDepth 100000 in
theorem c_X11_feed (l : Launch) (dC : Nat → ClassId) (dI : Nat → Nat → Nat) (sz : Nat) (g0 : Nat) (pq : Nat → Nat) (cp : Nat → ClassId) (a1 : Int32) (a2 : Int64) : Met l yX11_feed wsX11_feed ({ frames := 1, cells := 0, slots := 0, locals := 21 }) (va_Pc [.ref g0, .int a1, .long a2] (pcW (dC, dI) [((cp 0), .int), ((cp 44), .int)] [(g0, .inr (11, mF pq)), ((pq 0), .inl ((cp 0), 7, .inl (fun _ => 0))), ((pq 44), .inl ((cp 44), 60, .inl (fun _ => 0)))] sz)) (va_Qi (fun (r : Int32) (u : Unit) => r = sp_feed a1) (fun _ _ => True) (va_A [(g0, .inr (11, mF pq)), ((pq 0), .inl ((cp 0), 7, .inl (fun _ => 0))), ((pq 44), .inl ((cp 44), 60, .inl (fun _ => 0)))] sz)) 0 0 (va_A [(g0, .inr (11, mF pq)), ((pq 0), .inl ((cp 0), 7, .inl (fun _ => 0))), ((pq 44), .inl ((cp 44), 60, .inl (fun _ => 0)))] sz) := by
  refine Met.ofW (cc := cX11_feed) (maxL := 5) (ret := (some .int)) (by decide) rfl ?_
  intro p e s m args below meth c s₁ B hml hv
  obtain ⟨rfl, hsz, hP, hK, hD0⟩ := hv
  have hx := B.exec
  have hb := B.bytes
  have hr := B.returns
  have hts := atoms_spec (ws := wsX11_feed) B.pre
  have hown : s.vm.findClass RX11 = some m.cls := findClass_of_methodNamed B.named
  have hlocks := B.notSynchronized
  subst hsz
  have hD := hD0.self (sz := s.heap.size)
  generalize hAe : va_A [(g0, .inr (11, mF pq)), ((pq 0), .inl ((cp 0), 7, .inl (fun _ => 0))), ((pq 44), .inl ((cp 44), 60, .inl (fun _ => 0)))] s.heap.size = A at hD ⊢
  have hA : ∀ q : Nat, s.heap.size ≤ q → A q := fun q h => by rw [← hAe]; exact Or.inr h
  have hS : va_S A s.heap s.heap [] := va_S.rf
  have hP : va_P (dC, dI) vwCl [(g0, .inr (11, mF pq)), ((pq 0), .inl ((cp 0), 7, .inl (fun _ => 0))), ((pq 44), .inl ((cp 44), 60, .inl (fun _ => 0)))] s.heap := hP
  have hl := lv_entry ([.ref g0, .int a1, .long a2]) (n := 5) (Nat.le_of_ble_eq_true rfl)
  rw [lg_entry_eq]
  generalize (lg_sl ([.ref g0, .int a1, .long a2]) ++ List.replicate (5 - (lg_sl ([.ref g0, .int a1, .long a2])).length) Slot.unset).toArray = ls at hl ⊢
  have hl : lv_has ls 5 [(0, .ref g0), (1, .int a1), (2, .long a2)] := hl
  refine lv_iload_n hx hb dX11_feed_0 rfl (lv_at hl 1 rfl) ?_
  refine lv_iconst (v := 1) hx hb dX11_feed_1 (by decide) ?_
  refine lv_icmp_ge (tgt := 12) hx hb dX11_feed_2 (by decide) (fun c_1 => ?_) (fun c_1 => ?_)
  · refine lv_iload_n hx hb dX11_feed_12 rfl (lv_at hl 1 rfl) ?_
    refine lv_bipush (v := 8) hx hb dX11_feed_13 (by decide) ?_
    refine lv_icmp_gt (tgt := 29) hx hb dX11_feed_15 (by decide) (fun c_2 => ?_) (fun c_2 => ?_)
    · refine lv_aload_n hx hb dX11_feed_29 rfl (lv_at hl 0 rfl) ?_
      refine lv_bipush (v := (-6)) hx hb dX11_feed_30 (by decide) ?_
      have hPc := hP.sub (ws' := [(g0, .inr (11, mF pq)), ((pq 0), .inl ((cp 0), 7, .inl (fun _ => 0)))]) [0, 1] rfl
      have hDc := hD.sub (ws' := [(g0, .inr (11, mF pq)), ((pq 0), .inl ((cp 0), 7, .inl (fun _ => 0)))]) [0, 1] (by decide) rfl
      have hKc := hK.sub (tys' := [((cp 0), .int)]) [0] rfl
      have hFc := va_free (wc := [(g0, .inr (11, mF pq)), ((pq 0), .inl ((cp 0), 7, .inl (fun _ => 0)))]) hD hS hA [0, 1] rfl
      refine va_calli (va_runV (As := [.int (-6)]) (rest := []) ⟨hx, hb, hml, hown, hts⟩ (c_X11_refuse l dC dI s.heap.size g0 pq cp (-6) (by unfold vp_in; decide)) (cwV 1 hts gX11_feed_X11_refuse rfl rfl rfl (by decide +kernel) ⟨(Nat.le_of_ble_eq_true rfl), (Nat.le_of_ble_eq_true rfl)⟩) (pr_V (r := (RX11, TX11, 63)) hPc hKc hDc 0 11 rfl rfl) rfl rfl hl.1 rfl (lv_room (Nat.le_of_ble_eq_true rfl)) dX11_feed_32 ⟨(Nat.le_of_ble_eq_true rfl), (Nat.le_of_ble_eq_true rfl)⟩) hS (fun q _ h => hFc q h) hFc (fun r_4 u t H locs ht hvm w_3 hB hz1 hk1 hS => ?_)
      subst w_3
      exact W.iret (v := (-6)) hx hb hr (fun t ht hW => ⟨⟨(-6), (), rfl, (by simp [sp_feed, c_1, c_2]), trivial⟩, hS.F ht⟩) hS.2.2 dX11_feed_35
    · refine lv_aload_n hx hb dX11_feed_18 rfl (lv_at hl 0 rfl) ?_
      refine va_get (D := (dC, dI)) (ci := 11) (v := .int 0) (C := RX11) (T := TX11) (N := 63) hx hb hts in_wsX11_feed_X11 hown hK hP 0 rfl rfl 46 (by decide) (hts (.fieldLink RX11 205 "ShipOfficeModel" "taped" "I") (by decide +kernel)) (fun _ h9 => h9) rfl dX11_feed_19 ?_
      refine lv_iload_n hx hb dX11_feed_22 rfl (lv_at hl 1 rfl) ?_
      refine lv_iadd hx hb dX11_feed_23 ?_
      refine lv_bipush (v := 60) hx hb dX11_feed_24 (by decide) ?_
      refine lv_icmp_le (tgt := 36) hx hb dX11_feed_26 (by decide) (fun c_5 => ?_) (fun c_5 => absurd c_5 (fun h => h (by rw [Int32.zero_add]; exact ile_of_nlt c_2 (by decide))))
      refine lv_iconst (v := 0) hx hb dX11_feed_36 (by decide) ?_
      refine lv_istore (lv' := [(4, .int 0), (0, .ref g0), (1, .int a1), (2, .long a2)]) hx hb dX11_feed_37 hl (by decide) rfl (fun ls hl => ?_)
      refine lv_iload hx hb dX11_feed_39 (lv_at hl 0 rfl) ?_
      refine lv_iload_n hx hb dX11_feed_41 rfl (lv_at hl 2 rfl) ?_
      refine lv_icmp_ge (tgt := 82) hx hb dX11_feed_42 (by decide) (fun c_6 => absurd c_6 (nle_of_le c_1 (by decide))) (fun c_6 => ?_)
      refine lv_aload_n hx hb dX11_feed_45 rfl (lv_at hl 1 rfl) ?_
      refine va_get (D := (dC, dI)) (ci := 11) (v := .ref (pq 44)) (C := RX11) (T := TX11) (N := 63) hx hb hts in_wsX11_feed_X11 hown hK hP 0 rfl rfl 44 (by decide) (hts (.fieldLink RX11 125 "ShipOfficeModel" "tape" "[I") (by decide +kernel)) (fun _ h9 => h9) rfl dX11_feed_46 ?_
      refine lv_aload_n hx hb dX11_feed_49 rfl (lv_at hl 1 rfl) ?_
      refine va_get (D := (dC, dI)) (ci := 11) (v := .int 0) (C := RX11) (T := TX11) (N := 63) hx hb hts in_wsX11_feed_X11 hown hK hP 0 rfl rfl 46 (by decide) (hts (.fieldLink RX11 205 "ShipOfficeModel" "taped" "I") (by decide +kernel)) (fun _ h9 => h9) rfl dX11_feed_50 ?_
      refine lv_lload_n hx hb dX11_feed_53 rfl (lv_at hl 3 rfl) ?_
      refine lv_bipush (v := 8) hx hb dX11_feed_54 (by decide) ?_
      refine lv_iload hx hb dX11_feed_56 (lv_at hl 0 rfl) ?_
      refine lv_imul hx hb dX11_feed_58 ?_
      refine lv_topi (fun y ey => ?_)
      obtain rfl : y = 0 := ey.trans (by decide)
      refine lv_lshr (v := a2 >>> ((0 : Int32).toInt64 &&& 63)) hx hb dX11_feed_59 rfl ?_
      refine lv_ldc2 (v := 255) hx hb hown (hts (.constantLong RX11 208 (255)) (by decide +kernel)) dX11_feed_60 ?_
      refine lv_land hx hb dX11_feed_63 ?_
      refine lv_l2i (v := ((a2 >>> ((0 : Int32).toInt64 &&& 63)) &&& 255 : Int64).toInt32) hx hb dX11_feed_64 rfl ?_
      refine va_iast hx hb hK hP hD hS 2 1 rfl rfl (by unfold vp_in; decide) dX11_feed_65 (fun H locs hP hD hS => ?_)
      have hP : va_P (dC, dI) vwCl [(g0, .inr (11, mF pq)), ((pq 0), .inl ((cp 0), 7, .inl (fun _ => 0))), ((pq 44), .inl ((cp 44), 60, .inl (upd (fun _ => 0) (0 : Int32).toNatClampNeg (((a2 >>> ((0 : Int32).toInt64 &&& 63)) &&& 255 : Int64).toInt32))))] H := hP
      have hD : va_D A [(g0, .inr (11, mF pq)), ((pq 0), .inl ((cp 0), 7, .inl (fun _ => 0))), ((pq 44), .inl ((cp 44), 60, .inl (upd (fun _ => 0) (0 : Int32).toNatClampNeg (((a2 >>> ((0 : Int32).toInt64 &&& 63)) &&& 255 : Int64).toInt32))))] := hD
      refine lv_aload_n hx hb dX11_feed_66 rfl (lv_at hl 1 rfl) ?_
      refine lv_dup hx hb dX11_feed_67 rfl ?_
      refine va_get (D := (dC, dI)) (ci := 11) (v := .int 0) (C := RX11) (T := TX11) (N := 63) hx hb hts in_wsX11_feed_X11 hown hK hP 0 rfl rfl 46 (by decide) (hts (.fieldLink RX11 205 "ShipOfficeModel" "taped" "I") (by decide +kernel)) (fun _ h9 => h9) rfl dX11_feed_68 ?_
      refine lv_iconst (v := 1) hx hb dX11_feed_71 (by decide) ?_
      refine lv_iadd hx hb dX11_feed_72 ?_
      refine lv_topi (fun y ey => ?_)
      obtain rfl : y = 1 := ey.trans (by decide)
      refine va_put (D := (dC, dI)) (ci := 11) (v := .int 1) (ty := .int) (C := RX11) (T := TX11) (N := 63) hx hb hts in_wsX11_feed_X11 tyX11 tyX11_ok nmX11 hown hK hP hD hS 0 rfl rfl 46 (by decide) (hts (.fieldLink RX11 205 "ShipOfficeModel" "taped" "I") (by decide +kernel)) (fun _ h9 => h9) rfl (by decide +kernel) rfl rfl (Nat.le_of_ble_eq_true rfl) dX11_feed_73 (fun H locs hP hD hS => ?_)
      have hP : va_P (dC, dI) vwCl [(g0, .inr (11, ((mF pq).set 46 (.int 1)))), ((pq 0), .inl ((cp 0), 7, .inl (fun _ => 0))), ((pq 44), .inl ((cp 44), 60, .inl (upd (fun _ => 0) (0 : Int32).toNatClampNeg (((a2 >>> ((0 : Int32).toInt64 &&& 63)) &&& 255 : Int64).toInt32))))] H := hP
      have hD : va_D A [(g0, .inr (11, ((mF pq).set 46 (.int 1)))), ((pq 0), .inl ((cp 0), 7, .inl (fun _ => 0))), ((pq 44), .inl ((cp 44), 60, .inl (upd (fun _ => 0) (0 : Int32).toNatClampNeg (((a2 >>> ((0 : Int32).toInt64 &&& 63)) &&& 255 : Int64).toInt32))))] := hD
      refine lv_iinc (v := 1) (lv' := [(4, .int 1), (0, .ref g0), (1, .int a1), (2, .long a2)]) hx hb dX11_feed_76 hl (k := 0) rfl (by decide) (by decide) rfl (fun ls hl => ?_)
      refine lv_goto (tgt := 39) hx hb dX11_feed_79 (by decide) ?_
      refine lv_iload hx hb dX11_feed_39 (lv_at hl 0 rfl) ?_
      refine lv_iload_n hx hb dX11_feed_41 rfl (lv_at hl 2 rfl) ?_
      refine lv_icmp_ge (tgt := 82) hx hb dX11_feed_42 (by decide) (fun c_7 => ?_) (fun c_7 => ?_)
      · refine lv_aload_n hx hb dX11_feed_82 rfl (lv_at hl 1 rfl) ?_
        refine va_get (D := (dC, dI)) (ci := 11) (v := .int 1) (C := RX11) (T := TX11) (N := 63) hx hb hts in_wsX11_feed_X11 hown hK hP 0 rfl rfl 46 (by decide) (hts (.fieldLink RX11 205 "ShipOfficeModel" "taped" "I") (by decide +kernel)) (fun _ h9 => h9) rfl dX11_feed_83 ?_
        exact W.iret (v := 1) hx hb hr (fun t ht hW => ⟨⟨1, (), rfl, (by obtain rfl : a1 = 1 := feq c_6 c_7 (by decide); decide), trivial⟩, hS.F ht⟩) hS.2.2 dX11_feed_86
      · refine lv_aload_n hx hb dX11_feed_45 rfl (lv_at hl 1 rfl) ?_
        refine va_get (D := (dC, dI)) (ci := 11) (v := .ref (pq 44)) (C := RX11) (T := TX11) (N := 63) hx hb hts in_wsX11_feed_X11 hown hK hP 0 rfl rfl 44 (by decide) (hts (.fieldLink RX11 125 "ShipOfficeModel" "tape" "[I") (by decide +kernel)) (fun _ h9 => h9) rfl dX11_feed_46 ?_
        refine lv_aload_n hx hb dX11_feed_49 rfl (lv_at hl 1 rfl) ?_
        refine va_get (D := (dC, dI)) (ci := 11) (v := .int 1) (C := RX11) (T := TX11) (N := 63) hx hb hts in_wsX11_feed_X11 hown hK hP 0 rfl rfl 46 (by decide) (hts (.fieldLink RX11 205 "ShipOfficeModel" "taped" "I") (by decide +kernel)) (fun _ h9 => h9) rfl dX11_feed_50 ?_
        refine lv_lload_n hx hb dX11_feed_53 rfl (lv_at hl 3 rfl) ?_
        refine lv_bipush (v := 8) hx hb dX11_feed_54 (by decide) ?_
        refine lv_iload hx hb dX11_feed_56 (lv_at hl 0 rfl) ?_
        refine lv_imul hx hb dX11_feed_58 ?_
        refine lv_topi (fun y ey => ?_)
        obtain rfl : y = 8 := ey.trans (by decide)
        refine lv_lshr (v := a2 >>> ((8 : Int32).toInt64 &&& 63)) hx hb dX11_feed_59 rfl ?_
        refine lv_ldc2 (v := 255) hx hb hown (hts (.constantLong RX11 208 (255)) (by decide +kernel)) dX11_feed_60 ?_
        refine lv_land hx hb dX11_feed_63 ?_
        refine lv_l2i (v := ((a2 >>> ((8 : Int32).toInt64 &&& 63)) &&& 255 : Int64).toInt32) hx hb dX11_feed_64 rfl ?_
        refine va_iast hx hb hK hP hD hS 2 1 rfl rfl (by unfold vp_in; decide) dX11_feed_65 (fun H locs hP hD hS => ?_)
        have hP : va_P (dC, dI) vwCl [(g0, .inr (11, ((mF pq).set 46 (.int 1)))), ((pq 0), .inl ((cp 0), 7, .inl (fun _ => 0))), ((pq 44), .inl ((cp 44), 60, .inl (upd (upd (fun _ => 0) (0 : Int32).toNatClampNeg (((a2 >>> ((0 : Int32).toInt64 &&& 63)) &&& 255 : Int64).toInt32)) (1 : Int32).toNatClampNeg (((a2 >>> ((8 : Int32).toInt64 &&& 63)) &&& 255 : Int64).toInt32))))] H := hP
        have hD : va_D A [(g0, .inr (11, ((mF pq).set 46 (.int 1)))), ((pq 0), .inl ((cp 0), 7, .inl (fun _ => 0))), ((pq 44), .inl ((cp 44), 60, .inl (upd (upd (fun _ => 0) (0 : Int32).toNatClampNeg (((a2 >>> ((0 : Int32).toInt64 &&& 63)) &&& 255 : Int64).toInt32)) (1 : Int32).toNatClampNeg (((a2 >>> ((8 : Int32).toInt64 &&& 63)) &&& 255 : Int64).toInt32))))] := hD
        refine lv_aload_n hx hb dX11_feed_66 rfl (lv_at hl 1 rfl) ?_
        refine lv_dup hx hb dX11_feed_67 rfl ?_
        refine va_get (D := (dC, dI)) (ci := 11) (v := .int 1) (C := RX11) (T := TX11) (N := 63) hx hb hts in_wsX11_feed_X11 hown hK hP 0 rfl rfl 46 (by decide) (hts (.fieldLink RX11 205 "ShipOfficeModel" "taped" "I") (by decide +kernel)) (fun _ h9 => h9) rfl dX11_feed_68 ?_
        refine lv_iconst (v := 1) hx hb dX11_feed_71 (by decide) ?_
        refine lv_iadd hx hb dX11_feed_72 ?_
        refine lv_topi (fun y ey => ?_)
        obtain rfl : y = 2 := ey.trans (by decide)
        refine va_put (D := (dC, dI)) (ci := 11) (v := .int 2) (ty := .int) (C := RX11) (T := TX11) (N := 63) hx hb hts in_wsX11_feed_X11 tyX11 tyX11_ok nmX11 hown hK hP hD hS 0 rfl rfl 46 (by decide) (hts (.fieldLink RX11 205 "ShipOfficeModel" "taped" "I") (by decide +kernel)) (fun _ h9 => h9) rfl (by decide +kernel) rfl rfl (Nat.le_of_ble_eq_true rfl) dX11_feed_73 (fun H locs hP hD hS => ?_)
        have hP : va_P (dC, dI) vwCl [(g0, .inr (11, ((((mF pq).set 46 (.int 1))).set 46 (.int 2)))), ((pq 0), .inl ((cp 0), 7, .inl (fun _ => 0))), ((pq 44), .inl ((cp 44), 60, .inl (upd (upd (fun _ => 0) (0 : Int32).toNatClampNeg (((a2 >>> ((0 : Int32).toInt64 &&& 63)) &&& 255 : Int64).toInt32)) (1 : Int32).toNatClampNeg (((a2 >>> ((8 : Int32).toInt64 &&& 63)) &&& 255 : Int64).toInt32))))] H := hP
        have hD : va_D A [(g0, .inr (11, ((((mF pq).set 46 (.int 1))).set 46 (.int 2)))), ((pq 0), .inl ((cp 0), 7, .inl (fun _ => 0))), ((pq 44), .inl ((cp 44), 60, .inl (upd (upd (fun _ => 0) (0 : Int32).toNatClampNeg (((a2 >>> ((0 : Int32).toInt64 &&& 63)) &&& 255 : Int64).toInt32)) (1 : Int32).toNatClampNeg (((a2 >>> ((8 : Int32).toInt64 &&& 63)) &&& 255 : Int64).toInt32))))] := hD
        refine lv_iinc (v := 2) (lv' := [(4, .int 2), (0, .ref g0), (1, .int a1), (2, .long a2)]) hx hb dX11_feed_76 hl (k := 0) rfl (by decide) (by decide) rfl (fun ls hl => ?_)
        refine lv_goto (tgt := 39) hx hb dX11_feed_79 (by decide) ?_
        refine lv_iload hx hb dX11_feed_39 (lv_at hl 0 rfl) ?_
        refine lv_iload_n hx hb dX11_feed_41 rfl (lv_at hl 2 rfl) ?_
        refine lv_icmp_ge (tgt := 82) hx hb dX11_feed_42 (by decide) (fun c_8 => ?_) (fun c_8 => ?_)
        · refine lv_aload_n hx hb dX11_feed_82 rfl (lv_at hl 1 rfl) ?_
          refine va_get (D := (dC, dI)) (ci := 11) (v := .int 2) (C := RX11) (T := TX11) (N := 63) hx hb hts in_wsX11_feed_X11 hown hK hP 0 rfl rfl 46 (by decide) (hts (.fieldLink RX11 205 "ShipOfficeModel" "taped" "I") (by decide +kernel)) (fun _ h9 => h9) rfl dX11_feed_83 ?_
          exact W.iret (v := 2) hx hb hr (fun t ht hW => ⟨⟨2, (), rfl, (by obtain rfl : a1 = 2 := feq c_7 c_8 (by decide); decide), trivial⟩, hS.F ht⟩) hS.2.2 dX11_feed_86
        · refine lv_aload_n hx hb dX11_feed_45 rfl (lv_at hl 1 rfl) ?_
          refine va_get (D := (dC, dI)) (ci := 11) (v := .ref (pq 44)) (C := RX11) (T := TX11) (N := 63) hx hb hts in_wsX11_feed_X11 hown hK hP 0 rfl rfl 44 (by decide) (hts (.fieldLink RX11 125 "ShipOfficeModel" "tape" "[I") (by decide +kernel)) (fun _ h9 => h9) rfl dX11_feed_46 ?_
          refine lv_aload_n hx hb dX11_feed_49 rfl (lv_at hl 1 rfl) ?_
          refine va_get (D := (dC, dI)) (ci := 11) (v := .int 2) (C := RX11) (T := TX11) (N := 63) hx hb hts in_wsX11_feed_X11 hown hK hP 0 rfl rfl 46 (by decide) (hts (.fieldLink RX11 205 "ShipOfficeModel" "taped" "I") (by decide +kernel)) (fun _ h9 => h9) rfl dX11_feed_50 ?_
          refine lv_lload_n hx hb dX11_feed_53 rfl (lv_at hl 3 rfl) ?_
          refine lv_bipush (v := 8) hx hb dX11_feed_54 (by decide) ?_
          refine lv_iload hx hb dX11_feed_56 (lv_at hl 0 rfl) ?_
          refine lv_imul hx hb dX11_feed_58 ?_
          refine lv_topi (fun y ey => ?_)
          obtain rfl : y = 16 := ey.trans (by decide)
          refine lv_lshr (v := a2 >>> ((16 : Int32).toInt64 &&& 63)) hx hb dX11_feed_59 rfl ?_
          refine lv_ldc2 (v := 255) hx hb hown (hts (.constantLong RX11 208 (255)) (by decide +kernel)) dX11_feed_60 ?_
          refine lv_land hx hb dX11_feed_63 ?_
          refine lv_l2i (v := ((a2 >>> ((16 : Int32).toInt64 &&& 63)) &&& 255 : Int64).toInt32) hx hb dX11_feed_64 rfl ?_
          refine va_iast hx hb hK hP hD hS 2 1 rfl rfl (by unfold vp_in; decide) dX11_feed_65 (fun H locs hP hD hS => ?_)
          have hP : va_P (dC, dI) vwCl [(g0, .inr (11, ((((mF pq).set 46 (.int 1))).set 46 (.int 2)))), ((pq 0), .inl ((cp 0), 7, .inl (fun _ => 0))), ((pq 44), .inl ((cp 44), 60, .inl (upd (upd (upd (fun _ => 0) (0 : Int32).toNatClampNeg (((a2 >>> ((0 : Int32).toInt64 &&& 63)) &&& 255 : Int64).toInt32)) (1 : Int32).toNatClampNeg (((a2 >>> ((8 : Int32).toInt64 &&& 63)) &&& 255 : Int64).toInt32)) (2 : Int32).toNatClampNeg (((a2 >>> ((16 : Int32).toInt64 &&& 63)) &&& 255 : Int64).toInt32))))] H := hP
          have hD : va_D A [(g0, .inr (11, ((((mF pq).set 46 (.int 1))).set 46 (.int 2)))), ((pq 0), .inl ((cp 0), 7, .inl (fun _ => 0))), ((pq 44), .inl ((cp 44), 60, .inl (upd (upd (upd (fun _ => 0) (0 : Int32).toNatClampNeg (((a2 >>> ((0 : Int32).toInt64 &&& 63)) &&& 255 : Int64).toInt32)) (1 : Int32).toNatClampNeg (((a2 >>> ((8 : Int32).toInt64 &&& 63)) &&& 255 : Int64).toInt32)) (2 : Int32).toNatClampNeg (((a2 >>> ((16 : Int32).toInt64 &&& 63)) &&& 255 : Int64).toInt32))))] := hD
          refine lv_aload_n hx hb dX11_feed_66 rfl (lv_at hl 1 rfl) ?_
          refine lv_dup hx hb dX11_feed_67 rfl ?_
          refine va_get (D := (dC, dI)) (ci := 11) (v := .int 2) (C := RX11) (T := TX11) (N := 63) hx hb hts in_wsX11_feed_X11 hown hK hP 0 rfl rfl 46 (by decide) (hts (.fieldLink RX11 205 "ShipOfficeModel" "taped" "I") (by decide +kernel)) (fun _ h9 => h9) rfl dX11_feed_68 ?_
          refine lv_iconst (v := 1) hx hb dX11_feed_71 (by decide) ?_
          refine lv_iadd hx hb dX11_feed_72 ?_
          refine lv_topi (fun y ey => ?_)
          obtain rfl : y = 3 := ey.trans (by decide)
          refine va_put (D := (dC, dI)) (ci := 11) (v := .int 3) (ty := .int) (C := RX11) (T := TX11) (N := 63) hx hb hts in_wsX11_feed_X11 tyX11 tyX11_ok nmX11 hown hK hP hD hS 0 rfl rfl 46 (by decide) (hts (.fieldLink RX11 205 "ShipOfficeModel" "taped" "I") (by decide +kernel)) (fun _ h9 => h9) rfl (by decide +kernel) rfl rfl (Nat.le_of_ble_eq_true rfl) dX11_feed_73 (fun H locs hP hD hS => ?_)
          have hP : va_P (dC, dI) vwCl [(g0, .inr (11, ((((((mF pq).set 46 (.int 1))).set 46 (.int 2))).set 46 (.int 3)))), ((pq 0), .inl ((cp 0), 7, .inl (fun _ => 0))), ((pq 44), .inl ((cp 44), 60, .inl (upd (upd (upd (fun _ => 0) (0 : Int32).toNatClampNeg (((a2 >>> ((0 : Int32).toInt64 &&& 63)) &&& 255 : Int64).toInt32)) (1 : Int32).toNatClampNeg (((a2 >>> ((8 : Int32).toInt64 &&& 63)) &&& 255 : Int64).toInt32)) (2 : Int32).toNatClampNeg (((a2 >>> ((16 : Int32).toInt64 &&& 63)) &&& 255 : Int64).toInt32))))] H := hP
          have hD : va_D A [(g0, .inr (11, ((((((mF pq).set 46 (.int 1))).set 46 (.int 2))).set 46 (.int 3)))), ((pq 0), .inl ((cp 0), 7, .inl (fun _ => 0))), ((pq 44), .inl ((cp 44), 60, .inl (upd (upd (upd (fun _ => 0) (0 : Int32).toNatClampNeg (((a2 >>> ((0 : Int32).toInt64 &&& 63)) &&& 255 : Int64).toInt32)) (1 : Int32).toNatClampNeg (((a2 >>> ((8 : Int32).toInt64 &&& 63)) &&& 255 : Int64).toInt32)) (2 : Int32).toNatClampNeg (((a2 >>> ((16 : Int32).toInt64 &&& 63)) &&& 255 : Int64).toInt32))))] := hD
          refine lv_iinc (v := 3) (lv' := [(4, .int 3), (0, .ref g0), (1, .int a1), (2, .long a2)]) hx hb dX11_feed_76 hl (k := 0) rfl (by decide) (by decide) rfl (fun ls hl => ?_)
          refine lv_goto (tgt := 39) hx hb dX11_feed_79 (by decide) ?_
          refine lv_iload hx hb dX11_feed_39 (lv_at hl 0 rfl) ?_
          refine lv_iload_n hx hb dX11_feed_41 rfl (lv_at hl 2 rfl) ?_
          refine lv_icmp_ge (tgt := 82) hx hb dX11_feed_42 (by decide) (fun c_9 => ?_) (fun c_9 => ?_)
          · refine lv_aload_n hx hb dX11_feed_82 rfl (lv_at hl 1 rfl) ?_
            refine va_get (D := (dC, dI)) (ci := 11) (v := .int 3) (C := RX11) (T := TX11) (N := 63) hx hb hts in_wsX11_feed_X11 hown hK hP 0 rfl rfl 46 (by decide) (hts (.fieldLink RX11 205 "ShipOfficeModel" "taped" "I") (by decide +kernel)) (fun _ h9 => h9) rfl dX11_feed_83 ?_
            exact W.iret (v := 3) hx hb hr (fun t ht hW => ⟨⟨3, (), rfl, (by obtain rfl : a1 = 3 := feq c_8 c_9 (by decide); decide), trivial⟩, hS.F ht⟩) hS.2.2 dX11_feed_86
          · refine lv_aload_n hx hb dX11_feed_45 rfl (lv_at hl 1 rfl) ?_
            refine va_get (D := (dC, dI)) (ci := 11) (v := .ref (pq 44)) (C := RX11) (T := TX11) (N := 63) hx hb hts in_wsX11_feed_X11 hown hK hP 0 rfl rfl 44 (by decide) (hts (.fieldLink RX11 125 "ShipOfficeModel" "tape" "[I") (by decide +kernel)) (fun _ h9 => h9) rfl dX11_feed_46 ?_
            refine lv_aload_n hx hb dX11_feed_49 rfl (lv_at hl 1 rfl) ?_
            refine va_get (D := (dC, dI)) (ci := 11) (v := .int 3) (C := RX11) (T := TX11) (N := 63) hx hb hts in_wsX11_feed_X11 hown hK hP 0 rfl rfl 46 (by decide) (hts (.fieldLink RX11 205 "ShipOfficeModel" "taped" "I") (by decide +kernel)) (fun _ h9 => h9) rfl dX11_feed_50 ?_
            refine lv_lload_n hx hb dX11_feed_53 rfl (lv_at hl 3 rfl) ?_
            refine lv_bipush (v := 8) hx hb dX11_feed_54 (by decide) ?_
            refine lv_iload hx hb dX11_feed_56 (lv_at hl 0 rfl) ?_
            refine lv_imul hx hb dX11_feed_58 ?_
            refine lv_topi (fun y ey => ?_)
            obtain rfl : y = 24 := ey.trans (by decide)
            refine lv_lshr (v := a2 >>> ((24 : Int32).toInt64 &&& 63)) hx hb dX11_feed_59 rfl ?_
            refine lv_ldc2 (v := 255) hx hb hown (hts (.constantLong RX11 208 (255)) (by decide +kernel)) dX11_feed_60 ?_
            refine lv_land hx hb dX11_feed_63 ?_
            refine lv_l2i (v := ((a2 >>> ((24 : Int32).toInt64 &&& 63)) &&& 255 : Int64).toInt32) hx hb dX11_feed_64 rfl ?_
            refine va_iast hx hb hK hP hD hS 2 1 rfl rfl (by unfold vp_in; decide) dX11_feed_65 (fun H locs hP hD hS => ?_)
            have hP : va_P (dC, dI) vwCl [(g0, .inr (11, ((((((mF pq).set 46 (.int 1))).set 46 (.int 2))).set 46 (.int 3)))), ((pq 0), .inl ((cp 0), 7, .inl (fun _ => 0))), ((pq 44), .inl ((cp 44), 60, .inl (upd (upd (upd (upd (fun _ => 0) (0 : Int32).toNatClampNeg (((a2 >>> ((0 : Int32).toInt64 &&& 63)) &&& 255 : Int64).toInt32)) (1 : Int32).toNatClampNeg (((a2 >>> ((8 : Int32).toInt64 &&& 63)) &&& 255 : Int64).toInt32)) (2 : Int32).toNatClampNeg (((a2 >>> ((16 : Int32).toInt64 &&& 63)) &&& 255 : Int64).toInt32)) (3 : Int32).toNatClampNeg (((a2 >>> ((24 : Int32).toInt64 &&& 63)) &&& 255 : Int64).toInt32))))] H := hP
            have hD : va_D A [(g0, .inr (11, ((((((mF pq).set 46 (.int 1))).set 46 (.int 2))).set 46 (.int 3)))), ((pq 0), .inl ((cp 0), 7, .inl (fun _ => 0))), ((pq 44), .inl ((cp 44), 60, .inl (upd (upd (upd (upd (fun _ => 0) (0 : Int32).toNatClampNeg (((a2 >>> ((0 : Int32).toInt64 &&& 63)) &&& 255 : Int64).toInt32)) (1 : Int32).toNatClampNeg (((a2 >>> ((8 : Int32).toInt64 &&& 63)) &&& 255 : Int64).toInt32)) (2 : Int32).toNatClampNeg (((a2 >>> ((16 : Int32).toInt64 &&& 63)) &&& 255 : Int64).toInt32)) (3 : Int32).toNatClampNeg (((a2 >>> ((24 : Int32).toInt64 &&& 63)) &&& 255 : Int64).toInt32))))] := hD
            refine lv_aload_n hx hb dX11_feed_66 rfl (lv_at hl 1 rfl) ?_
            refine lv_dup hx hb dX11_feed_67 rfl ?_
            refine va_get (D := (dC, dI)) (ci := 11) (v := .int 3) (C := RX11) (T := TX11) (N := 63) hx hb hts in_wsX11_feed_X11 hown hK hP 0 rfl rfl 46 (by decide) (hts (.fieldLink RX11 205 "ShipOfficeModel" "taped" "I") (by decide +kernel)) (fun _ h9 => h9) rfl dX11_feed_68 ?_
            refine lv_iconst (v := 1) hx hb dX11_feed_71 (by decide) ?_
            refine lv_iadd hx hb dX11_feed_72 ?_
            refine lv_topi (fun y ey => ?_)
            obtain rfl : y = 4 := ey.trans (by decide)
            refine va_put (D := (dC, dI)) (ci := 11) (v := .int 4) (ty := .int) (C := RX11) (T := TX11) (N := 63) hx hb hts in_wsX11_feed_X11 tyX11 tyX11_ok nmX11 hown hK hP hD hS 0 rfl rfl 46 (by decide) (hts (.fieldLink RX11 205 "ShipOfficeModel" "taped" "I") (by decide +kernel)) (fun _ h9 => h9) rfl (by decide +kernel) rfl rfl (Nat.le_of_ble_eq_true rfl) dX11_feed_73 (fun H locs hP hD hS => ?_)
            have hP : va_P (dC, dI) vwCl [(g0, .inr (11, ((((((((mF pq).set 46 (.int 1))).set 46 (.int 2))).set 46 (.int 3))).set 46 (.int 4)))), ((pq 0), .inl ((cp 0), 7, .inl (fun _ => 0))), ((pq 44), .inl ((cp 44), 60, .inl (upd (upd (upd (upd (fun _ => 0) (0 : Int32).toNatClampNeg (((a2 >>> ((0 : Int32).toInt64 &&& 63)) &&& 255 : Int64).toInt32)) (1 : Int32).toNatClampNeg (((a2 >>> ((8 : Int32).toInt64 &&& 63)) &&& 255 : Int64).toInt32)) (2 : Int32).toNatClampNeg (((a2 >>> ((16 : Int32).toInt64 &&& 63)) &&& 255 : Int64).toInt32)) (3 : Int32).toNatClampNeg (((a2 >>> ((24 : Int32).toInt64 &&& 63)) &&& 255 : Int64).toInt32))))] H := hP
            have hD : va_D A [(g0, .inr (11, ((((((((mF pq).set 46 (.int 1))).set 46 (.int 2))).set 46 (.int 3))).set 46 (.int 4)))), ((pq 0), .inl ((cp 0), 7, .inl (fun _ => 0))), ((pq 44), .inl ((cp 44), 60, .inl (upd (upd (upd (upd (fun _ => 0) (0 : Int32).toNatClampNeg (((a2 >>> ((0 : Int32).toInt64 &&& 63)) &&& 255 : Int64).toInt32)) (1 : Int32).toNatClampNeg (((a2 >>> ((8 : Int32).toInt64 &&& 63)) &&& 255 : Int64).toInt32)) (2 : Int32).toNatClampNeg (((a2 >>> ((16 : Int32).toInt64 &&& 63)) &&& 255 : Int64).toInt32)) (3 : Int32).toNatClampNeg (((a2 >>> ((24 : Int32).toInt64 &&& 63)) &&& 255 : Int64).toInt32))))] := hD
            refine lv_iinc (v := 4) (lv' := [(4, .int 4), (0, .ref g0), (1, .int a1), (2, .long a2)]) hx hb dX11_feed_76 hl (k := 0) rfl (by decide) (by decide) rfl (fun ls hl => ?_)
            refine lv_goto (tgt := 39) hx hb dX11_feed_79 (by decide) ?_
            refine lv_iload hx hb dX11_feed_39 (lv_at hl 0 rfl) ?_
            refine lv_iload_n hx hb dX11_feed_41 rfl (lv_at hl 2 rfl) ?_
            refine lv_icmp_ge (tgt := 82) hx hb dX11_feed_42 (by decide) (fun c_10 => ?_) (fun c_10 => ?_)
            · refine lv_aload_n hx hb dX11_feed_82 rfl (lv_at hl 1 rfl) ?_
              refine va_get (D := (dC, dI)) (ci := 11) (v := .int 4) (C := RX11) (T := TX11) (N := 63) hx hb hts in_wsX11_feed_X11 hown hK hP 0 rfl rfl 46 (by decide) (hts (.fieldLink RX11 205 "ShipOfficeModel" "taped" "I") (by decide +kernel)) (fun _ h9 => h9) rfl dX11_feed_83 ?_
              exact W.iret (v := 4) hx hb hr (fun t ht hW => ⟨⟨4, (), rfl, (by obtain rfl : a1 = 4 := feq c_9 c_10 (by decide); decide), trivial⟩, hS.F ht⟩) hS.2.2 dX11_feed_86
            · refine lv_aload_n hx hb dX11_feed_45 rfl (lv_at hl 1 rfl) ?_
              refine va_get (D := (dC, dI)) (ci := 11) (v := .ref (pq 44)) (C := RX11) (T := TX11) (N := 63) hx hb hts in_wsX11_feed_X11 hown hK hP 0 rfl rfl 44 (by decide) (hts (.fieldLink RX11 125 "ShipOfficeModel" "tape" "[I") (by decide +kernel)) (fun _ h9 => h9) rfl dX11_feed_46 ?_
              refine lv_aload_n hx hb dX11_feed_49 rfl (lv_at hl 1 rfl) ?_
              refine va_get (D := (dC, dI)) (ci := 11) (v := .int 4) (C := RX11) (T := TX11) (N := 63) hx hb hts in_wsX11_feed_X11 hown hK hP 0 rfl rfl 46 (by decide) (hts (.fieldLink RX11 205 "ShipOfficeModel" "taped" "I") (by decide +kernel)) (fun _ h9 => h9) rfl dX11_feed_50 ?_
              refine lv_lload_n hx hb dX11_feed_53 rfl (lv_at hl 3 rfl) ?_
              refine lv_bipush (v := 8) hx hb dX11_feed_54 (by decide) ?_
              refine lv_iload hx hb dX11_feed_56 (lv_at hl 0 rfl) ?_
              refine lv_imul hx hb dX11_feed_58 ?_
              refine lv_topi (fun y ey => ?_)
              obtain rfl : y = 32 := ey.trans (by decide)
              refine lv_lshr (v := a2 >>> ((32 : Int32).toInt64 &&& 63)) hx hb dX11_feed_59 rfl ?_
              refine lv_ldc2 (v := 255) hx hb hown (hts (.constantLong RX11 208 (255)) (by decide +kernel)) dX11_feed_60 ?_
              refine lv_land hx hb dX11_feed_63 ?_
              refine lv_l2i (v := ((a2 >>> ((32 : Int32).toInt64 &&& 63)) &&& 255 : Int64).toInt32) hx hb dX11_feed_64 rfl ?_
              refine va_iast hx hb hK hP hD hS 2 1 rfl rfl (by unfold vp_in; decide) dX11_feed_65 (fun H locs hP hD hS => ?_)
              have hP : va_P (dC, dI) vwCl [(g0, .inr (11, ((((((((mF pq).set 46 (.int 1))).set 46 (.int 2))).set 46 (.int 3))).set 46 (.int 4)))), ((pq 0), .inl ((cp 0), 7, .inl (fun _ => 0))), ((pq 44), .inl ((cp 44), 60, .inl (upd (upd (upd (upd (upd (fun _ => 0) (0 : Int32).toNatClampNeg (((a2 >>> ((0 : Int32).toInt64 &&& 63)) &&& 255 : Int64).toInt32)) (1 : Int32).toNatClampNeg (((a2 >>> ((8 : Int32).toInt64 &&& 63)) &&& 255 : Int64).toInt32)) (2 : Int32).toNatClampNeg (((a2 >>> ((16 : Int32).toInt64 &&& 63)) &&& 255 : Int64).toInt32)) (3 : Int32).toNatClampNeg (((a2 >>> ((24 : Int32).toInt64 &&& 63)) &&& 255 : Int64).toInt32)) (4 : Int32).toNatClampNeg (((a2 >>> ((32 : Int32).toInt64 &&& 63)) &&& 255 : Int64).toInt32))))] H := hP
              have hD : va_D A [(g0, .inr (11, ((((((((mF pq).set 46 (.int 1))).set 46 (.int 2))).set 46 (.int 3))).set 46 (.int 4)))), ((pq 0), .inl ((cp 0), 7, .inl (fun _ => 0))), ((pq 44), .inl ((cp 44), 60, .inl (upd (upd (upd (upd (upd (fun _ => 0) (0 : Int32).toNatClampNeg (((a2 >>> ((0 : Int32).toInt64 &&& 63)) &&& 255 : Int64).toInt32)) (1 : Int32).toNatClampNeg (((a2 >>> ((8 : Int32).toInt64 &&& 63)) &&& 255 : Int64).toInt32)) (2 : Int32).toNatClampNeg (((a2 >>> ((16 : Int32).toInt64 &&& 63)) &&& 255 : Int64).toInt32)) (3 : Int32).toNatClampNeg (((a2 >>> ((24 : Int32).toInt64 &&& 63)) &&& 255 : Int64).toInt32)) (4 : Int32).toNatClampNeg (((a2 >>> ((32 : Int32).toInt64 &&& 63)) &&& 255 : Int64).toInt32))))] := hD
              refine lv_aload_n hx hb dX11_feed_66 rfl (lv_at hl 1 rfl) ?_
              refine lv_dup hx hb dX11_feed_67 rfl ?_
              refine va_get (D := (dC, dI)) (ci := 11) (v := .int 4) (C := RX11) (T := TX11) (N := 63) hx hb hts in_wsX11_feed_X11 hown hK hP 0 rfl rfl 46 (by decide) (hts (.fieldLink RX11 205 "ShipOfficeModel" "taped" "I") (by decide +kernel)) (fun _ h9 => h9) rfl dX11_feed_68 ?_
              refine lv_iconst (v := 1) hx hb dX11_feed_71 (by decide) ?_
              refine lv_iadd hx hb dX11_feed_72 ?_
              refine lv_topi (fun y ey => ?_)
              obtain rfl : y = 5 := ey.trans (by decide)
              refine va_put (D := (dC, dI)) (ci := 11) (v := .int 5) (ty := .int) (C := RX11) (T := TX11) (N := 63) hx hb hts in_wsX11_feed_X11 tyX11 tyX11_ok nmX11 hown hK hP hD hS 0 rfl rfl 46 (by decide) (hts (.fieldLink RX11 205 "ShipOfficeModel" "taped" "I") (by decide +kernel)) (fun _ h9 => h9) rfl (by decide +kernel) rfl rfl (Nat.le_of_ble_eq_true rfl) dX11_feed_73 (fun H locs hP hD hS => ?_)
              have hP : va_P (dC, dI) vwCl [(g0, .inr (11, ((((((((((mF pq).set 46 (.int 1))).set 46 (.int 2))).set 46 (.int 3))).set 46 (.int 4))).set 46 (.int 5)))), ((pq 0), .inl ((cp 0), 7, .inl (fun _ => 0))), ((pq 44), .inl ((cp 44), 60, .inl (upd (upd (upd (upd (upd (fun _ => 0) (0 : Int32).toNatClampNeg (((a2 >>> ((0 : Int32).toInt64 &&& 63)) &&& 255 : Int64).toInt32)) (1 : Int32).toNatClampNeg (((a2 >>> ((8 : Int32).toInt64 &&& 63)) &&& 255 : Int64).toInt32)) (2 : Int32).toNatClampNeg (((a2 >>> ((16 : Int32).toInt64 &&& 63)) &&& 255 : Int64).toInt32)) (3 : Int32).toNatClampNeg (((a2 >>> ((24 : Int32).toInt64 &&& 63)) &&& 255 : Int64).toInt32)) (4 : Int32).toNatClampNeg (((a2 >>> ((32 : Int32).toInt64 &&& 63)) &&& 255 : Int64).toInt32))))] H := hP
              have hD : va_D A [(g0, .inr (11, ((((((((((mF pq).set 46 (.int 1))).set 46 (.int 2))).set 46 (.int 3))).set 46 (.int 4))).set 46 (.int 5)))), ((pq 0), .inl ((cp 0), 7, .inl (fun _ => 0))), ((pq 44), .inl ((cp 44), 60, .inl (upd (upd (upd (upd (upd (fun _ => 0) (0 : Int32).toNatClampNeg (((a2 >>> ((0 : Int32).toInt64 &&& 63)) &&& 255 : Int64).toInt32)) (1 : Int32).toNatClampNeg (((a2 >>> ((8 : Int32).toInt64 &&& 63)) &&& 255 : Int64).toInt32)) (2 : Int32).toNatClampNeg (((a2 >>> ((16 : Int32).toInt64 &&& 63)) &&& 255 : Int64).toInt32)) (3 : Int32).toNatClampNeg (((a2 >>> ((24 : Int32).toInt64 &&& 63)) &&& 255 : Int64).toInt32)) (4 : Int32).toNatClampNeg (((a2 >>> ((32 : Int32).toInt64 &&& 63)) &&& 255 : Int64).toInt32))))] := hD
              refine lv_iinc (v := 5) (lv' := [(4, .int 5), (0, .ref g0), (1, .int a1), (2, .long a2)]) hx hb dX11_feed_76 hl (k := 0) rfl (by decide) (by decide) rfl (fun ls hl => ?_)
              refine lv_goto (tgt := 39) hx hb dX11_feed_79 (by decide) ?_
              refine lv_iload hx hb dX11_feed_39 (lv_at hl 0 rfl) ?_
              refine lv_iload_n hx hb dX11_feed_41 rfl (lv_at hl 2 rfl) ?_
              refine lv_icmp_ge (tgt := 82) hx hb dX11_feed_42 (by decide) (fun c_11 => ?_) (fun c_11 => ?_)
              · refine lv_aload_n hx hb dX11_feed_82 rfl (lv_at hl 1 rfl) ?_
                refine va_get (D := (dC, dI)) (ci := 11) (v := .int 5) (C := RX11) (T := TX11) (N := 63) hx hb hts in_wsX11_feed_X11 hown hK hP 0 rfl rfl 46 (by decide) (hts (.fieldLink RX11 205 "ShipOfficeModel" "taped" "I") (by decide +kernel)) (fun _ h9 => h9) rfl dX11_feed_83 ?_
                exact W.iret (v := 5) hx hb hr (fun t ht hW => ⟨⟨5, (), rfl, (by obtain rfl : a1 = 5 := feq c_10 c_11 (by decide); decide), trivial⟩, hS.F ht⟩) hS.2.2 dX11_feed_86
              · refine lv_aload_n hx hb dX11_feed_45 rfl (lv_at hl 1 rfl) ?_
                refine va_get (D := (dC, dI)) (ci := 11) (v := .ref (pq 44)) (C := RX11) (T := TX11) (N := 63) hx hb hts in_wsX11_feed_X11 hown hK hP 0 rfl rfl 44 (by decide) (hts (.fieldLink RX11 125 "ShipOfficeModel" "tape" "[I") (by decide +kernel)) (fun _ h9 => h9) rfl dX11_feed_46 ?_
                refine lv_aload_n hx hb dX11_feed_49 rfl (lv_at hl 1 rfl) ?_
                refine va_get (D := (dC, dI)) (ci := 11) (v := .int 5) (C := RX11) (T := TX11) (N := 63) hx hb hts in_wsX11_feed_X11 hown hK hP 0 rfl rfl 46 (by decide) (hts (.fieldLink RX11 205 "ShipOfficeModel" "taped" "I") (by decide +kernel)) (fun _ h9 => h9) rfl dX11_feed_50 ?_
                refine lv_lload_n hx hb dX11_feed_53 rfl (lv_at hl 3 rfl) ?_
                refine lv_bipush (v := 8) hx hb dX11_feed_54 (by decide) ?_
                refine lv_iload hx hb dX11_feed_56 (lv_at hl 0 rfl) ?_
                refine lv_imul hx hb dX11_feed_58 ?_
                refine lv_topi (fun y ey => ?_)
                obtain rfl : y = 40 := ey.trans (by decide)
                refine lv_lshr (v := a2 >>> ((40 : Int32).toInt64 &&& 63)) hx hb dX11_feed_59 rfl ?_
                refine lv_ldc2 (v := 255) hx hb hown (hts (.constantLong RX11 208 (255)) (by decide +kernel)) dX11_feed_60 ?_
                refine lv_land hx hb dX11_feed_63 ?_
                refine lv_l2i (v := ((a2 >>> ((40 : Int32).toInt64 &&& 63)) &&& 255 : Int64).toInt32) hx hb dX11_feed_64 rfl ?_
                refine va_iast hx hb hK hP hD hS 2 1 rfl rfl (by unfold vp_in; decide) dX11_feed_65 (fun H locs hP hD hS => ?_)
                have hP : va_P (dC, dI) vwCl [(g0, .inr (11, ((((((((((mF pq).set 46 (.int 1))).set 46 (.int 2))).set 46 (.int 3))).set 46 (.int 4))).set 46 (.int 5)))), ((pq 0), .inl ((cp 0), 7, .inl (fun _ => 0))), ((pq 44), .inl ((cp 44), 60, .inl (upd (upd (upd (upd (upd (upd (fun _ => 0) (0 : Int32).toNatClampNeg (((a2 >>> ((0 : Int32).toInt64 &&& 63)) &&& 255 : Int64).toInt32)) (1 : Int32).toNatClampNeg (((a2 >>> ((8 : Int32).toInt64 &&& 63)) &&& 255 : Int64).toInt32)) (2 : Int32).toNatClampNeg (((a2 >>> ((16 : Int32).toInt64 &&& 63)) &&& 255 : Int64).toInt32)) (3 : Int32).toNatClampNeg (((a2 >>> ((24 : Int32).toInt64 &&& 63)) &&& 255 : Int64).toInt32)) (4 : Int32).toNatClampNeg (((a2 >>> ((32 : Int32).toInt64 &&& 63)) &&& 255 : Int64).toInt32)) (5 : Int32).toNatClampNeg (((a2 >>> ((40 : Int32).toInt64 &&& 63)) &&& 255 : Int64).toInt32))))] H := hP
                have hD : va_D A [(g0, .inr (11, ((((((((((mF pq).set 46 (.int 1))).set 46 (.int 2))).set 46 (.int 3))).set 46 (.int 4))).set 46 (.int 5)))), ((pq 0), .inl ((cp 0), 7, .inl (fun _ => 0))), ((pq 44), .inl ((cp 44), 60, .inl (upd (upd (upd (upd (upd (upd (fun _ => 0) (0 : Int32).toNatClampNeg (((a2 >>> ((0 : Int32).toInt64 &&& 63)) &&& 255 : Int64).toInt32)) (1 : Int32).toNatClampNeg (((a2 >>> ((8 : Int32).toInt64 &&& 63)) &&& 255 : Int64).toInt32)) (2 : Int32).toNatClampNeg (((a2 >>> ((16 : Int32).toInt64 &&& 63)) &&& 255 : Int64).toInt32)) (3 : Int32).toNatClampNeg (((a2 >>> ((24 : Int32).toInt64 &&& 63)) &&& 255 : Int64).toInt32)) (4 : Int32).toNatClampNeg (((a2 >>> ((32 : Int32).toInt64 &&& 63)) &&& 255 : Int64).toInt32)) (5 : Int32).toNatClampNeg (((a2 >>> ((40 : Int32).toInt64 &&& 63)) &&& 255 : Int64).toInt32))))] := hD
                refine lv_aload_n hx hb dX11_feed_66 rfl (lv_at hl 1 rfl) ?_
                refine lv_dup hx hb dX11_feed_67 rfl ?_
                refine va_get (D := (dC, dI)) (ci := 11) (v := .int 5) (C := RX11) (T := TX11) (N := 63) hx hb hts in_wsX11_feed_X11 hown hK hP 0 rfl rfl 46 (by decide) (hts (.fieldLink RX11 205 "ShipOfficeModel" "taped" "I") (by decide +kernel)) (fun _ h9 => h9) rfl dX11_feed_68 ?_
                refine lv_iconst (v := 1) hx hb dX11_feed_71 (by decide) ?_
                refine lv_iadd hx hb dX11_feed_72 ?_
                refine lv_topi (fun y ey => ?_)
                obtain rfl : y = 6 := ey.trans (by decide)
                refine va_put (D := (dC, dI)) (ci := 11) (v := .int 6) (ty := .int) (C := RX11) (T := TX11) (N := 63) hx hb hts in_wsX11_feed_X11 tyX11 tyX11_ok nmX11 hown hK hP hD hS 0 rfl rfl 46 (by decide) (hts (.fieldLink RX11 205 "ShipOfficeModel" "taped" "I") (by decide +kernel)) (fun _ h9 => h9) rfl (by decide +kernel) rfl rfl (Nat.le_of_ble_eq_true rfl) dX11_feed_73 (fun H locs hP hD hS => ?_)
                have hP : va_P (dC, dI) vwCl [(g0, .inr (11, ((((((((((((mF pq).set 46 (.int 1))).set 46 (.int 2))).set 46 (.int 3))).set 46 (.int 4))).set 46 (.int 5))).set 46 (.int 6)))), ((pq 0), .inl ((cp 0), 7, .inl (fun _ => 0))), ((pq 44), .inl ((cp 44), 60, .inl (upd (upd (upd (upd (upd (upd (fun _ => 0) (0 : Int32).toNatClampNeg (((a2 >>> ((0 : Int32).toInt64 &&& 63)) &&& 255 : Int64).toInt32)) (1 : Int32).toNatClampNeg (((a2 >>> ((8 : Int32).toInt64 &&& 63)) &&& 255 : Int64).toInt32)) (2 : Int32).toNatClampNeg (((a2 >>> ((16 : Int32).toInt64 &&& 63)) &&& 255 : Int64).toInt32)) (3 : Int32).toNatClampNeg (((a2 >>> ((24 : Int32).toInt64 &&& 63)) &&& 255 : Int64).toInt32)) (4 : Int32).toNatClampNeg (((a2 >>> ((32 : Int32).toInt64 &&& 63)) &&& 255 : Int64).toInt32)) (5 : Int32).toNatClampNeg (((a2 >>> ((40 : Int32).toInt64 &&& 63)) &&& 255 : Int64).toInt32))))] H := hP
                have hD : va_D A [(g0, .inr (11, ((((((((((((mF pq).set 46 (.int 1))).set 46 (.int 2))).set 46 (.int 3))).set 46 (.int 4))).set 46 (.int 5))).set 46 (.int 6)))), ((pq 0), .inl ((cp 0), 7, .inl (fun _ => 0))), ((pq 44), .inl ((cp 44), 60, .inl (upd (upd (upd (upd (upd (upd (fun _ => 0) (0 : Int32).toNatClampNeg (((a2 >>> ((0 : Int32).toInt64 &&& 63)) &&& 255 : Int64).toInt32)) (1 : Int32).toNatClampNeg (((a2 >>> ((8 : Int32).toInt64 &&& 63)) &&& 255 : Int64).toInt32)) (2 : Int32).toNatClampNeg (((a2 >>> ((16 : Int32).toInt64 &&& 63)) &&& 255 : Int64).toInt32)) (3 : Int32).toNatClampNeg (((a2 >>> ((24 : Int32).toInt64 &&& 63)) &&& 255 : Int64).toInt32)) (4 : Int32).toNatClampNeg (((a2 >>> ((32 : Int32).toInt64 &&& 63)) &&& 255 : Int64).toInt32)) (5 : Int32).toNatClampNeg (((a2 >>> ((40 : Int32).toInt64 &&& 63)) &&& 255 : Int64).toInt32))))] := hD
                refine lv_iinc (v := 6) (lv' := [(4, .int 6), (0, .ref g0), (1, .int a1), (2, .long a2)]) hx hb dX11_feed_76 hl (k := 0) rfl (by decide) (by decide) rfl (fun ls hl => ?_)
                refine lv_goto (tgt := 39) hx hb dX11_feed_79 (by decide) ?_
                refine lv_iload hx hb dX11_feed_39 (lv_at hl 0 rfl) ?_
                refine lv_iload_n hx hb dX11_feed_41 rfl (lv_at hl 2 rfl) ?_
                refine lv_icmp_ge (tgt := 82) hx hb dX11_feed_42 (by decide) (fun c_12 => ?_) (fun c_12 => ?_)
                · refine lv_aload_n hx hb dX11_feed_82 rfl (lv_at hl 1 rfl) ?_
                  refine va_get (D := (dC, dI)) (ci := 11) (v := .int 6) (C := RX11) (T := TX11) (N := 63) hx hb hts in_wsX11_feed_X11 hown hK hP 0 rfl rfl 46 (by decide) (hts (.fieldLink RX11 205 "ShipOfficeModel" "taped" "I") (by decide +kernel)) (fun _ h9 => h9) rfl dX11_feed_83 ?_
                  exact W.iret (v := 6) hx hb hr (fun t ht hW => ⟨⟨6, (), rfl, (by obtain rfl : a1 = 6 := feq c_11 c_12 (by decide); decide), trivial⟩, hS.F ht⟩) hS.2.2 dX11_feed_86
                · refine lv_aload_n hx hb dX11_feed_45 rfl (lv_at hl 1 rfl) ?_
                  refine va_get (D := (dC, dI)) (ci := 11) (v := .ref (pq 44)) (C := RX11) (T := TX11) (N := 63) hx hb hts in_wsX11_feed_X11 hown hK hP 0 rfl rfl 44 (by decide) (hts (.fieldLink RX11 125 "ShipOfficeModel" "tape" "[I") (by decide +kernel)) (fun _ h9 => h9) rfl dX11_feed_46 ?_
                  refine lv_aload_n hx hb dX11_feed_49 rfl (lv_at hl 1 rfl) ?_
                  refine va_get (D := (dC, dI)) (ci := 11) (v := .int 6) (C := RX11) (T := TX11) (N := 63) hx hb hts in_wsX11_feed_X11 hown hK hP 0 rfl rfl 46 (by decide) (hts (.fieldLink RX11 205 "ShipOfficeModel" "taped" "I") (by decide +kernel)) (fun _ h9 => h9) rfl dX11_feed_50 ?_
                  refine lv_lload_n hx hb dX11_feed_53 rfl (lv_at hl 3 rfl) ?_
                  refine lv_bipush (v := 8) hx hb dX11_feed_54 (by decide) ?_
                  refine lv_iload hx hb dX11_feed_56 (lv_at hl 0 rfl) ?_
                  refine lv_imul hx hb dX11_feed_58 ?_
                  refine lv_topi (fun y ey => ?_)
                  obtain rfl : y = 48 := ey.trans (by decide)
                  refine lv_lshr (v := a2 >>> ((48 : Int32).toInt64 &&& 63)) hx hb dX11_feed_59 rfl ?_
                  refine lv_ldc2 (v := 255) hx hb hown (hts (.constantLong RX11 208 (255)) (by decide +kernel)) dX11_feed_60 ?_
                  refine lv_land hx hb dX11_feed_63 ?_
                  refine lv_l2i (v := ((a2 >>> ((48 : Int32).toInt64 &&& 63)) &&& 255 : Int64).toInt32) hx hb dX11_feed_64 rfl ?_
                  refine va_iast hx hb hK hP hD hS 2 1 rfl rfl (by unfold vp_in; decide) dX11_feed_65 (fun H locs hP hD hS => ?_)
                  have hP : va_P (dC, dI) vwCl [(g0, .inr (11, ((((((((((((mF pq).set 46 (.int 1))).set 46 (.int 2))).set 46 (.int 3))).set 46 (.int 4))).set 46 (.int 5))).set 46 (.int 6)))), ((pq 0), .inl ((cp 0), 7, .inl (fun _ => 0))), ((pq 44), .inl ((cp 44), 60, .inl (upd (upd (upd (upd (upd (upd (upd (fun _ => 0) (0 : Int32).toNatClampNeg (((a2 >>> ((0 : Int32).toInt64 &&& 63)) &&& 255 : Int64).toInt32)) (1 : Int32).toNatClampNeg (((a2 >>> ((8 : Int32).toInt64 &&& 63)) &&& 255 : Int64).toInt32)) (2 : Int32).toNatClampNeg (((a2 >>> ((16 : Int32).toInt64 &&& 63)) &&& 255 : Int64).toInt32)) (3 : Int32).toNatClampNeg (((a2 >>> ((24 : Int32).toInt64 &&& 63)) &&& 255 : Int64).toInt32)) (4 : Int32).toNatClampNeg (((a2 >>> ((32 : Int32).toInt64 &&& 63)) &&& 255 : Int64).toInt32)) (5 : Int32).toNatClampNeg (((a2 >>> ((40 : Int32).toInt64 &&& 63)) &&& 255 : Int64).toInt32)) (6 : Int32).toNatClampNeg (((a2 >>> ((48 : Int32).toInt64 &&& 63)) &&& 255 : Int64).toInt32))))] H := hP
                  have hD : va_D A [(g0, .inr (11, ((((((((((((mF pq).set 46 (.int 1))).set 46 (.int 2))).set 46 (.int 3))).set 46 (.int 4))).set 46 (.int 5))).set 46 (.int 6)))), ((pq 0), .inl ((cp 0), 7, .inl (fun _ => 0))), ((pq 44), .inl ((cp 44), 60, .inl (upd (upd (upd (upd (upd (upd (upd (fun _ => 0) (0 : Int32).toNatClampNeg (((a2 >>> ((0 : Int32).toInt64 &&& 63)) &&& 255 : Int64).toInt32)) (1 : Int32).toNatClampNeg (((a2 >>> ((8 : Int32).toInt64 &&& 63)) &&& 255 : Int64).toInt32)) (2 : Int32).toNatClampNeg (((a2 >>> ((16 : Int32).toInt64 &&& 63)) &&& 255 : Int64).toInt32)) (3 : Int32).toNatClampNeg (((a2 >>> ((24 : Int32).toInt64 &&& 63)) &&& 255 : Int64).toInt32)) (4 : Int32).toNatClampNeg (((a2 >>> ((32 : Int32).toInt64 &&& 63)) &&& 255 : Int64).toInt32)) (5 : Int32).toNatClampNeg (((a2 >>> ((40 : Int32).toInt64 &&& 63)) &&& 255 : Int64).toInt32)) (6 : Int32).toNatClampNeg (((a2 >>> ((48 : Int32).toInt64 &&& 63)) &&& 255 : Int64).toInt32))))] := hD
                  refine lv_aload_n hx hb dX11_feed_66 rfl (lv_at hl 1 rfl) ?_
                  refine lv_dup hx hb dX11_feed_67 rfl ?_
                  refine va_get (D := (dC, dI)) (ci := 11) (v := .int 6) (C := RX11) (T := TX11) (N := 63) hx hb hts in_wsX11_feed_X11 hown hK hP 0 rfl rfl 46 (by decide) (hts (.fieldLink RX11 205 "ShipOfficeModel" "taped" "I") (by decide +kernel)) (fun _ h9 => h9) rfl dX11_feed_68 ?_
                  refine lv_iconst (v := 1) hx hb dX11_feed_71 (by decide) ?_
                  refine lv_iadd hx hb dX11_feed_72 ?_
                  refine lv_topi (fun y ey => ?_)
                  obtain rfl : y = 7 := ey.trans (by decide)
                  refine va_put (D := (dC, dI)) (ci := 11) (v := .int 7) (ty := .int) (C := RX11) (T := TX11) (N := 63) hx hb hts in_wsX11_feed_X11 tyX11 tyX11_ok nmX11 hown hK hP hD hS 0 rfl rfl 46 (by decide) (hts (.fieldLink RX11 205 "ShipOfficeModel" "taped" "I") (by decide +kernel)) (fun _ h9 => h9) rfl (by decide +kernel) rfl rfl (Nat.le_of_ble_eq_true rfl) dX11_feed_73 (fun H locs hP hD hS => ?_)
                  have hP : va_P (dC, dI) vwCl [(g0, .inr (11, ((((((((((((((mF pq).set 46 (.int 1))).set 46 (.int 2))).set 46 (.int 3))).set 46 (.int 4))).set 46 (.int 5))).set 46 (.int 6))).set 46 (.int 7)))), ((pq 0), .inl ((cp 0), 7, .inl (fun _ => 0))), ((pq 44), .inl ((cp 44), 60, .inl (upd (upd (upd (upd (upd (upd (upd (fun _ => 0) (0 : Int32).toNatClampNeg (((a2 >>> ((0 : Int32).toInt64 &&& 63)) &&& 255 : Int64).toInt32)) (1 : Int32).toNatClampNeg (((a2 >>> ((8 : Int32).toInt64 &&& 63)) &&& 255 : Int64).toInt32)) (2 : Int32).toNatClampNeg (((a2 >>> ((16 : Int32).toInt64 &&& 63)) &&& 255 : Int64).toInt32)) (3 : Int32).toNatClampNeg (((a2 >>> ((24 : Int32).toInt64 &&& 63)) &&& 255 : Int64).toInt32)) (4 : Int32).toNatClampNeg (((a2 >>> ((32 : Int32).toInt64 &&& 63)) &&& 255 : Int64).toInt32)) (5 : Int32).toNatClampNeg (((a2 >>> ((40 : Int32).toInt64 &&& 63)) &&& 255 : Int64).toInt32)) (6 : Int32).toNatClampNeg (((a2 >>> ((48 : Int32).toInt64 &&& 63)) &&& 255 : Int64).toInt32))))] H := hP
                  have hD : va_D A [(g0, .inr (11, ((((((((((((((mF pq).set 46 (.int 1))).set 46 (.int 2))).set 46 (.int 3))).set 46 (.int 4))).set 46 (.int 5))).set 46 (.int 6))).set 46 (.int 7)))), ((pq 0), .inl ((cp 0), 7, .inl (fun _ => 0))), ((pq 44), .inl ((cp 44), 60, .inl (upd (upd (upd (upd (upd (upd (upd (fun _ => 0) (0 : Int32).toNatClampNeg (((a2 >>> ((0 : Int32).toInt64 &&& 63)) &&& 255 : Int64).toInt32)) (1 : Int32).toNatClampNeg (((a2 >>> ((8 : Int32).toInt64 &&& 63)) &&& 255 : Int64).toInt32)) (2 : Int32).toNatClampNeg (((a2 >>> ((16 : Int32).toInt64 &&& 63)) &&& 255 : Int64).toInt32)) (3 : Int32).toNatClampNeg (((a2 >>> ((24 : Int32).toInt64 &&& 63)) &&& 255 : Int64).toInt32)) (4 : Int32).toNatClampNeg (((a2 >>> ((32 : Int32).toInt64 &&& 63)) &&& 255 : Int64).toInt32)) (5 : Int32).toNatClampNeg (((a2 >>> ((40 : Int32).toInt64 &&& 63)) &&& 255 : Int64).toInt32)) (6 : Int32).toNatClampNeg (((a2 >>> ((48 : Int32).toInt64 &&& 63)) &&& 255 : Int64).toInt32))))] := hD
                  refine lv_iinc (v := 7) (lv' := [(4, .int 7), (0, .ref g0), (1, .int a1), (2, .long a2)]) hx hb dX11_feed_76 hl (k := 0) rfl (by decide) (by decide) rfl (fun ls hl => ?_)
                  refine lv_goto (tgt := 39) hx hb dX11_feed_79 (by decide) ?_
                  refine lv_iload hx hb dX11_feed_39 (lv_at hl 0 rfl) ?_
                  refine lv_iload_n hx hb dX11_feed_41 rfl (lv_at hl 2 rfl) ?_
                  refine lv_icmp_ge (tgt := 82) hx hb dX11_feed_42 (by decide) (fun c_13 => ?_) (fun c_13 => ?_)
                  · refine lv_aload_n hx hb dX11_feed_82 rfl (lv_at hl 1 rfl) ?_
                    refine va_get (D := (dC, dI)) (ci := 11) (v := .int 7) (C := RX11) (T := TX11) (N := 63) hx hb hts in_wsX11_feed_X11 hown hK hP 0 rfl rfl 46 (by decide) (hts (.fieldLink RX11 205 "ShipOfficeModel" "taped" "I") (by decide +kernel)) (fun _ h9 => h9) rfl dX11_feed_83 ?_
                    exact W.iret (v := 7) hx hb hr (fun t ht hW => ⟨⟨7, (), rfl, (by obtain rfl : a1 = 7 := feq c_12 c_13 (by decide); decide), trivial⟩, hS.F ht⟩) hS.2.2 dX11_feed_86
                  · refine lv_aload_n hx hb dX11_feed_45 rfl (lv_at hl 1 rfl) ?_
                    refine va_get (D := (dC, dI)) (ci := 11) (v := .ref (pq 44)) (C := RX11) (T := TX11) (N := 63) hx hb hts in_wsX11_feed_X11 hown hK hP 0 rfl rfl 44 (by decide) (hts (.fieldLink RX11 125 "ShipOfficeModel" "tape" "[I") (by decide +kernel)) (fun _ h9 => h9) rfl dX11_feed_46 ?_
                    refine lv_aload_n hx hb dX11_feed_49 rfl (lv_at hl 1 rfl) ?_
                    refine va_get (D := (dC, dI)) (ci := 11) (v := .int 7) (C := RX11) (T := TX11) (N := 63) hx hb hts in_wsX11_feed_X11 hown hK hP 0 rfl rfl 46 (by decide) (hts (.fieldLink RX11 205 "ShipOfficeModel" "taped" "I") (by decide +kernel)) (fun _ h9 => h9) rfl dX11_feed_50 ?_
                    refine lv_lload_n hx hb dX11_feed_53 rfl (lv_at hl 3 rfl) ?_
                    refine lv_bipush (v := 8) hx hb dX11_feed_54 (by decide) ?_
                    refine lv_iload hx hb dX11_feed_56 (lv_at hl 0 rfl) ?_
                    refine lv_imul hx hb dX11_feed_58 ?_
                    refine lv_topi (fun y ey => ?_)
                    obtain rfl : y = 56 := ey.trans (by decide)
                    refine lv_lshr (v := a2 >>> ((56 : Int32).toInt64 &&& 63)) hx hb dX11_feed_59 rfl ?_
                    refine lv_ldc2 (v := 255) hx hb hown (hts (.constantLong RX11 208 (255)) (by decide +kernel)) dX11_feed_60 ?_
                    refine lv_land hx hb dX11_feed_63 ?_
                    refine lv_l2i (v := ((a2 >>> ((56 : Int32).toInt64 &&& 63)) &&& 255 : Int64).toInt32) hx hb dX11_feed_64 rfl ?_
                    refine va_iast hx hb hK hP hD hS 2 1 rfl rfl (by unfold vp_in; decide) dX11_feed_65 (fun H locs hP hD hS => ?_)
                    have hP : va_P (dC, dI) vwCl [(g0, .inr (11, ((((((((((((((mF pq).set 46 (.int 1))).set 46 (.int 2))).set 46 (.int 3))).set 46 (.int 4))).set 46 (.int 5))).set 46 (.int 6))).set 46 (.int 7)))), ((pq 0), .inl ((cp 0), 7, .inl (fun _ => 0))), ((pq 44), .inl ((cp 44), 60, .inl (upd (upd (upd (upd (upd (upd (upd (upd (fun _ => 0) (0 : Int32).toNatClampNeg (((a2 >>> ((0 : Int32).toInt64 &&& 63)) &&& 255 : Int64).toInt32)) (1 : Int32).toNatClampNeg (((a2 >>> ((8 : Int32).toInt64 &&& 63)) &&& 255 : Int64).toInt32)) (2 : Int32).toNatClampNeg (((a2 >>> ((16 : Int32).toInt64 &&& 63)) &&& 255 : Int64).toInt32)) (3 : Int32).toNatClampNeg (((a2 >>> ((24 : Int32).toInt64 &&& 63)) &&& 255 : Int64).toInt32)) (4 : Int32).toNatClampNeg (((a2 >>> ((32 : Int32).toInt64 &&& 63)) &&& 255 : Int64).toInt32)) (5 : Int32).toNatClampNeg (((a2 >>> ((40 : Int32).toInt64 &&& 63)) &&& 255 : Int64).toInt32)) (6 : Int32).toNatClampNeg (((a2 >>> ((48 : Int32).toInt64 &&& 63)) &&& 255 : Int64).toInt32)) (7 : Int32).toNatClampNeg (((a2 >>> ((56 : Int32).toInt64 &&& 63)) &&& 255 : Int64).toInt32))))] H := hP
                    have hD : va_D A [(g0, .inr (11, ((((((((((((((mF pq).set 46 (.int 1))).set 46 (.int 2))).set 46 (.int 3))).set 46 (.int 4))).set 46 (.int 5))).set 46 (.int 6))).set 46 (.int 7)))), ((pq 0), .inl ((cp 0), 7, .inl (fun _ => 0))), ((pq 44), .inl ((cp 44), 60, .inl (upd (upd (upd (upd (upd (upd (upd (upd (fun _ => 0) (0 : Int32).toNatClampNeg (((a2 >>> ((0 : Int32).toInt64 &&& 63)) &&& 255 : Int64).toInt32)) (1 : Int32).toNatClampNeg (((a2 >>> ((8 : Int32).toInt64 &&& 63)) &&& 255 : Int64).toInt32)) (2 : Int32).toNatClampNeg (((a2 >>> ((16 : Int32).toInt64 &&& 63)) &&& 255 : Int64).toInt32)) (3 : Int32).toNatClampNeg (((a2 >>> ((24 : Int32).toInt64 &&& 63)) &&& 255 : Int64).toInt32)) (4 : Int32).toNatClampNeg (((a2 >>> ((32 : Int32).toInt64 &&& 63)) &&& 255 : Int64).toInt32)) (5 : Int32).toNatClampNeg (((a2 >>> ((40 : Int32).toInt64 &&& 63)) &&& 255 : Int64).toInt32)) (6 : Int32).toNatClampNeg (((a2 >>> ((48 : Int32).toInt64 &&& 63)) &&& 255 : Int64).toInt32)) (7 : Int32).toNatClampNeg (((a2 >>> ((56 : Int32).toInt64 &&& 63)) &&& 255 : Int64).toInt32))))] := hD
                    refine lv_aload_n hx hb dX11_feed_66 rfl (lv_at hl 1 rfl) ?_
                    refine lv_dup hx hb dX11_feed_67 rfl ?_
                    refine va_get (D := (dC, dI)) (ci := 11) (v := .int 7) (C := RX11) (T := TX11) (N := 63) hx hb hts in_wsX11_feed_X11 hown hK hP 0 rfl rfl 46 (by decide) (hts (.fieldLink RX11 205 "ShipOfficeModel" "taped" "I") (by decide +kernel)) (fun _ h9 => h9) rfl dX11_feed_68 ?_
                    refine lv_iconst (v := 1) hx hb dX11_feed_71 (by decide) ?_
                    refine lv_iadd hx hb dX11_feed_72 ?_
                    refine lv_topi (fun y ey => ?_)
                    obtain rfl : y = 8 := ey.trans (by decide)
                    refine va_put (D := (dC, dI)) (ci := 11) (v := .int 8) (ty := .int) (C := RX11) (T := TX11) (N := 63) hx hb hts in_wsX11_feed_X11 tyX11 tyX11_ok nmX11 hown hK hP hD hS 0 rfl rfl 46 (by decide) (hts (.fieldLink RX11 205 "ShipOfficeModel" "taped" "I") (by decide +kernel)) (fun _ h9 => h9) rfl (by decide +kernel) rfl rfl (Nat.le_of_ble_eq_true rfl) dX11_feed_73 (fun H locs hP hD hS => ?_)
                    have hP : va_P (dC, dI) vwCl [(g0, .inr (11, ((((((((((((((((mF pq).set 46 (.int 1))).set 46 (.int 2))).set 46 (.int 3))).set 46 (.int 4))).set 46 (.int 5))).set 46 (.int 6))).set 46 (.int 7))).set 46 (.int 8)))), ((pq 0), .inl ((cp 0), 7, .inl (fun _ => 0))), ((pq 44), .inl ((cp 44), 60, .inl (upd (upd (upd (upd (upd (upd (upd (upd (fun _ => 0) (0 : Int32).toNatClampNeg (((a2 >>> ((0 : Int32).toInt64 &&& 63)) &&& 255 : Int64).toInt32)) (1 : Int32).toNatClampNeg (((a2 >>> ((8 : Int32).toInt64 &&& 63)) &&& 255 : Int64).toInt32)) (2 : Int32).toNatClampNeg (((a2 >>> ((16 : Int32).toInt64 &&& 63)) &&& 255 : Int64).toInt32)) (3 : Int32).toNatClampNeg (((a2 >>> ((24 : Int32).toInt64 &&& 63)) &&& 255 : Int64).toInt32)) (4 : Int32).toNatClampNeg (((a2 >>> ((32 : Int32).toInt64 &&& 63)) &&& 255 : Int64).toInt32)) (5 : Int32).toNatClampNeg (((a2 >>> ((40 : Int32).toInt64 &&& 63)) &&& 255 : Int64).toInt32)) (6 : Int32).toNatClampNeg (((a2 >>> ((48 : Int32).toInt64 &&& 63)) &&& 255 : Int64).toInt32)) (7 : Int32).toNatClampNeg (((a2 >>> ((56 : Int32).toInt64 &&& 63)) &&& 255 : Int64).toInt32))))] H := hP
                    have hD : va_D A [(g0, .inr (11, ((((((((((((((((mF pq).set 46 (.int 1))).set 46 (.int 2))).set 46 (.int 3))).set 46 (.int 4))).set 46 (.int 5))).set 46 (.int 6))).set 46 (.int 7))).set 46 (.int 8)))), ((pq 0), .inl ((cp 0), 7, .inl (fun _ => 0))), ((pq 44), .inl ((cp 44), 60, .inl (upd (upd (upd (upd (upd (upd (upd (upd (fun _ => 0) (0 : Int32).toNatClampNeg (((a2 >>> ((0 : Int32).toInt64 &&& 63)) &&& 255 : Int64).toInt32)) (1 : Int32).toNatClampNeg (((a2 >>> ((8 : Int32).toInt64 &&& 63)) &&& 255 : Int64).toInt32)) (2 : Int32).toNatClampNeg (((a2 >>> ((16 : Int32).toInt64 &&& 63)) &&& 255 : Int64).toInt32)) (3 : Int32).toNatClampNeg (((a2 >>> ((24 : Int32).toInt64 &&& 63)) &&& 255 : Int64).toInt32)) (4 : Int32).toNatClampNeg (((a2 >>> ((32 : Int32).toInt64 &&& 63)) &&& 255 : Int64).toInt32)) (5 : Int32).toNatClampNeg (((a2 >>> ((40 : Int32).toInt64 &&& 63)) &&& 255 : Int64).toInt32)) (6 : Int32).toNatClampNeg (((a2 >>> ((48 : Int32).toInt64 &&& 63)) &&& 255 : Int64).toInt32)) (7 : Int32).toNatClampNeg (((a2 >>> ((56 : Int32).toInt64 &&& 63)) &&& 255 : Int64).toInt32))))] := hD
                    refine lv_iinc (v := 8) (lv' := [(4, .int 8), (0, .ref g0), (1, .int a1), (2, .long a2)]) hx hb dX11_feed_76 hl (k := 0) rfl (by decide) (by decide) rfl (fun ls hl => ?_)
                    refine lv_goto (tgt := 39) hx hb dX11_feed_79 (by decide) ?_
                    refine lv_iload hx hb dX11_feed_39 (lv_at hl 0 rfl) ?_
                    refine lv_iload_n hx hb dX11_feed_41 rfl (lv_at hl 2 rfl) ?_
                    refine lv_icmp_ge (tgt := 82) hx hb dX11_feed_42 (by decide) (fun c_14 => ?_) (fun c_14 => absurd c_14 (fun h => h (ile_of_nlt c_2 (by decide))))
                    refine lv_aload_n hx hb dX11_feed_82 rfl (lv_at hl 1 rfl) ?_
                    refine va_get (D := (dC, dI)) (ci := 11) (v := .int 8) (C := RX11) (T := TX11) (N := 63) hx hb hts in_wsX11_feed_X11 hown hK hP 0 rfl rfl 46 (by decide) (hts (.fieldLink RX11 205 "ShipOfficeModel" "taped" "I") (by decide +kernel)) (fun _ h9 => h9) rfl dX11_feed_83 ?_
                    exact W.iret (v := 8) hx hb hr (fun t ht hW => ⟨⟨8, (), rfl, (by obtain rfl : a1 = 8 := feq c_13 c_14 (by decide); decide), trivial⟩, hS.F ht⟩) hS.2.2 dX11_feed_86
  · refine lv_aload_n hx hb dX11_feed_5 rfl (lv_at hl 0 rfl) ?_
    refine lv_bipush (v := (-4)) hx hb dX11_feed_6 (by decide) ?_
    have hPc := hP.sub (ws' := [(g0, .inr (11, mF pq)), ((pq 0), .inl ((cp 0), 7, .inl (fun _ => 0)))]) [0, 1] rfl
    have hDc := hD.sub (ws' := [(g0, .inr (11, mF pq)), ((pq 0), .inl ((cp 0), 7, .inl (fun _ => 0)))]) [0, 1] (by decide) rfl
    have hKc := hK.sub (tys' := [((cp 0), .int)]) [0] rfl
    have hFc := va_free (wc := [(g0, .inr (11, mF pq)), ((pq 0), .inl ((cp 0), 7, .inl (fun _ => 0)))]) hD hS hA [0, 1] rfl
    refine va_calli (va_runV (As := [.int (-4)]) (rest := []) ⟨hx, hb, hml, hown, hts⟩ (c_X11_refuse l dC dI s.heap.size g0 pq cp (-4) (by unfold vp_in; decide)) (cwV 1 hts gX11_feed_X11_refuse rfl rfl rfl (by decide +kernel) ⟨(Nat.le_of_ble_eq_true rfl), (Nat.le_of_ble_eq_true rfl)⟩) (pr_V (r := (RX11, TX11, 63)) hPc hKc hDc 0 11 rfl rfl) rfl rfl hl.1 rfl (lv_room (Nat.le_of_ble_eq_true rfl)) dX11_feed_8 ⟨(Nat.le_of_ble_eq_true rfl), (Nat.le_of_ble_eq_true rfl)⟩) hS (fun q _ h => hFc q h) hFc (fun r_16 u t H locs ht hvm w_15 hB hz1 hk1 hS => ?_)
    subst w_15
    exact W.iret (v := (-4)) hx hb hr (fun t ht hW => ⟨⟨(-4), (), rfl, (by simp [sp_feed, c_1]), trivial⟩, hS.F ht⟩) hS.2.2 dX11_feed_11
set_option maxHeartbeats 4000000 in
set_option maxRecDepth 100000 in
theorem c_X11_sign (l : Launch) (dC : Nat → ClassId) (dI : Nat → Nat → Nat) (sz : Nat) (g0 : Nat) (pq : Nat → Nat) (cp : Nat → ClassId) : Met l yX11_sign wsX11_sign ({ frames := 0, cells := 0, slots := 0, locals := 0 }) (va_Pc [.ref g0] (pcW (dC, dI) [] [(g0, .inr (11, ((((((((((mF pq).set 49 (.int (-1)))).set 50 (.int 0))).set 47 (.int 0))).set 48 (.int 0))).set 51 (.int 1))))] sz)) (va_Qi (fun (r : Int32) (u : Unit) => r = -1) (fun _ _ => True) (va_A [] sz)) 0 0 (va_A [] sz) := by
  refine Met.ofW (cc := cX11_sign) (maxL := 1) (ret := (some .int)) (by decide) rfl ?_
  intro p e s m args below meth c s₁ B hml hv
  obtain ⟨rfl, hsz, hP, hK, hD0⟩ := hv
  have hx := B.exec
  have hb := B.bytes
  have hr := B.returns
  have hts := atoms_spec (ws := wsX11_sign) B.pre
  have hown : s.vm.findClass RX11 = some m.cls := findClass_of_methodNamed B.named
  have hlocks := B.notSynchronized
  subst hsz
  have hD := hD0
  generalize hAe : va_A [] s.heap.size = A at ⊢
  have hA : ∀ q : Nat, s.heap.size ≤ q → A q := fun q h => by rw [← hAe]; exact Or.inr h
  have hS : va_S A s.heap s.heap [] := va_S.rf
  have hP : va_P (dC, dI) vwCl [(g0, .inr (11, ((((((((((mF pq).set 49 (.int (-1)))).set 50 (.int 0))).set 47 (.int 0))).set 48 (.int 0))).set 51 (.int 1))))] s.heap := hP
  have hl := lv_entry ([.ref g0]) (n := 1) (Nat.le_of_ble_eq_true rfl)
  rw [lg_entry_eq]
  generalize (lg_sl ([.ref g0]) ++ List.replicate (1 - (lg_sl ([.ref g0])).length) Slot.unset).toArray = ls at hl ⊢
  have hl : lv_has ls 1 [(0, .ref g0)] := hl
  refine lv_aload_n hx hb dX11_sign_0 rfl (lv_at hl 0 rfl) ?_
  refine va_get (D := (dC, dI)) (ci := 11) (v := .int 0) (C := RX11) (T := TX11) (N := 63) hx hb hts in_wsX11_sign_X11 hown hK hP 0 rfl rfl 47 (by decide) (hts (.fieldLink RX11 210 "ShipOfficeModel" "at" "I") (by decide +kernel)) (fun _ h9 => h9) rfl dX11_sign_1 ?_
  refine lv_aload_n hx hb dX11_sign_4 rfl (lv_at hl 0 rfl) ?_
  refine va_get (D := (dC, dI)) (ci := 11) (v := .int 0) (C := RX11) (T := TX11) (N := 63) hx hb hts in_wsX11_sign_X11 hown hK hP 0 rfl rfl 50 (by decide) (hts (.fieldLink RX11 213 "ShipOfficeModel" "size" "I") (by decide +kernel)) (fun _ h9 => h9) rfl dX11_sign_5 ?_
  refine lv_icmp_lt (tgt := 15) hx hb dX11_sign_8 (by decide) (fun c_1 => absurd c_1 (by decide)) (fun _ => ?_)
  refine lv_iconst (v := (-1)) hx hb dX11_sign_11 (by decide) ?_
  refine lv_goto (tgt := 48) hx hb dX11_sign_12 (by decide) ?_
  exact W.iret (v := (-1)) hx hb hr (fun t ht hW => ⟨⟨(-1), (), rfl, rfl, trivial⟩, hS.F ht⟩) hS.2.2 dX11_sign_48
set_option maxHeartbeats 4000000 in
set_option maxRecDepth 100000 in
theorem c_X11_isLetter (l : Launch) (dC : Nat → ClassId) (dI : Nat → Nat → Nat) (sz : Nat)  : Met l yX11_isLetter wsX11_isLetter ({ frames := 0, cells := 0, slots := 0, locals := 0 }) (va_Pc [.int (-1)] (pcW (dC, dI) [] [] sz)) (va_Qi (fun (r : Int32) (u : Unit) => r = 0) (fun _ _ => True) (va_A [] sz)) 0 0 (va_A [] sz) := by
  refine Met.ofW (cc := cX11_isLetter) (maxL := 1) (ret := (some .boolean)) (by decide) rfl ?_
  intro p e s m args below meth c s₁ B hml hv
  obtain ⟨rfl, hsz, hP, hK, hD0⟩ := hv
  have hx := B.exec
  have hb := B.bytes
  have hr := B.returns
  have hts := atoms_spec (ws := wsX11_isLetter) B.pre
  have hown : s.vm.findClass RX11 = some m.cls := findClass_of_methodNamed B.named
  have hlocks := B.notSynchronized
  subst hsz
  have hD := hD0
  generalize hAe : va_A [] s.heap.size = A at ⊢
  have hA : ∀ q : Nat, s.heap.size ≤ q → A q := fun q h => by rw [← hAe]; exact Or.inr h
  have hS : va_S A s.heap s.heap [] := va_S.rf
  have hP : va_P (dC, dI) vwCl [] s.heap := hP
  have hl := lv_entry ([.int (-1)]) (n := 1) (Nat.le_of_ble_eq_true rfl)
  rw [lg_entry_eq]
  generalize (lg_sl ([.int (-1)]) ++ List.replicate (1 - (lg_sl ([.int (-1)])).length) Slot.unset).toArray = ls at hl ⊢
  have hl : lv_has ls 1 [(0, .int (-1))] := hl
  refine lv_iload_n hx hb dX11_isLetter_0 rfl (lv_at hl 0 rfl) ?_
  refine lv_bipush (v := 119) hx hb dX11_isLetter_1 (by decide) ?_
  refine lv_icmp_eq (tgt := 48) hx hb dX11_isLetter_3 (by decide) (fun c_1 => absurd c_1 (by decide)) (fun _ => ?_)
  refine lv_iload_n hx hb dX11_isLetter_6 rfl (lv_at hl 0 rfl) ?_
  refine lv_bipush (v := 114) hx hb dX11_isLetter_7 (by decide) ?_
  refine lv_icmp_eq (tgt := 48) hx hb dX11_isLetter_9 (by decide) (fun c_2 => absurd c_2 (by decide)) (fun _ => ?_)
  refine lv_iload_n hx hb dX11_isLetter_12 rfl (lv_at hl 0 rfl) ?_
  refine lv_bipush (v := 97) hx hb dX11_isLetter_13 (by decide) ?_
  refine lv_icmp_eq (tgt := 48) hx hb dX11_isLetter_15 (by decide) (fun c_3 => absurd c_3 (by decide)) (fun _ => ?_)
  refine lv_iload_n hx hb dX11_isLetter_18 rfl (lv_at hl 0 rfl) ?_
  refine lv_bipush (v := 100) hx hb dX11_isLetter_19 (by decide) ?_
  refine lv_icmp_eq (tgt := 48) hx hb dX11_isLetter_21 (by decide) (fun c_4 => absurd c_4 (by decide)) (fun _ => ?_)
  refine lv_iload_n hx hb dX11_isLetter_24 rfl (lv_at hl 0 rfl) ?_
  refine lv_bipush (v := 110) hx hb dX11_isLetter_25 (by decide) ?_
  refine lv_icmp_eq (tgt := 48) hx hb dX11_isLetter_27 (by decide) (fun c_5 => absurd c_5 (by decide)) (fun _ => ?_)
  refine lv_iload_n hx hb dX11_isLetter_30 rfl (lv_at hl 0 rfl) ?_
  refine lv_bipush (v := 115) hx hb dX11_isLetter_31 (by decide) ?_
  refine lv_icmp_eq (tgt := 48) hx hb dX11_isLetter_33 (by decide) (fun c_6 => absurd c_6 (by decide)) (fun _ => ?_)
  refine lv_iload_n hx hb dX11_isLetter_36 rfl (lv_at hl 0 rfl) ?_
  refine lv_bipush (v := 108) hx hb dX11_isLetter_37 (by decide) ?_
  refine lv_icmp_eq (tgt := 48) hx hb dX11_isLetter_39 (by decide) (fun c_7 => absurd c_7 (by decide)) (fun _ => ?_)
  refine lv_iload_n hx hb dX11_isLetter_42 rfl (lv_at hl 0 rfl) ?_
  refine lv_bipush (v := 120) hx hb dX11_isLetter_43 (by decide) ?_
  refine lv_icmp_ne (tgt := 52) hx hb dX11_isLetter_45 (by decide) (fun _ => ?_) (fun c_8 => absurd c_8 (by decide))
  refine lv_iconst (v := 0) hx hb dX11_isLetter_52 (by decide) ?_
  exact W.zret (v := 0) hx hb hr rfl (fun t ht hW => ⟨⟨0, (), rfl, rfl, trivial⟩, hS.F ht⟩) hS.2.2 dX11_isLetter_53
set_option maxHeartbeats 4000000 in
set_option maxRecDepth 100000 in
theorem c_X11_breaks (l : Launch) (dC : Nat → ClassId) (dI : Nat → Nat → Nat) (sz : Nat) (g0 : Nat) (pq : Nat → Nat) (cp : Nat → ClassId) : Met l yX11_breaks wsX11_breaks ({ frames := 0, cells := 0, slots := 0, locals := 0 }) (va_Pc [.ref g0] (pcW (dC, dI) [] [(g0, .inr (11, ((((((((((mF pq).set 49 (.int (-1)))).set 50 (.int 0))).set 47 (.int 0))).set 48 (.int 0))).set 51 (.int 1))))] sz)) (va_Qi (fun (r : Int32) (u : Unit) => r = 0) (fun u t => va_P (dC, dI) vwCl [(g0, .inr (11, ((((((((((((mF pq).set 49 (.int (-1)))).set 50 (.int 0))).set 47 (.int 0))).set 48 (.int 0))).set 51 (.int 1))).set 51 (.int 0))))] t.heap ∧ va_K (dC, dI) vwCl [] t ∧ va_D (va_A [(g0, .inr (11, ((((((((((mF pq).set 49 (.int (-1)))).set 50 (.int 0))).set 47 (.int 0))).set 48 (.int 0))).set 51 (.int 1))))] sz) [(g0, .inr (11, ((((((((((((mF pq).set 49 (.int (-1)))).set 50 (.int 0))).set 47 (.int 0))).set 48 (.int 0))).set 51 (.int 1))).set 51 (.int 0))))]) (va_A [(g0, .inr (11, ((((((((((mF pq).set 49 (.int (-1)))).set 50 (.int 0))).set 47 (.int 0))).set 48 (.int 0))).set 51 (.int 1))))] sz)) 0 0 (va_A [(g0, .inr (11, ((((((((((mF pq).set 49 (.int (-1)))).set 50 (.int 0))).set 47 (.int 0))).set 48 (.int 0))).set 51 (.int 1))))] sz) := by
  refine Met.ofW (cc := cX11_breaks) (maxL := 1) (ret := (some .int)) (by decide) rfl ?_
  intro p e s m args below meth c s₁ B hml hv
  obtain ⟨rfl, hsz, hP, hK, hD0⟩ := hv
  have hx := B.exec
  have hb := B.bytes
  have hr := B.returns
  have hts := atoms_spec (ws := wsX11_breaks) B.pre
  have hown : s.vm.findClass RX11 = some m.cls := findClass_of_methodNamed B.named
  have hlocks := B.notSynchronized
  subst hsz
  have hD := hD0.self (sz := s.heap.size)
  generalize hAe : va_A [(g0, .inr (11, ((((((((((mF pq).set 49 (.int (-1)))).set 50 (.int 0))).set 47 (.int 0))).set 48 (.int 0))).set 51 (.int 1))))] s.heap.size = A at hD ⊢
  have hA : ∀ q : Nat, s.heap.size ≤ q → A q := fun q h => by rw [← hAe]; exact Or.inr h
  have hS : va_S A s.heap s.heap [] := va_S.rf
  have hP : va_P (dC, dI) vwCl [(g0, .inr (11, ((((((((((mF pq).set 49 (.int (-1)))).set 50 (.int 0))).set 47 (.int 0))).set 48 (.int 0))).set 51 (.int 1))))] s.heap := hP
  have hl := lv_entry ([.ref g0]) (n := 1) (Nat.le_of_ble_eq_true rfl)
  rw [lg_entry_eq]
  generalize (lg_sl ([.ref g0]) ++ List.replicate (1 - (lg_sl ([.ref g0])).length) Slot.unset).toArray = ls at hl ⊢
  have hl : lv_has ls 1 [(0, .ref g0)] := hl
  refine lv_aload_n hx hb dX11_breaks_0 rfl (lv_at hl 0 rfl) ?_
  refine lv_iconst (v := 0) hx hb dX11_breaks_1 (by decide) ?_
  refine va_put (D := (dC, dI)) (ci := 11) (v := .int 0) (ty := .boolean) (C := RX11) (T := TX11) (N := 63) hx hb hts in_wsX11_breaks_X11 tyX11 tyX11_ok nmX11 hown hK hP hD hS 0 rfl rfl 51 (by decide) (hts (.fieldLink RX11 223 "ShipOfficeModel" "isWell" "Z") (by decide +kernel)) (fun _ h9 => h9) rfl (by decide +kernel) rfl rfl (Nat.le_of_ble_eq_true rfl) dX11_breaks_2 (fun H locs hP hD hS => ?_)
  have hP : va_P (dC, dI) vwCl [(g0, .inr (11, ((((((((((((mF pq).set 49 (.int (-1)))).set 50 (.int 0))).set 47 (.int 0))).set 48 (.int 0))).set 51 (.int 1))).set 51 (.int 0))))] H := hP
  have hD : va_D A [(g0, .inr (11, ((((((((((((mF pq).set 49 (.int (-1)))).set 50 (.int 0))).set 47 (.int 0))).set 48 (.int 0))).set 51 (.int 1))).set 51 (.int 0))))] := hD
  refine lv_iconst (v := 0) hx hb dX11_breaks_5 (by decide) ?_
  have hP9 := hP.sub (ws' := [(g0, .inr (11, ((((((((((((mF pq).set 49 (.int (-1)))).set 50 (.int 0))).set 47 (.int 0))).set 48 (.int 0))).set 51 (.int 1))).set 51 (.int 0))))]) [0] rfl
  have hD9 := hD.sub (ws' := [(g0, .inr (11, ((((((((((((mF pq).set 49 (.int (-1)))).set 50 (.int 0))).set 47 (.int 0))).set 48 (.int 0))).set 51 (.int 1))).set 51 (.int 0))))]) [0] (by decide) rfl
  have hK9 := hK.sub (tys' := []) [] rfl
  subst hAe
  exact W.iret (v := 0) hx hb hr (fun t ht hW => ⟨⟨0, (), rfl, rfl, ⟨by rw [ht]; exact hP9, va_K.moved hW.alike hK9, hD9⟩⟩, hS.F ht⟩) hS.2.2 dX11_breaks_6
set_option maxHeartbeats 4000000 in
set_option maxRecDepth 100000 in
theorem c_X11_unit (l : Launch) (dC : Nat → ClassId) (dI : Nat → Nat → Nat) (sz : Nat) (g0 : Nat) (pq : Nat → Nat) (cp : Nat → ClassId) : Met l yX11_unit wsX11_unit ({ frames := 1, cells := 0, slots := 0, locals := 20 }) (va_Pc [.ref g0] (pcW (dC, dI) [] [(g0, .inr (11, ((((((((((mF pq).set 49 (.int (-1)))).set 50 (.int 0))).set 47 (.int 0))).set 48 (.int 0))).set 51 (.int 1))))] sz)) (va_Qi (fun (r : Int32) (u : Unit) => r = 0) (fun u t => va_P (dC, dI) vwCl [(g0, .inr (11, ((((((((((((mF pq).set 49 (.int (-1)))).set 50 (.int 0))).set 47 (.int 0))).set 48 (.int 0))).set 51 (.int 1))).set 51 (.int 0))))] t.heap ∧ va_K (dC, dI) vwCl [] t ∧ va_D (va_A [(g0, .inr (11, ((((((((((mF pq).set 49 (.int (-1)))).set 50 (.int 0))).set 47 (.int 0))).set 48 (.int 0))).set 51 (.int 1))))] sz) [(g0, .inr (11, ((((((((((((mF pq).set 49 (.int (-1)))).set 50 (.int 0))).set 47 (.int 0))).set 48 (.int 0))).set 51 (.int 1))).set 51 (.int 0))))]) (va_A [(g0, .inr (11, ((((((((((mF pq).set 49 (.int (-1)))).set 50 (.int 0))).set 47 (.int 0))).set 48 (.int 0))).set 51 (.int 1))))] sz)) 0 0 (va_A [(g0, .inr (11, ((((((((((mF pq).set 49 (.int (-1)))).set 50 (.int 0))).set 47 (.int 0))).set 48 (.int 0))).set 51 (.int 1))))] sz) := by
  refine Met.ofW (cc := cX11_unit) (maxL := 5) (ret := (some .int)) (by decide) rfl ?_
  intro p e s m args below meth c s₁ B hml hv
  obtain ⟨rfl, hsz, hP, hK, hD0⟩ := hv
  have hx := B.exec
  have hb := B.bytes
  have hr := B.returns
  have hts := atoms_spec (ws := wsX11_unit) B.pre
  have hown : s.vm.findClass RX11 = some m.cls := findClass_of_methodNamed B.named
  have hlocks := B.notSynchronized
  subst hsz
  have hD := hD0.self (sz := s.heap.size)
  generalize hAe : va_A [(g0, .inr (11, ((((((((((mF pq).set 49 (.int (-1)))).set 50 (.int 0))).set 47 (.int 0))).set 48 (.int 0))).set 51 (.int 1))))] s.heap.size = A at hD ⊢
  have hA : ∀ q : Nat, s.heap.size ≤ q → A q := fun q h => by rw [← hAe]; exact Or.inr h
  have hS : va_S A s.heap s.heap [] := va_S.rf
  have hP : va_P (dC, dI) vwCl [(g0, .inr (11, ((((((((((mF pq).set 49 (.int (-1)))).set 50 (.int 0))).set 47 (.int 0))).set 48 (.int 0))).set 51 (.int 1))))] s.heap := hP
  have hl := lv_entry ([.ref g0]) (n := 5) (Nat.le_of_ble_eq_true rfl)
  rw [lg_entry_eq]
  generalize (lg_sl ([.ref g0]) ++ List.replicate (5 - (lg_sl ([.ref g0])).length) Slot.unset).toArray = ls at hl ⊢
  have hl : lv_has ls 5 [(0, .ref g0)] := hl
  refine lv_aload_n hx hb dX11_unit_0 rfl (lv_at hl 0 rfl) ?_
  refine va_get (D := (dC, dI)) (ci := 11) (v := .int 1) (C := RX11) (T := TX11) (N := 63) hx hb hts in_wsX11_unit_X11 hown hK hP 0 rfl rfl 51 (by decide) (hts (.fieldLink RX11 223 "ShipOfficeModel" "isWell" "Z") (by decide +kernel)) (fun _ h9 => h9) rfl dX11_unit_1 ?_
  refine lv_if_ne (tgt := 9) hx hb dX11_unit_4 (by decide) (fun _ => ?_) (fun c_1 => absurd c_1 (by decide))
  refine lv_aload_n hx hb dX11_unit_9 rfl (lv_at hl 0 rfl) ?_
  have hPc := hP.sub (ws' := [(g0, .inr (11, ((((((((((mF pq).set 49 (.int (-1)))).set 50 (.int 0))).set 47 (.int 0))).set 48 (.int 0))).set 51 (.int 1))))]) [0] rfl
  have hDc := hD.sub (ws' := [(g0, .inr (11, ((((((((((mF pq).set 49 (.int (-1)))).set 50 (.int 0))).set 47 (.int 0))).set 48 (.int 0))).set 51 (.int 1))))]) [0] (by decide) rfl
  have hKc := hK.sub (tys' := []) [] rfl
  have hFc : ∀ q, va_A [] s.heap.size q → A q := pu_free hS hA
  refine va_calli (va_runV (As := []) (rest := []) ⟨hx, hb, hml, hown, hts⟩ (c_X11_sign l dC dI s.heap.size g0 pq cp) (cwV 0 hts gX11_unit_X11_sign rfl rfl rfl (by decide +kernel) ⟨(Nat.le_of_ble_eq_true rfl), (Nat.le_of_ble_eq_true rfl)⟩) (pr_V (r := (RX11, TX11, 63)) hPc hKc hDc 0 11 rfl rfl) rfl rfl hl.1 rfl (lv_room (Nat.le_of_ble_eq_true rfl)) dX11_unit_10 ⟨(Nat.le_of_ble_eq_true rfl), (Nat.le_of_ble_eq_true rfl)⟩) hS (fun q _ h => hFc q h) hFc (fun r_3 u t H locs ht hvm w_2 hB hz1 hk1 hS => ?_)
  have hP := pu_keep hP hk1
  clear hk1 hz1 hvm hB hPc hDc hKc hFc ht
  subst w_2
  refine lv_istore_n (lv' := [(1, .int (-1)), (0, .ref g0)]) hx hb dX11_unit_13 rfl hl (by decide) rfl (fun ls hl => ?_)
  refine lv_iload_n hx hb dX11_unit_14 rfl (lv_at hl 0 rfl) ?_
  have hPc := hP.sub (ws' := []) [] rfl
  have hDc := hD.sub (ws' := []) [] (by decide) rfl
  have hKc := hK.sub (tys' := []) [] rfl
  have hFc : ∀ q, va_A [] H.size q → A q := pu_free hS hA
  refine va_calli (va_runS (As := [.int (-1)]) (rest := []) ⟨hx, hb, hml, hown, hts⟩ (c_X11_isLetter l dC dI H.size ) (va_cwS 1 hts gX11_unit_X11_isLetter rfl rfl rfl (by decide +kernel) ⟨(Nat.le_of_ble_eq_true rfl), (Nat.le_of_ble_eq_true rfl)⟩) (pr_S hPc hKc hDc) rfl rfl hl.1 rfl (lv_room (Nat.le_of_ble_eq_true rfl)) dX11_unit_15 ⟨(Nat.le_of_ble_eq_true rfl), (Nat.le_of_ble_eq_true rfl)⟩) hS (fun q _ h => hFc q h) hFc (fun r_5 u t H locs ht hvm w_4 hB hz1 hk1 hS => ?_)
  have hP := pu_keep hP hk1
  clear hk1 hz1 hvm hB hPc hDc hKc hFc ht
  subst w_4
  refine lv_if_eq (tgt := 42) hx hb dX11_unit_18 (by decide) (fun _ => ?_) (fun c_6 => absurd c_6 (by decide))
  refine lv_iload_n hx hb dX11_unit_42 rfl (lv_at hl 0 rfl) ?_
  refine lv_bipush (v := 40) hx hb dX11_unit_43 (by decide) ?_
  refine lv_icmp_ne (tgt := 210) hx hb dX11_unit_45 (by decide) (fun _ => ?_) (fun c_7 => absurd c_7 (by decide))
  refine lv_iconst (v := 0) hx hb dX11_unit_210 (by decide) ?_
  refine lv_istore_n (lv' := [(2, .int 0), (1, .int (-1)), (0, .ref g0)]) hx hb dX11_unit_211 rfl hl (by decide) rfl (fun ls hl => ?_)
  refine lv_iconst (v := 0) hx hb dX11_unit_212 (by decide) ?_
  refine lv_istore_n (lv' := [(3, .int 0), (2, .int 0), (1, .int (-1)), (0, .ref g0)]) hx hb dX11_unit_213 rfl hl (by decide) rfl (fun ls hl => ?_)
  refine lv_iload_n hx hb dX11_unit_214 rfl (lv_at hl 0 rfl) ?_
  refine lv_iconst (v := 5) hx hb dX11_unit_215 (by decide) ?_
  refine lv_icmp_ge (tgt := 266) hx hb dX11_unit_216 (by decide) (fun c_8 => absurd c_8 (by decide)) (fun _ => ?_)
  refine lv_aload_n hx hb dX11_unit_219 rfl (lv_at hl 3 rfl) ?_
  have hPc := hP.sub (ws' := [(g0, .inr (11, ((((((((((mF pq).set 49 (.int (-1)))).set 50 (.int 0))).set 47 (.int 0))).set 48 (.int 0))).set 51 (.int 1))))]) [0] rfl
  have hDc := hD.sub (ws' := [(g0, .inr (11, ((((((((((mF pq).set 49 (.int (-1)))).set 50 (.int 0))).set 47 (.int 0))).set 48 (.int 0))).set 51 (.int 1))))]) [0] (by decide) rfl
  have hKc := hK.sub (tys' := []) [] rfl
  have hFc : ∀ q, va_A [] H.size q → A q := pu_free hS hA
  refine va_calli (va_runV (As := []) (rest := []) ⟨hx, hb, hml, hown, hts⟩ (c_X11_sign l dC dI H.size g0 pq cp) (cwV 0 hts gX11_unit_X11_sign rfl rfl rfl (by decide +kernel) ⟨(Nat.le_of_ble_eq_true rfl), (Nat.le_of_ble_eq_true rfl)⟩) (pr_V (r := (RX11, TX11, 63)) hPc hKc hDc 0 11 rfl rfl) rfl rfl hl.1 rfl (lv_room (Nat.le_of_ble_eq_true rfl)) dX11_unit_220 ⟨(Nat.le_of_ble_eq_true rfl), (Nat.le_of_ble_eq_true rfl)⟩) hS (fun q _ h => hFc q h) hFc (fun r_10 u t H locs ht hvm w_9 hB hz1 hk1 hS => ?_)
  have hP := pu_keep hP hk1
  clear hk1 hz1 hvm hB hPc hDc hKc hFc ht
  subst w_9
  refine lv_bipush (v := 48) hx hb dX11_unit_223 (by decide) ?_
  refine lv_icmp_lt (tgt := 266) hx hb dX11_unit_225 (by decide) (fun _ => ?_) (fun c_11 => absurd c_11 (by decide))
  refine lv_iload_n hx hb dX11_unit_266 rfl (lv_at hl 0 rfl) ?_
  refine lv_if_ne (tgt := 277) hx hb dX11_unit_267 (by decide) (fun c_12 => absurd c_12 (by decide)) (fun _ => ?_)
  refine lv_aload_n hx hb dX11_unit_270 rfl (lv_at hl 3 rfl) ?_
  have hPc := hP.sub (ws' := [(g0, .inr (11, ((((((((((mF pq).set 49 (.int (-1)))).set 50 (.int 0))).set 47 (.int 0))).set 48 (.int 0))).set 51 (.int 1))))]) [0] rfl
  have hDc := hD.sub (ws' := [(g0, .inr (11, ((((((((((mF pq).set 49 (.int (-1)))).set 50 (.int 0))).set 47 (.int 0))).set 48 (.int 0))).set 51 (.int 1))))]) [0] (by decide) rfl
  have hKc := hK.sub (tys' := []) [] rfl
  have hFc := va_free (wc := [(g0, .inr (11, ((((((((((mF pq).set 49 (.int (-1)))).set 50 (.int 0))).set 47 (.int 0))).set 48 (.int 0))).set 51 (.int 1))))]) hD hS hA [0] rfl
  refine va_calli (va_runV (As := []) (rest := []) ⟨hx, hb, hml, hown, hts⟩ (c_X11_breaks l dC dI H.size g0 pq cp) (cwV 0 hts gX11_unit_X11_breaks rfl rfl rfl (by decide +kernel) ⟨(Nat.le_of_ble_eq_true rfl), (Nat.le_of_ble_eq_true rfl)⟩) (pr_V (r := (RX11, TX11, 63)) hPc hKc hDc 0 11 rfl rfl) rfl rfl hl.1 rfl (lv_room (Nat.le_of_ble_eq_true rfl)) dX11_unit_271 ⟨(Nat.le_of_ble_eq_true rfl), (Nat.le_of_ble_eq_true rfl)⟩) hS (fun q _ h => hFc q h) hFc (fun r_14 u t H locs ht hvm w_13 hB hz1 hk1 hS => ?_)
  obtain ⟨hP1, hK1, hD1⟩ := hB
  rw [ht] at hP1
  have hK1 := va_K.moved hvm.symm hK1
  obtain ⟨hP, hD⟩ := va_join (wr := []) (w1 := [(g0, .inr (11, ((((((((((((mF pq).set 49 (.int (-1)))).set 50 (.int 0))).set 47 (.int 0))).set 48 (.int 0))).set 51 (.int 1))).set 51 (.int 0))))]) hP hD [0] [] rfl rfl (by decide) (by decide) hk1 hFc hP1 hD1
  have hK := hK.app hK1
  have hP : va_P (dC, dI) vwCl [(g0, .inr (11, ((((((((((((mF pq).set 49 (.int (-1)))).set 50 (.int 0))).set 47 (.int 0))).set 48 (.int 0))).set 51 (.int 1))).set 51 (.int 0))))] H := hP
  have hD : va_D A [(g0, .inr (11, ((((((((((((mF pq).set 49 (.int (-1)))).set 50 (.int 0))).set 47 (.int 0))).set 48 (.int 0))).set 51 (.int 1))).set 51 (.int 0))))] := hD
  have hK : va_K (dC, dI) vwCl [] s := hK
  clear hP1 hK1 hD1 hk1 hz1 hvm ht hPc hDc hKc hFc
  subst w_13
  refine lv_goto (tgt := 278) hx hb dX11_unit_274 (by decide) ?_
  have hP9 := hP.sub (ws' := [(g0, .inr (11, ((((((((((((mF pq).set 49 (.int (-1)))).set 50 (.int 0))).set 47 (.int 0))).set 48 (.int 0))).set 51 (.int 1))).set 51 (.int 0))))]) [0] rfl
  have hD9 := hD.sub (ws' := [(g0, .inr (11, ((((((((((((mF pq).set 49 (.int (-1)))).set 50 (.int 0))).set 47 (.int 0))).set 48 (.int 0))).set 51 (.int 1))).set 51 (.int 0))))]) [0] (by decide) rfl
  have hK9 := hK.sub (tys' := []) [] rfl
  subst hAe
  exact W.iret (v := 0) hx hb hr (fun t ht hW => ⟨⟨0, (), rfl, rfl, ⟨by rw [ht]; exact hP9, va_K.moved hW.alike hK9, hD9⟩⟩, hS.F ht⟩) hS.2.2 dX11_unit_278
set_option maxHeartbeats 4000000 in
set_option maxRecDepth 100000 in
theorem c_X11_term (l : Launch) (dC : Nat → ClassId) (dI : Nat → Nat → Nat) (sz : Nat) (g0 : Nat) (pq : Nat → Nat) (cp : Nat → ClassId) : Met l yX11_term wsX11_term ({ frames := 2, cells := 0, slots := 0, locals := 44 }) (va_Pc [.ref g0] (pcW (dC, dI) [] [(g0, .inr (11, ((((((((((mF pq).set 49 (.int (-1)))).set 50 (.int 0))).set 47 (.int 0))).set 48 (.int 0))).set 51 (.int 1))))] sz)) (va_Qi (fun (r : Int32) (u : Unit) => r = 0) (fun u t => va_P (dC, dI) vwCl [(g0, .inr (11, ((((((((((((mF pq).set 49 (.int (-1)))).set 50 (.int 0))).set 47 (.int 0))).set 48 (.int 0))).set 51 (.int 1))).set 51 (.int 0))))] t.heap ∧ va_K (dC, dI) vwCl [] t ∧ va_D (va_A [(g0, .inr (11, ((((((((((mF pq).set 49 (.int (-1)))).set 50 (.int 0))).set 47 (.int 0))).set 48 (.int 0))).set 51 (.int 1))))] sz) [(g0, .inr (11, ((((((((((((mF pq).set 49 (.int (-1)))).set 50 (.int 0))).set 47 (.int 0))).set 48 (.int 0))).set 51 (.int 1))).set 51 (.int 0))))]) (va_A [(g0, .inr (11, ((((((((((mF pq).set 49 (.int (-1)))).set 50 (.int 0))).set 47 (.int 0))).set 48 (.int 0))).set 51 (.int 1))))] sz)) 0 0 (va_A [(g0, .inr (11, ((((((((((mF pq).set 49 (.int (-1)))).set 50 (.int 0))).set 47 (.int 0))).set 48 (.int 0))).set 51 (.int 1))))] sz) := by
  refine Met.ofW (cc := cX11_term) (maxL := 4) (ret := (some .int)) (by decide) rfl ?_
  intro p e s m args below meth c s₁ B hml hv
  obtain ⟨rfl, hsz, hP, hK, hD0⟩ := hv
  have hx := B.exec
  have hb := B.bytes
  have hr := B.returns
  have hts := atoms_spec (ws := wsX11_term) B.pre
  have hown : s.vm.findClass RX11 = some m.cls := findClass_of_methodNamed B.named
  have hlocks := B.notSynchronized
  subst hsz
  have hD := hD0.self (sz := s.heap.size)
  generalize hAe : va_A [(g0, .inr (11, ((((((((((mF pq).set 49 (.int (-1)))).set 50 (.int 0))).set 47 (.int 0))).set 48 (.int 0))).set 51 (.int 1))))] s.heap.size = A at hD ⊢
  have hA : ∀ q : Nat, s.heap.size ≤ q → A q := fun q h => by rw [← hAe]; exact Or.inr h
  have hS : va_S A s.heap s.heap [] := va_S.rf
  have hP : va_P (dC, dI) vwCl [(g0, .inr (11, ((((((((((mF pq).set 49 (.int (-1)))).set 50 (.int 0))).set 47 (.int 0))).set 48 (.int 0))).set 51 (.int 1))))] s.heap := hP
  have hl := lv_entry ([.ref g0]) (n := 4) (Nat.le_of_ble_eq_true rfl)
  rw [lg_entry_eq]
  generalize (lg_sl ([.ref g0]) ++ List.replicate (4 - (lg_sl ([.ref g0])).length) Slot.unset).toArray = ls at hl ⊢
  have hl : lv_has ls 4 [(0, .ref g0)] := hl
  refine lv_aload_n hx hb dX11_term_0 rfl (lv_at hl 0 rfl) ?_
  have hPc := hP.sub (ws' := [(g0, .inr (11, ((((((((((mF pq).set 49 (.int (-1)))).set 50 (.int 0))).set 47 (.int 0))).set 48 (.int 0))).set 51 (.int 1))))]) [0] rfl
  have hDc := hD.sub (ws' := [(g0, .inr (11, ((((((((((mF pq).set 49 (.int (-1)))).set 50 (.int 0))).set 47 (.int 0))).set 48 (.int 0))).set 51 (.int 1))))]) [0] (by decide) rfl
  have hKc := hK.sub (tys' := []) [] rfl
  have hFc := va_free (wc := [(g0, .inr (11, ((((((((((mF pq).set 49 (.int (-1)))).set 50 (.int 0))).set 47 (.int 0))).set 48 (.int 0))).set 51 (.int 1))))]) hD hS hA [0] rfl
  refine va_calli (va_runV (As := []) (rest := []) ⟨hx, hb, hml, hown, hts⟩ (c_X11_unit l dC dI s.heap.size g0 pq cp) (cwV 0 hts gX11_term_X11_unit rfl rfl rfl (by decide +kernel) ⟨(Nat.le_of_ble_eq_true rfl), (Nat.le_of_ble_eq_true rfl)⟩) (pr_V (r := (RX11, TX11, 63)) hPc hKc hDc 0 11 rfl rfl) rfl rfl hl.1 rfl (lv_room (Nat.le_of_ble_eq_true rfl)) dX11_term_1 ⟨(Nat.le_of_ble_eq_true rfl), (Nat.le_of_ble_eq_true rfl)⟩) hS (fun q _ h => hFc q h) hFc (fun r_2 u t H locs ht hvm w_1 hB hz1 hk1 hS => ?_)
  obtain ⟨hP1, hK1, hD1⟩ := hB
  rw [ht] at hP1
  have hK1 := va_K.moved hvm.symm hK1
  obtain ⟨hP, hD⟩ := va_join (wr := []) (w1 := [(g0, .inr (11, ((((((((((((mF pq).set 49 (.int (-1)))).set 50 (.int 0))).set 47 (.int 0))).set 48 (.int 0))).set 51 (.int 1))).set 51 (.int 0))))]) hP hD [0] [] rfl rfl (by decide) (by decide) hk1 hFc hP1 hD1
  have hK := hK.app hK1
  have hP : va_P (dC, dI) vwCl [(g0, .inr (11, ((((((((((((mF pq).set 49 (.int (-1)))).set 50 (.int 0))).set 47 (.int 0))).set 48 (.int 0))).set 51 (.int 1))).set 51 (.int 0))))] H := hP
  have hD : va_D A [(g0, .inr (11, ((((((((((((mF pq).set 49 (.int (-1)))).set 50 (.int 0))).set 47 (.int 0))).set 48 (.int 0))).set 51 (.int 1))).set 51 (.int 0))))] := hD
  have hK : va_K (dC, dI) vwCl [] s := hK
  clear hP1 hK1 hD1 hk1 hz1 hvm ht hPc hDc hKc hFc
  subst w_1
  refine lv_istore_n (lv' := [(1, .int 0), (0, .ref g0)]) hx hb dX11_term_4 rfl hl (by decide) rfl (fun ls hl => ?_)
  refine lv_aload_n hx hb dX11_term_5 rfl (lv_at hl 1 rfl) ?_
  refine va_get (D := (dC, dI)) (ci := 11) (v := .int 0) (C := RX11) (T := TX11) (N := 63) hx hb hts in_wsX11_term_X11 hown hK hP 0 rfl rfl 51 (by decide) (hts (.fieldLink RX11 223 "ShipOfficeModel" "isWell" "Z") (by decide +kernel)) (fun _ h9 => h9) rfl dX11_term_6 ?_
  refine lv_if_eq (tgt := 87) hx hb dX11_term_9 (by decide) (fun _ => ?_) (fun c_3 => absurd c_3 (by decide))
  refine lv_iload_n hx hb dX11_term_87 rfl (lv_at hl 0 rfl) ?_
  have hP9 := hP.sub (ws' := [(g0, .inr (11, ((((((((((((mF pq).set 49 (.int (-1)))).set 50 (.int 0))).set 47 (.int 0))).set 48 (.int 0))).set 51 (.int 1))).set 51 (.int 0))))]) [0] rfl
  have hD9 := hD.sub (ws' := [(g0, .inr (11, ((((((((((((mF pq).set 49 (.int (-1)))).set 50 (.int 0))).set 47 (.int 0))).set 48 (.int 0))).set 51 (.int 1))).set 51 (.int 0))))]) [0] (by decide) rfl
  have hK9 := hK.sub (tys' := []) [] rfl
  subst hAe
  exact W.iret (v := 0) hx hb hr (fun t ht hW => ⟨⟨0, (), rfl, rfl, ⟨by rw [ht]; exact hP9, va_K.moved hW.alike hK9, hD9⟩⟩, hS.F ht⟩) hS.2.2 dX11_term_88
set_option maxHeartbeats 4000000 in
set_option maxRecDepth 100000 in
theorem c_X11_sum (l : Launch) (dC : Nat → ClassId) (dI : Nat → Nat → Nat) (sz : Nat) (g0 : Nat) (pq : Nat → Nat) (cp : Nat → ClassId) : Met l yX11_sum wsX11_sum ({ frames := 3, cells := 0, slots := 0, locals := 67 }) (va_Pc [.ref g0] (pcW (dC, dI) [] [(g0, .inr (11, ((((((((((mF pq).set 49 (.int (-1)))).set 50 (.int 0))).set 47 (.int 0))).set 48 (.int 0))).set 51 (.int 1))))] sz)) (va_Qi (fun (r : Int32) (u : Unit) => r = 0) (fun u t => va_P (dC, dI) vwCl [(g0, .inr (11, ((((((((((((mF pq).set 49 (.int (-1)))).set 50 (.int 0))).set 47 (.int 0))).set 48 (.int 0))).set 51 (.int 1))).set 51 (.int 0))))] t.heap ∧ va_K (dC, dI) vwCl [] t ∧ va_D (va_A [(g0, .inr (11, ((((((((((mF pq).set 49 (.int (-1)))).set 50 (.int 0))).set 47 (.int 0))).set 48 (.int 0))).set 51 (.int 1))))] sz) [(g0, .inr (11, ((((((((((((mF pq).set 49 (.int (-1)))).set 50 (.int 0))).set 47 (.int 0))).set 48 (.int 0))).set 51 (.int 1))).set 51 (.int 0))))]) (va_A [(g0, .inr (11, ((((((((((mF pq).set 49 (.int (-1)))).set 50 (.int 0))).set 47 (.int 0))).set 48 (.int 0))).set 51 (.int 1))))] sz)) 0 0 (va_A [(g0, .inr (11, ((((((((((mF pq).set 49 (.int (-1)))).set 50 (.int 0))).set 47 (.int 0))).set 48 (.int 0))).set 51 (.int 1))))] sz) := by
  refine Met.ofW (cc := cX11_sum) (maxL := 4) (ret := (some .int)) (by decide) rfl ?_
  intro p e s m args below meth c s₁ B hml hv
  obtain ⟨rfl, hsz, hP, hK, hD0⟩ := hv
  have hx := B.exec
  have hb := B.bytes
  have hr := B.returns
  have hts := atoms_spec (ws := wsX11_sum) B.pre
  have hown : s.vm.findClass RX11 = some m.cls := findClass_of_methodNamed B.named
  have hlocks := B.notSynchronized
  subst hsz
  have hD := hD0.self (sz := s.heap.size)
  generalize hAe : va_A [(g0, .inr (11, ((((((((((mF pq).set 49 (.int (-1)))).set 50 (.int 0))).set 47 (.int 0))).set 48 (.int 0))).set 51 (.int 1))))] s.heap.size = A at hD ⊢
  have hA : ∀ q : Nat, s.heap.size ≤ q → A q := fun q h => by rw [← hAe]; exact Or.inr h
  have hS : va_S A s.heap s.heap [] := va_S.rf
  have hP : va_P (dC, dI) vwCl [(g0, .inr (11, ((((((((((mF pq).set 49 (.int (-1)))).set 50 (.int 0))).set 47 (.int 0))).set 48 (.int 0))).set 51 (.int 1))))] s.heap := hP
  have hl := lv_entry ([.ref g0]) (n := 4) (Nat.le_of_ble_eq_true rfl)
  rw [lg_entry_eq]
  generalize (lg_sl ([.ref g0]) ++ List.replicate (4 - (lg_sl ([.ref g0])).length) Slot.unset).toArray = ls at hl ⊢
  have hl : lv_has ls 4 [(0, .ref g0)] := hl
  refine lv_aload_n hx hb dX11_sum_0 rfl (lv_at hl 0 rfl) ?_
  have hPc := hP.sub (ws' := [(g0, .inr (11, ((((((((((mF pq).set 49 (.int (-1)))).set 50 (.int 0))).set 47 (.int 0))).set 48 (.int 0))).set 51 (.int 1))))]) [0] rfl
  have hDc := hD.sub (ws' := [(g0, .inr (11, ((((((((((mF pq).set 49 (.int (-1)))).set 50 (.int 0))).set 47 (.int 0))).set 48 (.int 0))).set 51 (.int 1))))]) [0] (by decide) rfl
  have hKc := hK.sub (tys' := []) [] rfl
  have hFc := va_free (wc := [(g0, .inr (11, ((((((((((mF pq).set 49 (.int (-1)))).set 50 (.int 0))).set 47 (.int 0))).set 48 (.int 0))).set 51 (.int 1))))]) hD hS hA [0] rfl
  refine va_calli (va_runV (As := []) (rest := []) ⟨hx, hb, hml, hown, hts⟩ (c_X11_term l dC dI s.heap.size g0 pq cp) (cwV 0 hts gX11_sum_X11_term rfl rfl rfl (by decide +kernel) ⟨(Nat.le_of_ble_eq_true rfl), (Nat.le_of_ble_eq_true rfl)⟩) (pr_V (r := (RX11, TX11, 63)) hPc hKc hDc 0 11 rfl rfl) rfl rfl hl.1 rfl (lv_room (Nat.le_of_ble_eq_true rfl)) dX11_sum_1 ⟨(Nat.le_of_ble_eq_true rfl), (Nat.le_of_ble_eq_true rfl)⟩) hS (fun q _ h => hFc q h) hFc (fun r_2 u t H locs ht hvm w_1 hB hz1 hk1 hS => ?_)
  obtain ⟨hP1, hK1, hD1⟩ := hB
  rw [ht] at hP1
  have hK1 := va_K.moved hvm.symm hK1
  obtain ⟨hP, hD⟩ := va_join (wr := []) (w1 := [(g0, .inr (11, ((((((((((((mF pq).set 49 (.int (-1)))).set 50 (.int 0))).set 47 (.int 0))).set 48 (.int 0))).set 51 (.int 1))).set 51 (.int 0))))]) hP hD [0] [] rfl rfl (by decide) (by decide) hk1 hFc hP1 hD1
  have hK := hK.app hK1
  have hP : va_P (dC, dI) vwCl [(g0, .inr (11, ((((((((((((mF pq).set 49 (.int (-1)))).set 50 (.int 0))).set 47 (.int 0))).set 48 (.int 0))).set 51 (.int 1))).set 51 (.int 0))))] H := hP
  have hD : va_D A [(g0, .inr (11, ((((((((((((mF pq).set 49 (.int (-1)))).set 50 (.int 0))).set 47 (.int 0))).set 48 (.int 0))).set 51 (.int 1))).set 51 (.int 0))))] := hD
  have hK : va_K (dC, dI) vwCl [] s := hK
  clear hP1 hK1 hD1 hk1 hz1 hvm ht hPc hDc hKc hFc
  subst w_1
  refine lv_istore_n (lv' := [(1, .int 0), (0, .ref g0)]) hx hb dX11_sum_4 rfl hl (by decide) rfl (fun ls hl => ?_)
  refine lv_aload_n hx hb dX11_sum_5 rfl (lv_at hl 1 rfl) ?_
  refine va_get (D := (dC, dI)) (ci := 11) (v := .int 0) (C := RX11) (T := TX11) (N := 63) hx hb hts in_wsX11_sum_X11 hown hK hP 0 rfl rfl 51 (by decide) (hts (.fieldLink RX11 223 "ShipOfficeModel" "isWell" "Z") (by decide +kernel)) (fun _ h9 => h9) rfl dX11_sum_6 ?_
  refine lv_if_eq (tgt := 76) hx hb dX11_sum_9 (by decide) (fun _ => ?_) (fun c_3 => absurd c_3 (by decide))
  refine lv_iload_n hx hb dX11_sum_76 rfl (lv_at hl 0 rfl) ?_
  have hP9 := hP.sub (ws' := [(g0, .inr (11, ((((((((((((mF pq).set 49 (.int (-1)))).set 50 (.int 0))).set 47 (.int 0))).set 48 (.int 0))).set 51 (.int 1))).set 51 (.int 0))))]) [0] rfl
  have hD9 := hD.sub (ws' := [(g0, .inr (11, ((((((((((((mF pq).set 49 (.int (-1)))).set 50 (.int 0))).set 47 (.int 0))).set 48 (.int 0))).set 51 (.int 1))).set 51 (.int 0))))]) [0] (by decide) rfl
  have hK9 := hK.sub (tys' := []) [] rfl
  subst hAe
  exact W.iret (v := 0) hx hb hr (fun t ht hW => ⟨⟨0, (), rfl, rfl, ⟨by rw [ht]; exact hP9, va_K.moved hW.alike hK9, hD9⟩⟩, hS.F ht⟩) hS.2.2 dX11_sum_77
set_option maxHeartbeats 4000000 in
set_option maxRecDepth 100000 in
theorem c_X11_goesThrough (l : Launch) (dC : Nat → ClassId) (dI : Nat → Nat → Nat) (sz : Nat) (g0 : Nat) (pq : Nat → Nat) (cp : Nat → ClassId) : Met l yX11_goesThrough wsX11_goesThrough ({ frames := 4, cells := 0, slots := 0, locals := 90 }) (va_Pc [.ref g0, .int (-1), .int 0] (pcW (dC, dI) [] [(g0, .inr (11, mF pq))] sz)) (va_Qi (fun (r : Int32) (u : Unit) => r = 0) (fun u t => va_P (dC, dI) vwCl [(g0, .inr (11, ((((((((((((mF pq).set 49 (.int (-1)))).set 50 (.int 0))).set 47 (.int 0))).set 48 (.int 0))).set 51 (.int 1))).set 51 (.int 0))))] t.heap ∧ va_K (dC, dI) vwCl [] t ∧ va_D (va_A [(g0, .inr (11, mF pq))] sz) [(g0, .inr (11, ((((((((((((mF pq).set 49 (.int (-1)))).set 50 (.int 0))).set 47 (.int 0))).set 48 (.int 0))).set 51 (.int 1))).set 51 (.int 0))))]) (va_A [(g0, .inr (11, mF pq))] sz)) 0 0 (va_A [(g0, .inr (11, mF pq))] sz) := by
  refine Met.ofW (cc := cX11_goesThrough) (maxL := 3) (ret := (some .int)) (by decide) rfl ?_
  intro p e s m args below meth c s₁ B hml hv
  obtain ⟨rfl, hsz, hP, hK, hD0⟩ := hv
  have hx := B.exec
  have hb := B.bytes
  have hr := B.returns
  have hts := atoms_spec (ws := wsX11_goesThrough) B.pre
  have hown : s.vm.findClass RX11 = some m.cls := findClass_of_methodNamed B.named
  have hlocks := B.notSynchronized
  subst hsz
  have hD := hD0.self (sz := s.heap.size)
  generalize hAe : va_A [(g0, .inr (11, mF pq))] s.heap.size = A at hD ⊢
  have hA : ∀ q : Nat, s.heap.size ≤ q → A q := fun q h => by rw [← hAe]; exact Or.inr h
  have hS : va_S A s.heap s.heap [] := va_S.rf
  have hP : va_P (dC, dI) vwCl [(g0, .inr (11, mF pq))] s.heap := hP
  have hl := lv_entry ([.ref g0, .int (-1), .int 0]) (n := 3) (Nat.le_of_ble_eq_true rfl)
  rw [lg_entry_eq]
  generalize (lg_sl ([.ref g0, .int (-1), .int 0]) ++ List.replicate (3 - (lg_sl ([.ref g0, .int (-1), .int 0])).length) Slot.unset).toArray = ls at hl ⊢
  have hl : lv_has ls 3 [(0, .ref g0), (1, .int (-1)), (2, .int 0)] := hl
  refine lv_aload_n hx hb dX11_goesThrough_0 rfl (lv_at hl 0 rfl) ?_
  refine lv_iload_n hx hb dX11_goesThrough_1 rfl (lv_at hl 1 rfl) ?_
  refine va_put (D := (dC, dI)) (ci := 11) (v := .int (-1)) (ty := .int) (C := RX11) (T := TX11) (N := 63) hx hb hts in_wsX11_goesThrough_X11 tyX11 tyX11_ok nmX11 hown hK hP hD hS 0 rfl rfl 49 (by decide) (hts (.fieldLink RX11 216 "ShipOfficeModel" "base" "I") (by decide +kernel)) (fun _ h9 => h9) rfl (by decide +kernel) rfl rfl (Nat.le_of_ble_eq_true rfl) dX11_goesThrough_2 (fun H locs hP hD hS => ?_)
  have hP : va_P (dC, dI) vwCl [(g0, .inr (11, ((mF pq).set 49 (.int (-1)))))] H := hP
  have hD : va_D A [(g0, .inr (11, ((mF pq).set 49 (.int (-1)))))] := hD
  refine lv_aload_n hx hb dX11_goesThrough_5 rfl (lv_at hl 0 rfl) ?_
  refine lv_iload_n hx hb dX11_goesThrough_6 rfl (lv_at hl 2 rfl) ?_
  refine va_put (D := (dC, dI)) (ci := 11) (v := .int 0) (ty := .int) (C := RX11) (T := TX11) (N := 63) hx hb hts in_wsX11_goesThrough_X11 tyX11 tyX11_ok nmX11 hown hK hP hD hS 0 rfl rfl 50 (by decide) (hts (.fieldLink RX11 213 "ShipOfficeModel" "size" "I") (by decide +kernel)) (fun _ h9 => h9) rfl (by decide +kernel) rfl rfl (Nat.le_of_ble_eq_true rfl) dX11_goesThrough_7 (fun H locs hP hD hS => ?_)
  have hP : va_P (dC, dI) vwCl [(g0, .inr (11, ((((mF pq).set 49 (.int (-1)))).set 50 (.int 0))))] H := hP
  have hD : va_D A [(g0, .inr (11, ((((mF pq).set 49 (.int (-1)))).set 50 (.int 0))))] := hD
  refine lv_aload_n hx hb dX11_goesThrough_10 rfl (lv_at hl 0 rfl) ?_
  refine lv_iconst (v := 0) hx hb dX11_goesThrough_11 (by decide) ?_
  refine va_put (D := (dC, dI)) (ci := 11) (v := .int 0) (ty := .int) (C := RX11) (T := TX11) (N := 63) hx hb hts in_wsX11_goesThrough_X11 tyX11 tyX11_ok nmX11 hown hK hP hD hS 0 rfl rfl 47 (by decide) (hts (.fieldLink RX11 210 "ShipOfficeModel" "at" "I") (by decide +kernel)) (fun _ h9 => h9) rfl (by decide +kernel) rfl rfl (Nat.le_of_ble_eq_true rfl) dX11_goesThrough_12 (fun H locs hP hD hS => ?_)
  have hP : va_P (dC, dI) vwCl [(g0, .inr (11, ((((((mF pq).set 49 (.int (-1)))).set 50 (.int 0))).set 47 (.int 0))))] H := hP
  have hD : va_D A [(g0, .inr (11, ((((((mF pq).set 49 (.int (-1)))).set 50 (.int 0))).set 47 (.int 0))))] := hD
  refine lv_aload_n hx hb dX11_goesThrough_15 rfl (lv_at hl 0 rfl) ?_
  refine lv_iconst (v := 0) hx hb dX11_goesThrough_16 (by decide) ?_
  refine va_put (D := (dC, dI)) (ci := 11) (v := .int 0) (ty := .int) (C := RX11) (T := TX11) (N := 63) hx hb hts in_wsX11_goesThrough_X11 tyX11 tyX11_ok nmX11 hown hK hP hD hS 0 rfl rfl 48 (by decide) (hts (.fieldLink RX11 244 "ShipOfficeModel" "deep" "I") (by decide +kernel)) (fun _ h9 => h9) rfl (by decide +kernel) rfl rfl (Nat.le_of_ble_eq_true rfl) dX11_goesThrough_17 (fun H locs hP hD hS => ?_)
  have hP : va_P (dC, dI) vwCl [(g0, .inr (11, ((((((((mF pq).set 49 (.int (-1)))).set 50 (.int 0))).set 47 (.int 0))).set 48 (.int 0))))] H := hP
  have hD : va_D A [(g0, .inr (11, ((((((((mF pq).set 49 (.int (-1)))).set 50 (.int 0))).set 47 (.int 0))).set 48 (.int 0))))] := hD
  refine lv_aload_n hx hb dX11_goesThrough_20 rfl (lv_at hl 0 rfl) ?_
  refine lv_iconst (v := 1) hx hb dX11_goesThrough_21 (by decide) ?_
  refine va_put (D := (dC, dI)) (ci := 11) (v := .int 1) (ty := .boolean) (C := RX11) (T := TX11) (N := 63) hx hb hts in_wsX11_goesThrough_X11 tyX11 tyX11_ok nmX11 hown hK hP hD hS 0 rfl rfl 51 (by decide) (hts (.fieldLink RX11 223 "ShipOfficeModel" "isWell" "Z") (by decide +kernel)) (fun _ h9 => h9) rfl (by decide +kernel) rfl rfl (Nat.le_of_ble_eq_true rfl) dX11_goesThrough_22 (fun H locs hP hD hS => ?_)
  have hP : va_P (dC, dI) vwCl [(g0, .inr (11, ((((((((((mF pq).set 49 (.int (-1)))).set 50 (.int 0))).set 47 (.int 0))).set 48 (.int 0))).set 51 (.int 1))))] H := hP
  have hD : va_D A [(g0, .inr (11, ((((((((((mF pq).set 49 (.int (-1)))).set 50 (.int 0))).set 47 (.int 0))).set 48 (.int 0))).set 51 (.int 1))))] := hD
  refine lv_aload_n hx hb dX11_goesThrough_25 rfl (lv_at hl 0 rfl) ?_
  have hPc := hP.sub (ws' := [(g0, .inr (11, ((((((((((mF pq).set 49 (.int (-1)))).set 50 (.int 0))).set 47 (.int 0))).set 48 (.int 0))).set 51 (.int 1))))]) [0] rfl
  have hDc := hD.sub (ws' := [(g0, .inr (11, ((((((((((mF pq).set 49 (.int (-1)))).set 50 (.int 0))).set 47 (.int 0))).set 48 (.int 0))).set 51 (.int 1))))]) [0] (by decide) rfl
  have hKc := hK.sub (tys' := []) [] rfl
  have hFc := va_free (wc := [(g0, .inr (11, ((((((((((mF pq).set 49 (.int (-1)))).set 50 (.int 0))).set 47 (.int 0))).set 48 (.int 0))).set 51 (.int 1))))]) hD hS hA [0] rfl
  refine va_calli (va_runV (As := []) (rest := []) ⟨hx, hb, hml, hown, hts⟩ (c_X11_sum l dC dI H.size g0 pq cp) (cwV 0 hts gX11_goesThrough_X11_sum rfl rfl rfl (by decide +kernel) ⟨(Nat.le_of_ble_eq_true rfl), (Nat.le_of_ble_eq_true rfl)⟩) (pr_V (r := (RX11, TX11, 63)) hPc hKc hDc 0 11 rfl rfl) rfl rfl hl.1 rfl (lv_room (Nat.le_of_ble_eq_true rfl)) dX11_goesThrough_26 ⟨(Nat.le_of_ble_eq_true rfl), (Nat.le_of_ble_eq_true rfl)⟩) hS (fun q _ h => hFc q h) hFc (fun r_2 u t H locs ht hvm w_1 hB hz1 hk1 hS => ?_)
  obtain ⟨hP1, hK1, hD1⟩ := hB
  rw [ht] at hP1
  have hK1 := va_K.moved hvm.symm hK1
  obtain ⟨hP, hD⟩ := va_join (wr := []) (w1 := [(g0, .inr (11, ((((((((((((mF pq).set 49 (.int (-1)))).set 50 (.int 0))).set 47 (.int 0))).set 48 (.int 0))).set 51 (.int 1))).set 51 (.int 0))))]) hP hD [0] [] rfl rfl (by decide) (by decide) hk1 hFc hP1 hD1
  have hK := hK.app hK1
  have hP : va_P (dC, dI) vwCl [(g0, .inr (11, ((((((((((((mF pq).set 49 (.int (-1)))).set 50 (.int 0))).set 47 (.int 0))).set 48 (.int 0))).set 51 (.int 1))).set 51 (.int 0))))] H := hP
  have hD : va_D A [(g0, .inr (11, ((((((((((((mF pq).set 49 (.int (-1)))).set 50 (.int 0))).set 47 (.int 0))).set 48 (.int 0))).set 51 (.int 1))).set 51 (.int 0))))] := hD
  have hK : va_K (dC, dI) vwCl [] s := hK
  clear hP1 hK1 hD1 hk1 hz1 hvm ht hPc hDc hKc hFc
  subst w_1
  have hP9 := hP.sub (ws' := [(g0, .inr (11, ((((((((((((mF pq).set 49 (.int (-1)))).set 50 (.int 0))).set 47 (.int 0))).set 48 (.int 0))).set 51 (.int 1))).set 51 (.int 0))))]) [0] rfl
  have hD9 := hD.sub (ws' := [(g0, .inr (11, ((((((((((((mF pq).set 49 (.int (-1)))).set 50 (.int 0))).set 47 (.int 0))).set 48 (.int 0))).set 51 (.int 1))).set 51 (.int 0))))]) [0] (by decide) rfl
  have hK9 := hK.sub (tys' := []) [] rfl
  subst hAe
  exact W.iret (v := 0) hx hb hr (fun t ht hW => ⟨⟨0, (), rfl, rfl, ⟨by rw [ht]; exact hP9, va_K.moved hW.alike hK9, hD9⟩⟩, hS.F ht⟩) hS.2.2 dX11_goesThrough_29
set_option maxHeartbeats 4000000 in
set_option maxRecDepth 100000 in
theorem c_X11_act (l : Launch) (dC : Nat → ClassId) (dI : Nat → Nat → Nat) (sz : Nat) (g0 : Nat) (pq : Nat → Nat) (cp : Nat → ClassId) (a1 : Int32) (a2 : Int32) : Met l yX11_act wsX11_act ({ frames := 5, cells := 0, slots := 0, locals := 112 }) (va_Pc [.ref g0, .int a1, .int a2] (pcW (dC, dI) [((cp 0), .int)] [(g0, .inr (11, mF pq)), ((pq 0), .inl ((cp 0), 7, .inl (fun _ => 0)))] sz)) (va_Qi (fun (r : Int32) (u : Unit) => r = sp_act a1 a2) (fun _ _ => True) (va_A [(g0, .inr (11, mF pq)), ((pq 0), .inl ((cp 0), 7, .inl (fun _ => 0)))] sz)) 0 0 (va_A [(g0, .inr (11, mF pq)), ((pq 0), .inl ((cp 0), 7, .inl (fun _ => 0)))] sz) := by
  refine Met.ofW (cc := cX11_act) (maxL := 7) (ret := (some .int)) (by decide) rfl ?_
  intro p e s m args below meth c s₁ B hml hv
  obtain ⟨rfl, hsz, hP, hK, hD0⟩ := hv
  have hx := B.exec
  have hb := B.bytes
  have hr := B.returns
  have hts := atoms_spec (ws := wsX11_act) B.pre
  have hown : s.vm.findClass RX11 = some m.cls := findClass_of_methodNamed B.named
  have hlocks := B.notSynchronized
  subst hsz
  have hD := hD0.self (sz := s.heap.size)
  generalize hAe : va_A [(g0, .inr (11, mF pq)), ((pq 0), .inl ((cp 0), 7, .inl (fun _ => 0)))] s.heap.size = A at hD ⊢
  have hA : ∀ q : Nat, s.heap.size ≤ q → A q := fun q h => by rw [← hAe]; exact Or.inr h
  have hS : va_S A s.heap s.heap [] := va_S.rf
  have hP : va_P (dC, dI) vwCl [(g0, .inr (11, mF pq)), ((pq 0), .inl ((cp 0), 7, .inl (fun _ => 0)))] s.heap := hP
  have hl := lv_entry ([.ref g0, .int a1, .int a2]) (n := 7) (Nat.le_of_ble_eq_true rfl)
  rw [lg_entry_eq]
  generalize (lg_sl ([.ref g0, .int a1, .int a2]) ++ List.replicate (7 - (lg_sl ([.ref g0, .int a1, .int a2])).length) Slot.unset).toArray = ls at hl ⊢
  have hl : lv_has ls 7 [(0, .ref g0), (1, .int a1), (2, .int a2)] := hl
  refine lv_iload_n hx hb dX11_act_0 rfl (lv_at hl 1 rfl) ?_
  refine lv_iconst (v := 5) hx hb dX11_act_1 (by decide) ?_
  have hPc := hP.sub (ws' := []) [] rfl
  have hDc := hD.sub (ws' := []) [] (by decide) rfl
  have hKc := hK.sub (tys' := []) [] rfl
  have hFc : ∀ q, va_A [] s.heap.size q → A q := pu_free hS hA
  refine va_calli (va_runS (As := [.int a1, .int 5]) (rest := []) ⟨hx, hb, hml, hown, hts⟩ (c_X11_isIn l dC dI s.heap.size a1 5) (va_cwS 2 hts gX11_act_X11_isIn rfl rfl rfl (by decide +kernel) ⟨(Nat.le_of_ble_eq_true rfl), (Nat.le_of_ble_eq_true rfl)⟩) (pr_S hPc hKc hDc) rfl rfl hl.1 rfl (lv_room (Nat.le_of_ble_eq_true rfl)) dX11_act_2 ⟨(Nat.le_of_ble_eq_true rfl), (Nat.le_of_ble_eq_true rfl)⟩) hS (fun q _ h => hFc q h) hFc (fun r_2 u t H locs ht hvm w_1 hB hz1 hk1 hS => ?_)
  have hP := pu_keep hP hk1
  clear hk1 hz1 hvm hB hPc hDc hKc hFc ht
  subst w_1
  refine lv_if_ne (tgt := 15) hx hb dX11_act_5 (by decide) (fun c_3 => ?_) (fun c_3 => ?_)
  · refine lv_iload_n hx hb dX11_act_15 rfl (lv_at hl 2 rfl) ?_
    refine lv_aload_n hx hb dX11_act_16 rfl (lv_at hl 0 rfl) ?_
    refine va_get (D := (dC, dI)) (ci := 11) (v := .int 0) (C := RX11) (T := TX11) (N := 63) hx hb hts in_wsX11_act_X11 hown hK hP 0 rfl rfl 38 (by decide) (hts (.fieldLink RX11 171 "ShipOfficeModel" "now" "I") (by decide +kernel)) (fun _ h9 => h9) rfl dX11_act_17 ?_
    refine lv_icmp_ge (tgt := 30) hx hb dX11_act_20 (by decide) (fun c_4 => ?_) (fun c_4 => ?_)
    · refine lv_iload_n hx hb dX11_act_30 rfl (lv_at hl 2 rfl) ?_
      refine lv_sipush (v := 3000) hx hb dX11_act_31 (by decide) ?_
      refine lv_icmp_gt (tgt := 46) hx hb dX11_act_34 (by decide) (fun c_5 => ?_) (fun c_5 => ?_)
      · refine lv_aload_n hx hb dX11_act_46 rfl (lv_at hl 0 rfl) ?_
        refine lv_bipush (v := (-6)) hx hb dX11_act_47 (by decide) ?_
        have hPc := hP.sub (ws' := [(g0, .inr (11, mF pq)), ((pq 0), .inl ((cp 0), 7, .inl (fun _ => 0)))]) [0, 1] rfl
        have hDc := hD.sub (ws' := [(g0, .inr (11, mF pq)), ((pq 0), .inl ((cp 0), 7, .inl (fun _ => 0)))]) [0, 1] (by decide) rfl
        have hKc := hK.sub (tys' := [((cp 0), .int)]) [0] rfl
        have hFc := va_free (wc := [(g0, .inr (11, mF pq)), ((pq 0), .inl ((cp 0), 7, .inl (fun _ => 0)))]) hD hS hA [0, 1] rfl
        refine va_calli (va_runV (As := [.int (-6)]) (rest := []) ⟨hx, hb, hml, hown, hts⟩ (c_X11_refuse l dC dI H.size g0 pq cp (-6) (by unfold vp_in; decide)) (cwV 1 hts gX11_act_X11_refuse rfl rfl rfl (by decide +kernel) ⟨(Nat.le_of_ble_eq_true rfl), (Nat.le_of_ble_eq_true rfl)⟩) (pr_V (r := (RX11, TX11, 63)) hPc hKc hDc 0 11 rfl rfl) rfl rfl hl.1 rfl (lv_room (Nat.le_of_ble_eq_true rfl)) dX11_act_49 ⟨(Nat.le_of_ble_eq_true rfl), (Nat.le_of_ble_eq_true rfl)⟩) hS (fun q _ h => hFc q h) hFc (fun r_7 u t H locs ht hvm w_6 hB hz1 hk1 hS => ?_)
        subst w_6
        exact W.iret (v := (-6)) hx hb hr (fun t ht hW => ⟨⟨(-6), (), rfl, (by simp [sp_act, c_3, c_4, c_5]), trivial⟩, hS.F ht⟩) hS.2.2 dX11_act_52
      · refine lv_aload_n hx hb dX11_act_37 rfl (lv_at hl 0 rfl) ?_
        refine va_get (D := (dC, dI)) (ci := 11) (v := .int 0) (C := RX11) (T := TX11) (N := 63) hx hb hts in_wsX11_act_X11 hown hK hP 0 rfl rfl 42 (by decide) (hts (.fieldLink RX11 256 "ShipOfficeModel" "acts" "I") (by decide +kernel)) (fun _ h9 => h9) rfl dX11_act_38 ?_
        refine lv_bipush (v := 30) hx hb dX11_act_41 (by decide) ?_
        refine lv_icmp_ne (tgt := 53) hx hb dX11_act_43 (by decide) (fun _ => ?_) (fun c_8 => absurd c_8 (by decide))
        refine lv_aload_n hx hb dX11_act_53 rfl (lv_at hl 0 rfl) ?_
        refine lv_iconst (v := (-1)) hx hb dX11_act_54 (by decide) ?_
        refine lv_aload_n hx hb dX11_act_55 rfl (lv_at hl 0 rfl) ?_
        refine va_get (D := (dC, dI)) (ci := 11) (v := .int 0) (C := RX11) (T := TX11) (N := 63) hx hb hts in_wsX11_act_X11 hown hK hP 0 rfl rfl 46 (by decide) (hts (.fieldLink RX11 205 "ShipOfficeModel" "taped" "I") (by decide +kernel)) (fun _ h9 => h9) rfl dX11_act_56 ?_
        have hPc := hP.sub (ws' := [(g0, .inr (11, mF pq))]) [0] rfl
        have hDc := hD.sub (ws' := [(g0, .inr (11, mF pq))]) [0] (by decide) rfl
        have hKc := hK.sub (tys' := []) [] rfl
        have hFc := va_free (wc := [(g0, .inr (11, mF pq))]) hD hS hA [0] rfl
        refine va_calli (va_runV (As := [.int (-1), .int 0]) (rest := []) ⟨hx, hb, hml, hown, hts⟩ (c_X11_goesThrough l dC dI H.size g0 pq cp) (cwV 2 hts gX11_act_X11_goesThrough rfl rfl rfl (by decide +kernel) ⟨(Nat.le_of_ble_eq_true rfl), (Nat.le_of_ble_eq_true rfl)⟩) (pr_V (r := (RX11, TX11, 63)) hPc hKc hDc 0 11 rfl rfl) rfl rfl hl.1 rfl (lv_room (Nat.le_of_ble_eq_true rfl)) dX11_act_59 ⟨(Nat.le_of_ble_eq_true rfl), (Nat.le_of_ble_eq_true rfl)⟩) hS (fun q _ h => hFc q h) hFc (fun r_10 u t H locs ht hvm w_9 hB hz1 hk1 hS => ?_)
        obtain ⟨hP1, hK1, hD1⟩ := hB
        rw [ht] at hP1
        have hK1 := va_K.moved hvm.symm hK1
        obtain ⟨hP, hD⟩ := va_join (wr := [((pq 0), .inl ((cp 0), 7, .inl (fun _ => 0)))]) (w1 := [(g0, .inr (11, ((((((((((((mF pq).set 49 (.int (-1)))).set 50 (.int 0))).set 47 (.int 0))).set 48 (.int 0))).set 51 (.int 1))).set 51 (.int 0))))]) hP hD [0] [1] rfl rfl (by decide) (by decide) hk1 hFc hP1 hD1
        have hK := hK.app hK1
        have hP : va_P (dC, dI) vwCl [((pq 0), .inl ((cp 0), 7, .inl (fun _ => 0))), (g0, .inr (11, ((((((((((((mF pq).set 49 (.int (-1)))).set 50 (.int 0))).set 47 (.int 0))).set 48 (.int 0))).set 51 (.int 1))).set 51 (.int 0))))] H := hP
        have hD : va_D A [((pq 0), .inl ((cp 0), 7, .inl (fun _ => 0))), (g0, .inr (11, ((((((((((((mF pq).set 49 (.int (-1)))).set 50 (.int 0))).set 47 (.int 0))).set 48 (.int 0))).set 51 (.int 1))).set 51 (.int 0))))] := hD
        have hK : va_K (dC, dI) vwCl [((cp 0), .int)] s := hK
        clear hP1 hK1 hD1 hk1 hz1 hvm ht hPc hDc hKc hFc
        subst w_9
        refine lv_istore_n (lv' := [(3, .int 0), (0, .ref g0), (1, .int a1), (2, .int a2)]) hx hb dX11_act_62 rfl hl (by decide) rfl (fun ls hl => ?_)
        refine lv_aload_n hx hb dX11_act_63 rfl (lv_at hl 1 rfl) ?_
        refine va_get (D := (dC, dI)) (ci := 11) (v := .int 0) (C := RX11) (T := TX11) (N := 63) hx hb hts in_wsX11_act_X11 hown hK hP 1 rfl rfl 51 (by decide) (hts (.fieldLink RX11 223 "ShipOfficeModel" "isWell" "Z") (by decide +kernel)) (fun _ h9 => h9) rfl dX11_act_64 ?_
        refine lv_if_eq (tgt := 85) hx hb dX11_act_67 (by decide) (fun _ => ?_) (fun c_11 => absurd c_11 (by decide))
        refine lv_iconst (v := 0) hx hb dX11_act_85 (by decide) ?_
        refine lv_istore (lv' := [(4, .int 0), (3, .int 0), (0, .ref g0), (1, .int a1), (2, .int a2)]) hx hb dX11_act_86 hl (by decide) rfl (fun ls hl => ?_)
        refine lv_aload_n hx hb dX11_act_88 rfl (lv_at hl 2 rfl) ?_
        refine va_get (D := (dC, dI)) (ci := 11) (v := .int 0) (C := RX11) (T := TX11) (N := 63) hx hb hts in_wsX11_act_X11 hown hK hP 1 rfl rfl 46 (by decide) (hts (.fieldLink RX11 205 "ShipOfficeModel" "taped" "I") (by decide +kernel)) (fun _ h9 => h9) rfl dX11_act_89 ?_
        refine lv_istore (lv' := [(5, .int 0), (4, .int 0), (3, .int 0), (0, .ref g0), (1, .int a1), (2, .int a2)]) hx hb dX11_act_92 hl (by decide) rfl (fun ls hl => ?_)
        refine lv_aload_n hx hb dX11_act_94 rfl (lv_at hl 3 rfl) ?_
        refine lv_iconst (v := 0) hx hb dX11_act_95 (by decide) ?_
        refine va_put (D := (dC, dI)) (ci := 11) (v := .int 0) (ty := .int) (C := RX11) (T := TX11) (N := 63) hx hb hts in_wsX11_act_X11 tyX11 tyX11_ok nmX11 hown hK hP hD hS 1 rfl rfl 46 (by decide) (hts (.fieldLink RX11 205 "ShipOfficeModel" "taped" "I") (by decide +kernel)) (fun _ h9 => h9) rfl (by decide +kernel) rfl rfl (Nat.le_of_ble_eq_true rfl) dX11_act_96 (fun H locs hP hD hS => ?_)
        have hP : va_P (dC, dI) vwCl [((pq 0), .inl ((cp 0), 7, .inl (fun _ => 0))), (g0, .inr (11, ((((((((((((((mF pq).set 49 (.int (-1)))).set 50 (.int 0))).set 47 (.int 0))).set 48 (.int 0))).set 51 (.int 1))).set 51 (.int 0))).set 46 (.int 0))))] H := hP
        have hD : va_D A [((pq 0), .inl ((cp 0), 7, .inl (fun _ => 0))), (g0, .inr (11, ((((((((((((((mF pq).set 49 (.int (-1)))).set 50 (.int 0))).set 47 (.int 0))).set 48 (.int 0))).set 51 (.int 1))).set 51 (.int 0))).set 46 (.int 0))))] := hD
        refine lv_iload hx hb dX11_act_99 (lv_at hl 1 rfl) ?_
        refine lv_if_ne (tgt := 112) hx hb dX11_act_101 (by decide) (fun c_12 => absurd c_12 (by decide)) (fun _ => ?_)
        refine lv_bipush (v := (-20)) hx hb dX11_act_104 (by decide) ?_
        refine lv_aload_n hx hb dX11_act_106 rfl (lv_at hl 3 rfl) ?_
        refine va_get (D := (dC, dI)) (ci := 11) (v := .int 0) (C := RX11) (T := TX11) (N := 63) hx hb hts in_wsX11_act_X11 hown hK hP 1 rfl rfl 47 (by decide) (hts (.fieldLink RX11 210 "ShipOfficeModel" "at" "I") (by decide +kernel)) (fun _ h9 => h9) rfl dX11_act_107 ?_
        refine lv_isub hx hb dX11_act_110 ?_
        refine lv_topi (fun y ey => ?_)
        obtain rfl : y = (-20) := ey.trans (by decide)
        exact W.iret (v := (-20)) hx hb hr (fun t ht hW => ⟨⟨(-20), (), rfl, (by simp [sp_act, c_3, c_4, c_5]), trivial⟩, hS.F ht⟩) hS.2.2 dX11_act_111
    · refine lv_aload_n hx hb dX11_act_23 rfl (lv_at hl 0 rfl) ?_
      refine lv_bipush (v := (-4)) hx hb dX11_act_24 (by decide) ?_
      have hPc := hP.sub (ws' := [(g0, .inr (11, mF pq)), ((pq 0), .inl ((cp 0), 7, .inl (fun _ => 0)))]) [0, 1] rfl
      have hDc := hD.sub (ws' := [(g0, .inr (11, mF pq)), ((pq 0), .inl ((cp 0), 7, .inl (fun _ => 0)))]) [0, 1] (by decide) rfl
      have hKc := hK.sub (tys' := [((cp 0), .int)]) [0] rfl
      have hFc := va_free (wc := [(g0, .inr (11, mF pq)), ((pq 0), .inl ((cp 0), 7, .inl (fun _ => 0)))]) hD hS hA [0, 1] rfl
      refine va_calli (va_runV (As := [.int (-4)]) (rest := []) ⟨hx, hb, hml, hown, hts⟩ (c_X11_refuse l dC dI H.size g0 pq cp (-4) (by unfold vp_in; decide)) (cwV 1 hts gX11_act_X11_refuse rfl rfl rfl (by decide +kernel) ⟨(Nat.le_of_ble_eq_true rfl), (Nat.le_of_ble_eq_true rfl)⟩) (pr_V (r := (RX11, TX11, 63)) hPc hKc hDc 0 11 rfl rfl) rfl rfl hl.1 rfl (lv_room (Nat.le_of_ble_eq_true rfl)) dX11_act_26 ⟨(Nat.le_of_ble_eq_true rfl), (Nat.le_of_ble_eq_true rfl)⟩) hS (fun q _ h => hFc q h) hFc (fun r_14 u t H locs ht hvm w_13 hB hz1 hk1 hS => ?_)
      subst w_13
      exact W.iret (v := (-4)) hx hb hr (fun t ht hW => ⟨⟨(-4), (), rfl, (by simp [sp_act, c_3, c_4]), trivial⟩, hS.F ht⟩) hS.2.2 dX11_act_29
  · refine lv_aload_n hx hb dX11_act_8 rfl (lv_at hl 0 rfl) ?_
    refine lv_bipush (v := (-2)) hx hb dX11_act_9 (by decide) ?_
    have hPc := hP.sub (ws' := [(g0, .inr (11, mF pq)), ((pq 0), .inl ((cp 0), 7, .inl (fun _ => 0)))]) [0, 1] rfl
    have hDc := hD.sub (ws' := [(g0, .inr (11, mF pq)), ((pq 0), .inl ((cp 0), 7, .inl (fun _ => 0)))]) [0, 1] (by decide) rfl
    have hKc := hK.sub (tys' := [((cp 0), .int)]) [0] rfl
    have hFc := va_free (wc := [(g0, .inr (11, mF pq)), ((pq 0), .inl ((cp 0), 7, .inl (fun _ => 0)))]) hD hS hA [0, 1] rfl
    refine va_calli (va_runV (As := [.int (-2)]) (rest := []) ⟨hx, hb, hml, hown, hts⟩ (c_X11_refuse l dC dI H.size g0 pq cp (-2) (by unfold vp_in; decide)) (cwV 1 hts gX11_act_X11_refuse rfl rfl rfl (by decide +kernel) ⟨(Nat.le_of_ble_eq_true rfl), (Nat.le_of_ble_eq_true rfl)⟩) (pr_V (r := (RX11, TX11, 63)) hPc hKc hDc 0 11 rfl rfl) rfl rfl hl.1 rfl (lv_room (Nat.le_of_ble_eq_true rfl)) dX11_act_11 ⟨(Nat.le_of_ble_eq_true rfl), (Nat.le_of_ble_eq_true rfl)⟩) hS (fun q _ h => hFc q h) hFc (fun r_16 u t H locs ht hvm w_15 hB hz1 hk1 hS => ?_)
    subst w_15
    exact W.iret (v := (-2)) hx hb hr (fun t ht hW => ⟨⟨(-2), (), rfl, (by simp [sp_act, c_3]), trivial⟩, hS.F ht⟩) hS.2.2 dX11_act_14
