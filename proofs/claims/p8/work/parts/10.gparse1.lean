abbrev cX11_sum : ByteArray := prog_13_method_30_code
def yX11_sum : MethodName := ⟨RX11, "sum", "()I"⟩
abbrev cX11_term : ByteArray := prog_13_method_31_code
def yX11_term : MethodName := ⟨RX11, "term", "()I"⟩
abbrev cX11_unit : ByteArray := prog_13_method_33_code
def yX11_unit : MethodName := ⟨RX11, "unit", "()I"⟩
theorem gw_X11_held : wsX11_held.all goodWord = true := by decide +kernel
theorem gw_X11_isLetter : wsX11_isLetter.all goodWord = true := by decide +kernel
theorem gw_X11_breaks : wsX11_breaks.all goodWord = true := by decide +kernel
def wsX11_unit_r1 : List Cond := [Cond.fieldLink RX11 223 "ShipOfficeModel" "isWell" "Z", Cond.fieldLink RX11 210 "ShipOfficeModel" "at" "I", Cond.fieldLink RX11 128 "ShipOfficeModel" "letters" "[I", Cond.fieldLink RX11 244 "ShipOfficeModel" "deep" "I", Cond.methodLink RX11 227 yX11_sign, Cond.instanceMethod yX11_sign, Cond.selects RX11 yX11_sign yX11_sign, Cond.initialized RX11, Cond.code yX11_sign cX11_sign 1 (some .int), Cond.fieldLink RX11 213 "ShipOfficeModel" "size" "I", Cond.fieldLink RX11 216 "ShipOfficeModel" "base" "I", Cond.fieldLink RX11 125 "ShipOfficeModel" "tape" "[I", Cond.fieldLink RX11 67 "ShipOfficeModel" "text" "[I", Cond.methodLink RX11 241 yX11_isLetter, Cond.static yX11_isLetter, Cond.code yX11_isLetter cX11_isLetter 1 (some .boolean), Cond.methodLink RX11 234 yX11_held, Cond.static yX11_held, Cond.code yX11_held cX11_held 2 (some .int), Cond.constantLong RX11 219 (1000000000), Cond.constantLong RX11 221 (-1000000000), Cond.methodLink RX11 247 yX11_breaks, Cond.instanceMethod yX11_breaks, Cond.selects RX11 yX11_breaks yX11_breaks]
def wsX11_unit_r2 : List Cond := [Cond.code yX11_breaks cX11_breaks 1 (some .int), Cond.methodLink RX11 250 yX11_sum, Cond.instanceMethod yX11_sum, Cond.selects RX11 yX11_sum yX11_sum, Cond.methodLink RX11 253 yX11_takes, Cond.instanceMethod yX11_takes, Cond.selects RX11 yX11_takes yX11_takes, Cond.code yX11_takes cX11_takes 2 (some .boolean), Cond.code yX11_sum cX11_sum 4 (some .int), Cond.methodLink RX11 231 yX11_term, Cond.instanceMethod yX11_term, Cond.selects RX11 yX11_term yX11_term, Cond.code yX11_term cX11_term 4 (some .int), Cond.methodLink RX11 238 yX11_unit, Cond.instanceMethod yX11_unit, Cond.selects RX11 yX11_unit yX11_unit]
def wsX11_unit : List Cond := .code yX11_unit cX11_unit 5 (some .int) :: ((wsX11_unit_r1 ++ wsX11_unit_r2) ++ wsX110)
theorem il_X11_unit_1 : ∀ w ∈ wsX11_unit_r1, w ∈ wsX11_unit := fun w h => (List.mem_cons_of_mem _ (List.mem_append_left _ (List.mem_append_left _ h)))
theorem il_X11_unit_2 : ∀ w ∈ wsX11_unit_r2, w ∈ wsX11_unit := fun w h => (List.mem_cons_of_mem _ (List.mem_append_left _ (List.mem_append_right _ h)))
theorem il_X11_unit_3 : ∀ w ∈ wsX110, w ∈ wsX11_unit := fun w h => (List.mem_cons_of_mem _ (List.mem_append_right _ h))
theorem iw_X11_unit_1 : Cond.fieldLink RX11 223 "ShipOfficeModel" "isWell" "Z" ∈ wsX11_unit := (mmI il_X11_unit_1 0 rfl)
theorem iw_X11_unit_2 : Cond.fieldLink RX11 210 "ShipOfficeModel" "at" "I" ∈ wsX11_unit := (mmI il_X11_unit_1 1 rfl)
theorem iw_X11_unit_3 : Cond.fieldLink RX11 244 "ShipOfficeModel" "deep" "I" ∈ wsX11_unit := (mmI il_X11_unit_1 3 rfl)
theorem iw_X11_unit_4 : Cond.fieldLink RX11 128 "ShipOfficeModel" "letters" "[I" ∈ wsX11_unit := (mmI il_X11_unit_1 2 rfl)
set_option maxRecDepth 100000 in
theorem ggX11_unit_X11_sign : GoodIn wsX11_unit wsX11_sign := goodIn_sub (mmC (mmI il_X11_unit_1 8 rfl) (mmA (mmC (mmI il_X11_unit_1 1 rfl) (mmC (mmI il_X11_unit_1 9 rfl) (mmC (mmI il_X11_unit_1 10 rfl) (mmC (mmI il_X11_unit_1 11 rfl) (mmC (mmI il_X11_unit_1 12 rfl) mmN))))) il_X11_unit_3)) gw_X11_sign
theorem gX11_unit_X11_sign : GoodIn wsX11_unit (wsV RX11 227 RX11 yX11_sign wsX11_sign) := goodIn_app (goodIn_sub (mmC (mmI il_X11_unit_1 4 rfl) (mmC (mmI il_X11_unit_1 5 rfl) (mmC (mmI il_X11_unit_1 6 rfl) (mmC (mmI il_X11_unit_1 7 rfl) mmN)))) (by decide +kernel)) ggX11_unit_X11_sign
set_option maxRecDepth 100000 in
theorem ggX11_unit_X11_isLetter : GoodIn wsX11_unit wsX11_isLetter := goodIn_sub (mmC (mmI il_X11_unit_1 15 rfl) mmN) gw_X11_isLetter
set_option maxRecDepth 20000 in
theorem gX11_unit_X11_isLetter : GoodIn wsX11_unit (va_wsS RX11 241 yX11_isLetter wsX11_isLetter) := goodIn_app (goodIn_of _ (by decide +kernel)) ggX11_unit_X11_isLetter
set_option maxRecDepth 100000 in
theorem ggX11_unit_X11_held : GoodIn wsX11_unit wsX11_held := goodIn_sub (mmC (mmI il_X11_unit_1 18 rfl) (mmC (mmI il_X11_unit_1 19 rfl) (mmC (mmI il_X11_unit_1 20 rfl) mmN))) gw_X11_held
set_option maxRecDepth 20000 in
theorem gX11_unit_X11_held : GoodIn wsX11_unit (va_wsS RX11 234 yX11_held wsX11_held) := goodIn_app (goodIn_of _ (by decide +kernel)) ggX11_unit_X11_held
set_option maxRecDepth 100000 in
theorem ggX11_unit_X11_breaks : GoodIn wsX11_unit wsX11_breaks := goodIn_sub (mmC (mmI il_X11_unit_2 0 rfl) (mmA (mmC (mmI il_X11_unit_1 0 rfl) mmN) il_X11_unit_3)) gw_X11_breaks
theorem gX11_unit_X11_breaks : GoodIn wsX11_unit (wsV RX11 247 RX11 yX11_breaks wsX11_breaks) := goodIn_app (goodIn_sub (mmC (mmI il_X11_unit_1 21 rfl) (mmC (mmI il_X11_unit_1 22 rfl) (mmC (mmI il_X11_unit_1 23 rfl) (mmC (mmI il_X11_unit_1 7 rfl) mmN)))) (by decide +kernel)) ggX11_unit_X11_breaks
theorem dX11_unit_0 : decode cX11_unit 0 = .ok (.aload_n 0, 1) := by decide +kernel
theorem dX11_unit_1 : decode cX11_unit 1 = .ok (.getfield 223, 3) := by decide +kernel
theorem dX11_unit_4 : decode cX11_unit 4 = .ok (.ifCond .ne 5, 3) := by decide +kernel
theorem dX11_unit_9 : decode cX11_unit 9 = .ok (.aload_n 0, 1) := by decide +kernel
theorem dX11_unit_10 : decode cX11_unit 10 = .ok (.invokevirtual 227, 3) := by decide +kernel
theorem dX11_unit_13 : decode cX11_unit 13 = .ok (.istore_n 1, 1) := by decide +kernel
theorem dX11_unit_14 : decode cX11_unit 14 = .ok (.iload_n 1, 1) := by decide +kernel
theorem dX11_unit_15 : decode cX11_unit 15 = .ok (.invokestatic 241, 3) := by decide +kernel
theorem dX11_unit_18 : decode cX11_unit 18 = .ok (.ifCond .eq 24, 3) := by decide +kernel
theorem dX11_unit_21 : decode cX11_unit 21 = .ok (.aload_n 0, 1) := by decide +kernel
theorem dX11_unit_22 : decode cX11_unit 22 = .ok (.dup, 1) := by decide +kernel
theorem dX11_unit_23 : decode cX11_unit 23 = .ok (.getfield 210, 3) := by decide +kernel
theorem dX11_unit_26 : decode cX11_unit 26 = .ok (.iconst 1, 1) := by decide +kernel
theorem dX11_unit_27 : decode cX11_unit 27 = .ok (.iadd, 1) := by decide +kernel
theorem dX11_unit_28 : decode cX11_unit 28 = .ok (.putfield 210, 3) := by decide +kernel
theorem dX11_unit_31 : decode cX11_unit 31 = .ok (.aload_n 0, 1) := by decide +kernel
theorem dX11_unit_32 : decode cX11_unit 32 = .ok (.getfield 128, 3) := by decide +kernel
theorem dX11_unit_35 : decode cX11_unit 35 = .ok (.iload_n 1, 1) := by decide +kernel
theorem dX11_unit_36 : decode cX11_unit 36 = .ok (.iaload, 1) := by decide +kernel
theorem dX11_unit_37 : decode cX11_unit 37 = .ok (.i2l, 1) := by decide +kernel
theorem dX11_unit_38 : decode cX11_unit 38 = .ok (.invokestatic 234, 3) := by decide +kernel
theorem dX11_unit_41 : decode cX11_unit 41 = .ok (.ireturn, 1) := by decide +kernel
theorem dX11_unit_42 : decode cX11_unit 42 = .ok (.iload_n 1, 1) := by decide +kernel
theorem dX11_unit_43 : decode cX11_unit 43 = .ok (.bipush 40, 2) := by decide +kernel
theorem dX11_unit_45 : decode cX11_unit 45 = .ok (.if_icmp .ne 165, 3) := by decide +kernel
theorem dX11_unit_48 : decode cX11_unit 48 = .ok (.aload_n 0, 1) := by decide +kernel
theorem dX11_unit_49 : decode cX11_unit 49 = .ok (.getfield 244, 3) := by decide +kernel
theorem dX11_unit_52 : decode cX11_unit 52 = .ok (.iconst 5, 1) := by decide +kernel
theorem dX11_unit_53 : decode cX11_unit 53 = .ok (.if_icmp .ne 8, 3) := by decide +kernel
theorem dX11_unit_56 : decode cX11_unit 56 = .ok (.aload_n 0, 1) := by decide +kernel
theorem dX11_unit_57 : decode cX11_unit 57 = .ok (.invokevirtual 247, 3) := by decide +kernel
theorem dX11_unit_60 : decode cX11_unit 60 = .ok (.ireturn, 1) := by decide +kernel
theorem dX11_unit_210 : decode cX11_unit 210 = .ok (.iconst 0, 1) := by decide +kernel
theorem dX11_unit_211 : decode cX11_unit 211 = .ok (.istore_n 2, 1) := by decide +kernel
theorem dX11_unit_212 : decode cX11_unit 212 = .ok (.iconst 0, 1) := by decide +kernel
theorem dX11_unit_213 : decode cX11_unit 213 = .ok (.istore_n 3, 1) := by decide +kernel
theorem dX11_unit_214 : decode cX11_unit 214 = .ok (.iload_n 3, 1) := by decide +kernel
theorem dX11_unit_215 : decode cX11_unit 215 = .ok (.iconst 5, 1) := by decide +kernel
theorem dX11_unit_216 : decode cX11_unit 216 = .ok (.if_icmp .ge 50, 3) := by decide +kernel
theorem dX11_unit_219 : decode cX11_unit 219 = .ok (.aload_n 0, 1) := by decide +kernel
theorem dX11_unit_220 : decode cX11_unit 220 = .ok (.invokevirtual 227, 3) := by decide +kernel
theorem dX11_unit_223 : decode cX11_unit 223 = .ok (.bipush 48, 2) := by decide +kernel
theorem dX11_unit_225 : decode cX11_unit 225 = .ok (.if_icmp .lt 41, 3) := by decide +kernel
theorem dX11_unit_228 : decode cX11_unit 228 = .ok (.aload_n 0, 1) := by decide +kernel
theorem dX11_unit_229 : decode cX11_unit 229 = .ok (.invokevirtual 227, 3) := by decide +kernel
theorem dX11_unit_232 : decode cX11_unit 232 = .ok (.bipush 57, 2) := by decide +kernel
theorem dX11_unit_234 : decode cX11_unit 234 = .ok (.if_icmp .gt 32, 3) := by decide +kernel
theorem dX11_unit_237 : decode cX11_unit 237 = .ok (.bipush 10, 2) := by decide +kernel
theorem dX11_unit_239 : decode cX11_unit 239 = .ok (.iload_n 2, 1) := by decide +kernel
theorem dX11_unit_240 : decode cX11_unit 240 = .ok (.imul, 1) := by decide +kernel
theorem dX11_unit_241 : decode cX11_unit 241 = .ok (.aload_n 0, 1) := by decide +kernel
theorem dX11_unit_242 : decode cX11_unit 242 = .ok (.invokevirtual 227, 3) := by decide +kernel
theorem dX11_unit_245 : decode cX11_unit 245 = .ok (.iadd, 1) := by decide +kernel
theorem dX11_unit_246 : decode cX11_unit 246 = .ok (.bipush 48, 2) := by decide +kernel
theorem dX11_unit_248 : decode cX11_unit 248 = .ok (.isub, 1) := by decide +kernel
theorem dX11_unit_249 : decode cX11_unit 249 = .ok (.istore_n 2, 1) := by decide +kernel
theorem dX11_unit_250 : decode cX11_unit 250 = .ok (.aload_n 0, 1) := by decide +kernel
theorem dX11_unit_251 : decode cX11_unit 251 = .ok (.dup, 1) := by decide +kernel
theorem dX11_unit_252 : decode cX11_unit 252 = .ok (.getfield 210, 3) := by decide +kernel
theorem dX11_unit_255 : decode cX11_unit 255 = .ok (.iconst 1, 1) := by decide +kernel
theorem dX11_unit_256 : decode cX11_unit 256 = .ok (.iadd, 1) := by decide +kernel
theorem dX11_unit_257 : decode cX11_unit 257 = .ok (.putfield 210, 3) := by decide +kernel
theorem dX11_unit_260 : decode cX11_unit 260 = .ok (.iinc 3 1, 3) := by decide +kernel
theorem dX11_unit_263 : decode cX11_unit 263 = .ok (.goto (-49), 3) := by decide +kernel
theorem dX11_unit_266 : decode cX11_unit 266 = .ok (.iload_n 3, 1) := by decide +kernel
theorem dX11_unit_267 : decode cX11_unit 267 = .ok (.ifCond .ne 10, 3) := by decide +kernel
theorem dX11_unit_270 : decode cX11_unit 270 = .ok (.aload_n 0, 1) := by decide +kernel
theorem dX11_unit_271 : decode cX11_unit 271 = .ok (.invokevirtual 247, 3) := by decide +kernel
theorem dX11_unit_274 : decode cX11_unit 274 = .ok (.goto 4, 3) := by decide +kernel
theorem dX11_unit_277 : decode cX11_unit 277 = .ok (.iload_n 2, 1) := by decide +kernel
theorem dX11_unit_278 : decode cX11_unit 278 = .ok (.ireturn, 1) := by decide +kernel
theorem in_wsX11_unit_X11 : ∀ w ∈ wsX110, w ∈ wsX11_unit := fun w h => List.mem_cons_of_mem _ (List.mem_append_right _ h)