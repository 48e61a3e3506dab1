def wsX11_sum_r1 : List Cond := [Cond.fieldLink RX11 223 "ShipOfficeModel" "isWell" "Z", Cond.fieldLink RX11 210 "ShipOfficeModel" "at" "I", Cond.methodLink RX11 231 yX11_term, Cond.instanceMethod yX11_term, Cond.selects RX11 yX11_term yX11_term, Cond.initialized RX11, Cond.methodLink RX11 227 yX11_sign, Cond.instanceMethod yX11_sign, Cond.selects RX11 yX11_sign yX11_sign, Cond.code yX11_sign cX11_sign 1 (some .int), Cond.fieldLink RX11 213 "ShipOfficeModel" "size" "I", Cond.fieldLink RX11 216 "ShipOfficeModel" "base" "I", Cond.fieldLink RX11 125 "ShipOfficeModel" "tape" "[I", Cond.fieldLink RX11 67 "ShipOfficeModel" "text" "[I", Cond.methodLink RX11 234 yX11_held, Cond.static yX11_held, Cond.code yX11_held cX11_held 2 (some .int), Cond.constantLong RX11 219 (1000000000), Cond.constantLong RX11 221 (-1000000000), Cond.code yX11_term cX11_term 4 (some .int), Cond.methodLink RX11 238 yX11_unit, Cond.instanceMethod yX11_unit, Cond.selects RX11 yX11_unit yX11_unit, Cond.code yX11_unit cX11_unit 5 (some .int)]
def wsX11_sum_r2 : List Cond := [Cond.fieldLink RX11 128 "ShipOfficeModel" "letters" "[I", Cond.fieldLink RX11 244 "ShipOfficeModel" "deep" "I", Cond.methodLink RX11 241 yX11_isLetter, Cond.static yX11_isLetter, Cond.code yX11_isLetter cX11_isLetter 1 (some .boolean), Cond.methodLink RX11 247 yX11_breaks, Cond.instanceMethod yX11_breaks, Cond.selects RX11 yX11_breaks yX11_breaks, Cond.code yX11_breaks cX11_breaks 1 (some .int), Cond.methodLink RX11 250 yX11_sum, Cond.instanceMethod yX11_sum, Cond.selects RX11 yX11_sum yX11_sum, Cond.methodLink RX11 253 yX11_takes, Cond.instanceMethod yX11_takes, Cond.selects RX11 yX11_takes yX11_takes, Cond.code yX11_takes cX11_takes 2 (some .boolean)]
def wsX11_sum : List Cond := .code yX11_sum cX11_sum 4 (some .int) :: ((wsX11_sum_r1 ++ wsX11_sum_r2) ++ wsX110)
theorem il_X11_sum_1 : ∀ w ∈ wsX11_sum_r1, w ∈ wsX11_sum := fun w h => (List.mem_cons_of_mem _ (List.mem_append_left _ (List.mem_append_left _ h)))
theorem il_X11_sum_2 : ∀ w ∈ wsX11_sum_r2, w ∈ wsX11_sum := fun w h => (List.mem_cons_of_mem _ (List.mem_append_left _ (List.mem_append_right _ h)))
theorem il_X11_sum_3 : ∀ w ∈ wsX110, w ∈ wsX11_sum := fun w h => (List.mem_cons_of_mem _ (List.mem_append_right _ h))
theorem iw_X11_sum_1 : Cond.fieldLink RX11 223 "ShipOfficeModel" "isWell" "Z" ∈ wsX11_sum := (mmI il_X11_sum_1 0 rfl)
theorem iw_X11_sum_2 : Cond.fieldLink RX11 210 "ShipOfficeModel" "at" "I" ∈ wsX11_sum := (mmI il_X11_sum_1 1 rfl)
def wsX11_term_r1 : List Cond := [Cond.fieldLink RX11 223 "ShipOfficeModel" "isWell" "Z", Cond.fieldLink RX11 210 "ShipOfficeModel" "at" "I", Cond.methodLink RX11 238 yX11_unit, Cond.instanceMethod yX11_unit, Cond.selects RX11 yX11_unit yX11_unit, Cond.initialized RX11, Cond.methodLink RX11 227 yX11_sign, Cond.instanceMethod yX11_sign, Cond.selects RX11 yX11_sign yX11_sign, Cond.code yX11_sign cX11_sign 1 (some .int), Cond.fieldLink RX11 213 "ShipOfficeModel" "size" "I", Cond.fieldLink RX11 216 "ShipOfficeModel" "base" "I", Cond.fieldLink RX11 125 "ShipOfficeModel" "tape" "[I", Cond.fieldLink RX11 67 "ShipOfficeModel" "text" "[I", Cond.methodLink RX11 234 yX11_held, Cond.static yX11_held, Cond.code yX11_held cX11_held 2 (some .int), Cond.constantLong RX11 219 (1000000000), Cond.constantLong RX11 221 (-1000000000), Cond.code yX11_sum cX11_sum 4 (some .int), Cond.methodLink RX11 231 yX11_term, Cond.instanceMethod yX11_term, Cond.selects RX11 yX11_term yX11_term, Cond.code yX11_unit cX11_unit 5 (some .int)]
def wsX11_term_r2 : List Cond := [Cond.fieldLink RX11 128 "ShipOfficeModel" "letters" "[I", Cond.fieldLink RX11 244 "ShipOfficeModel" "deep" "I", Cond.methodLink RX11 241 yX11_isLetter, Cond.static yX11_isLetter, Cond.code yX11_isLetter cX11_isLetter 1 (some .boolean), Cond.methodLink RX11 247 yX11_breaks, Cond.instanceMethod yX11_breaks, Cond.selects RX11 yX11_breaks yX11_breaks, Cond.code yX11_breaks cX11_breaks 1 (some .int), Cond.methodLink RX11 250 yX11_sum, Cond.instanceMethod yX11_sum, Cond.selects RX11 yX11_sum yX11_sum, Cond.methodLink RX11 253 yX11_takes, Cond.instanceMethod yX11_takes, Cond.selects RX11 yX11_takes yX11_takes, Cond.code yX11_takes cX11_takes 2 (some .boolean)]
def wsX11_term : List Cond := .code yX11_term cX11_term 4 (some .int) :: ((wsX11_term_r1 ++ wsX11_term_r2) ++ wsX110)
theorem gw_X11_term : wsX11_term.all goodWord = true := by decide +kernel
theorem il_X11_term_1 : ∀ w ∈ wsX11_term_r1, w ∈ wsX11_term := fun w h => (List.mem_cons_of_mem _ (List.mem_append_left _ (List.mem_append_left _ h)))
theorem il_X11_term_2 : ∀ w ∈ wsX11_term_r2, w ∈ wsX11_term := fun w h => (List.mem_cons_of_mem _ (List.mem_append_left _ (List.mem_append_right _ h)))
theorem il_X11_term_3 : ∀ w ∈ wsX110, w ∈ wsX11_term := fun w h => (List.mem_cons_of_mem _ (List.mem_append_right _ h))
theorem iw_X11_term_1 : Cond.fieldLink RX11 223 "ShipOfficeModel" "isWell" "Z" ∈ wsX11_term := (mmI il_X11_term_1 0 rfl)
theorem iw_X11_term_2 : Cond.fieldLink RX11 210 "ShipOfficeModel" "at" "I" ∈ wsX11_term := (mmI il_X11_term_1 1 rfl)
theorem gw_X11_unit : wsX11_unit.all goodWord = true := by decide +kernel
set_option maxRecDepth 100000 in
theorem ggX11_sum_X11_term : GoodIn wsX11_sum wsX11_term := goodIn_sub (mmC (mmI il_X11_sum_1 19 rfl) (mmA (mmA (mmC (mmI il_X11_sum_1 0 rfl) (mmC (mmI il_X11_sum_1 1 rfl) (mmC (mmI il_X11_sum_1 20 rfl) (mmC (mmI il_X11_sum_1 21 rfl) (mmC (mmI il_X11_sum_1 22 rfl) (mmC (mmI il_X11_sum_1 5 rfl) (mmC (mmI il_X11_sum_1 6 rfl) (mmC (mmI il_X11_sum_1 7 rfl) (mmC (mmI il_X11_sum_1 8 rfl) (mmC (mmI il_X11_sum_1 9 rfl) (mmC (mmI il_X11_sum_1 10 rfl) (mmC (mmI il_X11_sum_1 11 rfl) (mmC (mmI il_X11_sum_1 12 rfl) (mmC (mmI il_X11_sum_1 13 rfl) (mmC (mmI il_X11_sum_1 14 rfl) (mmC (mmI il_X11_sum_1 15 rfl) (mmC (mmI il_X11_sum_1 16 rfl) (mmC (mmI il_X11_sum_1 17 rfl) (mmC (mmI il_X11_sum_1 18 rfl) (mmC (List.mem_cons_self) (mmC (mmI il_X11_sum_1 2 rfl) (mmC (mmI il_X11_sum_1 3 rfl) (mmC (mmI il_X11_sum_1 4 rfl) (mmC (mmI il_X11_sum_1 23 rfl) mmN)))))))))))))))))))))))) (mmC (mmI il_X11_sum_2 0 rfl) (mmC (mmI il_X11_sum_2 1 rfl) (mmC (mmI il_X11_sum_2 2 rfl) (mmC (mmI il_X11_sum_2 3 rfl) (mmC (mmI il_X11_sum_2 4 rfl) (mmC (mmI il_X11_sum_2 5 rfl) (mmC (mmI il_X11_sum_2 6 rfl) (mmC (mmI il_X11_sum_2 7 rfl) (mmC (mmI il_X11_sum_2 8 rfl) (mmC (mmI il_X11_sum_2 9 rfl) (mmC (mmI il_X11_sum_2 10 rfl) (mmC (mmI il_X11_sum_2 11 rfl) (mmC (mmI il_X11_sum_2 12 rfl) (mmC (mmI il_X11_sum_2 13 rfl) (mmC (mmI il_X11_sum_2 14 rfl) (mmC (mmI il_X11_sum_2 15 rfl) mmN))))))))))))))))) il_X11_sum_3)) gw_X11_term
theorem gX11_sum_X11_term : GoodIn wsX11_sum (wsV RX11 231 RX11 yX11_term wsX11_term) := goodIn_app (goodIn_sub (mmC (mmI il_X11_sum_1 2 rfl) (mmC (mmI il_X11_sum_1 3 rfl) (mmC (mmI il_X11_sum_1 4 rfl) (mmC (mmI il_X11_sum_1 5 rfl) mmN)))) (by decide +kernel)) ggX11_sum_X11_term
set_option maxRecDepth 100000 in
theorem ggX11_sum_X11_sign : GoodIn wsX11_sum wsX11_sign := goodIn_sub (mmC (mmI il_X11_sum_1 9 rfl) (mmA (mmC (mmI il_X11_sum_1 1 rfl) (mmC (mmI il_X11_sum_1 10 rfl) (mmC (mmI il_X11_sum_1 11 rfl) (mmC (mmI il_X11_sum_1 12 rfl) (mmC (mmI il_X11_sum_1 13 rfl) mmN))))) il_X11_sum_3)) gw_X11_sign
theorem gX11_sum_X11_sign : GoodIn wsX11_sum (wsV RX11 227 RX11 yX11_sign wsX11_sign) := goodIn_app (goodIn_sub (mmC (mmI il_X11_sum_1 6 rfl) (mmC (mmI il_X11_sum_1 7 rfl) (mmC (mmI il_X11_sum_1 8 rfl) (mmC (mmI il_X11_sum_1 5 rfl) mmN)))) (by decide +kernel)) ggX11_sum_X11_sign
set_option maxRecDepth 100000 in
theorem ggX11_sum_X11_held : GoodIn wsX11_sum wsX11_held := goodIn_sub (mmC (mmI il_X11_sum_1 16 rfl) (mmC (mmI il_X11_sum_1 17 rfl) (mmC (mmI il_X11_sum_1 18 rfl) mmN))) gw_X11_held
set_option maxRecDepth 20000 in
theorem gX11_sum_X11_held : GoodIn wsX11_sum (va_wsS RX11 234 yX11_held wsX11_held) := goodIn_app (goodIn_of _ (by decide +kernel)) ggX11_sum_X11_held
theorem dX11_sum_0 : decode cX11_sum 0 = .ok (.aload_n 0, 1) := by decide +kernel
theorem dX11_sum_1 : decode cX11_sum 1 = .ok (.invokevirtual 231, 3) := by decide +kernel
theorem dX11_sum_4 : decode cX11_sum 4 = .ok (.istore_n 1, 1) := by decide +kernel
theorem dX11_sum_5 : decode cX11_sum 5 = .ok (.aload_n 0, 1) := by decide +kernel
theorem dX11_sum_6 : decode cX11_sum 6 = .ok (.getfield 223, 3) := by decide +kernel
theorem dX11_sum_9 : decode cX11_sum 9 = .ok (.ifCond .eq 67, 3) := by decide +kernel
theorem dX11_sum_12 : decode cX11_sum 12 = .ok (.aload_n 0, 1) := by decide +kernel
theorem dX11_sum_13 : decode cX11_sum 13 = .ok (.invokevirtual 227, 3) := by decide +kernel
theorem dX11_sum_16 : decode cX11_sum 16 = .ok (.bipush 43, 2) := by decide +kernel
theorem dX11_sum_18 : decode cX11_sum 18 = .ok (.if_icmp .eq 12, 3) := by decide +kernel
theorem dX11_sum_21 : decode cX11_sum 21 = .ok (.aload_n 0, 1) := by decide +kernel
theorem dX11_sum_22 : decode cX11_sum 22 = .ok (.invokevirtual 227, 3) := by decide +kernel
theorem dX11_sum_25 : decode cX11_sum 25 = .ok (.bipush 45, 2) := by decide +kernel
theorem dX11_sum_27 : decode cX11_sum 27 = .ok (.if_icmp .ne 49, 3) := by decide +kernel
theorem dX11_sum_30 : decode cX11_sum 30 = .ok (.aload_n 0, 1) := by decide +kernel
theorem dX11_sum_31 : decode cX11_sum 31 = .ok (.invokevirtual 227, 3) := by decide +kernel
theorem dX11_sum_34 : decode cX11_sum 34 = .ok (.istore_n 2, 1) := by decide +kernel
theorem dX11_sum_35 : decode cX11_sum 35 = .ok (.aload_n 0, 1) := by decide +kernel
theorem dX11_sum_36 : decode cX11_sum 36 = .ok (.dup, 1) := by decide +kernel
theorem dX11_sum_37 : decode cX11_sum 37 = .ok (.getfield 210, 3) := by decide +kernel
theorem dX11_sum_40 : decode cX11_sum 40 = .ok (.iconst 1, 1) := by decide +kernel
theorem dX11_sum_41 : decode cX11_sum 41 = .ok (.iadd, 1) := by decide +kernel
theorem dX11_sum_42 : decode cX11_sum 42 = .ok (.putfield 210, 3) := by decide +kernel
theorem dX11_sum_45 : decode cX11_sum 45 = .ok (.aload_n 0, 1) := by decide +kernel
theorem dX11_sum_46 : decode cX11_sum 46 = .ok (.invokevirtual 231, 3) := by decide +kernel
theorem dX11_sum_49 : decode cX11_sum 49 = .ok (.istore_n 3, 1) := by decide +kernel
theorem dX11_sum_50 : decode cX11_sum 50 = .ok (.iload_n 2, 1) := by decide +kernel
theorem dX11_sum_51 : decode cX11_sum 51 = .ok (.bipush 43, 2) := by decide +kernel
theorem dX11_sum_53 : decode cX11_sum 53 = .ok (.if_icmp .ne 11, 3) := by decide +kernel
theorem dX11_sum_56 : decode cX11_sum 56 = .ok (.iload_n 1, 1) := by decide +kernel
theorem dX11_sum_57 : decode cX11_sum 57 = .ok (.i2l, 1) := by decide +kernel
theorem dX11_sum_58 : decode cX11_sum 58 = .ok (.iload_n 3, 1) := by decide +kernel
theorem dX11_sum_59 : decode cX11_sum 59 = .ok (.i2l, 1) := by decide +kernel
theorem dX11_sum_60 : decode cX11_sum 60 = .ok (.ladd, 1) := by decide +kernel
theorem dX11_sum_61 : decode cX11_sum 61 = .ok (.goto 8, 3) := by decide +kernel
theorem dX11_sum_64 : decode cX11_sum 64 = .ok (.iload_n 1, 1) := by decide +kernel
theorem dX11_sum_65 : decode cX11_sum 65 = .ok (.i2l, 1) := by decide +kernel
theorem dX11_sum_66 : decode cX11_sum 66 = .ok (.iload_n 3, 1) := by decide +kernel
theorem dX11_sum_67 : decode cX11_sum 67 = .ok (.i2l, 1) := by decide +kernel
theorem dX11_sum_68 : decode cX11_sum 68 = .ok (.lsub, 1) := by decide +kernel
theorem dX11_sum_69 : decode cX11_sum 69 = .ok (.invokestatic 234, 3) := by decide +kernel
theorem dX11_sum_72 : decode cX11_sum 72 = .ok (.istore_n 1, 1) := by decide +kernel
theorem dX11_sum_73 : decode cX11_sum 73 = .ok (.goto (-68), 3) := by decide +kernel
theorem dX11_sum_76 : decode cX11_sum 76 = .ok (.iload_n 1, 1) := by decide +kernel
theorem dX11_sum_77 : decode cX11_sum 77 = .ok (.ireturn, 1) := by decide +kernel
set_option maxRecDepth 100000 in
theorem ggX11_term_X11_unit : GoodIn wsX11_term wsX11_unit := goodIn_sub (mmC (mmI il_X11_term_1 23 rfl) (mmA (mmA (mmC (mmI il_X11_term_1 0 rfl) (mmC (mmI il_X11_term_1 1 rfl) (mmC (mmI il_X11_term_2 0 rfl) (mmC (mmI il_X11_term_2 1 rfl) (mmC (mmI il_X11_term_1 6 rfl) (mmC (mmI il_X11_term_1 7 rfl) (mmC (mmI il_X11_term_1 8 rfl) (mmC (mmI il_X11_term_1 5 rfl) (mmC (mmI il_X11_term_1 9 rfl) (mmC (mmI il_X11_term_1 10 rfl) (mmC (mmI il_X11_term_1 11 rfl) (mmC (mmI il_X11_term_1 12 rfl) (mmC (mmI il_X11_term_1 13 rfl) (mmC (mmI il_X11_term_2 2 rfl) (mmC (mmI il_X11_term_2 3 rfl) (mmC (mmI il_X11_term_2 4 rfl) (mmC (mmI il_X11_term_1 14 rfl) (mmC (mmI il_X11_term_1 15 rfl) (mmC (mmI il_X11_term_1 16 rfl) (mmC (mmI il_X11_term_1 17 rfl) (mmC (mmI il_X11_term_1 18 rfl) (mmC (mmI il_X11_term_2 5 rfl) (mmC (mmI il_X11_term_2 6 rfl) (mmC (mmI il_X11_term_2 7 rfl) mmN)))))))))))))))))))))))) (mmC (mmI il_X11_term_2 8 rfl) (mmC (mmI il_X11_term_2 9 rfl) (mmC (mmI il_X11_term_2 10 rfl) (mmC (mmI il_X11_term_2 11 rfl) (mmC (mmI il_X11_term_2 12 rfl) (mmC (mmI il_X11_term_2 13 rfl) (mmC (mmI il_X11_term_2 14 rfl) (mmC (mmI il_X11_term_2 15 rfl) (mmC (mmI il_X11_term_1 19 rfl) (mmC (mmI il_X11_term_1 20 rfl) (mmC (mmI il_X11_term_1 21 rfl) (mmC (mmI il_X11_term_1 22 rfl) (mmC (List.mem_cons_self) (mmC (mmI il_X11_term_1 2 rfl) (mmC (mmI il_X11_term_1 3 rfl) (mmC (mmI il_X11_term_1 4 rfl) mmN))))))))))))))))) il_X11_term_3)) gw_X11_unit
theorem gX11_term_X11_unit : GoodIn wsX11_term (wsV RX11 238 RX11 yX11_unit wsX11_unit) := goodIn_app (goodIn_sub (mmC (mmI il_X11_term_1 2 rfl) (mmC (mmI il_X11_term_1 3 rfl) (mmC (mmI il_X11_term_1 4 rfl) (mmC (mmI il_X11_term_1 5 rfl) mmN)))) (by decide +kernel)) ggX11_term_X11_unit
set_option maxRecDepth 100000 in
theorem ggX11_term_X11_sign : GoodIn wsX11_term wsX11_sign := goodIn_sub (mmC (mmI il_X11_term_1 9 rfl) (mmA (mmC (mmI il_X11_term_1 1 rfl) (mmC (mmI il_X11_term_1 10 rfl) (mmC (mmI il_X11_term_1 11 rfl) (mmC (mmI il_X11_term_1 12 rfl) (mmC (mmI il_X11_term_1 13 rfl) mmN))))) il_X11_term_3)) gw_X11_sign
theorem gX11_term_X11_sign : GoodIn wsX11_term (wsV RX11 227 RX11 yX11_sign wsX11_sign) := goodIn_app (goodIn_sub (mmC (mmI il_X11_term_1 6 rfl) (mmC (mmI il_X11_term_1 7 rfl) (mmC (mmI il_X11_term_1 8 rfl) (mmC (mmI il_X11_term_1 5 rfl) mmN)))) (by decide +kernel)) ggX11_term_X11_sign
set_option maxRecDepth 100000 in
theorem ggX11_term_X11_held : GoodIn wsX11_term wsX11_held := goodIn_sub (mmC (mmI il_X11_term_1 16 rfl) (mmC (mmI il_X11_term_1 17 rfl) (mmC (mmI il_X11_term_1 18 rfl) mmN))) gw_X11_held
set_option maxRecDepth 20000 in
theorem gX11_term_X11_held : GoodIn wsX11_term (va_wsS RX11 234 yX11_held wsX11_held) := goodIn_app (goodIn_of _ (by decide +kernel)) ggX11_term_X11_held
theorem dX11_term_0 : decode cX11_term 0 = .ok (.aload_n 0, 1) := by decide +kernel
theorem dX11_term_1 : decode cX11_term 1 = .ok (.invokevirtual 238, 3) := by decide +kernel
theorem dX11_term_4 : decode cX11_term 4 = .ok (.istore_n 1, 1) := by decide +kernel
theorem dX11_term_5 : decode cX11_term 5 = .ok (.aload_n 0, 1) := by decide +kernel
theorem dX11_term_6 : decode cX11_term 6 = .ok (.getfield 223, 3) := by decide +kernel
theorem dX11_term_9 : decode cX11_term 9 = .ok (.ifCond .eq 78, 3) := by decide +kernel
theorem dX11_term_12 : decode cX11_term 12 = .ok (.aload_n 0, 1) := by decide +kernel
theorem dX11_term_13 : decode cX11_term 13 = .ok (.invokevirtual 227, 3) := by decide +kernel
theorem dX11_term_16 : decode cX11_term 16 = .ok (.bipush 42, 2) := by decide +kernel
theorem dX11_term_18 : decode cX11_term 18 = .ok (.if_icmp .eq 12, 3) := by decide +kernel
theorem dX11_term_21 : decode cX11_term 21 = .ok (.aload_n 0, 1) := by decide +kernel
theorem dX11_term_22 : decode cX11_term 22 = .ok (.invokevirtual 227, 3) := by decide +kernel
theorem dX11_term_25 : decode cX11_term 25 = .ok (.bipush 47, 2) := by decide +kernel
theorem dX11_term_27 : decode cX11_term 27 = .ok (.if_icmp .ne 60, 3) := by decide +kernel
theorem dX11_term_30 : decode cX11_term 30 = .ok (.aload_n 0, 1) := by decide +kernel
theorem dX11_term_31 : decode cX11_term 31 = .ok (.invokevirtual 227, 3) := by decide +kernel
theorem dX11_term_34 : decode cX11_term 34 = .ok (.istore_n 2, 1) := by decide +kernel
theorem dX11_term_35 : decode cX11_term 35 = .ok (.aload_n 0, 1) := by decide +kernel
theorem dX11_term_36 : decode cX11_term 36 = .ok (.dup, 1) := by decide +kernel
theorem dX11_term_37 : decode cX11_term 37 = .ok (.getfield 210, 3) := by decide +kernel
theorem dX11_term_40 : decode cX11_term 40 = .ok (.iconst 1, 1) := by decide +kernel
theorem dX11_term_41 : decode cX11_term 41 = .ok (.iadd, 1) := by decide +kernel
theorem dX11_term_42 : decode cX11_term 42 = .ok (.putfield 210, 3) := by decide +kernel
theorem dX11_term_45 : decode cX11_term 45 = .ok (.aload_n 0, 1) := by decide +kernel
theorem dX11_term_46 : decode cX11_term 46 = .ok (.invokevirtual 238, 3) := by decide +kernel
theorem dX11_term_49 : decode cX11_term 49 = .ok (.istore_n 3, 1) := by decide +kernel
theorem dX11_term_50 : decode cX11_term 50 = .ok (.iload_n 2, 1) := by decide +kernel
theorem dX11_term_51 : decode cX11_term 51 = .ok (.bipush 42, 2) := by decide +kernel
theorem dX11_term_53 : decode cX11_term 53 = .ok (.if_icmp .ne 14, 3) := by decide +kernel
theorem dX11_term_56 : decode cX11_term 56 = .ok (.iload_n 1, 1) := by decide +kernel
theorem dX11_term_57 : decode cX11_term 57 = .ok (.i2l, 1) := by decide +kernel
theorem dX11_term_58 : decode cX11_term 58 = .ok (.iload_n 3, 1) := by decide +kernel
theorem dX11_term_59 : decode cX11_term 59 = .ok (.i2l, 1) := by decide +kernel
theorem dX11_term_60 : decode cX11_term 60 = .ok (.lmul, 1) := by decide +kernel
theorem dX11_term_61 : decode cX11_term 61 = .ok (.invokestatic 234, 3) := by decide +kernel
theorem dX11_term_64 : decode cX11_term 64 = .ok (.goto 19, 3) := by decide +kernel
theorem dX11_term_67 : decode cX11_term 67 = .ok (.iload_n 3, 1) := by decide +kernel
theorem dX11_term_68 : decode cX11_term 68 = .ok (.ifCond .ne 7, 3) := by decide +kernel
theorem dX11_term_71 : decode cX11_term 71 = .ok (.iconst 0, 1) := by decide +kernel
theorem dX11_term_72 : decode cX11_term 72 = .ok (.goto 11, 3) := by decide +kernel
theorem dX11_term_75 : decode cX11_term 75 = .ok (.iload_n 1, 1) := by decide +kernel
theorem dX11_term_76 : decode cX11_term 76 = .ok (.i2l, 1) := by decide +kernel
theorem dX11_term_77 : decode cX11_term 77 = .ok (.iload_n 3, 1) := by decide +kernel
theorem dX11_term_78 : decode cX11_term 78 = .ok (.i2l, 1) := by decide +kernel
theorem dX11_term_79 : decode cX11_term 79 = .ok (.ldiv, 1) := by decide +kernel
theorem dX11_term_80 : decode cX11_term 80 = .ok (.invokestatic 234, 3) := by decide +kernel
theorem dX11_term_83 : decode cX11_term 83 = .ok (.istore_n 1, 1) := by decide +kernel
theorem dX11_term_84 : decode cX11_term 84 = .ok (.goto (-79), 3) := by decide +kernel
theorem dX11_term_87 : decode cX11_term 87 = .ok (.iload_n 1, 1) := by decide +kernel
theorem dX11_term_88 : decode cX11_term 88 = .ok (.ireturn, 1) := by decide +kernel
theorem in_wsX11_term_X11 : ∀ w ∈ wsX110, w ∈ wsX11_term := fun w h => List.mem_cons_of_mem _ (List.mem_append_right _ h)
theorem in_wsX11_sum_X11 : ∀ w ∈ wsX110, w ∈ wsX11_sum := fun w h => List.mem_cons_of_mem _ (List.mem_append_right _ h)

theorem wd_ne {x : Int32} (h : ¬ x = 0) : ¬ x.toInt64 = 0 := by
  intro e
  apply h
  have h2 : x.toInt64.toInt = (0 : Int64).toInt := by rw [e]
  rw [Int32.toInt_toInt64] at h2
  exact Int32.toInt_inj.mp (h2.trans (by decide +kernel))