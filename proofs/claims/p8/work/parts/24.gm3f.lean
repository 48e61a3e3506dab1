abbrev cX11_act : ByteArray := prog_13_method_35_code
def yX11_act : MethodName := ⟨RX11, "act", "(II)I"⟩
def wsX11_act_r1 : List Cond := [Cond.fieldLink RX11 171 "ShipOfficeModel" "now" "I", Cond.fieldLink RX11 256 "ShipOfficeModel" "acts" "I", Cond.fieldLink RX11 205 "ShipOfficeModel" "taped" "I", Cond.fieldLink RX11 223 "ShipOfficeModel" "isWell" "Z", Cond.fieldLink RX11 210 "ShipOfficeModel" "at" "I", Cond.fieldLink RX11 67 "ShipOfficeModel" "text" "[I", Cond.fieldLink RX11 125 "ShipOfficeModel" "tape" "[I", Cond.fieldLink RX11 58 "ShipOfficeModel" "textSize" "[I", Cond.fieldLink RX11 61 "ShipOfficeModel" "purpose" "[I", Cond.fieldLink RX11 64 "ShipOfficeModel" "from" "[I", Cond.methodLink RX11 161 yX11_isIn, Cond.static yX11_isIn, Cond.initialized RX11, Cond.code yX11_isIn cX11_isIn 2 (some .boolean), Cond.methodLink RX11 153 yX11_refuse, Cond.instanceMethod yX11_refuse, Cond.selects RX11 yX11_refuse yX11_refuse, Cond.code yX11_refuse cX11_refuse 2 (some .int), Cond.fieldLink RX11 7 "ShipOfficeModel" "refusals" "[I", Cond.methodLink RX11 259 yX11_goesThrough, Cond.instanceMethod yX11_goesThrough, Cond.selects RX11 yX11_goesThrough yX11_goesThrough, Cond.code yX11_goesThrough cX11_goesThrough 3 (some .int), Cond.fieldLink RX11 216 "ShipOfficeModel" "base" "I"]
def wsX11_act_r2 : List Cond := [Cond.fieldLink RX11 213 "ShipOfficeModel" "size" "I", Cond.fieldLink RX11 244 "ShipOfficeModel" "deep" "I", Cond.methodLink RX11 250 yX11_sum, Cond.instanceMethod yX11_sum, Cond.selects RX11 yX11_sum yX11_sum, Cond.code yX11_sum cX11_sum 4 (some .int), Cond.methodLink RX11 231 yX11_term, Cond.instanceMethod yX11_term, Cond.selects RX11 yX11_term yX11_term, Cond.methodLink RX11 227 yX11_sign, Cond.instanceMethod yX11_sign, Cond.selects RX11 yX11_sign yX11_sign, Cond.code yX11_sign cX11_sign 1 (some .int), Cond.methodLink RX11 234 yX11_held, Cond.static yX11_held, Cond.code yX11_held cX11_held 2 (some .int), Cond.constantLong RX11 219 (1000000000), Cond.constantLong RX11 221 (-1000000000), Cond.code yX11_term cX11_term 4 (some .int), Cond.methodLink RX11 238 yX11_unit, Cond.instanceMethod yX11_unit, Cond.selects RX11 yX11_unit yX11_unit, Cond.code yX11_unit cX11_unit 5 (some .int), Cond.fieldLink RX11 128 "ShipOfficeModel" "letters" "[I"]
def wsX11_act_r3 : List Cond := [Cond.methodLink RX11 241 yX11_isLetter, Cond.static yX11_isLetter, Cond.code yX11_isLetter cX11_isLetter 1 (some .boolean), Cond.methodLink RX11 247 yX11_breaks, Cond.instanceMethod yX11_breaks, Cond.selects RX11 yX11_breaks yX11_breaks, Cond.code yX11_breaks cX11_breaks 1 (some .int), Cond.methodLink RX11 253 yX11_takes, Cond.instanceMethod yX11_takes, Cond.selects RX11 yX11_takes yX11_takes, Cond.code yX11_takes cX11_takes 2 (some .boolean)]
def wsX11_act : List Cond := .code yX11_act cX11_act 7 (some .int) :: ((wsX11_act_r1 ++ (wsX11_act_r2 ++ wsX11_act_r3)) ++ wsX110)
theorem il_X11_act_1 : ∀ w ∈ wsX11_act_r1, w ∈ wsX11_act := fun w h => (List.mem_cons_of_mem _ (List.mem_append_left _ (List.mem_append_left _ h)))
theorem il_X11_act_2 : ∀ w ∈ wsX11_act_r2, w ∈ wsX11_act := fun w h => (List.mem_cons_of_mem _ (List.mem_append_left _ (List.mem_append_right _ (List.mem_append_left _ h))))
theorem il_X11_act_3 : ∀ w ∈ wsX11_act_r3, w ∈ wsX11_act := fun w h => (List.mem_cons_of_mem _ (List.mem_append_left _ (List.mem_append_right _ (List.mem_append_right _ h))))
theorem il_X11_act_4 : ∀ w ∈ wsX110, w ∈ wsX11_act := fun w h => (List.mem_cons_of_mem _ (List.mem_append_right _ h))
theorem iw_X11_act_1 : Cond.fieldLink RX11 171 "ShipOfficeModel" "now" "I" ∈ wsX11_act := (mmI il_X11_act_1 0 rfl)
theorem iw_X11_act_2 : Cond.fieldLink RX11 256 "ShipOfficeModel" "acts" "I" ∈ wsX11_act := (mmI il_X11_act_1 1 rfl)
theorem iw_X11_act_3 : Cond.fieldLink RX11 205 "ShipOfficeModel" "taped" "I" ∈ wsX11_act := (mmI il_X11_act_1 2 rfl)
theorem iw_X11_act_4 : Cond.fieldLink RX11 223 "ShipOfficeModel" "isWell" "Z" ∈ wsX11_act := (mmI il_X11_act_1 3 rfl)
theorem iw_X11_act_5 : Cond.fieldLink RX11 210 "ShipOfficeModel" "at" "I" ∈ wsX11_act := (mmI il_X11_act_1 4 rfl)
theorem iw_X11_act_6 : Cond.fieldLink RX11 58 "ShipOfficeModel" "textSize" "[I" ∈ wsX11_act := (mmI il_X11_act_1 7 rfl)
theorem iw_X11_act_7 : Cond.fieldLink RX11 61 "ShipOfficeModel" "purpose" "[I" ∈ wsX11_act := (mmI il_X11_act_1 8 rfl)
theorem iw_X11_act_8 : Cond.fieldLink RX11 64 "ShipOfficeModel" "from" "[I" ∈ wsX11_act := (mmI il_X11_act_1 9 rfl)
theorem iw_X11_act_9 : Cond.fieldLink RX11 67 "ShipOfficeModel" "text" "[I" ∈ wsX11_act := (mmI il_X11_act_1 5 rfl)
theorem iw_X11_act_10 : Cond.fieldLink RX11 125 "ShipOfficeModel" "tape" "[I" ∈ wsX11_act := (mmI il_X11_act_1 6 rfl)
set_option maxRecDepth 100000 in
theorem ggX11_act_X11_isIn : GoodIn wsX11_act wsX11_isIn := goodIn_sub (mmC (mmI il_X11_act_1 13 rfl) mmN) gw_X11_isIn
set_option maxRecDepth 20000 in
theorem gX11_act_X11_isIn : GoodIn wsX11_act (va_wsS RX11 161 yX11_isIn wsX11_isIn) := goodIn_app (goodIn_of _ (by decide +kernel)) ggX11_act_X11_isIn
set_option maxRecDepth 100000 in
theorem ggX11_act_X11_refuse : GoodIn wsX11_act wsX11_refuse := goodIn_sub (mmC (mmI il_X11_act_1 17 rfl) (mmA (mmC (mmI il_X11_act_1 18 rfl) mmN) il_X11_act_4)) gw_X11_refuse
theorem gX11_act_X11_refuse : GoodIn wsX11_act (wsV RX11 153 RX11 yX11_refuse wsX11_refuse) := goodIn_app (goodIn_sub (mmC (mmI il_X11_act_1 14 rfl) (mmC (mmI il_X11_act_1 15 rfl) (mmC (mmI il_X11_act_1 16 rfl) (mmC (mmI il_X11_act_1 12 rfl) mmN)))) (by decide +kernel)) ggX11_act_X11_refuse
set_option maxRecDepth 100000 in
theorem ggX11_act_X11_goesThrough : GoodIn wsX11_act wsX11_goesThrough := goodIn_sub (mmC (mmI il_X11_act_1 22 rfl) (mmA (mmA (mmC (mmI il_X11_act_1 23 rfl) (mmC (mmI il_X11_act_2 0 rfl) (mmC (mmI il_X11_act_1 4 rfl) (mmC (mmI il_X11_act_2 1 rfl) (mmC (mmI il_X11_act_1 3 rfl) (mmC (mmI il_X11_act_2 2 rfl) (mmC (mmI il_X11_act_2 3 rfl) (mmC (mmI il_X11_act_2 4 rfl) (mmC (mmI il_X11_act_1 12 rfl) (mmC (mmI il_X11_act_2 5 rfl) (mmC (mmI il_X11_act_2 6 rfl) (mmC (mmI il_X11_act_2 7 rfl) (mmC (mmI il_X11_act_2 8 rfl) (mmC (mmI il_X11_act_2 9 rfl) (mmC (mmI il_X11_act_2 10 rfl) (mmC (mmI il_X11_act_2 11 rfl) (mmC (mmI il_X11_act_2 12 rfl) (mmC (mmI il_X11_act_1 6 rfl) (mmC (mmI il_X11_act_1 5 rfl) (mmC (mmI il_X11_act_2 13 rfl) (mmC (mmI il_X11_act_2 14 rfl) (mmC (mmI il_X11_act_2 15 rfl) (mmC (mmI il_X11_act_2 16 rfl) (mmC (mmI il_X11_act_2 17 rfl) mmN)))))))))))))))))))))))) (mmC (mmI il_X11_act_2 18 rfl) (mmC (mmI il_X11_act_2 19 rfl) (mmC (mmI il_X11_act_2 20 rfl) (mmC (mmI il_X11_act_2 21 rfl) (mmC (mmI il_X11_act_2 22 rfl) (mmC (mmI il_X11_act_2 23 rfl) (mmC (mmI il_X11_act_3 0 rfl) (mmC (mmI il_X11_act_3 1 rfl) (mmC (mmI il_X11_act_3 2 rfl) (mmC (mmI il_X11_act_3 3 rfl) (mmC (mmI il_X11_act_3 4 rfl) (mmC (mmI il_X11_act_3 5 rfl) (mmC (mmI il_X11_act_3 6 rfl) (mmC (mmI il_X11_act_3 7 rfl) (mmC (mmI il_X11_act_3 8 rfl) (mmC (mmI il_X11_act_3 9 rfl) (mmC (mmI il_X11_act_3 10 rfl) mmN)))))))))))))))))) il_X11_act_4)) gw_X11_goesThrough
theorem gX11_act_X11_goesThrough : GoodIn wsX11_act (wsV RX11 259 RX11 yX11_goesThrough wsX11_goesThrough) := goodIn_app (goodIn_sub (mmC (mmI il_X11_act_1 19 rfl) (mmC (mmI il_X11_act_1 20 rfl) (mmC (mmI il_X11_act_1 21 rfl) (mmC (mmI il_X11_act_1 12 rfl) mmN)))) (by decide +kernel)) ggX11_act_X11_goesThrough
theorem dX11_act_0 : decode cX11_act 0 = .ok (.iload_n 1, 1) := by decide +kernel
theorem dX11_act_1 : decode cX11_act 1 = .ok (.iconst 5, 1) := by decide +kernel
theorem dX11_act_2 : decode cX11_act 2 = .ok (.invokestatic 161, 3) := by decide +kernel
theorem dX11_act_5 : decode cX11_act 5 = .ok (.ifCond .ne 10, 3) := by decide +kernel
theorem dX11_act_8 : decode cX11_act 8 = .ok (.aload_n 0, 1) := by decide +kernel
theorem dX11_act_9 : decode cX11_act 9 = .ok (.bipush (-2), 2) := by decide +kernel
theorem dX11_act_11 : decode cX11_act 11 = .ok (.invokevirtual 153, 3) := by decide +kernel
theorem dX11_act_14 : decode cX11_act 14 = .ok (.ireturn, 1) := by decide +kernel
theorem dX11_act_15 : decode cX11_act 15 = .ok (.iload_n 2, 1) := by decide +kernel
theorem dX11_act_16 : decode cX11_act 16 = .ok (.aload_n 0, 1) := by decide +kernel
theorem dX11_act_17 : decode cX11_act 17 = .ok (.getfield 171, 3) := by decide +kernel
theorem dX11_act_20 : decode cX11_act 20 = .ok (.if_icmp .ge 10, 3) := by decide +kernel
theorem dX11_act_23 : decode cX11_act 23 = .ok (.aload_n 0, 1) := by decide +kernel
theorem dX11_act_24 : decode cX11_act 24 = .ok (.bipush (-4), 2) := by decide +kernel
theorem dX11_act_26 : decode cX11_act 26 = .ok (.invokevirtual 153, 3) := by decide +kernel
theorem dX11_act_29 : decode cX11_act 29 = .ok (.ireturn, 1) := by decide +kernel
theorem dX11_act_30 : decode cX11_act 30 = .ok (.iload_n 2, 1) := by decide +kernel
theorem dX11_act_31 : decode cX11_act 31 = .ok (.sipush 3000, 3) := by decide +kernel
theorem dX11_act_34 : decode cX11_act 34 = .ok (.if_icmp .gt 12, 3) := by decide +kernel
theorem dX11_act_37 : decode cX11_act 37 = .ok (.aload_n 0, 1) := by decide +kernel
theorem dX11_act_38 : decode cX11_act 38 = .ok (.getfield 256, 3) := by decide +kernel
theorem dX11_act_41 : decode cX11_act 41 = .ok (.bipush 30, 2) := by decide +kernel
theorem dX11_act_43 : decode cX11_act 43 = .ok (.if_icmp .ne 10, 3) := by decide +kernel
theorem dX11_act_46 : decode cX11_act 46 = .ok (.aload_n 0, 1) := by decide +kernel
theorem dX11_act_47 : decode cX11_act 47 = .ok (.bipush (-6), 2) := by decide +kernel
theorem dX11_act_49 : decode cX11_act 49 = .ok (.invokevirtual 153, 3) := by decide +kernel
theorem dX11_act_52 : decode cX11_act 52 = .ok (.ireturn, 1) := by decide +kernel
theorem dX11_act_53 : decode cX11_act 53 = .ok (.aload_n 0, 1) := by decide +kernel
theorem dX11_act_54 : decode cX11_act 54 = .ok (.iconst (-1), 1) := by decide +kernel
theorem dX11_act_55 : decode cX11_act 55 = .ok (.aload_n 0, 1) := by decide +kernel
theorem dX11_act_56 : decode cX11_act 56 = .ok (.getfield 205, 3) := by decide +kernel
theorem dX11_act_59 : decode cX11_act 59 = .ok (.invokevirtual 259, 3) := by decide +kernel
theorem dX11_act_62 : decode cX11_act 62 = .ok (.istore_n 3, 1) := by decide +kernel
theorem dX11_act_63 : decode cX11_act 63 = .ok (.aload_n 0, 1) := by decide +kernel
theorem dX11_act_64 : decode cX11_act 64 = .ok (.getfield 223, 3) := by decide +kernel
theorem dX11_act_67 : decode cX11_act 67 = .ok (.ifCond .eq 18, 3) := by decide +kernel
theorem dX11_act_70 : decode cX11_act 70 = .ok (.aload_n 0, 1) := by decide +kernel
theorem dX11_act_71 : decode cX11_act 71 = .ok (.getfield 210, 3) := by decide +kernel
theorem dX11_act_74 : decode cX11_act 74 = .ok (.aload_n 0, 1) := by decide +kernel
theorem dX11_act_75 : decode cX11_act 75 = .ok (.getfield 205, 3) := by decide +kernel
theorem dX11_act_78 : decode cX11_act 78 = .ok (.if_icmp .ne 7, 3) := by decide +kernel
theorem dX11_act_81 : decode cX11_act 81 = .ok (.iconst 1, 1) := by decide +kernel
theorem dX11_act_82 : decode cX11_act 82 = .ok (.goto 4, 3) := by decide +kernel
theorem dX11_act_85 : decode cX11_act 85 = .ok (.iconst 0, 1) := by decide +kernel
theorem dX11_act_86 : decode cX11_act 86 = .ok (.istore 4, 2) := by decide +kernel
theorem dX11_act_88 : decode cX11_act 88 = .ok (.aload_n 0, 1) := by decide +kernel
theorem dX11_act_89 : decode cX11_act 89 = .ok (.getfield 205, 3) := by decide +kernel
theorem dX11_act_92 : decode cX11_act 92 = .ok (.istore 5, 2) := by decide +kernel
theorem dX11_act_94 : decode cX11_act 94 = .ok (.aload_n 0, 1) := by decide +kernel
theorem dX11_act_95 : decode cX11_act 95 = .ok (.iconst 0, 1) := by decide +kernel
theorem dX11_act_96 : decode cX11_act 96 = .ok (.putfield 205, 3) := by decide +kernel
theorem dX11_act_99 : decode cX11_act 99 = .ok (.iload 4, 2) := by decide +kernel
theorem dX11_act_101 : decode cX11_act 101 = .ok (.ifCond .ne 11, 3) := by decide +kernel
theorem dX11_act_104 : decode cX11_act 104 = .ok (.bipush (-20), 2) := by decide +kernel
theorem dX11_act_106 : decode cX11_act 106 = .ok (.aload_n 0, 1) := by decide +kernel
theorem dX11_act_107 : decode cX11_act 107 = .ok (.getfield 210, 3) := by decide +kernel
theorem dX11_act_110 : decode cX11_act 110 = .ok (.isub, 1) := by decide +kernel
theorem dX11_act_111 : decode cX11_act 111 = .ok (.ireturn, 1) := by decide +kernel
theorem dX11_act_112 : decode cX11_act 112 = .ok (.iconst 0, 1) := by decide +kernel
theorem dX11_act_113 : decode cX11_act 113 = .ok (.istore 6, 2) := by decide +kernel
theorem dX11_act_115 : decode cX11_act 115 = .ok (.iload 6, 2) := by decide +kernel
theorem dX11_act_117 : decode cX11_act 117 = .ok (.iload 5, 2) := by decide +kernel
theorem dX11_act_119 : decode cX11_act 119 = .ok (.if_icmp .ge 31, 3) := by decide +kernel
theorem dX11_act_122 : decode cX11_act 122 = .ok (.aload_n 0, 1) := by decide +kernel
theorem dX11_act_123 : decode cX11_act 123 = .ok (.getfield 67, 3) := by decide +kernel
theorem dX11_act_126 : decode cX11_act 126 = .ok (.bipush 60, 2) := by decide +kernel
theorem dX11_act_128 : decode cX11_act 128 = .ok (.aload_n 0, 1) := by decide +kernel
theorem dX11_act_129 : decode cX11_act 129 = .ok (.getfield 256, 3) := by decide +kernel
theorem dX11_act_132 : decode cX11_act 132 = .ok (.imul, 1) := by decide +kernel
theorem dX11_act_133 : decode cX11_act 133 = .ok (.iload 6, 2) := by decide +kernel
theorem dX11_act_135 : decode cX11_act 135 = .ok (.iadd, 1) := by decide +kernel
theorem dX11_act_136 : decode cX11_act 136 = .ok (.aload_n 0, 1) := by decide +kernel
theorem dX11_act_137 : decode cX11_act 137 = .ok (.getfield 125, 3) := by decide +kernel
theorem dX11_act_140 : decode cX11_act 140 = .ok (.iload 6, 2) := by decide +kernel
theorem dX11_act_142 : decode cX11_act 142 = .ok (.iaload, 1) := by decide +kernel
theorem dX11_act_143 : decode cX11_act 143 = .ok (.iastore, 1) := by decide +kernel
theorem dX11_act_144 : decode cX11_act 144 = .ok (.iinc 6 1, 3) := by decide +kernel
theorem dX11_act_147 : decode cX11_act 147 = .ok (.goto (-32), 3) := by decide +kernel
theorem dX11_act_150 : decode cX11_act 150 = .ok (.aload_n 0, 1) := by decide +kernel
theorem dX11_act_151 : decode cX11_act 151 = .ok (.getfield 58, 3) := by decide +kernel
theorem dX11_act_154 : decode cX11_act 154 = .ok (.aload_n 0, 1) := by decide +kernel
theorem dX11_act_155 : decode cX11_act 155 = .ok (.getfield 256, 3) := by decide +kernel
theorem dX11_act_158 : decode cX11_act 158 = .ok (.iload 5, 2) := by decide +kernel
theorem dX11_act_160 : decode cX11_act 160 = .ok (.iastore, 1) := by decide +kernel
theorem dX11_act_161 : decode cX11_act 161 = .ok (.aload_n 0, 1) := by decide +kernel
theorem dX11_act_162 : decode cX11_act 162 = .ok (.getfield 61, 3) := by decide +kernel
theorem dX11_act_165 : decode cX11_act 165 = .ok (.aload_n 0, 1) := by decide +kernel
theorem dX11_act_166 : decode cX11_act 166 = .ok (.getfield 256, 3) := by decide +kernel
theorem dX11_act_169 : decode cX11_act 169 = .ok (.iload_n 1, 1) := by decide +kernel
theorem dX11_act_170 : decode cX11_act 170 = .ok (.iastore, 1) := by decide +kernel
theorem dX11_act_171 : decode cX11_act 171 = .ok (.aload_n 0, 1) := by decide +kernel
theorem dX11_act_172 : decode cX11_act 172 = .ok (.getfield 64, 3) := by decide +kernel
theorem dX11_act_175 : decode cX11_act 175 = .ok (.aload_n 0, 1) := by decide +kernel
theorem dX11_act_176 : decode cX11_act 176 = .ok (.getfield 256, 3) := by decide +kernel
theorem dX11_act_179 : decode cX11_act 179 = .ok (.iload_n 2, 1) := by decide +kernel
theorem dX11_act_180 : decode cX11_act 180 = .ok (.iastore, 1) := by decide +kernel
theorem dX11_act_181 : decode cX11_act 181 = .ok (.aload_n 0, 1) := by decide +kernel
theorem dX11_act_182 : decode cX11_act 182 = .ok (.dup, 1) := by decide +kernel
theorem dX11_act_183 : decode cX11_act 183 = .ok (.getfield 256, 3) := by decide +kernel
theorem dX11_act_186 : decode cX11_act 186 = .ok (.iconst 1, 1) := by decide +kernel
theorem dX11_act_187 : decode cX11_act 187 = .ok (.iadd, 1) := by decide +kernel
theorem dX11_act_188 : decode cX11_act 188 = .ok (.putfield 256, 3) := by decide +kernel
theorem dX11_act_191 : decode cX11_act 191 = .ok (.aload_n 0, 1) := by decide +kernel
theorem dX11_act_192 : decode cX11_act 192 = .ok (.getfield 256, 3) := by decide +kernel
theorem dX11_act_195 : decode cX11_act 195 = .ok (.ireturn, 1) := by decide +kernel
theorem in_wsX11_act_X11 : ∀ w ∈ wsX110, w ∈ wsX11_act := fun w h => List.mem_cons_of_mem _ (List.mem_append_right _ h)
