abbrev cX11_wayTo : ByteArray := prog_13_method_72_code
def yX11_wayTo : MethodName := ⟨RX11, "wayTo", "(II)I"⟩
abbrev cX11_home : ByteArray := prog_13_method_73_code
def yX11_home : MethodName := ⟨RX11, "home", "(I)I"⟩
def wsX11_wayTo : List Cond := .code yX11_wayTo cX11_wayTo 6 (some .int) :: ([.fieldLink RX11 134 "ShipOfficeModel" "far" "[I", .constant RX11 152 (1000000000), .fieldLink RX11 13 "ShipOfficeModel" "mile" "[I"] ++ wsX110)
theorem gw_X11_wayTo : wsX11_wayTo.all goodWord = true := by decide +kernel
theorem il_X11_wayTo_1 : ∀ w ∈ ([.fieldLink RX11 134 "ShipOfficeModel" "far" "[I", .constant RX11 152 (1000000000), .fieldLink RX11 13 "ShipOfficeModel" "mile" "[I"] : List Cond), w ∈ wsX11_wayTo := fun w h => (List.mem_cons_of_mem _ (List.mem_append_left _ h))
theorem iw_X11_wayTo_1 : Cond.fieldLink RX11 134 "ShipOfficeModel" "far" "[I" ∈ wsX11_wayTo := (mmI il_X11_wayTo_1 0 rfl)
theorem iw_X11_wayTo_2 : Cond.fieldLink RX11 13 "ShipOfficeModel" "mile" "[I" ∈ wsX11_wayTo := (mmI il_X11_wayTo_1 2 rfl)
def wsX11_home_r1 : List Cond := [Cond.fieldLink RX11 168 "ShipOfficeModel" "agreements" "I", Cond.fieldLink RX11 70 "ShipOfficeModel" "man" "[I", Cond.fieldLink RX11 171 "ShipOfficeModel" "now" "I", Cond.fieldLink RX11 52 "ShipOfficeModel" "way" "[I", Cond.fieldLink RX11 55 "ShipOfficeModel" "port" "[I", Cond.fieldLink RX11 34 "ShipOfficeModel" "openPort" "[I", Cond.fieldLink RX11 73 "ShipOfficeModel" "voyage" "[I", Cond.methodLink RX11 297 yX11_isMan, Cond.instanceMethod yX11_isMan, Cond.selects RX11 yX11_isMan yX11_isMan, Cond.initialized RX11, Cond.code yX11_isMan cX11_isMan 2 (some .boolean), Cond.fieldLink RX11 157 "ShipOfficeModel" "men" "I", Cond.methodLink RX11 161 yX11_isIn, Cond.static yX11_isIn, Cond.code yX11_isIn cX11_isIn 2 (some .boolean), Cond.methodLink RX11 153 yX11_refuse, Cond.instanceMethod yX11_refuse, Cond.selects RX11 yX11_refuse yX11_refuse, Cond.code yX11_refuse cX11_refuse 2 (some .int), Cond.fieldLink RX11 7 "ShipOfficeModel" "refusals" "[I", Cond.methodLink RX11 266 yX11_stateOf, Cond.instanceMethod yX11_stateOf, Cond.selects RX11 yX11_stateOf yX11_stateOf]
def wsX11_home_r2 : List Cond := [Cond.code yX11_stateOf cX11_stateOf 5 (some .int), Cond.fieldLink RX11 85 "ShipOfficeModel" "signed" "[I", Cond.fieldLink RX11 88 "ShipOfficeModel" "offOn" "[I", Cond.fieldLink RX11 40 "ShipOfficeModel" "what" "[I", Cond.methodLink RX11 288 yX11_isDead, Cond.instanceMethod yX11_isDead, Cond.selects RX11 yX11_isDead yX11_isDead, Cond.code yX11_isDead cX11_isDead 5 (some .boolean), Cond.fieldLink RX11 179 "ShipOfficeModel" "happened" "I", Cond.fieldLink RX11 43 "ShipOfficeModel" "whose" "[I", Cond.fieldLink RX11 49 "ShipOfficeModel" "known" "[I", Cond.fieldLink RX11 46 "ShipOfficeModel" "day" "[I", Cond.methodLink RX11 291 yX11_whereOf, Cond.instanceMethod yX11_whereOf, Cond.selects RX11 yX11_whereOf yX11_whereOf, Cond.code yX11_whereOf cX11_whereOf 6 (some .int), Cond.methodLink RX11 281 yX11_hasSailed, Cond.instanceMethod yX11_hasSailed, Cond.selects RX11 yX11_hasSailed yX11_hasSailed, Cond.code yX11_hasSailed cX11_hasSailed 5 (some .boolean), Cond.methodLink RX11 278 yX11_sailedOn, Cond.instanceMethod yX11_sailedOn, Cond.selects RX11 yX11_sailedOn yX11_sailedOn, Cond.code yX11_sailedOn cX11_sailedOn 4 (some .int)]
def wsX11_home_r3 : List Cond := [Cond.methodLink RX11 294 yX11_isUnknown, Cond.instanceMethod yX11_isUnknown, Cond.selects RX11 yX11_isUnknown yX11_isUnknown, Cond.code yX11_isUnknown cX11_isUnknown 4 (some .boolean), Cond.methodLink RX11 275 yX11_bare, Cond.instanceMethod yX11_bare, Cond.selects RX11 yX11_bare yX11_bare, Cond.code yX11_bare cX11_bare 2 none, Cond.fieldLink RX11 128 "ShipOfficeModel" "letters" "[I", Cond.methodLink RX11 272 yX11_lastHeard, Cond.instanceMethod yX11_lastHeard, Cond.selects RX11 yX11_lastHeard yX11_lastHeard, Cond.code yX11_lastHeard cX11_lastHeard 6 (some .int), Cond.methodLink RX11 285 yX11_worth, Cond.instanceMethod yX11_worth, Cond.selects RX11 yX11_worth yX11_worth, Cond.code yX11_worth cX11_worth 4 (some .int), Cond.fieldLink RX11 58 "ShipOfficeModel" "textSize" "[I", Cond.methodLink RX11 263 yX11_actOn, Cond.instanceMethod yX11_actOn, Cond.selects RX11 yX11_actOn yX11_actOn, Cond.code yX11_actOn cX11_actOn 5 (some .int), Cond.fieldLink RX11 256 "ShipOfficeModel" "acts" "I", Cond.fieldLink RX11 61 "ShipOfficeModel" "purpose" "[I"]
def wsX11_home_r4 : List Cond := [Cond.fieldLink RX11 64 "ShipOfficeModel" "from" "[I", Cond.methodLink RX11 259 yX11_goesThrough, Cond.instanceMethod yX11_goesThrough, Cond.selects RX11 yX11_goesThrough yX11_goesThrough, Cond.code yX11_goesThrough cX11_goesThrough 3 (some .int), Cond.fieldLink RX11 216 "ShipOfficeModel" "base" "I", Cond.fieldLink RX11 213 "ShipOfficeModel" "size" "I", Cond.fieldLink RX11 210 "ShipOfficeModel" "at" "I", Cond.fieldLink RX11 244 "ShipOfficeModel" "deep" "I", Cond.fieldLink RX11 223 "ShipOfficeModel" "isWell" "Z", Cond.methodLink RX11 250 yX11_sum, Cond.instanceMethod yX11_sum, Cond.selects RX11 yX11_sum yX11_sum, Cond.code yX11_sum cX11_sum 4 (some .int), Cond.methodLink RX11 231 yX11_term, Cond.instanceMethod yX11_term, Cond.selects RX11 yX11_term yX11_term, Cond.methodLink RX11 227 yX11_sign, Cond.instanceMethod yX11_sign, Cond.selects RX11 yX11_sign yX11_sign, Cond.code yX11_sign cX11_sign 1 (some .int), Cond.fieldLink RX11 125 "ShipOfficeModel" "tape" "[I", Cond.fieldLink RX11 67 "ShipOfficeModel" "text" "[I", Cond.methodLink RX11 234 yX11_held]
def wsX11_home_r5 : List Cond := [Cond.static yX11_held, Cond.code yX11_held cX11_held 2 (some .int), Cond.constantLong RX11 219 (1000000000), Cond.constantLong RX11 221 (-1000000000), Cond.code yX11_term cX11_term 4 (some .int), Cond.methodLink RX11 238 yX11_unit, Cond.instanceMethod yX11_unit, Cond.selects RX11 yX11_unit yX11_unit, Cond.code yX11_unit cX11_unit 5 (some .int), Cond.methodLink RX11 241 yX11_isLetter, Cond.static yX11_isLetter, Cond.code yX11_isLetter cX11_isLetter 1 (some .boolean), Cond.methodLink RX11 247 yX11_breaks, Cond.instanceMethod yX11_breaks, Cond.selects RX11 yX11_breaks yX11_breaks, Cond.code yX11_breaks cX11_breaks 1 (some .int), Cond.methodLink RX11 253 yX11_takes, Cond.instanceMethod yX11_takes, Cond.selects RX11 yX11_takes yX11_takes, Cond.code yX11_takes cX11_takes 2 (some .boolean), Cond.methodLink RX11 335 yX11_wayTo, Cond.instanceMethod yX11_wayTo, Cond.selects RX11 yX11_wayTo yX11_wayTo, Cond.code yX11_wayTo cX11_wayTo 6 (some .int)]
def wsX11_home_r6 : List Cond := [Cond.fieldLink RX11 134 "ShipOfficeModel" "far" "[I", Cond.constant RX11 152 (1000000000), Cond.fieldLink RX11 13 "ShipOfficeModel" "mile" "[I"]
def wsX11_home : List Cond := .code yX11_home cX11_home 4 (some .int) :: ((wsX11_home_r1 ++ (wsX11_home_r2 ++ (wsX11_home_r3 ++ (wsX11_home_r4 ++ (wsX11_home_r5 ++ wsX11_home_r6))))) ++ wsX110)
theorem il_X11_home_1 : ∀ w ∈ wsX11_home_r1, w ∈ wsX11_home := fun w h => (List.mem_cons_of_mem _ (List.mem_append_left _ (List.mem_append_left _ h)))
theorem il_X11_home_2 : ∀ w ∈ wsX11_home_r2, w ∈ wsX11_home := fun w h => (List.mem_cons_of_mem _ (List.mem_append_left _ (List.mem_append_right _ (List.mem_append_left _ h))))
theorem il_X11_home_3 : ∀ w ∈ wsX11_home_r3, w ∈ wsX11_home := fun w h => (List.mem_cons_of_mem _ (List.mem_append_left _ (List.mem_append_right _ (List.mem_append_right _ (List.mem_append_left _ h)))))
theorem il_X11_home_4 : ∀ w ∈ wsX11_home_r4, w ∈ wsX11_home := fun w h => (List.mem_cons_of_mem _ (List.mem_append_left _ (List.mem_append_right _ (List.mem_append_right _ (List.mem_append_right _ (List.mem_append_left _ h))))))
theorem il_X11_home_5 : ∀ w ∈ wsX11_home_r5, w ∈ wsX11_home := fun w h => (List.mem_cons_of_mem _ (List.mem_append_left _ (List.mem_append_right _ (List.mem_append_right _ (List.mem_append_right _ (List.mem_append_right _ (List.mem_append_left _ h)))))))
theorem il_X11_home_6 : ∀ w ∈ wsX11_home_r6, w ∈ wsX11_home := fun w h => (List.mem_cons_of_mem _ (List.mem_append_left _ (List.mem_append_right _ (List.mem_append_right _ (List.mem_append_right _ (List.mem_append_right _ (List.mem_append_right _ h)))))))
theorem il_X11_home_7 : ∀ w ∈ wsX110, w ∈ wsX11_home := fun w h => (List.mem_cons_of_mem _ (List.mem_append_right _ h))
theorem iw_X11_home_1 : Cond.fieldLink RX11 168 "ShipOfficeModel" "agreements" "I" ∈ wsX11_home := (mmI il_X11_home_1 0 rfl)
theorem iw_X11_home_2 : Cond.fieldLink RX11 70 "ShipOfficeModel" "man" "[I" ∈ wsX11_home := (mmI il_X11_home_1 1 rfl)
theorem iw_X11_home_3 : Cond.fieldLink RX11 171 "ShipOfficeModel" "now" "I" ∈ wsX11_home := (mmI il_X11_home_1 2 rfl)
theorem iw_X11_home_4 : Cond.fieldLink RX11 52 "ShipOfficeModel" "way" "[I" ∈ wsX11_home := (mmI il_X11_home_1 3 rfl)
theorem iw_X11_home_5 : Cond.fieldLink RX11 55 "ShipOfficeModel" "port" "[I" ∈ wsX11_home := (mmI il_X11_home_1 4 rfl)
theorem iw_X11_home_6 : Cond.fieldLink RX11 34 "ShipOfficeModel" "openPort" "[I" ∈ wsX11_home := (mmI il_X11_home_1 5 rfl)
theorem iw_X11_home_7 : Cond.fieldLink RX11 73 "ShipOfficeModel" "voyage" "[I" ∈ wsX11_home := (mmI il_X11_home_1 6 rfl)
theorem dX11_wayTo_0 : decode cX11_wayTo 0 = .ok (.iconst 0, 1) := by decide +kernel
theorem dX11_wayTo_1 : decode cX11_wayTo 1 = .ok (.istore_n 3, 1) := by decide +kernel
theorem dX11_wayTo_2 : decode cX11_wayTo 2 = .ok (.iload_n 3, 1) := by decide +kernel
theorem dX11_wayTo_3 : decode cX11_wayTo 3 = .ok (.bipush 10, 2) := by decide +kernel
theorem dX11_wayTo_5 : decode cX11_wayTo 5 = .ok (.if_icmp .ge 26, 3) := by decide +kernel
theorem dX11_wayTo_8 : decode cX11_wayTo 8 = .ok (.aload_n 0, 1) := by decide +kernel
theorem dX11_wayTo_9 : decode cX11_wayTo 9 = .ok (.getfield 134, 3) := by decide +kernel
theorem dX11_wayTo_12 : decode cX11_wayTo 12 = .ok (.iload_n 3, 1) := by decide +kernel
theorem dX11_wayTo_13 : decode cX11_wayTo 13 = .ok (.iload_n 3, 1) := by decide +kernel
theorem dX11_wayTo_14 : decode cX11_wayTo 14 = .ok (.iload_n 1, 1) := by decide +kernel
theorem dX11_wayTo_15 : decode cX11_wayTo 15 = .ok (.if_icmp .ne 7, 3) := by decide +kernel
theorem dX11_wayTo_18 : decode cX11_wayTo 18 = .ok (.iconst 0, 1) := by decide +kernel
theorem dX11_wayTo_19 : decode cX11_wayTo 19 = .ok (.goto 5, 3) := by decide +kernel
theorem dX11_wayTo_22 : decode cX11_wayTo 22 = .ok (.ldc 152, 2) := by decide +kernel
theorem dX11_wayTo_24 : decode cX11_wayTo 24 = .ok (.iastore, 1) := by decide +kernel
theorem dX11_wayTo_25 : decode cX11_wayTo 25 = .ok (.iinc 3 1, 3) := by decide +kernel
theorem dX11_wayTo_28 : decode cX11_wayTo 28 = .ok (.goto (-26), 3) := by decide +kernel
theorem dX11_wayTo_31 : decode cX11_wayTo 31 = .ok (.iconst 0, 1) := by decide +kernel
theorem dX11_wayTo_32 : decode cX11_wayTo 32 = .ok (.istore_n 3, 1) := by decide +kernel
theorem dX11_wayTo_33 : decode cX11_wayTo 33 = .ok (.iload_n 3, 1) := by decide +kernel
theorem dX11_wayTo_34 : decode cX11_wayTo 34 = .ok (.bipush 10, 2) := by decide +kernel
theorem dX11_wayTo_36 : decode cX11_wayTo 36 = .ok (.if_icmp .ge 128, 3) := by decide +kernel
theorem dX11_wayTo_39 : decode cX11_wayTo 39 = .ok (.iconst 0, 1) := by decide +kernel
theorem dX11_wayTo_40 : decode cX11_wayTo 40 = .ok (.istore 4, 2) := by decide +kernel
theorem dX11_wayTo_42 : decode cX11_wayTo 42 = .ok (.iload 4, 2) := by decide +kernel
theorem dX11_wayTo_44 : decode cX11_wayTo 44 = .ok (.bipush 10, 2) := by decide +kernel
theorem dX11_wayTo_46 : decode cX11_wayTo 46 = .ok (.if_icmp .ge 112, 3) := by decide +kernel
theorem dX11_wayTo_49 : decode cX11_wayTo 49 = .ok (.iconst 0, 1) := by decide +kernel
theorem dX11_wayTo_50 : decode cX11_wayTo 50 = .ok (.istore 5, 2) := by decide +kernel
theorem dX11_wayTo_52 : decode cX11_wayTo 52 = .ok (.iload 5, 2) := by decide +kernel
theorem dX11_wayTo_54 : decode cX11_wayTo 54 = .ok (.bipush 10, 2) := by decide +kernel
theorem dX11_wayTo_56 : decode cX11_wayTo 56 = .ok (.if_icmp .ge 96, 3) := by decide +kernel
theorem dX11_wayTo_59 : decode cX11_wayTo 59 = .ok (.aload_n 0, 1) := by decide +kernel
theorem dX11_wayTo_60 : decode cX11_wayTo 60 = .ok (.getfield 13, 3) := by decide +kernel
theorem dX11_wayTo_63 : decode cX11_wayTo 63 = .ok (.bipush 10, 2) := by decide +kernel
theorem dX11_wayTo_65 : decode cX11_wayTo 65 = .ok (.iload 4, 2) := by decide +kernel
theorem dX11_wayTo_67 : decode cX11_wayTo 67 = .ok (.imul, 1) := by decide +kernel
theorem dX11_wayTo_68 : decode cX11_wayTo 68 = .ok (.iload 5, 2) := by decide +kernel
theorem dX11_wayTo_70 : decode cX11_wayTo 70 = .ok (.iadd, 1) := by decide +kernel
theorem dX11_wayTo_71 : decode cX11_wayTo 71 = .ok (.iaload, 1) := by decide +kernel
theorem dX11_wayTo_72 : decode cX11_wayTo 72 = .ok (.ifCond .le 74, 3) := by decide +kernel
theorem dX11_wayTo_75 : decode cX11_wayTo 75 = .ok (.aload_n 0, 1) := by decide +kernel
theorem dX11_wayTo_76 : decode cX11_wayTo 76 = .ok (.getfield 134, 3) := by decide +kernel
theorem dX11_wayTo_79 : decode cX11_wayTo 79 = .ok (.iload 4, 2) := by decide +kernel
theorem dX11_wayTo_81 : decode cX11_wayTo 81 = .ok (.iaload, 1) := by decide +kernel
theorem dX11_wayTo_82 : decode cX11_wayTo 82 = .ok (.ldc 152, 2) := by decide +kernel
theorem dX11_wayTo_84 : decode cX11_wayTo 84 = .ok (.if_icmp .ge 62, 3) := by decide +kernel
theorem dX11_wayTo_87 : decode cX11_wayTo 87 = .ok (.aload_n 0, 1) := by decide +kernel
theorem dX11_wayTo_88 : decode cX11_wayTo 88 = .ok (.getfield 134, 3) := by decide +kernel
theorem dX11_wayTo_91 : decode cX11_wayTo 91 = .ok (.iload 4, 2) := by decide +kernel
theorem dX11_wayTo_93 : decode cX11_wayTo 93 = .ok (.iaload, 1) := by decide +kernel
theorem dX11_wayTo_94 : decode cX11_wayTo 94 = .ok (.aload_n 0, 1) := by decide +kernel
theorem dX11_wayTo_95 : decode cX11_wayTo 95 = .ok (.getfield 13, 3) := by decide +kernel
theorem dX11_wayTo_98 : decode cX11_wayTo 98 = .ok (.bipush 10, 2) := by decide +kernel
theorem dX11_wayTo_100 : decode cX11_wayTo 100 = .ok (.iload 4, 2) := by decide +kernel
theorem dX11_wayTo_102 : decode cX11_wayTo 102 = .ok (.imul, 1) := by decide +kernel
theorem dX11_wayTo_103 : decode cX11_wayTo 103 = .ok (.iload 5, 2) := by decide +kernel
theorem dX11_wayTo_105 : decode cX11_wayTo 105 = .ok (.iadd, 1) := by decide +kernel
theorem dX11_wayTo_106 : decode cX11_wayTo 106 = .ok (.iaload, 1) := by decide +kernel
theorem dX11_wayTo_107 : decode cX11_wayTo 107 = .ok (.iadd, 1) := by decide +kernel
theorem dX11_wayTo_108 : decode cX11_wayTo 108 = .ok (.aload_n 0, 1) := by decide +kernel
theorem dX11_wayTo_109 : decode cX11_wayTo 109 = .ok (.getfield 134, 3) := by decide +kernel
theorem dX11_wayTo_112 : decode cX11_wayTo 112 = .ok (.iload 5, 2) := by decide +kernel
theorem dX11_wayTo_114 : decode cX11_wayTo 114 = .ok (.iaload, 1) := by decide +kernel
theorem dX11_wayTo_115 : decode cX11_wayTo 115 = .ok (.if_icmp .ge 31, 3) := by decide +kernel
theorem dX11_wayTo_118 : decode cX11_wayTo 118 = .ok (.aload_n 0, 1) := by decide +kernel
theorem dX11_wayTo_119 : decode cX11_wayTo 119 = .ok (.getfield 134, 3) := by decide +kernel
theorem dX11_wayTo_122 : decode cX11_wayTo 122 = .ok (.iload 5, 2) := by decide +kernel
theorem dX11_wayTo_124 : decode cX11_wayTo 124 = .ok (.aload_n 0, 1) := by decide +kernel
theorem dX11_wayTo_125 : decode cX11_wayTo 125 = .ok (.getfield 134, 3) := by decide +kernel
theorem dX11_wayTo_128 : decode cX11_wayTo 128 = .ok (.iload 4, 2) := by decide +kernel
theorem dX11_wayTo_130 : decode cX11_wayTo 130 = .ok (.iaload, 1) := by decide +kernel
theorem dX11_wayTo_131 : decode cX11_wayTo 131 = .ok (.aload_n 0, 1) := by decide +kernel
theorem dX11_wayTo_132 : decode cX11_wayTo 132 = .ok (.getfield 13, 3) := by decide +kernel
theorem dX11_wayTo_135 : decode cX11_wayTo 135 = .ok (.bipush 10, 2) := by decide +kernel
theorem dX11_wayTo_137 : decode cX11_wayTo 137 = .ok (.iload 4, 2) := by decide +kernel
theorem dX11_wayTo_139 : decode cX11_wayTo 139 = .ok (.imul, 1) := by decide +kernel
theorem dX11_wayTo_140 : decode cX11_wayTo 140 = .ok (.iload 5, 2) := by decide +kernel
theorem dX11_wayTo_142 : decode cX11_wayTo 142 = .ok (.iadd, 1) := by decide +kernel
theorem dX11_wayTo_143 : decode cX11_wayTo 143 = .ok (.iaload, 1) := by decide +kernel
theorem dX11_wayTo_144 : decode cX11_wayTo 144 = .ok (.iadd, 1) := by decide +kernel
theorem dX11_wayTo_145 : decode cX11_wayTo 145 = .ok (.iastore, 1) := by decide +kernel
theorem dX11_wayTo_146 : decode cX11_wayTo 146 = .ok (.iinc 5 1, 3) := by decide +kernel
theorem dX11_wayTo_149 : decode cX11_wayTo 149 = .ok (.goto (-97), 3) := by decide +kernel
theorem dX11_wayTo_152 : decode cX11_wayTo 152 = .ok (.iinc 4 1, 3) := by decide +kernel
theorem dX11_wayTo_155 : decode cX11_wayTo 155 = .ok (.goto (-113), 3) := by decide +kernel
theorem dX11_wayTo_158 : decode cX11_wayTo 158 = .ok (.iinc 3 1, 3) := by decide +kernel
theorem dX11_wayTo_161 : decode cX11_wayTo 161 = .ok (.goto (-128), 3) := by decide +kernel
theorem dX11_wayTo_164 : decode cX11_wayTo 164 = .ok (.aload_n 0, 1) := by decide +kernel
theorem dX11_wayTo_165 : decode cX11_wayTo 165 = .ok (.getfield 134, 3) := by decide +kernel
theorem dX11_wayTo_168 : decode cX11_wayTo 168 = .ok (.iload_n 2, 1) := by decide +kernel
theorem dX11_wayTo_169 : decode cX11_wayTo 169 = .ok (.iaload, 1) := by decide +kernel
theorem dX11_wayTo_170 : decode cX11_wayTo 170 = .ok (.ldc 152, 2) := by decide +kernel
theorem dX11_wayTo_172 : decode cX11_wayTo 172 = .ok (.if_icmp .ne 8, 3) := by decide +kernel
theorem dX11_wayTo_175 : decode cX11_wayTo 175 = .ok (.bipush (-9), 2) := by decide +kernel
theorem dX11_wayTo_177 : decode cX11_wayTo 177 = .ok (.goto 9, 3) := by decide +kernel
theorem dX11_wayTo_180 : decode cX11_wayTo 180 = .ok (.aload_n 0, 1) := by decide +kernel
theorem dX11_wayTo_181 : decode cX11_wayTo 181 = .ok (.getfield 134, 3) := by decide +kernel
theorem dX11_wayTo_184 : decode cX11_wayTo 184 = .ok (.iload_n 2, 1) := by decide +kernel
theorem dX11_wayTo_185 : decode cX11_wayTo 185 = .ok (.iaload, 1) := by decide +kernel
theorem dX11_wayTo_186 : decode cX11_wayTo 186 = .ok (.ireturn, 1) := by decide +kernel
set_option maxRecDepth 100000 in
theorem ggX11_home_X11_isMan : GoodIn wsX11_home wsX11_isMan := goodIn_sub (mmC (mmI il_X11_home_1 11 rfl) (mmA (mmC (mmI il_X11_home_1 12 rfl) (mmC (mmI il_X11_home_1 13 rfl) (mmC (mmI il_X11_home_1 14 rfl) (mmC (mmI il_X11_home_1 10 rfl) (mmC (mmI il_X11_home_1 15 rfl) mmN))))) il_X11_home_7)) gw_X11_isMan
theorem gX11_home_X11_isMan : GoodIn wsX11_home (wsV RX11 297 RX11 yX11_isMan wsX11_isMan) := goodIn_app (goodIn_sub (mmC (mmI il_X11_home_1 7 rfl) (mmC (mmI il_X11_home_1 8 rfl) (mmC (mmI il_X11_home_1 9 rfl) (mmC (mmI il_X11_home_1 10 rfl) mmN)))) (by decide +kernel)) ggX11_home_X11_isMan
set_option maxRecDepth 100000 in
theorem ggX11_home_X11_refuse : GoodIn wsX11_home wsX11_refuse := goodIn_sub (mmC (mmI il_X11_home_1 19 rfl) (mmA (mmC (mmI il_X11_home_1 20 rfl) mmN) il_X11_home_7)) gw_X11_refuse
theorem gX11_home_X11_refuse : GoodIn wsX11_home (wsV RX11 153 RX11 yX11_refuse wsX11_refuse) := goodIn_app (goodIn_sub (mmC (mmI il_X11_home_1 16 rfl) (mmC (mmI il_X11_home_1 17 rfl) (mmC (mmI il_X11_home_1 18 rfl) (mmC (mmI il_X11_home_1 10 rfl) mmN)))) (by decide +kernel)) ggX11_home_X11_refuse
set_option maxRecDepth 100000 in
theorem ggX11_home_X11_stateOf : GoodIn wsX11_home wsX11_stateOf := goodIn_sub (mmC (mmI il_X11_home_2 0 rfl) (mmA (mmA (mmC (mmI il_X11_home_2 1 rfl) (mmC (mmI il_X11_home_2 2 rfl) (mmC (mmI il_X11_home_2 3 rfl) (mmC (mmI il_X11_home_1 6 rfl) (mmC (mmI il_X11_home_2 4 rfl) (mmC (mmI il_X11_home_2 5 rfl) (mmC (mmI il_X11_home_2 6 rfl) (mmC (mmI il_X11_home_1 10 rfl) (mmC (mmI il_X11_home_2 7 rfl) (mmC (mmI il_X11_home_2 8 rfl) (mmC (mmI il_X11_home_2 9 rfl) (mmC (mmI il_X11_home_2 10 rfl) (mmC (mmI il_X11_home_2 11 rfl) (mmC (mmI il_X11_home_2 12 rfl) (mmC (mmI il_X11_home_2 13 rfl) (mmC (mmI il_X11_home_2 14 rfl) (mmC (mmI il_X11_home_2 15 rfl) (mmC (mmI il_X11_home_2 16 rfl) (mmC (mmI il_X11_home_2 17 rfl) (mmC (mmI il_X11_home_2 18 rfl) (mmC (mmI il_X11_home_2 19 rfl) (mmC (mmI il_X11_home_2 20 rfl) (mmC (mmI il_X11_home_2 21 rfl) (mmC (mmI il_X11_home_2 22 rfl) mmN)))))))))))))))))))))))) (mmA (mmC (mmI il_X11_home_2 23 rfl) (mmC (mmI il_X11_home_3 0 rfl) (mmC (mmI il_X11_home_3 1 rfl) (mmC (mmI il_X11_home_3 2 rfl) (mmC (mmI il_X11_home_3 3 rfl) (mmC (mmI il_X11_home_3 4 rfl) (mmC (mmI il_X11_home_3 5 rfl) (mmC (mmI il_X11_home_3 6 rfl) (mmC (mmI il_X11_home_3 7 rfl) (mmC (mmI il_X11_home_3 8 rfl) (mmC (mmI il_X11_home_3 9 rfl) (mmC (mmI il_X11_home_3 10 rfl) (mmC (mmI il_X11_home_3 11 rfl) (mmC (mmI il_X11_home_3 12 rfl) (mmC (mmI il_X11_home_3 13 rfl) (mmC (mmI il_X11_home_3 14 rfl) (mmC (mmI il_X11_home_3 15 rfl) (mmC (mmI il_X11_home_3 16 rfl) (mmC (mmI il_X11_home_3 17 rfl) (mmC (mmI il_X11_home_3 18 rfl) (mmC (mmI il_X11_home_3 19 rfl) (mmC (mmI il_X11_home_3 20 rfl) (mmC (mmI il_X11_home_3 21 rfl) (mmC (mmI il_X11_home_3 22 rfl) mmN)))))))))))))))))))))))) (mmA (mmC (mmI il_X11_home_3 23 rfl) (mmC (mmI il_X11_home_4 0 rfl) (mmC (mmI il_X11_home_4 1 rfl) (mmC (mmI il_X11_home_4 2 rfl) (mmC (mmI il_X11_home_4 3 rfl) (mmC (mmI il_X11_home_4 4 rfl) (mmC (mmI il_X11_home_4 5 rfl) (mmC (mmI il_X11_home_4 6 rfl) (mmC (mmI il_X11_home_4 7 rfl) (mmC (mmI il_X11_home_4 8 rfl) (mmC (mmI il_X11_home_4 9 rfl) (mmC (mmI il_X11_home_4 10 rfl) (mmC (mmI il_X11_home_4 11 rfl) (mmC (mmI il_X11_home_4 12 rfl) (mmC (mmI il_X11_home_4 13 rfl) (mmC (mmI il_X11_home_4 14 rfl) (mmC (mmI il_X11_home_4 15 rfl) (mmC (mmI il_X11_home_4 16 rfl) (mmC (mmI il_X11_home_4 17 rfl) (mmC (mmI il_X11_home_4 18 rfl) (mmC (mmI il_X11_home_4 19 rfl) (mmC (mmI il_X11_home_4 20 rfl) (mmC (mmI il_X11_home_4 21 rfl) (mmC (mmI il_X11_home_4 22 rfl) mmN)))))))))))))))))))))))) (mmC (mmI il_X11_home_4 23 rfl) (mmC (mmI il_X11_home_5 0 rfl) (mmC (mmI il_X11_home_5 1 rfl) (mmC (mmI il_X11_home_5 2 rfl) (mmC (mmI il_X11_home_5 3 rfl) (mmC (mmI il_X11_home_5 4 rfl) (mmC (mmI il_X11_home_5 5 rfl) (mmC (mmI il_X11_home_5 6 rfl) (mmC (mmI il_X11_home_5 7 rfl) (mmC (mmI il_X11_home_5 8 rfl) (mmC (mmI il_X11_home_5 9 rfl) (mmC (mmI il_X11_home_5 10 rfl) (mmC (mmI il_X11_home_5 11 rfl) (mmC (mmI il_X11_home_5 12 rfl) (mmC (mmI il_X11_home_5 13 rfl) (mmC (mmI il_X11_home_5 14 rfl) (mmC (mmI il_X11_home_5 15 rfl) (mmC (mmI il_X11_home_5 16 rfl) (mmC (mmI il_X11_home_5 17 rfl) (mmC (mmI il_X11_home_5 18 rfl) (mmC (mmI il_X11_home_5 19 rfl) mmN)))))))))))))))))))))))) il_X11_home_7)) gw_X11_stateOf
theorem gX11_home_X11_stateOf : GoodIn wsX11_home (wsV RX11 266 RX11 yX11_stateOf wsX11_stateOf) := goodIn_app (goodIn_sub (mmC (mmI il_X11_home_1 21 rfl) (mmC (mmI il_X11_home_1 22 rfl) (mmC (mmI il_X11_home_1 23 rfl) (mmC (mmI il_X11_home_1 10 rfl) mmN)))) (by decide +kernel)) ggX11_home_X11_stateOf
set_option maxRecDepth 100000 in
theorem ggX11_home_X11_whereOf : GoodIn wsX11_home wsX11_whereOf := goodIn_sub (mmC (mmI il_X11_home_2 15 rfl) (mmA (mmC (mmI il_X11_home_2 8 rfl) (mmC (mmI il_X11_home_2 3 rfl) (mmC (mmI il_X11_home_2 9 rfl) (mmC (mmI il_X11_home_2 10 rfl) (mmC (mmI il_X11_home_2 11 rfl) mmN))))) il_X11_home_7)) gw_X11_whereOf
theorem gX11_home_X11_whereOf : GoodIn wsX11_home (wsV RX11 291 RX11 yX11_whereOf wsX11_whereOf) := goodIn_app (goodIn_sub (mmC (mmI il_X11_home_2 12 rfl) (mmC (mmI il_X11_home_2 13 rfl) (mmC (mmI il_X11_home_2 14 rfl) (mmC (mmI il_X11_home_1 10 rfl) mmN)))) (by decide +kernel)) ggX11_home_X11_whereOf
set_option maxRecDepth 100000 in
theorem ggX11_home_X11_wayTo : GoodIn wsX11_home wsX11_wayTo := goodIn_sub (mmC (mmI il_X11_home_5 23 rfl) (mmA (mmC (mmI il_X11_home_6 0 rfl) (mmC (mmI il_X11_home_6 1 rfl) (mmC (mmI il_X11_home_6 2 rfl) mmN))) il_X11_home_7)) gw_X11_wayTo
theorem gX11_home_X11_wayTo : GoodIn wsX11_home (wsV RX11 335 RX11 yX11_wayTo wsX11_wayTo) := goodIn_app (goodIn_sub (mmC (mmI il_X11_home_5 20 rfl) (mmC (mmI il_X11_home_5 21 rfl) (mmC (mmI il_X11_home_5 22 rfl) (mmC (mmI il_X11_home_1 10 rfl) mmN)))) (by decide +kernel)) ggX11_home_X11_wayTo
theorem dX11_home_0 : decode cX11_home 0 = .ok (.aload_n 0, 1) := by decide +kernel
theorem dX11_home_1 : decode cX11_home 1 = .ok (.iload_n 1, 1) := by decide +kernel
theorem dX11_home_2 : decode cX11_home 2 = .ok (.invokevirtual 297, 3) := by decide +kernel
theorem dX11_home_5 : decode cX11_home 5 = .ok (.ifCond .ne 9, 3) := by decide +kernel
theorem dX11_home_8 : decode cX11_home 8 = .ok (.aload_n 0, 1) := by decide +kernel
theorem dX11_home_9 : decode cX11_home 9 = .ok (.iconst (-1), 1) := by decide +kernel
theorem dX11_home_10 : decode cX11_home 10 = .ok (.invokevirtual 153, 3) := by decide +kernel
theorem dX11_home_13 : decode cX11_home 13 = .ok (.ireturn, 1) := by decide +kernel
theorem dX11_home_14 : decode cX11_home 14 = .ok (.iconst 0, 1) := by decide +kernel
theorem dX11_home_15 : decode cX11_home 15 = .ok (.istore_n 2, 1) := by decide +kernel
theorem dX11_home_16 : decode cX11_home 16 = .ok (.iload_n 2, 1) := by decide +kernel
theorem dX11_home_17 : decode cX11_home 17 = .ok (.aload_n 0, 1) := by decide +kernel
theorem dX11_home_18 : decode cX11_home 18 = .ok (.getfield 168, 3) := by decide +kernel
theorem dX11_home_21 : decode cX11_home 21 = .ok (.if_icmp .ge 85, 3) := by decide +kernel
theorem dX11_home_24 : decode cX11_home 24 = .ok (.aload_n 0, 1) := by decide +kernel
theorem dX11_home_25 : decode cX11_home 25 = .ok (.getfield 70, 3) := by decide +kernel
theorem dX11_home_28 : decode cX11_home 28 = .ok (.iload_n 2, 1) := by decide +kernel
theorem dX11_home_29 : decode cX11_home 29 = .ok (.iaload, 1) := by decide +kernel
theorem dX11_home_30 : decode cX11_home 30 = .ok (.iload_n 1, 1) := by decide +kernel
theorem dX11_home_31 : decode cX11_home 31 = .ok (.if_icmp .ne 69, 3) := by decide +kernel
theorem dX11_home_34 : decode cX11_home 34 = .ok (.aload_n 0, 1) := by decide +kernel
theorem dX11_home_35 : decode cX11_home 35 = .ok (.iload_n 2, 1) := by decide +kernel
theorem dX11_home_36 : decode cX11_home 36 = .ok (.aload_n 0, 1) := by decide +kernel
theorem dX11_home_37 : decode cX11_home 37 = .ok (.getfield 171, 3) := by decide +kernel
theorem dX11_home_40 : decode cX11_home 40 = .ok (.aload_n 0, 1) := by decide +kernel
theorem dX11_home_41 : decode cX11_home 41 = .ok (.getfield 171, 3) := by decide +kernel
theorem dX11_home_44 : decode cX11_home 44 = .ok (.invokevirtual 266, 3) := by decide +kernel
theorem dX11_home_47 : decode cX11_home 47 = .ok (.iconst 3, 1) := by decide +kernel
theorem dX11_home_48 : decode cX11_home 48 = .ok (.if_icmp .eq 6, 3) := by decide +kernel
theorem dX11_home_51 : decode cX11_home 51 = .ok (.goto 49, 3) := by decide +kernel
theorem dX11_home_54 : decode cX11_home 54 = .ok (.aload_n 0, 1) := by decide +kernel
theorem dX11_home_55 : decode cX11_home 55 = .ok (.iload_n 2, 1) := by decide +kernel
theorem dX11_home_56 : decode cX11_home 56 = .ok (.aload_n 0, 1) := by decide +kernel
theorem dX11_home_57 : decode cX11_home 57 = .ok (.getfield 171, 3) := by decide +kernel
theorem dX11_home_60 : decode cX11_home 60 = .ok (.aload_n 0, 1) := by decide +kernel
theorem dX11_home_61 : decode cX11_home 61 = .ok (.getfield 171, 3) := by decide +kernel
theorem dX11_home_64 : decode cX11_home 64 = .ok (.invokevirtual 291, 3) := by decide +kernel
theorem dX11_home_67 : decode cX11_home 67 = .ok (.istore_n 3, 1) := by decide +kernel
theorem dX11_home_68 : decode cX11_home 68 = .ok (.aload_n 0, 1) := by decide +kernel
theorem dX11_home_69 : decode cX11_home 69 = .ok (.getfield 52, 3) := by decide +kernel
theorem dX11_home_72 : decode cX11_home 72 = .ok (.iload_n 3, 1) := by decide +kernel
theorem dX11_home_73 : decode cX11_home 73 = .ok (.iaload, 1) := by decide +kernel
theorem dX11_home_74 : decode cX11_home 74 = .ok (.iconst 1, 1) := by decide +kernel
theorem dX11_home_75 : decode cX11_home 75 = .ok (.if_icmp .ne 25, 3) := by decide +kernel
theorem dX11_home_78 : decode cX11_home 78 = .ok (.aload_n 0, 1) := by decide +kernel
theorem dX11_home_79 : decode cX11_home 79 = .ok (.aload_n 0, 1) := by decide +kernel
theorem dX11_home_80 : decode cX11_home 80 = .ok (.getfield 55, 3) := by decide +kernel
theorem dX11_home_83 : decode cX11_home 83 = .ok (.iload_n 3, 1) := by decide +kernel
theorem dX11_home_84 : decode cX11_home 84 = .ok (.iaload, 1) := by decide +kernel
theorem dX11_home_85 : decode cX11_home 85 = .ok (.aload_n 0, 1) := by decide +kernel
theorem dX11_home_86 : decode cX11_home 86 = .ok (.getfield 34, 3) := by decide +kernel
theorem dX11_home_89 : decode cX11_home 89 = .ok (.aload_n 0, 1) := by decide +kernel
theorem dX11_home_90 : decode cX11_home 90 = .ok (.getfield 73, 3) := by decide +kernel
theorem dX11_home_93 : decode cX11_home 93 = .ok (.iload_n 2, 1) := by decide +kernel
theorem dX11_home_94 : decode cX11_home 94 = .ok (.iaload, 1) := by decide +kernel
theorem dX11_home_95 : decode cX11_home 95 = .ok (.iaload, 1) := by decide +kernel
theorem dX11_home_96 : decode cX11_home 96 = .ok (.invokevirtual 335, 3) := by decide +kernel
theorem dX11_home_99 : decode cX11_home 99 = .ok (.ireturn, 1) := by decide +kernel
theorem dX11_home_100 : decode cX11_home 100 = .ok (.iinc 2 1, 3) := by decide +kernel
theorem dX11_home_103 : decode cX11_home 103 = .ok (.goto (-87), 3) := by decide +kernel
theorem dX11_home_106 : decode cX11_home 106 = .ok (.aload_n 0, 1) := by decide +kernel
theorem dX11_home_107 : decode cX11_home 107 = .ok (.bipush (-3), 2) := by decide +kernel
theorem dX11_home_109 : decode cX11_home 109 = .ok (.invokevirtual 153, 3) := by decide +kernel
theorem dX11_home_112 : decode cX11_home 112 = .ok (.ireturn, 1) := by decide +kernel
theorem in_wsX11_wayTo_X11 : ∀ w ∈ wsX110, w ∈ wsX11_wayTo := fun w h => List.mem_cons_of_mem _ (List.mem_append_right _ h)
theorem in_wsX11_home_X11 : ∀ w ∈ wsX110, w ∈ wsX11_home := fun w h => List.mem_cons_of_mem _ (List.mem_append_right _ h)
