abbrev cX11_wayTo : ByteArray := prog_13_method_72_code
def yX11_wayTo : MethodName := ⟨RX11, "wayTo", "(II)I"⟩
abbrev cX11_home : ByteArray := prog_13_method_73_code
def yX11_home : MethodName := ⟨RX11, "home", "(I)I"⟩
def wsX11_wayTo : List Cond := .code yX11_wayTo cX11_wayTo 6 (some .int) :: ([.fieldLink RX11 134 "ShipOfficeModel" "far" "[I", .constant RX11 152 (1000000000), .fieldLink RX11 13 "ShipOfficeModel" "mile" "[I"] ++ wsX110)
theorem gw_X11_wayTo : wsX11_wayTo.all goodWord = true := by decide +kernel
theorem il_X11_wayTo_1 : ∀ w ∈ ([.fieldLink RX11 134 "ShipOfficeModel" "far" "[I", .constant RX11 152 (1000000000), .fieldLink RX11 13 "ShipOfficeModel" "mile" "[I"] : List Cond), w ∈ wsX11_wayTo := fun w h => (List.mem_cons_of_mem _ (List.mem_append_left _ h))
theorem iw_X11_wayTo_1 : Cond.fieldLink RX11 134 "ShipOfficeModel" "far" "[I" ∈ wsX11_wayTo := (mmI il_X11_wayTo_1 0 rfl)
theorem iw_X11_wayTo_2 : Cond.fieldLink RX11 13 "ShipOfficeModel" "mile" "[I" ∈ wsX11_wayTo := (mmI il_X11_wayTo_1 2 rfl)
def wsX11_home_r1 : List Cond := [Cond.fieldLink RX11 168 "ShipOfficeModel" "agreements" "I", Cond.fieldLink RX11 70 "ShipOfficeModel" "man" "[I", Cond.fieldLink RX11 171 "ShipOfficeModel" "now" "I", Cond.fieldLink RX11 52 "ShipOfficeModel" "way" "[I", Cond.fieldLink RX11 55 "ShipOfficeModel" "port" "[I", Cond.fieldLink RX11 34 "ShipOfficeModel" "openPort" "[I", Cond.fieldLink RX11 73 "ShipOfficeModel" "voyage" "[I", Cond.methodLink RX11 297 yX11_isMan, Cond.instanceMethod yX11_isMan, Cond.selects RX11 yX11_isMan yX11_isMan, Cond.initialized RX11, Cond.code yX11_isMan cX11_isMan 2 (some .boolean), Cond.fieldLink RX11 157 "ShipOfficeModel" "men" "I", Cond.methodLink RX11 161 yX11_isIn, Cond.static yX11_isIn, Cond.code yX11_isIn cX11_isIn 2 (some .boolean), Cond.methodLink RX11 153 yX11_refuse, Cond.instanceMethod yX11_refuse, Cond.selects RX11 yX11_refuse yX11_refuse, Cond.code yX11_refuse cX11_refuse 2 (some .int), Cond.fieldLink RX11 7 "ShipOfficeModel" "refusals" "[I", Cond.methodLink RX11 266 yX11_stateOf, Cond.instanceMethod yX11_stateOf, Cond.selects RX11 yX11_stateOf yX11_stateOf]
def wsX11_home_r2 : List Cond := [Cond.code yX11_stateOf cX11_stateOf 5 (some .int), Cond.fieldLink RX11 85 "ShipOfficeModel" "signed" "[I", Cond.fieldLink RX11 88 "ShipOfficeModel" "offOn" "[I", Cond.fieldLink RX11 40 "ShipOfficeModel" "what" "[I", Cond.methodLink RX11 288 yX11_isDead, Cond.instanceMethod yX11_isDead, Cond.selects RX11 yX11_isDead yX11_isDead, Cond.code yX11_isDead cX11_isDead 5 (some .boolean), Cond.fieldLink RX11 179 "ShipOfficeModel" "happened" "I", Cond.fieldLink RX11 43 "ShipOfficeModel" "whose" "[I", Cond.fieldLink RX11 49 "ShipOfficeModel" "known" "[I", Cond.fieldLink RX11 46 "ShipOfficeModel" "day" "[I", Cond.methodLink RX11 291 yX11_whereOf, Cond.instanceMethod yX11_whereOf, Cond.selects RX11 yX11_whereOf yX11_whereOf, Cond.code yX11_whereOf cX11_whereOf 6 (some .int), Cond.methodLink RX11 281 yX11_hasSailed, Cond.instanceMethod yX11_hasSailed, Cond.selects RX11 yX11_hasSailed yX11_hasSailed, Cond.code yX11_hasSailed cX11_hasSailed 5 (some .boolean), Cond.methodLink RX11 278 yX11_sailedOn, Cond.instanceMethod yX11_sailedOn, Cond.selects RX11 yX11_sailedOn yX11_sailedOn, Cond.code yX11_sailedOn cX11_sailedOn 4 (some .int)]
def wsX11_home_r3 : List Cond := [Cond.methodLink RX11 294 yX11_isUnknown, Cond.instanceMethod yX11_isUnknown, Cond.selects RX11 yX11_isUnknown yX11_isUnknown, Cond.code yX11_isUnknown cX11_isUnknown 4 (some .boolean), Cond.methodLink RX11 275 yX11_bare, Cond.instanceMethod yX11_bare, Cond.selects RX11 yX11_bare yX11_bare, Cond.code yX11_bare cX11_bare 2 none, Cond.fieldLink RX11 128 "ShipOfficeModel" "letters" "[I", Cond.methodLink RX11 272 yX11_lastHeard, Cond.instanceMethod yX11_lastHeard, Cond.selects RX11 yX11_lastHeard yX11_lastHeard, Cond.code yX11_lastHeard cX11_lastHeard 6 (some .int), Cond.methodLink RX11 285 yX11_worth, Cond.instanceMethod yX11_worth, Cond.selects RX11 yX11_worth yX11_worth, Cond.code yX11_worth cX11_worth 4 (some .int), Cond.fieldLink RX11 58 "ShipOfficeModel" "textSize" "[I", Cond.methodLink RX11 263 yX11_actOn, Cond.instanceMethod yX11_actOn, Cond.selects RX11 yX11_actOn yX11_actOn, Cond.code yX11_actOn cX11_actOn 5 (some .int), Cond.fieldLink RX11 256 "ShipOfficeModel" "acts" "I", Cond.fieldLink RX11 61 "ShipOfficeModel" "purpose" "[I"]
def wsX11_home_r4 : List Cond := [Cond.fieldLink RX11 64 "ShipOfficeModel" "from" "[I", Cond.methodLink RX11 259 yX11_goesThrough, Cond.instanceMethod yX11_goesThrough, Cond.selects RX11 yX11_goesThrough yX11_goesThrough, Cond.code yX11_goesThrough cX11_goesThrough 3 (some .int), Cond.fieldLink RX11 216 "ShipOfficeModel" "base" "I", Cond.fieldLink RX11 213 "ShipOfficeModel" "size" "I", Cond.fieldLink RX11 210 "ShipOfficeModel" "at" "I", Cond.fieldLink RX11 244 "ShipOfficeModel" "deep" "I", Cond.fieldLink RX11 223 "ShipOfficeModel" "isWell" "Z", Cond.methodLink RX11 250 yX11_sum, Cond.instanceMethod yX11_sum, Cond.selects RX11 yX11_sum yX11_sum, Cond.code yX11_sum cX11_sum 4 (some .int), Cond.methodLink RX11 231 yX11_term, Cond.instanceMethod yX11_term, Cond.selects RX11 yX11_term yX11_term, Cond.methodLink RX11 227 yX11_sign, Cond.instanceMethod yX11_sign, Cond.selects RX11 yX11_sign yX11_sign, Cond.code yX11_sign cX11_sign 1 (some .int), Cond.fieldLink RX11 125 "ShipOfficeModel" "tape" "[I", Cond.fieldLink RX11 67 "ShipOfficeModel" "text" "[I", Cond.methodLink RX11 234 yX11_held]
def wsX11_home_r5 : List Cond := [Cond.static yX11_held, Cond.code yX11_held cX11_held 2 (some .int), Cond.constantLong RX11 219 (1000000000), Cond.constantLong RX11 221 (-1000000000), Cond.code yX11_term cX11_term 4 (some .int), Cond.methodLink RX11 238 yX11_unit, Cond.instanceMethod yX11_unit, Cond.selects RX11 yX11_unit yX11_unit, Cond.code yX11_unit cX11_unit 5 (some .int), Cond.methodLink RX11 241 yX11_isLetter, Cond.static yX11_isLetter, Cond.code yX11_isLetter cX11_isLetter 1 (some .boolean), Cond.methodLink RX11 247 yX11_breaks, Cond.instanceMethod yX11_breaks, Cond.selects RX11 yX11_breaks yX11_breaks, Cond.code yX11_breaks cX11_breaks 1 (some .int), Cond.methodLink RX11 253 yX11_takes, Cond.instanceMethod yX11_takes, Cond.selects RX11 yX11_takes yX11_takes, Cond.code yX11_takes cX11_takes 2 (some .boolean), Cond.methodLink RX11 335 yX11_wayTo, Cond.instanceMethod yX11_wayTo, Cond.selects RX11 yX11_wayTo yX11_wayTo, Cond.code yX11_wayTo cX11_wayTo 6 (some .int)]
def wsX11_home_r6 : List Cond := [Cond.fieldLink RX11 134 "ShipOfficeModel" "far" "[I", Cond.constant RX11 152 (1000000000), Cond.fieldLink RX11 13 "ShipOfficeModel" "mile" "[I"]
def wsX11_home : List Cond := .code yX11_home cX11_home 4 (some .int) :: ((wsX11_home_r1 ++ (wsX11_home_r2 ++ (wsX11_home_r3 ++ (wsX11_home_r4 ++ (wsX11_home_r5 ++ wsX11_home_r6))))) ++ wsX110)
theorem il_X11_home_1 : ∀ w ∈ wsX11_home_r1, w ∈ wsX11_home := fun w h => (List.mem_cons_of_mem _ (List.mem_append_left _ (List.mem_append_left _ h)))
theorem il_X11_home_2 : ∀ w ∈ wsX11_home_r2, w ∈ wsX11_home := fun w h => (List.mem_cons_of_mem _ (List.mem_append_left _ (List.mem_append_right _ (List.mem_append_left _ h))))
theorem il_X11_home_3 : ∀ w ∈ wsX11_home_r3, w ∈ wsX11_home := fun w h => (List.mem_cons_of_mem _ (List.mem_append_left _ (List.mem_append_right _ (List.mem_append_right _ (List.mem_append_left _ h)))))
theorem il_X11_home_4 : ∀ w ∈ wsX11_home_r4, w ∈ wsX11_home := fun w h => (List.mem_cons_of_mem _ (List.mem_append_left _ (List.mem_append_right _ (List.mem_append_right _ (List.mem_append_right _ (List.mem_append_left _ h))))))
theorem il_X11_home_5 : ∀ w ∈ wsX11_home_r5, w ∈ wsX11_home := fun w h => (List.mem_cons_of_mem _ (List.mem_append_left _ (List.mem_append_right _ (List.mem_append_right _ (List.mem_append_right _ (List.mem_append_right _ (List.mem_append_left _ h)))))))
theorem il_X11_home_6 : ∀ w ∈ wsX11_home_r6, w ∈ wsX11_home := fun w h => (List.mem_cons_of_mem _ (List.mem_append_left _ (List.mem_append_right _ (List.mem_append_right _ (List.mem_append_right _ (List.mem_append_right _ (List.mem_append_right _ h)))))))
theorem il_X11_home_7 : ∀ w ∈ wsX110, w ∈ wsX11_home := fun w h => (List.mem_cons_of_mem _ (List.mem_append_right _ h))
theorem iw_X11_home_1 : Cond.fieldLink RX11 168 "ShipOfficeModel" "agreements" "I" ∈ wsX11_home := (mmI il_X11_home_1 0 rfl)
theorem iw_X11_home_2 : Cond.fieldLink RX11 70 "ShipOfficeModel" "man" "[I" ∈ wsX11_home := (mmI il_X11_home_1 1 rfl)
theorem iw_X11_home_3 : Cond.fieldLink RX11 171 "ShipOfficeModel" "now" "I" ∈ wsX11_home := (mmI il_X11_home_1 2 rfl)
theorem iw_X11_home_4 : Cond.fieldLink RX11 52 "ShipOfficeModel" "way" "[I" ∈ wsX11_home := (mmI il_X11_home_1 3 rfl)
theorem iw_X11_home_5 : Cond.fieldLink RX11 55 "ShipOfficeModel" "port" "[I" ∈ wsX11_home := (mmI il_X11_home_1 4 rfl)
theorem iw_X11_home_6 : Cond.fieldLink RX11 34 "ShipOfficeModel" "openPort" "[I" ∈ wsX11_home := (mmI il_X11_home_1 5 rfl)
theorem iw_X11_home_7 : Cond.fieldLink RX11 73 "ShipOfficeModel" "voyage" "[I" ∈ wsX11_home := (mmI il_X11_home_1 6 rfl)
theorem dX11_wayTo_0 : decode cX11_wayTo 0 = .ok (.iconst 0, 1) := by decide +kernel
theorem dX11_wayTo_1 : decode cX11_wayTo 1 = .ok (.istore_n 3, 1) := by decide +kernel
theorem dX11_wayTo_2 : decode cX11_wayTo 2 = .ok (.iload_n 3, 1) := by decide +kernel
theorem dX11_wayTo_3 : decode cX11_wayTo 3 = .ok (.bipush 10, 2) := by decide +kernel
theorem dX11_wayTo_5 : decode cX11_wayTo 5 = .ok (.if_icmp .ge 26, 3) := by decide +kernel
theorem dX11_wayTo_8 : decode cX11_wayTo 8 = .ok (.aload_n 0, 1) := by decide +kernel
theorem dX11_wayTo_9 : decode cX11_wayTo 9 = .ok (.getfield 134, 3) := by decide +kernel
theorem dX11_wayTo_12 : decode cX11_wayTo 12 = .ok (.iload_n 3, 1) := by decide +kernel
theorem dX11_wayTo_13 : decode cX11_wayTo 13 = .ok (.iload_n 3, 1) := by decide +kernel
theorem dX11_wayTo_14 : decode cX11_wayTo 14 = .ok (.iload_n 1, 1) := by decide +kernel
theorem dX11_wayTo_15 : decode cX11_wayTo 15 = .ok (.if_icmp .ne 7, 3) := by decide +kernel
theorem dX11_wayTo_18 : decode cX11_wayTo 18 = .ok (.iconst 0, 1) := by decide +kernel
theorem dX11_wayTo_19 : decode cX11_wayTo 19 = .ok (.goto 5, 3) := by decide +kernel
theorem dX11_wayTo_22 : decode cX11_wayTo 22 = .ok (.ldc 152, 2) := by decide +kernel
theorem dX11_wayTo_24 : decode cX11_wayTo 24 = .ok (.iastore, 1) := by decide +kernel
theorem dX11_wayTo_25 : decode cX11_wayTo 25 = .ok (.iinc 3 1, 3) := by decide +kernel
theorem dX11_wayTo_28 : decode cX11_wayTo 28 = .ok (.goto (-26), 3) := by decide +kernel
theorem dX11_wayTo_31 : decode cX11_wayTo 31 = .ok (.iconst 0, 1) := by decide +kernel
theorem dX11_wayTo_32 : decode cX11_wayTo 32 = .ok (.istore_n 3, 1) := by decide +kernel
theorem dX11_wayTo_33 : decode cX11_wayTo 33 = .ok (.iload_n 3, 1) := by decide +kernel
theorem dX11_wayTo_34 : decode cX11_wayTo 34 = .ok (.bipush 10, 2) := by decide +kernel
theorem dX11_wayTo_36 : decode cX11_wayTo 36 = .ok (.if_icmp .ge 128, 3) := by decide +kernel
theorem dX11_wayTo_39 : decode cX11_wayTo 39 = .ok (.iconst 0, 1) := by decide +kernel
theorem dX11_wayTo_40 : decode cX11_wayTo 40 = .ok (.istore 4, 2) := by decide +kernel
theorem dX11_wayTo_42 : decode cX11_wayTo 42 = .ok (.iload 4, 2) := by decide +kernel
theorem dX11_wayTo_44 : decode cX11_wayTo 44 = .ok (.bipush 10, 2) := by decide +kernel
theorem dX11_wayTo_46 : decode cX11_wayTo 46 = .ok (.if_icmp .ge 112, 3) := by decide +kernel
theorem dX11_wayTo_49 : decode cX11_wayTo 49 = .ok (.iconst 0, 1) := by decide +kernel
theorem dX11_wayTo_50 : decode cX11_wayTo 50 = .ok (.istore 5, 2) := by decide +kernel
theorem dX11_wayTo_52 : decode cX11_wayTo 52 = .ok (.iload 5, 2) := by decide +kernel
theorem dX11_wayTo_54 : decode cX11_wayTo 54 = .ok (.bipush 10, 2) := by decide +kernel
theorem dX11_wayTo_56 : decode cX11_wayTo 56 = .ok (.if_icmp .ge 96, 3) := by decide +kernel
theorem dX11_wayTo_59 : decode cX11_wayTo 59 = .ok (.aload_n 0, 1) := by decide +kernel
theorem dX11_wayTo_60 : decode cX11_wayTo 60 = .ok (.getfield 13, 3) := by decide +kernel
theorem dX11_wayTo_63 : decode cX11_wayTo 63 = .ok (.bipush 10, 2) := by decide +kernel
theorem dX11_wayTo_65 : decode cX11_wayTo 65 = .ok (.iload 4, 2) := by decide +kernel
theorem dX11_wayTo_67 : decode cX11_wayTo 67 = .ok (.imul, 1) := by decide +kernel
theorem dX11_wayTo_68 : decode cX11_wayTo 68 = .ok (.iload 5, 2) := by decide +kernel
theorem dX11_wayTo_70 : decode cX11_wayTo 70 = .ok (.iadd, 1) := by decide +kernel
theorem dX11_wayTo_71 : decode cX11_wayTo 71 = .ok (.iaload, 1) := by decide +kernel
theorem dX11_wayTo_72 : decode cX11_wayTo 72 = .ok (.ifCond .le 74, 3) := by decide +kernel
theorem dX11_wayTo_75 : decode cX11_wayTo 75 = .ok (.aload_n 0, 1) := by decide +kernel
theorem dX11_wayTo_76 : decode cX11_wayTo 76 = .ok (.getfield 134, 3) := by decide +kernel
theorem dX11_wayTo_79 : decode cX11_wayTo 79 = .ok (.iload 4, 2) := by decide +kernel
theorem dX11_wayTo_81 : decode cX11_wayTo 81 = .ok (.iaload, 1) := by decide +kernel
theorem dX11_wayTo_82 : decode cX11_wayTo 82 = .ok (.ldc 152, 2) := by decide +kernel
theorem dX11_wayTo_84 : decode cX11_wayTo 84 = .ok (.if_icmp .ge 62, 3) := by decide +kernel
theorem dX11_wayTo_87 : decode cX11_wayTo 87 = .ok (.aload_n 0, 1) := by decide +kernel
theorem dX11_wayTo_88 : decode cX11_wayTo 88 = .ok (.getfield 134, 3) := by decide +kernel
theorem dX11_wayTo_91 : decode cX11_wayTo 91 = .ok (.iload 4, 2) := by decide +kernel
theorem dX11_wayTo_93 : decode cX11_wayTo 93 = .ok (.iaload, 1) := by decide +kernel
theorem dX11_wayTo_94 : decode cX11_wayTo 94 = .ok (.aload_n 0, 1) := by decide +kernel
theorem dX11_wayTo_95 : decode cX11_wayTo 95 = .ok (.getfield 13, 3) := by decide +kernel
theorem dX11_wayTo_98 : decode cX11_wayTo 98 = .ok (.bipush 10, 2) := by decide +kernel
theorem dX11_wayTo_100 : decode cX11_wayTo 100 = .ok (.iload 4, 2) := by decide +kernel
theorem dX11_wayTo_102 : decode cX11_wayTo 102 = .ok (.imul, 1) := by decide +kernel
theorem dX11_wayTo_103 : decode cX11_wayTo 103 = .ok (.iload 5, 2) := by decide +kernel
theorem dX11_wayTo_105 : decode cX11_wayTo 105 = .ok (.iadd, 1) := by decide +kernel
theorem dX11_wayTo_106 : decode cX11_wayTo 106 = .ok (.iaload, 1) := by decide +kernel
theorem dX11_wayTo_107 : decode cX11_wayTo 107 = .ok (.iadd, 1) := by decide +kernel
theorem dX11_wayTo_108 : decode cX11_wayTo 108 = .ok (.aload_n 0, 1) := by decide +kernel
theorem dX11_wayTo_109 : decode cX11_wayTo 109 = .ok (.getfield 134, 3) := by decide +kernel
theorem dX11_wayTo_112 : decode cX11_wayTo 112 = .ok (.iload 5, 2) := by decide +kernel
theorem dX11_wayTo_114 : decode cX11_wayTo 114 = .ok (.iaload, 1) := by decide +kernel
theorem dX11_wayTo_115 : decode cX11_wayTo 115 = .ok (.if_icmp .ge 31, 3) := by decide +kernel
theorem dX11_wayTo_118 : decode cX11_wayTo 118 = .ok (.aload_n 0, 1) := by decide +kernel
theorem dX11_wayTo_119 : decode cX11_wayTo 119 = .ok (.getfield 134, 3) := by decide +kernel
theorem dX11_wayTo_122 : decode cX11_wayTo 122 = .ok (.iload 5, 2) := by decide +kernel
theorem dX11_wayTo_124 : decode cX11_wayTo 124 = .ok (.aload_n 0, 1) := by decide +kernel
theorem dX11_wayTo_125 : decode cX11_wayTo 125 = .ok (.getfield 134, 3) := by decide +kernel
theorem dX11_wayTo_128 : decode cX11_wayTo 128 = .ok (.iload 4, 2) := by decide +kernel
theorem dX11_wayTo_130 : decode cX11_wayTo 130 = .ok (.iaload, 1) := by decide +kernel
theorem dX11_wayTo_131 : decode cX11_wayTo 131 = .ok (.aload_n 0, 1) := by decide +kernel
theorem dX11_wayTo_132 : decode cX11_wayTo 132 = .ok (.getfield 13, 3) := by decide +kernel
theorem dX11_wayTo_135 : decode cX11_wayTo 135 = .ok (.bipush 10, 2) := by decide +kernel
theorem dX11_wayTo_137 : decode cX11_wayTo 137 = .ok (.iload 4, 2) := by decide +kernel
theorem dX11_wayTo_139 : decode cX11_wayTo 139 = .ok (.imul, 1) := by decide +kernel
theorem dX11_wayTo_140 : decode cX11_wayTo 140 = .ok (.iload 5, 2) := by decide +kernel
theorem dX11_wayTo_142 : decode cX11_wayTo 142 = .ok (.iadd, 1) := by decide +kernel
theorem dX11_wayTo_143 : decode cX11_wayTo 143 = .ok (.iaload, 1) := by decide +kernel
theorem dX11_wayTo_144 : decode cX11_wayTo 144 = .ok (.iadd, 1) := by decide +kernel
theorem dX11_wayTo_145 : decode cX11_wayTo 145 = .ok (.iastore, 1) := by decide +kernel
theorem dX11_wayTo_146 : decode cX11_wayTo 146 = .ok (.iinc 5 1, 3) := by decide +kernel
theorem dX11_wayTo_149 : decode cX11_wayTo 149 = .ok (.goto (-97), 3) := by decide +kernel
theorem dX11_wayTo_152 : decode cX11_wayTo 152 = .ok (.iinc 4 1, 3) := by decide +kernel
theorem dX11_wayTo_155 : decode cX11_wayTo 155 = .ok (.goto (-113), 3) := by decide +kernel
theorem dX11_wayTo_158 : decode cX11_wayTo 158 = .ok (.iinc 3 1, 3) := by decide +kernel
theorem dX11_wayTo_161 : decode cX11_wayTo 161 = .ok (.goto (-128), 3) := by decide +kernel
theorem dX11_wayTo_164 : decode cX11_wayTo 164 = .ok (.aload_n 0, 1) := by decide +kernel
theorem dX11_wayTo_165 : decode cX11_wayTo 165 = .ok (.getfield 134, 3) := by decide +kernel
theorem dX11_wayTo_168 : decode cX11_wayTo 168 = .ok (.iload_n 2, 1) := by decide +kernel
theorem dX11_wayTo_169 : decode cX11_wayTo 169 = .ok (.iaload, 1) := by decide +kernel
theorem dX11_wayTo_170 : decode cX11_wayTo 170 = .ok (.ldc 152, 2) := by decide +kernel
theorem dX11_wayTo_172 : decode cX11_wayTo 172 = .ok (.if_icmp .ne 8, 3) := by decide +kernel
theorem dX11_wayTo_175 : decode cX11_wayTo 175 = .ok (.bipush (-9), 2) := by decide +kernel
theorem dX11_wayTo_177 : decode cX11_wayTo 177 = .ok (.goto 9, 3) := by decide +kernel
theorem dX11_wayTo_180 : decode cX11_wayTo 180 = .ok (.aload_n 0, 1) := by decide +kernel
theorem dX11_wayTo_181 : decode cX11_wayTo 181 = .ok (.getfield 134, 3) := by decide +kernel
theorem dX11_wayTo_184 : decode cX11_wayTo 184 = .ok (.iload_n 2, 1) := by decide +kernel
theorem dX11_wayTo_185 : decode cX11_wayTo 185 = .ok (.iaload, 1) := by decide +kernel
theorem dX11_wayTo_186 : decode cX11_wayTo 186 = .ok (.ireturn, 1) := by decide +kernel
set_option maxRecDepth 100000 in
theorem ggX11_home_X11_isMan : GoodIn wsX11_home wsX11_isMan := goodIn_sub (mmC (mmI il_X11_home_1 11 rfl) (mmA (mmC (mmI il_X11_home_1 12 rfl) (mmC (mmI il_X11_home_1 13 rfl) (mmC (mmI il_X11_home_1 14 rfl) (mmC (mmI il_X11_home_1 10 rfl) (mmC (mmI il_X11_home_1 15 rfl) mmN))))) il_X11_home_7)) gw_X11_isMan
theorem gX11_home_X11_isMan : GoodIn wsX11_home (wsV RX11 297 RX11 yX11_isMan wsX11_isMan) := goodIn_app (goodIn_sub (mmC (mmI il_X11_home_1 7 rfl) (mmC (mmI il_X11_home_1 8 rfl) (mmC (mmI il_X11_home_1 9 rfl) (mmC (mmI il_X11_home_1 10 rfl) mmN)))) (by decide +kernel)) ggX11_home_X11_isMan
set_option maxRecDepth 100000 in
theorem ggX11_home_X11_refuse : GoodIn wsX11_home wsX11_refuse := goodIn_sub (mmC (mmI il_X11_home_1 19 rfl) (mmA (mmC (mmI il_X11_home_1 20 rfl) mmN) il_X11_home_7)) gw_X11_refuse
theorem gX11_home_X11_refuse : GoodIn wsX11_home (wsV RX11 153 RX11 yX11_refuse wsX11_refuse) := goodIn_app (goodIn_sub (mmC (mmI il_X11_home_1 16 rfl) (mmC (mmI il_X11_home_1 17 rfl) (mmC (mmI il_X11_home_1 18 rfl) (mmC (mmI il_X11_home_1 10 rfl) mmN)))) (by decide +kernel)) ggX11_home_X11_refuse
set_option maxRecDepth 100000 in
theorem ggX11_home_X11_stateOf : GoodIn wsX11_home wsX11_stateOf := goodIn_sub (mmC (mmI il_X11_home_2 0 rfl) (mmA (mmA (mmC (mmI il_X11_home_2 1 rfl) (mmC (mmI il_X11_home_2 2 rfl) (mmC (mmI il_X11_home_2 3 rfl) (mmC (mmI il_X11_home_1 6 rfl) (mmC (mmI il_X11_home_2 4 rfl) (mmC (mmI il_X11_home_2 5 rfl) (mmC (mmI il_X11_home_2 6 rfl) (mmC (mmI il_X11_home_1 10 rfl) (mmC (mmI il_X11_home_2 7 rfl) (mmC (mmI il_X11_home_2 8 rfl) (mmC (mmI il_X11_home_2 9 rfl) (mmC (mmI il_X11_home_2 10 rfl) (mmC (mmI il_X11_home_2 11 rfl) (mmC (mmI il_X11_home_2 12 rfl) (mmC (mmI il_X11_home_2 13 rfl) (mmC (mmI il_X11_home_2 14 rfl) (mmC (mmI il_X11_home_2 15 rfl) (mmC (mmI il_X11_home_2 16 rfl) (mmC (mmI il_X11_home_2 17 rfl) (mmC (mmI il_X11_home_2 18 rfl) (mmC (mmI il_X11_home_2 19 rfl) (mmC (mmI il_X11_home_2 20 rfl) (mmC (mmI il_X11_home_2 21 rfl) (mmC (mmI il_X11_home_2 22 rfl) mmN)))))))))))))))))))))))) (mmA (mmC (mmI il_X11_home_2 23 rfl) (mmC (mmI il_X11_home_3 0 rfl) (mmC (mmI il_X11_home_3 1 rfl) (mmC (mmI il_X11_home_3 2 rfl) (mmC (mmI il_X11_home_3 3 rfl) (mmC (mmI il_X11_home_3 4 rfl) (mmC (mmI il_X11_home_3 5 rfl) (mmC (mmI il_X11_home_3 6 rfl) (mmC (mmI il_X11_home_3 7 rfl) (mmC (mmI il_X11_home_3 8 rfl) (mmC (mmI il_X11_home_3 9 rfl) (mmC (mmI il_X11_home_3 10 rfl) (mmC (mmI il_X11_home_3 11 rfl) (mmC (mmI il_X11_home_3 12 rfl) (mmC (mmI il_X11_home_3 13 rfl) (mmC (mmI il_X11_home_3 14 rfl) (mmC (mmI il_X11_home_3 15 rfl) (mmC (mmI il_X11_home_3 16 rfl) (mmC (mmI il_X11_home_3 17 rfl) (mmC (mmI il_X11_home_3 18 rfl) (mmC (mmI il_X11_home_3 19 rfl) (mmC (mmI il_X11_home_3 20 rfl) (mmC (mmI il_X11_home_3 21 rfl) (mmC (mmI il_X11_home_3 22 rfl) mmN)))))))))))))))))))))))) (mmA (mmC (mmI il_X11_home_3 23 rfl) (mmC (mmI il_X11_home_4 0 rfl) (mmC (mmI il_X11_home_4 1 rfl) (mmC (mmI il_X11_home_4 2 rfl) (mmC (mmI il_X11_home_4 3 rfl) (mmC (mmI il_X11_home_4 4 rfl) (mmC (mmI il_X11_home_4 5 rfl) (mmC (mmI il_X11_home_4 6 rfl) (mmC (mmI il_X11_home_4 7 rfl) (mmC (mmI il_X11_home_4 8 rfl) (mmC (mmI il_X11_home_4 9 rfl) (mmC (mmI il_X11_home_4 10 rfl) (mmC (mmI il_X11_home_4 11 rfl) (mmC (mmI il_X11_home_4 12 rfl) (mmC (mmI il_X11_home_4 13 rfl) (mmC (mmI il_X11_home_4 14 rfl) (mmC (mmI il_X11_home_4 15 rfl) (mmC (mmI il_X11_home_4 16 rfl) (mmC (mmI il_X11_home_4 17 rfl) (mmC (mmI il_X11_home_4 18 rfl) (mmC (mmI il_X11_home_4 19 rfl) (mmC (mmI il_X11_home_4 20 rfl) (mmC (mmI il_X11_home_4 21 rfl) (mmC (mmI il_X11_home_4 22 rfl) mmN)))))))))))))))))))))))) (mmC (mmI il_X11_home_4 23 rfl) (mmC (mmI il_X11_home_5 0 rfl) (mmC (mmI il_X11_home_5 1 rfl) (mmC (mmI il_X11_home_5 2 rfl) (mmC (mmI il_X11_home_5 3 rfl) (mmC (mmI il_X11_home_5 4 rfl) (mmC (mmI il_X11_home_5 5 rfl) (mmC (mmI il_X11_home_5 6 rfl) (mmC (mmI il_X11_home_5 7 rfl) (mmC (mmI il_X11_home_5 8 rfl) (mmC (mmI il_X11_home_5 9 rfl) (mmC (mmI il_X11_home_5 10 rfl) (mmC (mmI il_X11_home_5 11 rfl) (mmC (mmI il_X11_home_5 12 rfl) (mmC (mmI il_X11_home_5 13 rfl) (mmC (mmI il_X11_home_5 14 rfl) (mmC (mmI il_X11_home_5 15 rfl) (mmC (mmI il_X11_home_5 16 rfl) (mmC (mmI il_X11_home_5 17 rfl) (mmC (mmI il_X11_home_5 18 rfl) (mmC (mmI il_X11_home_5 19 rfl) mmN)))))))))))))))))))))))) il_X11_home_7)) gw_X11_stateOf
theorem gX11_home_X11_stateOf : GoodIn wsX11_home (wsV RX11 266 RX11 yX11_stateOf wsX11_stateOf) := goodIn_app (goodIn_sub (mmC (mmI il_X11_home_1 21 rfl) (mmC (mmI il_X11_home_1 22 rfl) (mmC (mmI il_X11_home_1 23 rfl) (mmC (mmI il_X11_home_1 10 rfl) mmN)))) (by decide +kernel)) ggX11_home_X11_stateOf
set_option maxRecDepth 100000 in
theorem ggX11_home_X11_whereOf : GoodIn wsX11_home wsX11_whereOf := goodIn_sub (mmC (mmI il_X11_home_2 15 rfl) (mmA (mmC (mmI il_X11_home_2 8 rfl) (mmC (mmI il_X11_home_2 3 rfl) (mmC (mmI il_X11_home_2 9 rfl) (mmC (mmI il_X11_home_2 10 rfl) (mmC (mmI il_X11_home_2 11 rfl) mmN))))) il_X11_home_7)) gw_X11_whereOf
theorem gX11_home_X11_whereOf : GoodIn wsX11_home (wsV RX11 291 RX11 yX11_whereOf wsX11_whereOf) := goodIn_app (goodIn_sub (mmC (mmI il_X11_home_2 12 rfl) (mmC (mmI il_X11_home_2 13 rfl) (mmC (mmI il_X11_home_2 14 rfl) (mmC (mmI il_X11_home_1 10 rfl) mmN)))) (by decide +kernel)) ggX11_home_X11_whereOf
set_option maxRecDepth 100000 in
theorem ggX11_home_X11_wayTo : GoodIn wsX11_home wsX11_wayTo := goodIn_sub (mmC (mmI il_X11_home_5 23 rfl) (mmA (mmC (mmI il_X11_home_6 0 rfl) (mmC (mmI il_X11_home_6 1 rfl) (mmC (mmI il_X11_home_6 2 rfl) mmN))) il_X11_home_7)) gw_X11_wayTo
theorem gX11_home_X11_wayTo : GoodIn wsX11_home (wsV RX11 335 RX11 yX11_wayTo wsX11_wayTo) := goodIn_app (goodIn_sub (mmC (mmI il_X11_home_5 20 rfl) (mmC (mmI il_X11_home_5 21 rfl) (mmC (mmI il_X11_home_5 22 rfl) (mmC (mmI il_X11_home_1 10 rfl) mmN)))) (by decide +kernel)) ggX11_home_X11_wayTo
theorem dX11_home_0 : decode cX11_home 0 = .ok (.aload_n 0, 1) := by decide +kernel
theorem dX11_home_1 : decode cX11_home 1 = .ok (.iload_n 1, 1) := by decide +kernel
theorem dX11_home_2 : decode cX11_home 2 = .ok (.invokevirtual 297, 3) := by decide +kernel
theorem dX11_home_5 : decode cX11_home 5 = .ok (.ifCond .ne 9, 3) := by decide +kernel
theorem dX11_home_8 : decode cX11_home 8 = .ok (.aload_n 0, 1) := by decide +kernel
theorem dX11_home_9 : decode cX11_home 9 = .ok (.iconst (-1), 1) := by decide +kernel
theorem dX11_home_10 : decode cX11_home 10 = .ok (.invokevirtual 153, 3) := by decide +kernel
theorem dX11_home_13 : decode cX11_home 13 = .ok (.ireturn, 1) := by decide +kernel
theorem dX11_home_14 : decode cX11_home 14 = .ok (.iconst 0, 1) := by decide +kernel
theorem dX11_home_15 : decode cX11_home 15 = .ok (.istore_n 2, 1) := by decide +kernel
theorem dX11_home_16 : decode cX11_home 16 = .ok (.iload_n 2, 1) := by decide +kernel
theorem dX11_home_17 : decode cX11_home 17 = .ok (.aload_n 0, 1) := by decide +kernel
theorem dX11_home_18 : decode cX11_home 18 = .ok (.getfield 168, 3) := by decide +kernel
theorem dX11_home_21 : decode cX11_home 21 = .ok (.if_icmp .ge 85, 3) := by decide +kernel
theorem dX11_home_24 : decode cX11_home 24 = .ok (.aload_n 0, 1) := by decide +kernel
theorem dX11_home_25 : decode cX11_home 25 = .ok (.getfield 70, 3) := by decide +kernel
theorem dX11_home_28 : decode cX11_home 28 = .ok (.iload_n 2, 1) := by decide +kernel
theorem dX11_home_29 : decode cX11_home 29 = .ok (.iaload, 1) := by decide +kernel
theorem dX11_home_30 : decode cX11_home 30 = .ok (.iload_n 1, 1) := by decide +kernel
theorem dX11_home_31 : decode cX11_home 31 = .ok (.if_icmp .ne 69, 3) := by decide +kernel
theorem dX11_home_34 : decode cX11_home 34 = .ok (.aload_n 0, 1) := by decide +kernel
theorem dX11_home_35 : decode cX11_home 35 = .ok (.iload_n 2, 1) := by decide +kernel
theorem dX11_home_36 : decode cX11_home 36 = .ok (.aload_n 0, 1) := by decide +kernel
theorem dX11_home_37 : decode cX11_home 37 = .ok (.getfield 171, 3) := by decide +kernel
theorem dX11_home_40 : decode cX11_home 40 = .ok (.aload_n 0, 1) := by decide +kernel
theorem dX11_home_41 : decode cX11_home 41 = .ok (.getfield 171, 3) := by decide +kernel
theorem dX11_home_44 : decode cX11_home 44 = .ok (.invokevirtual 266, 3) := by decide +kernel
theorem dX11_home_47 : decode cX11_home 47 = .ok (.iconst 3, 1) := by decide +kernel
theorem dX11_home_48 : decode cX11_home 48 = .ok (.if_icmp .eq 6, 3) := by decide +kernel
theorem dX11_home_51 : decode cX11_home 51 = .ok (.goto 49, 3) := by decide +kernel
theorem dX11_home_54 : decode cX11_home 54 = .ok (.aload_n 0, 1) := by decide +kernel
theorem dX11_home_55 : decode cX11_home 55 = .ok (.iload_n 2, 1) := by decide +kernel
theorem dX11_home_56 : decode cX11_home 56 = .ok (.aload_n 0, 1) := by decide +kernel
theorem dX11_home_57 : decode cX11_home 57 = .ok (.getfield 171, 3) := by decide +kernel
theorem dX11_home_60 : decode cX11_home 60 = .ok (.aload_n 0, 1) := by decide +kernel
theorem dX11_home_61 : decode cX11_home 61 = .ok (.getfield 171, 3) := by decide +kernel
theorem dX11_home_64 : decode cX11_home 64 = .ok (.invokevirtual 291, 3) := by decide +kernel
theorem dX11_home_67 : decode cX11_home 67 = .ok (.istore_n 3, 1) := by decide +kernel
theorem dX11_home_68 : decode cX11_home 68 = .ok (.aload_n 0, 1) := by decide +kernel
theorem dX11_home_69 : decode cX11_home 69 = .ok (.getfield 52, 3) := by decide +kernel
theorem dX11_home_72 : decode cX11_home 72 = .ok (.iload_n 3, 1) := by decide +kernel
theorem dX11_home_73 : decode cX11_home 73 = .ok (.iaload, 1) := by decide +kernel
theorem dX11_home_74 : decode cX11_home 74 = .ok (.iconst 1, 1) := by decide +kernel
theorem dX11_home_75 : decode cX11_home 75 = .ok (.if_icmp .ne 25, 3) := by decide +kernel
theorem dX11_home_78 : decode cX11_home 78 = .ok (.aload_n 0, 1) := by decide +kernel
theorem dX11_home_79 : decode cX11_home 79 = .ok (.aload_n 0, 1) := by decide +kernel
theorem dX11_home_80 : decode cX11_home 80 = .ok (.getfield 55, 3) := by decide +kernel
theorem dX11_home_83 : decode cX11_home 83 = .ok (.iload_n 3, 1) := by decide +kernel
theorem dX11_home_84 : decode cX11_home 84 = .ok (.iaload, 1) := by decide +kernel
theorem dX11_home_85 : decode cX11_home 85 = .ok (.aload_n 0, 1) := by decide +kernel
theorem dX11_home_86 : decode cX11_home 86 = .ok (.getfield 34, 3) := by decide +kernel
theorem dX11_home_89 : decode cX11_home 89 = .ok (.aload_n 0, 1) := by decide +kernel
theorem dX11_home_90 : decode cX11_home 90 = .ok (.getfield 73, 3) := by decide +kernel
theorem dX11_home_93 : decode cX11_home 93 = .ok (.iload_n 2, 1) := by decide +kernel
theorem dX11_home_94 : decode cX11_home 94 = .ok (.iaload, 1) := by decide +kernel
theorem dX11_home_95 : decode cX11_home 95 = .ok (.iaload, 1) := by decide +kernel
theorem dX11_home_96 : decode cX11_home 96 = .ok (.invokevirtual 335, 3) := by decide +kernel
theorem dX11_home_99 : decode cX11_home 99 = .ok (.ireturn, 1) := by decide +kernel
theorem dX11_home_100 : decode cX11_home 100 = .ok (.iinc 2 1, 3) := by decide +kernel
theorem dX11_home_103 : decode cX11_home 103 = .ok (.goto (-87), 3) := by decide +kernel
theorem dX11_home_106 : decode cX11_home 106 = .ok (.aload_n 0, 1) := by decide +kernel
theorem dX11_home_107 : decode cX11_home 107 = .ok (.bipush (-3), 2) := by decide +kernel
theorem dX11_home_109 : decode cX11_home 109 = .ok (.invokevirtual 153, 3) := by decide +kernel
theorem dX11_home_112 : decode cX11_home 112 = .ok (.ireturn, 1) := by decide +kernel
theorem in_wsX11_wayTo_X11 : ∀ w ∈ wsX110, w ∈ wsX11_wayTo := fun w h => List.mem_cons_of_mem _ (List.mem_append_right _ h)
theorem in_wsX11_home_X11 : ∀ w ∈ wsX110, w ∈ wsX11_home := fun w h => List.mem_cons_of_mem _ (List.mem_append_right _ h)

set_option maxHeartbeats 4000000 in
set_option maxRecDepth 100000 in
theorem c_X11_wayTo (l : Launch) (dC : Nat → ClassId) (dI : Nat → Nat → Nat) (sz : Nat) (g0 : Nat) (pq : Nat → Nat) (cp : Nat → ClassId) (v : Nat → Int32) (fa : Nat → Nat → Int32) (gV : mV v) (gA : mA fa) (x1 : Int32) (hx1 : 0 ≤ x1.toInt ∧ x1.toInt ≤ 9) (x2 : Int32) (hx2 : 0 ≤ x2.toInt ∧ x2.toInt ≤ 9) : Met l yX11_wayTo wsX11_wayTo ({ frames := 0, cells := 0, slots := 0, locals := 0 }) (va_Pc [.ref g0, .int x1, .int x2] (pcW (dC, dI) (mT cp) (mW g0 pq cp v fa) sz)) (va_Qi (fun (r : Int32) (u : (Nat → Int32) × (Nat → Nat → Int32)) => mV u.1 ∧ mA u.2 ∧ scr v fa u.1 u.2) (fun u t => va_P (dC, dI) vwCl (mW g0 pq cp u.1 u.2) t.heap ∧ va_K (dC, dI) vwCl (mT cp) t ∧ va_D (va_A (mW g0 pq cp v fa) sz) (mW g0 pq cp u.1 u.2)) (va_A (mW g0 pq cp v fa) sz)) 0 0 (va_A (mW g0 pq cp v fa) sz) := by
  refine Met.ofW (cc := cX11_wayTo) (maxL := 6) (ret := (some .int)) (by decide +kernel) rfl ?_
  intro p e s m args below meth c s₁ B hml hv
  obtain ⟨rfl, hsz, hP, hK, hD0⟩ := hv
  have hx := B.exec
  have hb := B.bytes
  have hr := B.returns
  have hts := atoms_spec (ws := wsX11_wayTo) B.pre
  have hown : s.vm.findClass RX11 = some m.cls := findClass_of_methodNamed B.named
  have hlocks := B.notSynchronized
  subst hsz
  have hD := hD0.self (sz := s.heap.size)
  generalize hAe : va_A (mW g0 pq cp v fa) s.heap.size = A at hD ⊢
  have hA : ∀ q : Nat, s.heap.size ≤ q → A q := fun q h => by rw [← hAe]; exact Or.inr h
  have hS : va_S A s.heap s.heap [] := va_S.rf
  have hP : va_P (dC, dI) vwCl (mW g0 pq cp v fa) s.heap := hP
  have hl := lv_entry ([.ref g0, .int x1, .int x2]) (n := 6) (Nat.le_of_ble_eq_true rfl)
  rw [lg_entry_eq]
  generalize (lg_sl ([.ref g0, .int x1, .int x2]) ++ List.replicate (6 - (lg_sl ([.ref g0, .int x1, .int x2])).length) Slot.unset).toArray = ls at hl ⊢
  have hl : lv_has ls 6 [(0, .ref g0), (1, .int x1), (2, .int x2)] := hl
  refine lv_iconst (v := 0) hx hb dX11_wayTo_0 (by decide +kernel) ?_
  refine lv_istore_n (lv' := [(3, .int 0), (0, .ref g0), (1, .int x1), (2, .int x2)]) hx hb dX11_wayTo_1 rfl hl (by decide +kernel) rfl (fun ls hl => ?_)
  have cut_1 : ∀ (n : Nat) (y_2 : Int32) (z_3 : Nat → Int32) (fz_4 : Nat → Nat → Int32) (H : Heap) (locs : List Loc) (ls : Array Slot), 10 - y_2.toInt ≤ (n : Int) → (0 ≤ y_2.toInt ∧ y_2.toInt ≤ 10) → mV z_3 → mA fz_4 → scr v fa z_3 fz_4 → va_P (dC, dI) vwCl (mW g0 pq cp z_3 fz_4) H → va_D A (mW g0 pq cp z_3 fz_4) → va_S A s.heap H locs → lv_has ls 6 [(3, .int y_2), (0, .ref g0), (1, .int x1), (2, .int x2)] → W p l e (headSpec wsX11_wayTo { frames := 0, cells := 0, slots := 0, locals := 0 }).room s m #[Value.ref g0, Value.int x1, Value.int x2] below meth c H locs 0 0 (MQ below (va_Qi (fun (r : Int32) (u : (Nat → Int32) × (Nat → Nat → Int32)) => mV u.1 ∧ mA u.2 ∧ scr v fa u.1 u.2) (fun u t => va_P (dC, dI) vwCl (mW g0 pq cp u.1 u.2) t.heap ∧ va_K (dC, dI) vwCl (mT cp) t ∧ va_D A (mW g0 pq cp u.1 u.2)) A) #[Value.ref g0, Value.int x1, Value.int x2] s 0 0 A) (F0 m 2 ls []) := by
    intro n
    induction n using Nat.strongRecOn with
    | ind n ih =>
      intro y_2 z_3 fz_4 H locs ls hm hy_2 hVz_3 hAz_3 hRz_3 hP hD hS hl
      refine lv_iload_n hx hb dX11_wayTo_2 rfl (lv_at hl 0 rfl) ?_
      refine lv_bipush (v := 10) hx hb dX11_wayTo_3 (by decide +kernel) ?_
      refine lv_icmp_ge (tgt := 31) hx hb dX11_wayTo_5 (by decide +kernel) (fun c_5 => ?_) (fun c_5 => ?_)
      · have dc_5 := c_le (a := 10) (b := y_2.toInt) (by decide +kernel) rfl c_5
        refine lv_iconst (v := 0) hx hb dX11_wayTo_31 (by decide +kernel) ?_
        refine lv_istore_n (lv' := [(3, .int 0), (0, .ref g0), (1, .int x1), (2, .int x2)]) hx hb dX11_wayTo_32 rfl hl (by decide +kernel) rfl (fun ls hl => ?_)
        have cut_6 : ∀ (n2 : Nat) (y_7 : Int32) (z_8 : Nat → Int32) (fz_9 : Nat → Nat → Int32) (H : Heap) (locs : List Loc) (ls : Array Slot), 10 - y_7.toInt ≤ (n2 : Int) → (0 ≤ y_7.toInt ∧ y_7.toInt ≤ 10) → mV z_8 → mA fz_9 → scr v fa z_8 fz_9 → va_P (dC, dI) vwCl (mW g0 pq cp z_8 fz_9) H → va_D A (mW g0 pq cp z_8 fz_9) → va_S A s.heap H locs → lv_has ls 6 [(3, .int y_7), (0, .ref g0), (1, .int x1), (2, .int x2)] → W p l e (headSpec wsX11_wayTo { frames := 0, cells := 0, slots := 0, locals := 0 }).room s m #[Value.ref g0, Value.int x1, Value.int x2] below meth c H locs 0 0 (MQ below (va_Qi (fun (r : Int32) (u : (Nat → Int32) × (Nat → Nat → Int32)) => mV u.1 ∧ mA u.2 ∧ scr v fa u.1 u.2) (fun u t => va_P (dC, dI) vwCl (mW g0 pq cp u.1 u.2) t.heap ∧ va_K (dC, dI) vwCl (mT cp) t ∧ va_D A (mW g0 pq cp u.1 u.2)) A) #[Value.ref g0, Value.int x1, Value.int x2] s 0 0 A) (F0 m 33 ls []) := by
          intro n2
          induction n2 using Nat.strongRecOn with
          | ind n2 ih2 =>
            intro y_7 z_8 fz_9 H locs ls hm hy_7 hVz_8 hAz_8 hRz_8 hP hD hS hl
            refine lv_iload_n hx hb dX11_wayTo_33 rfl (lv_at hl 0 rfl) ?_
            refine lv_bipush (v := 10) hx hb dX11_wayTo_34 (by decide +kernel) ?_
            refine lv_icmp_ge (tgt := 164) hx hb dX11_wayTo_36 (by decide +kernel) (fun c_10 => ?_) (fun c_10 => ?_)
            · have dc_10 := c_le (a := 10) (b := y_7.toInt) (by decide +kernel) rfl c_10
              refine lv_aload_n hx hb dX11_wayTo_164 rfl (lv_at hl 1 rfl) ?_
              refine va_get (D := (dC, dI)) (ci := 11) (v := .ref (pq 53)) (C := RX11) (T := TX11) (N := 63) hx hb hts in_wsX11_wayTo_X11 hown hK hP 0 rfl rfl 53 (by decide +kernel) (hts (.fieldLink RX11 134 "ShipOfficeModel" "far" "[I") iw_X11_wayTo_1) (fun _ h9 => h9) rfl dX11_wayTo_165 ?_
              refine lv_iload_n hx hb dX11_wayTo_168 rfl (lv_at hl 3 rfl) ?_
              refine va_iald hx hb hK hP 42 41 rfl rfl (vp_in_iff.mpr (by omega)) dX11_wayTo_169 ?_
              refine lv_topi (fun x_11 ex_11 => ?_)
              clear ex_11
              refine lv_ldc (v := 1000000000) hx hb hown (hts (.constant RX11 152 (1000000000)) (by decide +kernel)) dX11_wayTo_170 ?_
              refine lv_icmp_ne (tgt := 180) hx hb dX11_wayTo_172 (by decide +kernel) (fun c_12 => ?_) (fun c_12 => ?_)
              · have dc_12 := c_ne (a := x_11.toInt) (b := 1000000000) rfl (by decide +kernel) c_12
                refine lv_aload_n hx hb dX11_wayTo_180 rfl (lv_at hl 1 rfl) ?_
                refine va_get (D := (dC, dI)) (ci := 11) (v := .ref (pq 53)) (C := RX11) (T := TX11) (N := 63) hx hb hts in_wsX11_wayTo_X11 hown hK hP 0 rfl rfl 53 (by decide +kernel) (hts (.fieldLink RX11 134 "ShipOfficeModel" "far" "[I") iw_X11_wayTo_1) (fun _ h9 => h9) rfl dX11_wayTo_181 ?_
                refine lv_iload_n hx hb dX11_wayTo_184 rfl (lv_at hl 3 rfl) ?_
                refine va_iald hx hb hK hP 42 41 rfl rfl (vp_in_iff.mpr (by omega)) dX11_wayTo_185 ?_
                refine lv_topi (fun x_13 ex_13 => ?_)
                clear ex_13
                exact W.iret (v := x_13) hx hb hr (fun t ht hW => ⟨⟨x_13, (z_8, fz_9), rfl, ⟨hVz_8, hAz_8, hRz_8⟩, ⟨by rw [ht]; exact hP, va_K.moved hW.alike hK, hD⟩⟩, hS.F ht⟩) hS.2.2 dX11_wayTo_186
              · have dc_12 := c_eq (a := x_11.toInt) (b := 1000000000) rfl (by decide +kernel) c_12
                refine lv_bipush (v := (-9)) hx hb dX11_wayTo_175 (by decide +kernel) ?_
                refine lv_goto (tgt := 186) hx hb dX11_wayTo_177 (by decide +kernel) ?_
                exact W.iret (v := (-9)) hx hb hr (fun t ht hW => ⟨⟨(-9), (z_8, fz_9), rfl, ⟨hVz_8, hAz_8, hRz_8⟩, ⟨by rw [ht]; exact hP, va_K.moved hW.alike hK, hD⟩⟩, hS.F ht⟩) hS.2.2 dX11_wayTo_186
            · have dc_10 := c_nle (a := 10) (b := y_7.toInt) (by decide +kernel) rfl c_10
              refine lv_iconst (v := 0) hx hb dX11_wayTo_39 (by decide +kernel) ?_
              refine lv_istore (lv' := [(4, .int 0), (3, .int y_7), (0, .ref g0), (1, .int x1), (2, .int x2)]) hx hb dX11_wayTo_40 hl (by decide +kernel) rfl (fun ls hl => ?_)
              have cut_14 : ∀ (n3 : Nat) (y_15 : Int32) (z_16 : Nat → Int32) (fz_17 : Nat → Nat → Int32) (H : Heap) (locs : List Loc) (ls : Array Slot), 10 - y_15.toInt ≤ (n3 : Int) → (0 ≤ y_15.toInt ∧ y_15.toInt ≤ 10) → mV z_16 → mA fz_17 → scr v fa z_16 fz_17 → va_P (dC, dI) vwCl (mW g0 pq cp z_16 fz_17) H → va_D A (mW g0 pq cp z_16 fz_17) → va_S A s.heap H locs → lv_has ls 6 [(4, .int y_15), (3, .int y_7), (0, .ref g0), (1, .int x1), (2, .int x2)] → W p l e (headSpec wsX11_wayTo { frames := 0, cells := 0, slots := 0, locals := 0 }).room s m #[Value.ref g0, Value.int x1, Value.int x2] below meth c H locs 0 0 (MQ below (va_Qi (fun (r : Int32) (u : (Nat → Int32) × (Nat → Nat → Int32)) => mV u.1 ∧ mA u.2 ∧ scr v fa u.1 u.2) (fun u t => va_P (dC, dI) vwCl (mW g0 pq cp u.1 u.2) t.heap ∧ va_K (dC, dI) vwCl (mT cp) t ∧ va_D A (mW g0 pq cp u.1 u.2)) A) #[Value.ref g0, Value.int x1, Value.int x2] s 0 0 A) (F0 m 42 ls []) := by
                intro n3
                induction n3 using Nat.strongRecOn with
                | ind n3 ih3 =>
                  intro y_15 z_16 fz_17 H locs ls hm hy_15 hVz_16 hAz_16 hRz_16 hP hD hS hl
                  refine lv_iload hx hb dX11_wayTo_42 (lv_at hl 0 rfl) ?_
                  refine lv_bipush (v := 10) hx hb dX11_wayTo_44 (by decide +kernel) ?_
                  refine lv_icmp_ge (tgt := 158) hx hb dX11_wayTo_46 (by decide +kernel) (fun c_18 => ?_) (fun c_18 => ?_)
                  · have dc_18 := c_le (a := 10) (b := y_15.toInt) (by decide +kernel) rfl c_18
                    obtain ⟨x_19, ex_19⟩ : ∃ zq : Int32, y_7 + 1 = zq := ⟨_, rfl⟩
                    have hx_19 : x_19.toInt = y_7.toInt + 1 := (iv_to ex_19).symm.trans (ad_i rfl (by decide +kernel) (by omega) (by omega))
                    refine lv_iinc (v := x_19) (lv' := [(3, .int x_19), (4, .int y_15), (0, .ref g0), (1, .int x1), (2, .int x2)]) hx hb dX11_wayTo_158 hl (k := 1) rfl ex_19 (by decide +kernel) rfl (fun ls hl => ?_)
                    clear ex_19
                    refine lv_goto (tgt := 33) hx hb dX11_wayTo_161 (by decide +kernel) ?_
                    exact ih2 (n2 - 1) (by omega) x_19 z_16 fz_17 _ _ ls (by omega) (by omega) hVz_16 hAz_16 hRz_16 hP hD hS (lv_sub hl [0, 2, 3, 4] rfl)
                  · have dc_18 := c_nle (a := 10) (b := y_15.toInt) (by decide +kernel) rfl c_18
                    refine lv_iconst (v := 0) hx hb dX11_wayTo_49 (by decide +kernel) ?_
                    refine lv_istore (lv' := [(5, .int 0), (4, .int y_15), (3, .int y_7), (0, .ref g0), (1, .int x1), (2, .int x2)]) hx hb dX11_wayTo_50 hl (by decide +kernel) rfl (fun ls hl => ?_)
                    have cut_20 : ∀ (n4 : Nat) (y_21 : Int32) (z_22 : Nat → Int32) (fz_23 : Nat → Nat → Int32) (H : Heap) (locs : List Loc) (ls : Array Slot), 10 - y_21.toInt ≤ (n4 : Int) → (0 ≤ y_21.toInt ∧ y_21.toInt ≤ 10) → mV z_22 → mA fz_23 → scr v fa z_22 fz_23 → va_P (dC, dI) vwCl (mW g0 pq cp z_22 fz_23) H → va_D A (mW g0 pq cp z_22 fz_23) → va_S A s.heap H locs → lv_has ls 6 [(5, .int y_21), (4, .int y_15), (3, .int y_7), (0, .ref g0), (1, .int x1), (2, .int x2)] → W p l e (headSpec wsX11_wayTo { frames := 0, cells := 0, slots := 0, locals := 0 }).room s m #[Value.ref g0, Value.int x1, Value.int x2] below meth c H locs 0 0 (MQ below (va_Qi (fun (r : Int32) (u : (Nat → Int32) × (Nat → Nat → Int32)) => mV u.1 ∧ mA u.2 ∧ scr v fa u.1 u.2) (fun u t => va_P (dC, dI) vwCl (mW g0 pq cp u.1 u.2) t.heap ∧ va_K (dC, dI) vwCl (mT cp) t ∧ va_D A (mW g0 pq cp u.1 u.2)) A) #[Value.ref g0, Value.int x1, Value.int x2] s 0 0 A) (F0 m 52 ls []) := by
                      intro n4
                      induction n4 using Nat.strongRecOn with
                      | ind n4 ih4 =>
                        intro y_21 z_22 fz_23 H locs ls hm hy_21 hVz_22 hAz_22 hRz_22 hP hD hS hl
                        refine lv_iload hx hb dX11_wayTo_52 (lv_at hl 0 rfl) ?_
                        refine lv_bipush (v := 10) hx hb dX11_wayTo_54 (by decide +kernel) ?_
                        refine lv_icmp_ge (tgt := 152) hx hb dX11_wayTo_56 (by decide +kernel) (fun c_24 => ?_) (fun c_24 => ?_)
                        · have dc_24 := c_le (a := 10) (b := y_21.toInt) (by decide +kernel) rfl c_24
                          obtain ⟨x_25, ex_25⟩ : ∃ zq : Int32, y_15 + 1 = zq := ⟨_, rfl⟩
                          have hx_25 : x_25.toInt = y_15.toInt + 1 := (iv_to ex_25).symm.trans (ad_i rfl (by decide +kernel) (by omega) (by omega))
                          refine lv_iinc (v := x_25) (lv' := [(4, .int x_25), (5, .int y_21), (3, .int y_7), (0, .ref g0), (1, .int x1), (2, .int x2)]) hx hb dX11_wayTo_152 hl (k := 1) rfl ex_25 (by decide +kernel) rfl (fun ls hl => ?_)
                          clear ex_25
                          refine lv_goto (tgt := 42) hx hb dX11_wayTo_155 (by decide +kernel) ?_
                          exact ih3 (n3 - 1) (by omega) x_25 z_22 fz_23 _ _ ls (by omega) (by omega) hVz_22 hAz_22 hRz_22 hP hD hS (lv_sub hl [0, 2, 3, 4, 5] rfl)
                        · have dc_24 := c_nle (a := 10) (b := y_21.toInt) (by decide +kernel) rfl c_24
                          have cut_26 : ∀ (z_27 : Nat → Int32) (fz_28 : Nat → Nat → Int32) (H : Heap) (locs : List Loc) (ls : Array Slot), mV z_27 → mA fz_28 → scr v fa z_27 fz_28 → va_P (dC, dI) vwCl (mW g0 pq cp z_27 fz_28) H → va_D A (mW g0 pq cp z_27 fz_28) → va_S A s.heap H locs → lv_has ls 6 [(5, .int y_21), (4, .int y_15), (3, .int y_7), (0, .ref g0), (1, .int x1), (2, .int x2)] → W p l e (headSpec wsX11_wayTo { frames := 0, cells := 0, slots := 0, locals := 0 }).room s m #[Value.ref g0, Value.int x1, Value.int x2] below meth c H locs 0 0 (MQ below (va_Qi (fun (r : Int32) (u : (Nat → Int32) × (Nat → Nat → Int32)) => mV u.1 ∧ mA u.2 ∧ scr v fa u.1 u.2) (fun u t => va_P (dC, dI) vwCl (mW g0 pq cp u.1 u.2) t.heap ∧ va_K (dC, dI) vwCl (mT cp) t ∧ va_D A (mW g0 pq cp u.1 u.2)) A) #[Value.ref g0, Value.int x1, Value.int x2] s 0 0 A) (F0 m 146 ls []) := by
                            intro  z_27 fz_28 H locs ls hVz_27 hAz_27 hRz_27 hP hD hS hl
                            obtain ⟨x_29, ex_29⟩ : ∃ zq : Int32, y_21 + 1 = zq := ⟨_, rfl⟩
                            have hx_29 : x_29.toInt = y_21.toInt + 1 := (iv_to ex_29).symm.trans (ad_i rfl (by decide +kernel) (by omega) (by omega))
                            refine lv_iinc (v := x_29) (lv' := [(5, .int x_29), (4, .int y_15), (3, .int y_7), (0, .ref g0), (1, .int x1), (2, .int x2)]) hx hb dX11_wayTo_146 hl (k := 0) rfl ex_29 (by decide +kernel) rfl (fun ls hl => ?_)
                            clear ex_29
                            refine lv_goto (tgt := 52) hx hb dX11_wayTo_149 (by decide +kernel) ?_
                            exact ih4 (n4 - 1) (by omega) x_29 z_27 fz_28 _ _ ls (by omega) (by omega) hVz_27 hAz_27 hRz_27 hP hD hS (lv_sub hl [0, 1, 2, 3, 4, 5] rfl)
                          refine lv_aload_n hx hb dX11_wayTo_59 rfl (lv_at hl 3 rfl) ?_
                          refine va_get (D := (dC, dI)) (ci := 11) (v := .ref (pq 1)) (C := RX11) (T := TX11) (N := 63) hx hb hts in_wsX11_wayTo_X11 hown hK hP 0 rfl rfl 1 (by decide +kernel) (hts (.fieldLink RX11 13 "ShipOfficeModel" "mile" "[I") iw_X11_wayTo_2) (fun _ h9 => h9) rfl dX11_wayTo_60 ?_
                          refine lv_bipush (v := 10) hx hb dX11_wayTo_63 (by decide +kernel) ?_
                          refine lv_iload hx hb dX11_wayTo_65 (lv_at hl 1 rfl) ?_
                          refine lv_imul hx hb dX11_wayTo_67 ?_
                          refine lv_topi (fun x_30 ex_30 => ?_)
                          have hx_30 : x_30.toInt = 10 * y_15.toInt := (iv_to ex_30).trans (mu_i (by decide +kernel) rfl (by omega) (by omega))
                          clear ex_30
                          refine lv_iload hx hb dX11_wayTo_68 (lv_at hl 0 rfl) ?_
                          refine lv_iadd hx hb dX11_wayTo_70 ?_
                          refine lv_topi (fun x_31 ex_31 => ?_)
                          have hx_31 : x_31.toInt = x_30.toInt + y_21.toInt := (iv_to ex_31).trans (ad_i rfl rfl (by omega) (by omega))
                          clear ex_31
                          refine va_iald hx hb hK hP 2 1 rfl rfl (vp_in_iff.mpr (by omega)) dX11_wayTo_71 ?_
                          refine lv_topi (fun x_32 ex_32 => ?_)
                          clear ex_32
                          refine lv_if_le (tgt := 146) hx hb dX11_wayTo_72 (by decide +kernel) (fun c_33 => ?_) (fun c_33 => ?_)
                          · have dc_33 := c_le (a := x_32.toInt) (b := 0) rfl (by decide +kernel) c_33
                            exact cut_26  z_22 fz_23 _ _ ls  hVz_22 hAz_22 hRz_22 hP hD hS (lv_sub hl [0, 1, 2, 3, 4, 5] rfl)
                          · have dc_33 := c_nle (a := x_32.toInt) (b := 0) rfl (by decide +kernel) c_33
                            refine lv_aload_n hx hb dX11_wayTo_75 rfl (lv_at hl 3 rfl) ?_
                            refine va_get (D := (dC, dI)) (ci := 11) (v := .ref (pq 53)) (C := RX11) (T := TX11) (N := 63) hx hb hts in_wsX11_wayTo_X11 hown hK hP 0 rfl rfl 53 (by decide +kernel) (hts (.fieldLink RX11 134 "ShipOfficeModel" "far" "[I") iw_X11_wayTo_1) (fun _ h9 => h9) rfl dX11_wayTo_76 ?_
                            refine lv_iload hx hb dX11_wayTo_79 (lv_at hl 1 rfl) ?_
                            refine va_iald hx hb hK hP 42 41 rfl rfl (vp_in_iff.mpr (by omega)) dX11_wayTo_81 ?_
                            refine lv_topi (fun x_34 ex_34 => ?_)
                            clear ex_34
                            refine lv_ldc (v := 1000000000) hx hb hown (hts (.constant RX11 152 (1000000000)) (by decide +kernel)) dX11_wayTo_82 ?_
                            refine lv_icmp_ge (tgt := 146) hx hb dX11_wayTo_84 (by decide +kernel) (fun c_35 => ?_) (fun c_35 => ?_)
                            · have dc_35 := c_le (a := 1000000000) (b := x_34.toInt) (by decide +kernel) rfl c_35
                              exact cut_26  z_22 fz_23 _ _ ls  hVz_22 hAz_22 hRz_22 hP hD hS (lv_sub hl [0, 1, 2, 3, 4, 5] rfl)
                            · have dc_35 := c_nle (a := 1000000000) (b := x_34.toInt) (by decide +kernel) rfl c_35
                              refine lv_aload_n hx hb dX11_wayTo_87 rfl (lv_at hl 3 rfl) ?_
                              refine va_get (D := (dC, dI)) (ci := 11) (v := .ref (pq 53)) (C := RX11) (T := TX11) (N := 63) hx hb hts in_wsX11_wayTo_X11 hown hK hP 0 rfl rfl 53 (by decide +kernel) (hts (.fieldLink RX11 134 "ShipOfficeModel" "far" "[I") iw_X11_wayTo_1) (fun _ h9 => h9) rfl dX11_wayTo_88 ?_
                              refine lv_iload hx hb dX11_wayTo_91 (lv_at hl 1 rfl) ?_
                              refine va_iald hx hb hK hP 42 41 rfl rfl (vp_in_iff.mpr (by omega)) dX11_wayTo_93 ?_
                              refine lv_topi (fun x_36 ex_36 => ?_)
                              clear ex_36
                              refine lv_aload_n hx hb dX11_wayTo_94 rfl (lv_at hl 3 rfl) ?_
                              refine va_get (D := (dC, dI)) (ci := 11) (v := .ref (pq 1)) (C := RX11) (T := TX11) (N := 63) hx hb hts in_wsX11_wayTo_X11 hown hK hP 0 rfl rfl 1 (by decide +kernel) (hts (.fieldLink RX11 13 "ShipOfficeModel" "mile" "[I") iw_X11_wayTo_2) (fun _ h9 => h9) rfl dX11_wayTo_95 ?_
                              refine lv_bipush (v := 10) hx hb dX11_wayTo_98 (by decide +kernel) ?_
                              refine lv_iload hx hb dX11_wayTo_100 (lv_at hl 1 rfl) ?_
                              refine lv_imul hx hb dX11_wayTo_102 ?_
                              refine lv_topi (fun x_37 ex_37 => ?_)
                              have hx_37 : x_37.toInt = 10 * y_15.toInt := (iv_to ex_37).trans (mu_i (by decide +kernel) rfl (by omega) (by omega))
                              clear ex_37
                              refine lv_iload hx hb dX11_wayTo_103 (lv_at hl 0 rfl) ?_
                              refine lv_iadd hx hb dX11_wayTo_105 ?_
                              refine lv_topi (fun x_38 ex_38 => ?_)
                              have hx_38 : x_38.toInt = x_37.toInt + y_21.toInt := (iv_to ex_38).trans (ad_i rfl rfl (by omega) (by omega))
                              clear ex_38
                              refine va_iald hx hb hK hP 2 1 rfl rfl (vp_in_iff.mpr (by omega)) dX11_wayTo_106 ?_
                              refine lv_topi (fun x_39 ex_39 => ?_)
                              clear ex_39
                              refine lv_iadd hx hb dX11_wayTo_107 ?_
                              refine lv_topi (fun x_40 ex_40 => ?_)
                              clear ex_40
                              refine lv_aload_n hx hb dX11_wayTo_108 rfl (lv_at hl 3 rfl) ?_
                              refine va_get (D := (dC, dI)) (ci := 11) (v := .ref (pq 53)) (C := RX11) (T := TX11) (N := 63) hx hb hts in_wsX11_wayTo_X11 hown hK hP 0 rfl rfl 53 (by decide +kernel) (hts (.fieldLink RX11 134 "ShipOfficeModel" "far" "[I") iw_X11_wayTo_1) (fun _ h9 => h9) rfl dX11_wayTo_109 ?_
                              refine lv_iload hx hb dX11_wayTo_112 (lv_at hl 0 rfl) ?_
                              refine va_iald hx hb hK hP 42 41 rfl rfl (vp_in_iff.mpr (by omega)) dX11_wayTo_114 ?_
                              refine lv_topi (fun x_41 ex_41 => ?_)
                              clear ex_41
                              refine lv_icmp_ge (tgt := 146) hx hb dX11_wayTo_115 (by decide +kernel) (fun c_42 => ?_) (fun c_42 => ?_)
                              · have dc_42 := c_le (a := x_41.toInt) (b := x_40.toInt) rfl rfl c_42
                                exact cut_26  z_22 fz_23 _ _ ls  hVz_22 hAz_22 hRz_22 hP hD hS (lv_sub hl [0, 1, 2, 3, 4, 5] rfl)
                              · have dc_42 := c_nle (a := x_41.toInt) (b := x_40.toInt) rfl rfl c_42
                                refine lv_aload_n hx hb dX11_wayTo_118 rfl (lv_at hl 3 rfl) ?_
                                refine va_get (D := (dC, dI)) (ci := 11) (v := .ref (pq 53)) (C := RX11) (T := TX11) (N := 63) hx hb hts in_wsX11_wayTo_X11 hown hK hP 0 rfl rfl 53 (by decide +kernel) (hts (.fieldLink RX11 134 "ShipOfficeModel" "far" "[I") iw_X11_wayTo_1) (fun _ h9 => h9) rfl dX11_wayTo_119 ?_
                                refine lv_iload hx hb dX11_wayTo_122 (lv_at hl 0 rfl) ?_
                                refine lv_aload_n hx hb dX11_wayTo_124 rfl (lv_at hl 3 rfl) ?_
                                refine va_get (D := (dC, dI)) (ci := 11) (v := .ref (pq 53)) (C := RX11) (T := TX11) (N := 63) hx hb hts in_wsX11_wayTo_X11 hown hK hP 0 rfl rfl 53 (by decide +kernel) (hts (.fieldLink RX11 134 "ShipOfficeModel" "far" "[I") iw_X11_wayTo_1) (fun _ h9 => h9) rfl dX11_wayTo_125 ?_
                                refine lv_iload hx hb dX11_wayTo_128 (lv_at hl 1 rfl) ?_
                                refine va_iald hx hb hK hP 42 41 rfl rfl (vp_in_iff.mpr (by omega)) dX11_wayTo_130 ?_
                                refine lv_topi (fun x_43 ex_43 => ?_)
                                clear ex_43
                                refine lv_aload_n hx hb dX11_wayTo_131 rfl (lv_at hl 3 rfl) ?_
                                refine va_get (D := (dC, dI)) (ci := 11) (v := .ref (pq 1)) (C := RX11) (T := TX11) (N := 63) hx hb hts in_wsX11_wayTo_X11 hown hK hP 0 rfl rfl 1 (by decide +kernel) (hts (.fieldLink RX11 13 "ShipOfficeModel" "mile" "[I") iw_X11_wayTo_2) (fun _ h9 => h9) rfl dX11_wayTo_132 ?_
                                refine lv_bipush (v := 10) hx hb dX11_wayTo_135 (by decide +kernel) ?_
                                refine lv_iload hx hb dX11_wayTo_137 (lv_at hl 1 rfl) ?_
                                refine lv_imul hx hb dX11_wayTo_139 ?_
                                refine lv_topi (fun x_44 ex_44 => ?_)
                                have hx_44 : x_44.toInt = 10 * y_15.toInt := (iv_to ex_44).trans (mu_i (by decide +kernel) rfl (by omega) (by omega))
                                clear ex_44
                                refine lv_iload hx hb dX11_wayTo_140 (lv_at hl 0 rfl) ?_
                                refine lv_iadd hx hb dX11_wayTo_142 ?_
                                refine lv_topi (fun x_45 ex_45 => ?_)
                                have hx_45 : x_45.toInt = x_44.toInt + y_21.toInt := (iv_to ex_45).trans (ad_i rfl rfl (by omega) (by omega))
                                clear ex_45
                                refine va_iald hx hb hK hP 2 1 rfl rfl (vp_in_iff.mpr (by omega)) dX11_wayTo_143 ?_
                                refine lv_topi (fun x_46 ex_46 => ?_)
                                clear ex_46
                                refine lv_iadd hx hb dX11_wayTo_144 ?_
                                refine lv_topi (fun x_47 ex_47 => ?_)
                                clear ex_47
                                refine va_iast hx hb hK hP hD hS 42 41 rfl rfl (vp_in_iff.mpr (by omega)) dX11_wayTo_145 (fun H locs hP hD hS => ?_)
                                have hP : va_P (dC, dI) vwCl (mW g0 pq cp z_22 (upF fz_23 53 (y_21 : Int32).toNatClampNeg x_47)) H := hP
                                have hD : va_D A (mW g0 pq cp z_22 (upF fz_23 53 (y_21 : Int32).toNatClampNeg x_47)) := hD
                                obtain ⟨fz_48, efz_48⟩ : ∃ zq, zq = (upF fz_23 53 (y_21 : Int32).toNatClampNeg x_47) := ⟨_, rfl⟩
                                rw [← efz_48] at hP hD
                                have hAfz_48 : mA fz_48 := by rw [efz_48]; exact mA_upF (lo := -2147483648) (hi := 2147483647) hAz_22 rfl rfl (iv_all _)
                                have hRfz_48 : scr v fa z_22 fz_48 := by rw [efz_48]; exact scr.uF hRz_22 rfl
                                exact cut_26  z_22 fz_48 _ _ ls  hVz_22 hAfz_48 hRfz_48 hP hD hS (lv_sub hl [0, 1, 2, 3, 4, 5] rfl)
                    have kc_49 : (0 : Int32).toInt = 0 := by decide
                    exact cut_20 11 0 z_16 fz_17 _ _ ls (by omega) (by decide +kernel) hVz_16 hAz_16 hRz_16 hP hD hS (lv_sub hl [0, 1, 2, 3, 4, 5] rfl)
              have kc_50 : (0 : Int32).toInt = 0 := by decide
              exact cut_14 11 0 z_8 fz_9 _ _ ls (by omega) (by decide +kernel) hVz_8 hAz_8 hRz_8 hP hD hS (lv_sub hl [0, 1, 2, 3, 4] rfl)
        have kc_51 : (0 : Int32).toInt = 0 := by decide
        exact cut_6 11 0 z_3 fz_4 _ _ ls (by omega) (by decide +kernel) hVz_3 hAz_3 hRz_3 hP hD hS (lv_sub hl [0, 1, 2, 3] rfl)
      · have dc_5 := c_nle (a := 10) (b := y_2.toInt) (by decide +kernel) rfl c_5
        refine lv_aload_n hx hb dX11_wayTo_8 rfl (lv_at hl 1 rfl) ?_
        refine va_get (D := (dC, dI)) (ci := 11) (v := .ref (pq 53)) (C := RX11) (T := TX11) (N := 63) hx hb hts in_wsX11_wayTo_X11 hown hK hP 0 rfl rfl 53 (by decide +kernel) (hts (.fieldLink RX11 134 "ShipOfficeModel" "far" "[I") iw_X11_wayTo_1) (fun _ h9 => h9) rfl dX11_wayTo_9 ?_
        refine lv_iload_n hx hb dX11_wayTo_12 rfl (lv_at hl 0 rfl) ?_
        refine lv_iload_n hx hb dX11_wayTo_13 rfl (lv_at hl 0 rfl) ?_
        refine lv_iload_n hx hb dX11_wayTo_14 rfl (lv_at hl 2 rfl) ?_
        refine lv_icmp_ne (tgt := 22) hx hb dX11_wayTo_15 (by decide +kernel) (fun c_52 => ?_) (fun c_52 => ?_)
        · have dc_52 := c_ne (a := y_2.toInt) (b := x1.toInt) rfl rfl c_52
          refine lv_ldc (v := 1000000000) hx hb hown (hts (.constant RX11 152 (1000000000)) (by decide +kernel)) dX11_wayTo_22 ?_
          refine va_iast hx hb hK hP hD hS 42 41 rfl rfl (vp_in_iff.mpr (by omega)) dX11_wayTo_24 (fun H locs hP hD hS => ?_)
          have hP : va_P (dC, dI) vwCl (mW g0 pq cp z_3 (upF fz_4 53 (y_2 : Int32).toNatClampNeg 1000000000)) H := hP
          have hD : va_D A (mW g0 pq cp z_3 (upF fz_4 53 (y_2 : Int32).toNatClampNeg 1000000000)) := hD
          obtain ⟨fz_53, efz_53⟩ : ∃ zq, zq = (upF fz_4 53 (y_2 : Int32).toNatClampNeg 1000000000) := ⟨_, rfl⟩
          rw [← efz_53] at hP hD
          have hAfz_53 : mA fz_53 := by rw [efz_53]; exact mA_upF (lo := -2147483648) (hi := 2147483647) hAz_3 rfl rfl (iv_all _)
          have hRfz_53 : scr v fa z_3 fz_53 := by rw [efz_53]; exact scr.uF hRz_3 rfl
          obtain ⟨x_54, ex_54⟩ : ∃ zq : Int32, y_2 + 1 = zq := ⟨_, rfl⟩
          have hx_54 : x_54.toInt = y_2.toInt + 1 := (iv_to ex_54).symm.trans (ad_i rfl (by decide +kernel) (by omega) (by omega))
          refine lv_iinc (v := x_54) (lv' := [(3, .int x_54), (0, .ref g0), (1, .int x1), (2, .int x2)]) hx hb dX11_wayTo_25 hl (k := 0) rfl ex_54 (by decide +kernel) rfl (fun ls hl => ?_)
          clear ex_54
          refine lv_goto (tgt := 2) hx hb dX11_wayTo_28 (by decide +kernel) ?_
          exact ih (n - 1) (by omega) x_54 z_3 fz_53 _ _ ls (by omega) (by omega) hVz_3 hAfz_53 hRfz_53 hP hD hS (lv_sub hl [0, 1, 2, 3] rfl)
        · have dc_52 := c_eq (a := y_2.toInt) (b := x1.toInt) rfl rfl c_52
          refine lv_iconst (v := 0) hx hb dX11_wayTo_18 (by decide +kernel) ?_
          refine lv_goto (tgt := 24) hx hb dX11_wayTo_19 (by decide +kernel) ?_
          refine va_iast hx hb hK hP hD hS 42 41 rfl rfl (vp_in_iff.mpr (by omega)) dX11_wayTo_24 (fun H locs hP hD hS => ?_)
          have hP : va_P (dC, dI) vwCl (mW g0 pq cp z_3 (upF fz_4 53 (y_2 : Int32).toNatClampNeg 0)) H := hP
          have hD : va_D A (mW g0 pq cp z_3 (upF fz_4 53 (y_2 : Int32).toNatClampNeg 0)) := hD
          obtain ⟨fz_55, efz_55⟩ : ∃ zq, zq = (upF fz_4 53 (y_2 : Int32).toNatClampNeg 0) := ⟨_, rfl⟩
          rw [← efz_55] at hP hD
          have hAfz_55 : mA fz_55 := by rw [efz_55]; exact mA_upF (lo := -2147483648) (hi := 2147483647) hAz_3 rfl rfl (iv_all _)
          have hRfz_55 : scr v fa z_3 fz_55 := by rw [efz_55]; exact scr.uF hRz_3 rfl
          obtain ⟨x_56, ex_56⟩ : ∃ zq : Int32, y_2 + 1 = zq := ⟨_, rfl⟩
          have hx_56 : x_56.toInt = y_2.toInt + 1 := (iv_to ex_56).symm.trans (ad_i rfl (by decide +kernel) (by omega) (by omega))
          refine lv_iinc (v := x_56) (lv' := [(3, .int x_56), (0, .ref g0), (1, .int x1), (2, .int x2)]) hx hb dX11_wayTo_25 hl (k := 0) rfl ex_56 (by decide +kernel) rfl (fun ls hl => ?_)
          clear ex_56
          refine lv_goto (tgt := 2) hx hb dX11_wayTo_28 (by decide +kernel) ?_
          exact ih (n - 1) (by omega) x_56 z_3 fz_55 _ _ ls (by omega) (by omega) hVz_3 hAfz_55 hRfz_55 hP hD hS (lv_sub hl [0, 1, 2, 3] rfl)
  have kc_57 : (0 : Int32).toInt = 0 := by decide
  exact cut_1 11 0 v fa _ _ ls (by omega) (by decide +kernel) gV gA scr.rf hP hD hS (lv_sub hl [0, 1, 2, 3] rfl)
set_option maxHeartbeats 4000000 in
set_option maxRecDepth 100000 in
theorem c_X11_home (l : Launch) (dC : Nat → ClassId) (dI : Nat → Nat → Nat) (sz : Nat) (g0 : Nat) (pq : Nat → Nat) (cp : Nat → ClassId) (v : Nat → Int32) (fa : Nat → Nat → Int32) (gV : mV v) (gA : mA fa) (x1 : Int32) : Met l yX11_home wsX11_home ({ frames := 23, cells := 0, slots := 0, locals := 533 }) (va_Pc [.ref g0, .int x1] (pcW (dC, dI) (mT cp) (mW g0 pq cp v fa) sz)) (va_Qi (fun (r : Int32) (u : (Nat → Int32) × (Nat → Nat → Int32)) => mV u.1 ∧ mA u.2 ∧ mX [0, 45, 47, 48, 49, 50, 51, 52, 53, 54, 55, 56, 57, 58, 59, 60] v fa u.1 u.2) (fun u t => va_P (dC, dI) vwCl (mW g0 pq cp u.1 u.2) t.heap ∧ va_K (dC, dI) vwCl (mT cp) t ∧ va_D (va_A (mW g0 pq cp v fa) sz) (mW g0 pq cp u.1 u.2)) (va_A (mW g0 pq cp v fa) sz)) 0 0 (va_A (mW g0 pq cp v fa) sz) := by
  refine Met.ofW (cc := cX11_home) (maxL := 4) (ret := (some .int)) (by decide +kernel) rfl ?_
  intro p e s m args below meth c s₁ B hml hv
  obtain ⟨rfl, hsz, hP, hK, hD0⟩ := hv
  have hx := B.exec
  have hb := B.bytes
  have hr := B.returns
  have hts := atoms_spec (ws := wsX11_home) B.pre
  have hown : s.vm.findClass RX11 = some m.cls := findClass_of_methodNamed B.named
  have hlocks := B.notSynchronized
  subst hsz
  have hD := hD0.self (sz := s.heap.size)
  generalize hAe : va_A (mW g0 pq cp v fa) s.heap.size = A at hD ⊢
  have hA : ∀ q : Nat, s.heap.size ≤ q → A q := fun q h => by rw [← hAe]; exact Or.inr h
  have hS : va_S A s.heap s.heap [] := va_S.rf
  have hP : va_P (dC, dI) vwCl (mW g0 pq cp v fa) s.heap := hP
  have hl := lv_entry ([.ref g0, .int x1]) (n := 4) (Nat.le_of_ble_eq_true rfl)
  rw [lg_entry_eq]
  generalize (lg_sl ([.ref g0, .int x1]) ++ List.replicate (4 - (lg_sl ([.ref g0, .int x1])).length) Slot.unset).toArray = ls at hl ⊢
  have hl : lv_has ls 4 [(0, .ref g0), (1, .int x1)] := hl
  refine lv_aload_n hx hb dX11_home_0 rfl (lv_at hl 0 rfl) ?_
  refine lv_iload_n hx hb dX11_home_1 rfl (lv_at hl 1 rfl) ?_
  have hFc : ∀ q, va_A [] s.heap.size q → A q := pu_free hS hA
  refine va_calli (va_runV (As := [.int x1]) (rest := []) ⟨hx, hb, hml, hown, hts⟩ (c_X11_isMan l dC dI s.heap.size g0 pq cp v fa x1) (cwV 1 hts gX11_home_X11_isMan rfl rfl rfl (by decide +kernel) ⟨(Nat.le_of_ble_eq_true rfl), (Nat.le_of_ble_eq_true rfl)⟩) (pr_V (r := (RX11, TX11, 63)) hP hK hD 0 11 rfl rfl) rfl rfl hl.1 rfl (lv_room (Nat.le_of_ble_eq_true rfl)) dX11_home_2 ⟨(Nat.le_of_ble_eq_true rfl), (Nat.le_of_ble_eq_true rfl)⟩) hS (fun q _ h => hFc q h) hFc (fun r_2 u t H locs ht hvm w_1 hB hz1 hk1 hS => ?_)
  have hP := pu_keep hP hk1
  clear hk1 hz1 hvm hB ht hFc
  have hbr_2 : 0 ≤ r_2.toInt ∧ r_2.toInt ≤ 1 := iv_of w_1 (isI_i _ _)
  refine lv_if_ne (tgt := 14) hx hb dX11_home_5 (by decide +kernel) (fun c_3 => ?_) (fun c_3 => ?_)
  · have dc_3 := c_ne (a := r_2.toInt) (b := 0) rfl (by decide +kernel) c_3
    have hi_4 := isI_t w_1 (fun q => c_3 (Int32.toInt_inj.mp q))
    have khi_4 : (v 39).toInt ≤ 40 := (gV 39).2
    refine lv_iconst (v := 0) hx hb dX11_home_14 (by decide +kernel) ?_
    refine lv_istore_n (lv' := [(2, .int 0), (0, .ref g0), (1, .int x1)]) hx hb dX11_home_15 rfl hl (by decide +kernel) rfl (fun ls hl => ?_)
    have cut_5 : ∀ (n : Nat) (y_6 : Int32) (z_7 : Nat → Int32) (fz_8 : Nat → Nat → Int32) (H : Heap) (locs : List Loc) (ls : Array Slot), 60 - y_6.toInt ≤ (n : Int) → (0 ≤ y_6.toInt ∧ y_6.toInt ≤ 60) → mV z_7 → mA fz_8 → mX [0, 45, 47, 48, 49, 50, 51, 52, 53, 54, 55, 56, 57, 58, 59, 60] v fa z_7 fz_8 → va_P (dC, dI) vwCl (mW g0 pq cp z_7 fz_8) H → va_D A (mW g0 pq cp z_7 fz_8) → va_S A s.heap H locs → (z_7 38).toInt = (v 38).toInt → lv_has ls 4 [(2, .int y_6), (0, .ref g0), (1, .int x1)] → W p l e (headSpec wsX11_home { frames := 23, cells := 0, slots := 0, locals := 533 }).room s m #[Value.ref g0, Value.int x1] below meth c H locs 0 0 (MQ below (va_Qi (fun (r : Int32) (u : (Nat → Int32) × (Nat → Nat → Int32)) => mV u.1 ∧ mA u.2 ∧ mX [0, 45, 47, 48, 49, 50, 51, 52, 53, 54, 55, 56, 57, 58, 59, 60] v fa u.1 u.2) (fun u t => va_P (dC, dI) vwCl (mW g0 pq cp u.1 u.2) t.heap ∧ va_K (dC, dI) vwCl (mT cp) t ∧ va_D A (mW g0 pq cp u.1 u.2)) A) #[Value.ref g0, Value.int x1] s 0 0 A) (F0 m 16 ls []) := by
      intro n
      induction n using Nat.strongRecOn with
      | ind n ih =>
        intro y_6 z_7 fz_8 H locs ls hm hy_6 hVz_7 hAz_7 hRz_7 hP hD hS g_9 hl
        refine lv_iload_n hx hb dX11_home_16 rfl (lv_at hl 0 rfl) ?_
        refine lv_aload_n hx hb dX11_home_17 rfl (lv_at hl 1 rfl) ?_
        refine va_get (D := (dC, dI)) (ci := 11) (v := .int (z_7 43)) (C := RX11) (T := TX11) (N := 63) hx hb hts in_wsX11_home_X11 hown hK hP 0 rfl rfl 43 (by decide +kernel) (hts (.fieldLink RX11 168 "ShipOfficeModel" "agreements" "I") iw_X11_home_1) (fun _ h9 => h9) rfl dX11_home_18 ?_
        refine lv_topi (fun x_10 ex_10 => ?_)
        have hx_10 : 0 ≤ x_10.toInt ∧ x_10.toInt ≤ 60 := iv_of ex_10 (hVz_7 43)
        clear ex_10
        refine lv_icmp_ge (tgt := 106) hx hb dX11_home_21 (by decide +kernel) (fun c_11 => ?_) (fun c_11 => ?_)
        · have dc_11 := c_le (a := x_10.toInt) (b := y_6.toInt) rfl rfl c_11
          refine lv_aload_n hx hb dX11_home_106 rfl (lv_at hl 1 rfl) ?_
          refine lv_bipush (v := (-3)) hx hb dX11_home_107 (by decide +kernel) ?_
          have hFc := va_free (wc := (mW g0 pq cp z_7 fz_8)) hD hS hA (List.range 48) rfl
          refine va_calli (va_runV (As := [.int (-3)]) (rest := []) ⟨hx, hb, hml, hown, hts⟩ (c_X11_refuse l dC dI H.size g0 pq cp z_7 fz_8 (-3) (by unfold vp_in; decide)) (cwV 1 hts gX11_home_X11_refuse rfl rfl rfl (by decide +kernel) ⟨(Nat.le_of_ble_eq_true rfl), (Nat.le_of_ble_eq_true rfl)⟩) (pr_V (r := (RX11, TX11, 63)) hP hK hD 0 11 rfl rfl) rfl rfl hl.1 rfl (lv_room (Nat.le_of_ble_eq_true rfl)) dX11_home_109 ⟨(Nat.le_of_ble_eq_true rfl), (Nat.le_of_ble_eq_true rfl)⟩) hS (fun q _ h => hFc q h) hFc (fun r_13 u t H locs ht hvm w_12 hB hz1 hk1 hS => ?_)
          obtain ⟨v_14, fa_15⟩ := u
          obtain ⟨hP1, hK1, hD1⟩ := hB
          rw [ht] at hP1
          have hP : va_P (dC, dI) vwCl (mW g0 pq cp v_14 fa_15) H := hP1
          have hD : va_D A (mW g0 pq cp v_14 fa_15) := hD1.weaken (fun _ _ _ h => hFc _ h)
          clear hP1 hK1 hD1 hk1 hz1 hvm ht hFc
          obtain ⟨rfl, w_12⟩ := w_12
          have hVv_14 : mV v_14 := sm0_V w_12 hVz_7
          have hAv_14 : mA fa_15 := sm0_A w_12 hAz_7
          have g_16 : (v_14 38).toInt = (z_7 38).toInt := congrArg Int32.toInt (congrFun w_12.1 38)
          have hRv_14 : mX [0, 45, 47, 48, 49, 50, 51, 52, 53, 54, 55, 56, 57, 58, 59, 60] v fa v_14 fa_15 := mX.st hRz_7 (mX.s0 w_12) (by decide +kernel)
          exact W.iret (v := (-3)) hx hb hr (fun t ht hW => ⟨⟨(-3), (v_14, fa_15), rfl, ⟨hVv_14, hAv_14, hRv_14⟩, ⟨by rw [ht]; exact hP, va_K.moved hW.alike hK, hD⟩⟩, hS.F ht⟩) hS.2.2 dX11_home_112
        · have dc_11 := c_nle (a := x_10.toInt) (b := y_6.toInt) rfl rfl c_11
          refine lv_aload_n hx hb dX11_home_24 rfl (lv_at hl 1 rfl) ?_
          refine va_get (D := (dC, dI)) (ci := 11) (v := .ref (pq 20)) (C := RX11) (T := TX11) (N := 63) hx hb hts in_wsX11_home_X11 hown hK hP 0 rfl rfl 20 (by decide +kernel) (hts (.fieldLink RX11 70 "ShipOfficeModel" "man" "[I") iw_X11_home_2) (fun _ h9 => h9) rfl dX11_home_25 ?_
          refine lv_iload_n hx hb dX11_home_28 rfl (lv_at hl 0 rfl) ?_
          refine va_iald hx hb hK hP 21 20 rfl rfl (vp_in_iff.mpr (by omega)) dX11_home_29 ?_
          refine lv_topi (fun x_17 ex_17 => ?_)
          have hx_17 : 0 ≤ x_17.toInt ∧ x_17.toInt ≤ 39 := iv_of ex_17 (hAz_7 20 _)
          clear ex_17
          refine lv_iload_n hx hb dX11_home_30 rfl (lv_at hl 2 rfl) ?_
          refine lv_icmp_ne (tgt := 100) hx hb dX11_home_31 (by decide +kernel) (fun c_18 => ?_) (fun c_18 => ?_)
          · have dc_18 := c_ne (a := x_17.toInt) (b := x1.toInt) rfl rfl c_18
            obtain ⟨x_19, ex_19⟩ : ∃ zq : Int32, y_6 + 1 = zq := ⟨_, rfl⟩
            have hx_19 : x_19.toInt = y_6.toInt + 1 := (iv_to ex_19).symm.trans (ad_i rfl (by decide +kernel) (by omega) (by omega))
            refine lv_iinc (v := x_19) (lv' := [(2, .int x_19), (0, .ref g0), (1, .int x1)]) hx hb dX11_home_100 hl (k := 0) rfl ex_19 (by decide +kernel) rfl (fun ls hl => ?_)
            clear ex_19
            refine lv_goto (tgt := 16) hx hb dX11_home_103 (by decide +kernel) ?_
            exact ih (n - 1) (by omega) x_19 z_7 fz_8 _ _ ls (by omega) (by omega) hVz_7 hAz_7 hRz_7 hP hD hS (by omega) (lv_sub hl [0, 1, 2] rfl)
          · have dc_18 := c_eq (a := x_17.toInt) (b := x1.toInt) rfl rfl c_18
            refine lv_aload_n hx hb dX11_home_34 rfl (lv_at hl 1 rfl) ?_
            refine lv_iload_n hx hb dX11_home_35 rfl (lv_at hl 0 rfl) ?_
            refine lv_aload_n hx hb dX11_home_36 rfl (lv_at hl 1 rfl) ?_
            refine va_get (D := (dC, dI)) (ci := 11) (v := .int (z_7 38)) (C := RX11) (T := TX11) (N := 63) hx hb hts in_wsX11_home_X11 hown hK hP 0 rfl rfl 38 (by decide +kernel) (hts (.fieldLink RX11 171 "ShipOfficeModel" "now" "I") iw_X11_home_3) (fun _ h9 => h9) rfl dX11_home_37 ?_
            refine lv_topi (fun x_20 ex_20 => ?_)
            have hx_20 : 0 ≤ x_20.toInt ∧ x_20.toInt ≤ 3000 := iv_of ex_20 (hVz_7 38)
            have gx_20 : x_20.toInt = (z_7 38).toInt := iv_to ex_20
            clear ex_20
            refine lv_aload_n hx hb dX11_home_40 rfl (lv_at hl 1 rfl) ?_
            refine va_get (D := (dC, dI)) (ci := 11) (v := .int (z_7 38)) (C := RX11) (T := TX11) (N := 63) hx hb hts in_wsX11_home_X11 hown hK hP 0 rfl rfl 38 (by decide +kernel) (hts (.fieldLink RX11 171 "ShipOfficeModel" "now" "I") iw_X11_home_3) (fun _ h9 => h9) rfl dX11_home_41 ?_
            refine lv_topi (fun x_21 ex_21 => ?_)
            have hx_21 : 0 ≤ x_21.toInt ∧ x_21.toInt ≤ 3000 := iv_of ex_21 (hVz_7 38)
            have gx_21 : x_21.toInt = (z_7 38).toInt := iv_to ex_21
            clear ex_21
            have hFc := va_free (wc := (mW g0 pq cp z_7 fz_8)) hD hS hA (List.range 48) rfl
            refine va_calli (va_runV (As := [.int y_6, .int x_20, .int x_21]) (rest := []) ⟨hx, hb, hml, hown, hts⟩ (c_X11_stateOf l dC dI H.size g0 pq cp z_7 fz_8 hVz_7 hAz_7 y_6 (by omega) x_20 x_21) (cwV 3 hts gX11_home_X11_stateOf rfl rfl rfl (by decide +kernel) ⟨(Nat.le_of_ble_eq_true rfl), (Nat.le_of_ble_eq_true rfl)⟩) (pr_V (r := (RX11, TX11, 63)) hP hK hD 0 11 rfl rfl) rfl rfl hl.1 rfl (lv_room (Nat.le_of_ble_eq_true rfl)) dX11_home_44 ⟨(Nat.le_of_ble_eq_true rfl), (Nat.le_of_ble_eq_true rfl)⟩) hS (fun q _ h => hFc q h) hFc (fun r_23 u t H locs ht hvm w_22 hB hz1 hk1 hS => ?_)
            obtain ⟨v_24, fa_25⟩ := u
            obtain ⟨hP1, hK1, hD1⟩ := hB
            rw [ht] at hP1
            have hP : va_P (dC, dI) vwCl (mW g0 pq cp v_24 fa_25) H := hP1
            have hD : va_D A (mW g0 pq cp v_24 fa_25) := hD1.weaken (fun _ _ _ h => hFc _ h)
            clear hP1 hK1 hD1 hk1 hz1 hvm ht hFc
            obtain ⟨hV_26, hA_27, hR_28, hb_29, hx_30⟩ := w_22
            dsimp only at hV_26 hA_27 hR_28 hb_29 hx_30
            have g_31 : (v_24 38).toInt = (z_7 38).toInt := congrArg Int32.toInt (hR_28.1 38 rfl)
            have R_32 : mX [0, 45, 47, 48, 49, 50, 51, 52, 53, 54, 55, 56, 57, 58, 59, 60] v fa v_24 fa_25 := mX.st hRz_7 (mX.scr hR_28) (by decide +kernel)
            refine lv_iconst (v := 3) hx hb dX11_home_47 (by decide +kernel) ?_
            refine lv_icmp_eq (tgt := 54) hx hb dX11_home_48 (by decide +kernel) (fun c_33 => ?_) (fun c_33 => ?_)
            · have dc_33 := c_eq (a := r_23.toInt) (b := 3) rfl (by decide +kernel) c_33
              have hi_34 := hx_30 c_33
              refine lv_aload_n hx hb dX11_home_54 rfl (lv_at hl 1 rfl) ?_
              refine lv_iload_n hx hb dX11_home_55 rfl (lv_at hl 0 rfl) ?_
              refine lv_aload_n hx hb dX11_home_56 rfl (lv_at hl 1 rfl) ?_
              refine va_get (D := (dC, dI)) (ci := 11) (v := .int (v_24 38)) (C := RX11) (T := TX11) (N := 63) hx hb hts in_wsX11_home_X11 hown hK hP 0 rfl rfl 38 (by decide +kernel) (hts (.fieldLink RX11 171 "ShipOfficeModel" "now" "I") iw_X11_home_3) (fun _ h9 => h9) rfl dX11_home_57 ?_
              refine lv_topi (fun x_35 ex_35 => ?_)
              have hx_35 : 0 ≤ x_35.toInt ∧ x_35.toInt ≤ 3000 := iv_of ex_35 (hV_26 38)
              have gx_35 : x_35.toInt = (v_24 38).toInt := iv_to ex_35
              clear ex_35
              refine lv_aload_n hx hb dX11_home_60 rfl (lv_at hl 1 rfl) ?_
              refine va_get (D := (dC, dI)) (ci := 11) (v := .int (v_24 38)) (C := RX11) (T := TX11) (N := 63) hx hb hts in_wsX11_home_X11 hown hK hP 0 rfl rfl 38 (by decide +kernel) (hts (.fieldLink RX11 171 "ShipOfficeModel" "now" "I") iw_X11_home_3) (fun _ h9 => h9) rfl dX11_home_61 ?_
              refine lv_topi (fun x_36 ex_36 => ?_)
              have hx_36 : 0 ≤ x_36.toInt ∧ x_36.toInt ≤ 3000 := iv_of ex_36 (hV_26 38)
              have gx_36 : x_36.toInt = (v_24 38).toInt := iv_to ex_36
              clear ex_36
              have hFc : ∀ q, va_A [] H.size q → A q := pu_free hS hA
              refine va_calli (va_runV (As := [.int y_6, .int x_35, .int x_36]) (rest := []) ⟨hx, hb, hml, hown, hts⟩ (c_X11_whereOf_b l dC dI H.size g0 pq cp v_24 fa_25 hV_26 hA_27 y_6 x_35 x_36) (cwV 3 hts gX11_home_X11_whereOf rfl rfl rfl (by decide +kernel) ⟨(Nat.le_of_ble_eq_true rfl), (Nat.le_of_ble_eq_true rfl)⟩) (pr_V (r := (RX11, TX11, 63)) hP hK hD 0 11 rfl rfl) rfl rfl hl.1 rfl (lv_room (Nat.le_of_ble_eq_true rfl)) dX11_home_64 ⟨(Nat.le_of_ble_eq_true rfl), (Nat.le_of_ble_eq_true rfl)⟩) hS (fun q _ h => hFc q h) hFc (fun r_38 u t H locs ht hvm w_37 hB hz1 hk1 hS => ?_)
              have hP := pu_keep hP hk1
              clear hk1 hz1 hvm hB ht hFc
              obtain ⟨hb_39, hx_40⟩ := w_37
              have hpr_38 : 0 ≤ r_38.toInt := hx_40.mp (exW_of hi_34 (by omega) (by omega) (by omega))
              refine lv_istore_n (lv' := [(3, .int r_38), (2, .int y_6), (0, .ref g0), (1, .int x1)]) hx hb dX11_home_67 rfl hl (by decide +kernel) rfl (fun ls hl => ?_)
              refine lv_aload_n hx hb dX11_home_68 rfl (lv_at hl 2 rfl) ?_
              refine va_get (D := (dC, dI)) (ci := 11) (v := .ref (pq 14)) (C := RX11) (T := TX11) (N := 63) hx hb hts in_wsX11_home_X11 hown hK hP 0 rfl rfl 14 (by decide +kernel) (hts (.fieldLink RX11 52 "ShipOfficeModel" "way" "[I") iw_X11_home_4) (fun _ h9 => h9) rfl dX11_home_69 ?_
              refine lv_iload_n hx hb dX11_home_72 rfl (lv_at hl 0 rfl) ?_
              refine va_iald hx hb hK hP 15 14 rfl rfl (vp_in_iff.mpr (by omega)) dX11_home_73 ?_
              refine lv_topi (fun x_41 ex_41 => ?_)
              clear ex_41
              refine lv_iconst (v := 1) hx hb dX11_home_74 (by decide +kernel) ?_
              refine lv_icmp_ne (tgt := 100) hx hb dX11_home_75 (by decide +kernel) (fun c_42 => ?_) (fun c_42 => ?_)
              · have dc_42 := c_ne (a := x_41.toInt) (b := 1) rfl (by decide +kernel) c_42
                obtain ⟨x_43, ex_43⟩ : ∃ zq : Int32, y_6 + 1 = zq := ⟨_, rfl⟩
                have hx_43 : x_43.toInt = y_6.toInt + 1 := (iv_to ex_43).symm.trans (ad_i rfl (by decide +kernel) (by omega) (by omega))
                refine lv_iinc (v := x_43) (lv' := [(2, .int x_43), (3, .int r_38), (0, .ref g0), (1, .int x1)]) hx hb dX11_home_100 hl (k := 1) rfl ex_43 (by decide +kernel) rfl (fun ls hl => ?_)
                clear ex_43
                refine lv_goto (tgt := 16) hx hb dX11_home_103 (by decide +kernel) ?_
                exact ih (n - 1) (by omega) x_43 v_24 fa_25 _ _ ls (by omega) (by omega) hV_26 hA_27 R_32 hP hD hS (by omega) (lv_sub hl [0, 2, 3] rfl)
              · have dc_42 := c_eq (a := x_41.toInt) (b := 1) rfl (by decide +kernel) c_42
                refine lv_aload_n hx hb dX11_home_78 rfl (lv_at hl 2 rfl) ?_
                refine lv_aload_n hx hb dX11_home_79 rfl (lv_at hl 2 rfl) ?_
                refine va_get (D := (dC, dI)) (ci := 11) (v := .ref (pq 15)) (C := RX11) (T := TX11) (N := 63) hx hb hts in_wsX11_home_X11 hown hK hP 0 rfl rfl 15 (by decide +kernel) (hts (.fieldLink RX11 55 "ShipOfficeModel" "port" "[I") iw_X11_home_5) (fun _ h9 => h9) rfl dX11_home_80 ?_
                refine lv_iload_n hx hb dX11_home_83 rfl (lv_at hl 0 rfl) ?_
                refine va_iald hx hb hK hP 16 15 rfl rfl (vp_in_iff.mpr (by omega)) dX11_home_84 ?_
                refine lv_topi (fun x_44 ex_44 => ?_)
                have hx_44 : 0 ≤ x_44.toInt ∧ x_44.toInt ≤ 9 := iv_of ex_44 (hA_27 15 _)
                clear ex_44
                refine lv_aload_n hx hb dX11_home_85 rfl (lv_at hl 2 rfl) ?_
                refine va_get (D := (dC, dI)) (ci := 11) (v := .ref (pq 8)) (C := RX11) (T := TX11) (N := 63) hx hb hts in_wsX11_home_X11 hown hK hP 0 rfl rfl 8 (by decide +kernel) (hts (.fieldLink RX11 34 "ShipOfficeModel" "openPort" "[I") iw_X11_home_6) (fun _ h9 => h9) rfl dX11_home_86 ?_
                refine lv_aload_n hx hb dX11_home_89 rfl (lv_at hl 2 rfl) ?_
                refine va_get (D := (dC, dI)) (ci := 11) (v := .ref (pq 21)) (C := RX11) (T := TX11) (N := 63) hx hb hts in_wsX11_home_X11 hown hK hP 0 rfl rfl 21 (by decide +kernel) (hts (.fieldLink RX11 73 "ShipOfficeModel" "voyage" "[I") iw_X11_home_7) (fun _ h9 => h9) rfl dX11_home_90 ?_
                refine lv_iload_n hx hb dX11_home_93 rfl (lv_at hl 1 rfl) ?_
                refine va_iald hx hb hK hP 22 21 rfl rfl (vp_in_iff.mpr (by omega)) dX11_home_94 ?_
                refine lv_topi (fun x_45 ex_45 => ?_)
                have hx_45 : 0 ≤ x_45.toInt ∧ x_45.toInt ≤ 19 := iv_of ex_45 (hA_27 21 _)
                clear ex_45
                refine va_iald hx hb hK hP 9 8 rfl rfl (vp_in_iff.mpr (by omega)) dX11_home_95 ?_
                refine lv_topi (fun x_46 ex_46 => ?_)
                have hx_46 : 0 ≤ x_46.toInt ∧ x_46.toInt ≤ 9 := iv_of ex_46 (hA_27 8 _)
                clear ex_46
                have hFc := va_free (wc := (mW g0 pq cp v_24 fa_25)) hD hS hA (List.range 48) rfl
                refine va_calli (va_runV (As := [.int x_44, .int x_46]) (rest := []) ⟨hx, hb, hml, hown, hts⟩ (c_X11_wayTo l dC dI H.size g0 pq cp v_24 fa_25 hV_26 hA_27 x_44 (by omega) x_46 (by omega)) (cwV 2 hts gX11_home_X11_wayTo rfl rfl rfl (by decide +kernel) ⟨(Nat.le_of_ble_eq_true rfl), (Nat.le_of_ble_eq_true rfl)⟩) (pr_V (r := (RX11, TX11, 63)) hP hK hD 0 11 rfl rfl) rfl rfl hl.1 rfl (lv_room (Nat.le_of_ble_eq_true rfl)) dX11_home_96 ⟨(Nat.le_of_ble_eq_true rfl), (Nat.le_of_ble_eq_true rfl)⟩) hS (fun q _ h => hFc q h) hFc (fun r_48 u t H locs ht hvm w_47 hB hz1 hk1 hS => ?_)
                obtain ⟨v_49, fa_50⟩ := u
                obtain ⟨hP1, hK1, hD1⟩ := hB
                rw [ht] at hP1
                have hP : va_P (dC, dI) vwCl (mW g0 pq cp v_49 fa_50) H := hP1
                have hD : va_D A (mW g0 pq cp v_49 fa_50) := hD1.weaken (fun _ _ _ h => hFc _ h)
                clear hP1 hK1 hD1 hk1 hz1 hvm ht hFc
                obtain ⟨hV_51, hA_52, hR_53⟩ := w_47
                dsimp only at hV_51 hA_52 hR_53 
                have g_54 : (v_49 38).toInt = (v_24 38).toInt := congrArg Int32.toInt (hR_53.1 38 rfl)
                have R_55 : mX [0, 45, 47, 48, 49, 50, 51, 52, 53, 54, 55, 56, 57, 58, 59, 60] v fa v_49 fa_50 := mX.st R_32 (mX.scr hR_53) (by decide +kernel)
                exact W.iret (v := r_48) hx hb hr (fun t ht hW => ⟨⟨r_48, (v_49, fa_50), rfl, ⟨hV_51, hA_52, R_55⟩, ⟨by rw [ht]; exact hP, va_K.moved hW.alike hK, hD⟩⟩, hS.F ht⟩) hS.2.2 dX11_home_99
            · have dc_33 := c_ne (a := r_23.toInt) (b := 3) rfl (by decide +kernel) c_33
              refine lv_goto (tgt := 100) hx hb dX11_home_51 (by decide +kernel) ?_
              obtain ⟨x_56, ex_56⟩ : ∃ zq : Int32, y_6 + 1 = zq := ⟨_, rfl⟩
              have hx_56 : x_56.toInt = y_6.toInt + 1 := (iv_to ex_56).symm.trans (ad_i rfl (by decide +kernel) (by omega) (by omega))
              refine lv_iinc (v := x_56) (lv' := [(2, .int x_56), (0, .ref g0), (1, .int x1)]) hx hb dX11_home_100 hl (k := 0) rfl ex_56 (by decide +kernel) rfl (fun ls hl => ?_)
              clear ex_56
              refine lv_goto (tgt := 16) hx hb dX11_home_103 (by decide +kernel) ?_
              exact ih (n - 1) (by omega) x_56 v_24 fa_25 _ _ ls (by omega) (by omega) hV_26 hA_27 R_32 hP hD hS (by omega) (lv_sub hl [0, 1, 2] rfl)
    have kc_57 : (0 : Int32).toInt = 0 := by decide
    exact cut_5 61 0 v fa _ _ ls (by omega) (by decide +kernel) gV gA mX.rf hP hD hS (by omega) (lv_sub hl [0, 1, 2] rfl)
  · have dc_3 := c_eq (a := r_2.toInt) (b := 0) rfl (by decide +kernel) c_3
    refine lv_aload_n hx hb dX11_home_8 rfl (lv_at hl 0 rfl) ?_
    refine lv_iconst (v := (-1)) hx hb dX11_home_9 (by decide +kernel) ?_
    have hFc := va_free (wc := (mW g0 pq cp v fa)) hD hS hA (List.range 48) rfl
    refine va_calli (va_runV (As := [.int (-1)]) (rest := []) ⟨hx, hb, hml, hown, hts⟩ (c_X11_refuse l dC dI H.size g0 pq cp v fa (-1) (by unfold vp_in; decide)) (cwV 1 hts gX11_home_X11_refuse rfl rfl rfl (by decide +kernel) ⟨(Nat.le_of_ble_eq_true rfl), (Nat.le_of_ble_eq_true rfl)⟩) (pr_V (r := (RX11, TX11, 63)) hP hK hD 0 11 rfl rfl) rfl rfl hl.1 rfl (lv_room (Nat.le_of_ble_eq_true rfl)) dX11_home_10 ⟨(Nat.le_of_ble_eq_true rfl), (Nat.le_of_ble_eq_true rfl)⟩) hS (fun q _ h => hFc q h) hFc (fun r_59 u t H locs ht hvm w_58 hB hz1 hk1 hS => ?_)
    obtain ⟨v_60, fa_61⟩ := u
    obtain ⟨hP1, hK1, hD1⟩ := hB
    rw [ht] at hP1
    have hP : va_P (dC, dI) vwCl (mW g0 pq cp v_60 fa_61) H := hP1
    have hD : va_D A (mW g0 pq cp v_60 fa_61) := hD1.weaken (fun _ _ _ h => hFc _ h)
    clear hP1 hK1 hD1 hk1 hz1 hvm ht hFc
    obtain ⟨rfl, w_58⟩ := w_58
    have hVv_60 : mV v_60 := sm0_V w_58 gV
    have hAv_60 : mA fa_61 := sm0_A w_58 gA
    have g_62 : (v_60 38).toInt = (v 38).toInt := congrArg Int32.toInt (congrFun w_58.1 38)
    have hRv_60 : mX [0, 45, 47, 48, 49, 50, 51, 52, 53, 54, 55, 56, 57, 58, 59, 60] v fa v_60 fa_61 := mX.st mX.rf (mX.s0 w_58) (by decide +kernel)
    exact W.iret (v := (-1)) hx hb hr (fun t ht hW => ⟨⟨(-1), (v_60, fa_61), rfl, ⟨hVv_60, hAv_60, hRv_60⟩, ⟨by rw [ht]; exact hP, va_K.moved hW.alike hK, hD⟩⟩, hS.F ht⟩) hS.2.2 dX11_home_13
