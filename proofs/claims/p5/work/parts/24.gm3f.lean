abbrev cX11_act : ByteArray := prog_13_method_35_code
def yX11_act : MethodName := ⟨RX11, "act", "(II)I"⟩
def wsX11_act_r1 : List Cond := [Cond.fieldLink RX11 171 "ShipOfficeModel" "now" "I", Cond.fieldLink RX11 256 "ShipOfficeModel" "acts" "I", Cond.fieldLink RX11 205 "ShipOfficeModel" "taped" "I", Cond.fieldLink RX11 223 "ShipOfficeModel" "isWell" "Z", Cond.fieldLink RX11 210 "ShipOfficeModel" "at" "I", Cond.fieldLink RX11 67 "ShipOfficeModel" "text" "[I", Cond.fieldLink RX11 125 "ShipOfficeModel" "tape" "[I", Cond.fieldLink RX11 58 "ShipOfficeModel" "textSize" "[I", Cond.fieldLink RX11 61 "ShipOfficeModel" "purpose" "[I", Cond.fieldLink RX11 64 "ShipOfficeModel" "from" "[I", Cond.methodLink RX11 161 yX11_isIn, Cond.static yX11_isIn, Cond.initialized RX11, Cond.code yX11_isIn cX11_isIn 2 (some .boolean), Cond.methodLink RX11 153 yX11_refuse, Cond.instanceMethod yX11_refuse, Cond.selects RX11 yX11_refuse yX11_refuse, Cond.code yX11_refuse cX11_refuse 2 (some .int), Cond.fieldLink RX11 7 "ShipOfficeModel" "refusals" "[I", Cond.methodLink RX11 259 yX11_goesThrough, Cond.instanceMethod yX11_goesThrough, Cond.selects RX11 yX11_goesThrough yX11_goesThrough, Cond.code yX11_goesThrough cX11_goesThrough 3 (some .int), Cond.fieldLink RX11 216 "ShipOfficeModel" "base" "I"]
def wsX11_act_r2 : List Cond := [Cond.fieldLink RX11 213 "ShipOfficeModel" "size" "I", Cond.fieldLink RX11 244 "ShipOfficeModel" "deep" "I", Cond.methodLink RX11 250 yX11_sum, Cond.instanceMethod yX11_sum, Cond.selects RX11 yX11_sum yX11_sum, Cond.code yX11_sum cX11_sum 4 (some .int), Cond.methodLink RX11 231 yX11_term, Cond.instanceMethod yX11_term, Cond.selects RX11 yX11_term yX11_term, Cond.methodLink RX11 227 yX11_sign, Cond.instanceMethod yX11_sign, Cond.selects RX11 yX11_sign yX11_sign, Cond.code yX11_sign cX11_sign 1 (some .int), Cond.methodLink RX11 234 yX11_held, Cond.static yX11_held, Cond.code yX11_held cX11_held 2 (some .int), Cond.constantLong RX11 219 (1000000000), Cond.constantLong RX11 221 (-1000000000), Cond.code yX11_term cX11_term 4 (some .int), Cond.methodLink RX11 238 yX11_unit, Cond.instanceMethod yX11_unit, Cond.selects RX11 yX11_unit yX11_unit, Cond.code yX11_unit cX11_unit 5 (some .int), Cond.fieldLink RX11 128 "ShipOfficeModel" "letters" "[I"]
def wsX11_act_r3 : List Cond := [Cond.methodLink RX11 241 yX11_isLetter, Cond.static yX11_isLetter, Cond.code yX11_isLetter cX11_isLetter 1 (some .boolean), Cond.methodLink RX11 247 yX11_breaks, Cond.instanceMethod yX11_breaks, Cond.selects RX11 yX11_breaks yX11_breaks, Cond.code yX11_breaks cX11_breaks 1 (some .int), Cond.methodLink RX11 253 yX11_takes, Cond.instanceMethod yX11_takes, Cond.selects RX11 yX11_takes yX11_takes, Cond.code yX11_takes cX11_takes 2 (some .boolean)]
def wsX11_act : List Cond := .code yX11_act cX11_act 7 (some .int) :: ((wsX11_act_r1 ++ (wsX11_act_r2 ++ wsX11_act_r3)) ++ wsX110)
theorem il_X11_act_1 : ∀ w ∈ wsX11_act_r1, w ∈ wsX11_act := fun w h => (List.mem_cons_of_mem _ (List.mem_append_left _ (List.mem_append_left _ h)))
theorem il_X11_act_2 : ∀ w ∈ wsX11_act_r2, w ∈ wsX11_act := fun w h => (List.mem_cons_of_mem _ (List.mem_append_left _ (List.mem_append_right _ (List.mem_append_left _ h))))
theorem il_X11_act_3 : ∀ w ∈ wsX11_act_r3, w ∈ wsX11_act := fun w h => (List.mem_cons_of_mem _ (List.mem_append_left _ (List.mem_append_right _ (List.mem_append_right _ h))))
theorem il_X11_act_4 : ∀ w ∈ wsX110, w ∈ wsX11_act := fun w h => (List.mem_cons_of_mem _ (List.mem_append_right _ h))
theorem iw_X11_act_1 : Cond.fieldLink RX11 171 "ShipOfficeModel" "now" "I" ∈ wsX11_act := (mmI il_X11_act_1 0 rfl)
theorem iw_X11_act_2 : Cond.fieldLink RX11 256 "ShipOfficeModel" "acts" "I" ∈ wsX11_act := (mmI il_X11_act_1 1 rfl)
theorem iw_X11_act_3 : Cond.fieldLink RX11 205 "ShipOfficeModel" "taped" "I" ∈ wsX11_act := (mmI il_X11_act_1 2 rfl)
theorem iw_X11_act_4 : Cond.fieldLink RX11 223 "ShipOfficeModel" "isWell" "Z" ∈ wsX11_act := (mmI il_X11_act_1 3 rfl)
theorem iw_X11_act_5 : Cond.fieldLink RX11 210 "ShipOfficeModel" "at" "I" ∈ wsX11_act := (mmI il_X11_act_1 4 rfl)
theorem iw_X11_act_6 : Cond.fieldLink RX11 58 "ShipOfficeModel" "textSize" "[I" ∈ wsX11_act := (mmI il_X11_act_1 7 rfl)
theorem iw_X11_act_7 : Cond.fieldLink RX11 61 "ShipOfficeModel" "purpose" "[I" ∈ wsX11_act := (mmI il_X11_act_1 8 rfl)
theorem iw_X11_act_8 : Cond.fieldLink RX11 64 "ShipOfficeModel" "from" "[I" ∈ wsX11_act := (mmI il_X11_act_1 9 rfl)
theorem iw_X11_act_9 : Cond.fieldLink RX11 67 "ShipOfficeModel" "text" "[I" ∈ wsX11_act := (mmI il_X11_act_1 5 rfl)
theorem iw_X11_act_10 : Cond.fieldLink RX11 125 "ShipOfficeModel" "tape" "[I" ∈ wsX11_act := (mmI il_X11_act_1 6 rfl)
set_option maxRecDepth 100000 in
theorem ggX11_act_X11_isIn : GoodIn wsX11_act wsX11_isIn := goodIn_sub (mmC (mmI il_X11_act_1 13 rfl) mmN) gw_X11_isIn
set_option maxRecDepth 20000 in
theorem gX11_act_X11_isIn : GoodIn wsX11_act (va_wsS RX11 161 yX11_isIn wsX11_isIn) := goodIn_app (goodIn_of _ (by decide +kernel)) ggX11_act_X11_isIn
set_option maxRecDepth 100000 in
theorem ggX11_act_X11_refuse : GoodIn wsX11_act wsX11_refuse := goodIn_sub (mmC (mmI il_X11_act_1 17 rfl) (mmA (mmC (mmI il_X11_act_1 18 rfl) mmN) il_X11_act_4)) gw_X11_refuse
theorem gX11_act_X11_refuse : GoodIn wsX11_act (wsV RX11 153 RX11 yX11_refuse wsX11_refuse) := goodIn_app (goodIn_sub (mmC (mmI il_X11_act_1 14 rfl) (mmC (mmI il_X11_act_1 15 rfl) (mmC (mmI il_X11_act_1 16 rfl) (mmC (mmI il_X11_act_1 12 rfl) mmN)))) (by decide +kernel)) ggX11_act_X11_refuse
set_option maxRecDepth 100000 in
theorem ggX11_act_X11_goesThrough : GoodIn wsX11_act wsX11_goesThrough := goodIn_sub (mmC (mmI il_X11_act_1 22 rfl) (mmA (mmA (mmC (mmI il_X11_act_1 23 rfl) (mmC (mmI il_X11_act_2 0 rfl) (mmC (mmI il_X11_act_1 4 rfl) (mmC (mmI il_X11_act_2 1 rfl) (mmC (mmI il_X11_act_1 3 rfl) (mmC (mmI il_X11_act_2 2 rfl) (mmC (mmI il_X11_act_2 3 rfl) (mmC (mmI il_X11_act_2 4 rfl) (mmC (mmI il_X11_act_1 12 rfl) (mmC (mmI il_X11_act_2 5 rfl) (mmC (mmI il_X11_act_2 6 rfl) (mmC (mmI il_X11_act_2 7 rfl) (mmC (mmI il_X11_act_2 8 rfl) (mmC (mmI il_X11_act_2 9 rfl) (mmC (mmI il_X11_act_2 10 rfl) (mmC (mmI il_X11_act_2 11 rfl) (mmC (mmI il_X11_act_2 12 rfl) (mmC (mmI il_X11_act_1 6 rfl) (mmC (mmI il_X11_act_1 5 rfl) (mmC (mmI il_X11_act_2 13 rfl) (mmC (mmI il_X11_act_2 14 rfl) (mmC (mmI il_X11_act_2 15 rfl) (mmC (mmI il_X11_act_2 16 rfl) (mmC (mmI il_X11_act_2 17 rfl) mmN)))))))))))))))))))))))) (mmC (mmI il_X11_act_2 18 rfl) (mmC (mmI il_X11_act_2 19 rfl) (mmC (mmI il_X11_act_2 20 rfl) (mmC (mmI il_X11_act_2 21 rfl) (mmC (mmI il_X11_act_2 22 rfl) (mmC (mmI il_X11_act_2 23 rfl) (mmC (mmI il_X11_act_3 0 rfl) (mmC (mmI il_X11_act_3 1 rfl) (mmC (mmI il_X11_act_3 2 rfl) (mmC (mmI il_X11_act_3 3 rfl) (mmC (mmI il_X11_act_3 4 rfl) (mmC (mmI il_X11_act_3 5 rfl) (mmC (mmI il_X11_act_3 6 rfl) (mmC (mmI il_X11_act_3 7 rfl) (mmC (mmI il_X11_act_3 8 rfl) (mmC (mmI il_X11_act_3 9 rfl) (mmC (mmI il_X11_act_3 10 rfl) mmN)))))))))))))))))) il_X11_act_4)) gw_X11_goesThrough
theorem gX11_act_X11_goesThrough : GoodIn wsX11_act (wsV RX11 259 RX11 yX11_goesThrough wsX11_goesThrough) := goodIn_app (goodIn_sub (mmC (mmI il_X11_act_1 19 rfl) (mmC (mmI il_X11_act_1 20 rfl) (mmC (mmI il_X11_act_1 21 rfl) (mmC (mmI il_X11_act_1 12 rfl) mmN)))) (by decide +kernel)) ggX11_act_X11_goesThrough
theorem dX11_act_0 : decode cX11_act 0 = .ok (.iload_n 1, 1) := by decide +kernel
theorem dX11_act_1 : decode cX11_act 1 = .ok (.iconst 5, 1) := by decide +kernel
theorem dX11_act_2 : decode cX11_act 2 = .ok (.invokestatic 161, 3) := by decide +kernel
theorem dX11_act_5 : decode cX11_act 5 = .ok (.ifCond .ne 10, 3) := by decide +kernel
theorem dX11_act_8 : decode cX11_act 8 = .ok (.aload_n 0, 1) := by decide +kernel
theorem dX11_act_9 : decode cX11_act 9 = .ok (.bipush (-2), 2) := by decide +kernel
theorem dX11_act_11 : decode cX11_act 11 = .ok (.invokevirtual 153, 3) := by decide +kernel
theorem dX11_act_14 : decode cX11_act 14 = .ok (.ireturn, 1) := by decide +kernel
theorem dX11_act_15 : decode cX11_act 15 = .ok (.iload_n 2, 1) := by decide +kernel
theorem dX11_act_16 : decode cX11_act 16 = .ok (.aload_n 0, 1) := by decide +kernel
theorem dX11_act_17 : decode cX11_act 17 = .ok (.getfield 171, 3) := by decide +kernel
theorem dX11_act_20 : decode cX11_act 20 = .ok (.if_icmp .ge 10, 3) := by decide +kernel
theorem dX11_act_23 : decode cX11_act 23 = .ok (.aload_n 0, 1) := by decide +kernel
theorem dX11_act_24 : decode cX11_act 24 = .ok (.bipush (-4), 2) := by decide +kernel
theorem dX11_act_26 : decode cX11_act 26 = .ok (.invokevirtual 153, 3) := by decide +kernel
theorem dX11_act_29 : decode cX11_act 29 = .ok (.ireturn, 1) := by decide +kernel
theorem dX11_act_30 : decode cX11_act 30 = .ok (.iload_n 2, 1) := by decide +kernel
theorem dX11_act_31 : decode cX11_act 31 = .ok (.sipush 3000, 3) := by decide +kernel
theorem dX11_act_34 : decode cX11_act 34 = .ok (.if_icmp .gt 12, 3) := by decide +kernel
theorem dX11_act_37 : decode cX11_act 37 = .ok (.aload_n 0, 1) := by decide +kernel
theorem dX11_act_38 : decode cX11_act 38 = .ok (.getfield 256, 3) := by decide +kernel
theorem dX11_act_41 : decode cX11_act 41 = .ok (.bipush 30, 2) := by decide +kernel
theorem dX11_act_43 : decode cX11_act 43 = .ok (.if_icmp .ne 10, 3) := by decide +kernel
theorem dX11_act_46 : decode cX11_act 46 = .ok (.aload_n 0, 1) := by decide +kernel
theorem dX11_act_47 : decode cX11_act 47 = .ok (.bipush (-6), 2) := by decide +kernel
theorem dX11_act_49 : decode cX11_act 49 = .ok (.invokevirtual 153, 3) := by decide +kernel
theorem dX11_act_52 : decode cX11_act 52 = .ok (.ireturn, 1) := by decide +kernel
theorem dX11_act_53 : decode cX11_act 53 = .ok (.aload_n 0, 1) := by decide +kernel
theorem dX11_act_54 : decode cX11_act 54 = .ok (.iconst (-1), 1) := by decide +kernel
theorem dX11_act_55 : decode cX11_act 55 = .ok (.aload_n 0, 1) := by decide +kernel
theorem dX11_act_56 : decode cX11_act 56 = .ok (.getfield 205, 3) := by decide +kernel
theorem dX11_act_59 : decode cX11_act 59 = .ok (.invokevirtual 259, 3) := by decide +kernel
theorem dX11_act_62 : decode cX11_act 62 = .ok (.istore_n 3, 1) := by decide +kernel
theorem dX11_act_63 : decode cX11_act 63 = .ok (.aload_n 0, 1) := by decide +kernel
theorem dX11_act_64 : decode cX11_act 64 = .ok (.getfield 223, 3) := by decide +kernel
theorem dX11_act_67 : decode cX11_act 67 = .ok (.ifCond .eq 18, 3) := by decide +kernel
theorem dX11_act_70 : decode cX11_act 70 = .ok (.aload_n 0, 1) := by decide +kernel
theorem dX11_act_71 : decode cX11_act 71 = .ok (.getfield 210, 3) := by decide +kernel
theorem dX11_act_74 : decode cX11_act 74 = .ok (.aload_n 0, 1) := by decide +kernel
theorem dX11_act_75 : decode cX11_act 75 = .ok (.getfield 205, 3) := by decide +kernel
theorem dX11_act_78 : decode cX11_act 78 = .ok (.if_icmp .ne 7, 3) := by decide +kernel
theorem dX11_act_81 : decode cX11_act 81 = .ok (.iconst 1, 1) := by decide +kernel
theorem dX11_act_82 : decode cX11_act 82 = .ok (.goto 4, 3) := by decide +kernel
theorem dX11_act_85 : decode cX11_act 85 = .ok (.iconst 0, 1) := by decide +kernel
theorem dX11_act_86 : decode cX11_act 86 = .ok (.istore 4, 2) := by decide +kernel
theorem dX11_act_88 : decode cX11_act 88 = .ok (.aload_n 0, 1) := by decide +kernel
theorem dX11_act_89 : decode cX11_act 89 = .ok (.getfield 205, 3) := by decide +kernel
theorem dX11_act_92 : decode cX11_act 92 = .ok (.istore 5, 2) := by decide +kernel
theorem dX11_act_94 : decode cX11_act 94 = .ok (.aload_n 0, 1) := by decide +kernel
theorem dX11_act_95 : decode cX11_act 95 = .ok (.iconst 0, 1) := by decide +kernel
theorem dX11_act_96 : decode cX11_act 96 = .ok (.putfield 205, 3) := by decide +kernel
theorem dX11_act_99 : decode cX11_act 99 = .ok (.iload 4, 2) := by decide +kernel
theorem dX11_act_101 : decode cX11_act 101 = .ok (.ifCond .ne 11, 3) := by decide +kernel
theorem dX11_act_104 : decode cX11_act 104 = .ok (.bipush (-20), 2) := by decide +kernel
theorem dX11_act_106 : decode cX11_act 106 = .ok (.aload_n 0, 1) := by decide +kernel
theorem dX11_act_107 : decode cX11_act 107 = .ok (.getfield 210, 3) := by decide +kernel
theorem dX11_act_110 : decode cX11_act 110 = .ok (.isub, 1) := by decide +kernel
theorem dX11_act_111 : decode cX11_act 111 = .ok (.ireturn, 1) := by decide +kernel
theorem dX11_act_112 : decode cX11_act 112 = .ok (.iconst 0, 1) := by decide +kernel
theorem dX11_act_113 : decode cX11_act 113 = .ok (.istore 6, 2) := by decide +kernel
theorem dX11_act_115 : decode cX11_act 115 = .ok (.iload 6, 2) := by decide +kernel
theorem dX11_act_117 : decode cX11_act 117 = .ok (.iload 5, 2) := by decide +kernel
theorem dX11_act_119 : decode cX11_act 119 = .ok (.if_icmp .ge 31, 3) := by decide +kernel
theorem dX11_act_122 : decode cX11_act 122 = .ok (.aload_n 0, 1) := by decide +kernel
theorem dX11_act_123 : decode cX11_act 123 = .ok (.getfield 67, 3) := by decide +kernel
theorem dX11_act_126 : decode cX11_act 126 = .ok (.bipush 60, 2) := by decide +kernel
theorem dX11_act_128 : decode cX11_act 128 = .ok (.aload_n 0, 1) := by decide +kernel
theorem dX11_act_129 : decode cX11_act 129 = .ok (.getfield 256, 3) := by decide +kernel
theorem dX11_act_132 : decode cX11_act 132 = .ok (.imul, 1) := by decide +kernel
theorem dX11_act_133 : decode cX11_act 133 = .ok (.iload 6, 2) := by decide +kernel
theorem dX11_act_135 : decode cX11_act 135 = .ok (.iadd, 1) := by decide +kernel
theorem dX11_act_136 : decode cX11_act 136 = .ok (.aload_n 0, 1) := by decide +kernel
theorem dX11_act_137 : decode cX11_act 137 = .ok (.getfield 125, 3) := by decide +kernel
theorem dX11_act_140 : decode cX11_act 140 = .ok (.iload 6, 2) := by decide +kernel
theorem dX11_act_142 : decode cX11_act 142 = .ok (.iaload, 1) := by decide +kernel
theorem dX11_act_143 : decode cX11_act 143 = .ok (.iastore, 1) := by decide +kernel
theorem dX11_act_144 : decode cX11_act 144 = .ok (.iinc 6 1, 3) := by decide +kernel
theorem dX11_act_147 : decode cX11_act 147 = .ok (.goto (-32), 3) := by decide +kernel
theorem dX11_act_150 : decode cX11_act 150 = .ok (.aload_n 0, 1) := by decide +kernel
theorem dX11_act_151 : decode cX11_act 151 = .ok (.getfield 58, 3) := by decide +kernel
theorem dX11_act_154 : decode cX11_act 154 = .ok (.aload_n 0, 1) := by decide +kernel
theorem dX11_act_155 : decode cX11_act 155 = .ok (.getfield 256, 3) := by decide +kernel
theorem dX11_act_158 : decode cX11_act 158 = .ok (.iload 5, 2) := by decide +kernel
theorem dX11_act_160 : decode cX11_act 160 = .ok (.iastore, 1) := by decide +kernel
theorem dX11_act_161 : decode cX11_act 161 = .ok (.aload_n 0, 1) := by decide +kernel
theorem dX11_act_162 : decode cX11_act 162 = .ok (.getfield 61, 3) := by decide +kernel
theorem dX11_act_165 : decode cX11_act 165 = .ok (.aload_n 0, 1) := by decide +kernel
theorem dX11_act_166 : decode cX11_act 166 = .ok (.getfield 256, 3) := by decide +kernel
theorem dX11_act_169 : decode cX11_act 169 = .ok (.iload_n 1, 1) := by decide +kernel
theorem dX11_act_170 : decode cX11_act 170 = .ok (.iastore, 1) := by decide +kernel
theorem dX11_act_171 : decode cX11_act 171 = .ok (.aload_n 0, 1) := by decide +kernel
theorem dX11_act_172 : decode cX11_act 172 = .ok (.getfield 64, 3) := by decide +kernel
theorem dX11_act_175 : decode cX11_act 175 = .ok (.aload_n 0, 1) := by decide +kernel
theorem dX11_act_176 : decode cX11_act 176 = .ok (.getfield 256, 3) := by decide +kernel
theorem dX11_act_179 : decode cX11_act 179 = .ok (.iload_n 2, 1) := by decide +kernel
theorem dX11_act_180 : decode cX11_act 180 = .ok (.iastore, 1) := by decide +kernel
theorem dX11_act_181 : decode cX11_act 181 = .ok (.aload_n 0, 1) := by decide +kernel
theorem dX11_act_182 : decode cX11_act 182 = .ok (.dup, 1) := by decide +kernel
theorem dX11_act_183 : decode cX11_act 183 = .ok (.getfield 256, 3) := by decide +kernel
theorem dX11_act_186 : decode cX11_act 186 = .ok (.iconst 1, 1) := by decide +kernel
theorem dX11_act_187 : decode cX11_act 187 = .ok (.iadd, 1) := by decide +kernel
theorem dX11_act_188 : decode cX11_act 188 = .ok (.putfield 256, 3) := by decide +kernel
theorem dX11_act_191 : decode cX11_act 191 = .ok (.aload_n 0, 1) := by decide +kernel
theorem dX11_act_192 : decode cX11_act 192 = .ok (.getfield 256, 3) := by decide +kernel
theorem dX11_act_195 : decode cX11_act 195 = .ok (.ireturn, 1) := by decide +kernel
theorem in_wsX11_act_X11 : ∀ w ∈ wsX110, w ∈ wsX11_act := fun w h => List.mem_cons_of_mem _ (List.mem_append_right _ h)

set_option maxHeartbeats 4000000 in
set_option maxRecDepth 100000 in
theorem c_X11_act (l : Launch) (dC : Nat → ClassId) (dI : Nat → Nat → Nat) (sz : Nat) (g0 : Nat) (pq : Nat → Nat) (cp : Nat → ClassId) (v : Nat → Int32) (fa : Nat → Nat → Int32) (gV : mV v) (gA : mA fa) (x1 : Int32) (x2 : Int32) : Met l yX11_act wsX11_act ({ frames := 20, cells := 0, slots := 0, locals := 463 }) (va_Pc [.ref g0, .int x1, .int x2] (pcW (dC, dI) (mT cp) (mW g0 pq cp v fa) sz)) (va_Qi (fun (r : Int32) (u : (Nat → Int32) × (Nat → Nat → Int32)) => mV u.1 ∧ mA u.2 ∧ mX [0, 16, 17, 18, 19, 42, 45, 46, 47, 48, 49, 50, 51, 52, 53, 54, 55, 56, 57, 58, 59, 60] v fa u.1 u.2) (fun u t => va_P (dC, dI) vwCl (mW g0 pq cp u.1 u.2) t.heap ∧ va_K (dC, dI) vwCl (mT cp) t ∧ va_D (va_A (mW g0 pq cp v fa) sz) (mW g0 pq cp u.1 u.2)) (va_A (mW g0 pq cp v fa) sz)) 0 0 (va_A (mW g0 pq cp v fa) sz) := by
  refine Met.ofW (cc := cX11_act) (maxL := 7) (ret := (some .int)) (by decide) rfl ?_
  intro p e s m args below meth c s₁ B hml hv
  obtain ⟨rfl, hsz, hP, hK, hD0⟩ := hv
  have hx := B.exec
  have hb := B.bytes
  have hr := B.returns
  have hts := atoms_spec (ws := wsX11_act) B.pre
  have hown : s.vm.findClass RX11 = some m.cls := findClass_of_methodNamed B.named
  have hlocks := B.notSynchronized
  subst hsz
  have hD := hD0.self (sz := s.heap.size)
  generalize hAe : va_A (mW g0 pq cp v fa) s.heap.size = A at hD ⊢
  have hA : ∀ q : Nat, s.heap.size ≤ q → A q := fun q h => by rw [← hAe]; exact Or.inr h
  have hS : va_S A s.heap s.heap [] := va_S.rf
  have hP : va_P (dC, dI) vwCl (mW g0 pq cp v fa) s.heap := hP
  have hl := lv_entry ([.ref g0, .int x1, .int x2]) (n := 7) (Nat.le_of_ble_eq_true rfl)
  rw [lg_entry_eq]
  generalize (lg_sl ([.ref g0, .int x1, .int x2]) ++ List.replicate (7 - (lg_sl ([.ref g0, .int x1, .int x2])).length) Slot.unset).toArray = ls at hl ⊢
  have hl : lv_has ls 7 [(0, .ref g0), (1, .int x1), (2, .int x2)] := hl
  refine lv_iload_n hx hb dX11_act_0 rfl (lv_at hl 1 rfl) ?_
  refine lv_iconst (v := 5) hx hb dX11_act_1 (by decide) ?_
  have hFc : ∀ q, va_A [] s.heap.size q → A q := pu_free hS hA
  have hPc := hP.sub (ws' := []) [] rfl
  have hDc := hD.sub (ws' := []) [] (by decide) rfl
  have hKc := hK.sub (tys' := []) [] rfl
  refine va_calli (va_runS (As := [.int x1, .int 5]) (rest := []) ⟨hx, hb, hml, hown, hts⟩ (c_X11_isIn l dC dI s.heap.size x1 5) (va_cwS 2 hts gX11_act_X11_isIn rfl rfl rfl (by decide +kernel) ⟨(Nat.le_of_ble_eq_true rfl), (Nat.le_of_ble_eq_true rfl)⟩) (pr_S hPc hKc hDc) rfl rfl hl.1 rfl (lv_room (Nat.le_of_ble_eq_true rfl)) dX11_act_2 ⟨(Nat.le_of_ble_eq_true rfl), (Nat.le_of_ble_eq_true rfl)⟩) hS (fun q _ h => hFc q h) hFc (fun r_2 u t H locs ht hvm w_1 hB hz1 hk1 hS => ?_)
  have hP := pu_keep hP hk1
  clear hk1 hz1 hvm hB ht hFc hPc hDc hKc
  have hbr_2 : 0 ≤ r_2.toInt ∧ r_2.toInt ≤ 1 := iv_of w_1 (isI_i _ _)
  refine lv_if_ne (tgt := 15) hx hb dX11_act_5 (by decide) (fun c_3 => ?_) (fun c_3 => ?_)
  · have dc_3 := c_ne (a := r_2.toInt) (b := 0) rfl (by decide) c_3
    have hi_4 := isI_t w_1 (fun q => c_3 (Int32.toInt_inj.mp q))
    have khi_4 : (5 : Int32).toInt = 5 := by decide
    refine lv_iload_n hx hb dX11_act_15 rfl (lv_at hl 2 rfl) ?_
    refine lv_aload_n hx hb dX11_act_16 rfl (lv_at hl 0 rfl) ?_
    refine va_get (D := (dC, dI)) (ci := 11) (v := .int (v 38)) (C := RX11) (T := TX11) (N := 63) hx hb hts in_wsX11_act_X11 hown hK hP 0 rfl rfl 38 (by decide) (hts (.fieldLink RX11 171 "ShipOfficeModel" "now" "I") iw_X11_act_1) (fun _ h9 => h9) rfl dX11_act_17 ?_
    refine lv_topi (fun x_5 ex_5 => ?_)
    have hx_5 : 0 ≤ x_5.toInt ∧ x_5.toInt ≤ 3000 := iv_of ex_5 (gV 38)
    clear ex_5
    refine lv_icmp_ge (tgt := 30) hx hb dX11_act_20 (by decide) (fun c_6 => ?_) (fun c_6 => ?_)
    · have dc_6 := c_le (a := x_5.toInt) (b := x2.toInt) rfl rfl c_6
      refine lv_iload_n hx hb dX11_act_30 rfl (lv_at hl 2 rfl) ?_
      refine lv_sipush (v := 3000) hx hb dX11_act_31 (by decide) ?_
      refine lv_icmp_gt (tgt := 46) hx hb dX11_act_34 (by decide) (fun c_7 => ?_) (fun c_7 => ?_)
      · have dc_7 := c_lt (a := 3000) (b := x2.toInt) (by decide) rfl c_7
        refine lv_aload_n hx hb dX11_act_46 rfl (lv_at hl 0 rfl) ?_
        refine lv_bipush (v := (-6)) hx hb dX11_act_47 (by decide) ?_
        have hFc := va_free (wc := (mW g0 pq cp v fa)) hD hS hA (List.range 48) rfl
        refine va_calli (va_runV (As := [.int (-6)]) (rest := []) ⟨hx, hb, hml, hown, hts⟩ (c_X11_refuse l dC dI H.size g0 pq cp v fa (-6) (by unfold vp_in; decide)) (cwV 1 hts gX11_act_X11_refuse rfl rfl rfl (by decide +kernel) ⟨(Nat.le_of_ble_eq_true rfl), (Nat.le_of_ble_eq_true rfl)⟩) (pr_V (r := (RX11, TX11, 63)) hP hK hD 0 11 rfl rfl) rfl rfl hl.1 rfl (lv_room (Nat.le_of_ble_eq_true rfl)) dX11_act_49 ⟨(Nat.le_of_ble_eq_true rfl), (Nat.le_of_ble_eq_true rfl)⟩) hS (fun q _ h => hFc q h) hFc (fun r_9 u t H locs ht hvm w_8 hB hz1 hk1 hS => ?_)
        obtain ⟨v_10, fa_11⟩ := u
        obtain ⟨hP1, hK1, hD1⟩ := hB
        rw [ht] at hP1
        have hP : va_P (dC, dI) vwCl (mW g0 pq cp v_10 fa_11) H := hP1
        have hD : va_D A (mW g0 pq cp v_10 fa_11) := hD1.weaken (fun _ _ _ h => hFc _ h)
        clear hP1 hK1 hD1 hk1 hz1 hvm ht hFc
        obtain ⟨rfl, w_8⟩ := w_8
        have hVv_10 : mV v_10 := sm0_V w_8 gV
        have hAv_10 : mA fa_11 := sm0_A w_8 gA
        have g_12 : (v_10 42).toInt = (v 42).toInt := congrArg Int32.toInt (congrFun w_8.1 42)
        have g_13 : (v_10 46).toInt = (v 46).toInt := congrArg Int32.toInt (congrFun w_8.1 46)
        have hRv_10 : mX [0, 16, 17, 18, 19, 42, 45, 46, 47, 48, 49, 50, 51, 52, 53, 54, 55, 56, 57, 58, 59, 60] v fa v_10 fa_11 := mX.st mX.rf (mX.s0 w_8) (by decide)
        exact W.iret (v := (-6)) hx hb hr (fun t ht hW => ⟨⟨(-6), (v_10, fa_11), rfl, ⟨hVv_10, hAv_10, hRv_10⟩, ⟨by rw [ht]; exact hP, va_K.moved hW.alike hK, hD⟩⟩, hS.F ht⟩) hS.2.2 dX11_act_52
      · have dc_7 := c_nlt (a := 3000) (b := x2.toInt) (by decide) rfl c_7
        refine lv_aload_n hx hb dX11_act_37 rfl (lv_at hl 0 rfl) ?_
        refine va_get (D := (dC, dI)) (ci := 11) (v := .int (v 42)) (C := RX11) (T := TX11) (N := 63) hx hb hts in_wsX11_act_X11 hown hK hP 0 rfl rfl 42 (by decide) (hts (.fieldLink RX11 256 "ShipOfficeModel" "acts" "I") iw_X11_act_2) (fun _ h9 => h9) rfl dX11_act_38 ?_
        refine lv_topi (fun x_14 ex_14 => ?_)
        have hx_14 : 0 ≤ x_14.toInt ∧ x_14.toInt ≤ 30 := iv_of ex_14 (gV 42)
        have gx_14 : x_14.toInt = (v 42).toInt := iv_to ex_14
        clear ex_14
        refine lv_bipush (v := 30) hx hb dX11_act_41 (by decide) ?_
        refine lv_icmp_ne (tgt := 53) hx hb dX11_act_43 (by decide) (fun c_15 => ?_) (fun c_15 => ?_)
        · have dc_15 := c_ne (a := x_14.toInt) (b := 30) rfl (by decide) c_15
          refine lv_aload_n hx hb dX11_act_53 rfl (lv_at hl 0 rfl) ?_
          refine lv_iconst (v := (-1)) hx hb dX11_act_54 (by decide) ?_
          refine lv_aload_n hx hb dX11_act_55 rfl (lv_at hl 0 rfl) ?_
          refine va_get (D := (dC, dI)) (ci := 11) (v := .int (v 46)) (C := RX11) (T := TX11) (N := 63) hx hb hts in_wsX11_act_X11 hown hK hP 0 rfl rfl 46 (by decide) (hts (.fieldLink RX11 205 "ShipOfficeModel" "taped" "I") iw_X11_act_3) (fun _ h9 => h9) rfl dX11_act_56 ?_
          refine lv_topi (fun x_16 ex_16 => ?_)
          have hx_16 : 0 ≤ x_16.toInt ∧ x_16.toInt ≤ 60 := iv_of ex_16 (gV 46)
          have gx_16 : x_16.toInt = (v 46).toInt := iv_to ex_16
          clear ex_16
          have hFc := va_free (wc := (mW g0 pq cp v fa)) hD hS hA (List.range 48) rfl
          refine va_calli (va_runV (As := [.int (-1), .int x_16]) (rest := []) ⟨hx, hb, hml, hown, hts⟩ (c_X11_goesThrough l dC dI H.size g0 pq cp v fa (-1) x_16 x_16.toNatClampNeg (cn_le (n := 60) (by omega)) (cn_eq (n := 60) (by omega)) (Or.inl (by decide))) (cwV 2 hts gX11_act_X11_goesThrough rfl rfl rfl (by decide +kernel) ⟨(Nat.le_of_ble_eq_true rfl), (Nat.le_of_ble_eq_true rfl)⟩) (pr_V (r := (RX11, TX11, 63)) hP hK hD 0 11 rfl rfl) rfl rfl hl.1 rfl (lv_room (Nat.le_of_ble_eq_true rfl)) dX11_act_59 ⟨(Nat.le_of_ble_eq_true rfl), (Nat.le_of_ble_eq_true rfl)⟩) hS (fun q _ h => hFc q h) hFc (fun r_18 u t H locs ht hvm w_17 hB hz1 hk1 hS => ?_)
          obtain ⟨v_19, fa_20⟩ := u
          obtain ⟨hP1, hK1, hD1⟩ := hB
          rw [ht] at hP1
          have hP : va_P (dC, dI) vwCl (mW g0 pq cp v_19 fa_20) H := hP1
          have hD : va_D A (mW g0 pq cp v_19 fa_20) := hD1.weaken (fun _ _ _ h => hFc _ h)
          clear hP1 hK1 hD1 hk1 hz1 hvm ht hFc
          obtain ⟨hr_21, efhr_21⟩ := w_17
          dsimp only at hr_21 efhr_21
          have hVv_19 : mV v_19 := rd_V gV hr_21
          have hAfa_20 : mA fa_20 := by rw [efhr_21]; exact gA
          have hr_21 := rd_R hr_21 efhr_21
          have g_22 : (v_19 42).toInt = (v 42).toInt := congrArg Int32.toInt (hr_21.1 42 rfl)
          have g_23 : (v_19 46).toInt = (v 46).toInt := congrArg Int32.toInt (hr_21.1 46 rfl)
          have R_24 : mX [0, 16, 17, 18, 19, 42, 45, 46, 47, 48, 49, 50, 51, 52, 53, 54, 55, 56, 57, 58, 59, 60] v fa v_19 fa_20 := mX.st mX.rf (mX.scr hr_21) (by decide)
          refine lv_istore_n (lv' := [(3, .int r_18), (0, .ref g0), (1, .int x1), (2, .int x2)]) hx hb dX11_act_62 rfl hl (by decide) rfl (fun ls hl => ?_)
          refine lv_aload_n hx hb dX11_act_63 rfl (lv_at hl 1 rfl) ?_
          refine va_get (D := (dC, dI)) (ci := 11) (v := .int (v_19 51)) (C := RX11) (T := TX11) (N := 63) hx hb hts in_wsX11_act_X11 hown hK hP 0 rfl rfl 51 (by decide) (hts (.fieldLink RX11 223 "ShipOfficeModel" "isWell" "Z") iw_X11_act_4) (fun _ h9 => h9) rfl dX11_act_64 ?_
          refine lv_topi (fun x_25 ex_25 => ?_)
          clear ex_25
          refine lv_if_eq (tgt := 85) hx hb dX11_act_67 (by decide) (fun c_26 => ?_) (fun c_26 => ?_)
          · have dc_26 := c_eq (a := x_25.toInt) (b := 0) rfl (by decide) c_26
            refine lv_iconst (v := 0) hx hb dX11_act_85 (by decide) ?_
            refine lv_istore (lv' := [(4, .int 0), (3, .int r_18), (0, .ref g0), (1, .int x1), (2, .int x2)]) hx hb dX11_act_86 hl (by decide) rfl (fun ls hl => ?_)
            refine lv_aload_n hx hb dX11_act_88 rfl (lv_at hl 2 rfl) ?_
            refine va_get (D := (dC, dI)) (ci := 11) (v := .int (v_19 46)) (C := RX11) (T := TX11) (N := 63) hx hb hts in_wsX11_act_X11 hown hK hP 0 rfl rfl 46 (by decide) (hts (.fieldLink RX11 205 "ShipOfficeModel" "taped" "I") iw_X11_act_3) (fun _ h9 => h9) rfl dX11_act_89 ?_
            refine lv_topi (fun x_27 ex_27 => ?_)
            have hx_27 : 0 ≤ x_27.toInt ∧ x_27.toInt ≤ 60 := iv_of ex_27 (hVv_19 46)
            have gx_27 : x_27.toInt = (v_19 46).toInt := iv_to ex_27
            clear ex_27
            refine lv_istore (lv' := [(5, .int x_27), (4, .int 0), (3, .int r_18), (0, .ref g0), (1, .int x1), (2, .int x2)]) hx hb dX11_act_92 hl (by decide) rfl (fun ls hl => ?_)
            refine lv_aload_n hx hb dX11_act_94 rfl (lv_at hl 3 rfl) ?_
            refine lv_iconst (v := 0) hx hb dX11_act_95 (by decide) ?_
            refine va_put (D := (dC, dI)) (ci := 11) (v := .int 0) (ty := .int) (C := RX11) (T := TX11) (N := 63) hx hb hts in_wsX11_act_X11 tyX11 tyX11_ok nmX11 hown hK hP hD hS 0 rfl rfl 46 (by decide) (hts (.fieldLink RX11 205 "ShipOfficeModel" "taped" "I") iw_X11_act_3) (fun _ h9 => h9) rfl (by decide +kernel) rfl rfl (Nat.le_of_ble_eq_true rfl) dX11_act_96 (fun H locs hP hD hS => ?_)
            have hP : va_P (dC, dI) vwCl (mW g0 pq cp (upd v_19 46 0) fa_20) H := hP
            have hD : va_D A (mW g0 pq cp (upd v_19 46 0) fa_20) := hD
            obtain ⟨z_28, ez_28⟩ : ∃ zq, zq = (upd v_19 46 0) := ⟨_, rfl⟩
            rw [← ez_28] at hP hD
            have hVz_28 : mV z_28 := by rw [ez_28]; exact mV_upd (lo := 0) (hi := 60) hVv_19 rfl rfl (by decide)
            have hRz_28 : mX [0, 16, 17, 18, 19, 42, 45, 46, 47, 48, 49, 50, 51, 52, 53, 54, 55, 56, 57, 58, 59, 60] v fa z_28 fa_20 := by rw [ez_28]; exact mX.up R_24 (by decide)
            have g_29 : (z_28 42).toInt = (v_19 42).toInt := by rw [ez_28]; exact congrArg Int32.toInt (if_neg (by decide))
            have g_30 : (z_28 46).toInt = 0 := by rw [ez_28, show upd v_19 46 0 46 = 0 from if_pos rfl]; decide
            refine lv_iload hx hb dX11_act_99 (lv_at hl 1 rfl) ?_
            refine lv_if_ne (tgt := 112) hx hb dX11_act_101 (by decide) (fun c_31 => absurd c_31 (by decide)) (fun _ => ?_)
            refine lv_bipush (v := (-20)) hx hb dX11_act_104 (by decide) ?_
            refine lv_aload_n hx hb dX11_act_106 rfl (lv_at hl 3 rfl) ?_
            refine va_get (D := (dC, dI)) (ci := 11) (v := .int (z_28 47)) (C := RX11) (T := TX11) (N := 63) hx hb hts in_wsX11_act_X11 hown hK hP 0 rfl rfl 47 (by decide) (hts (.fieldLink RX11 210 "ShipOfficeModel" "at" "I") iw_X11_act_5) (fun _ h9 => h9) rfl dX11_act_107 ?_
            refine lv_topi (fun x_32 ex_32 => ?_)
            clear ex_32
            refine lv_isub hx hb dX11_act_110 ?_
            refine lv_topi (fun x_33 ex_33 => ?_)
            clear ex_33
            exact W.iret (v := x_33) hx hb hr (fun t ht hW => ⟨⟨x_33, (z_28, fa_20), rfl, ⟨hVz_28, hAfa_20, hRz_28⟩, ⟨by rw [ht]; exact hP, va_K.moved hW.alike hK, hD⟩⟩, hS.F ht⟩) hS.2.2 dX11_act_111
          · have dc_26 := c_ne (a := x_25.toInt) (b := 0) rfl (by decide) c_26
            refine lv_aload_n hx hb dX11_act_70 rfl (lv_at hl 1 rfl) ?_
            refine va_get (D := (dC, dI)) (ci := 11) (v := .int (v_19 47)) (C := RX11) (T := TX11) (N := 63) hx hb hts in_wsX11_act_X11 hown hK hP 0 rfl rfl 47 (by decide) (hts (.fieldLink RX11 210 "ShipOfficeModel" "at" "I") iw_X11_act_5) (fun _ h9 => h9) rfl dX11_act_71 ?_
            refine lv_topi (fun x_34 ex_34 => ?_)
            clear ex_34
            refine lv_aload_n hx hb dX11_act_74 rfl (lv_at hl 1 rfl) ?_
            refine va_get (D := (dC, dI)) (ci := 11) (v := .int (v_19 46)) (C := RX11) (T := TX11) (N := 63) hx hb hts in_wsX11_act_X11 hown hK hP 0 rfl rfl 46 (by decide) (hts (.fieldLink RX11 205 "ShipOfficeModel" "taped" "I") iw_X11_act_3) (fun _ h9 => h9) rfl dX11_act_75 ?_
            refine lv_topi (fun x_35 ex_35 => ?_)
            have hx_35 : 0 ≤ x_35.toInt ∧ x_35.toInt ≤ 60 := iv_of ex_35 (hVv_19 46)
            have gx_35 : x_35.toInt = (v_19 46).toInt := iv_to ex_35
            clear ex_35
            refine lv_icmp_ne (tgt := 85) hx hb dX11_act_78 (by decide) (fun c_36 => ?_) (fun c_36 => ?_)
            · have dc_36 := c_ne (a := x_34.toInt) (b := x_35.toInt) rfl rfl c_36
              refine lv_iconst (v := 0) hx hb dX11_act_85 (by decide) ?_
              refine lv_istore (lv' := [(4, .int 0), (3, .int r_18), (0, .ref g0), (1, .int x1), (2, .int x2)]) hx hb dX11_act_86 hl (by decide) rfl (fun ls hl => ?_)
              refine lv_aload_n hx hb dX11_act_88 rfl (lv_at hl 2 rfl) ?_
              refine va_get (D := (dC, dI)) (ci := 11) (v := .int (v_19 46)) (C := RX11) (T := TX11) (N := 63) hx hb hts in_wsX11_act_X11 hown hK hP 0 rfl rfl 46 (by decide) (hts (.fieldLink RX11 205 "ShipOfficeModel" "taped" "I") iw_X11_act_3) (fun _ h9 => h9) rfl dX11_act_89 ?_
              refine lv_topi (fun x_37 ex_37 => ?_)
              have hx_37 : 0 ≤ x_37.toInt ∧ x_37.toInt ≤ 60 := iv_of ex_37 (hVv_19 46)
              have gx_37 : x_37.toInt = (v_19 46).toInt := iv_to ex_37
              clear ex_37
              refine lv_istore (lv' := [(5, .int x_37), (4, .int 0), (3, .int r_18), (0, .ref g0), (1, .int x1), (2, .int x2)]) hx hb dX11_act_92 hl (by decide) rfl (fun ls hl => ?_)
              refine lv_aload_n hx hb dX11_act_94 rfl (lv_at hl 3 rfl) ?_
              refine lv_iconst (v := 0) hx hb dX11_act_95 (by decide) ?_
              refine va_put (D := (dC, dI)) (ci := 11) (v := .int 0) (ty := .int) (C := RX11) (T := TX11) (N := 63) hx hb hts in_wsX11_act_X11 tyX11 tyX11_ok nmX11 hown hK hP hD hS 0 rfl rfl 46 (by decide) (hts (.fieldLink RX11 205 "ShipOfficeModel" "taped" "I") iw_X11_act_3) (fun _ h9 => h9) rfl (by decide +kernel) rfl rfl (Nat.le_of_ble_eq_true rfl) dX11_act_96 (fun H locs hP hD hS => ?_)
              have hP : va_P (dC, dI) vwCl (mW g0 pq cp (upd v_19 46 0) fa_20) H := hP
              have hD : va_D A (mW g0 pq cp (upd v_19 46 0) fa_20) := hD
              obtain ⟨z_38, ez_38⟩ : ∃ zq, zq = (upd v_19 46 0) := ⟨_, rfl⟩
              rw [← ez_38] at hP hD
              have hVz_38 : mV z_38 := by rw [ez_38]; exact mV_upd (lo := 0) (hi := 60) hVv_19 rfl rfl (by decide)
              have hRz_38 : mX [0, 16, 17, 18, 19, 42, 45, 46, 47, 48, 49, 50, 51, 52, 53, 54, 55, 56, 57, 58, 59, 60] v fa z_38 fa_20 := by rw [ez_38]; exact mX.up R_24 (by decide)
              have g_39 : (z_38 42).toInt = (v_19 42).toInt := by rw [ez_38]; exact congrArg Int32.toInt (if_neg (by decide))
              have g_40 : (z_38 46).toInt = 0 := by rw [ez_38, show upd v_19 46 0 46 = 0 from if_pos rfl]; decide
              refine lv_iload hx hb dX11_act_99 (lv_at hl 1 rfl) ?_
              refine lv_if_ne (tgt := 112) hx hb dX11_act_101 (by decide) (fun c_41 => absurd c_41 (by decide)) (fun _ => ?_)
              refine lv_bipush (v := (-20)) hx hb dX11_act_104 (by decide) ?_
              refine lv_aload_n hx hb dX11_act_106 rfl (lv_at hl 3 rfl) ?_
              refine va_get (D := (dC, dI)) (ci := 11) (v := .int (z_38 47)) (C := RX11) (T := TX11) (N := 63) hx hb hts in_wsX11_act_X11 hown hK hP 0 rfl rfl 47 (by decide) (hts (.fieldLink RX11 210 "ShipOfficeModel" "at" "I") iw_X11_act_5) (fun _ h9 => h9) rfl dX11_act_107 ?_
              refine lv_topi (fun x_42 ex_42 => ?_)
              clear ex_42
              refine lv_isub hx hb dX11_act_110 ?_
              refine lv_topi (fun x_43 ex_43 => ?_)
              clear ex_43
              exact W.iret (v := x_43) hx hb hr (fun t ht hW => ⟨⟨x_43, (z_38, fa_20), rfl, ⟨hVz_38, hAfa_20, hRz_38⟩, ⟨by rw [ht]; exact hP, va_K.moved hW.alike hK, hD⟩⟩, hS.F ht⟩) hS.2.2 dX11_act_111
            · have dc_36 := c_eq (a := x_34.toInt) (b := x_35.toInt) rfl rfl c_36
              refine lv_iconst (v := 1) hx hb dX11_act_81 (by decide) ?_
              refine lv_goto (tgt := 86) hx hb dX11_act_82 (by decide) ?_
              refine lv_istore (lv' := [(4, .int 1), (3, .int r_18), (0, .ref g0), (1, .int x1), (2, .int x2)]) hx hb dX11_act_86 hl (by decide) rfl (fun ls hl => ?_)
              refine lv_aload_n hx hb dX11_act_88 rfl (lv_at hl 2 rfl) ?_
              refine va_get (D := (dC, dI)) (ci := 11) (v := .int (v_19 46)) (C := RX11) (T := TX11) (N := 63) hx hb hts in_wsX11_act_X11 hown hK hP 0 rfl rfl 46 (by decide) (hts (.fieldLink RX11 205 "ShipOfficeModel" "taped" "I") iw_X11_act_3) (fun _ h9 => h9) rfl dX11_act_89 ?_
              refine lv_topi (fun x_44 ex_44 => ?_)
              have hx_44 : 0 ≤ x_44.toInt ∧ x_44.toInt ≤ 60 := iv_of ex_44 (hVv_19 46)
              have gx_44 : x_44.toInt = (v_19 46).toInt := iv_to ex_44
              clear ex_44
              refine lv_istore (lv' := [(5, .int x_44), (4, .int 1), (3, .int r_18), (0, .ref g0), (1, .int x1), (2, .int x2)]) hx hb dX11_act_92 hl (by decide) rfl (fun ls hl => ?_)
              refine lv_aload_n hx hb dX11_act_94 rfl (lv_at hl 3 rfl) ?_
              refine lv_iconst (v := 0) hx hb dX11_act_95 (by decide) ?_
              refine va_put (D := (dC, dI)) (ci := 11) (v := .int 0) (ty := .int) (C := RX11) (T := TX11) (N := 63) hx hb hts in_wsX11_act_X11 tyX11 tyX11_ok nmX11 hown hK hP hD hS 0 rfl rfl 46 (by decide) (hts (.fieldLink RX11 205 "ShipOfficeModel" "taped" "I") iw_X11_act_3) (fun _ h9 => h9) rfl (by decide +kernel) rfl rfl (Nat.le_of_ble_eq_true rfl) dX11_act_96 (fun H locs hP hD hS => ?_)
              have hP : va_P (dC, dI) vwCl (mW g0 pq cp (upd v_19 46 0) fa_20) H := hP
              have hD : va_D A (mW g0 pq cp (upd v_19 46 0) fa_20) := hD
              obtain ⟨z_45, ez_45⟩ : ∃ zq, zq = (upd v_19 46 0) := ⟨_, rfl⟩
              rw [← ez_45] at hP hD
              have hVz_45 : mV z_45 := by rw [ez_45]; exact mV_upd (lo := 0) (hi := 60) hVv_19 rfl rfl (by decide)
              have hRz_45 : mX [0, 16, 17, 18, 19, 42, 45, 46, 47, 48, 49, 50, 51, 52, 53, 54, 55, 56, 57, 58, 59, 60] v fa z_45 fa_20 := by rw [ez_45]; exact mX.up R_24 (by decide)
              have g_46 : (z_45 42).toInt = (v_19 42).toInt := by rw [ez_45]; exact congrArg Int32.toInt (if_neg (by decide))
              have g_47 : (z_45 46).toInt = 0 := by rw [ez_45, show upd v_19 46 0 46 = 0 from if_pos rfl]; decide
              refine lv_iload hx hb dX11_act_99 (lv_at hl 1 rfl) ?_
              refine lv_if_ne (tgt := 112) hx hb dX11_act_101 (by decide) (fun _ => ?_) (fun c_48 => absurd c_48 (by decide))
              refine lv_iconst (v := 0) hx hb dX11_act_112 (by decide) ?_
              refine lv_istore (lv' := [(6, .int 0), (5, .int x_44), (4, .int 1), (3, .int r_18), (0, .ref g0), (1, .int x1), (2, .int x2)]) hx hb dX11_act_113 hl (by decide) rfl (fun ls hl => ?_)
              have cut_49 : ∀ (n : Nat) (y_50 : Int32) (z_51 : Nat → Int32) (fz_52 : Nat → Nat → Int32) (H : Heap) (locs : List Loc) (ls : Array Slot), 60 - y_50.toInt ≤ (n : Int) → (0 ≤ y_50.toInt ∧ y_50.toInt ≤ 60) → mV z_51 → mA fz_52 → mX [0, 16, 17, 18, 19, 42, 45, 46, 47, 48, 49, 50, 51, 52, 53, 54, 55, 56, 57, 58, 59, 60] v fa z_51 fz_52 → va_P (dC, dI) vwCl (mW g0 pq cp z_51 fz_52) H → va_D A (mW g0 pq cp z_51 fz_52) → va_S A s.heap H locs → (z_51 42).toInt = (z_45 42).toInt → (z_51 46).toInt = (z_45 46).toInt → lv_has ls 7 [(6, .int y_50), (5, .int x_44), (4, .int 1), (3, .int r_18), (0, .ref g0), (1, .int x1), (2, .int x2)] → W p l e (headSpec wsX11_act { frames := 20, cells := 0, slots := 0, locals := 463 }).room s m #[Value.ref g0, Value.int x1, Value.int x2] below meth c H locs 0 0 (MQ below (va_Qi (fun (r : Int32) (u : (Nat → Int32) × (Nat → Nat → Int32)) => mV u.1 ∧ mA u.2 ∧ mX [0, 16, 17, 18, 19, 42, 45, 46, 47, 48, 49, 50, 51, 52, 53, 54, 55, 56, 57, 58, 59, 60] v fa u.1 u.2) (fun u t => va_P (dC, dI) vwCl (mW g0 pq cp u.1 u.2) t.heap ∧ va_K (dC, dI) vwCl (mT cp) t ∧ va_D A (mW g0 pq cp u.1 u.2)) A) #[Value.ref g0, Value.int x1, Value.int x2] s 0 0 A) (F0 m 115 ls []) := by
                intro n
                induction n using Nat.strongRecOn with
                | ind n ih =>
                  intro y_50 z_51 fz_52 H locs ls hm hy_50 hVz_51 hAz_51 hRz_51 hP hD hS g_53 g_54 hl
                  refine lv_iload hx hb dX11_act_115 (lv_at hl 0 rfl) ?_
                  refine lv_iload hx hb dX11_act_117 (lv_at hl 1 rfl) ?_
                  refine lv_icmp_ge (tgt := 150) hx hb dX11_act_119 (by decide) (fun c_55 => ?_) (fun c_55 => ?_)
                  · have dc_55 := c_le (a := x_44.toInt) (b := y_50.toInt) rfl rfl c_55
                    refine lv_aload_n hx hb dX11_act_150 rfl (lv_at hl 4 rfl) ?_
                    refine va_get (D := (dC, dI)) (ci := 11) (v := .ref (pq 16)) (C := RX11) (T := TX11) (N := 63) hx hb hts in_wsX11_act_X11 hown hK hP 0 rfl rfl 16 (by decide) (hts (.fieldLink RX11 58 "ShipOfficeModel" "textSize" "[I") iw_X11_act_6) (fun _ h9 => h9) rfl dX11_act_151 ?_
                    refine lv_aload_n hx hb dX11_act_154 rfl (lv_at hl 4 rfl) ?_
                    refine va_get (D := (dC, dI)) (ci := 11) (v := .int (z_51 42)) (C := RX11) (T := TX11) (N := 63) hx hb hts in_wsX11_act_X11 hown hK hP 0 rfl rfl 42 (by decide) (hts (.fieldLink RX11 256 "ShipOfficeModel" "acts" "I") iw_X11_act_2) (fun _ h9 => h9) rfl dX11_act_155 ?_
                    refine lv_topi (fun x_56 ex_56 => ?_)
                    have hx_56 : 0 ≤ x_56.toInt ∧ x_56.toInt ≤ 30 := iv_of ex_56 (hVz_51 42)
                    have gx_56 : x_56.toInt = (z_51 42).toInt := iv_to ex_56
                    clear ex_56
                    refine lv_iload hx hb dX11_act_158 (lv_at hl 1 rfl) ?_
                    refine va_iast hx hb hK hP hD hS 17 16 rfl rfl (vp_in_iff.mpr (by omega)) dX11_act_160 (fun H locs hP hD hS => ?_)
                    have hP : va_P (dC, dI) vwCl (mW g0 pq cp z_51 (upF fz_52 16 (x_56 : Int32).toNatClampNeg x_44)) H := hP
                    have hD : va_D A (mW g0 pq cp z_51 (upF fz_52 16 (x_56 : Int32).toNatClampNeg x_44)) := hD
                    obtain ⟨fz_57, efz_57⟩ : ∃ zq, zq = (upF fz_52 16 (x_56 : Int32).toNatClampNeg x_44) := ⟨_, rfl⟩
                    rw [← efz_57] at hP hD
                    have hAfz_57 : mA fz_57 := by rw [efz_57]; exact mA_upF (lo := 0) (hi := 60) hAz_51 rfl rfl (by omega)
                    have hRfz_57 : mX [0, 16, 17, 18, 19, 42, 45, 46, 47, 48, 49, 50, 51, 52, 53, 54, 55, 56, 57, 58, 59, 60] v fa z_51 fz_57 := by rw [efz_57]; exact mX.uF hRz_51 (by decide)
                    refine lv_aload_n hx hb dX11_act_161 rfl (lv_at hl 4 rfl) ?_
                    refine va_get (D := (dC, dI)) (ci := 11) (v := .ref (pq 17)) (C := RX11) (T := TX11) (N := 63) hx hb hts in_wsX11_act_X11 hown hK hP 0 rfl rfl 17 (by decide) (hts (.fieldLink RX11 61 "ShipOfficeModel" "purpose" "[I") iw_X11_act_7) (fun _ h9 => h9) rfl dX11_act_162 ?_
                    refine lv_aload_n hx hb dX11_act_165 rfl (lv_at hl 4 rfl) ?_
                    refine va_get (D := (dC, dI)) (ci := 11) (v := .int (z_51 42)) (C := RX11) (T := TX11) (N := 63) hx hb hts in_wsX11_act_X11 hown hK hP 0 rfl rfl 42 (by decide) (hts (.fieldLink RX11 256 "ShipOfficeModel" "acts" "I") iw_X11_act_2) (fun _ h9 => h9) rfl dX11_act_166 ?_
                    refine lv_topi (fun x_58 ex_58 => ?_)
                    have hx_58 : 0 ≤ x_58.toInt ∧ x_58.toInt ≤ 30 := iv_of ex_58 (hVz_51 42)
                    have gx_58 : x_58.toInt = (z_51 42).toInt := iv_to ex_58
                    clear ex_58
                    refine lv_iload_n hx hb dX11_act_169 rfl (lv_at hl 5 rfl) ?_
                    refine va_iast hx hb hK hP hD hS 18 17 rfl rfl (vp_in_iff.mpr (by omega)) dX11_act_170 (fun H locs hP hD hS => ?_)
                    have hP : va_P (dC, dI) vwCl (mW g0 pq cp z_51 (upF fz_57 17 (x_58 : Int32).toNatClampNeg x1)) H := hP
                    have hD : va_D A (mW g0 pq cp z_51 (upF fz_57 17 (x_58 : Int32).toNatClampNeg x1)) := hD
                    obtain ⟨fz_59, efz_59⟩ : ∃ zq, zq = (upF fz_57 17 (x_58 : Int32).toNatClampNeg x1) := ⟨_, rfl⟩
                    rw [← efz_59] at hP hD
                    have hAfz_59 : mA fz_59 := by rw [efz_59]; exact mA_upF (lo := -2147483648) (hi := 2147483647) hAfz_57 rfl rfl (iv_all _)
                    have hRfz_59 : mX [0, 16, 17, 18, 19, 42, 45, 46, 47, 48, 49, 50, 51, 52, 53, 54, 55, 56, 57, 58, 59, 60] v fa z_51 fz_59 := by rw [efz_59]; exact mX.uF hRfz_57 (by decide)
                    refine lv_aload_n hx hb dX11_act_171 rfl (lv_at hl 4 rfl) ?_
                    refine va_get (D := (dC, dI)) (ci := 11) (v := .ref (pq 18)) (C := RX11) (T := TX11) (N := 63) hx hb hts in_wsX11_act_X11 hown hK hP 0 rfl rfl 18 (by decide) (hts (.fieldLink RX11 64 "ShipOfficeModel" "from" "[I") iw_X11_act_8) (fun _ h9 => h9) rfl dX11_act_172 ?_
                    refine lv_aload_n hx hb dX11_act_175 rfl (lv_at hl 4 rfl) ?_
                    refine va_get (D := (dC, dI)) (ci := 11) (v := .int (z_51 42)) (C := RX11) (T := TX11) (N := 63) hx hb hts in_wsX11_act_X11 hown hK hP 0 rfl rfl 42 (by decide) (hts (.fieldLink RX11 256 "ShipOfficeModel" "acts" "I") iw_X11_act_2) (fun _ h9 => h9) rfl dX11_act_176 ?_
                    refine lv_topi (fun x_60 ex_60 => ?_)
                    have hx_60 : 0 ≤ x_60.toInt ∧ x_60.toInt ≤ 30 := iv_of ex_60 (hVz_51 42)
                    have gx_60 : x_60.toInt = (z_51 42).toInt := iv_to ex_60
                    clear ex_60
                    refine lv_iload_n hx hb dX11_act_179 rfl (lv_at hl 6 rfl) ?_
                    refine va_iast hx hb hK hP hD hS 19 18 rfl rfl (vp_in_iff.mpr (by omega)) dX11_act_180 (fun H locs hP hD hS => ?_)
                    have hP : va_P (dC, dI) vwCl (mW g0 pq cp z_51 (upF fz_59 18 (x_60 : Int32).toNatClampNeg x2)) H := hP
                    have hD : va_D A (mW g0 pq cp z_51 (upF fz_59 18 (x_60 : Int32).toNatClampNeg x2)) := hD
                    obtain ⟨fz_61, efz_61⟩ : ∃ zq, zq = (upF fz_59 18 (x_60 : Int32).toNatClampNeg x2) := ⟨_, rfl⟩
                    rw [← efz_61] at hP hD
                    have hAfz_61 : mA fz_61 := by rw [efz_61]; exact mA_upF (lo := -2147483648) (hi := 2147483647) hAfz_59 rfl rfl (iv_all _)
                    have hRfz_61 : mX [0, 16, 17, 18, 19, 42, 45, 46, 47, 48, 49, 50, 51, 52, 53, 54, 55, 56, 57, 58, 59, 60] v fa z_51 fz_61 := by rw [efz_61]; exact mX.uF hRfz_59 (by decide)
                    refine lv_aload_n hx hb dX11_act_181 rfl (lv_at hl 4 rfl) ?_
                    refine lv_dup hx hb dX11_act_182 rfl ?_
                    refine va_get (D := (dC, dI)) (ci := 11) (v := .int (z_51 42)) (C := RX11) (T := TX11) (N := 63) hx hb hts in_wsX11_act_X11 hown hK hP 0 rfl rfl 42 (by decide) (hts (.fieldLink RX11 256 "ShipOfficeModel" "acts" "I") iw_X11_act_2) (fun _ h9 => h9) rfl dX11_act_183 ?_
                    refine lv_topi (fun x_62 ex_62 => ?_)
                    have hx_62 : 0 ≤ x_62.toInt ∧ x_62.toInt ≤ 30 := iv_of ex_62 (hVz_51 42)
                    have gx_62 : x_62.toInt = (z_51 42).toInt := iv_to ex_62
                    clear ex_62
                    refine lv_iconst (v := 1) hx hb dX11_act_186 (by decide) ?_
                    refine lv_iadd hx hb dX11_act_187 ?_
                    refine lv_topi (fun x_63 ex_63 => ?_)
                    have hx_63 : x_63.toInt = x_62.toInt + 1 := (iv_to ex_63).trans (ad_i rfl (by decide) (by omega) (by omega))
                    clear ex_63
                    refine va_put (D := (dC, dI)) (ci := 11) (v := .int x_63) (ty := .int) (C := RX11) (T := TX11) (N := 63) hx hb hts in_wsX11_act_X11 tyX11 tyX11_ok nmX11 hown hK hP hD hS 0 rfl rfl 42 (by decide) (hts (.fieldLink RX11 256 "ShipOfficeModel" "acts" "I") iw_X11_act_2) (fun _ h9 => h9) rfl (by decide +kernel) rfl rfl (Nat.le_of_ble_eq_true rfl) dX11_act_188 (fun H locs hP hD hS => ?_)
                    have hP : va_P (dC, dI) vwCl (mW g0 pq cp (upd z_51 42 x_63) fz_61) H := hP
                    have hD : va_D A (mW g0 pq cp (upd z_51 42 x_63) fz_61) := hD
                    obtain ⟨z_64, ez_64⟩ : ∃ zq, zq = (upd z_51 42 x_63) := ⟨_, rfl⟩
                    rw [← ez_64] at hP hD
                    have hVz_64 : mV z_64 := by rw [ez_64]; exact mV_upd (lo := 0) (hi := 30) hVz_51 rfl rfl (by omega)
                    have hRz_64 : mX [0, 16, 17, 18, 19, 42, 45, 46, 47, 48, 49, 50, 51, 52, 53, 54, 55, 56, 57, 58, 59, 60] v fa z_64 fz_61 := by rw [ez_64]; exact mX.up hRfz_61 (by decide)
                    have g_65 : (z_64 42).toInt = x_63.toInt := by rw [ez_64, show upd z_51 42 x_63 42 = x_63 from if_pos rfl]
                    have g_66 : (z_64 46).toInt = (z_51 46).toInt := by rw [ez_64]; exact congrArg Int32.toInt (if_neg (by decide))
                    refine lv_aload_n hx hb dX11_act_191 rfl (lv_at hl 4 rfl) ?_
                    refine va_get (D := (dC, dI)) (ci := 11) (v := .int (z_64 42)) (C := RX11) (T := TX11) (N := 63) hx hb hts in_wsX11_act_X11 hown hK hP 0 rfl rfl 42 (by decide) (hts (.fieldLink RX11 256 "ShipOfficeModel" "acts" "I") iw_X11_act_2) (fun _ h9 => h9) rfl dX11_act_192 ?_
                    refine lv_topi (fun x_67 ex_67 => ?_)
                    have hx_67 : 0 ≤ x_67.toInt ∧ x_67.toInt ≤ 30 := iv_of ex_67 (hVz_64 42)
                    have gx_67 : x_67.toInt = (z_64 42).toInt := iv_to ex_67
                    clear ex_67
                    exact W.iret (v := x_67) hx hb hr (fun t ht hW => ⟨⟨x_67, (z_64, fz_61), rfl, ⟨hVz_64, hAfz_61, hRz_64⟩, ⟨by rw [ht]; exact hP, va_K.moved hW.alike hK, hD⟩⟩, hS.F ht⟩) hS.2.2 dX11_act_195
                  · have dc_55 := c_nle (a := x_44.toInt) (b := y_50.toInt) rfl rfl c_55
                    refine lv_aload_n hx hb dX11_act_122 rfl (lv_at hl 4 rfl) ?_
                    refine va_get (D := (dC, dI)) (ci := 11) (v := .ref (pq 19)) (C := RX11) (T := TX11) (N := 63) hx hb hts in_wsX11_act_X11 hown hK hP 0 rfl rfl 19 (by decide) (hts (.fieldLink RX11 67 "ShipOfficeModel" "text" "[I") iw_X11_act_9) (fun _ h9 => h9) rfl dX11_act_123 ?_
                    refine lv_bipush (v := 60) hx hb dX11_act_126 (by decide) ?_
                    refine lv_aload_n hx hb dX11_act_128 rfl (lv_at hl 4 rfl) ?_
                    refine va_get (D := (dC, dI)) (ci := 11) (v := .int (z_51 42)) (C := RX11) (T := TX11) (N := 63) hx hb hts in_wsX11_act_X11 hown hK hP 0 rfl rfl 42 (by decide) (hts (.fieldLink RX11 256 "ShipOfficeModel" "acts" "I") iw_X11_act_2) (fun _ h9 => h9) rfl dX11_act_129 ?_
                    refine lv_topi (fun x_68 ex_68 => ?_)
                    have hx_68 : 0 ≤ x_68.toInt ∧ x_68.toInt ≤ 30 := iv_of ex_68 (hVz_51 42)
                    have gx_68 : x_68.toInt = (z_51 42).toInt := iv_to ex_68
                    clear ex_68
                    refine lv_imul hx hb dX11_act_132 ?_
                    refine lv_topi (fun x_69 ex_69 => ?_)
                    have hx_69 : x_69.toInt = 60 * x_68.toInt := (iv_to ex_69).trans (mu_i (by decide) rfl (by omega) (by omega))
                    clear ex_69
                    refine lv_iload hx hb dX11_act_133 (lv_at hl 0 rfl) ?_
                    refine lv_iadd hx hb dX11_act_135 ?_
                    refine lv_topi (fun x_70 ex_70 => ?_)
                    have hx_70 : x_70.toInt = x_69.toInt + y_50.toInt := (iv_to ex_70).trans (ad_i rfl rfl (by omega) (by omega))
                    clear ex_70
                    refine lv_aload_n hx hb dX11_act_136 rfl (lv_at hl 4 rfl) ?_
                    refine va_get (D := (dC, dI)) (ci := 11) (v := .ref (pq 44)) (C := RX11) (T := TX11) (N := 63) hx hb hts in_wsX11_act_X11 hown hK hP 0 rfl rfl 44 (by decide) (hts (.fieldLink RX11 125 "ShipOfficeModel" "tape" "[I") iw_X11_act_10) (fun _ h9 => h9) rfl dX11_act_137 ?_
                    refine lv_iload hx hb dX11_act_140 (lv_at hl 0 rfl) ?_
                    refine va_iald hx hb hK hP 39 38 rfl rfl (vp_in_iff.mpr (by omega)) dX11_act_142 ?_
                    refine lv_topi (fun x_71 ex_71 => ?_)
                    clear ex_71
                    refine va_iast hx hb hK hP hD hS 20 19 rfl rfl (vp_in_iff.mpr (by omega)) dX11_act_143 (fun H locs hP hD hS => ?_)
                    have hP : va_P (dC, dI) vwCl (mW g0 pq cp z_51 (upF fz_52 19 (x_70 : Int32).toNatClampNeg x_71)) H := hP
                    have hD : va_D A (mW g0 pq cp z_51 (upF fz_52 19 (x_70 : Int32).toNatClampNeg x_71)) := hD
                    obtain ⟨fz_72, efz_72⟩ : ∃ zq, zq = (upF fz_52 19 (x_70 : Int32).toNatClampNeg x_71) := ⟨_, rfl⟩
                    rw [← efz_72] at hP hD
                    have hAfz_72 : mA fz_72 := by rw [efz_72]; exact mA_upF (lo := -2147483648) (hi := 2147483647) hAz_51 rfl rfl (iv_all _)
                    have hRfz_72 : mX [0, 16, 17, 18, 19, 42, 45, 46, 47, 48, 49, 50, 51, 52, 53, 54, 55, 56, 57, 58, 59, 60] v fa z_51 fz_72 := by rw [efz_72]; exact mX.uF hRz_51 (by decide)
                    obtain ⟨x_73, ex_73⟩ : ∃ zq : Int32, y_50 + 1 = zq := ⟨_, rfl⟩
                    have hx_73 : x_73.toInt = y_50.toInt + 1 := (iv_to ex_73).symm.trans (ad_i rfl (by decide) (by omega) (by omega))
                    refine lv_iinc (v := x_73) (lv' := [(6, .int x_73), (5, .int x_44), (4, .int 1), (3, .int r_18), (0, .ref g0), (1, .int x1), (2, .int x2)]) hx hb dX11_act_144 hl (k := 0) rfl ex_73 (by decide) rfl (fun ls hl => ?_)
                    clear ex_73
                    refine lv_goto (tgt := 115) hx hb dX11_act_147 (by decide) ?_
                    exact ih (n - 1) (by omega) x_73 z_51 fz_72 _ _ ls (by omega) (by omega) hVz_51 hAfz_72 hRfz_72 hP hD hS (by omega) (by omega) (lv_sub hl [0, 1, 2, 3, 4, 5, 6] rfl)
              have kc_74 : (0 : Int32).toInt = 0 := by decide
              exact cut_49 61 0 z_45 fa_20 _ _ ls (by omega) (by decide) hVz_45 hAfa_20 hRz_45 hP hD hS (by omega) (by omega) (lv_sub hl [0, 1, 2, 3, 4, 5, 6] rfl)
        · have dc_15 := c_eq (a := x_14.toInt) (b := 30) rfl (by decide) c_15
          refine lv_aload_n hx hb dX11_act_46 rfl (lv_at hl 0 rfl) ?_
          refine lv_bipush (v := (-6)) hx hb dX11_act_47 (by decide) ?_
          have hFc := va_free (wc := (mW g0 pq cp v fa)) hD hS hA (List.range 48) rfl
          refine va_calli (va_runV (As := [.int (-6)]) (rest := []) ⟨hx, hb, hml, hown, hts⟩ (c_X11_refuse l dC dI H.size g0 pq cp v fa (-6) (by unfold vp_in; decide)) (cwV 1 hts gX11_act_X11_refuse rfl rfl rfl (by decide +kernel) ⟨(Nat.le_of_ble_eq_true rfl), (Nat.le_of_ble_eq_true rfl)⟩) (pr_V (r := (RX11, TX11, 63)) hP hK hD 0 11 rfl rfl) rfl rfl hl.1 rfl (lv_room (Nat.le_of_ble_eq_true rfl)) dX11_act_49 ⟨(Nat.le_of_ble_eq_true rfl), (Nat.le_of_ble_eq_true rfl)⟩) hS (fun q _ h => hFc q h) hFc (fun r_76 u t H locs ht hvm w_75 hB hz1 hk1 hS => ?_)
          obtain ⟨v_77, fa_78⟩ := u
          obtain ⟨hP1, hK1, hD1⟩ := hB
          rw [ht] at hP1
          have hP : va_P (dC, dI) vwCl (mW g0 pq cp v_77 fa_78) H := hP1
          have hD : va_D A (mW g0 pq cp v_77 fa_78) := hD1.weaken (fun _ _ _ h => hFc _ h)
          clear hP1 hK1 hD1 hk1 hz1 hvm ht hFc
          obtain ⟨rfl, w_75⟩ := w_75
          have hVv_77 : mV v_77 := sm0_V w_75 gV
          have hAv_77 : mA fa_78 := sm0_A w_75 gA
          have g_79 : (v_77 42).toInt = (v 42).toInt := congrArg Int32.toInt (congrFun w_75.1 42)
          have g_80 : (v_77 46).toInt = (v 46).toInt := congrArg Int32.toInt (congrFun w_75.1 46)
          have hRv_77 : mX [0, 16, 17, 18, 19, 42, 45, 46, 47, 48, 49, 50, 51, 52, 53, 54, 55, 56, 57, 58, 59, 60] v fa v_77 fa_78 := mX.st mX.rf (mX.s0 w_75) (by decide)
          exact W.iret (v := (-6)) hx hb hr (fun t ht hW => ⟨⟨(-6), (v_77, fa_78), rfl, ⟨hVv_77, hAv_77, hRv_77⟩, ⟨by rw [ht]; exact hP, va_K.moved hW.alike hK, hD⟩⟩, hS.F ht⟩) hS.2.2 dX11_act_52
    · have dc_6 := c_nle (a := x_5.toInt) (b := x2.toInt) rfl rfl c_6
      refine lv_aload_n hx hb dX11_act_23 rfl (lv_at hl 0 rfl) ?_
      refine lv_bipush (v := (-4)) hx hb dX11_act_24 (by decide) ?_
      have hFc := va_free (wc := (mW g0 pq cp v fa)) hD hS hA (List.range 48) rfl
      refine va_calli (va_runV (As := [.int (-4)]) (rest := []) ⟨hx, hb, hml, hown, hts⟩ (c_X11_refuse l dC dI H.size g0 pq cp v fa (-4) (by unfold vp_in; decide)) (cwV 1 hts gX11_act_X11_refuse rfl rfl rfl (by decide +kernel) ⟨(Nat.le_of_ble_eq_true rfl), (Nat.le_of_ble_eq_true rfl)⟩) (pr_V (r := (RX11, TX11, 63)) hP hK hD 0 11 rfl rfl) rfl rfl hl.1 rfl (lv_room (Nat.le_of_ble_eq_true rfl)) dX11_act_26 ⟨(Nat.le_of_ble_eq_true rfl), (Nat.le_of_ble_eq_true rfl)⟩) hS (fun q _ h => hFc q h) hFc (fun r_82 u t H locs ht hvm w_81 hB hz1 hk1 hS => ?_)
      obtain ⟨v_83, fa_84⟩ := u
      obtain ⟨hP1, hK1, hD1⟩ := hB
      rw [ht] at hP1
      have hP : va_P (dC, dI) vwCl (mW g0 pq cp v_83 fa_84) H := hP1
      have hD : va_D A (mW g0 pq cp v_83 fa_84) := hD1.weaken (fun _ _ _ h => hFc _ h)
      clear hP1 hK1 hD1 hk1 hz1 hvm ht hFc
      obtain ⟨rfl, w_81⟩ := w_81
      have hVv_83 : mV v_83 := sm0_V w_81 gV
      have hAv_83 : mA fa_84 := sm0_A w_81 gA
      have g_85 : (v_83 42).toInt = (v 42).toInt := congrArg Int32.toInt (congrFun w_81.1 42)
      have g_86 : (v_83 46).toInt = (v 46).toInt := congrArg Int32.toInt (congrFun w_81.1 46)
      have hRv_83 : mX [0, 16, 17, 18, 19, 42, 45, 46, 47, 48, 49, 50, 51, 52, 53, 54, 55, 56, 57, 58, 59, 60] v fa v_83 fa_84 := mX.st mX.rf (mX.s0 w_81) (by decide)
      exact W.iret (v := (-4)) hx hb hr (fun t ht hW => ⟨⟨(-4), (v_83, fa_84), rfl, ⟨hVv_83, hAv_83, hRv_83⟩, ⟨by rw [ht]; exact hP, va_K.moved hW.alike hK, hD⟩⟩, hS.F ht⟩) hS.2.2 dX11_act_29
  · have dc_3 := c_eq (a := r_2.toInt) (b := 0) rfl (by decide) c_3
    refine lv_aload_n hx hb dX11_act_8 rfl (lv_at hl 0 rfl) ?_
    refine lv_bipush (v := (-2)) hx hb dX11_act_9 (by decide) ?_
    have hFc := va_free (wc := (mW g0 pq cp v fa)) hD hS hA (List.range 48) rfl
    refine va_calli (va_runV (As := [.int (-2)]) (rest := []) ⟨hx, hb, hml, hown, hts⟩ (c_X11_refuse l dC dI H.size g0 pq cp v fa (-2) (by unfold vp_in; decide)) (cwV 1 hts gX11_act_X11_refuse rfl rfl rfl (by decide +kernel) ⟨(Nat.le_of_ble_eq_true rfl), (Nat.le_of_ble_eq_true rfl)⟩) (pr_V (r := (RX11, TX11, 63)) hP hK hD 0 11 rfl rfl) rfl rfl hl.1 rfl (lv_room (Nat.le_of_ble_eq_true rfl)) dX11_act_11 ⟨(Nat.le_of_ble_eq_true rfl), (Nat.le_of_ble_eq_true rfl)⟩) hS (fun q _ h => hFc q h) hFc (fun r_88 u t H locs ht hvm w_87 hB hz1 hk1 hS => ?_)
    obtain ⟨v_89, fa_90⟩ := u
    obtain ⟨hP1, hK1, hD1⟩ := hB
    rw [ht] at hP1
    have hP : va_P (dC, dI) vwCl (mW g0 pq cp v_89 fa_90) H := hP1
    have hD : va_D A (mW g0 pq cp v_89 fa_90) := hD1.weaken (fun _ _ _ h => hFc _ h)
    clear hP1 hK1 hD1 hk1 hz1 hvm ht hFc
    obtain ⟨rfl, w_87⟩ := w_87
    have hVv_89 : mV v_89 := sm0_V w_87 gV
    have hAv_89 : mA fa_90 := sm0_A w_87 gA
    have g_91 : (v_89 42).toInt = (v 42).toInt := congrArg Int32.toInt (congrFun w_87.1 42)
    have g_92 : (v_89 46).toInt = (v 46).toInt := congrArg Int32.toInt (congrFun w_87.1 46)
    have hRv_89 : mX [0, 16, 17, 18, 19, 42, 45, 46, 47, 48, 49, 50, 51, 52, 53, 54, 55, 56, 57, 58, 59, 60] v fa v_89 fa_90 := mX.st mX.rf (mX.s0 w_87) (by decide)
    exact W.iret (v := (-2)) hx hb hr (fun t ht hW => ⟨⟨(-2), (v_89, fa_90), rfl, ⟨hVv_89, hAv_89, hRv_89⟩, ⟨by rw [ht]; exact hP, va_K.moved hW.alike hK, hD⟩⟩, hS.F ht⟩) hS.2.2 dX11_act_14
