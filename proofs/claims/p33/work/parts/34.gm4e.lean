abbrev cX11_crew : ByteArray := prog_13_method_78_code
def yX11_crew : MethodName := ⟨RX11, "crew", "(II)I"⟩
theorem gw_X11_isFree : wsX11_isFree.all goodWord = true := by decide +kernel
def wsX11_crew_r1 : List Cond := [Cond.fieldLink RX11 344 "ShipOfficeModel" "someMany" "I", Cond.fieldLink RX11 157 "ShipOfficeModel" "men" "I", Cond.fieldLink RX11 137 "ShipOfficeModel" "some" "[I", Cond.fieldLink RX11 341 "ShipOfficeModel" "hands" "I", Cond.fieldLink RX11 140 "ShipOfficeModel" "handRank" "[I", Cond.fieldLink RX11 338 "ShipOfficeModel" "least" "I", Cond.fieldLink RX11 146 "ShipOfficeModel" "best" "[I", Cond.methodLink RX11 153 yX11_refuse, Cond.instanceMethod yX11_refuse, Cond.selects RX11 yX11_refuse yX11_refuse, Cond.initialized RX11, Cond.code yX11_refuse cX11_refuse 2 (some .int), Cond.fieldLink RX11 7 "ShipOfficeModel" "refusals" "[I", Cond.methodLink RX11 161 yX11_isIn, Cond.static yX11_isIn, Cond.code yX11_isIn cX11_isIn 2 (some .boolean), Cond.methodLink RX11 351 yX11_asksAny, Cond.instanceMethod yX11_asksAny, Cond.selects RX11 yX11_asksAny yX11_asksAny, Cond.code yX11_asksAny cX11_asksAny 2 (some .boolean), Cond.fieldLink RX11 25 "ShipOfficeModel" "asks" "[I", Cond.methodLink RX11 354 yX11_isFree, Cond.instanceMethod yX11_isFree, Cond.selects RX11 yX11_isFree yX11_isFree]
def wsX11_crew_r2 : List Cond := [Cond.code yX11_isFree cX11_isFree 3 (some .boolean), Cond.fieldLink RX11 168 "ShipOfficeModel" "agreements" "I", Cond.fieldLink RX11 70 "ShipOfficeModel" "man" "[I", Cond.methodLink RX11 188 yX11_goesOn, Cond.instanceMethod yX11_goesOn, Cond.selects RX11 yX11_goesOn yX11_goesOn, Cond.code yX11_goesOn cX11_goesOn 2 (some .boolean), Cond.fieldLink RX11 88 "ShipOfficeModel" "offOn" "[I", Cond.fieldLink RX11 73 "ShipOfficeModel" "voyage" "[I", Cond.methodLink RX11 182 yX11_wasTold, Cond.instanceMethod yX11_wasTold, Cond.selects RX11 yX11_wasTold yX11_wasTold, Cond.code yX11_wasTold cX11_wasTold 4 (some .boolean), Cond.fieldLink RX11 179 "ShipOfficeModel" "happened" "I", Cond.fieldLink RX11 40 "ShipOfficeModel" "what" "[I", Cond.fieldLink RX11 43 "ShipOfficeModel" "whose" "[I", Cond.methodLink RX11 347 yX11_chooses, Cond.instanceMethod yX11_chooses, Cond.selects RX11 yX11_chooses yX11_chooses, Cond.code yX11_chooses cX11_chooses 7 none, Cond.fieldLink RX11 143 "ShipOfficeModel" "hand" "[I"]
def wsX11_crew : List Cond := .code yX11_crew cX11_crew 6 (some .int) :: ((wsX11_crew_r1 ++ wsX11_crew_r2) ++ wsX110)
theorem il_X11_crew_1 : ∀ w ∈ wsX11_crew_r1, w ∈ wsX11_crew := fun w h => (List.mem_cons_of_mem _ (List.mem_append_left _ (List.mem_append_left _ h)))
theorem il_X11_crew_2 : ∀ w ∈ wsX11_crew_r2, w ∈ wsX11_crew := fun w h => (List.mem_cons_of_mem _ (List.mem_append_left _ (List.mem_append_right _ h)))
theorem il_X11_crew_3 : ∀ w ∈ wsX110, w ∈ wsX11_crew := fun w h => (List.mem_cons_of_mem _ (List.mem_append_right _ h))
theorem iw_X11_crew_1 : Cond.fieldLink RX11 344 "ShipOfficeModel" "someMany" "I" ∈ wsX11_crew := (mmI il_X11_crew_1 0 rfl)
theorem iw_X11_crew_2 : Cond.fieldLink RX11 341 "ShipOfficeModel" "hands" "I" ∈ wsX11_crew := (mmI il_X11_crew_1 3 rfl)
theorem iw_X11_crew_3 : Cond.fieldLink RX11 338 "ShipOfficeModel" "least" "I" ∈ wsX11_crew := (mmI il_X11_crew_1 5 rfl)
theorem iw_X11_crew_4 : Cond.fieldLink RX11 137 "ShipOfficeModel" "some" "[I" ∈ wsX11_crew := (mmI il_X11_crew_1 2 rfl)
theorem iw_X11_crew_5 : Cond.fieldLink RX11 146 "ShipOfficeModel" "best" "[I" ∈ wsX11_crew := (mmI il_X11_crew_1 6 rfl)
theorem iw_X11_crew_6 : Cond.fieldLink RX11 140 "ShipOfficeModel" "handRank" "[I" ∈ wsX11_crew := (mmI il_X11_crew_1 4 rfl)
theorem iw_X11_crew_7 : Cond.fieldLink RX11 157 "ShipOfficeModel" "men" "I" ∈ wsX11_crew := (mmI il_X11_crew_1 1 rfl)
set_option maxRecDepth 100000 in
theorem ggX11_crew_X11_refuse : GoodIn wsX11_crew wsX11_refuse := goodIn_sub (mmC (mmI il_X11_crew_1 11 rfl) (mmA (mmC (mmI il_X11_crew_1 12 rfl) mmN) il_X11_crew_3)) gw_X11_refuse
theorem gX11_crew_X11_refuse : GoodIn wsX11_crew (wsV RX11 153 RX11 yX11_refuse wsX11_refuse) := goodIn_app (goodIn_sub (mmC (mmI il_X11_crew_1 7 rfl) (mmC (mmI il_X11_crew_1 8 rfl) (mmC (mmI il_X11_crew_1 9 rfl) (mmC (mmI il_X11_crew_1 10 rfl) mmN)))) (by decide +kernel)) ggX11_crew_X11_refuse
set_option maxRecDepth 100000 in
theorem ggX11_crew_X11_isIn : GoodIn wsX11_crew wsX11_isIn := goodIn_sub (mmC (mmI il_X11_crew_1 15 rfl) mmN) gw_X11_isIn
set_option maxRecDepth 20000 in
theorem gX11_crew_X11_isIn : GoodIn wsX11_crew (va_wsS RX11 161 yX11_isIn wsX11_isIn) := goodIn_app (goodIn_of _ (by decide +kernel)) ggX11_crew_X11_isIn
set_option maxRecDepth 100000 in
theorem ggX11_crew_X11_asksAny : GoodIn wsX11_crew wsX11_asksAny := goodIn_sub (mmC (mmI il_X11_crew_1 19 rfl) (mmA (mmC (mmI il_X11_crew_1 20 rfl) mmN) il_X11_crew_3)) gw_X11_asksAny
theorem gX11_crew_X11_asksAny : GoodIn wsX11_crew (wsV RX11 351 RX11 yX11_asksAny wsX11_asksAny) := goodIn_app (goodIn_sub (mmC (mmI il_X11_crew_1 16 rfl) (mmC (mmI il_X11_crew_1 17 rfl) (mmC (mmI il_X11_crew_1 18 rfl) (mmC (mmI il_X11_crew_1 10 rfl) mmN)))) (by decide +kernel)) ggX11_crew_X11_asksAny
set_option maxRecDepth 100000 in
theorem ggX11_crew_X11_isFree : GoodIn wsX11_crew wsX11_isFree := goodIn_sub (mmC (mmI il_X11_crew_2 0 rfl) (mmA (mmC (mmI il_X11_crew_2 1 rfl) (mmC (mmI il_X11_crew_2 2 rfl) (mmC (mmI il_X11_crew_2 3 rfl) (mmC (mmI il_X11_crew_2 4 rfl) (mmC (mmI il_X11_crew_2 5 rfl) (mmC (mmI il_X11_crew_1 10 rfl) (mmC (mmI il_X11_crew_2 6 rfl) (mmC (mmI il_X11_crew_2 7 rfl) (mmC (mmI il_X11_crew_2 8 rfl) (mmC (mmI il_X11_crew_2 9 rfl) (mmC (mmI il_X11_crew_2 10 rfl) (mmC (mmI il_X11_crew_2 11 rfl) (mmC (mmI il_X11_crew_2 12 rfl) (mmC (mmI il_X11_crew_2 13 rfl) (mmC (mmI il_X11_crew_2 14 rfl) (mmC (mmI il_X11_crew_2 15 rfl) mmN)))))))))))))))) il_X11_crew_3)) gw_X11_isFree
theorem gX11_crew_X11_isFree : GoodIn wsX11_crew (wsV RX11 354 RX11 yX11_isFree wsX11_isFree) := goodIn_app (goodIn_sub (mmC (mmI il_X11_crew_1 21 rfl) (mmC (mmI il_X11_crew_1 22 rfl) (mmC (mmI il_X11_crew_1 23 rfl) (mmC (mmI il_X11_crew_1 10 rfl) mmN)))) (by decide +kernel)) ggX11_crew_X11_isFree
set_option maxRecDepth 100000 in
theorem ggX11_crew_X11_chooses : GoodIn wsX11_crew wsX11_chooses := goodIn_sub (mmC (mmI il_X11_crew_2 19 rfl) (mmA (mmC (mmI il_X11_crew_1 5 rfl) (mmC (mmI il_X11_crew_1 3 rfl) (mmC (mmI il_X11_crew_1 6 rfl) (mmC (mmI il_X11_crew_2 20 rfl) (mmC (mmI il_X11_crew_1 4 rfl) (mmC (mmI il_X11_crew_1 0 rfl) (mmC (mmI il_X11_crew_1 20 rfl) (mmC (mmI il_X11_crew_1 2 rfl) (mmC (mmI il_X11_crew_2 16 rfl) (mmC (mmI il_X11_crew_2 17 rfl) (mmC (mmI il_X11_crew_2 18 rfl) (mmC (mmI il_X11_crew_1 10 rfl) mmN)))))))))))) il_X11_crew_3)) gw_X11_chooses
theorem gX11_crew_X11_chooses : GoodIn wsX11_crew (wsV RX11 347 RX11 yX11_chooses wsX11_chooses) := goodIn_app (goodIn_sub (mmC (mmI il_X11_crew_2 16 rfl) (mmC (mmI il_X11_crew_2 17 rfl) (mmC (mmI il_X11_crew_2 18 rfl) (mmC (mmI il_X11_crew_1 10 rfl) mmN)))) (by decide +kernel)) ggX11_crew_X11_chooses
theorem dX11_crew_0 : decode cX11_crew 0 = .ok (.iload_n 1, 1) := by decide +kernel
theorem dX11_crew_1 : decode cX11_crew 1 = .ok (.ifCond .ge 10, 3) := by decide +kernel
theorem dX11_crew_4 : decode cX11_crew 4 = .ok (.aload_n 0, 1) := by decide +kernel
theorem dX11_crew_5 : decode cX11_crew 5 = .ok (.bipush (-4), 2) := by decide +kernel
theorem dX11_crew_7 : decode cX11_crew 7 = .ok (.invokevirtual 153, 3) := by decide +kernel
theorem dX11_crew_10 : decode cX11_crew 10 = .ok (.ireturn, 1) := by decide +kernel
theorem dX11_crew_11 : decode cX11_crew 11 = .ok (.iload_n 1, 1) := by decide +kernel
theorem dX11_crew_12 : decode cX11_crew 12 = .ok (.bipush 80, 2) := by decide +kernel
theorem dX11_crew_14 : decode cX11_crew 14 = .ok (.if_icmp .le 10, 3) := by decide +kernel
theorem dX11_crew_17 : decode cX11_crew 17 = .ok (.aload_n 0, 1) := by decide +kernel
theorem dX11_crew_18 : decode cX11_crew 18 = .ok (.bipush (-6), 2) := by decide +kernel
theorem dX11_crew_20 : decode cX11_crew 20 = .ok (.invokevirtual 153, 3) := by decide +kernel
theorem dX11_crew_23 : decode cX11_crew 23 = .ok (.ireturn, 1) := by decide +kernel
theorem dX11_crew_24 : decode cX11_crew 24 = .ok (.iload_n 2, 1) := by decide +kernel
theorem dX11_crew_25 : decode cX11_crew 25 = .ok (.bipush 9, 2) := by decide +kernel
theorem dX11_crew_27 : decode cX11_crew 27 = .ok (.invokestatic 161, 3) := by decide +kernel
theorem dX11_crew_30 : decode cX11_crew 30 = .ok (.ifCond .ne 10, 3) := by decide +kernel
theorem dX11_crew_33 : decode cX11_crew 33 = .ok (.aload_n 0, 1) := by decide +kernel
theorem dX11_crew_34 : decode cX11_crew 34 = .ok (.bipush (-2), 2) := by decide +kernel
theorem dX11_crew_36 : decode cX11_crew 36 = .ok (.invokevirtual 153, 3) := by decide +kernel
theorem dX11_crew_39 : decode cX11_crew 39 = .ok (.ireturn, 1) := by decide +kernel
theorem dX11_crew_40 : decode cX11_crew 40 = .ok (.aload_n 0, 1) := by decide +kernel
theorem dX11_crew_41 : decode cX11_crew 41 = .ok (.iconst 0, 1) := by decide +kernel
theorem dX11_crew_42 : decode cX11_crew 42 = .ok (.putfield 344, 3) := by decide +kernel
theorem dX11_crew_45 : decode cX11_crew 45 = .ok (.iconst 0, 1) := by decide +kernel
theorem dX11_crew_46 : decode cX11_crew 46 = .ok (.istore_n 3, 1) := by decide +kernel
theorem dX11_crew_47 : decode cX11_crew 47 = .ok (.iload_n 3, 1) := by decide +kernel
theorem dX11_crew_48 : decode cX11_crew 48 = .ok (.aload_n 0, 1) := by decide +kernel
theorem dX11_crew_49 : decode cX11_crew 49 = .ok (.getfield 157, 3) := by decide +kernel
theorem dX11_crew_52 : decode cX11_crew 52 = .ok (.if_icmp .ge 57, 3) := by decide +kernel
theorem dX11_crew_55 : decode cX11_crew 55 = .ok (.aload_n 0, 1) := by decide +kernel
theorem dX11_crew_56 : decode cX11_crew 56 = .ok (.getfield 344, 3) := by decide +kernel
theorem dX11_crew_59 : decode cX11_crew 59 = .ok (.bipush 12, 2) := by decide +kernel
theorem dX11_crew_61 : decode cX11_crew 61 = .ok (.if_icmp .ge 48, 3) := by decide +kernel
theorem dX11_crew_64 : decode cX11_crew 64 = .ok (.aload_n 0, 1) := by decide +kernel
theorem dX11_crew_65 : decode cX11_crew 65 = .ok (.iload_n 3, 1) := by decide +kernel
theorem dX11_crew_66 : decode cX11_crew 66 = .ok (.invokevirtual 351, 3) := by decide +kernel
theorem dX11_crew_69 : decode cX11_crew 69 = .ok (.ifCond .eq 34, 3) := by decide +kernel
theorem dX11_crew_72 : decode cX11_crew 72 = .ok (.aload_n 0, 1) := by decide +kernel
theorem dX11_crew_73 : decode cX11_crew 73 = .ok (.iload_n 3, 1) := by decide +kernel
theorem dX11_crew_74 : decode cX11_crew 74 = .ok (.invokevirtual 354, 3) := by decide +kernel
theorem dX11_crew_77 : decode cX11_crew 77 = .ok (.ifCond .ne 6, 3) := by decide +kernel
theorem dX11_crew_80 : decode cX11_crew 80 = .ok (.goto 23, 3) := by decide +kernel
theorem dX11_crew_83 : decode cX11_crew 83 = .ok (.aload_n 0, 1) := by decide +kernel
theorem dX11_crew_84 : decode cX11_crew 84 = .ok (.getfield 137, 3) := by decide +kernel
theorem dX11_crew_87 : decode cX11_crew 87 = .ok (.aload_n 0, 1) := by decide +kernel
theorem dX11_crew_88 : decode cX11_crew 88 = .ok (.getfield 344, 3) := by decide +kernel
theorem dX11_crew_91 : decode cX11_crew 91 = .ok (.iload_n 3, 1) := by decide +kernel
theorem dX11_crew_92 : decode cX11_crew 92 = .ok (.iastore, 1) := by decide +kernel
theorem dX11_crew_93 : decode cX11_crew 93 = .ok (.aload_n 0, 1) := by decide +kernel
theorem dX11_crew_94 : decode cX11_crew 94 = .ok (.dup, 1) := by decide +kernel
theorem dX11_crew_95 : decode cX11_crew 95 = .ok (.getfield 344, 3) := by decide +kernel
theorem dX11_crew_98 : decode cX11_crew 98 = .ok (.iconst 1, 1) := by decide +kernel
theorem dX11_crew_99 : decode cX11_crew 99 = .ok (.iadd, 1) := by decide +kernel
theorem dX11_crew_100 : decode cX11_crew 100 = .ok (.putfield 344, 3) := by decide +kernel
theorem dX11_crew_103 : decode cX11_crew 103 = .ok (.iinc 3 1, 3) := by decide +kernel
theorem dX11_crew_106 : decode cX11_crew 106 = .ok (.goto (-59), 3) := by decide +kernel
theorem dX11_crew_109 : decode cX11_crew 109 = .ok (.aload_n 0, 1) := by decide +kernel
theorem dX11_crew_110 : decode cX11_crew 110 = .ok (.iconst 0, 1) := by decide +kernel
theorem dX11_crew_111 : decode cX11_crew 111 = .ok (.putfield 341, 3) := by decide +kernel
theorem dX11_crew_114 : decode cX11_crew 114 = .ok (.iload_n 1, 1) := by decide +kernel
theorem dX11_crew_115 : decode cX11_crew 115 = .ok (.istore_n 3, 1) := by decide +kernel
theorem dX11_crew_116 : decode cX11_crew 116 = .ok (.iconst 0, 1) := by decide +kernel
theorem dX11_crew_117 : decode cX11_crew 117 = .ok (.istore 4, 2) := by decide +kernel
theorem dX11_crew_119 : decode cX11_crew 119 = .ok (.iload 4, 2) := by decide +kernel
theorem dX11_crew_121 : decode cX11_crew 121 = .ok (.iconst 4, 1) := by decide +kernel
theorem dX11_crew_122 : decode cX11_crew 122 = .ok (.if_icmp .ge 51, 3) := by decide +kernel
theorem dX11_crew_125 : decode cX11_crew 125 = .ok (.iconst 0, 1) := by decide +kernel
theorem dX11_crew_126 : decode cX11_crew 126 = .ok (.istore 5, 2) := by decide +kernel
theorem dX11_crew_128 : decode cX11_crew 128 = .ok (.iload 5, 2) := by decide +kernel
theorem dX11_crew_130 : decode cX11_crew 130 = .ok (.iload_n 3, 1) := by decide +kernel
theorem dX11_crew_131 : decode cX11_crew 131 = .ok (.iconst 3, 1) := by decide +kernel
theorem dX11_crew_132 : decode cX11_crew 132 = .ok (.irem, 1) := by decide +kernel
theorem dX11_crew_133 : decode cX11_crew 133 = .ok (.if_icmp .ge 30, 3) := by decide +kernel
theorem dX11_crew_136 : decode cX11_crew 136 = .ok (.aload_n 0, 1) := by decide +kernel
theorem dX11_crew_137 : decode cX11_crew 137 = .ok (.getfield 140, 3) := by decide +kernel
theorem dX11_crew_140 : decode cX11_crew 140 = .ok (.aload_n 0, 1) := by decide +kernel
theorem dX11_crew_141 : decode cX11_crew 141 = .ok (.getfield 341, 3) := by decide +kernel
theorem dX11_crew_144 : decode cX11_crew 144 = .ok (.iload 4, 2) := by decide +kernel
theorem dX11_crew_146 : decode cX11_crew 146 = .ok (.iastore, 1) := by decide +kernel
theorem dX11_crew_147 : decode cX11_crew 147 = .ok (.aload_n 0, 1) := by decide +kernel
theorem dX11_crew_148 : decode cX11_crew 148 = .ok (.dup, 1) := by decide +kernel
theorem dX11_crew_149 : decode cX11_crew 149 = .ok (.getfield 341, 3) := by decide +kernel
theorem dX11_crew_152 : decode cX11_crew 152 = .ok (.iconst 1, 1) := by decide +kernel
theorem dX11_crew_153 : decode cX11_crew 153 = .ok (.iadd, 1) := by decide +kernel
theorem dX11_crew_154 : decode cX11_crew 154 = .ok (.putfield 341, 3) := by decide +kernel
theorem dX11_crew_157 : decode cX11_crew 157 = .ok (.iinc 5 1, 3) := by decide +kernel
theorem dX11_crew_160 : decode cX11_crew 160 = .ok (.goto (-32), 3) := by decide +kernel
theorem dX11_crew_163 : decode cX11_crew 163 = .ok (.iload_n 3, 1) := by decide +kernel
theorem dX11_crew_164 : decode cX11_crew 164 = .ok (.iconst 3, 1) := by decide +kernel
theorem dX11_crew_165 : decode cX11_crew 165 = .ok (.idiv, 1) := by decide +kernel
theorem dX11_crew_166 : decode cX11_crew 166 = .ok (.istore_n 3, 1) := by decide +kernel
theorem dX11_crew_167 : decode cX11_crew 167 = .ok (.iinc 4 1, 3) := by decide +kernel
theorem dX11_crew_170 : decode cX11_crew 170 = .ok (.goto (-51), 3) := by decide +kernel
theorem dX11_crew_173 : decode cX11_crew 173 = .ok (.aload_n 0, 1) := by decide +kernel
theorem dX11_crew_174 : decode cX11_crew 174 = .ok (.bipush (-9), 2) := by decide +kernel
theorem dX11_crew_176 : decode cX11_crew 176 = .ok (.putfield 338, 3) := by decide +kernel
theorem dX11_crew_179 : decode cX11_crew 179 = .ok (.aload_n 0, 1) := by decide +kernel
theorem dX11_crew_180 : decode cX11_crew 180 = .ok (.iconst 0, 1) := by decide +kernel
theorem dX11_crew_181 : decode cX11_crew 181 = .ok (.iconst 0, 1) := by decide +kernel
theorem dX11_crew_182 : decode cX11_crew 182 = .ok (.iconst 0, 1) := by decide +kernel
theorem dX11_crew_183 : decode cX11_crew 183 = .ok (.invokevirtual 347, 3) := by decide +kernel
theorem dX11_crew_186 : decode cX11_crew 186 = .ok (.iload_n 2, 1) := by decide +kernel
theorem dX11_crew_187 : decode cX11_crew 187 = .ok (.ifCond .ne 8, 3) := by decide +kernel
theorem dX11_crew_190 : decode cX11_crew 190 = .ok (.aload_n 0, 1) := by decide +kernel
theorem dX11_crew_191 : decode cX11_crew 191 = .ok (.getfield 338, 3) := by decide +kernel
theorem dX11_crew_194 : decode cX11_crew 194 = .ok (.ireturn, 1) := by decide +kernel
theorem dX11_crew_195 : decode cX11_crew 195 = .ok (.aload_n 0, 1) := by decide +kernel
theorem dX11_crew_196 : decode cX11_crew 196 = .ok (.getfield 338, 3) := by decide +kernel
theorem dX11_crew_199 : decode cX11_crew 199 = .ok (.ifCond .lt 11, 3) := by decide +kernel
theorem dX11_crew_202 : decode cX11_crew 202 = .ok (.iload_n 2, 1) := by decide +kernel
theorem dX11_crew_203 : decode cX11_crew 203 = .ok (.aload_n 0, 1) := by decide +kernel
theorem dX11_crew_204 : decode cX11_crew 204 = .ok (.getfield 341, 3) := by decide +kernel
theorem dX11_crew_207 : decode cX11_crew 207 = .ok (.if_icmp .le 8, 3) := by decide +kernel
theorem dX11_crew_210 : decode cX11_crew 210 = .ok (.bipush (-9), 2) := by decide +kernel
theorem dX11_crew_212 : decode cX11_crew 212 = .ok (.goto 16, 3) := by decide +kernel
theorem dX11_crew_215 : decode cX11_crew 215 = .ok (.aload_n 0, 1) := by decide +kernel
theorem dX11_crew_216 : decode cX11_crew 216 = .ok (.getfield 137, 3) := by decide +kernel
theorem dX11_crew_219 : decode cX11_crew 219 = .ok (.aload_n 0, 1) := by decide +kernel
theorem dX11_crew_220 : decode cX11_crew 220 = .ok (.getfield 146, 3) := by decide +kernel
theorem dX11_crew_223 : decode cX11_crew 223 = .ok (.iload_n 2, 1) := by decide +kernel
theorem dX11_crew_224 : decode cX11_crew 224 = .ok (.iconst 1, 1) := by decide +kernel
theorem dX11_crew_225 : decode cX11_crew 225 = .ok (.isub, 1) := by decide +kernel
theorem dX11_crew_226 : decode cX11_crew 226 = .ok (.iaload, 1) := by decide +kernel
theorem dX11_crew_227 : decode cX11_crew 227 = .ok (.iaload, 1) := by decide +kernel
theorem dX11_crew_228 : decode cX11_crew 228 = .ok (.ireturn, 1) := by decide +kernel
theorem in_wsX11_crew_X11 : ∀ w ∈ wsX110, w ∈ wsX11_crew := fun w h => List.mem_cons_of_mem _ (List.mem_append_right _ h)
