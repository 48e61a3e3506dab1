abbrev cX11_crew : ByteArray := prog_13_method_78_code
def yX11_crew : MethodName := ⟨RX11, "crew", "(II)I"⟩
theorem gw_X11_isFree : wsX11_isFree.all goodWord = true := by decide +kernel
def wsX11_crew_r1 : List Cond := [Cond.fieldLink RX11 344 "ShipOfficeModel" "someMany" "I", Cond.fieldLink RX11 157 "ShipOfficeModel" "men" "I", Cond.fieldLink RX11 137 "ShipOfficeModel" "some" "[I", Cond.fieldLink RX11 341 "ShipOfficeModel" "hands" "I", Cond.fieldLink RX11 140 "ShipOfficeModel" "handRank" "[I", Cond.fieldLink RX11 338 "ShipOfficeModel" "least" "I", Cond.fieldLink RX11 146 "ShipOfficeModel" "best" "[I", Cond.methodLink RX11 153 yX11_refuse, Cond.instanceMethod yX11_refuse, Cond.selects RX11 yX11_refuse yX11_refuse, Cond.initialized RX11, Cond.code yX11_refuse cX11_refuse 2 (some .int), Cond.fieldLink RX11 7 "ShipOfficeModel" "refusals" "[I", Cond.methodLink RX11 161 yX11_isIn, Cond.static yX11_isIn, Cond.code yX11_isIn cX11_isIn 2 (some .boolean), Cond.methodLink RX11 351 yX11_asksAny, Cond.instanceMethod yX11_asksAny, Cond.selects RX11 yX11_asksAny yX11_asksAny, Cond.code yX11_asksAny cX11_asksAny 2 (some .boolean), Cond.fieldLink RX11 25 "ShipOfficeModel" "asks" "[I", Cond.methodLink RX11 354 yX11_isFree, Cond.instanceMethod yX11_isFree, Cond.selects RX11 yX11_isFree yX11_isFree]
def wsX11_crew_r2 : List Cond := [Cond.code yX11_isFree cX11_isFree 3 (some .boolean), Cond.fieldLink RX11 168 "ShipOfficeModel" "agreements" "I", Cond.fieldLink RX11 70 "ShipOfficeModel" "man" "[I", Cond.methodLink RX11 188 yX11_goesOn, Cond.instanceMethod yX11_goesOn, Cond.selects RX11 yX11_goesOn yX11_goesOn, Cond.code yX11_goesOn cX11_goesOn 2 (some .boolean), Cond.fieldLink RX11 88 "ShipOfficeModel" "offOn" "[I", Cond.fieldLink RX11 73 "ShipOfficeModel" "voyage" "[I", Cond.methodLink RX11 182 yX11_wasTold, Cond.instanceMethod yX11_wasTold, Cond.selects RX11 yX11_wasTold yX11_wasTold, Cond.code yX11_wasTold cX11_wasTold 4 (some .boolean), Cond.fieldLink RX11 179 "ShipOfficeModel" "happened" "I", Cond.fieldLink RX11 40 "ShipOfficeModel" "what" "[I", Cond.fieldLink RX11 43 "ShipOfficeModel" "whose" "[I", Cond.methodLink RX11 347 yX11_chooses, Cond.instanceMethod yX11_chooses, Cond.selects RX11 yX11_chooses yX11_chooses, Cond.code yX11_chooses cX11_chooses 7 none, Cond.fieldLink RX11 143 "ShipOfficeModel" "hand" "[I"]
def wsX11_crew : List Cond := .code yX11_crew cX11_crew 6 (some .int) :: ((wsX11_crew_r1 ++ wsX11_crew_r2) ++ wsX110)
theorem il_X11_crew_1 : ∀ w ∈ wsX11_crew_r1, w ∈ wsX11_crew := fun w h => (List.mem_cons_of_mem _ (List.mem_append_left _ (List.mem_append_left _ h)))
theorem il_X11_crew_2 : ∀ w ∈ wsX11_crew_r2, w ∈ wsX11_crew := fun w h => (List.mem_cons_of_mem _ (List.mem_append_left _ (List.mem_append_right _ h)))
theorem il_X11_crew_3 : ∀ w ∈ wsX110, w ∈ wsX11_crew := fun w h => (List.mem_cons_of_mem _ (List.mem_append_right _ h))
theorem iw_X11_crew_1 : Cond.fieldLink RX11 344 "ShipOfficeModel" "someMany" "I" ∈ wsX11_crew := (mmI il_X11_crew_1 0 rfl)
theorem iw_X11_crew_2 : Cond.fieldLink RX11 341 "ShipOfficeModel" "hands" "I" ∈ wsX11_crew := (mmI il_X11_crew_1 3 rfl)
theorem iw_X11_crew_3 : Cond.fieldLink RX11 338 "ShipOfficeModel" "least" "I" ∈ wsX11_crew := (mmI il_X11_crew_1 5 rfl)
theorem iw_X11_crew_4 : Cond.fieldLink RX11 137 "ShipOfficeModel" "some" "[I" ∈ wsX11_crew := (mmI il_X11_crew_1 2 rfl)
theorem iw_X11_crew_5 : Cond.fieldLink RX11 146 "ShipOfficeModel" "best" "[I" ∈ wsX11_crew := (mmI il_X11_crew_1 6 rfl)
theorem iw_X11_crew_6 : Cond.fieldLink RX11 140 "ShipOfficeModel" "handRank" "[I" ∈ wsX11_crew := (mmI il_X11_crew_1 4 rfl)
theorem iw_X11_crew_7 : Cond.fieldLink RX11 157 "ShipOfficeModel" "men" "I" ∈ wsX11_crew := (mmI il_X11_crew_1 1 rfl)
set_option maxRecDepth 100000 in
theorem ggX11_crew_X11_refuse : GoodIn wsX11_crew wsX11_refuse := goodIn_sub (mmC (mmI il_X11_crew_1 11 rfl) (mmA (mmC (mmI il_X11_crew_1 12 rfl) mmN) il_X11_crew_3)) gw_X11_refuse
theorem gX11_crew_X11_refuse : GoodIn wsX11_crew (wsV RX11 153 RX11 yX11_refuse wsX11_refuse) := goodIn_app (goodIn_sub (mmC (mmI il_X11_crew_1 7 rfl) (mmC (mmI il_X11_crew_1 8 rfl) (mmC (mmI il_X11_crew_1 9 rfl) (mmC (mmI il_X11_crew_1 10 rfl) mmN)))) (by decide +kernel)) ggX11_crew_X11_refuse
set_option maxRecDepth 100000 in
theorem ggX11_crew_X11_isIn : GoodIn wsX11_crew wsX11_isIn := goodIn_sub (mmC (mmI il_X11_crew_1 15 rfl) mmN) gw_X11_isIn
set_option maxRecDepth 20000 in
theorem gX11_crew_X11_isIn : GoodIn wsX11_crew (va_wsS RX11 161 yX11_isIn wsX11_isIn) := goodIn_app (goodIn_of _ (by decide +kernel)) ggX11_crew_X11_isIn
set_option maxRecDepth 100000 in
theorem ggX11_crew_X11_asksAny : GoodIn wsX11_crew wsX11_asksAny := goodIn_sub (mmC (mmI il_X11_crew_1 19 rfl) (mmA (mmC (mmI il_X11_crew_1 20 rfl) mmN) il_X11_crew_3)) gw_X11_asksAny
theorem gX11_crew_X11_asksAny : GoodIn wsX11_crew (wsV RX11 351 RX11 yX11_asksAny wsX11_asksAny) := goodIn_app (goodIn_sub (mmC (mmI il_X11_crew_1 16 rfl) (mmC (mmI il_X11_crew_1 17 rfl) (mmC (mmI il_X11_crew_1 18 rfl) (mmC (mmI il_X11_crew_1 10 rfl) mmN)))) (by decide +kernel)) ggX11_crew_X11_asksAny
set_option maxRecDepth 100000 in
theorem ggX11_crew_X11_isFree : GoodIn wsX11_crew wsX11_isFree := goodIn_sub (mmC (mmI il_X11_crew_2 0 rfl) (mmA (mmC (mmI il_X11_crew_2 1 rfl) (mmC (mmI il_X11_crew_2 2 rfl) (mmC (mmI il_X11_crew_2 3 rfl) (mmC (mmI il_X11_crew_2 4 rfl) (mmC (mmI il_X11_crew_2 5 rfl) (mmC (mmI il_X11_crew_1 10 rfl) (mmC (mmI il_X11_crew_2 6 rfl) (mmC (mmI il_X11_crew_2 7 rfl) (mmC (mmI il_X11_crew_2 8 rfl) (mmC (mmI il_X11_crew_2 9 rfl) (mmC (mmI il_X11_crew_2 10 rfl) (mmC (mmI il_X11_crew_2 11 rfl) (mmC (mmI il_X11_crew_2 12 rfl) (mmC (mmI il_X11_crew_2 13 rfl) (mmC (mmI il_X11_crew_2 14 rfl) (mmC (mmI il_X11_crew_2 15 rfl) mmN)))))))))))))))) il_X11_crew_3)) gw_X11_isFree
theorem gX11_crew_X11_isFree : GoodIn wsX11_crew (wsV RX11 354 RX11 yX11_isFree wsX11_isFree) := goodIn_app (goodIn_sub (mmC (mmI il_X11_crew_1 21 rfl) (mmC (mmI il_X11_crew_1 22 rfl) (mmC (mmI il_X11_crew_1 23 rfl) (mmC (mmI il_X11_crew_1 10 rfl) mmN)))) (by decide +kernel)) ggX11_crew_X11_isFree
set_option maxRecDepth 100000 in
theorem ggX11_crew_X11_chooses : GoodIn wsX11_crew wsX11_chooses := goodIn_sub (mmC (mmI il_X11_crew_2 19 rfl) (mmA (mmC (mmI il_X11_crew_1 5 rfl) (mmC (mmI il_X11_crew_1 3 rfl) (mmC (mmI il_X11_crew_1 6 rfl) (mmC (mmI il_X11_crew_2 20 rfl) (mmC (mmI il_X11_crew_1 4 rfl) (mmC (mmI il_X11_crew_1 0 rfl) (mmC (mmI il_X11_crew_1 20 rfl) (mmC (mmI il_X11_crew_1 2 rfl) (mmC (mmI il_X11_crew_2 16 rfl) (mmC (mmI il_X11_crew_2 17 rfl) (mmC (mmI il_X11_crew_2 18 rfl) (mmC (mmI il_X11_crew_1 10 rfl) mmN)))))))))))) il_X11_crew_3)) gw_X11_chooses
theorem gX11_crew_X11_chooses : GoodIn wsX11_crew (wsV RX11 347 RX11 yX11_chooses wsX11_chooses) := goodIn_app (goodIn_sub (mmC (mmI il_X11_crew_2 16 rfl) (mmC (mmI il_X11_crew_2 17 rfl) (mmC (mmI il_X11_crew_2 18 rfl) (mmC (mmI il_X11_crew_1 10 rfl) mmN)))) (by decide +kernel)) ggX11_crew_X11_chooses
theorem dX11_crew_0 : decode cX11_crew 0 = .ok (.iload_n 1, 1) := by decide +kernel
theorem dX11_crew_1 : decode cX11_crew 1 = .ok (.ifCond .ge 10, 3) := by decide +kernel
theorem dX11_crew_4 : decode cX11_crew 4 = .ok (.aload_n 0, 1) := by decide +kernel
theorem dX11_crew_5 : decode cX11_crew 5 = .ok (.bipush (-4), 2) := by decide +kernel
theorem dX11_crew_7 : decode cX11_crew 7 = .ok (.invokevirtual 153, 3) := by decide +kernel
theorem dX11_crew_10 : decode cX11_crew 10 = .ok (.ireturn, 1) := by decide +kernel
theorem dX11_crew_11 : decode cX11_crew 11 = .ok (.iload_n 1, 1) := by decide +kernel
theorem dX11_crew_12 : decode cX11_crew 12 = .ok (.bipush 80, 2) := by decide +kernel
theorem dX11_crew_14 : decode cX11_crew 14 = .ok (.if_icmp .le 10, 3) := by decide +kernel
theorem dX11_crew_17 : decode cX11_crew 17 = .ok (.aload_n 0, 1) := by decide +kernel
theorem dX11_crew_18 : decode cX11_crew 18 = .ok (.bipush (-6), 2) := by decide +kernel
theorem dX11_crew_20 : decode cX11_crew 20 = .ok (.invokevirtual 153, 3) := by decide +kernel
theorem dX11_crew_23 : decode cX11_crew 23 = .ok (.ireturn, 1) := by decide +kernel
theorem dX11_crew_24 : decode cX11_crew 24 = .ok (.iload_n 2, 1) := by decide +kernel
theorem dX11_crew_25 : decode cX11_crew 25 = .ok (.bipush 9, 2) := by decide +kernel
theorem dX11_crew_27 : decode cX11_crew 27 = .ok (.invokestatic 161, 3) := by decide +kernel
theorem dX11_crew_30 : decode cX11_crew 30 = .ok (.ifCond .ne 10, 3) := by decide +kernel
theorem dX11_crew_33 : decode cX11_crew 33 = .ok (.aload_n 0, 1) := by decide +kernel
theorem dX11_crew_34 : decode cX11_crew 34 = .ok (.bipush (-2), 2) := by decide +kernel
theorem dX11_crew_36 : decode cX11_crew 36 = .ok (.invokevirtual 153, 3) := by decide +kernel
theorem dX11_crew_39 : decode cX11_crew 39 = .ok (.ireturn, 1) := by decide +kernel
theorem dX11_crew_40 : decode cX11_crew 40 = .ok (.aload_n 0, 1) := by decide +kernel
theorem dX11_crew_41 : decode cX11_crew 41 = .ok (.iconst 0, 1) := by decide +kernel
theorem dX11_crew_42 : decode cX11_crew 42 = .ok (.putfield 344, 3) := by decide +kernel
theorem dX11_crew_45 : decode cX11_crew 45 = .ok (.iconst 0, 1) := by decide +kernel
theorem dX11_crew_46 : decode cX11_crew 46 = .ok (.istore_n 3, 1) := by decide +kernel
theorem dX11_crew_47 : decode cX11_crew 47 = .ok (.iload_n 3, 1) := by decide +kernel
theorem dX11_crew_48 : decode cX11_crew 48 = .ok (.aload_n 0, 1) := by decide +kernel
theorem dX11_crew_49 : decode cX11_crew 49 = .ok (.getfield 157, 3) := by decide +kernel
theorem dX11_crew_52 : decode cX11_crew 52 = .ok (.if_icmp .ge 57, 3) := by decide +kernel
theorem dX11_crew_55 : decode cX11_crew 55 = .ok (.aload_n 0, 1) := by decide +kernel
theorem dX11_crew_56 : decode cX11_crew 56 = .ok (.getfield 344, 3) := by decide +kernel
theorem dX11_crew_59 : decode cX11_crew 59 = .ok (.bipush 12, 2) := by decide +kernel
theorem dX11_crew_61 : decode cX11_crew 61 = .ok (.if_icmp .ge 48, 3) := by decide +kernel
theorem dX11_crew_64 : decode cX11_crew 64 = .ok (.aload_n 0, 1) := by decide +kernel
theorem dX11_crew_65 : decode cX11_crew 65 = .ok (.iload_n 3, 1) := by decide +kernel
theorem dX11_crew_66 : decode cX11_crew 66 = .ok (.invokevirtual 351, 3) := by decide +kernel
theorem dX11_crew_69 : decode cX11_crew 69 = .ok (.ifCond .eq 34, 3) := by decide +kernel
theorem dX11_crew_72 : decode cX11_crew 72 = .ok (.aload_n 0, 1) := by decide +kernel
theorem dX11_crew_73 : decode cX11_crew 73 = .ok (.iload_n 3, 1) := by decide +kernel
theorem dX11_crew_74 : decode cX11_crew 74 = .ok (.invokevirtual 354, 3) := by decide +kernel
theorem dX11_crew_77 : decode cX11_crew 77 = .ok (.ifCond .ne 6, 3) := by decide +kernel
theorem dX11_crew_80 : decode cX11_crew 80 = .ok (.goto 23, 3) := by decide +kernel
theorem dX11_crew_83 : decode cX11_crew 83 = .ok (.aload_n 0, 1) := by decide +kernel
theorem dX11_crew_84 : decode cX11_crew 84 = .ok (.getfield 137, 3) := by decide +kernel
theorem dX11_crew_87 : decode cX11_crew 87 = .ok (.aload_n 0, 1) := by decide +kernel
theorem dX11_crew_88 : decode cX11_crew 88 = .ok (.getfield 344, 3) := by decide +kernel
theorem dX11_crew_91 : decode cX11_crew 91 = .ok (.iload_n 3, 1) := by decide +kernel
theorem dX11_crew_92 : decode cX11_crew 92 = .ok (.iastore, 1) := by decide +kernel
theorem dX11_crew_93 : decode cX11_crew 93 = .ok (.aload_n 0, 1) := by decide +kernel
theorem dX11_crew_94 : decode cX11_crew 94 = .ok (.dup, 1) := by decide +kernel
theorem dX11_crew_95 : decode cX11_crew 95 = .ok (.getfield 344, 3) := by decide +kernel
theorem dX11_crew_98 : decode cX11_crew 98 = .ok (.iconst 1, 1) := by decide +kernel
theorem dX11_crew_99 : decode cX11_crew 99 = .ok (.iadd, 1) := by decide +kernel
theorem dX11_crew_100 : decode cX11_crew 100 = .ok (.putfield 344, 3) := by decide +kernel
theorem dX11_crew_103 : decode cX11_crew 103 = .ok (.iinc 3 1, 3) := by decide +kernel
theorem dX11_crew_106 : decode cX11_crew 106 = .ok (.goto (-59), 3) := by decide +kernel
theorem dX11_crew_109 : decode cX11_crew 109 = .ok (.aload_n 0, 1) := by decide +kernel
theorem dX11_crew_110 : decode cX11_crew 110 = .ok (.iconst 0, 1) := by decide +kernel
theorem dX11_crew_111 : decode cX11_crew 111 = .ok (.putfield 341, 3) := by decide +kernel
theorem dX11_crew_114 : decode cX11_crew 114 = .ok (.iload_n 1, 1) := by decide +kernel
theorem dX11_crew_115 : decode cX11_crew 115 = .ok (.istore_n 3, 1) := by decide +kernel
theorem dX11_crew_116 : decode cX11_crew 116 = .ok (.iconst 0, 1) := by decide +kernel
theorem dX11_crew_117 : decode cX11_crew 117 = .ok (.istore 4, 2) := by decide +kernel
theorem dX11_crew_119 : decode cX11_crew 119 = .ok (.iload 4, 2) := by decide +kernel
theorem dX11_crew_121 : decode cX11_crew 121 = .ok (.iconst 4, 1) := by decide +kernel
theorem dX11_crew_122 : decode cX11_crew 122 = .ok (.if_icmp .ge 51, 3) := by decide +kernel
theorem dX11_crew_125 : decode cX11_crew 125 = .ok (.iconst 0, 1) := by decide +kernel
theorem dX11_crew_126 : decode cX11_crew 126 = .ok (.istore 5, 2) := by decide +kernel
theorem dX11_crew_128 : decode cX11_crew 128 = .ok (.iload 5, 2) := by decide +kernel
theorem dX11_crew_130 : decode cX11_crew 130 = .ok (.iload_n 3, 1) := by decide +kernel
theorem dX11_crew_131 : decode cX11_crew 131 = .ok (.iconst 3, 1) := by decide +kernel
theorem dX11_crew_132 : decode cX11_crew 132 = .ok (.irem, 1) := by decide +kernel
theorem dX11_crew_133 : decode cX11_crew 133 = .ok (.if_icmp .ge 30, 3) := by decide +kernel
theorem dX11_crew_136 : decode cX11_crew 136 = .ok (.aload_n 0, 1) := by decide +kernel
theorem dX11_crew_137 : decode cX11_crew 137 = .ok (.getfield 140, 3) := by decide +kernel
theorem dX11_crew_140 : decode cX11_crew 140 = .ok (.aload_n 0, 1) := by decide +kernel
theorem dX11_crew_141 : decode cX11_crew 141 = .ok (.getfield 341, 3) := by decide +kernel
theorem dX11_crew_144 : decode cX11_crew 144 = .ok (.iload 4, 2) := by decide +kernel
theorem dX11_crew_146 : decode cX11_crew 146 = .ok (.iastore, 1) := by decide +kernel
theorem dX11_crew_147 : decode cX11_crew 147 = .ok (.aload_n 0, 1) := by decide +kernel
theorem dX11_crew_148 : decode cX11_crew 148 = .ok (.dup, 1) := by decide +kernel
theorem dX11_crew_149 : decode cX11_crew 149 = .ok (.getfield 341, 3) := by decide +kernel
theorem dX11_crew_152 : decode cX11_crew 152 = .ok (.iconst 1, 1) := by decide +kernel
theorem dX11_crew_153 : decode cX11_crew 153 = .ok (.iadd, 1) := by decide +kernel
theorem dX11_crew_154 : decode cX11_crew 154 = .ok (.putfield 341, 3) := by decide +kernel
theorem dX11_crew_157 : decode cX11_crew 157 = .ok (.iinc 5 1, 3) := by decide +kernel
theorem dX11_crew_160 : decode cX11_crew 160 = .ok (.goto (-32), 3) := by decide +kernel
theorem dX11_crew_163 : decode cX11_crew 163 = .ok (.iload_n 3, 1) := by decide +kernel
theorem dX11_crew_164 : decode cX11_crew 164 = .ok (.iconst 3, 1) := by decide +kernel
theorem dX11_crew_165 : decode cX11_crew 165 = .ok (.idiv, 1) := by decide +kernel
theorem dX11_crew_166 : decode cX11_crew 166 = .ok (.istore_n 3, 1) := by decide +kernel
theorem dX11_crew_167 : decode cX11_crew 167 = .ok (.iinc 4 1, 3) := by decide +kernel
theorem dX11_crew_170 : decode cX11_crew 170 = .ok (.goto (-51), 3) := by decide +kernel
theorem dX11_crew_173 : decode cX11_crew 173 = .ok (.aload_n 0, 1) := by decide +kernel
theorem dX11_crew_174 : decode cX11_crew 174 = .ok (.bipush (-9), 2) := by decide +kernel
theorem dX11_crew_176 : decode cX11_crew 176 = .ok (.putfield 338, 3) := by decide +kernel
theorem dX11_crew_179 : decode cX11_crew 179 = .ok (.aload_n 0, 1) := by decide +kernel
theorem dX11_crew_180 : decode cX11_crew 180 = .ok (.iconst 0, 1) := by decide +kernel
theorem dX11_crew_181 : decode cX11_crew 181 = .ok (.iconst 0, 1) := by decide +kernel
theorem dX11_crew_182 : decode cX11_crew 182 = .ok (.iconst 0, 1) := by decide +kernel
theorem dX11_crew_183 : decode cX11_crew 183 = .ok (.invokevirtual 347, 3) := by decide +kernel
theorem dX11_crew_186 : decode cX11_crew 186 = .ok (.iload_n 2, 1) := by decide +kernel
theorem dX11_crew_187 : decode cX11_crew 187 = .ok (.ifCond .ne 8, 3) := by decide +kernel
theorem dX11_crew_190 : decode cX11_crew 190 = .ok (.aload_n 0, 1) := by decide +kernel
theorem dX11_crew_191 : decode cX11_crew 191 = .ok (.getfield 338, 3) := by decide +kernel
theorem dX11_crew_194 : decode cX11_crew 194 = .ok (.ireturn, 1) := by decide +kernel
theorem dX11_crew_195 : decode cX11_crew 195 = .ok (.aload_n 0, 1) := by decide +kernel
theorem dX11_crew_196 : decode cX11_crew 196 = .ok (.getfield 338, 3) := by decide +kernel
theorem dX11_crew_199 : decode cX11_crew 199 = .ok (.ifCond .lt 11, 3) := by decide +kernel
theorem dX11_crew_202 : decode cX11_crew 202 = .ok (.iload_n 2, 1) := by decide +kernel
theorem dX11_crew_203 : decode cX11_crew 203 = .ok (.aload_n 0, 1) := by decide +kernel
theorem dX11_crew_204 : decode cX11_crew 204 = .ok (.getfield 341, 3) := by decide +kernel
theorem dX11_crew_207 : decode cX11_crew 207 = .ok (.if_icmp .le 8, 3) := by decide +kernel
theorem dX11_crew_210 : decode cX11_crew 210 = .ok (.bipush (-9), 2) := by decide +kernel
theorem dX11_crew_212 : decode cX11_crew 212 = .ok (.goto 16, 3) := by decide +kernel
theorem dX11_crew_215 : decode cX11_crew 215 = .ok (.aload_n 0, 1) := by decide +kernel
theorem dX11_crew_216 : decode cX11_crew 216 = .ok (.getfield 137, 3) := by decide +kernel
theorem dX11_crew_219 : decode cX11_crew 219 = .ok (.aload_n 0, 1) := by decide +kernel
theorem dX11_crew_220 : decode cX11_crew 220 = .ok (.getfield 146, 3) := by decide +kernel
theorem dX11_crew_223 : decode cX11_crew 223 = .ok (.iload_n 2, 1) := by decide +kernel
theorem dX11_crew_224 : decode cX11_crew 224 = .ok (.iconst 1, 1) := by decide +kernel
theorem dX11_crew_225 : decode cX11_crew 225 = .ok (.isub, 1) := by decide +kernel
theorem dX11_crew_226 : decode cX11_crew 226 = .ok (.iaload, 1) := by decide +kernel
theorem dX11_crew_227 : decode cX11_crew 227 = .ok (.iaload, 1) := by decide +kernel
theorem dX11_crew_228 : decode cX11_crew 228 = .ok (.ireturn, 1) := by decide +kernel
theorem in_wsX11_crew_X11 : ∀ w ∈ wsX110, w ∈ wsX11_crew := fun w h => List.mem_cons_of_mem _ (List.mem_append_right _ h)

set_option maxHeartbeats 4000000 in
set_option maxRecDepth 100000 in
theorem c_X11_crew (l : Launch) (dC : Nat → ClassId) (dI : Nat → Nat → Nat) (sz : Nat) (g0 : Nat) (pq : Nat → Nat) (cp : Nat → ClassId) (v : Nat → Int32) (fa : Nat → Nat → Int32) (gV : mV v) (gA : mA fa) (x1 : Int32) (x2 : Int32) : Met l yX11_crew wsX11_crew ({ frames := 9, cells := 0, slots := 0, locals := 234 }) (va_Pc [.ref g0, .int x1, .int x2] (pcW (dC, dI) (mT cp) (mW g0 pq cp v fa) sz)) (va_Qi (fun (r : Int32) (u : (Nat → Int32) × (Nat → Nat → Int32)) => mV u.1 ∧ mA u.2 ∧ mX [0, 45, 47, 48, 49, 50, 51, 52, 53, 54, 55, 56, 57, 58, 59, 60] v fa u.1 u.2) (fun u t => va_P (dC, dI) vwCl (mW g0 pq cp u.1 u.2) t.heap ∧ va_K (dC, dI) vwCl (mT cp) t ∧ va_D (va_A (mW g0 pq cp v fa) sz) (mW g0 pq cp u.1 u.2)) (va_A (mW g0 pq cp v fa) sz)) 0 0 (va_A (mW g0 pq cp v fa) sz) := by
  refine Met.ofW (cc := cX11_crew) (maxL := 6) (ret := (some .int)) (by decide +kernel) rfl ?_
  intro p e s m args below meth c s₁ B hml hv
  obtain ⟨rfl, hsz, hP, hK, hD0⟩ := hv
  have hx := B.exec
  have hb := B.bytes
  have hr := B.returns
  have hts := atoms_spec (ws := wsX11_crew) B.pre
  have hown : s.vm.findClass RX11 = some m.cls := findClass_of_methodNamed B.named
  have hlocks := B.notSynchronized
  subst hsz
  have hD := hD0.self (sz := s.heap.size)
  generalize hAe : va_A (mW g0 pq cp v fa) s.heap.size = A at hD ⊢
  have hA : ∀ q : Nat, s.heap.size ≤ q → A q := fun q h => by rw [← hAe]; exact Or.inr h
  have hS : va_S A s.heap s.heap [] := va_S.rf
  have hP : va_P (dC, dI) vwCl (mW g0 pq cp v fa) s.heap := hP
  have hl := lv_entry ([.ref g0, .int x1, .int x2]) (n := 6) (Nat.le_of_ble_eq_true rfl)
  rw [lg_entry_eq]
  generalize (lg_sl ([.ref g0, .int x1, .int x2]) ++ List.replicate (6 - (lg_sl ([.ref g0, .int x1, .int x2])).length) Slot.unset).toArray = ls at hl ⊢
  have hl : lv_has ls 6 [(0, .ref g0), (1, .int x1), (2, .int x2)] := hl
  refine lv_iload_n hx hb dX11_crew_0 rfl (lv_at hl 1 rfl) ?_
  refine lv_if_ge (tgt := 11) hx hb dX11_crew_1 (by decide +kernel) (fun c_1 => ?_) (fun c_1 => ?_)
  · have dc_1 := c_le (a := 0) (b := x1.toInt) (by decide +kernel) rfl c_1
    refine lv_iload_n hx hb dX11_crew_11 rfl (lv_at hl 1 rfl) ?_
    refine lv_bipush (v := 80) hx hb dX11_crew_12 (by decide +kernel) ?_
    refine lv_icmp_le (tgt := 24) hx hb dX11_crew_14 (by decide +kernel) (fun c_2 => ?_) (fun c_2 => ?_)
    · have dc_2 := c_le (a := x1.toInt) (b := 80) rfl (by decide +kernel) c_2
      refine lv_iload_n hx hb dX11_crew_24 rfl (lv_at hl 2 rfl) ?_
      refine lv_bipush (v := 9) hx hb dX11_crew_25 (by decide +kernel) ?_
      have hFc : ∀ q, va_A [] s.heap.size q → A q := pu_free hS hA
      have hPc := hP.sub (ws' := []) [] rfl
      have hDc := hD.sub (ws' := []) [] (by decide +kernel) rfl
      have hKc := hK.sub (tys' := []) [] rfl
      refine va_calli (va_runS (As := [.int x2, .int 9]) (rest := []) ⟨hx, hb, hml, hown, hts⟩ (c_X11_isIn l dC dI s.heap.size x2 9) (va_cwS 2 hts gX11_crew_X11_isIn rfl rfl rfl (by decide +kernel) ⟨(Nat.le_of_ble_eq_true rfl), (Nat.le_of_ble_eq_true rfl)⟩) (pr_S hPc hKc hDc) rfl rfl hl.1 rfl (lv_room (Nat.le_of_ble_eq_true rfl)) dX11_crew_27 ⟨(Nat.le_of_ble_eq_true rfl), (Nat.le_of_ble_eq_true rfl)⟩) hS (fun q _ h => hFc q h) hFc (fun r_4 u t H locs ht hvm w_3 hB hz1 hk1 hS => ?_)
      have hP := pu_keep hP hk1
      clear hk1 hz1 hvm hB ht hFc hPc hDc hKc
      have hbr_4 : 0 ≤ r_4.toInt ∧ r_4.toInt ≤ 1 := iv_of w_3 (isI_i _ _)
      refine lv_if_ne (tgt := 40) hx hb dX11_crew_30 (by decide +kernel) (fun c_5 => ?_) (fun c_5 => ?_)
      · have dc_5 := c_ne (a := r_4.toInt) (b := 0) rfl (by decide +kernel) c_5
        have hi_6 := isI_t w_3 (fun q => c_5 (Int32.toInt_inj.mp q))
        have khi_6 : (9 : Int32).toInt = 9 := by decide
        refine lv_aload_n hx hb dX11_crew_40 rfl (lv_at hl 0 rfl) ?_
        refine lv_iconst (v := 0) hx hb dX11_crew_41 (by decide +kernel) ?_
        refine va_put (D := (dC, dI)) (ci := 11) (v := .int 0) (ty := .int) (C := RX11) (T := TX11) (N := 63) hx hb hts in_wsX11_crew_X11 tyX11 tyX11_ok nmX11 hown hK hP hD hS 0 rfl rfl 58 (by decide +kernel) (hts (.fieldLink RX11 344 "ShipOfficeModel" "someMany" "I") iw_X11_crew_1) (fun _ h9 => h9) rfl (by decide +kernel) rfl rfl (Nat.le_of_ble_eq_true rfl) dX11_crew_42 (fun H locs hP hD hS => ?_)
        have hP : va_P (dC, dI) vwCl (mW g0 pq cp (upd v 58 0) fa) H := hP
        have hD : va_D A (mW g0 pq cp (upd v 58 0) fa) := hD
        obtain ⟨z_7, ez_7⟩ : ∃ zq, zq = (upd v 58 0) := ⟨_, rfl⟩
        rw [← ez_7] at hP hD
        have hVz_7 : mV z_7 := by rw [ez_7]; exact mV_upd (lo := 0) (hi := 12) gV rfl rfl (by decide +kernel)
        have hRz_7 : mX [0, 45, 47, 48, 49, 50, 51, 52, 53, 54, 55, 56, 57, 58, 59, 60] v fa z_7 fa := by rw [ez_7]; exact mX.up mX.rf (by decide +kernel)
        have g_8 : (z_7 58).toInt = 0 := by rw [ez_7, show upd v 58 0 58 = 0 from if_pos rfl]; decide
        have g_9 : (z_7 59).toInt = (v 59).toInt := by rw [ez_7]; exact congrArg Int32.toInt (if_neg (by decide +kernel))
        have cut_10 : ∀ (z_11 : Nat → Int32) (fz_12 : Nat → Nat → Int32) (H : Heap) (locs : List Loc) (ls : Array Slot), mV z_11 → mA fz_12 → mX [0, 45, 47, 48, 49, 50, 51, 52, 53, 54, 55, 56, 57, 58, 59, 60] v fa z_11 fz_12 → va_P (dC, dI) vwCl (mW g0 pq cp z_11 fz_12) H → va_D A (mW g0 pq cp z_11 fz_12) → va_S A s.heap H locs → lv_has ls 6 [(0, .ref g0), (1, .int x1), (2, .int x2)] → W p l e (headSpec wsX11_crew { frames := 9, cells := 0, slots := 0, locals := 234 }).room s m #[Value.ref g0, Value.int x1, Value.int x2] below meth c H locs 0 0 (MQ below (va_Qi (fun (r : Int32) (u : (Nat → Int32) × (Nat → Nat → Int32)) => mV u.1 ∧ mA u.2 ∧ mX [0, 45, 47, 48, 49, 50, 51, 52, 53, 54, 55, 56, 57, 58, 59, 60] v fa u.1 u.2) (fun u t => va_P (dC, dI) vwCl (mW g0 pq cp u.1 u.2) t.heap ∧ va_K (dC, dI) vwCl (mT cp) t ∧ va_D A (mW g0 pq cp u.1 u.2)) A) #[Value.ref g0, Value.int x1, Value.int x2] s 0 0 A) (F0 m 109 ls []) := by
          intro  z_11 fz_12 H locs ls hVz_11 hAz_11 hRz_11 hP hD hS hl
          refine lv_aload_n hx hb dX11_crew_109 rfl (lv_at hl 0 rfl) ?_
          refine lv_iconst (v := 0) hx hb dX11_crew_110 (by decide +kernel) ?_
          refine va_put (D := (dC, dI)) (ci := 11) (v := .int 0) (ty := .int) (C := RX11) (T := TX11) (N := 63) hx hb hts in_wsX11_crew_X11 tyX11 tyX11_ok nmX11 hown hK hP hD hS 0 rfl rfl 59 (by decide +kernel) (hts (.fieldLink RX11 341 "ShipOfficeModel" "hands" "I") iw_X11_crew_2) (fun _ h9 => h9) rfl (by decide +kernel) rfl rfl (Nat.le_of_ble_eq_true rfl) dX11_crew_111 (fun H locs hP hD hS => ?_)
          have hP : va_P (dC, dI) vwCl (mW g0 pq cp (upd z_11 59 0) fz_12) H := hP
          have hD : va_D A (mW g0 pq cp (upd z_11 59 0) fz_12) := hD
          obtain ⟨z_13, ez_13⟩ : ∃ zq, zq = (upd z_11 59 0) := ⟨_, rfl⟩
          rw [← ez_13] at hP hD
          have hVz_13 : mV z_13 := by rw [ez_13]; exact mV_upd (lo := 0) (hi := 8) hVz_11 rfl rfl (by decide +kernel)
          have hRz_13 : mX [0, 45, 47, 48, 49, 50, 51, 52, 53, 54, 55, 56, 57, 58, 59, 60] v fa z_13 fz_12 := by rw [ez_13]; exact mX.up hRz_11 (by decide +kernel)
          have g_14 : (z_13 58).toInt = (z_11 58).toInt := by rw [ez_13]; exact congrArg Int32.toInt (if_neg (by decide +kernel))
          have g_15 : (z_13 59).toInt = 0 := by rw [ez_13, show upd z_11 59 0 59 = 0 from if_pos rfl]; decide
          refine lv_iload_n hx hb dX11_crew_114 rfl (lv_at hl 1 rfl) ?_
          refine lv_istore_n (lv' := [(3, .int x1), (0, .ref g0), (1, .int x1), (2, .int x2)]) hx hb dX11_crew_115 rfl hl (by decide +kernel) rfl (fun ls hl => ?_)
          refine lv_iconst (v := 0) hx hb dX11_crew_116 (by decide +kernel) ?_
          refine lv_istore (lv' := [(4, .int 0), (3, .int x1), (0, .ref g0), (1, .int x1), (2, .int x2)]) hx hb dX11_crew_117 hl (by decide +kernel) rfl (fun ls hl => ?_)
          have cut_16 : ∀ (n : Nat) (y_17 : Int32) (y_18 : Int32) (z_19 : Nat → Int32) (fz_20 : Nat → Nat → Int32) (H : Heap) (locs : List Loc) (ls : Array Slot), 4 - y_17.toInt ≤ (n : Int) → (0 ≤ y_17.toInt ∧ y_17.toInt ≤ 4) → (0 ≤ y_18.toInt ∧ y_18.toInt ≤ 80) → (z_19 59).toInt ≤ 2 * y_17.toInt → mV z_19 → mA fz_20 → mX [0, 45, 47, 48, 49, 50, 51, 52, 53, 54, 55, 56, 57, 58, 59, 60] v fa z_19 fz_20 → va_P (dC, dI) vwCl (mW g0 pq cp z_19 fz_20) H → va_D A (mW g0 pq cp z_19 fz_20) → va_S A s.heap H locs → (z_19 58).toInt = (z_13 58).toInt → lv_has ls 6 [(4, .int y_17), (3, .int y_18), (0, .ref g0), (1, .int x1), (2, .int x2)] → W p l e (headSpec wsX11_crew { frames := 9, cells := 0, slots := 0, locals := 234 }).room s m #[Value.ref g0, Value.int x1, Value.int x2] below meth c H locs 0 0 (MQ below (va_Qi (fun (r : Int32) (u : (Nat → Int32) × (Nat → Nat → Int32)) => mV u.1 ∧ mA u.2 ∧ mX [0, 45, 47, 48, 49, 50, 51, 52, 53, 54, 55, 56, 57, 58, 59, 60] v fa u.1 u.2) (fun u t => va_P (dC, dI) vwCl (mW g0 pq cp u.1 u.2) t.heap ∧ va_K (dC, dI) vwCl (mT cp) t ∧ va_D A (mW g0 pq cp u.1 u.2)) A) #[Value.ref g0, Value.int x1, Value.int x2] s 0 0 A) (F0 m 119 ls []) := by
            intro n
            induction n using Nat.strongRecOn with
            | ind n ih =>
              intro y_17 y_18 z_19 fz_20 H locs ls hm hy_17 hy_18 hq0_cut_16 hVz_19 hAz_19 hRz_19 hP hD hS g_21 hl
              refine lv_iload hx hb dX11_crew_119 (lv_at hl 0 rfl) ?_
              refine lv_iconst (v := 4) hx hb dX11_crew_121 (by decide +kernel) ?_
              refine lv_icmp_ge (tgt := 173) hx hb dX11_crew_122 (by decide +kernel) (fun c_22 => ?_) (fun c_22 => ?_)
              · have dc_22 := c_le (a := 4) (b := y_17.toInt) (by decide +kernel) rfl c_22
                refine lv_aload_n hx hb dX11_crew_173 rfl (lv_at hl 2 rfl) ?_
                refine lv_bipush (v := (-9)) hx hb dX11_crew_174 (by decide +kernel) ?_
                refine va_put (D := (dC, dI)) (ci := 11) (v := .int (-9)) (ty := .int) (C := RX11) (T := TX11) (N := 63) hx hb hts in_wsX11_crew_X11 tyX11 tyX11_ok nmX11 hown hK hP hD hS 0 rfl rfl 60 (by decide +kernel) (hts (.fieldLink RX11 338 "ShipOfficeModel" "least" "I") iw_X11_crew_3) (fun _ h9 => h9) rfl (by decide +kernel) rfl rfl (Nat.le_of_ble_eq_true rfl) dX11_crew_176 (fun H locs hP hD hS => ?_)
                have hP : va_P (dC, dI) vwCl (mW g0 pq cp (upd z_19 60 (-9)) fz_20) H := hP
                have hD : va_D A (mW g0 pq cp (upd z_19 60 (-9)) fz_20) := hD
                obtain ⟨z_23, ez_23⟩ : ∃ zq, zq = (upd z_19 60 (-9)) := ⟨_, rfl⟩
                rw [← ez_23] at hP hD
                have hVz_23 : mV z_23 := by rw [ez_23]; exact mV_upd (lo := -2147483648) (hi := 2147483647) hVz_19 rfl rfl (iv_all _)
                have hRz_23 : mX [0, 45, 47, 48, 49, 50, 51, 52, 53, 54, 55, 56, 57, 58, 59, 60] v fa z_23 fz_20 := by rw [ez_23]; exact mX.up hRz_19 (by decide +kernel)
                have g_24 : (z_23 58).toInt = (z_19 58).toInt := by rw [ez_23]; exact congrArg Int32.toInt (if_neg (by decide +kernel))
                have g_25 : (z_23 59).toInt = (z_19 59).toInt := by rw [ez_23]; exact congrArg Int32.toInt (if_neg (by decide +kernel))
                refine lv_aload_n hx hb dX11_crew_179 rfl (lv_at hl 2 rfl) ?_
                refine lv_iconst (v := 0) hx hb dX11_crew_180 (by decide +kernel) ?_
                refine lv_iconst (v := 0) hx hb dX11_crew_181 (by decide +kernel) ?_
                refine lv_iconst (v := 0) hx hb dX11_crew_182 (by decide +kernel) ?_
                have hFc := va_free (wc := (mW g0 pq cp z_23 fz_20)) hD hS hA (List.range 48) rfl
                refine va_callv (va_runV (As := [.int 0, .int 0, .int 0]) (rest := []) ⟨hx, hb, hml, hown, hts⟩ (c_X11_chooses_0 l dC dI H.size g0 pq cp z_23 fz_20 hVz_23 hAz_19 0 (by decide +kernel) 0 0 (Int.le_trans (by decide : (0 : Int32).toInt ≤ 0) (hVz_23 59).1)) (cwV 3 hts gX11_crew_X11_chooses rfl rfl rfl (by decide +kernel) ⟨(Nat.le_of_ble_eq_true rfl), (Nat.le_of_ble_eq_true rfl)⟩) (pr_V (r := (RX11, TX11, 63)) hP hK hD 0 11 rfl rfl) rfl rfl hl.1 rfl (lv_room (Nat.le_of_ble_eq_true rfl)) dX11_crew_183 ⟨(Nat.le_of_ble_eq_true rfl), (Nat.le_of_ble_eq_true rfl)⟩) hS (fun q _ h => hFc q h) hFc (fun u t H locs ht hvm w_26 hB hz1 hk1 hS => ?_)
                obtain ⟨v_28, fa_29⟩ := u
                obtain ⟨hP1, hK1, hD1⟩ := hB
                rw [ht] at hP1
                have hP : va_P (dC, dI) vwCl (mW g0 pq cp v_28 fa_29) H := hP1
                have hD : va_D A (mW g0 pq cp v_28 fa_29) := hD1.weaken (fun _ _ _ h => hFc _ h)
                clear hP1 hK1 hD1 hk1 hz1 hvm ht hFc
                obtain ⟨hV_30, hA_31, hR_32, hx_33⟩ := w_26
                dsimp only at hV_30 hA_31 hR_32 hx_33
                have g_34 : (v_28 59).toInt = (z_23 59).toInt := hx_33
                have R_35 : mX [0, 45, 47, 48, 49, 50, 51, 52, 53, 54, 55, 56, 57, 58, 59, 60] v fa v_28 fa_29 := mX.st hRz_23 (mX.scr hR_32) (by decide +kernel)
                refine lv_iload_n hx hb dX11_crew_186 rfl (lv_at hl 4 rfl) ?_
                refine lv_if_ne (tgt := 195) hx hb dX11_crew_187 (by decide +kernel) (fun c_36 => ?_) (fun c_36 => ?_)
                · have dc_36 := c_ne (a := x2.toInt) (b := 0) rfl (by decide +kernel) c_36
                  refine lv_aload_n hx hb dX11_crew_195 rfl (lv_at hl 2 rfl) ?_
                  refine va_get (D := (dC, dI)) (ci := 11) (v := .int (v_28 60)) (C := RX11) (T := TX11) (N := 63) hx hb hts in_wsX11_crew_X11 hown hK hP 0 rfl rfl 60 (by decide +kernel) (hts (.fieldLink RX11 338 "ShipOfficeModel" "least" "I") iw_X11_crew_3) (fun _ h9 => h9) rfl dX11_crew_196 ?_
                  refine lv_topi (fun x_37 ex_37 => ?_)
                  clear ex_37
                  refine lv_if_lt (tgt := 210) hx hb dX11_crew_199 (by decide +kernel) (fun c_38 => ?_) (fun c_38 => ?_)
                  · have dc_38 := c_lt (a := x_37.toInt) (b := 0) rfl (by decide +kernel) c_38
                    refine lv_bipush (v := (-9)) hx hb dX11_crew_210 (by decide +kernel) ?_
                    refine lv_goto (tgt := 228) hx hb dX11_crew_212 (by decide +kernel) ?_
                    exact W.iret (v := (-9)) hx hb hr (fun t ht hW => ⟨⟨(-9), (v_28, fa_29), rfl, ⟨hV_30, hA_31, R_35⟩, ⟨by rw [ht]; exact hP, va_K.moved hW.alike hK, hD⟩⟩, hS.F ht⟩) hS.2.2 dX11_crew_228
                  · have dc_38 := c_nlt (a := x_37.toInt) (b := 0) rfl (by decide +kernel) c_38
                    refine lv_iload_n hx hb dX11_crew_202 rfl (lv_at hl 4 rfl) ?_
                    refine lv_aload_n hx hb dX11_crew_203 rfl (lv_at hl 2 rfl) ?_
                    refine va_get (D := (dC, dI)) (ci := 11) (v := .int (v_28 59)) (C := RX11) (T := TX11) (N := 63) hx hb hts in_wsX11_crew_X11 hown hK hP 0 rfl rfl 59 (by decide +kernel) (hts (.fieldLink RX11 341 "ShipOfficeModel" "hands" "I") iw_X11_crew_2) (fun _ h9 => h9) rfl dX11_crew_204 ?_
                    refine lv_topi (fun x_39 ex_39 => ?_)
                    have hx_39 : 0 ≤ x_39.toInt ∧ x_39.toInt ≤ 8 := iv_of ex_39 (hV_30 59)
                    have gx_39 : x_39.toInt = (v_28 59).toInt := iv_to ex_39
                    clear ex_39
                    refine lv_icmp_le (tgt := 215) hx hb dX11_crew_207 (by decide +kernel) (fun c_40 => ?_) (fun c_40 => ?_)
                    · have dc_40 := c_le (a := x2.toInt) (b := x_39.toInt) rfl rfl c_40
                      refine lv_aload_n hx hb dX11_crew_215 rfl (lv_at hl 2 rfl) ?_
                      refine va_get (D := (dC, dI)) (ci := 11) (v := .ref (pq 54)) (C := RX11) (T := TX11) (N := 63) hx hb hts in_wsX11_crew_X11 hown hK hP 0 rfl rfl 54 (by decide +kernel) (hts (.fieldLink RX11 137 "ShipOfficeModel" "some" "[I") iw_X11_crew_4) (fun _ h9 => h9) rfl dX11_crew_216 ?_
                      refine lv_aload_n hx hb dX11_crew_219 rfl (lv_at hl 2 rfl) ?_
                      refine va_get (D := (dC, dI)) (ci := 11) (v := .ref (pq 57)) (C := RX11) (T := TX11) (N := 63) hx hb hts in_wsX11_crew_X11 hown hK hP 0 rfl rfl 57 (by decide +kernel) (hts (.fieldLink RX11 146 "ShipOfficeModel" "best" "[I") iw_X11_crew_5) (fun _ h9 => h9) rfl dX11_crew_220 ?_
                      refine lv_iload_n hx hb dX11_crew_223 rfl (lv_at hl 4 rfl) ?_
                      refine lv_iconst (v := 1) hx hb dX11_crew_224 (by decide +kernel) ?_
                      refine lv_isub hx hb dX11_crew_225 ?_
                      refine lv_topi (fun x_41 ex_41 => ?_)
                      have hx_41 : x_41.toInt = x2.toInt - 1 := (iv_to ex_41).trans (sb_i rfl (by decide +kernel) (by omega) (by omega))
                      clear ex_41
                      refine va_iald hx hb hK hP 46 45 rfl rfl (vp_in_iff.mpr (by omega)) dX11_crew_226 ?_
                      refine lv_topi (fun x_42 ex_42 => ?_)
                      have hx_42 : 0 ≤ x_42.toInt ∧ x_42.toInt ≤ 11 := iv_of ex_42 (hA_31 57 _)
                      clear ex_42
                      refine va_iald hx hb hK hP 43 42 rfl rfl (vp_in_iff.mpr (by omega)) dX11_crew_227 ?_
                      refine lv_topi (fun x_43 ex_43 => ?_)
                      have hx_43 : 0 ≤ x_43.toInt ∧ x_43.toInt ≤ 39 := iv_of ex_43 (hA_31 54 _)
                      clear ex_43
                      exact W.iret (v := x_43) hx hb hr (fun t ht hW => ⟨⟨x_43, (v_28, fa_29), rfl, ⟨hV_30, hA_31, R_35⟩, ⟨by rw [ht]; exact hP, va_K.moved hW.alike hK, hD⟩⟩, hS.F ht⟩) hS.2.2 dX11_crew_228
                    · have dc_40 := c_nle (a := x2.toInt) (b := x_39.toInt) rfl rfl c_40
                      refine lv_bipush (v := (-9)) hx hb dX11_crew_210 (by decide +kernel) ?_
                      refine lv_goto (tgt := 228) hx hb dX11_crew_212 (by decide +kernel) ?_
                      exact W.iret (v := (-9)) hx hb hr (fun t ht hW => ⟨⟨(-9), (v_28, fa_29), rfl, ⟨hV_30, hA_31, R_35⟩, ⟨by rw [ht]; exact hP, va_K.moved hW.alike hK, hD⟩⟩, hS.F ht⟩) hS.2.2 dX11_crew_228
                · have dc_36 := c_eq (a := x2.toInt) (b := 0) rfl (by decide +kernel) c_36
                  refine lv_aload_n hx hb dX11_crew_190 rfl (lv_at hl 2 rfl) ?_
                  refine va_get (D := (dC, dI)) (ci := 11) (v := .int (v_28 60)) (C := RX11) (T := TX11) (N := 63) hx hb hts in_wsX11_crew_X11 hown hK hP 0 rfl rfl 60 (by decide +kernel) (hts (.fieldLink RX11 338 "ShipOfficeModel" "least" "I") iw_X11_crew_3) (fun _ h9 => h9) rfl dX11_crew_191 ?_
                  refine lv_topi (fun x_44 ex_44 => ?_)
                  clear ex_44
                  exact W.iret (v := x_44) hx hb hr (fun t ht hW => ⟨⟨x_44, (v_28, fa_29), rfl, ⟨hV_30, hA_31, R_35⟩, ⟨by rw [ht]; exact hP, va_K.moved hW.alike hK, hD⟩⟩, hS.F ht⟩) hS.2.2 dX11_crew_194
              · have dc_22 := c_nle (a := 4) (b := y_17.toInt) (by decide +kernel) rfl c_22
                refine lv_iconst (v := 0) hx hb dX11_crew_125 (by decide +kernel) ?_
                refine lv_istore (lv' := [(5, .int 0), (4, .int y_17), (3, .int y_18), (0, .ref g0), (1, .int x1), (2, .int x2)]) hx hb dX11_crew_126 hl (by decide +kernel) rfl (fun ls hl => ?_)
                have cut_45 : ∀ (n2 : Nat) (y_46 : Int32) (z_47 : Nat → Int32) (fz_48 : Nat → Nat → Int32) (H : Heap) (locs : List Loc) (ls : Array Slot), 2 - y_46.toInt ≤ (n2 : Int) → (0 ≤ y_46.toInt ∧ y_46.toInt ≤ 2) → (z_47 59).toInt ≤ 2 * y_17.toInt + y_46.toInt → mV z_47 → mA fz_48 → mX [0, 45, 47, 48, 49, 50, 51, 52, 53, 54, 55, 56, 57, 58, 59, 60] v fa z_47 fz_48 → va_P (dC, dI) vwCl (mW g0 pq cp z_47 fz_48) H → va_D A (mW g0 pq cp z_47 fz_48) → va_S A s.heap H locs → (z_47 58).toInt = (z_19 58).toInt → lv_has ls 6 [(5, .int y_46), (4, .int y_17), (3, .int y_18), (0, .ref g0), (1, .int x1), (2, .int x2)] → W p l e (headSpec wsX11_crew { frames := 9, cells := 0, slots := 0, locals := 234 }).room s m #[Value.ref g0, Value.int x1, Value.int x2] below meth c H locs 0 0 (MQ below (va_Qi (fun (r : Int32) (u : (Nat → Int32) × (Nat → Nat → Int32)) => mV u.1 ∧ mA u.2 ∧ mX [0, 45, 47, 48, 49, 50, 51, 52, 53, 54, 55, 56, 57, 58, 59, 60] v fa u.1 u.2) (fun u t => va_P (dC, dI) vwCl (mW g0 pq cp u.1 u.2) t.heap ∧ va_K (dC, dI) vwCl (mT cp) t ∧ va_D A (mW g0 pq cp u.1 u.2)) A) #[Value.ref g0, Value.int x1, Value.int x2] s 0 0 A) (F0 m 128 ls []) := by
                  intro n2
                  induction n2 using Nat.strongRecOn with
                  | ind n2 ih2 =>
                    intro y_46 z_47 fz_48 H locs ls hm hy_46 hq0_cut_45 hVz_47 hAz_47 hRz_47 hP hD hS g_49 hl
                    refine lv_iload hx hb dX11_crew_128 (lv_at hl 0 rfl) ?_
                    refine lv_iload_n hx hb dX11_crew_130 rfl (lv_at hl 2 rfl) ?_
                    refine lv_iconst (v := 3) hx hb dX11_crew_131 (by decide +kernel) ?_
                    refine lv_irem hx hb dX11_crew_132 (by decide +kernel) ?_
                    refine lv_topi (fun x_50 ex_50 => ?_)
                    have hx_50 : x_50.toInt = y_18.toInt % 3 := (iv_to ex_50).trans (rm_i (k := 3) rfl (by decide +kernel) (by omega) (by decide +kernel))
                    clear ex_50
                    refine lv_icmp_ge (tgt := 163) hx hb dX11_crew_133 (by decide +kernel) (fun c_51 => ?_) (fun c_51 => ?_)
                    · have dc_51 := c_le (a := x_50.toInt) (b := y_46.toInt) rfl rfl c_51
                      refine lv_iload_n hx hb dX11_crew_163 rfl (lv_at hl 2 rfl) ?_
                      refine lv_iconst (v := 3) hx hb dX11_crew_164 (by decide +kernel) ?_
                      refine lv_idiv hx hb dX11_crew_165 (by decide +kernel) ?_
                      refine lv_topi (fun x_52 ex_52 => ?_)
                      have hx_52 : x_52.toInt = y_18.toInt / 3 := (iv_to ex_52).trans (dv_i (k := 3) rfl (by decide +kernel) (by omega) (by decide +kernel))
                      clear ex_52
                      refine lv_istore_n (lv' := [(3, .int x_52), (5, .int y_46), (4, .int y_17), (0, .ref g0), (1, .int x1), (2, .int x2)]) hx hb dX11_crew_166 rfl hl (by decide +kernel) rfl (fun ls hl => ?_)
                      obtain ⟨x_53, ex_53⟩ : ∃ zq : Int32, y_17 + 1 = zq := ⟨_, rfl⟩
                      have hx_53 : x_53.toInt = y_17.toInt + 1 := (iv_to ex_53).symm.trans (ad_i rfl (by decide +kernel) (by omega) (by omega))
                      refine lv_iinc (v := x_53) (lv' := [(4, .int x_53), (3, .int x_52), (5, .int y_46), (0, .ref g0), (1, .int x1), (2, .int x2)]) hx hb dX11_crew_167 hl (k := 2) rfl ex_53 (by decide +kernel) rfl (fun ls hl => ?_)
                      clear ex_53
                      refine lv_goto (tgt := 119) hx hb dX11_crew_170 (by decide +kernel) ?_
                      exact ih (n - 1) (by omega) x_53 x_52 z_47 fz_48 _ _ ls (by omega) (by omega) (by omega) (by omega) hVz_47 hAz_47 hRz_47 hP hD hS (by omega) (lv_sub hl [0, 1, 3, 4, 5] rfl)
                    · have dc_51 := c_nle (a := x_50.toInt) (b := y_46.toInt) rfl rfl c_51
                      refine lv_aload_n hx hb dX11_crew_136 rfl (lv_at hl 3 rfl) ?_
                      refine va_get (D := (dC, dI)) (ci := 11) (v := .ref (pq 55)) (C := RX11) (T := TX11) (N := 63) hx hb hts in_wsX11_crew_X11 hown hK hP 0 rfl rfl 55 (by decide +kernel) (hts (.fieldLink RX11 140 "ShipOfficeModel" "handRank" "[I") iw_X11_crew_6) (fun _ h9 => h9) rfl dX11_crew_137 ?_
                      refine lv_aload_n hx hb dX11_crew_140 rfl (lv_at hl 3 rfl) ?_
                      refine va_get (D := (dC, dI)) (ci := 11) (v := .int (z_47 59)) (C := RX11) (T := TX11) (N := 63) hx hb hts in_wsX11_crew_X11 hown hK hP 0 rfl rfl 59 (by decide +kernel) (hts (.fieldLink RX11 341 "ShipOfficeModel" "hands" "I") iw_X11_crew_2) (fun _ h9 => h9) rfl dX11_crew_141 ?_
                      refine lv_topi (fun x_54 ex_54 => ?_)
                      have hx_54 : 0 ≤ x_54.toInt ∧ x_54.toInt ≤ 8 := iv_of ex_54 (hVz_47 59)
                      have gx_54 : x_54.toInt = (z_47 59).toInt := iv_to ex_54
                      clear ex_54
                      refine lv_iload hx hb dX11_crew_144 (lv_at hl 1 rfl) ?_
                      refine va_iast hx hb hK hP hD hS 44 43 rfl rfl (vp_in_iff.mpr (by omega)) dX11_crew_146 (fun H locs hP hD hS => ?_)
                      have hP : va_P (dC, dI) vwCl (mW g0 pq cp z_47 (upF fz_48 55 (x_54 : Int32).toNatClampNeg y_17)) H := hP
                      have hD : va_D A (mW g0 pq cp z_47 (upF fz_48 55 (x_54 : Int32).toNatClampNeg y_17)) := hD
                      obtain ⟨fz_55, efz_55⟩ : ∃ zq, zq = (upF fz_48 55 (x_54 : Int32).toNatClampNeg y_17) := ⟨_, rfl⟩
                      rw [← efz_55] at hP hD
                      have hAfz_55 : mA fz_55 := by rw [efz_55]; exact mA_upF (lo := 0) (hi := 3) hAz_47 rfl rfl (by omega)
                      have hRfz_55 : mX [0, 45, 47, 48, 49, 50, 51, 52, 53, 54, 55, 56, 57, 58, 59, 60] v fa z_47 fz_55 := by rw [efz_55]; exact mX.uF hRz_47 (by decide +kernel)
                      refine lv_aload_n hx hb dX11_crew_147 rfl (lv_at hl 3 rfl) ?_
                      refine lv_dup hx hb dX11_crew_148 rfl ?_
                      refine va_get (D := (dC, dI)) (ci := 11) (v := .int (z_47 59)) (C := RX11) (T := TX11) (N := 63) hx hb hts in_wsX11_crew_X11 hown hK hP 0 rfl rfl 59 (by decide +kernel) (hts (.fieldLink RX11 341 "ShipOfficeModel" "hands" "I") iw_X11_crew_2) (fun _ h9 => h9) rfl dX11_crew_149 ?_
                      refine lv_topi (fun x_56 ex_56 => ?_)
                      have hx_56 : 0 ≤ x_56.toInt ∧ x_56.toInt ≤ 8 := iv_of ex_56 (hVz_47 59)
                      have gx_56 : x_56.toInt = (z_47 59).toInt := iv_to ex_56
                      clear ex_56
                      refine lv_iconst (v := 1) hx hb dX11_crew_152 (by decide +kernel) ?_
                      refine lv_iadd hx hb dX11_crew_153 ?_
                      refine lv_topi (fun x_57 ex_57 => ?_)
                      have hx_57 : x_57.toInt = x_56.toInt + 1 := (iv_to ex_57).trans (ad_i rfl (by decide +kernel) (by omega) (by omega))
                      clear ex_57
                      refine va_put (D := (dC, dI)) (ci := 11) (v := .int x_57) (ty := .int) (C := RX11) (T := TX11) (N := 63) hx hb hts in_wsX11_crew_X11 tyX11 tyX11_ok nmX11 hown hK hP hD hS 0 rfl rfl 59 (by decide +kernel) (hts (.fieldLink RX11 341 "ShipOfficeModel" "hands" "I") iw_X11_crew_2) (fun _ h9 => h9) rfl (by decide +kernel) rfl rfl (Nat.le_of_ble_eq_true rfl) dX11_crew_154 (fun H locs hP hD hS => ?_)
                      have hP : va_P (dC, dI) vwCl (mW g0 pq cp (upd z_47 59 x_57) fz_55) H := hP
                      have hD : va_D A (mW g0 pq cp (upd z_47 59 x_57) fz_55) := hD
                      obtain ⟨z_58, ez_58⟩ : ∃ zq, zq = (upd z_47 59 x_57) := ⟨_, rfl⟩
                      rw [← ez_58] at hP hD
                      have hVz_58 : mV z_58 := by rw [ez_58]; exact mV_upd (lo := 0) (hi := 8) hVz_47 rfl rfl (by omega)
                      have hRz_58 : mX [0, 45, 47, 48, 49, 50, 51, 52, 53, 54, 55, 56, 57, 58, 59, 60] v fa z_58 fz_55 := by rw [ez_58]; exact mX.up hRfz_55 (by decide +kernel)
                      have g_59 : (z_58 58).toInt = (z_47 58).toInt := by rw [ez_58]; exact congrArg Int32.toInt (if_neg (by decide +kernel))
                      have g_60 : (z_58 59).toInt = x_57.toInt := by rw [ez_58, show upd z_47 59 x_57 59 = x_57 from if_pos rfl]
                      obtain ⟨x_61, ex_61⟩ : ∃ zq : Int32, y_46 + 1 = zq := ⟨_, rfl⟩
                      have hx_61 : x_61.toInt = y_46.toInt + 1 := (iv_to ex_61).symm.trans (ad_i rfl (by decide +kernel) (by omega) (by omega))
                      refine lv_iinc (v := x_61) (lv' := [(5, .int x_61), (4, .int y_17), (3, .int y_18), (0, .ref g0), (1, .int x1), (2, .int x2)]) hx hb dX11_crew_157 hl (k := 0) rfl ex_61 (by decide +kernel) rfl (fun ls hl => ?_)
                      clear ex_61
                      refine lv_goto (tgt := 128) hx hb dX11_crew_160 (by decide +kernel) ?_
                      exact ih2 (n2 - 1) (by omega) x_61 z_58 fz_55 _ _ ls (by omega) (by omega) (by omega) hVz_58 hAfz_55 hRz_58 hP hD hS (by omega) (lv_sub hl [0, 1, 2, 3, 4, 5] rfl)
                have kc_62 : (0 : Int32).toInt = 0 := by decide
                exact cut_45 3 0 z_19 fz_20 _ _ ls (by omega) (by decide +kernel) (by omega) hVz_19 hAz_19 hRz_19 hP hD hS (by omega) (lv_sub hl [0, 1, 2, 3, 4, 5] rfl)
          have kc_63 : (0 : Int32).toInt = 0 := by decide
          exact cut_16 5 0 x1 z_13 fz_12 _ _ ls (by omega) (by decide +kernel) (by omega) (by omega) hVz_13 hAz_11 hRz_13 hP hD hS (by omega) (lv_sub hl [0, 1, 2, 3, 4] rfl)
        refine lv_iconst (v := 0) hx hb dX11_crew_45 (by decide +kernel) ?_
        refine lv_istore_n (lv' := [(3, .int 0), (0, .ref g0), (1, .int x1), (2, .int x2)]) hx hb dX11_crew_46 rfl hl (by decide +kernel) rfl (fun ls hl => ?_)
        have cut_64 : ∀ (n : Nat) (y_65 : Int32) (z_66 : Nat → Int32) (fz_67 : Nat → Nat → Int32) (H : Heap) (locs : List Loc) (ls : Array Slot), 40 - y_65.toInt ≤ (n : Int) → (0 ≤ y_65.toInt ∧ y_65.toInt ≤ 40) → mV z_66 → mA fz_67 → mX [0, 45, 47, 48, 49, 50, 51, 52, 53, 54, 55, 56, 57, 58, 59, 60] v fa z_66 fz_67 → va_P (dC, dI) vwCl (mW g0 pq cp z_66 fz_67) H → va_D A (mW g0 pq cp z_66 fz_67) → va_S A s.heap H locs → (z_66 59).toInt = (z_7 59).toInt → lv_has ls 6 [(3, .int y_65), (0, .ref g0), (1, .int x1), (2, .int x2)] → W p l e (headSpec wsX11_crew { frames := 9, cells := 0, slots := 0, locals := 234 }).room s m #[Value.ref g0, Value.int x1, Value.int x2] below meth c H locs 0 0 (MQ below (va_Qi (fun (r : Int32) (u : (Nat → Int32) × (Nat → Nat → Int32)) => mV u.1 ∧ mA u.2 ∧ mX [0, 45, 47, 48, 49, 50, 51, 52, 53, 54, 55, 56, 57, 58, 59, 60] v fa u.1 u.2) (fun u t => va_P (dC, dI) vwCl (mW g0 pq cp u.1 u.2) t.heap ∧ va_K (dC, dI) vwCl (mT cp) t ∧ va_D A (mW g0 pq cp u.1 u.2)) A) #[Value.ref g0, Value.int x1, Value.int x2] s 0 0 A) (F0 m 47 ls []) := by
          intro n
          induction n using Nat.strongRecOn with
          | ind n ih =>
            intro y_65 z_66 fz_67 H locs ls hm hy_65 hVz_66 hAz_66 hRz_66 hP hD hS g_68 hl
            refine lv_iload_n hx hb dX11_crew_47 rfl (lv_at hl 0 rfl) ?_
            refine lv_aload_n hx hb dX11_crew_48 rfl (lv_at hl 1 rfl) ?_
            refine va_get (D := (dC, dI)) (ci := 11) (v := .int (z_66 39)) (C := RX11) (T := TX11) (N := 63) hx hb hts in_wsX11_crew_X11 hown hK hP 0 rfl rfl 39 (by decide +kernel) (hts (.fieldLink RX11 157 "ShipOfficeModel" "men" "I") iw_X11_crew_7) (fun _ h9 => h9) rfl dX11_crew_49 ?_
            refine lv_topi (fun x_69 ex_69 => ?_)
            have hx_69 : 0 ≤ x_69.toInt ∧ x_69.toInt ≤ 40 := iv_of ex_69 (hVz_66 39)
            clear ex_69
            refine lv_icmp_ge (tgt := 109) hx hb dX11_crew_52 (by decide +kernel) (fun c_70 => ?_) (fun c_70 => ?_)
            · have dc_70 := c_le (a := x_69.toInt) (b := y_65.toInt) rfl rfl c_70
              exact cut_10  z_66 fz_67 _ _ ls  hVz_66 hAz_66 hRz_66 hP hD hS (lv_sub hl [1, 2, 3] rfl)
            · have dc_70 := c_nle (a := x_69.toInt) (b := y_65.toInt) rfl rfl c_70
              refine lv_aload_n hx hb dX11_crew_55 rfl (lv_at hl 1 rfl) ?_
              refine va_get (D := (dC, dI)) (ci := 11) (v := .int (z_66 58)) (C := RX11) (T := TX11) (N := 63) hx hb hts in_wsX11_crew_X11 hown hK hP 0 rfl rfl 58 (by decide +kernel) (hts (.fieldLink RX11 344 "ShipOfficeModel" "someMany" "I") iw_X11_crew_1) (fun _ h9 => h9) rfl dX11_crew_56 ?_
              refine lv_topi (fun x_71 ex_71 => ?_)
              have hx_71 : 0 ≤ x_71.toInt ∧ x_71.toInt ≤ 12 := iv_of ex_71 (hVz_66 58)
              have gx_71 : x_71.toInt = (z_66 58).toInt := iv_to ex_71
              clear ex_71
              refine lv_bipush (v := 12) hx hb dX11_crew_59 (by decide +kernel) ?_
              refine lv_icmp_ge (tgt := 109) hx hb dX11_crew_61 (by decide +kernel) (fun c_72 => ?_) (fun c_72 => ?_)
              · have dc_72 := c_le (a := 12) (b := x_71.toInt) (by decide +kernel) rfl c_72
                exact cut_10  z_66 fz_67 _ _ ls  hVz_66 hAz_66 hRz_66 hP hD hS (lv_sub hl [1, 2, 3] rfl)
              · have dc_72 := c_nle (a := 12) (b := x_71.toInt) (by decide +kernel) rfl c_72
                refine lv_aload_n hx hb dX11_crew_64 rfl (lv_at hl 1 rfl) ?_
                refine lv_iload_n hx hb dX11_crew_65 rfl (lv_at hl 0 rfl) ?_
                have hFc : ∀ q, va_A [] H.size q → A q := pu_free hS hA
                refine va_calli (va_runV (As := [.int y_65]) (rest := []) ⟨hx, hb, hml, hown, hts⟩ (c_X11_asksAny l dC dI H.size g0 pq cp z_66 fz_67 y_65 (vp_in_iff.mpr (by omega))) (cwV 1 hts gX11_crew_X11_asksAny rfl rfl rfl (by decide +kernel) ⟨(Nat.le_of_ble_eq_true rfl), (Nat.le_of_ble_eq_true rfl)⟩) (pr_V (r := (RX11, TX11, 63)) hP hK hD 0 11 rfl rfl) rfl rfl hl.1 rfl (lv_room (Nat.le_of_ble_eq_true rfl)) dX11_crew_66 ⟨(Nat.le_of_ble_eq_true rfl), (Nat.le_of_ble_eq_true rfl)⟩) hS (fun q _ h => hFc q h) hFc (fun r_74 u t H locs ht hvm w_73 hB hz1 hk1 hS => ?_)
                have hP := pu_keep hP hk1
                clear hk1 hz1 hvm hB ht hFc
                have hb_75 : 0 ≤ r_74.toInt ∧ r_74.toInt ≤ 1 := z1_i w_73
                refine lv_if_eq (tgt := 103) hx hb dX11_crew_69 (by decide +kernel) (fun c_76 => ?_) (fun c_76 => ?_)
                · have dc_76 := c_eq (a := r_74.toInt) (b := 0) rfl (by decide +kernel) c_76
                  obtain ⟨x_77, ex_77⟩ : ∃ zq : Int32, y_65 + 1 = zq := ⟨_, rfl⟩
                  have hx_77 : x_77.toInt = y_65.toInt + 1 := (iv_to ex_77).symm.trans (ad_i rfl (by decide +kernel) (by omega) (by omega))
                  refine lv_iinc (v := x_77) (lv' := [(3, .int x_77), (0, .ref g0), (1, .int x1), (2, .int x2)]) hx hb dX11_crew_103 hl (k := 0) rfl ex_77 (by decide +kernel) rfl (fun ls hl => ?_)
                  clear ex_77
                  refine lv_goto (tgt := 47) hx hb dX11_crew_106 (by decide +kernel) ?_
                  exact ih (n - 1) (by omega) x_77 z_66 fz_67 _ _ ls (by omega) (by omega) hVz_66 hAz_66 hRz_66 hP hD hS (by omega) (lv_sub hl [0, 1, 2, 3] rfl)
                · have dc_76 := c_ne (a := r_74.toInt) (b := 0) rfl (by decide +kernel) c_76
                  refine lv_aload_n hx hb dX11_crew_72 rfl (lv_at hl 1 rfl) ?_
                  refine lv_iload_n hx hb dX11_crew_73 rfl (lv_at hl 0 rfl) ?_
                  have hFc : ∀ q, va_A [] H.size q → A q := pu_free hS hA
                  refine va_calli (va_runV (As := [.int y_65]) (rest := []) ⟨hx, hb, hml, hown, hts⟩ (c_X11_isFree l dC dI H.size g0 pq cp z_66 fz_67 (z_66 41).toNatClampNeg (cn_le (n := 200) (hVz_66 41)) (cn_eq (n := 200) (hVz_66 41)) (z_66 43).toNatClampNeg (cn_le (n := 60) (hVz_66 43)) (cn_eq (n := 60) (hVz_66 43)) y_65) (cwV 1 hts gX11_crew_X11_isFree rfl rfl rfl (by decide +kernel) ⟨(Nat.le_of_ble_eq_true rfl), (Nat.le_of_ble_eq_true rfl)⟩) (pr_V (r := (RX11, TX11, 63)) hP hK hD 0 11 rfl rfl) rfl rfl hl.1 rfl (lv_room (Nat.le_of_ble_eq_true rfl)) dX11_crew_74 ⟨(Nat.le_of_ble_eq_true rfl), (Nat.le_of_ble_eq_true rfl)⟩) hS (fun q _ h => hFc q h) hFc (fun r_79 u t H locs ht hvm w_78 hB hz1 hk1 hS => ?_)
                  have hP := pu_keep hP hk1
                  clear hk1 hz1 hvm hB ht hFc
                  have hb_80 : 0 ≤ r_79.toInt ∧ r_79.toInt ≤ 1 := z1_i w_78
                  refine lv_if_ne (tgt := 83) hx hb dX11_crew_77 (by decide +kernel) (fun c_81 => ?_) (fun c_81 => ?_)
                  · have dc_81 := c_ne (a := r_79.toInt) (b := 0) rfl (by decide +kernel) c_81
                    refine lv_aload_n hx hb dX11_crew_83 rfl (lv_at hl 1 rfl) ?_
                    refine va_get (D := (dC, dI)) (ci := 11) (v := .ref (pq 54)) (C := RX11) (T := TX11) (N := 63) hx hb hts in_wsX11_crew_X11 hown hK hP 0 rfl rfl 54 (by decide +kernel) (hts (.fieldLink RX11 137 "ShipOfficeModel" "some" "[I") iw_X11_crew_4) (fun _ h9 => h9) rfl dX11_crew_84 ?_
                    refine lv_aload_n hx hb dX11_crew_87 rfl (lv_at hl 1 rfl) ?_
                    refine va_get (D := (dC, dI)) (ci := 11) (v := .int (z_66 58)) (C := RX11) (T := TX11) (N := 63) hx hb hts in_wsX11_crew_X11 hown hK hP 0 rfl rfl 58 (by decide +kernel) (hts (.fieldLink RX11 344 "ShipOfficeModel" "someMany" "I") iw_X11_crew_1) (fun _ h9 => h9) rfl dX11_crew_88 ?_
                    refine lv_topi (fun x_82 ex_82 => ?_)
                    have hx_82 : 0 ≤ x_82.toInt ∧ x_82.toInt ≤ 12 := iv_of ex_82 (hVz_66 58)
                    have gx_82 : x_82.toInt = (z_66 58).toInt := iv_to ex_82
                    clear ex_82
                    refine lv_iload_n hx hb dX11_crew_91 rfl (lv_at hl 0 rfl) ?_
                    refine va_iast hx hb hK hP hD hS 43 42 rfl rfl (vp_in_iff.mpr (by omega)) dX11_crew_92 (fun H locs hP hD hS => ?_)
                    have hP : va_P (dC, dI) vwCl (mW g0 pq cp z_66 (upF fz_67 54 (x_82 : Int32).toNatClampNeg y_65)) H := hP
                    have hD : va_D A (mW g0 pq cp z_66 (upF fz_67 54 (x_82 : Int32).toNatClampNeg y_65)) := hD
                    obtain ⟨fz_83, efz_83⟩ : ∃ zq, zq = (upF fz_67 54 (x_82 : Int32).toNatClampNeg y_65) := ⟨_, rfl⟩
                    rw [← efz_83] at hP hD
                    have hAfz_83 : mA fz_83 := by rw [efz_83]; exact mA_upF (lo := 0) (hi := 39) hAz_66 rfl rfl (by omega)
                    have hRfz_83 : mX [0, 45, 47, 48, 49, 50, 51, 52, 53, 54, 55, 56, 57, 58, 59, 60] v fa z_66 fz_83 := by rw [efz_83]; exact mX.uF hRz_66 (by decide +kernel)
                    refine lv_aload_n hx hb dX11_crew_93 rfl (lv_at hl 1 rfl) ?_
                    refine lv_dup hx hb dX11_crew_94 rfl ?_
                    refine va_get (D := (dC, dI)) (ci := 11) (v := .int (z_66 58)) (C := RX11) (T := TX11) (N := 63) hx hb hts in_wsX11_crew_X11 hown hK hP 0 rfl rfl 58 (by decide +kernel) (hts (.fieldLink RX11 344 "ShipOfficeModel" "someMany" "I") iw_X11_crew_1) (fun _ h9 => h9) rfl dX11_crew_95 ?_
                    refine lv_topi (fun x_84 ex_84 => ?_)
                    have hx_84 : 0 ≤ x_84.toInt ∧ x_84.toInt ≤ 12 := iv_of ex_84 (hVz_66 58)
                    have gx_84 : x_84.toInt = (z_66 58).toInt := iv_to ex_84
                    clear ex_84
                    refine lv_iconst (v := 1) hx hb dX11_crew_98 (by decide +kernel) ?_
                    refine lv_iadd hx hb dX11_crew_99 ?_
                    refine lv_topi (fun x_85 ex_85 => ?_)
                    have hx_85 : x_85.toInt = x_84.toInt + 1 := (iv_to ex_85).trans (ad_i rfl (by decide +kernel) (by omega) (by omega))
                    clear ex_85
                    refine va_put (D := (dC, dI)) (ci := 11) (v := .int x_85) (ty := .int) (C := RX11) (T := TX11) (N := 63) hx hb hts in_wsX11_crew_X11 tyX11 tyX11_ok nmX11 hown hK hP hD hS 0 rfl rfl 58 (by decide +kernel) (hts (.fieldLink RX11 344 "ShipOfficeModel" "someMany" "I") iw_X11_crew_1) (fun _ h9 => h9) rfl (by decide +kernel) rfl rfl (Nat.le_of_ble_eq_true rfl) dX11_crew_100 (fun H locs hP hD hS => ?_)
                    have hP : va_P (dC, dI) vwCl (mW g0 pq cp (upd z_66 58 x_85) fz_83) H := hP
                    have hD : va_D A (mW g0 pq cp (upd z_66 58 x_85) fz_83) := hD
                    obtain ⟨z_86, ez_86⟩ : ∃ zq, zq = (upd z_66 58 x_85) := ⟨_, rfl⟩
                    rw [← ez_86] at hP hD
                    have hVz_86 : mV z_86 := by rw [ez_86]; exact mV_upd (lo := 0) (hi := 12) hVz_66 rfl rfl (by omega)
                    have hRz_86 : mX [0, 45, 47, 48, 49, 50, 51, 52, 53, 54, 55, 56, 57, 58, 59, 60] v fa z_86 fz_83 := by rw [ez_86]; exact mX.up hRfz_83 (by decide +kernel)
                    have g_87 : (z_86 58).toInt = x_85.toInt := by rw [ez_86, show upd z_66 58 x_85 58 = x_85 from if_pos rfl]
                    have g_88 : (z_86 59).toInt = (z_66 59).toInt := by rw [ez_86]; exact congrArg Int32.toInt (if_neg (by decide +kernel))
                    obtain ⟨x_89, ex_89⟩ : ∃ zq : Int32, y_65 + 1 = zq := ⟨_, rfl⟩
                    have hx_89 : x_89.toInt = y_65.toInt + 1 := (iv_to ex_89).symm.trans (ad_i rfl (by decide +kernel) (by omega) (by omega))
                    refine lv_iinc (v := x_89) (lv' := [(3, .int x_89), (0, .ref g0), (1, .int x1), (2, .int x2)]) hx hb dX11_crew_103 hl (k := 0) rfl ex_89 (by decide +kernel) rfl (fun ls hl => ?_)
                    clear ex_89
                    refine lv_goto (tgt := 47) hx hb dX11_crew_106 (by decide +kernel) ?_
                    exact ih (n - 1) (by omega) x_89 z_86 fz_83 _ _ ls (by omega) (by omega) hVz_86 hAfz_83 hRz_86 hP hD hS (by omega) (lv_sub hl [0, 1, 2, 3] rfl)
                  · have dc_81 := c_eq (a := r_79.toInt) (b := 0) rfl (by decide +kernel) c_81
                    refine lv_goto (tgt := 103) hx hb dX11_crew_80 (by decide +kernel) ?_
                    obtain ⟨x_90, ex_90⟩ : ∃ zq : Int32, y_65 + 1 = zq := ⟨_, rfl⟩
                    have hx_90 : x_90.toInt = y_65.toInt + 1 := (iv_to ex_90).symm.trans (ad_i rfl (by decide +kernel) (by omega) (by omega))
                    refine lv_iinc (v := x_90) (lv' := [(3, .int x_90), (0, .ref g0), (1, .int x1), (2, .int x2)]) hx hb dX11_crew_103 hl (k := 0) rfl ex_90 (by decide +kernel) rfl (fun ls hl => ?_)
                    clear ex_90
                    refine lv_goto (tgt := 47) hx hb dX11_crew_106 (by decide +kernel) ?_
                    exact ih (n - 1) (by omega) x_90 z_66 fz_67 _ _ ls (by omega) (by omega) hVz_66 hAz_66 hRz_66 hP hD hS (by omega) (lv_sub hl [0, 1, 2, 3] rfl)
        have kc_91 : (0 : Int32).toInt = 0 := by decide
        exact cut_64 41 0 z_7 fa _ _ ls (by omega) (by decide +kernel) hVz_7 gA hRz_7 hP hD hS (by omega) (lv_sub hl [0, 1, 2, 3] rfl)
      · have dc_5 := c_eq (a := r_4.toInt) (b := 0) rfl (by decide +kernel) c_5
        refine lv_aload_n hx hb dX11_crew_33 rfl (lv_at hl 0 rfl) ?_
        refine lv_bipush (v := (-2)) hx hb dX11_crew_34 (by decide +kernel) ?_
        have hFc := va_free (wc := (mW g0 pq cp v fa)) hD hS hA (List.range 48) rfl
        refine va_calli (va_runV (As := [.int (-2)]) (rest := []) ⟨hx, hb, hml, hown, hts⟩ (c_X11_refuse l dC dI H.size g0 pq cp v fa (-2) (by unfold vp_in; decide)) (cwV 1 hts gX11_crew_X11_refuse rfl rfl rfl (by decide +kernel) ⟨(Nat.le_of_ble_eq_true rfl), (Nat.le_of_ble_eq_true rfl)⟩) (pr_V (r := (RX11, TX11, 63)) hP hK hD 0 11 rfl rfl) rfl rfl hl.1 rfl (lv_room (Nat.le_of_ble_eq_true rfl)) dX11_crew_36 ⟨(Nat.le_of_ble_eq_true rfl), (Nat.le_of_ble_eq_true rfl)⟩) hS (fun q _ h => hFc q h) hFc (fun r_93 u t H locs ht hvm w_92 hB hz1 hk1 hS => ?_)
        obtain ⟨v_94, fa_95⟩ := u
        obtain ⟨hP1, hK1, hD1⟩ := hB
        rw [ht] at hP1
        have hP : va_P (dC, dI) vwCl (mW g0 pq cp v_94 fa_95) H := hP1
        have hD : va_D A (mW g0 pq cp v_94 fa_95) := hD1.weaken (fun _ _ _ h => hFc _ h)
        clear hP1 hK1 hD1 hk1 hz1 hvm ht hFc
        obtain ⟨rfl, w_92⟩ := w_92
        have hVv_94 : mV v_94 := sm0_V w_92 gV
        have hAv_94 : mA fa_95 := sm0_A w_92 gA
        have g_96 : (v_94 58).toInt = (v 58).toInt := congrArg Int32.toInt (congrFun w_92.1 58)
        have g_97 : (v_94 59).toInt = (v 59).toInt := congrArg Int32.toInt (congrFun w_92.1 59)
        have hRv_94 : mX [0, 45, 47, 48, 49, 50, 51, 52, 53, 54, 55, 56, 57, 58, 59, 60] v fa v_94 fa_95 := mX.st mX.rf (mX.s0 w_92) (by decide +kernel)
        exact W.iret (v := (-2)) hx hb hr (fun t ht hW => ⟨⟨(-2), (v_94, fa_95), rfl, ⟨hVv_94, hAv_94, hRv_94⟩, ⟨by rw [ht]; exact hP, va_K.moved hW.alike hK, hD⟩⟩, hS.F ht⟩) hS.2.2 dX11_crew_39
    · have dc_2 := c_nle (a := x1.toInt) (b := 80) rfl (by decide +kernel) c_2
      refine lv_aload_n hx hb dX11_crew_17 rfl (lv_at hl 0 rfl) ?_
      refine lv_bipush (v := (-6)) hx hb dX11_crew_18 (by decide +kernel) ?_
      have hFc := va_free (wc := (mW g0 pq cp v fa)) hD hS hA (List.range 48) rfl
      refine va_calli (va_runV (As := [.int (-6)]) (rest := []) ⟨hx, hb, hml, hown, hts⟩ (c_X11_refuse l dC dI s.heap.size g0 pq cp v fa (-6) (by unfold vp_in; decide)) (cwV 1 hts gX11_crew_X11_refuse rfl rfl rfl (by decide +kernel) ⟨(Nat.le_of_ble_eq_true rfl), (Nat.le_of_ble_eq_true rfl)⟩) (pr_V (r := (RX11, TX11, 63)) hP hK hD 0 11 rfl rfl) rfl rfl hl.1 rfl (lv_room (Nat.le_of_ble_eq_true rfl)) dX11_crew_20 ⟨(Nat.le_of_ble_eq_true rfl), (Nat.le_of_ble_eq_true rfl)⟩) hS (fun q _ h => hFc q h) hFc (fun r_99 u t H locs ht hvm w_98 hB hz1 hk1 hS => ?_)
      obtain ⟨v_100, fa_101⟩ := u
      obtain ⟨hP1, hK1, hD1⟩ := hB
      rw [ht] at hP1
      have hP : va_P (dC, dI) vwCl (mW g0 pq cp v_100 fa_101) H := hP1
      have hD : va_D A (mW g0 pq cp v_100 fa_101) := hD1.weaken (fun _ _ _ h => hFc _ h)
      clear hP1 hK1 hD1 hk1 hz1 hvm ht hFc
      obtain ⟨rfl, w_98⟩ := w_98
      have hVv_100 : mV v_100 := sm0_V w_98 gV
      have hAv_100 : mA fa_101 := sm0_A w_98 gA
      have g_102 : (v_100 58).toInt = (v 58).toInt := congrArg Int32.toInt (congrFun w_98.1 58)
      have g_103 : (v_100 59).toInt = (v 59).toInt := congrArg Int32.toInt (congrFun w_98.1 59)
      have hRv_100 : mX [0, 45, 47, 48, 49, 50, 51, 52, 53, 54, 55, 56, 57, 58, 59, 60] v fa v_100 fa_101 := mX.st mX.rf (mX.s0 w_98) (by decide +kernel)
      exact W.iret (v := (-6)) hx hb hr (fun t ht hW => ⟨⟨(-6), (v_100, fa_101), rfl, ⟨hVv_100, hAv_100, hRv_100⟩, ⟨by rw [ht]; exact hP, va_K.moved hW.alike hK, hD⟩⟩, hS.F ht⟩) hS.2.2 dX11_crew_23
  · have dc_1 := c_nle (a := 0) (b := x1.toInt) (by decide +kernel) rfl c_1
    refine lv_aload_n hx hb dX11_crew_4 rfl (lv_at hl 0 rfl) ?_
    refine lv_bipush (v := (-4)) hx hb dX11_crew_5 (by decide +kernel) ?_
    have hFc := va_free (wc := (mW g0 pq cp v fa)) hD hS hA (List.range 48) rfl
    refine va_calli (va_runV (As := [.int (-4)]) (rest := []) ⟨hx, hb, hml, hown, hts⟩ (c_X11_refuse l dC dI s.heap.size g0 pq cp v fa (-4) (by unfold vp_in; decide)) (cwV 1 hts gX11_crew_X11_refuse rfl rfl rfl (by decide +kernel) ⟨(Nat.le_of_ble_eq_true rfl), (Nat.le_of_ble_eq_true rfl)⟩) (pr_V (r := (RX11, TX11, 63)) hP hK hD 0 11 rfl rfl) rfl rfl hl.1 rfl (lv_room (Nat.le_of_ble_eq_true rfl)) dX11_crew_7 ⟨(Nat.le_of_ble_eq_true rfl), (Nat.le_of_ble_eq_true rfl)⟩) hS (fun q _ h => hFc q h) hFc (fun r_105 u t H locs ht hvm w_104 hB hz1 hk1 hS => ?_)
    obtain ⟨v_106, fa_107⟩ := u
    obtain ⟨hP1, hK1, hD1⟩ := hB
    rw [ht] at hP1
    have hP : va_P (dC, dI) vwCl (mW g0 pq cp v_106 fa_107) H := hP1
    have hD : va_D A (mW g0 pq cp v_106 fa_107) := hD1.weaken (fun _ _ _ h => hFc _ h)
    clear hP1 hK1 hD1 hk1 hz1 hvm ht hFc
    obtain ⟨rfl, w_104⟩ := w_104
    have hVv_106 : mV v_106 := sm0_V w_104 gV
    have hAv_106 : mA fa_107 := sm0_A w_104 gA
    have g_108 : (v_106 58).toInt = (v 58).toInt := congrArg Int32.toInt (congrFun w_104.1 58)
    have g_109 : (v_106 59).toInt = (v 59).toInt := congrArg Int32.toInt (congrFun w_104.1 59)
    have hRv_106 : mX [0, 45, 47, 48, 49, 50, 51, 52, 53, 54, 55, 56, 57, 58, 59, 60] v fa v_106 fa_107 := mX.st mX.rf (mX.s0 w_104) (by decide +kernel)
    exact W.iret (v := (-4)) hx hb hr (fun t ht hW => ⟨⟨(-4), (v_106, fa_107), rfl, ⟨hVv_106, hAv_106, hRv_106⟩, ⟨by rw [ht]; exact hP, va_K.moved hW.alike hK, hD⟩⟩, hS.F ht⟩) hS.2.2 dX11_crew_10
