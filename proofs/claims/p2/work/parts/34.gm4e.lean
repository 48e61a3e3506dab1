abbrev cX11_crew : ByteArray := prog_13_method_78_code
def yX11_crew : MethodName := ⟨RX11, "crew", "(II)I"⟩
def wsX11_crew_r1 : List Cond := [Cond.fieldLink RX11 344 "ShipOfficeModel" "someMany" "I", Cond.fieldLink RX11 157 "ShipOfficeModel" "men" "I", Cond.fieldLink RX11 137 "ShipOfficeModel" "some" "[I", Cond.fieldLink RX11 341 "ShipOfficeModel" "hands" "I", Cond.fieldLink RX11 140 "ShipOfficeModel" "handRank" "[I", Cond.fieldLink RX11 338 "ShipOfficeModel" "least" "I", Cond.fieldLink RX11 146 "ShipOfficeModel" "best" "[I", Cond.methodLink RX11 153 yX11_refuse, Cond.instanceMethod yX11_refuse, Cond.selects RX11 yX11_refuse yX11_refuse, Cond.initialized RX11, Cond.code yX11_refuse cX11_refuse 2 (some .int), Cond.fieldLink RX11 7 "ShipOfficeModel" "refusals" "[I", Cond.methodLink RX11 161 yX11_isIn, Cond.static yX11_isIn, Cond.code yX11_isIn cX11_isIn 2 (some .boolean), Cond.methodLink RX11 351 yX11_asksAny, Cond.instanceMethod yX11_asksAny, Cond.selects RX11 yX11_asksAny yX11_asksAny, Cond.code yX11_asksAny cX11_asksAny 2 (some .boolean), Cond.fieldLink RX11 25 "ShipOfficeModel" "asks" "[I", Cond.methodLink RX11 354 yX11_isFree, Cond.instanceMethod yX11_isFree, Cond.selects RX11 yX11_isFree yX11_isFree]
def wsX11_crew_r2 : List Cond := [Cond.code yX11_isFree cX11_isFree 3 (some .boolean), Cond.fieldLink RX11 168 "ShipOfficeModel" "agreements" "I", Cond.fieldLink RX11 70 "ShipOfficeModel" "man" "[I", Cond.methodLink RX11 188 yX11_goesOn, Cond.instanceMethod yX11_goesOn, Cond.selects RX11 yX11_goesOn yX11_goesOn, Cond.code yX11_goesOn cX11_goesOn 2 (some .boolean), Cond.fieldLink RX11 88 "ShipOfficeModel" "offOn" "[I", Cond.fieldLink RX11 73 "ShipOfficeModel" "voyage" "[I", Cond.methodLink RX11 182 yX11_wasTold, Cond.instanceMethod yX11_wasTold, Cond.selects RX11 yX11_wasTold yX11_wasTold, Cond.code yX11_wasTold cX11_wasTold 4 (some .boolean), Cond.fieldLink RX11 179 "ShipOfficeModel" "happened" "I", Cond.fieldLink RX11 40 "ShipOfficeModel" "what" "[I", Cond.fieldLink RX11 43 "ShipOfficeModel" "whose" "[I", Cond.methodLink RX11 347 yX11_chooses, Cond.instanceMethod yX11_chooses, Cond.selects RX11 yX11_chooses yX11_chooses, Cond.code yX11_chooses cX11_chooses 7 none, Cond.fieldLink RX11 143 "ShipOfficeModel" "hand" "[I"]
def wsX11_crew : List Cond := .code yX11_crew cX11_crew 6 (some .int) :: ((wsX11_crew_r1 ++ wsX11_crew_r2) ++ wsX110)
set_option maxRecDepth 20000 in
theorem ggX11_crew_X11_refuse : GoodIn wsX11_crew wsX11_refuse := goodIn_r _ [12, 13, 46, 47, 48, 49, 50, 51, 52, 53, 54, 55, 56, 57, 58, 59, 60, 61, 62, 63, 64, 65, 66, 67, 68, 69, 70, 71, 72, 73, 74, 75, 76, 77, 78, 79, 80, 81, 82, 83, 84, 85, 86, 87, 88, 89, 90, 91, 92, 93, 94, 95, 96, 97, 98, 99, 100, 101, 102, 103, 104, 105, 106, 107, 108] (by decide +kernel) (by decide +kernel)
set_option maxRecDepth 20000 in
theorem gX11_crew_X11_refuse : GoodIn wsX11_crew (wsV RX11 153 RX11 yX11_refuse wsX11_refuse) := goodIn_app (goodIn_of _ (by decide +kernel)) ggX11_crew_X11_refuse
set_option maxRecDepth 20000 in
theorem ggX11_crew_X11_isIn : GoodIn wsX11_crew wsX11_isIn := goodIn_r _ [16] (by decide +kernel) (by decide +kernel)
set_option maxRecDepth 20000 in
theorem gX11_crew_X11_isIn : GoodIn wsX11_crew (va_wsS RX11 161 yX11_isIn wsX11_isIn) := goodIn_app (goodIn_of _ (by decide +kernel)) ggX11_crew_X11_isIn
set_option maxRecDepth 20000 in
theorem ggX11_crew_X11_asksAny : GoodIn wsX11_crew wsX11_asksAny := goodIn_r _ [20, 21, 46, 47, 48, 49, 50, 51, 52, 53, 54, 55, 56, 57, 58, 59, 60, 61, 62, 63, 64, 65, 66, 67, 68, 69, 70, 71, 72, 73, 74, 75, 76, 77, 78, 79, 80, 81, 82, 83, 84, 85, 86, 87, 88, 89, 90, 91, 92, 93, 94, 95, 96, 97, 98, 99, 100, 101, 102, 103, 104, 105, 106, 107, 108] (by decide +kernel) (by decide +kernel)
set_option maxRecDepth 20000 in
theorem gX11_crew_X11_asksAny : GoodIn wsX11_crew (wsV RX11 351 RX11 yX11_asksAny wsX11_asksAny) := goodIn_app (goodIn_of _ (by decide +kernel)) ggX11_crew_X11_asksAny
set_option maxRecDepth 20000 in
theorem ggX11_crew_X11_isFree : GoodIn wsX11_crew wsX11_isFree := goodIn_r _ [25, 26, 27, 28, 29, 30, 11, 31, 32, 33, 34, 35, 36, 37, 38, 39, 40, 46, 47, 48, 49, 50, 51, 52, 53, 54, 55, 56, 57, 58, 59, 60, 61, 62, 63, 64, 65, 66, 67, 68, 69, 70, 71, 72, 73, 74, 75, 76, 77, 78, 79, 80, 81, 82, 83, 84, 85, 86, 87, 88, 89, 90, 91, 92, 93, 94, 95, 96, 97, 98, 99, 100, 101, 102, 103, 104, 105, 106, 107, 108] (by decide +kernel) (by decide +kernel)
set_option maxRecDepth 20000 in
theorem gX11_crew_X11_isFree : GoodIn wsX11_crew (wsV RX11 354 RX11 yX11_isFree wsX11_isFree) := goodIn_app (goodIn_of _ (by decide +kernel)) ggX11_crew_X11_isFree
set_option maxRecDepth 20000 in
theorem ggX11_crew_X11_chooses : GoodIn wsX11_crew wsX11_chooses := goodIn_r _ [44, 6, 4, 7, 45, 5, 1, 21, 3, 41, 42, 43, 11, 46, 47, 48, 49, 50, 51, 52, 53, 54, 55, 56, 57, 58, 59, 60, 61, 62, 63, 64, 65, 66, 67, 68, 69, 70, 71, 72, 73, 74, 75, 76, 77, 78, 79, 80, 81, 82, 83, 84, 85, 86, 87, 88, 89, 90, 91, 92, 93, 94, 95, 96, 97, 98, 99, 100, 101, 102, 103, 104, 105, 106, 107, 108] (by decide +kernel) (by decide +kernel)
set_option maxRecDepth 20000 in
theorem gX11_crew_X11_chooses : GoodIn wsX11_crew (wsV RX11 347 RX11 yX11_chooses wsX11_chooses) := goodIn_app (goodIn_of _ (by decide +kernel)) ggX11_crew_X11_chooses
theorem dX11_crew_0 : decode cX11_crew 0 = .ok (.iload_n 1, 1) := by decide +kernel
theorem dX11_crew_1 : decode cX11_crew 1 = .ok (.ifCond .ge 10, 3) := by decide +kernel
theorem dX11_crew_4 : decode cX11_crew 4 = .ok (.aload_n 0, 1) := by decide +kernel
theorem dX11_crew_5 : decode cX11_crew 5 = .ok (.bipush (-4), 2) := by decide +kernel
theorem dX11_crew_7 : decode cX11_crew 7 = .ok (.invokevirtual 153, 3) := by decide +kernel
theorem dX11_crew_10 : decode cX11_crew 10 = .ok (.ireturn, 1) := by decide +kernel
theorem dX11_crew_11 : decode cX11_crew 11 = .ok (.iload_n 1, 1) := by decide +kernel
theorem dX11_crew_12 : decode cX11_crew 12 = .ok (.bipush 80, 2) := by decide +kernel
theorem dX11_crew_14 : decode cX11_crew 14 = .ok (.if_icmp .le 10, 3) := by decide +kernel
theorem dX11_crew_17 : decode cX11_crew 17 = .ok (.aload_n 0, 1) := by decide +kernel
theorem dX11_crew_18 : decode cX11_crew 18 = .ok (.bipush (-6), 2) := by decide +kernel
theorem dX11_crew_20 : decode cX11_crew 20 = .ok (.invokevirtual 153, 3) := by decide +kernel
theorem dX11_crew_23 : decode cX11_crew 23 = .ok (.ireturn, 1) := by decide +kernel
theorem dX11_crew_24 : decode cX11_crew 24 = .ok (.iload_n 2, 1) := by decide +kernel
theorem dX11_crew_25 : decode cX11_crew 25 = .ok (.bipush 9, 2) := by decide +kernel
theorem dX11_crew_27 : decode cX11_crew 27 = .ok (.invokestatic 161, 3) := by decide +kernel
theorem dX11_crew_30 : decode cX11_crew 30 = .ok (.ifCond .ne 10, 3) := by decide +kernel
theorem dX11_crew_33 : decode cX11_crew 33 = .ok (.aload_n 0, 1) := by decide +kernel
theorem dX11_crew_34 : decode cX11_crew 34 = .ok (.bipush (-2), 2) := by decide +kernel
theorem dX11_crew_36 : decode cX11_crew 36 = .ok (.invokevirtual 153, 3) := by decide +kernel
theorem dX11_crew_39 : decode cX11_crew 39 = .ok (.ireturn, 1) := by decide +kernel
theorem dX11_crew_40 : decode cX11_crew 40 = .ok (.aload_n 0, 1) := by decide +kernel
theorem dX11_crew_41 : decode cX11_crew 41 = .ok (.iconst 0, 1) := by decide +kernel
theorem dX11_crew_42 : decode cX11_crew 42 = .ok (.putfield 344, 3) := by decide +kernel
theorem dX11_crew_45 : decode cX11_crew 45 = .ok (.iconst 0, 1) := by decide +kernel
theorem dX11_crew_46 : decode cX11_crew 46 = .ok (.istore_n 3, 1) := by decide +kernel
theorem dX11_crew_47 : decode cX11_crew 47 = .ok (.iload_n 3, 1) := by decide +kernel
theorem dX11_crew_48 : decode cX11_crew 48 = .ok (.aload_n 0, 1) := by decide +kernel
theorem dX11_crew_49 : decode cX11_crew 49 = .ok (.getfield 157, 3) := by decide +kernel
theorem dX11_crew_52 : decode cX11_crew 52 = .ok (.if_icmp .ge 57, 3) := by decide +kernel
theorem dX11_crew_55 : decode cX11_crew 55 = .ok (.aload_n 0, 1) := by decide +kernel
theorem dX11_crew_56 : decode cX11_crew 56 = .ok (.getfield 344, 3) := by decide +kernel
theorem dX11_crew_59 : decode cX11_crew 59 = .ok (.bipush 12, 2) := by decide +kernel
theorem dX11_crew_61 : decode cX11_crew 61 = .ok (.if_icmp .ge 48, 3) := by decide +kernel
theorem dX11_crew_64 : decode cX11_crew 64 = .ok (.aload_n 0, 1) := by decide +kernel
theorem dX11_crew_65 : decode cX11_crew 65 = .ok (.iload_n 3, 1) := by decide +kernel
theorem dX11_crew_66 : decode cX11_crew 66 = .ok (.invokevirtual 351, 3) := by decide +kernel
theorem dX11_crew_69 : decode cX11_crew 69 = .ok (.ifCond .eq 34, 3) := by decide +kernel
theorem dX11_crew_72 : decode cX11_crew 72 = .ok (.aload_n 0, 1) := by decide +kernel
theorem dX11_crew_73 : decode cX11_crew 73 = .ok (.iload_n 3, 1) := by decide +kernel
theorem dX11_crew_74 : decode cX11_crew 74 = .ok (.invokevirtual 354, 3) := by decide +kernel
theorem dX11_crew_77 : decode cX11_crew 77 = .ok (.ifCond .ne 6, 3) := by decide +kernel
theorem dX11_crew_80 : decode cX11_crew 80 = .ok (.goto 23, 3) := by decide +kernel
theorem dX11_crew_83 : decode cX11_crew 83 = .ok (.aload_n 0, 1) := by decide +kernel
theorem dX11_crew_84 : decode cX11_crew 84 = .ok (.getfield 137, 3) := by decide +kernel
theorem dX11_crew_87 : decode cX11_crew 87 = .ok (.aload_n 0, 1) := by decide +kernel
theorem dX11_crew_88 : decode cX11_crew 88 = .ok (.getfield 344, 3) := by decide +kernel
theorem dX11_crew_91 : decode cX11_crew 91 = .ok (.iload_n 3, 1) := by decide +kernel
theorem dX11_crew_92 : decode cX11_crew 92 = .ok (.iastore, 1) := by decide +kernel
theorem dX11_crew_93 : decode cX11_crew 93 = .ok (.aload_n 0, 1) := by decide +kernel
theorem dX11_crew_94 : decode cX11_crew 94 = .ok (.dup, 1) := by decide +kernel
theorem dX11_crew_95 : decode cX11_crew 95 = .ok (.getfield 344, 3) := by decide +kernel
theorem dX11_crew_98 : decode cX11_crew 98 = .ok (.iconst 1, 1) := by decide +kernel
theorem dX11_crew_99 : decode cX11_crew 99 = .ok (.iadd, 1) := by decide +kernel
theorem dX11_crew_100 : decode cX11_crew 100 = .ok (.putfield 344, 3) := by decide +kernel
theorem dX11_crew_103 : decode cX11_crew 103 = .ok (.iinc 3 1, 3) := by decide +kernel
theorem dX11_crew_106 : decode cX11_crew 106 = .ok (.goto (-59), 3) := by decide +kernel
theorem dX11_crew_109 : decode cX11_crew 109 = .ok (.aload_n 0, 1) := by decide +kernel
theorem dX11_crew_110 : decode cX11_crew 110 = .ok (.iconst 0, 1) := by decide +kernel
theorem dX11_crew_111 : decode cX11_crew 111 = .ok (.putfield 341, 3) := by decide +kernel
theorem dX11_crew_114 : decode cX11_crew 114 = .ok (.iload_n 1, 1) := by decide +kernel
theorem dX11_crew_115 : decode cX11_crew 115 = .ok (.istore_n 3, 1) := by decide +kernel
theorem dX11_crew_116 : decode cX11_crew 116 = .ok (.iconst 0, 1) := by decide +kernel
theorem dX11_crew_117 : decode cX11_crew 117 = .ok (.istore 4, 2) := by decide +kernel
theorem dX11_crew_119 : decode cX11_crew 119 = .ok (.iload 4, 2) := by decide +kernel
theorem dX11_crew_121 : decode cX11_crew 121 = .ok (.iconst 4, 1) := by decide +kernel
theorem dX11_crew_122 : decode cX11_crew 122 = .ok (.if_icmp .ge 51, 3) := by decide +kernel
theorem dX11_crew_125 : decode cX11_crew 125 = .ok (.iconst 0, 1) := by decide +kernel
theorem dX11_crew_126 : decode cX11_crew 126 = .ok (.istore 5, 2) := by decide +kernel
theorem dX11_crew_128 : decode cX11_crew 128 = .ok (.iload 5, 2) := by decide +kernel
theorem dX11_crew_130 : decode cX11_crew 130 = .ok (.iload_n 3, 1) := by decide +kernel
theorem dX11_crew_131 : decode cX11_crew 131 = .ok (.iconst 3, 1) := by decide +kernel
theorem dX11_crew_132 : decode cX11_crew 132 = .ok (.irem, 1) := by decide +kernel
theorem dX11_crew_133 : decode cX11_crew 133 = .ok (.if_icmp .ge 30, 3) := by decide +kernel
theorem dX11_crew_136 : decode cX11_crew 136 = .ok (.aload_n 0, 1) := by decide +kernel
theorem dX11_crew_137 : decode cX11_crew 137 = .ok (.getfield 140, 3) := by decide +kernel
theorem dX11_crew_140 : decode cX11_crew 140 = .ok (.aload_n 0, 1) := by decide +kernel
theorem dX11_crew_141 : decode cX11_crew 141 = .ok (.getfield 341, 3) := by decide +kernel
theorem dX11_crew_144 : decode cX11_crew 144 = .ok (.iload 4, 2) := by decide +kernel
theorem dX11_crew_146 : decode cX11_crew 146 = .ok (.iastore, 1) := by decide +kernel
theorem dX11_crew_147 : decode cX11_crew 147 = .ok (.aload_n 0, 1) := by decide +kernel
theorem dX11_crew_148 : decode cX11_crew 148 = .ok (.dup, 1) := by decide +kernel
theorem dX11_crew_149 : decode cX11_crew 149 = .ok (.getfield 341, 3) := by decide +kernel
theorem dX11_crew_152 : decode cX11_crew 152 = .ok (.iconst 1, 1) := by decide +kernel
theorem dX11_crew_153 : decode cX11_crew 153 = .ok (.iadd, 1) := by decide +kernel
theorem dX11_crew_154 : decode cX11_crew 154 = .ok (.putfield 341, 3) := by decide +kernel
theorem dX11_crew_157 : decode cX11_crew 157 = .ok (.iinc 5 1, 3) := by decide +kernel
theorem dX11_crew_160 : decode cX11_crew 160 = .ok (.goto (-32), 3) := by decide +kernel
theorem dX11_crew_163 : decode cX11_crew 163 = .ok (.iload_n 3, 1) := by decide +kernel
theorem dX11_crew_164 : decode cX11_crew 164 = .ok (.iconst 3, 1) := by decide +kernel
theorem dX11_crew_165 : decode cX11_crew 165 = .ok (.idiv, 1) := by decide +kernel
theorem dX11_crew_166 : decode cX11_crew 166 = .ok (.istore_n 3, 1) := by decide +kernel
theorem dX11_crew_167 : decode cX11_crew 167 = .ok (.iinc 4 1, 3) := by decide +kernel
theorem dX11_crew_170 : decode cX11_crew 170 = .ok (.goto (-51), 3) := by decide +kernel
theorem dX11_crew_173 : decode cX11_crew 173 = .ok (.aload_n 0, 1) := by decide +kernel
theorem dX11_crew_174 : decode cX11_crew 174 = .ok (.bipush (-9), 2) := by decide +kernel
theorem dX11_crew_176 : decode cX11_crew 176 = .ok (.putfield 338, 3) := by decide +kernel
theorem dX11_crew_179 : decode cX11_crew 179 = .ok (.aload_n 0, 1) := by decide +kernel
theorem dX11_crew_180 : decode cX11_crew 180 = .ok (.iconst 0, 1) := by decide +kernel
theorem dX11_crew_181 : decode cX11_crew 181 = .ok (.iconst 0, 1) := by decide +kernel
theorem dX11_crew_182 : decode cX11_crew 182 = .ok (.iconst 0, 1) := by decide +kernel
theorem dX11_crew_183 : decode cX11_crew 183 = .ok (.invokevirtual 347, 3) := by decide +kernel
theorem dX11_crew_186 : decode cX11_crew 186 = .ok (.iload_n 2, 1) := by decide +kernel
theorem dX11_crew_187 : decode cX11_crew 187 = .ok (.ifCond .ne 8, 3) := by decide +kernel
theorem dX11_crew_190 : decode cX11_crew 190 = .ok (.aload_n 0, 1) := by decide +kernel
theorem dX11_crew_191 : decode cX11_crew 191 = .ok (.getfield 338, 3) := by decide +kernel
theorem dX11_crew_194 : decode cX11_crew 194 = .ok (.ireturn, 1) := by decide +kernel
theorem dX11_crew_195 : decode cX11_crew 195 = .ok (.aload_n 0, 1) := by decide +kernel
theorem dX11_crew_196 : decode cX11_crew 196 = .ok (.getfield 338, 3) := by decide +kernel
theorem dX11_crew_199 : decode cX11_crew 199 = .ok (.ifCond .lt 11, 3) := by decide +kernel
theorem dX11_crew_202 : decode cX11_crew 202 = .ok (.iload_n 2, 1) := by decide +kernel
theorem dX11_crew_203 : decode cX11_crew 203 = .ok (.aload_n 0, 1) := by decide +kernel
theorem dX11_crew_204 : decode cX11_crew 204 = .ok (.getfield 341, 3) := by decide +kernel
theorem dX11_crew_207 : decode cX11_crew 207 = .ok (.if_icmp .le 8, 3) := by decide +kernel
theorem dX11_crew_210 : decode cX11_crew 210 = .ok (.bipush (-9), 2) := by decide +kernel
theorem dX11_crew_212 : decode cX11_crew 212 = .ok (.goto 16, 3) := by decide +kernel
theorem dX11_crew_215 : decode cX11_crew 215 = .ok (.aload_n 0, 1) := by decide +kernel
theorem dX11_crew_216 : decode cX11_crew 216 = .ok (.getfield 137, 3) := by decide +kernel
theorem dX11_crew_219 : decode cX11_crew 219 = .ok (.aload_n 0, 1) := by decide +kernel
theorem dX11_crew_220 : decode cX11_crew 220 = .ok (.getfield 146, 3) := by decide +kernel
theorem dX11_crew_223 : decode cX11_crew 223 = .ok (.iload_n 2, 1) := by decide +kernel
theorem dX11_crew_224 : decode cX11_crew 224 = .ok (.iconst 1, 1) := by decide +kernel
theorem dX11_crew_225 : decode cX11_crew 225 = .ok (.isub, 1) := by decide +kernel
theorem dX11_crew_226 : decode cX11_crew 226 = .ok (.iaload, 1) := by decide +kernel
theorem dX11_crew_227 : decode cX11_crew 227 = .ok (.iaload, 1) := by decide +kernel
theorem dX11_crew_228 : decode cX11_crew 228 = .ok (.ireturn, 1) := by decide +kernel
theorem in_wsX11_crew_X11 : ∀ w ∈ wsX110, w ∈ wsX11_crew := fun w h => List.mem_cons_of_mem _ (List.mem_append_right _ h)
set_option maxHeartbeats 4000000 in
set_option maxRecDepth 100000 in
theorem c_X11_crew (l : Launch) (dC : Nat → ClassId) (dI : Nat → Nat → Nat) (sz : Nat) (g0 : Nat) (pq : Nat → Nat) (cp : Nat → ClassId) (v : Nat → Int32) (fa : Nat → Nat → Int32) (gV : mV v) (gA : mA fa) (x1 : Int32) (x2 : Int32) : Met l yX11_crew wsX11_crew ({ frames := 9, cells := 0, slots := 0, locals := 234 }) (va_Pc [.ref g0, .int x1, .int x2] (pcW (dC, dI) (mT cp) (mW g0 pq cp v fa) sz)) (va_Qi (fun (r : Int32) (u : (Nat → Int32) × (Nat → Nat → Int32)) => mV u.1 ∧ mA u.2 ∧ u.1 38 = v 38) (fun u t => va_P (dC, dI) vwCl (mW g0 pq cp u.1 u.2) t.heap ∧ va_K (dC, dI) vwCl (mT cp) t ∧ va_D (va_A (mW g0 pq cp v fa) sz) (mW g0 pq cp u.1 u.2)) (va_A (mW g0 pq cp v fa) sz)) 0 0 (va_A (mW g0 pq cp v fa) sz) := by
  refine Met.ofW (cc := cX11_crew) (maxL := 6) (ret := (some .int)) (by decide) rfl ?_
  intro p e s m args below meth c s₁ B hml hv
  obtain ⟨rfl, hsz, hP, hK, hD0⟩ := hv
  have hx := B.exec
  have hb := B.bytes
  have hr := B.returns
  have hts := atoms_spec (ws := wsX11_crew) B.pre
  have hown : s.vm.findClass RX11 = some m.cls := findClass_of_methodNamed B.named
  have hlocks := B.notSynchronized
  subst hsz
  have hD := hD0.self (sz := s.heap.size)
  generalize hAe : va_A (mW g0 pq cp v fa) s.heap.size = A at hD ⊢
  have hA : ∀ q : Nat, s.heap.size ≤ q → A q := fun q h => by rw [← hAe]; exact Or.inr h
  have hS : va_S A s.heap s.heap [] := va_S.rf
  have hP : va_P (dC, dI) vwCl (mW g0 pq cp v fa) s.heap := hP
  have hl := lv_entry ([.ref g0, .int x1, .int x2]) (n := 6) (Nat.le_of_ble_eq_true rfl)
  rw [lg_entry_eq]
  generalize (lg_sl ([.ref g0, .int x1, .int x2]) ++ List.replicate (6 - (lg_sl ([.ref g0, .int x1, .int x2])).length) Slot.unset).toArray = ls at hl ⊢
  have hl : lv_has ls 6 [(0, .ref g0), (1, .int x1), (2, .int x2)] := hl
  refine lv_iload_n hx hb dX11_crew_0 rfl (lv_at hl 1 rfl) ?_
  refine lv_if_ge (tgt := 11) hx hb dX11_crew_1 (by decide) (fun c_1 => ?_) (fun c_1 => ?_)
  · have dc_1 := c_le (a := 0) (b := x1.toInt) (by decide) rfl c_1
    refine lv_iload_n hx hb dX11_crew_11 rfl (lv_at hl 1 rfl) ?_
    refine lv_bipush (v := 80) hx hb dX11_crew_12 (by decide) ?_
    refine lv_icmp_le (tgt := 24) hx hb dX11_crew_14 (by decide) (fun c_2 => ?_) (fun c_2 => ?_)
    · have dc_2 := c_le (a := x1.toInt) (b := 80) rfl (by decide) c_2
      refine lv_iload_n hx hb dX11_crew_24 rfl (lv_at hl 2 rfl) ?_
      refine lv_bipush (v := 9) hx hb dX11_crew_25 (by decide) ?_
      have hFc : ∀ q, va_A [] s.heap.size q → A q := pu_free hS hA
      have hPc := hP.sub (ws' := []) [] rfl
      have hDc := hD.sub (ws' := []) [] (by decide) rfl
      have hKc := hK.sub (tys' := []) [] rfl
      refine va_calli (va_runS (As := [.int x2, .int 9]) (rest := []) ⟨hx, hb, hml, hown, hts⟩ (c_X11_isIn l dC dI s.heap.size x2 9) (va_cwS 2 hts gX11_crew_X11_isIn rfl rfl rfl (by decide +kernel) ⟨(Nat.le_of_ble_eq_true rfl), (Nat.le_of_ble_eq_true rfl)⟩) (pr_S hPc hKc hDc) rfl rfl hl.1 rfl (lv_room (Nat.le_of_ble_eq_true rfl)) dX11_crew_27 ⟨(Nat.le_of_ble_eq_true rfl), (Nat.le_of_ble_eq_true rfl)⟩) hS (fun q _ h => hFc q h) hFc (fun r_4 u t H locs ht hvm w_3 hB hz1 hk1 hS => ?_)
      have hP := pu_keep hP hk1
      clear hk1 hz1 hvm hB ht hFc hPc hDc hKc
      have hbr_4 : 0 ≤ r_4.toInt ∧ r_4.toInt ≤ 1 := iv_of w_3 (isI_i _ _)
      refine lv_if_ne (tgt := 40) hx hb dX11_crew_30 (by decide) (fun c_5 => ?_) (fun c_5 => ?_)
      · have dc_5 := c_ne (a := r_4.toInt) (b := 0) rfl (by decide) c_5
        have hi_6 := isI_t w_3 (fun q => c_5 (Int32.toInt_inj.mp q))
        have khi_6 : (9 : Int32).toInt = 9 := by decide
        refine lv_aload_n hx hb dX11_crew_40 rfl (lv_at hl 0 rfl) ?_
        refine lv_iconst (v := 0) hx hb dX11_crew_41 (by decide) ?_
        refine va_put (D := (dC, dI)) (ci := 11) (v := .int 0) (ty := .int) (C := RX11) (T := TX11) (N := 63) hx hb hts in_wsX11_crew_X11 tyX11 tyX11_ok nmX11 hown hK hP hD hS 0 rfl rfl 58 (by decide) (hts (.fieldLink RX11 344 "ShipOfficeModel" "someMany" "I") (by decide +kernel)) (fun _ h9 => h9) rfl (by decide +kernel) rfl rfl (Nat.le_of_ble_eq_true rfl) dX11_crew_42 (fun H locs hP hD hS => ?_)
        have hP : va_P (dC, dI) vwCl (mW g0 pq cp (upd v 58 0) fa) H := hP
        have hD : va_D A (mW g0 pq cp (upd v 58 0) fa) := hD
        obtain ⟨z_7, ez_7⟩ : ∃ zq, zq = (upd v 58 0) := ⟨_, rfl⟩
        rw [← ez_7] at hP hD
        have hVz_7 : mV z_7 := by rw [ez_7]; exact mV_upd (lo := 0) (hi := 12) gV rfl rfl (by decide)
        have hRz_7 : z_7 38 = v 38 := by rw [ez_7]; exact (if_neg (by decide)).trans rfl
        have g_8 : (z_7 58).toInt = 0 := by rw [ez_7, show upd v 58 0 58 = 0 from if_pos rfl]; decide
        have g_9 : (z_7 59).toInt = (v 59).toInt := by rw [ez_7]; exact congrArg Int32.toInt (if_neg (by decide))
        have cut_10 : ∀ (z_11 : Nat → Int32) (fz_12 : Nat → Nat → Int32) (H : Heap) (locs : List Loc) (ls : Array Slot), mV z_11 → mA fz_12 → z_11 38 = v 38 → va_P (dC, dI) vwCl (mW g0 pq cp z_11 fz_12) H → va_D A (mW g0 pq cp z_11 fz_12) → va_S A s.heap H locs → (z_11 58).toInt = (z_7 58).toInt → (z_11 59).toInt = (z_7 59).toInt → lv_has ls 6 [(0, .ref g0), (1, .int x1), (2, .int x2)] → W p l e (headSpec wsX11_crew { frames := 9, cells := 0, slots := 0, locals := 234 }).room s m #[Value.ref g0, Value.int x1, Value.int x2] below meth c H locs 0 0 (MQ below (va_Qi (fun (r : Int32) (u : (Nat → Int32) × (Nat → Nat → Int32)) => mV u.1 ∧ mA u.2 ∧ u.1 38 = v 38) (fun u t => va_P (dC, dI) vwCl (mW g0 pq cp u.1 u.2) t.heap ∧ va_K (dC, dI) vwCl (mT cp) t ∧ va_D A (mW g0 pq cp u.1 u.2)) A) #[Value.ref g0, Value.int x1, Value.int x2] s 0 0 A) (F0 m 109 ls []) := by
          intro  z_11 fz_12 H locs ls hVz_11 hAz_11 hRz_11 hP hD hS g_13 g_14 hl
          refine lv_aload_n hx hb dX11_crew_109 rfl (lv_at hl 0 rfl) ?_
          refine lv_iconst (v := 0) hx hb dX11_crew_110 (by decide) ?_
          refine va_put (D := (dC, dI)) (ci := 11) (v := .int 0) (ty := .int) (C := RX11) (T := TX11) (N := 63) hx hb hts in_wsX11_crew_X11 tyX11 tyX11_ok nmX11 hown hK hP hD hS 0 rfl rfl 59 (by decide) (hts (.fieldLink RX11 341 "ShipOfficeModel" "hands" "I") (by decide +kernel)) (fun _ h9 => h9) rfl (by decide +kernel) rfl rfl (Nat.le_of_ble_eq_true rfl) dX11_crew_111 (fun H locs hP hD hS => ?_)
          have hP : va_P (dC, dI) vwCl (mW g0 pq cp (upd z_11 59 0) fz_12) H := hP
          have hD : va_D A (mW g0 pq cp (upd z_11 59 0) fz_12) := hD
          obtain ⟨z_15, ez_15⟩ : ∃ zq, zq = (upd z_11 59 0) := ⟨_, rfl⟩
          rw [← ez_15] at hP hD
          have hVz_15 : mV z_15 := by rw [ez_15]; exact mV_upd (lo := 0) (hi := 8) hVz_11 rfl rfl (by decide)
          have hRz_15 : z_15 38 = v 38 := by rw [ez_15]; exact (if_neg (by decide)).trans hRz_11
          have g_16 : (z_15 58).toInt = (z_11 58).toInt := by rw [ez_15]; exact congrArg Int32.toInt (if_neg (by decide))
          have g_17 : (z_15 59).toInt = 0 := by rw [ez_15, show upd z_11 59 0 59 = 0 from if_pos rfl]; decide
          refine lv_iload_n hx hb dX11_crew_114 rfl (lv_at hl 1 rfl) ?_
          refine lv_istore_n (lv' := [(3, .int x1), (0, .ref g0), (1, .int x1), (2, .int x2)]) hx hb dX11_crew_115 rfl hl (by decide) rfl (fun ls hl => ?_)
          refine lv_iconst (v := 0) hx hb dX11_crew_116 (by decide) ?_
          refine lv_istore (lv' := [(4, .int 0), (3, .int x1), (0, .ref g0), (1, .int x1), (2, .int x2)]) hx hb dX11_crew_117 hl (by decide) rfl (fun ls hl => ?_)
          have cut_18 : ∀ (n : Nat) (y_19 : Int32) (y_20 : Int32) (z_21 : Nat → Int32) (fz_22 : Nat → Nat → Int32) (H : Heap) (locs : List Loc) (ls : Array Slot), 4 - y_19.toInt ≤ (n : Int) → (0 ≤ y_19.toInt ∧ y_19.toInt ≤ 4) → (0 ≤ y_20.toInt ∧ y_20.toInt ≤ 80) → (z_21 59).toInt ≤ 2 * y_19.toInt → mV z_21 → mA fz_22 → z_21 38 = v 38 → va_P (dC, dI) vwCl (mW g0 pq cp z_21 fz_22) H → va_D A (mW g0 pq cp z_21 fz_22) → va_S A s.heap H locs → (z_21 58).toInt = (z_15 58).toInt → lv_has ls 6 [(4, .int y_19), (3, .int y_20), (0, .ref g0), (1, .int x1), (2, .int x2)] → W p l e (headSpec wsX11_crew { frames := 9, cells := 0, slots := 0, locals := 234 }).room s m #[Value.ref g0, Value.int x1, Value.int x2] below meth c H locs 0 0 (MQ below (va_Qi (fun (r : Int32) (u : (Nat → Int32) × (Nat → Nat → Int32)) => mV u.1 ∧ mA u.2 ∧ u.1 38 = v 38) (fun u t => va_P (dC, dI) vwCl (mW g0 pq cp u.1 u.2) t.heap ∧ va_K (dC, dI) vwCl (mT cp) t ∧ va_D A (mW g0 pq cp u.1 u.2)) A) #[Value.ref g0, Value.int x1, Value.int x2] s 0 0 A) (F0 m 119 ls []) := by
            intro n
            induction n using Nat.strongRecOn with
            | ind n ih =>
              intro y_19 y_20 z_21 fz_22 H locs ls hm hy_19 hy_20 hq0_cut_18 hVz_21 hAz_21 hRz_21 hP hD hS g_23 hl
              refine lv_iload hx hb dX11_crew_119 (lv_at hl 0 rfl) ?_
              refine lv_iconst (v := 4) hx hb dX11_crew_121 (by decide) ?_
              refine lv_icmp_ge (tgt := 173) hx hb dX11_crew_122 (by decide) (fun c_24 => ?_) (fun c_24 => ?_)
              · have dc_24 := c_le (a := 4) (b := y_19.toInt) (by decide) rfl c_24
                refine lv_aload_n hx hb dX11_crew_173 rfl (lv_at hl 2 rfl) ?_
                refine lv_bipush (v := (-9)) hx hb dX11_crew_174 (by decide) ?_
                refine va_put (D := (dC, dI)) (ci := 11) (v := .int (-9)) (ty := .int) (C := RX11) (T := TX11) (N := 63) hx hb hts in_wsX11_crew_X11 tyX11 tyX11_ok nmX11 hown hK hP hD hS 0 rfl rfl 60 (by decide) (hts (.fieldLink RX11 338 "ShipOfficeModel" "least" "I") (by decide +kernel)) (fun _ h9 => h9) rfl (by decide +kernel) rfl rfl (Nat.le_of_ble_eq_true rfl) dX11_crew_176 (fun H locs hP hD hS => ?_)
                have hP : va_P (dC, dI) vwCl (mW g0 pq cp (upd z_21 60 (-9)) fz_22) H := hP
                have hD : va_D A (mW g0 pq cp (upd z_21 60 (-9)) fz_22) := hD
                obtain ⟨z_25, ez_25⟩ : ∃ zq, zq = (upd z_21 60 (-9)) := ⟨_, rfl⟩
                rw [← ez_25] at hP hD
                have hVz_25 : mV z_25 := by rw [ez_25]; exact mV_upd (lo := -2147483648) (hi := 2147483647) hVz_21 rfl rfl (iv_all _)
                have hRz_25 : z_25 38 = v 38 := by rw [ez_25]; exact (if_neg (by decide)).trans hRz_21
                have g_26 : (z_25 58).toInt = (z_21 58).toInt := by rw [ez_25]; exact congrArg Int32.toInt (if_neg (by decide))
                have g_27 : (z_25 59).toInt = (z_21 59).toInt := by rw [ez_25]; exact congrArg Int32.toInt (if_neg (by decide))
                refine lv_aload_n hx hb dX11_crew_179 rfl (lv_at hl 2 rfl) ?_
                refine lv_iconst (v := 0) hx hb dX11_crew_180 (by decide) ?_
                refine lv_iconst (v := 0) hx hb dX11_crew_181 (by decide) ?_
                refine lv_iconst (v := 0) hx hb dX11_crew_182 (by decide) ?_
                have hFc := va_free (wc := (mW g0 pq cp z_25 fz_22)) hD hS hA (List.range 48) rfl
                refine va_callv (va_runV (As := [.int 0, .int 0, .int 0]) (rest := []) ⟨hx, hb, hml, hown, hts⟩ (c_X11_chooses_0 l dC dI H.size g0 pq cp z_25 fz_22 hVz_25 hAz_21 0 (by decide) 0 0 (by omega)) (cwV 3 hts gX11_crew_X11_chooses rfl rfl rfl (by decide +kernel) ⟨(Nat.le_of_ble_eq_true rfl), (Nat.le_of_ble_eq_true rfl)⟩) (pr_V (r := (RX11, TX11, 63)) hP hK hD 0 11 rfl rfl) rfl rfl hl.1 rfl (lv_room (Nat.le_of_ble_eq_true rfl)) dX11_crew_183 ⟨(Nat.le_of_ble_eq_true rfl), (Nat.le_of_ble_eq_true rfl)⟩) hS (fun q _ h => hFc q h) hFc (fun u t H locs ht hvm w_28 hB hz1 hk1 hS => ?_)
                obtain ⟨v_30, fa_31⟩ := u
                obtain ⟨hP1, hK1, hD1⟩ := hB
                rw [ht] at hP1
                have hP : va_P (dC, dI) vwCl (mW g0 pq cp v_30 fa_31) H := hP1
                have hD : va_D A (mW g0 pq cp v_30 fa_31) := hD1.weaken (fun _ _ _ h => hFc _ h)
                clear hP1 hK1 hD1 hk1 hz1 hvm ht hFc
                obtain ⟨hV_32, hA_33, hR_34, hx_35⟩ := w_28
                dsimp only at hV_32 hA_33 hR_34 hx_35
                have g_36 : (v_30 59).toInt = (z_25 59).toInt := hx_35
                have R_37 : v_30 38 = v 38 := (scr.now hR_34).trans hRz_25
                refine lv_iload_n hx hb dX11_crew_186 rfl (lv_at hl 4 rfl) ?_
                refine lv_if_ne (tgt := 195) hx hb dX11_crew_187 (by decide) (fun c_38 => ?_) (fun c_38 => ?_)
                · have dc_38 := c_ne (a := x2.toInt) (b := 0) rfl (by decide) c_38
                  refine lv_aload_n hx hb dX11_crew_195 rfl (lv_at hl 2 rfl) ?_
                  refine va_get (D := (dC, dI)) (ci := 11) (v := .int (v_30 60)) (C := RX11) (T := TX11) (N := 63) hx hb hts in_wsX11_crew_X11 hown hK hP 0 rfl rfl 60 (by decide) (hts (.fieldLink RX11 338 "ShipOfficeModel" "least" "I") (by decide +kernel)) (fun _ h9 => h9) rfl dX11_crew_196 ?_
                  refine lv_topi (fun x_39 ex_39 => ?_)
                  clear ex_39
                  refine lv_if_lt (tgt := 210) hx hb dX11_crew_199 (by decide) (fun c_40 => ?_) (fun c_40 => ?_)
                  · have dc_40 := c_lt (a := x_39.toInt) (b := 0) rfl (by decide) c_40
                    refine lv_bipush (v := (-9)) hx hb dX11_crew_210 (by decide) ?_
                    refine lv_goto (tgt := 228) hx hb dX11_crew_212 (by decide) ?_
                    exact W.iret (v := (-9)) hx hb hr (fun t ht hW => ⟨⟨(-9), (v_30, fa_31), rfl, ⟨hV_32, hA_33, R_37⟩, ⟨by rw [ht]; exact hP, va_K.moved hW.alike hK, hD⟩⟩, hS.F ht⟩) hS.2.2 dX11_crew_228
                  · have dc_40 := c_nlt (a := x_39.toInt) (b := 0) rfl (by decide) c_40
                    refine lv_iload_n hx hb dX11_crew_202 rfl (lv_at hl 4 rfl) ?_
                    refine lv_aload_n hx hb dX11_crew_203 rfl (lv_at hl 2 rfl) ?_
                    refine va_get (D := (dC, dI)) (ci := 11) (v := .int (v_30 59)) (C := RX11) (T := TX11) (N := 63) hx hb hts in_wsX11_crew_X11 hown hK hP 0 rfl rfl 59 (by decide) (hts (.fieldLink RX11 341 "ShipOfficeModel" "hands" "I") (by decide +kernel)) (fun _ h9 => h9) rfl dX11_crew_204 ?_
                    refine lv_topi (fun x_41 ex_41 => ?_)
                    have hx_41 : 0 ≤ x_41.toInt ∧ x_41.toInt ≤ 8 := iv_of ex_41 (hV_32 59)
                    have gx_41 : x_41.toInt = (v_30 59).toInt := iv_to ex_41
                    clear ex_41
                    refine lv_icmp_le (tgt := 215) hx hb dX11_crew_207 (by decide) (fun c_42 => ?_) (fun c_42 => ?_)
                    · have dc_42 := c_le (a := x2.toInt) (b := x_41.toInt) rfl rfl c_42
                      refine lv_aload_n hx hb dX11_crew_215 rfl (lv_at hl 2 rfl) ?_
                      refine va_get (D := (dC, dI)) (ci := 11) (v := .ref (pq 54)) (C := RX11) (T := TX11) (N := 63) hx hb hts in_wsX11_crew_X11 hown hK hP 0 rfl rfl 54 (by decide) (hts (.fieldLink RX11 137 "ShipOfficeModel" "some" "[I") (by decide +kernel)) (fun _ h9 => h9) rfl dX11_crew_216 ?_
                      refine lv_aload_n hx hb dX11_crew_219 rfl (lv_at hl 2 rfl) ?_
                      refine va_get (D := (dC, dI)) (ci := 11) (v := .ref (pq 57)) (C := RX11) (T := TX11) (N := 63) hx hb hts in_wsX11_crew_X11 hown hK hP 0 rfl rfl 57 (by decide) (hts (.fieldLink RX11 146 "ShipOfficeModel" "best" "[I") (by decide +kernel)) (fun _ h9 => h9) rfl dX11_crew_220 ?_
                      refine lv_iload_n hx hb dX11_crew_223 rfl (lv_at hl 4 rfl) ?_
                      refine lv_iconst (v := 1) hx hb dX11_crew_224 (by decide) ?_
                      refine lv_isub hx hb dX11_crew_225 ?_
                      refine lv_topi (fun x_43 ex_43 => ?_)
                      have hx_43 : x_43.toInt = x2.toInt - 1 := (iv_to ex_43).trans (sb_i rfl (by decide) (by omega) (by omega))
                      clear ex_43
                      refine va_iald hx hb hK hP 46 45 rfl rfl (vp_in_iff.mpr (by omega)) dX11_crew_226 ?_
                      refine lv_topi (fun x_44 ex_44 => ?_)
                      have hx_44 : 0 ≤ x_44.toInt ∧ x_44.toInt ≤ 11 := iv_of ex_44 (hA_33 57 _)
                      clear ex_44
                      refine va_iald hx hb hK hP 43 42 rfl rfl (vp_in_iff.mpr (by omega)) dX11_crew_227 ?_
                      refine lv_topi (fun x_45 ex_45 => ?_)
                      have hx_45 : 0 ≤ x_45.toInt ∧ x_45.toInt ≤ 39 := iv_of ex_45 (hA_33 54 _)
                      clear ex_45
                      exact W.iret (v := x_45) hx hb hr (fun t ht hW => ⟨⟨x_45, (v_30, fa_31), rfl, ⟨hV_32, hA_33, R_37⟩, ⟨by rw [ht]; exact hP, va_K.moved hW.alike hK, hD⟩⟩, hS.F ht⟩) hS.2.2 dX11_crew_228
                    · have dc_42 := c_nle (a := x2.toInt) (b := x_41.toInt) rfl rfl c_42
                      refine lv_bipush (v := (-9)) hx hb dX11_crew_210 (by decide) ?_
                      refine lv_goto (tgt := 228) hx hb dX11_crew_212 (by decide) ?_
                      exact W.iret (v := (-9)) hx hb hr (fun t ht hW => ⟨⟨(-9), (v_30, fa_31), rfl, ⟨hV_32, hA_33, R_37⟩, ⟨by rw [ht]; exact hP, va_K.moved hW.alike hK, hD⟩⟩, hS.F ht⟩) hS.2.2 dX11_crew_228
                · have dc_38 := c_eq (a := x2.toInt) (b := 0) rfl (by decide) c_38
                  refine lv_aload_n hx hb dX11_crew_190 rfl (lv_at hl 2 rfl) ?_
                  refine va_get (D := (dC, dI)) (ci := 11) (v := .int (v_30 60)) (C := RX11) (T := TX11) (N := 63) hx hb hts in_wsX11_crew_X11 hown hK hP 0 rfl rfl 60 (by decide) (hts (.fieldLink RX11 338 "ShipOfficeModel" "least" "I") (by decide +kernel)) (fun _ h9 => h9) rfl dX11_crew_191 ?_
                  refine lv_topi (fun x_46 ex_46 => ?_)
                  clear ex_46
                  exact W.iret (v := x_46) hx hb hr (fun t ht hW => ⟨⟨x_46, (v_30, fa_31), rfl, ⟨hV_32, hA_33, R_37⟩, ⟨by rw [ht]; exact hP, va_K.moved hW.alike hK, hD⟩⟩, hS.F ht⟩) hS.2.2 dX11_crew_194
              · have dc_24 := c_nle (a := 4) (b := y_19.toInt) (by decide) rfl c_24
                refine lv_iconst (v := 0) hx hb dX11_crew_125 (by decide) ?_
                refine lv_istore (lv' := [(5, .int 0), (4, .int y_19), (3, .int y_20), (0, .ref g0), (1, .int x1), (2, .int x2)]) hx hb dX11_crew_126 hl (by decide) rfl (fun ls hl => ?_)
                have cut_47 : ∀ (n2 : Nat) (y_48 : Int32) (z_49 : Nat → Int32) (fz_50 : Nat → Nat → Int32) (H : Heap) (locs : List Loc) (ls : Array Slot), 2 - y_48.toInt ≤ (n2 : Int) → (0 ≤ y_48.toInt ∧ y_48.toInt ≤ 2) → (z_49 59).toInt ≤ 2 * y_19.toInt + y_48.toInt → mV z_49 → mA fz_50 → z_49 38 = v 38 → va_P (dC, dI) vwCl (mW g0 pq cp z_49 fz_50) H → va_D A (mW g0 pq cp z_49 fz_50) → va_S A s.heap H locs → (z_49 58).toInt = (z_21 58).toInt → lv_has ls 6 [(5, .int y_48), (4, .int y_19), (3, .int y_20), (0, .ref g0), (1, .int x1), (2, .int x2)] → W p l e (headSpec wsX11_crew { frames := 9, cells := 0, slots := 0, locals := 234 }).room s m #[Value.ref g0, Value.int x1, Value.int x2] below meth c H locs 0 0 (MQ below (va_Qi (fun (r : Int32) (u : (Nat → Int32) × (Nat → Nat → Int32)) => mV u.1 ∧ mA u.2 ∧ u.1 38 = v 38) (fun u t => va_P (dC, dI) vwCl (mW g0 pq cp u.1 u.2) t.heap ∧ va_K (dC, dI) vwCl (mT cp) t ∧ va_D A (mW g0 pq cp u.1 u.2)) A) #[Value.ref g0, Value.int x1, Value.int x2] s 0 0 A) (F0 m 128 ls []) := by
                  intro n2
                  induction n2 using Nat.strongRecOn with
                  | ind n2 ih2 =>
                    intro y_48 z_49 fz_50 H locs ls hm hy_48 hq0_cut_47 hVz_49 hAz_49 hRz_49 hP hD hS g_51 hl
                    refine lv_iload hx hb dX11_crew_128 (lv_at hl 0 rfl) ?_
                    refine lv_iload_n hx hb dX11_crew_130 rfl (lv_at hl 2 rfl) ?_
                    refine lv_iconst (v := 3) hx hb dX11_crew_131 (by decide) ?_
                    refine lv_irem hx hb dX11_crew_132 (by decide) ?_
                    refine lv_topi (fun x_52 ex_52 => ?_)
                    have hx_52 : x_52.toInt = y_20.toInt % 3 := (iv_to ex_52).trans (rm_i (k := 3) rfl (by decide) (by omega) (by decide))
                    clear ex_52
                    refine lv_icmp_ge (tgt := 163) hx hb dX11_crew_133 (by decide) (fun c_53 => ?_) (fun c_53 => ?_)
                    · have dc_53 := c_le (a := x_52.toInt) (b := y_48.toInt) rfl rfl c_53
                      refine lv_iload_n hx hb dX11_crew_163 rfl (lv_at hl 2 rfl) ?_
                      refine lv_iconst (v := 3) hx hb dX11_crew_164 (by decide) ?_
                      refine lv_idiv hx hb dX11_crew_165 (by decide) ?_
                      refine lv_topi (fun x_54 ex_54 => ?_)
                      have hx_54 : x_54.toInt = y_20.toInt / 3 := (iv_to ex_54).trans (dv_i (k := 3) rfl (by decide) (by omega) (by decide))
                      clear ex_54
                      refine lv_istore_n (lv' := [(3, .int x_54), (5, .int y_48), (4, .int y_19), (0, .ref g0), (1, .int x1), (2, .int x2)]) hx hb dX11_crew_166 rfl hl (by decide) rfl (fun ls hl => ?_)
                      obtain ⟨x_55, ex_55⟩ : ∃ zq : Int32, y_19 + 1 = zq := ⟨_, rfl⟩
                      have hx_55 : x_55.toInt = y_19.toInt + 1 := (iv_to ex_55).symm.trans (ad_i rfl (by decide) (by omega) (by omega))
                      refine lv_iinc (v := x_55) (lv' := [(4, .int x_55), (3, .int x_54), (5, .int y_48), (0, .ref g0), (1, .int x1), (2, .int x2)]) hx hb dX11_crew_167 hl (k := 2) rfl ex_55 (by decide) rfl (fun ls hl => ?_)
                      clear ex_55
                      refine lv_goto (tgt := 119) hx hb dX11_crew_170 (by decide) ?_
                      exact ih (n - 1) (by omega) x_55 x_54 z_49 fz_50 _ _ ls (by omega) (by omega) (by omega) (by omega) hVz_49 hAz_49 hRz_49 hP hD hS (by omega) (lv_sub hl [0, 1, 3, 4, 5] rfl)
                    · have dc_53 := c_nle (a := x_52.toInt) (b := y_48.toInt) rfl rfl c_53
                      refine lv_aload_n hx hb dX11_crew_136 rfl (lv_at hl 3 rfl) ?_
                      refine va_get (D := (dC, dI)) (ci := 11) (v := .ref (pq 55)) (C := RX11) (T := TX11) (N := 63) hx hb hts in_wsX11_crew_X11 hown hK hP 0 rfl rfl 55 (by decide) (hts (.fieldLink RX11 140 "ShipOfficeModel" "handRank" "[I") (by decide +kernel)) (fun _ h9 => h9) rfl dX11_crew_137 ?_
                      refine lv_aload_n hx hb dX11_crew_140 rfl (lv_at hl 3 rfl) ?_
                      refine va_get (D := (dC, dI)) (ci := 11) (v := .int (z_49 59)) (C := RX11) (T := TX11) (N := 63) hx hb hts in_wsX11_crew_X11 hown hK hP 0 rfl rfl 59 (by decide) (hts (.fieldLink RX11 341 "ShipOfficeModel" "hands" "I") (by decide +kernel)) (fun _ h9 => h9) rfl dX11_crew_141 ?_
                      refine lv_topi (fun x_56 ex_56 => ?_)
                      have hx_56 : 0 ≤ x_56.toInt ∧ x_56.toInt ≤ 8 := iv_of ex_56 (hVz_49 59)
                      have gx_56 : x_56.toInt = (z_49 59).toInt := iv_to ex_56
                      clear ex_56
                      refine lv_iload hx hb dX11_crew_144 (lv_at hl 1 rfl) ?_
                      refine va_iast hx hb hK hP hD hS 44 43 rfl rfl (vp_in_iff.mpr (by omega)) dX11_crew_146 (fun H locs hP hD hS => ?_)
                      have hP : va_P (dC, dI) vwCl (mW g0 pq cp z_49 (upF fz_50 55 (x_56 : Int32).toNatClampNeg y_19)) H := hP
                      have hD : va_D A (mW g0 pq cp z_49 (upF fz_50 55 (x_56 : Int32).toNatClampNeg y_19)) := hD
                      obtain ⟨fz_57, efz_57⟩ : ∃ zq, zq = (upF fz_50 55 (x_56 : Int32).toNatClampNeg y_19) := ⟨_, rfl⟩
                      rw [← efz_57] at hP hD
                      have hAfz_57 : mA fz_57 := by rw [efz_57]; exact mA_upF (lo := 0) (hi := 3) hAz_49 rfl rfl (by omega)
                      refine lv_aload_n hx hb dX11_crew_147 rfl (lv_at hl 3 rfl) ?_
                      refine lv_dup hx hb dX11_crew_148 rfl ?_
                      refine va_get (D := (dC, dI)) (ci := 11) (v := .int (z_49 59)) (C := RX11) (T := TX11) (N := 63) hx hb hts in_wsX11_crew_X11 hown hK hP 0 rfl rfl 59 (by decide) (hts (.fieldLink RX11 341 "ShipOfficeModel" "hands" "I") (by decide +kernel)) (fun _ h9 => h9) rfl dX11_crew_149 ?_
                      refine lv_topi (fun x_58 ex_58 => ?_)
                      have hx_58 : 0 ≤ x_58.toInt ∧ x_58.toInt ≤ 8 := iv_of ex_58 (hVz_49 59)
                      have gx_58 : x_58.toInt = (z_49 59).toInt := iv_to ex_58
                      clear ex_58
                      refine lv_iconst (v := 1) hx hb dX11_crew_152 (by decide) ?_
                      refine lv_iadd hx hb dX11_crew_153 ?_
                      refine lv_topi (fun x_59 ex_59 => ?_)
                      have hx_59 : x_59.toInt = x_58.toInt + 1 := (iv_to ex_59).trans (ad_i rfl (by decide) (by omega) (by omega))
                      clear ex_59
                      refine va_put (D := (dC, dI)) (ci := 11) (v := .int x_59) (ty := .int) (C := RX11) (T := TX11) (N := 63) hx hb hts in_wsX11_crew_X11 tyX11 tyX11_ok nmX11 hown hK hP hD hS 0 rfl rfl 59 (by decide) (hts (.fieldLink RX11 341 "ShipOfficeModel" "hands" "I") (by decide +kernel)) (fun _ h9 => h9) rfl (by decide +kernel) rfl rfl (Nat.le_of_ble_eq_true rfl) dX11_crew_154 (fun H locs hP hD hS => ?_)
                      have hP : va_P (dC, dI) vwCl (mW g0 pq cp (upd z_49 59 x_59) fz_57) H := hP
                      have hD : va_D A (mW g0 pq cp (upd z_49 59 x_59) fz_57) := hD
                      obtain ⟨z_60, ez_60⟩ : ∃ zq, zq = (upd z_49 59 x_59) := ⟨_, rfl⟩
                      rw [← ez_60] at hP hD
                      have hVz_60 : mV z_60 := by rw [ez_60]; exact mV_upd (lo := 0) (hi := 8) hVz_49 rfl rfl (by omega)
                      have hRz_60 : z_60 38 = v 38 := by rw [ez_60]; exact (if_neg (by decide)).trans hRz_49
                      have g_61 : (z_60 58).toInt = (z_49 58).toInt := by rw [ez_60]; exact congrArg Int32.toInt (if_neg (by decide))
                      have g_62 : (z_60 59).toInt = x_59.toInt := by rw [ez_60, show upd z_49 59 x_59 59 = x_59 from if_pos rfl]
                      obtain ⟨x_63, ex_63⟩ : ∃ zq : Int32, y_48 + 1 = zq := ⟨_, rfl⟩
                      have hx_63 : x_63.toInt = y_48.toInt + 1 := (iv_to ex_63).symm.trans (ad_i rfl (by decide) (by omega) (by omega))
                      refine lv_iinc (v := x_63) (lv' := [(5, .int x_63), (4, .int y_19), (3, .int y_20), (0, .ref g0), (1, .int x1), (2, .int x2)]) hx hb dX11_crew_157 hl (k := 0) rfl ex_63 (by decide) rfl (fun ls hl => ?_)
                      clear ex_63
                      refine lv_goto (tgt := 128) hx hb dX11_crew_160 (by decide) ?_
                      exact ih2 (n2 - 1) (by omega) x_63 z_60 fz_57 _ _ ls (by omega) (by omega) (by omega) hVz_60 hAfz_57 hRz_60 hP hD hS (by omega) (lv_sub hl [0, 1, 2, 3, 4, 5] rfl)
                have kc_64 : (0 : Int32).toInt = 0 := by decide
                exact cut_47 3 0 z_21 fz_22 _ _ ls (by omega) (by decide) (by omega) hVz_21 hAz_21 hRz_21 hP hD hS (by omega) (lv_sub hl [0, 1, 2, 3, 4, 5] rfl)
          have kc_65 : (0 : Int32).toInt = 0 := by decide
          exact cut_18 5 0 x1 z_15 fz_12 _ _ ls (by omega) (by decide) (by omega) (by omega) hVz_15 hAz_11 hRz_15 hP hD hS (by omega) (lv_sub hl [0, 1, 2, 3, 4] rfl)
        refine lv_iconst (v := 0) hx hb dX11_crew_45 (by decide) ?_
        refine lv_istore_n (lv' := [(3, .int 0), (0, .ref g0), (1, .int x1), (2, .int x2)]) hx hb dX11_crew_46 rfl hl (by decide) rfl (fun ls hl => ?_)
        have cut_66 : ∀ (n : Nat) (y_67 : Int32) (z_68 : Nat → Int32) (fz_69 : Nat → Nat → Int32) (H : Heap) (locs : List Loc) (ls : Array Slot), 40 - y_67.toInt ≤ (n : Int) → (0 ≤ y_67.toInt ∧ y_67.toInt ≤ 40) → mV z_68 → mA fz_69 → z_68 38 = v 38 → va_P (dC, dI) vwCl (mW g0 pq cp z_68 fz_69) H → va_D A (mW g0 pq cp z_68 fz_69) → va_S A s.heap H locs → (z_68 59).toInt = (z_7 59).toInt → lv_has ls 6 [(3, .int y_67), (0, .ref g0), (1, .int x1), (2, .int x2)] → W p l e (headSpec wsX11_crew { frames := 9, cells := 0, slots := 0, locals := 234 }).room s m #[Value.ref g0, Value.int x1, Value.int x2] below meth c H locs 0 0 (MQ below (va_Qi (fun (r : Int32) (u : (Nat → Int32) × (Nat → Nat → Int32)) => mV u.1 ∧ mA u.2 ∧ u.1 38 = v 38) (fun u t => va_P (dC, dI) vwCl (mW g0 pq cp u.1 u.2) t.heap ∧ va_K (dC, dI) vwCl (mT cp) t ∧ va_D A (mW g0 pq cp u.1 u.2)) A) #[Value.ref g0, Value.int x1, Value.int x2] s 0 0 A) (F0 m 47 ls []) := by
          intro n
          induction n using Nat.strongRecOn with
          | ind n ih =>
            intro y_67 z_68 fz_69 H locs ls hm hy_67 hVz_68 hAz_68 hRz_68 hP hD hS g_70 hl
            refine lv_iload_n hx hb dX11_crew_47 rfl (lv_at hl 0 rfl) ?_
            refine lv_aload_n hx hb dX11_crew_48 rfl (lv_at hl 1 rfl) ?_
            refine va_get (D := (dC, dI)) (ci := 11) (v := .int (z_68 39)) (C := RX11) (T := TX11) (N := 63) hx hb hts in_wsX11_crew_X11 hown hK hP 0 rfl rfl 39 (by decide) (hts (.fieldLink RX11 157 "ShipOfficeModel" "men" "I") (by decide +kernel)) (fun _ h9 => h9) rfl dX11_crew_49 ?_
            refine lv_topi (fun x_71 ex_71 => ?_)
            have hx_71 : 0 ≤ x_71.toInt ∧ x_71.toInt ≤ 40 := iv_of ex_71 (hVz_68 39)
            clear ex_71
            refine lv_icmp_ge (tgt := 109) hx hb dX11_crew_52 (by decide) (fun c_72 => ?_) (fun c_72 => ?_)
            · have dc_72 := c_le (a := x_71.toInt) (b := y_67.toInt) rfl rfl c_72
              exact cut_10  z_68 fz_69 _ _ ls  hVz_68 hAz_68 hRz_68 hP hD hS (by omega) (by omega) (lv_sub hl [1, 2, 3] rfl)
            · have dc_72 := c_nle (a := x_71.toInt) (b := y_67.toInt) rfl rfl c_72
              refine lv_aload_n hx hb dX11_crew_55 rfl (lv_at hl 1 rfl) ?_
              refine va_get (D := (dC, dI)) (ci := 11) (v := .int (z_68 58)) (C := RX11) (T := TX11) (N := 63) hx hb hts in_wsX11_crew_X11 hown hK hP 0 rfl rfl 58 (by decide) (hts (.fieldLink RX11 344 "ShipOfficeModel" "someMany" "I") (by decide +kernel)) (fun _ h9 => h9) rfl dX11_crew_56 ?_
              refine lv_topi (fun x_73 ex_73 => ?_)
              have hx_73 : 0 ≤ x_73.toInt ∧ x_73.toInt ≤ 12 := iv_of ex_73 (hVz_68 58)
              have gx_73 : x_73.toInt = (z_68 58).toInt := iv_to ex_73
              clear ex_73
              refine lv_bipush (v := 12) hx hb dX11_crew_59 (by decide) ?_
              refine lv_icmp_ge (tgt := 109) hx hb dX11_crew_61 (by decide) (fun c_74 => ?_) (fun c_74 => ?_)
              · have dc_74 := c_le (a := 12) (b := x_73.toInt) (by decide) rfl c_74
                exact cut_10  z_68 fz_69 _ _ ls  hVz_68 hAz_68 hRz_68 hP hD hS (by omega) (by omega) (lv_sub hl [1, 2, 3] rfl)
              · have dc_74 := c_nle (a := 12) (b := x_73.toInt) (by decide) rfl c_74
                refine lv_aload_n hx hb dX11_crew_64 rfl (lv_at hl 1 rfl) ?_
                refine lv_iload_n hx hb dX11_crew_65 rfl (lv_at hl 0 rfl) ?_
                have hFc : ∀ q, va_A [] H.size q → A q := pu_free hS hA
                refine va_calli (va_runV (As := [.int y_67]) (rest := []) ⟨hx, hb, hml, hown, hts⟩ (c_X11_asksAny l dC dI H.size g0 pq cp z_68 fz_69 y_67 (vp_in_iff.mpr (by omega))) (cwV 1 hts gX11_crew_X11_asksAny rfl rfl rfl (by decide +kernel) ⟨(Nat.le_of_ble_eq_true rfl), (Nat.le_of_ble_eq_true rfl)⟩) (pr_V (r := (RX11, TX11, 63)) hP hK hD 0 11 rfl rfl) rfl rfl hl.1 rfl (lv_room (Nat.le_of_ble_eq_true rfl)) dX11_crew_66 ⟨(Nat.le_of_ble_eq_true rfl), (Nat.le_of_ble_eq_true rfl)⟩) hS (fun q _ h => hFc q h) hFc (fun r_76 u t H locs ht hvm w_75 hB hz1 hk1 hS => ?_)
                have hP := pu_keep hP hk1
                clear hk1 hz1 hvm hB ht hFc
                have hb_77 : 0 ≤ r_76.toInt ∧ r_76.toInt ≤ 1 := z1_i w_75
                refine lv_if_eq (tgt := 103) hx hb dX11_crew_69 (by decide) (fun c_78 => ?_) (fun c_78 => ?_)
                · have dc_78 := c_eq (a := r_76.toInt) (b := 0) rfl (by decide) c_78
                  obtain ⟨x_79, ex_79⟩ : ∃ zq : Int32, y_67 + 1 = zq := ⟨_, rfl⟩
                  have hx_79 : x_79.toInt = y_67.toInt + 1 := (iv_to ex_79).symm.trans (ad_i rfl (by decide) (by omega) (by omega))
                  refine lv_iinc (v := x_79) (lv' := [(3, .int x_79), (0, .ref g0), (1, .int x1), (2, .int x2)]) hx hb dX11_crew_103 hl (k := 0) rfl ex_79 (by decide) rfl (fun ls hl => ?_)
                  clear ex_79
                  refine lv_goto (tgt := 47) hx hb dX11_crew_106 (by decide) ?_
                  exact ih (n - 1) (by omega) x_79 z_68 fz_69 _ _ ls (by omega) (by omega) hVz_68 hAz_68 hRz_68 hP hD hS (by omega) (lv_sub hl [0, 1, 2, 3] rfl)
                · have dc_78 := c_ne (a := r_76.toInt) (b := 0) rfl (by decide) c_78
                  refine lv_aload_n hx hb dX11_crew_72 rfl (lv_at hl 1 rfl) ?_
                  refine lv_iload_n hx hb dX11_crew_73 rfl (lv_at hl 0 rfl) ?_
                  have hFc : ∀ q, va_A [] H.size q → A q := pu_free hS hA
                  refine va_calli (va_runV (As := [.int y_67]) (rest := []) ⟨hx, hb, hml, hown, hts⟩ (c_X11_isFree l dC dI H.size g0 pq cp z_68 fz_69 (z_68 41).toNatClampNeg (cn_le (n := 200) (hVz_68 41)) (cn_eq (n := 200) (hVz_68 41)) (z_68 43).toNatClampNeg (cn_le (n := 60) (hVz_68 43)) (cn_eq (n := 60) (hVz_68 43)) y_67) (cwV 1 hts gX11_crew_X11_isFree rfl rfl rfl (by decide +kernel) ⟨(Nat.le_of_ble_eq_true rfl), (Nat.le_of_ble_eq_true rfl)⟩) (pr_V (r := (RX11, TX11, 63)) hP hK hD 0 11 rfl rfl) rfl rfl hl.1 rfl (lv_room (Nat.le_of_ble_eq_true rfl)) dX11_crew_74 ⟨(Nat.le_of_ble_eq_true rfl), (Nat.le_of_ble_eq_true rfl)⟩) hS (fun q _ h => hFc q h) hFc (fun r_81 u t H locs ht hvm w_80 hB hz1 hk1 hS => ?_)
                  have hP := pu_keep hP hk1
                  clear hk1 hz1 hvm hB ht hFc
                  have hb_82 : 0 ≤ r_81.toInt ∧ r_81.toInt ≤ 1 := z1_i w_80
                  refine lv_if_ne (tgt := 83) hx hb dX11_crew_77 (by decide) (fun c_83 => ?_) (fun c_83 => ?_)
                  · have dc_83 := c_ne (a := r_81.toInt) (b := 0) rfl (by decide) c_83
                    refine lv_aload_n hx hb dX11_crew_83 rfl (lv_at hl 1 rfl) ?_
                    refine va_get (D := (dC, dI)) (ci := 11) (v := .ref (pq 54)) (C := RX11) (T := TX11) (N := 63) hx hb hts in_wsX11_crew_X11 hown hK hP 0 rfl rfl 54 (by decide) (hts (.fieldLink RX11 137 "ShipOfficeModel" "some" "[I") (by decide +kernel)) (fun _ h9 => h9) rfl dX11_crew_84 ?_
                    refine lv_aload_n hx hb dX11_crew_87 rfl (lv_at hl 1 rfl) ?_
                    refine va_get (D := (dC, dI)) (ci := 11) (v := .int (z_68 58)) (C := RX11) (T := TX11) (N := 63) hx hb hts in_wsX11_crew_X11 hown hK hP 0 rfl rfl 58 (by decide) (hts (.fieldLink RX11 344 "ShipOfficeModel" "someMany" "I") (by decide +kernel)) (fun _ h9 => h9) rfl dX11_crew_88 ?_
                    refine lv_topi (fun x_84 ex_84 => ?_)
                    have hx_84 : 0 ≤ x_84.toInt ∧ x_84.toInt ≤ 12 := iv_of ex_84 (hVz_68 58)
                    have gx_84 : x_84.toInt = (z_68 58).toInt := iv_to ex_84
                    clear ex_84
                    refine lv_iload_n hx hb dX11_crew_91 rfl (lv_at hl 0 rfl) ?_
                    refine va_iast hx hb hK hP hD hS 43 42 rfl rfl (vp_in_iff.mpr (by omega)) dX11_crew_92 (fun H locs hP hD hS => ?_)
                    have hP : va_P (dC, dI) vwCl (mW g0 pq cp z_68 (upF fz_69 54 (x_84 : Int32).toNatClampNeg y_67)) H := hP
                    have hD : va_D A (mW g0 pq cp z_68 (upF fz_69 54 (x_84 : Int32).toNatClampNeg y_67)) := hD
                    obtain ⟨fz_85, efz_85⟩ : ∃ zq, zq = (upF fz_69 54 (x_84 : Int32).toNatClampNeg y_67) := ⟨_, rfl⟩
                    rw [← efz_85] at hP hD
                    have hAfz_85 : mA fz_85 := by rw [efz_85]; exact mA_upF (lo := 0) (hi := 39) hAz_68 rfl rfl (by omega)
                    refine lv_aload_n hx hb dX11_crew_93 rfl (lv_at hl 1 rfl) ?_
                    refine lv_dup hx hb dX11_crew_94 rfl ?_
                    refine va_get (D := (dC, dI)) (ci := 11) (v := .int (z_68 58)) (C := RX11) (T := TX11) (N := 63) hx hb hts in_wsX11_crew_X11 hown hK hP 0 rfl rfl 58 (by decide) (hts (.fieldLink RX11 344 "ShipOfficeModel" "someMany" "I") (by decide +kernel)) (fun _ h9 => h9) rfl dX11_crew_95 ?_
                    refine lv_topi (fun x_86 ex_86 => ?_)
                    have hx_86 : 0 ≤ x_86.toInt ∧ x_86.toInt ≤ 12 := iv_of ex_86 (hVz_68 58)
                    have gx_86 : x_86.toInt = (z_68 58).toInt := iv_to ex_86
                    clear ex_86
                    refine lv_iconst (v := 1) hx hb dX11_crew_98 (by decide) ?_
                    refine lv_iadd hx hb dX11_crew_99 ?_
                    refine lv_topi (fun x_87 ex_87 => ?_)
                    have hx_87 : x_87.toInt = x_86.toInt + 1 := (iv_to ex_87).trans (ad_i rfl (by decide) (by omega) (by omega))
                    clear ex_87
                    refine va_put (D := (dC, dI)) (ci := 11) (v := .int x_87) (ty := .int) (C := RX11) (T := TX11) (N := 63) hx hb hts in_wsX11_crew_X11 tyX11 tyX11_ok nmX11 hown hK hP hD hS 0 rfl rfl 58 (by decide) (hts (.fieldLink RX11 344 "ShipOfficeModel" "someMany" "I") (by decide +kernel)) (fun _ h9 => h9) rfl (by decide +kernel) rfl rfl (Nat.le_of_ble_eq_true rfl) dX11_crew_100 (fun H locs hP hD hS => ?_)
                    have hP : va_P (dC, dI) vwCl (mW g0 pq cp (upd z_68 58 x_87) fz_85) H := hP
                    have hD : va_D A (mW g0 pq cp (upd z_68 58 x_87) fz_85) := hD
                    obtain ⟨z_88, ez_88⟩ : ∃ zq, zq = (upd z_68 58 x_87) := ⟨_, rfl⟩
                    rw [← ez_88] at hP hD
                    have hVz_88 : mV z_88 := by rw [ez_88]; exact mV_upd (lo := 0) (hi := 12) hVz_68 rfl rfl (by omega)
                    have hRz_88 : z_88 38 = v 38 := by rw [ez_88]; exact (if_neg (by decide)).trans hRz_68
                    have g_89 : (z_88 58).toInt = x_87.toInt := by rw [ez_88, show upd z_68 58 x_87 58 = x_87 from if_pos rfl]
                    have g_90 : (z_88 59).toInt = (z_68 59).toInt := by rw [ez_88]; exact congrArg Int32.toInt (if_neg (by decide))
                    obtain ⟨x_91, ex_91⟩ : ∃ zq : Int32, y_67 + 1 = zq := ⟨_, rfl⟩
                    have hx_91 : x_91.toInt = y_67.toInt + 1 := (iv_to ex_91).symm.trans (ad_i rfl (by decide) (by omega) (by omega))
                    refine lv_iinc (v := x_91) (lv' := [(3, .int x_91), (0, .ref g0), (1, .int x1), (2, .int x2)]) hx hb dX11_crew_103 hl (k := 0) rfl ex_91 (by decide) rfl (fun ls hl => ?_)
                    clear ex_91
                    refine lv_goto (tgt := 47) hx hb dX11_crew_106 (by decide) ?_
                    exact ih (n - 1) (by omega) x_91 z_88 fz_85 _ _ ls (by omega) (by omega) hVz_88 hAfz_85 hRz_88 hP hD hS (by omega) (lv_sub hl [0, 1, 2, 3] rfl)
                  · have dc_83 := c_eq (a := r_81.toInt) (b := 0) rfl (by decide) c_83
                    refine lv_goto (tgt := 103) hx hb dX11_crew_80 (by decide) ?_
                    obtain ⟨x_92, ex_92⟩ : ∃ zq : Int32, y_67 + 1 = zq := ⟨_, rfl⟩
                    have hx_92 : x_92.toInt = y_67.toInt + 1 := (iv_to ex_92).symm.trans (ad_i rfl (by decide) (by omega) (by omega))
                    refine lv_iinc (v := x_92) (lv' := [(3, .int x_92), (0, .ref g0), (1, .int x1), (2, .int x2)]) hx hb dX11_crew_103 hl (k := 0) rfl ex_92 (by decide) rfl (fun ls hl => ?_)
                    clear ex_92
                    refine lv_goto (tgt := 47) hx hb dX11_crew_106 (by decide) ?_
                    exact ih (n - 1) (by omega) x_92 z_68 fz_69 _ _ ls (by omega) (by omega) hVz_68 hAz_68 hRz_68 hP hD hS (by omega) (lv_sub hl [0, 1, 2, 3] rfl)
        have kc_93 : (0 : Int32).toInt = 0 := by decide
        exact cut_66 41 0 z_7 fa _ _ ls (by omega) (by decide) hVz_7 gA hRz_7 hP hD hS (by omega) (lv_sub hl [0, 1, 2, 3] rfl)
      · have dc_5 := c_eq (a := r_4.toInt) (b := 0) rfl (by decide) c_5
        refine lv_aload_n hx hb dX11_crew_33 rfl (lv_at hl 0 rfl) ?_
        refine lv_bipush (v := (-2)) hx hb dX11_crew_34 (by decide) ?_
        have hFc := va_free (wc := (mW g0 pq cp v fa)) hD hS hA (List.range 48) rfl
        refine va_calli (va_runV (As := [.int (-2)]) (rest := []) ⟨hx, hb, hml, hown, hts⟩ (c_X11_refuse l dC dI H.size g0 pq cp v fa (-2) (by unfold vp_in; decide)) (cwV 1 hts gX11_crew_X11_refuse rfl rfl rfl (by decide +kernel) ⟨(Nat.le_of_ble_eq_true rfl), (Nat.le_of_ble_eq_true rfl)⟩) (pr_V (r := (RX11, TX11, 63)) hP hK hD 0 11 rfl rfl) rfl rfl hl.1 rfl (lv_room (Nat.le_of_ble_eq_true rfl)) dX11_crew_36 ⟨(Nat.le_of_ble_eq_true rfl), (Nat.le_of_ble_eq_true rfl)⟩) hS (fun q _ h => hFc q h) hFc (fun r_95 u t H locs ht hvm w_94 hB hz1 hk1 hS => ?_)
        obtain ⟨v_96, fa_97⟩ := u
        obtain ⟨hP1, hK1, hD1⟩ := hB
        rw [ht] at hP1
        have hP : va_P (dC, dI) vwCl (mW g0 pq cp v_96 fa_97) H := hP1
        have hD : va_D A (mW g0 pq cp v_96 fa_97) := hD1.weaken (fun _ _ _ h => hFc _ h)
        clear hP1 hK1 hD1 hk1 hz1 hvm ht hFc
        obtain ⟨rfl, w_94⟩ := w_94
        have hVv_96 : mV v_96 := sm0_V w_94 gV
        have hAv_96 : mA fa_97 := sm0_A w_94 gA
        have g_98 : (v_96 58).toInt = (v 58).toInt := congrArg Int32.toInt (congrFun w_94.1 58)
        have g_99 : (v_96 59).toInt = (v 59).toInt := congrArg Int32.toInt (congrFun w_94.1 59)
        have hRv_96 : v_96 38 = v 38 := (congrFun w_94.1 38).trans rfl
        exact W.iret (v := (-2)) hx hb hr (fun t ht hW => ⟨⟨(-2), (v_96, fa_97), rfl, ⟨hVv_96, hAv_96, hRv_96⟩, ⟨by rw [ht]; exact hP, va_K.moved hW.alike hK, hD⟩⟩, hS.F ht⟩) hS.2.2 dX11_crew_39
    · have dc_2 := c_nle (a := x1.toInt) (b := 80) rfl (by decide) c_2
      refine lv_aload_n hx hb dX11_crew_17 rfl (lv_at hl 0 rfl) ?_
      refine lv_bipush (v := (-6)) hx hb dX11_crew_18 (by decide) ?_
      have hFc := va_free (wc := (mW g0 pq cp v fa)) hD hS hA (List.range 48) rfl
      refine va_calli (va_runV (As := [.int (-6)]) (rest := []) ⟨hx, hb, hml, hown, hts⟩ (c_X11_refuse l dC dI s.heap.size g0 pq cp v fa (-6) (by unfold vp_in; decide)) (cwV 1 hts gX11_crew_X11_refuse rfl rfl rfl (by decide +kernel) ⟨(Nat.le_of_ble_eq_true rfl), (Nat.le_of_ble_eq_true rfl)⟩) (pr_V (r := (RX11, TX11, 63)) hP hK hD 0 11 rfl rfl) rfl rfl hl.1 rfl (lv_room (Nat.le_of_ble_eq_true rfl)) dX11_crew_20 ⟨(Nat.le_of_ble_eq_true rfl), (Nat.le_of_ble_eq_true rfl)⟩) hS (fun q _ h => hFc q h) hFc (fun r_101 u t H locs ht hvm w_100 hB hz1 hk1 hS => ?_)
      obtain ⟨v_102, fa_103⟩ := u
      obtain ⟨hP1, hK1, hD1⟩ := hB
      rw [ht] at hP1
      have hP : va_P (dC, dI) vwCl (mW g0 pq cp v_102 fa_103) H := hP1
      have hD : va_D A (mW g0 pq cp v_102 fa_103) := hD1.weaken (fun _ _ _ h => hFc _ h)
      clear hP1 hK1 hD1 hk1 hz1 hvm ht hFc
      obtain ⟨rfl, w_100⟩ := w_100
      have hVv_102 : mV v_102 := sm0_V w_100 gV
      have hAv_102 : mA fa_103 := sm0_A w_100 gA
      have g_104 : (v_102 58).toInt = (v 58).toInt := congrArg Int32.toInt (congrFun w_100.1 58)
      have g_105 : (v_102 59).toInt = (v 59).toInt := congrArg Int32.toInt (congrFun w_100.1 59)
      have hRv_102 : v_102 38 = v 38 := (congrFun w_100.1 38).trans rfl
      exact W.iret (v := (-6)) hx hb hr (fun t ht hW => ⟨⟨(-6), (v_102, fa_103), rfl, ⟨hVv_102, hAv_102, hRv_102⟩, ⟨by rw [ht]; exact hP, va_K.moved hW.alike hK, hD⟩⟩, hS.F ht⟩) hS.2.2 dX11_crew_23
  · have dc_1 := c_nle (a := 0) (b := x1.toInt) (by decide) rfl c_1
    refine lv_aload_n hx hb dX11_crew_4 rfl (lv_at hl 0 rfl) ?_
    refine lv_bipush (v := (-4)) hx hb dX11_crew_5 (by decide) ?_
    have hFc := va_free (wc := (mW g0 pq cp v fa)) hD hS hA (List.range 48) rfl
    refine va_calli (va_runV (As := [.int (-4)]) (rest := []) ⟨hx, hb, hml, hown, hts⟩ (c_X11_refuse l dC dI s.heap.size g0 pq cp v fa (-4) (by unfold vp_in; decide)) (cwV 1 hts gX11_crew_X11_refuse rfl rfl rfl (by decide +kernel) ⟨(Nat.le_of_ble_eq_true rfl), (Nat.le_of_ble_eq_true rfl)⟩) (pr_V (r := (RX11, TX11, 63)) hP hK hD 0 11 rfl rfl) rfl rfl hl.1 rfl (lv_room (Nat.le_of_ble_eq_true rfl)) dX11_crew_7 ⟨(Nat.le_of_ble_eq_true rfl), (Nat.le_of_ble_eq_true rfl)⟩) hS (fun q _ h => hFc q h) hFc (fun r_107 u t H locs ht hvm w_106 hB hz1 hk1 hS => ?_)
    obtain ⟨v_108, fa_109⟩ := u
    obtain ⟨hP1, hK1, hD1⟩ := hB
    rw [ht] at hP1
    have hP : va_P (dC, dI) vwCl (mW g0 pq cp v_108 fa_109) H := hP1
    have hD : va_D A (mW g0 pq cp v_108 fa_109) := hD1.weaken (fun _ _ _ h => hFc _ h)
    clear hP1 hK1 hD1 hk1 hz1 hvm ht hFc
    obtain ⟨rfl, w_106⟩ := w_106
    have hVv_108 : mV v_108 := sm0_V w_106 gV
    have hAv_108 : mA fa_109 := sm0_A w_106 gA
    have g_110 : (v_108 58).toInt = (v 58).toInt := congrArg Int32.toInt (congrFun w_106.1 58)
    have g_111 : (v_108 59).toInt = (v 59).toInt := congrArg Int32.toInt (congrFun w_106.1 59)
    have hRv_108 : v_108 38 = v 38 := (congrFun w_106.1 38).trans rfl
    exact W.iret (v := (-4)) hx hb hr (fun t ht hW => ⟨⟨(-4), (v_108, fa_109), rfl, ⟨hVv_108, hAv_108, hRv_108⟩, ⟨by rw [ht]; exact hP, va_K.moved hW.alike hK, hD⟩⟩, hS.F ht⟩) hS.2.2 dX11_crew_10
