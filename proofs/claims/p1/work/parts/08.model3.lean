abbrev cX11_isFree : ByteArray := prog_13_method_76_code
def yX11_isFree : MethodName := ⟨RX11, "isFree", "(I)Z"⟩
abbrev cX11_chooses : ByteArray := prog_13_method_77_code
def yX11_chooses : MethodName := ⟨RX11, "chooses", "(III)V"⟩
abbrev cX11_crew : ByteArray := prog_13_method_78_code
def yX11_crew : MethodName := ⟨RX11, "crew", "(II)I"⟩
def wsX11_chooses : List Cond := .code yX11_chooses cX11_chooses 7 none :: ([.fieldLink RX11 338 "ShipOfficeModel" "least" "I", .fieldLink RX11 341 "ShipOfficeModel" "hands" "I", .fieldLink RX11 146 "ShipOfficeModel" "best" "[I", .fieldLink RX11 143 "ShipOfficeModel" "hand" "[I", .fieldLink RX11 140 "ShipOfficeModel" "handRank" "[I", .fieldLink RX11 344 "ShipOfficeModel" "someMany" "I", .fieldLink RX11 25 "ShipOfficeModel" "asks" "[I", .fieldLink RX11 137 "ShipOfficeModel" "some" "[I", .methodLink RX11 347 yX11_chooses, .instanceMethod yX11_chooses, .selects RX11 yX11_chooses yX11_chooses, .initialized RX11] ++ wsX110)
def wsX11_crew_r1 : List Cond := [Cond.fieldLink RX11 344 "ShipOfficeModel" "someMany" "I", Cond.fieldLink RX11 157 "ShipOfficeModel" "men" "I", Cond.fieldLink RX11 137 "ShipOfficeModel" "some" "[I", Cond.fieldLink RX11 341 "ShipOfficeModel" "hands" "I", Cond.fieldLink RX11 140 "ShipOfficeModel" "handRank" "[I", Cond.fieldLink RX11 338 "ShipOfficeModel" "least" "I", Cond.fieldLink RX11 146 "ShipOfficeModel" "best" "[I", Cond.methodLink RX11 153 yX11_refuse, Cond.instanceMethod yX11_refuse, Cond.selects RX11 yX11_refuse yX11_refuse, Cond.initialized RX11, Cond.code yX11_refuse cX11_refuse 2 (some .int), Cond.fieldLink RX11 7 "ShipOfficeModel" "refusals" "[I", Cond.methodLink RX11 161 yX11_isIn, Cond.static yX11_isIn, Cond.code yX11_isIn cX11_isIn 2 (some .boolean), Cond.methodLink RX11 351 yX11_asksAny, Cond.instanceMethod yX11_asksAny, Cond.selects RX11 yX11_asksAny yX11_asksAny, Cond.code yX11_asksAny cX11_asksAny 2 (some .boolean), Cond.fieldLink RX11 25 "ShipOfficeModel" "asks" "[I", Cond.methodLink RX11 354 yX11_isFree, Cond.instanceMethod yX11_isFree, Cond.selects RX11 yX11_isFree yX11_isFree]
def wsX11_crew_r2 : List Cond := [Cond.code yX11_isFree cX11_isFree 3 (some .boolean), Cond.fieldLink RX11 168 "ShipOfficeModel" "agreements" "I", Cond.fieldLink RX11 70 "ShipOfficeModel" "man" "[I", Cond.methodLink RX11 188 yX11_goesOn, Cond.instanceMethod yX11_goesOn, Cond.selects RX11 yX11_goesOn yX11_goesOn, Cond.code yX11_goesOn cX11_goesOn 2 (some .boolean), Cond.fieldLink RX11 88 "ShipOfficeModel" "offOn" "[I", Cond.fieldLink RX11 73 "ShipOfficeModel" "voyage" "[I", Cond.methodLink RX11 182 yX11_wasTold, Cond.instanceMethod yX11_wasTold, Cond.selects RX11 yX11_wasTold yX11_wasTold, Cond.code yX11_wasTold cX11_wasTold 4 (some .boolean), Cond.fieldLink RX11 179 "ShipOfficeModel" "happened" "I", Cond.fieldLink RX11 40 "ShipOfficeModel" "what" "[I", Cond.fieldLink RX11 43 "ShipOfficeModel" "whose" "[I", Cond.methodLink RX11 347 yX11_chooses, Cond.instanceMethod yX11_chooses, Cond.selects RX11 yX11_chooses yX11_chooses, Cond.code yX11_chooses cX11_chooses 7 none, Cond.fieldLink RX11 143 "ShipOfficeModel" "hand" "[I"]
def wsX11_crew : List Cond := .code yX11_crew cX11_crew 6 (some .int) :: ((wsX11_crew_r1 ++ wsX11_crew_r2) ++ wsX110)
theorem dX11_chooses_0 : decode cX11_chooses 0 = .ok (.aload_n 0, 1) := by decide +kernel
theorem dX11_chooses_1 : decode cX11_chooses 1 = .ok (.getfield 338, 3) := by decide +kernel
theorem dX11_chooses_4 : decode cX11_chooses 4 = .ok (.ifCond .lt 12, 3) := by decide +kernel
theorem dX11_chooses_16 : decode cX11_chooses 16 = .ok (.iload_n 1, 1) := by decide +kernel
theorem dX11_chooses_17 : decode cX11_chooses 17 = .ok (.aload_n 0, 1) := by decide +kernel
theorem dX11_chooses_18 : decode cX11_chooses 18 = .ok (.getfield 341, 3) := by decide +kernel
theorem dX11_chooses_21 : decode cX11_chooses 21 = .ok (.if_icmp .ne 38, 3) := by decide +kernel
theorem dX11_chooses_24 : decode cX11_chooses 24 = .ok (.aload_n 0, 1) := by decide +kernel
theorem dX11_chooses_25 : decode cX11_chooses 25 = .ok (.iload_n 3, 1) := by decide +kernel
theorem dX11_chooses_26 : decode cX11_chooses 26 = .ok (.putfield 338, 3) := by decide +kernel
theorem dX11_chooses_29 : decode cX11_chooses 29 = .ok (.iconst 0, 1) := by decide +kernel
theorem dX11_chooses_30 : decode cX11_chooses 30 = .ok (.istore 4, 2) := by decide +kernel
theorem dX11_chooses_32 : decode cX11_chooses 32 = .ok (.iload 4, 2) := by decide +kernel
theorem dX11_chooses_34 : decode cX11_chooses 34 = .ok (.iload_n 1, 1) := by decide +kernel
theorem dX11_chooses_35 : decode cX11_chooses 35 = .ok (.if_icmp .ge 23, 3) := by decide +kernel
theorem dX11_chooses_58 : decode cX11_chooses 58 = .ok (.return_, 1) := by decide +kernel
theorem dX11_chooses_59 : decode cX11_chooses 59 = .ok (.iload_n 1, 1) := by decide +kernel
theorem dX11_chooses_60 : decode cX11_chooses 60 = .ok (.ifCond .le 33, 3) := by decide +kernel
theorem dX11_chooses_93 : decode cX11_chooses 93 = .ok (.iconst 0, 1) := by decide +kernel
theorem dX11_chooses_94 : decode cX11_chooses 94 = .ok (.istore 4, 2) := by decide +kernel
theorem dX11_chooses_96 : decode cX11_chooses 96 = .ok (.iload 4, 2) := by decide +kernel
theorem dX11_chooses_98 : decode cX11_chooses 98 = .ok (.istore 5, 2) := by decide +kernel
theorem dX11_chooses_100 : decode cX11_chooses 100 = .ok (.iload 5, 2) := by decide +kernel
theorem dX11_chooses_102 : decode cX11_chooses 102 = .ok (.aload_n 0, 1) := by decide +kernel
theorem dX11_chooses_103 : decode cX11_chooses 103 = .ok (.getfield 344, 3) := by decide +kernel
theorem dX11_chooses_106 : decode cX11_chooses 106 = .ok (.if_icmp .ge 75, 3) := by decide +kernel
theorem dX11_chooses_181 : decode cX11_chooses 181 = .ok (.return_, 1) := by decide +kernel
set_option maxRecDepth 20000 in
theorem ggX11_crew_X11_refuse : GoodIn wsX11_crew wsX11_refuse := goodIn_r _ [12, 13, 46, 47, 48, 49, 50, 51, 52, 53, 54, 55, 56, 57, 58, 59, 60, 61, 62, 63, 64, 65, 66, 67, 68, 69, 70, 71, 72, 73, 74, 75, 76, 77, 78, 79, 80, 81, 82, 83, 84, 85, 86, 87, 88, 89, 90, 91, 92, 93, 94, 95, 96, 97, 98, 99, 100, 101, 102, 103, 104, 105, 106, 107, 108] (by decide +kernel) (by decide +kernel)
set_option maxRecDepth 20000 in
theorem gX11_crew_X11_refuse : GoodIn wsX11_crew (wsV RX11 153 RX11 yX11_refuse wsX11_refuse) := goodIn_app (goodIn_of _ (by decide +kernel)) ggX11_crew_X11_refuse
set_option maxRecDepth 20000 in
theorem ggX11_crew_X11_isIn : GoodIn wsX11_crew wsX11_isIn := goodIn_r _ [16] (by decide +kernel) (by decide +kernel)
set_option maxRecDepth 20000 in
theorem gX11_crew_X11_isIn : GoodIn wsX11_crew (va_wsS RX11 161 yX11_isIn wsX11_isIn) := goodIn_app (goodIn_of _ (by decide +kernel)) ggX11_crew_X11_isIn
set_option maxRecDepth 20000 in
theorem ggX11_crew_X11_chooses : GoodIn wsX11_crew wsX11_chooses := goodIn_r _ [44, 6, 4, 7, 45, 5, 1, 21, 3, 41, 42, 43, 11, 46, 47, 48, 49, 50, 51, 52, 53, 54, 55, 56, 57, 58, 59, 60, 61, 62, 63, 64, 65, 66, 67, 68, 69, 70, 71, 72, 73, 74, 75, 76, 77, 78, 79, 80, 81, 82, 83, 84, 85, 86, 87, 88, 89, 90, 91, 92, 93, 94, 95, 96, 97, 98, 99, 100, 101, 102, 103, 104, 105, 106, 107, 108] (by decide +kernel) (by decide +kernel)
set_option maxRecDepth 20000 in
theorem gX11_crew_X11_chooses : GoodIn wsX11_crew (wsV RX11 347 RX11 yX11_chooses wsX11_chooses) := goodIn_app (goodIn_of _ (by decide +kernel)) ggX11_crew_X11_chooses
theorem dX11_crew_0 : decode cX11_crew 0 = .ok (.iload_n 1, 1) := by decide +kernel
theorem dX11_crew_1 : decode cX11_crew 1 = .ok (.ifCond .ge 10, 3) := by decide +kernel
theorem dX11_crew_4 : decode cX11_crew 4 = .ok (.aload_n 0, 1) := by decide +kernel
theorem dX11_crew_5 : decode cX11_crew 5 = .ok (.bipush (-4), 2) := by decide +kernel
theorem dX11_crew_7 : decode cX11_crew 7 = .ok (.invokevirtual 153, 3) := by decide +kernel
theorem dX11_crew_10 : decode cX11_crew 10 = .ok (.ireturn, 1) := by decide +kernel
theorem dX11_crew_11 : decode cX11_crew 11 = .ok (.iload_n 1, 1) := by decide +kernel
theorem dX11_crew_12 : decode cX11_crew 12 = .ok (.bipush 80, 2) := by decide +kernel
theorem dX11_crew_14 : decode cX11_crew 14 = .ok (.if_icmp .le 10, 3) := by decide +kernel
theorem dX11_crew_17 : decode cX11_crew 17 = .ok (.aload_n 0, 1) := by decide +kernel
theorem dX11_crew_18 : decode cX11_crew 18 = .ok (.bipush (-6), 2) := by decide +kernel
theorem dX11_crew_20 : decode cX11_crew 20 = .ok (.invokevirtual 153, 3) := by decide +kernel
theorem dX11_crew_23 : decode cX11_crew 23 = .ok (.ireturn, 1) := by decide +kernel
theorem dX11_crew_24 : decode cX11_crew 24 = .ok (.iload_n 2, 1) := by decide +kernel
theorem dX11_crew_25 : decode cX11_crew 25 = .ok (.bipush 9, 2) := by decide +kernel
theorem dX11_crew_27 : decode cX11_crew 27 = .ok (.invokestatic 161, 3) := by decide +kernel
theorem dX11_crew_30 : decode cX11_crew 30 = .ok (.ifCond .ne 10, 3) := by decide +kernel
theorem dX11_crew_33 : decode cX11_crew 33 = .ok (.aload_n 0, 1) := by decide +kernel
theorem dX11_crew_34 : decode cX11_crew 34 = .ok (.bipush (-2), 2) := by decide +kernel
theorem dX11_crew_36 : decode cX11_crew 36 = .ok (.invokevirtual 153, 3) := by decide +kernel
theorem dX11_crew_39 : decode cX11_crew 39 = .ok (.ireturn, 1) := by decide +kernel
theorem dX11_crew_40 : decode cX11_crew 40 = .ok (.aload_n 0, 1) := by decide +kernel
theorem dX11_crew_41 : decode cX11_crew 41 = .ok (.iconst 0, 1) := by decide +kernel
theorem dX11_crew_42 : decode cX11_crew 42 = .ok (.putfield 344, 3) := by decide +kernel
theorem dX11_crew_45 : decode cX11_crew 45 = .ok (.iconst 0, 1) := by decide +kernel
theorem dX11_crew_46 : decode cX11_crew 46 = .ok (.istore_n 3, 1) := by decide +kernel
theorem dX11_crew_47 : decode cX11_crew 47 = .ok (.iload_n 3, 1) := by decide +kernel
theorem dX11_crew_48 : decode cX11_crew 48 = .ok (.aload_n 0, 1) := by decide +kernel
theorem dX11_crew_49 : decode cX11_crew 49 = .ok (.getfield 157, 3) := by decide +kernel
theorem dX11_crew_52 : decode cX11_crew 52 = .ok (.if_icmp .ge 57, 3) := by decide +kernel
theorem dX11_crew_109 : decode cX11_crew 109 = .ok (.aload_n 0, 1) := by decide +kernel
theorem dX11_crew_110 : decode cX11_crew 110 = .ok (.iconst 0, 1) := by decide +kernel
theorem dX11_crew_111 : decode cX11_crew 111 = .ok (.putfield 341, 3) := by decide +kernel
theorem dX11_crew_114 : decode cX11_crew 114 = .ok (.iload_n 1, 1) := by decide +kernel
theorem dX11_crew_115 : decode cX11_crew 115 = .ok (.istore_n 3, 1) := by decide +kernel
theorem dX11_crew_116 : decode cX11_crew 116 = .ok (.iconst 0, 1) := by decide +kernel
theorem dX11_crew_117 : decode cX11_crew 117 = .ok (.istore 4, 2) := by decide +kernel
theorem dX11_crew_119 : decode cX11_crew 119 = .ok (.iload 4, 2) := by decide +kernel
theorem dX11_crew_121 : decode cX11_crew 121 = .ok (.iconst 4, 1) := by decide +kernel
theorem dX11_crew_122 : decode cX11_crew 122 = .ok (.if_icmp .ge 51, 3) := by decide +kernel
theorem dX11_crew_125 : decode cX11_crew 125 = .ok (.iconst 0, 1) := by decide +kernel
theorem dX11_crew_126 : decode cX11_crew 126 = .ok (.istore 5, 2) := by decide +kernel
theorem dX11_crew_128 : decode cX11_crew 128 = .ok (.iload 5, 2) := by decide +kernel
theorem dX11_crew_130 : decode cX11_crew 130 = .ok (.iload_n 3, 1) := by decide +kernel
theorem dX11_crew_131 : decode cX11_crew 131 = .ok (.iconst 3, 1) := by decide +kernel
theorem dX11_crew_132 : decode cX11_crew 132 = .ok (.irem, 1) := by decide +kernel
theorem dX11_crew_133 : decode cX11_crew 133 = .ok (.if_icmp .ge 30, 3) := by decide +kernel
theorem dX11_crew_136 : decode cX11_crew 136 = .ok (.aload_n 0, 1) := by decide +kernel
theorem dX11_crew_137 : decode cX11_crew 137 = .ok (.getfield 140, 3) := by decide +kernel
theorem dX11_crew_140 : decode cX11_crew 140 = .ok (.aload_n 0, 1) := by decide +kernel
theorem dX11_crew_141 : decode cX11_crew 141 = .ok (.getfield 341, 3) := by decide +kernel
theorem dX11_crew_144 : decode cX11_crew 144 = .ok (.iload 4, 2) := by decide +kernel
theorem dX11_crew_146 : decode cX11_crew 146 = .ok (.iastore, 1) := by decide +kernel
theorem dX11_crew_147 : decode cX11_crew 147 = .ok (.aload_n 0, 1) := by decide +kernel
theorem dX11_crew_148 : decode cX11_crew 148 = .ok (.dup, 1) := by decide +kernel
theorem dX11_crew_149 : decode cX11_crew 149 = .ok (.getfield 341, 3) := by decide +kernel
theorem dX11_crew_152 : decode cX11_crew 152 = .ok (.iconst 1, 1) := by decide +kernel
theorem dX11_crew_153 : decode cX11_crew 153 = .ok (.iadd, 1) := by decide +kernel
theorem dX11_crew_154 : decode cX11_crew 154 = .ok (.putfield 341, 3) := by decide +kernel
theorem dX11_crew_157 : decode cX11_crew 157 = .ok (.iinc 5 1, 3) := by decide +kernel
theorem dX11_crew_160 : decode cX11_crew 160 = .ok (.goto (-32), 3) := by decide +kernel
theorem dX11_crew_163 : decode cX11_crew 163 = .ok (.iload_n 3, 1) := by decide +kernel
theorem dX11_crew_164 : decode cX11_crew 164 = .ok (.iconst 3, 1) := by decide +kernel
theorem dX11_crew_165 : decode cX11_crew 165 = .ok (.idiv, 1) := by decide +kernel
theorem dX11_crew_166 : decode cX11_crew 166 = .ok (.istore_n 3, 1) := by decide +kernel
theorem dX11_crew_167 : decode cX11_crew 167 = .ok (.iinc 4 1, 3) := by decide +kernel
theorem dX11_crew_170 : decode cX11_crew 170 = .ok (.goto (-51), 3) := by decide +kernel
theorem dX11_crew_173 : decode cX11_crew 173 = .ok (.aload_n 0, 1) := by decide +kernel
theorem dX11_crew_174 : decode cX11_crew 174 = .ok (.bipush (-9), 2) := by decide +kernel
theorem dX11_crew_176 : decode cX11_crew 176 = .ok (.putfield 338, 3) := by decide +kernel
theorem dX11_crew_179 : decode cX11_crew 179 = .ok (.aload_n 0, 1) := by decide +kernel
theorem dX11_crew_180 : decode cX11_crew 180 = .ok (.iconst 0, 1) := by decide +kernel
theorem dX11_crew_181 : decode cX11_crew 181 = .ok (.iconst 0, 1) := by decide +kernel
theorem dX11_crew_182 : decode cX11_crew 182 = .ok (.iconst 0, 1) := by decide +kernel
theorem dX11_crew_183 : decode cX11_crew 183 = .ok (.invokevirtual 347, 3) := by decide +kernel
theorem dX11_crew_186 : decode cX11_crew 186 = .ok (.iload_n 2, 1) := by decide +kernel
theorem dX11_crew_187 : decode cX11_crew 187 = .ok (.ifCond .ne 8, 3) := by decide +kernel
theorem dX11_crew_190 : decode cX11_crew 190 = .ok (.aload_n 0, 1) := by decide +kernel
theorem dX11_crew_191 : decode cX11_crew 191 = .ok (.getfield 338, 3) := by decide +kernel
theorem dX11_crew_194 : decode cX11_crew 194 = .ok (.ireturn, 1) := by decide +kernel
theorem dX11_crew_195 : decode cX11_crew 195 = .ok (.aload_n 0, 1) := by decide +kernel
theorem dX11_crew_196 : decode cX11_crew 196 = .ok (.getfield 338, 3) := by decide +kernel
theorem dX11_crew_199 : decode cX11_crew 199 = .ok (.ifCond .lt 11, 3) := by decide +kernel
theorem dX11_crew_202 : decode cX11_crew 202 = .ok (.iload_n 2, 1) := by decide +kernel
theorem dX11_crew_203 : decode cX11_crew 203 = .ok (.aload_n 0, 1) := by decide +kernel
theorem dX11_crew_204 : decode cX11_crew 204 = .ok (.getfield 341, 3) := by decide +kernel
theorem dX11_crew_207 : decode cX11_crew 207 = .ok (.if_icmp .le 8, 3) := by decide +kernel
theorem dX11_crew_210 : decode cX11_crew 210 = .ok (.bipush (-9), 2) := by decide +kernel
theorem dX11_crew_212 : decode cX11_crew 212 = .ok (.goto 16, 3) := by decide +kernel
theorem dX11_crew_228 : decode cX11_crew 228 = .ok (.ireturn, 1) := by decide +kernel
theorem in_wsX11_chooses_X11 : ∀ w ∈ wsX110, w ∈ wsX11_chooses := fun w h => List.mem_cons_of_mem _ (List.mem_append_right _ h)
theorem in_wsX11_crew_X11 : ∀ w ∈ wsX110, w ∈ wsX11_crew := fun w h => List.mem_cons_of_mem _ (List.mem_append_right _ h)
def mC (pq : Nat → Nat) (hd : Int32) : List Value := [.ref (pq 0), .ref (pq 1), .ref (pq 2), .ref (pq 3), .ref (pq 4), .ref (pq 5), .ref (pq 6), .ref (pq 7), .ref (pq 8), .ref (pq 9), .ref (pq 10), .ref (pq 11), .ref (pq 12), .ref (pq 13), .ref (pq 14), .ref (pq 15), .ref (pq 16), .ref (pq 17), .ref (pq 18), .ref (pq 19), .ref (pq 20), .ref (pq 21), .ref (pq 22), .ref (pq 23), .ref (pq 24), .ref (pq 25), .ref (pq 26), .ref (pq 27), .ref (pq 28), .ref (pq 29), .ref (pq 30), .ref (pq 31), .ref (pq 32), .ref (pq 33), .ref (pq 34), .ref (pq 35), .ref (pq 36), .ref (pq 37), .int 0, .int 0, .int 0, .int 0, .int 0, .int 0, .ref (pq 44), .ref (pq 45), .int 0, .int 0, .int 0, .int 0, .int 0, .int 0, .ref (pq 52), .ref (pq 53), .ref (pq 54), .ref (pq 55), .ref (pq 56), .ref (pq 57), .int 0, .int hd, .int 0, .ref (pq 61), .int 0]
set_option maxHeartbeats 4000000 in
set_option maxRecDepth 100000 in
theorem c_X11_chooses (l : Launch) (dC : Nat → ClassId) (dI : Nat → Nat → Nat) (sz : Nat) (g0 : Nat) (pq : Nat → Nat) (cp : Nat → ClassId) (hd : Int32) : Met l yX11_chooses wsX11_chooses ({ frames := 0, cells := 0, slots := 0, locals := 0 }) (va_Pc [.ref g0, .int 0, .int 0, .int 0] (pcW (dC, dI) [] [(g0, .inr (11, (((mC pq hd)).set 60 (.int (-9)))))] sz)) (va_Qv (fun (u : Int32) => u = if hd = 0 then 0 else -9) (fun u t => va_P (dC, dI) vwCl [(g0, .inr (11, (((mC pq hd)).set 60 (.int u))))] t.heap ∧ va_K (dC, dI) vwCl [] t ∧ va_D (va_A [(g0, .inr (11, (((mC pq hd)).set 60 (.int (-9)))))] sz) [(g0, .inr (11, (((mC pq hd)).set 60 (.int u))))]) (va_A [(g0, .inr (11, (((mC pq hd)).set 60 (.int (-9)))))] sz)) 0 0 (va_A [(g0, .inr (11, (((mC pq hd)).set 60 (.int (-9)))))] sz) := by
  refine Met.ofW (cc := cX11_chooses) (maxL := 7) (ret := none) (by decide) rfl ?_
  intro p e s m args below meth c s₁ B hml hv
  obtain ⟨rfl, hsz, hP, hK, hD0⟩ := hv
  have hx := B.exec
  have hb := B.bytes
  have hr := B.returns
  have hts := atoms_spec (ws := wsX11_chooses) B.pre
  have hown : s.vm.findClass RX11 = some m.cls := findClass_of_methodNamed B.named
  have hlocks := B.notSynchronized
  subst hsz
  have hD := hD0.self (sz := s.heap.size)
  generalize hAe : va_A [(g0, .inr (11, (((mC pq hd)).set 60 (.int (-9)))))] s.heap.size = A at hD ⊢
  have hA : ∀ q : Nat, s.heap.size ≤ q → A q := fun q h => by rw [← hAe]; exact Or.inr h
  have hS : va_S A s.heap s.heap [] := va_S.rf
  have hP : va_P (dC, dI) vwCl [(g0, .inr (11, (((mC pq hd)).set 60 (.int (-9)))))] s.heap := hP
  have hl := lv_entry ([.ref g0, .int 0, .int 0, .int 0]) (n := 7) (Nat.le_of_ble_eq_true rfl)
  rw [lg_entry_eq]
  generalize (lg_sl ([.ref g0, .int 0, .int 0, .int 0]) ++ List.replicate (7 - (lg_sl ([.ref g0, .int 0, .int 0, .int 0])).length) Slot.unset).toArray = ls at hl ⊢
  have hl : lv_has ls 7 [(0, .ref g0), (1, .int 0), (2, .int 0), (3, .int 0)] := hl
  refine lv_aload_n hx hb dX11_chooses_0 rfl (lv_at hl 0 rfl) ?_
  refine va_get (D := (dC, dI)) (ci := 11) (v := .int (-9)) (C := RX11) (T := TX11) (N := 63) hx hb hts in_wsX11_chooses_X11 hown hK hP 0 rfl rfl 60 (by decide) (hts (.fieldLink RX11 338 "ShipOfficeModel" "least" "I") (by decide +kernel)) (fun _ h9 => h9) rfl dX11_chooses_1 ?_
  refine lv_if_lt (tgt := 16) hx hb dX11_chooses_4 (by decide) (fun _ => ?_) (fun c_1 => absurd c_1 (by decide))
  refine lv_iload_n hx hb dX11_chooses_16 rfl (lv_at hl 1 rfl) ?_
  refine lv_aload_n hx hb dX11_chooses_17 rfl (lv_at hl 0 rfl) ?_
  refine va_get (D := (dC, dI)) (ci := 11) (v := .int hd) (C := RX11) (T := TX11) (N := 63) hx hb hts in_wsX11_chooses_X11 hown hK hP 0 rfl rfl 59 (by decide) (hts (.fieldLink RX11 341 "ShipOfficeModel" "hands" "I") (by decide +kernel)) (fun _ h9 => h9) rfl dX11_chooses_18 ?_
  refine lv_icmp_ne (tgt := 59) hx hb dX11_chooses_21 (by decide) (fun c_2 => ?_) (fun c_2 => ?_)
  · refine lv_iload_n hx hb dX11_chooses_59 rfl (lv_at hl 1 rfl) ?_
    refine lv_if_le (tgt := 93) hx hb dX11_chooses_60 (by decide) (fun _ => ?_) (fun c_3 => absurd c_3 (by decide))
    refine lv_iconst (v := 0) hx hb dX11_chooses_93 (by decide) ?_
    refine lv_istore (lv' := [(4, .int 0), (0, .ref g0), (1, .int 0), (2, .int 0), (3, .int 0)]) hx hb dX11_chooses_94 hl (by decide) rfl (fun ls hl => ?_)
    refine lv_iload hx hb dX11_chooses_96 (lv_at hl 0 rfl) ?_
    refine lv_istore (lv' := [(5, .int 0), (4, .int 0), (0, .ref g0), (1, .int 0), (2, .int 0), (3, .int 0)]) hx hb dX11_chooses_98 hl (by decide) rfl (fun ls hl => ?_)
    refine lv_iload hx hb dX11_chooses_100 (lv_at hl 0 rfl) ?_
    refine lv_aload_n hx hb dX11_chooses_102 rfl (lv_at hl 2 rfl) ?_
    refine va_get (D := (dC, dI)) (ci := 11) (v := .int 0) (C := RX11) (T := TX11) (N := 63) hx hb hts in_wsX11_chooses_X11 hown hK hP 0 rfl rfl 58 (by decide) (hts (.fieldLink RX11 344 "ShipOfficeModel" "someMany" "I") (by decide +kernel)) (fun _ h9 => h9) rfl dX11_chooses_103 ?_
    refine lv_icmp_ge (tgt := 181) hx hb dX11_chooses_106 (by decide) (fun _ => ?_) (fun c_4 => absurd c_4 (by decide))
    have hP9 : va_P (dC, dI) vwCl [(g0, .inr (11, (((mC pq hd)).set 60 (.int (-9)))))] s.heap := hP
    have hD9 : va_D A [(g0, .inr (11, (((mC pq hd)).set 60 (.int (-9)))))] := hD
    have hK9 := hK.sub (tys' := []) [] rfl
    subst hAe
    exact W.vret hx hb hr (fun t ht hW => ⟨⟨(-9), rfl, (if_neg (fun h => c_2 h.symm)).symm, ⟨by rw [ht]; exact hP9, va_K.moved hW.alike hK9, hD9⟩⟩, hS.F ht⟩) hS.2.2 dX11_chooses_181
  · refine lv_aload_n hx hb dX11_chooses_24 rfl (lv_at hl 0 rfl) ?_
    refine lv_iload_n hx hb dX11_chooses_25 rfl (lv_at hl 3 rfl) ?_
    refine va_put (D := (dC, dI)) (ci := 11) (v := .int 0) (ty := .int) (C := RX11) (T := TX11) (N := 63) hx hb hts in_wsX11_chooses_X11 tyX11 tyX11_ok nmX11 hown hK hP hD hS 0 rfl rfl 60 (by decide) (hts (.fieldLink RX11 338 "ShipOfficeModel" "least" "I") (by decide +kernel)) (fun _ h9 => h9) rfl (by decide +kernel) rfl rfl (Nat.le_of_ble_eq_true rfl) dX11_chooses_26 (fun H locs hP hD hS => ?_)
    have hP : va_P (dC, dI) vwCl [(g0, .inr (11, (((((mC pq hd)).set 60 (.int (-9)))).set 60 (.int 0))))] H := hP
    have hD : va_D A [(g0, .inr (11, (((((mC pq hd)).set 60 (.int (-9)))).set 60 (.int 0))))] := hD
    refine lv_iconst (v := 0) hx hb dX11_chooses_29 (by decide) ?_
    refine lv_istore (lv' := [(4, .int 0), (0, .ref g0), (1, .int 0), (2, .int 0), (3, .int 0)]) hx hb dX11_chooses_30 hl (by decide) rfl (fun ls hl => ?_)
    refine lv_iload hx hb dX11_chooses_32 (lv_at hl 0 rfl) ?_
    refine lv_iload_n hx hb dX11_chooses_34 rfl (lv_at hl 2 rfl) ?_
    refine lv_icmp_ge (tgt := 58) hx hb dX11_chooses_35 (by decide) (fun _ => ?_) (fun c_5 => absurd c_5 (by decide))
    have hP9 : va_P (dC, dI) vwCl [(g0, .inr (11, (((mC pq hd)).set 60 (.int 0))))] H := hP
    have hD9 : va_D A [(g0, .inr (11, (((mC pq hd)).set 60 (.int 0))))] := hD
    have hK9 := hK.sub (tys' := []) [] rfl
    subst hAe
    exact W.vret hx hb hr (fun t ht hW => ⟨⟨0, rfl, (if_pos c_2.symm).symm, ⟨by rw [ht]; exact hP9, va_K.moved hW.alike hK9, hD9⟩⟩, hS.F ht⟩) hS.2.2 dX11_chooses_58
set_option maxHeartbeats 4000000 in
set_option maxRecDepth 100000 in
theorem crew_in {p : Program} {l : Launch} {e : Env} {R : Room} {s : State} {m : MethodId} {args : Array Value} {below : List Frame} {meth : Method} {c : Code} {cells slots : Nat} {Q : State → Prop} {dC : Nat → ClassId} {dI : Nat → Nat → Nat} {A : Nat → Prop} {g0 : Nat} {pq : Nat → Nat} {cp : Nat → ClassId} (hx : p.tables.exec = Jvm.exec) (hb : c.code = cX11_crew) (hts : ∀ w ∈ wsX11_crew, w.before args s = true) (hown : s.vm.findClass RX11 = some m.cls) (hK : va_K (dC, dI) vwCl [((cp 0), .int), ((cp 55), .int)] s) {x1 x2 rk : Int32} {M : Nat} (hM : M < 2 ^ 31) (h1 : Nat) (hh : h1 + M % 3 ≤ 8)
    (kk : ∀ (f : Nat → Int32) (H : Heap) (locs : List Loc) (ls : Array Slot), va_P (dC, dI) vwCl [(g0, .inr (11, (mC pq (nI (h1 + M % 3))))), ((pq 0), .inl ((cp 0), 7, .inl (fun _ => 0))), ((pq 55), .inl ((cp 55), 8, .inl f))] H → va_D A [(g0, .inr (11, (mC pq (nI (h1 + M % 3))))), ((pq 0), .inl ((cp 0), 7, .inl (fun _ => 0))), ((pq 55), .inl ((cp 55), 8, .inl f))] → va_S A s.heap H locs → lv_has ls 6 [(4, .int rk), (3, .int (nI M)), (0, .ref g0), (1, .int x1), (2, .int x2)] → W p l e R s m args below meth c H locs cells slots Q (F0 m 163 ls [])) :
    ∀ (n k : Nat) (f : Nat → Int32) (H : Heap) (locs : List Loc) (ls : Array Slot), M % 3 ≤ k + n → k ≤ M % 3 → va_P (dC, dI) vwCl [(g0, .inr (11, (mC pq (nI (h1 + k))))), ((pq 0), .inl ((cp 0), 7, .inl (fun _ => 0))), ((pq 55), .inl ((cp 55), 8, .inl f))] H → va_D A [(g0, .inr (11, (mC pq (nI (h1 + k))))), ((pq 0), .inl ((cp 0), 7, .inl (fun _ => 0))), ((pq 55), .inl ((cp 55), 8, .inl f))] → va_S A s.heap H locs → lv_has ls 6 [(5, .int (nI k)), (4, .int rk), (3, .int (nI M)), (0, .ref g0), (1, .int x1), (2, .int x2)] → W p l e R s m args below meth c H locs cells slots Q (F0 m 128 ls []) := by
  intro n
  induction n with
  | zero =>
    intro k f H locs ls hk1 hk2 hP hD hS hl
    refine lv_iload hx hb dX11_crew_128 (lv_at hl 0 rfl) ?_
    refine lv_iload_n hx hb dX11_crew_130 rfl (lv_at hl 2 rfl) ?_
    refine lv_iconst (v := 3) hx hb dX11_crew_131 (by decide) ?_
    refine lv_irem hx hb dX11_crew_132 (by decide) ?_
    refine lv_topi (fun y ey => ?_)
    obtain rfl : y = nI (M % 3) := ey.trans (pk_rem hM (by decide) (by decide))
    obtain rfl : k = M % 3 := by omega
    refine lv_icmp_ge (tgt := 163) hx hb dX11_crew_133 (by decide) (fun c_1 => ?_) (fun c_1 => absurd (nI_le (Nat.le_refl _) (by omega)) c_1)
    exact kk f H locs ls hP hD hS (lv_sub hl [1, 2, 3, 4, 5] rfl)
  | succ n ih =>
    intro k f H locs ls hk1 hk2 hP hD hS hl
    refine lv_iload hx hb dX11_crew_128 (lv_at hl 0 rfl) ?_
    refine lv_iload_n hx hb dX11_crew_130 rfl (lv_at hl 2 rfl) ?_
    refine lv_iconst (v := 3) hx hb dX11_crew_131 (by decide) ?_
    refine lv_irem hx hb dX11_crew_132 (by decide) ?_
    refine lv_topi (fun y ey => ?_)
    obtain rfl : y = nI (M % 3) := ey.trans (pk_rem hM (by decide) (by decide))
    refine lv_icmp_ge (tgt := 163) hx hb dX11_crew_133 (by decide) (fun c_1 => ?_) (fun c_1 => ?_)
    · have hk := (nI_leI (by omega) (by omega)).mp c_1
      obtain rfl : k = M % 3 := by omega
      exact kk f H locs ls hP hD hS (lv_sub hl [1, 2, 3, 4, 5] rfl)
    · have hk : k < M % 3 := by
        rcases Nat.lt_or_ge k (M % 3) with h | h
        · exact h
        · exact absurd (nI_le h (by omega)) c_1
      refine lv_aload_n hx hb dX11_crew_136 rfl (lv_at hl 3 rfl) ?_
      refine va_get (D := (dC, dI)) (ci := 11) (v := .ref (pq 55)) (C := RX11) (T := TX11) (N := 63) hx hb hts in_wsX11_crew_X11 hown hK hP 0 rfl rfl 55 (by decide) (hts (.fieldLink RX11 140 "ShipOfficeModel" "handRank" "[I") (by decide +kernel)) (fun _ h9 => h9) rfl dX11_crew_137 ?_
      refine lv_aload_n hx hb dX11_crew_140 rfl (lv_at hl 3 rfl) ?_
      refine va_get (D := (dC, dI)) (ci := 11) (v := .int (nI (h1 + k))) (C := RX11) (T := TX11) (N := 63) hx hb hts in_wsX11_crew_X11 hown hK hP 0 rfl rfl 59 (by decide) (hts (.fieldLink RX11 341 "ShipOfficeModel" "hands" "I") (by decide +kernel)) (fun _ h9 => h9) rfl dX11_crew_141 ?_
      refine lv_iload hx hb dX11_crew_144 (lv_at hl 1 rfl) ?_
      refine va_iast hx hb hK hP hD hS 2 1 rfl rfl (vp_in_nI (by omega) (by decide)) dX11_crew_146 (fun H locs hP hD hS => ?_)
      have hP : va_P (dC, dI) vwCl [(g0, .inr (11, (mC pq (nI (h1 + k))))), ((pq 0), .inl ((cp 0), 7, .inl (fun _ => 0))), ((pq 55), .inl ((cp 55), 8, .inl (upd f (nI (h1 + k) : Int32).toNatClampNeg rk)))] H := hP
      have hD : va_D A [(g0, .inr (11, (mC pq (nI (h1 + k))))), ((pq 0), .inl ((cp 0), 7, .inl (fun _ => 0))), ((pq 55), .inl ((cp 55), 8, .inl (upd f (nI (h1 + k) : Int32).toNatClampNeg rk)))] := hD
      refine lv_aload_n hx hb dX11_crew_147 rfl (lv_at hl 3 rfl) ?_
      refine lv_dup hx hb dX11_crew_148 rfl ?_
      refine va_get (D := (dC, dI)) (ci := 11) (v := .int (nI (h1 + k))) (C := RX11) (T := TX11) (N := 63) hx hb hts in_wsX11_crew_X11 hown hK hP 0 rfl rfl 59 (by decide) (hts (.fieldLink RX11 341 "ShipOfficeModel" "hands" "I") (by decide +kernel)) (fun _ h9 => h9) rfl dX11_crew_149 ?_
      refine lv_iconst (v := 1) hx hb dX11_crew_152 (by decide) ?_
      refine lv_iadd hx hb dX11_crew_153 ?_
      refine lv_topi (fun y ey => ?_)
      obtain rfl : y = nI (h1 + (k + 1)) := ey.trans (nI_1 _)
      refine va_put (D := (dC, dI)) (ci := 11) (v := .int (nI (h1 + (k + 1)))) (ty := .int) (C := RX11) (T := TX11) (N := 63) hx hb hts in_wsX11_crew_X11 tyX11 tyX11_ok nmX11 hown hK hP hD hS 0 rfl rfl 59 (by decide) (hts (.fieldLink RX11 341 "ShipOfficeModel" "hands" "I") (by decide +kernel)) (fun _ h9 => h9) rfl (by decide +kernel) rfl rfl (Nat.le_of_ble_eq_true rfl) dX11_crew_154 (fun H locs hP hD hS => ?_)
      have hP : va_P (dC, dI) vwCl [(g0, .inr (11, (((mC pq (nI (h1 + k)))).set 59 (.int (nI (h1 + (k + 1))))))), ((pq 0), .inl ((cp 0), 7, .inl (fun _ => 0))), ((pq 55), .inl ((cp 55), 8, .inl (upd f (nI (h1 + k) : Int32).toNatClampNeg rk)))] H := hP
      have hD : va_D A [(g0, .inr (11, (((mC pq (nI (h1 + k)))).set 59 (.int (nI (h1 + (k + 1))))))), ((pq 0), .inl ((cp 0), 7, .inl (fun _ => 0))), ((pq 55), .inl ((cp 55), 8, .inl (upd f (nI (h1 + k) : Int32).toNatClampNeg rk)))] := hD
      have hP : va_P (dC, dI) vwCl [(g0, .inr (11, (mC pq (nI (h1 + (k + 1)))))), ((pq 0), .inl ((cp 0), 7, .inl (fun _ => 0))), ((pq 55), .inl ((cp 55), 8, .inl (upd f (nI (h1 + k) : Int32).toNatClampNeg rk)))] H := hP
      have hD : va_D A [(g0, .inr (11, (mC pq (nI (h1 + (k + 1)))))), ((pq 0), .inl ((cp 0), 7, .inl (fun _ => 0))), ((pq 55), .inl ((cp 55), 8, .inl (upd f (nI (h1 + k) : Int32).toNatClampNeg rk)))] := hD
      refine lv_iinc (v := nI (k + 1)) (lv' := [(5, .int (nI (k + 1))), (4, .int rk), (3, .int (nI M)), (0, .ref g0), (1, .int x1), (2, .int x2)]) hx hb dX11_crew_157 hl (k := 0) rfl (nI_1 k) (by decide) rfl (fun ls hl => ?_)
      refine lv_goto (tgt := 128) hx hb dX11_crew_160 (by decide) ?_
      exact ih (k + 1) _ H locs ls (by omega) (by omega) hP hD hS hl
theorem crew_N {n : Int32} (h : 0 ≤ n) (h2 : n ≤ 80) : ∃ N : Nat, N < 81 ∧ n = nI N := vp_in_of (crew_in81 h h2) (by decide)
theorem crew_D {N : Nat} (hN : N < 81) (h0 : 0 < N) : ¬ nI ((((0 + N % 3) + (N / 3) % 3) + (N / 3 / 3) % 3) + (N / 3 / 3 / 3) % 3) = 0 := nI_ne0 (by omega) (by omega)
theorem crew_w0 {w : Int32} (h : ¬ isI w 9 = 0) (h2 : ¬ w = 0) : ¬ w ≤ 0 := by
  have h1 := isI_nz h
  intro h3
  rw [i_le] at h3
  have e : (0 : Int32).toInt = 0 := by decide
  exact h2 (Int32.toInt_inj.mp (by omega))
set_option maxHeartbeats 4000000 in
set_option maxRecDepth 100000 in
theorem c_X11_crew (l : Launch) (dC : Nat → ClassId) (dI : Nat → Nat → Nat) (sz : Nat) (g0 : Nat) (pq : Nat → Nat) (cp : Nat → ClassId) (a1 a2 : Int32) : Met l yX11_crew wsX11_crew ({ frames := 1, cells := 0, slots := 0, locals := 26 }) (va_Pc [.ref g0, .int a1, .int a2] (pcW (dC, dI) [((cp 0), .int), ((cp 55), .int)] [(g0, .inr (11, mF pq)), ((pq 0), .inl ((cp 0), 7, .inl (fun _ => 0))), ((pq 55), .inl ((cp 55), 8, .inl (fun _ => 0)))] sz)) (va_Qi (fun (r : Int32) (u : Unit) => r = sp_crew a1 a2) (fun _ _ => True) (va_A [(g0, .inr (11, mF pq)), ((pq 0), .inl ((cp 0), 7, .inl (fun _ => 0))), ((pq 55), .inl ((cp 55), 8, .inl (fun _ => 0)))] sz)) 0 0 (va_A [(g0, .inr (11, mF pq)), ((pq 0), .inl ((cp 0), 7, .inl (fun _ => 0))), ((pq 55), .inl ((cp 55), 8, .inl (fun _ => 0)))] sz) := by
  refine Met.ofW (cc := cX11_crew) (maxL := 6) (ret := (some .int)) (by decide) rfl ?_
  intro p e s m args below meth c s₁ B hml hv
  obtain ⟨rfl, hsz, hP, hK, hD0⟩ := hv
  have hx := B.exec
  have hb := B.bytes
  have hr := B.returns
  have hts := atoms_spec (ws := wsX11_crew) B.pre
  have hown : s.vm.findClass RX11 = some m.cls := findClass_of_methodNamed B.named
  have hlocks := B.notSynchronized
  subst hsz
  have hD := hD0.self (sz := s.heap.size)
  generalize hAe : va_A [(g0, .inr (11, mF pq)), ((pq 0), .inl ((cp 0), 7, .inl (fun _ => 0))), ((pq 55), .inl ((cp 55), 8, .inl (fun _ => 0)))] s.heap.size = A at hD ⊢
  have hA : ∀ q : Nat, s.heap.size ≤ q → A q := fun q h => by rw [← hAe]; exact Or.inr h
  have hS : va_S A s.heap s.heap [] := va_S.rf
  have hP : va_P (dC, dI) vwCl [(g0, .inr (11, mF pq)), ((pq 0), .inl ((cp 0), 7, .inl (fun _ => 0))), ((pq 55), .inl ((cp 55), 8, .inl (fun _ => 0)))] s.heap := hP
  have hl := lv_entry ([.ref g0, .int a1, .int a2]) (n := 6) (Nat.le_of_ble_eq_true rfl)
  rw [lg_entry_eq]
  generalize (lg_sl ([.ref g0, .int a1, .int a2]) ++ List.replicate (6 - (lg_sl ([.ref g0, .int a1, .int a2])).length) Slot.unset).toArray = ls at hl ⊢
  have hl : lv_has ls 6 [(0, .ref g0), (1, .int a1), (2, .int a2)] := hl
  refine lv_iload_n hx hb dX11_crew_0 rfl (lv_at hl 1 rfl) ?_
  refine lv_if_ge (tgt := 11) hx hb dX11_crew_1 (by decide) (fun c_1 => ?_) (fun c_1 => ?_)
  · refine lv_iload_n hx hb dX11_crew_11 rfl (lv_at hl 1 rfl) ?_
    refine lv_bipush (v := 80) hx hb dX11_crew_12 (by decide) ?_
    refine lv_icmp_le (tgt := 24) hx hb dX11_crew_14 (by decide) (fun c_2 => ?_) (fun c_2 => ?_)
    · refine lv_iload_n hx hb dX11_crew_24 rfl (lv_at hl 2 rfl) ?_
      refine lv_bipush (v := 9) hx hb dX11_crew_25 (by decide) ?_
      have hPc := hP.sub (ws' := []) [] rfl
      have hDc := hD.sub (ws' := []) [] (by decide) rfl
      have hKc := hK.sub (tys' := []) [] rfl
      have hFc : ∀ q, va_A [] s.heap.size q → A q := pu_free hS hA
      refine va_calli (va_runS (As := [.int a2, .int 9]) (rest := []) ⟨hx, hb, hml, hown, hts⟩ (c_X11_isIn l dC dI s.heap.size a2 9) (va_cwS 2 hts gX11_crew_X11_isIn rfl rfl rfl (by decide +kernel) ⟨(Nat.le_of_ble_eq_true rfl), (Nat.le_of_ble_eq_true rfl)⟩) (pr_S hPc hKc hDc) rfl rfl hl.1 rfl (lv_room (Nat.le_of_ble_eq_true rfl)) dX11_crew_27 ⟨(Nat.le_of_ble_eq_true rfl), (Nat.le_of_ble_eq_true rfl)⟩) hS (fun q _ h => hFc q h) hFc (fun r_4 u t H locs ht hvm w_3 hB hz1 hk1 hS => ?_)
      have hP := pu_keep hP hk1
      clear hk1 hz1 hvm hB hPc hDc hKc hFc ht
      subst w_3
      refine lv_if_ne (tgt := 40) hx hb dX11_crew_30 (by decide) (fun c_5 => ?_) (fun c_5 => ?_)
      · refine lv_aload_n hx hb dX11_crew_40 rfl (lv_at hl 0 rfl) ?_
        refine lv_iconst (v := 0) hx hb dX11_crew_41 (by decide) ?_
        refine va_put (D := (dC, dI)) (ci := 11) (v := .int 0) (ty := .int) (C := RX11) (T := TX11) (N := 63) hx hb hts in_wsX11_crew_X11 tyX11 tyX11_ok nmX11 hown hK hP hD hS 0 rfl rfl 58 (by decide) (hts (.fieldLink RX11 344 "ShipOfficeModel" "someMany" "I") (by decide +kernel)) (fun _ h9 => h9) rfl (by decide +kernel) rfl rfl (Nat.le_of_ble_eq_true rfl) dX11_crew_42 (fun H locs hP hD hS => ?_)
        have hP : va_P (dC, dI) vwCl [(g0, .inr (11, ((mF pq).set 58 (.int 0)))), ((pq 0), .inl ((cp 0), 7, .inl (fun _ => 0))), ((pq 55), .inl ((cp 55), 8, .inl (fun _ => 0)))] H := hP
        have hD : va_D A [(g0, .inr (11, ((mF pq).set 58 (.int 0)))), ((pq 0), .inl ((cp 0), 7, .inl (fun _ => 0))), ((pq 55), .inl ((cp 55), 8, .inl (fun _ => 0)))] := hD
        refine lv_iconst (v := 0) hx hb dX11_crew_45 (by decide) ?_
        refine lv_istore_n (lv' := [(3, .int 0), (0, .ref g0), (1, .int a1), (2, .int a2)]) hx hb dX11_crew_46 rfl hl (by decide) rfl (fun ls hl => ?_)
        refine lv_iload_n hx hb dX11_crew_47 rfl (lv_at hl 0 rfl) ?_
        refine lv_aload_n hx hb dX11_crew_48 rfl (lv_at hl 1 rfl) ?_
        refine va_get (D := (dC, dI)) (ci := 11) (v := .int 0) (C := RX11) (T := TX11) (N := 63) hx hb hts in_wsX11_crew_X11 hown hK hP 0 rfl rfl 39 (by decide) (hts (.fieldLink RX11 157 "ShipOfficeModel" "men" "I") (by decide +kernel)) (fun _ h9 => h9) rfl dX11_crew_49 ?_
        refine lv_icmp_ge (tgt := 109) hx hb dX11_crew_52 (by decide) (fun _ => ?_) (fun c_6 => absurd c_6 (by decide))
        refine lv_aload_n hx hb dX11_crew_109 rfl (lv_at hl 1 rfl) ?_
        refine lv_iconst (v := 0) hx hb dX11_crew_110 (by decide) ?_
        refine va_put (D := (dC, dI)) (ci := 11) (v := .int 0) (ty := .int) (C := RX11) (T := TX11) (N := 63) hx hb hts in_wsX11_crew_X11 tyX11 tyX11_ok nmX11 hown hK hP hD hS 0 rfl rfl 59 (by decide) (hts (.fieldLink RX11 341 "ShipOfficeModel" "hands" "I") (by decide +kernel)) (fun _ h9 => h9) rfl (by decide +kernel) rfl rfl (Nat.le_of_ble_eq_true rfl) dX11_crew_111 (fun H locs hP hD hS => ?_)
        have hP : va_P (dC, dI) vwCl [(g0, .inr (11, ((((mF pq).set 58 (.int 0))).set 59 (.int 0)))), ((pq 0), .inl ((cp 0), 7, .inl (fun _ => 0))), ((pq 55), .inl ((cp 55), 8, .inl (fun _ => 0)))] H := hP
        have hD : va_D A [(g0, .inr (11, ((((mF pq).set 58 (.int 0))).set 59 (.int 0)))), ((pq 0), .inl ((cp 0), 7, .inl (fun _ => 0))), ((pq 55), .inl ((cp 55), 8, .inl (fun _ => 0)))] := hD
        obtain ⟨N, hN, rfl⟩ := crew_N c_1 c_2
        refine lv_iload_n hx hb dX11_crew_114 rfl (lv_at hl 2 rfl) ?_
        refine lv_istore_n (lv' := [(3, .int (nI N)), (0, .ref g0), (1, .int (nI N)), (2, .int a2)]) hx hb dX11_crew_115 rfl hl (by decide) rfl (fun ls hl => ?_)
        refine lv_iconst (v := 0) hx hb dX11_crew_116 (by decide) ?_
        refine lv_istore (lv' := [(4, .int 0), (3, .int (nI N)), (0, .ref g0), (1, .int (nI N)), (2, .int a2)]) hx hb dX11_crew_117 hl (by decide) rfl (fun ls hl => ?_)
        have hP : va_P (dC, dI) vwCl [(g0, .inr (11, (mC pq (nI 0)))), ((pq 0), .inl ((cp 0), 7, .inl (fun _ => 0))), ((pq 55), .inl ((cp 55), 8, .inl (fun _ => 0)))] H := hP
        have hD : va_D A [(g0, .inr (11, (mC pq (nI 0)))), ((pq 0), .inl ((cp 0), 7, .inl (fun _ => 0))), ((pq 55), .inl ((cp 55), 8, .inl (fun _ => 0)))] := hD
        refine lv_iload hx hb dX11_crew_119 (lv_at hl 0 rfl) ?_
        refine lv_iconst (v := 4) hx hb dX11_crew_121 (by decide) ?_
        refine lv_icmp_ge (tgt := 173) hx hb dX11_crew_122 (by decide) (fun c_7 => absurd c_7 (by decide)) (fun _ => ?_)
        refine lv_iconst (v := 0) hx hb dX11_crew_125 (by decide) ?_
        refine lv_istore (lv' := [(5, .int 0), (4, .int 0), (3, .int (nI N)), (0, .ref g0), (1, .int (nI N)), (2, .int a2)]) hx hb dX11_crew_126 hl (by decide) rfl (fun ls hl => ?_)
        refine crew_in hx hb hts hown hK (M := N) (by omega) 0 (by omega) (fun f H locs ls hP hD hS hl => ?_) 3 0 _ _ _ _ (by omega) (Nat.zero_le _) hP hD hS (lv_sub hl [0, 1, 2, 3, 4, 5] rfl)
        refine lv_iload_n hx hb dX11_crew_163 rfl (lv_at hl 1 rfl) ?_
        refine lv_iconst (v := 3) hx hb dX11_crew_164 (by decide) ?_
        refine lv_idiv hx hb dX11_crew_165 (by decide) ?_
        refine lv_topi (fun y ey => ?_)
        obtain rfl : y = nI (N / 3) := ey.trans (pk_div (by omega) (by decide) (by decide))
        refine lv_istore_n (lv' := [(3, .int (nI (N / 3))), (4, .int 0), (0, .ref g0), (1, .int (nI N)), (2, .int a2)]) hx hb dX11_crew_166 rfl hl (by decide) rfl (fun ls hl => ?_)
        refine lv_iinc (v := 1) (lv' := [(4, .int 1), (3, .int (nI (N / 3))), (0, .ref g0), (1, .int (nI N)), (2, .int a2)]) hx hb dX11_crew_167 hl (k := 1) rfl (by decide) (by decide) rfl (fun ls hl => ?_)
        refine lv_goto (tgt := 119) hx hb dX11_crew_170 (by decide) ?_
        refine lv_iload hx hb dX11_crew_119 (lv_at hl 0 rfl) ?_
        refine lv_iconst (v := 4) hx hb dX11_crew_121 (by decide) ?_
        refine lv_icmp_ge (tgt := 173) hx hb dX11_crew_122 (by decide) (fun c_8 => absurd c_8 (by decide)) (fun _ => ?_)
        refine lv_iconst (v := 0) hx hb dX11_crew_125 (by decide) ?_
        refine lv_istore (lv' := [(5, .int 0), (4, .int 1), (3, .int (nI (N / 3))), (0, .ref g0), (1, .int (nI N)), (2, .int a2)]) hx hb dX11_crew_126 hl (by decide) rfl (fun ls hl => ?_)
        refine crew_in hx hb hts hown hK (M := N / 3) (by omega) (0 + N % 3) (by omega) (fun f H locs ls hP hD hS hl => ?_) 3 0 _ _ _ _ (by omega) (Nat.zero_le _) hP hD hS (lv_sub hl [0, 1, 2, 3, 4, 5] rfl)
        refine lv_iload_n hx hb dX11_crew_163 rfl (lv_at hl 1 rfl) ?_
        refine lv_iconst (v := 3) hx hb dX11_crew_164 (by decide) ?_
        refine lv_idiv hx hb dX11_crew_165 (by decide) ?_
        refine lv_topi (fun y ey => ?_)
        obtain rfl : y = nI (N / 3 / 3) := ey.trans (pk_div (by omega) (by decide) (by decide))
        refine lv_istore_n (lv' := [(3, .int (nI (N / 3 / 3))), (4, .int 1), (0, .ref g0), (1, .int (nI N)), (2, .int a2)]) hx hb dX11_crew_166 rfl hl (by decide) rfl (fun ls hl => ?_)
        refine lv_iinc (v := 2) (lv' := [(4, .int 2), (3, .int (nI (N / 3 / 3))), (0, .ref g0), (1, .int (nI N)), (2, .int a2)]) hx hb dX11_crew_167 hl (k := 1) rfl (by decide) (by decide) rfl (fun ls hl => ?_)
        refine lv_goto (tgt := 119) hx hb dX11_crew_170 (by decide) ?_
        refine lv_iload hx hb dX11_crew_119 (lv_at hl 0 rfl) ?_
        refine lv_iconst (v := 4) hx hb dX11_crew_121 (by decide) ?_
        refine lv_icmp_ge (tgt := 173) hx hb dX11_crew_122 (by decide) (fun c_9 => absurd c_9 (by decide)) (fun _ => ?_)
        refine lv_iconst (v := 0) hx hb dX11_crew_125 (by decide) ?_
        refine lv_istore (lv' := [(5, .int 0), (4, .int 2), (3, .int (nI (N / 3 / 3))), (0, .ref g0), (1, .int (nI N)), (2, .int a2)]) hx hb dX11_crew_126 hl (by decide) rfl (fun ls hl => ?_)
        refine crew_in hx hb hts hown hK (M := N / 3 / 3) (by omega) ((0 + N % 3) + (N / 3) % 3) (by omega) (fun f H locs ls hP hD hS hl => ?_) 3 0 _ _ _ _ (by omega) (Nat.zero_le _) hP hD hS (lv_sub hl [0, 1, 2, 3, 4, 5] rfl)
        refine lv_iload_n hx hb dX11_crew_163 rfl (lv_at hl 1 rfl) ?_
        refine lv_iconst (v := 3) hx hb dX11_crew_164 (by decide) ?_
        refine lv_idiv hx hb dX11_crew_165 (by decide) ?_
        refine lv_topi (fun y ey => ?_)
        obtain rfl : y = nI (N / 3 / 3 / 3) := ey.trans (pk_div (by omega) (by decide) (by decide))
        refine lv_istore_n (lv' := [(3, .int (nI (N / 3 / 3 / 3))), (4, .int 2), (0, .ref g0), (1, .int (nI N)), (2, .int a2)]) hx hb dX11_crew_166 rfl hl (by decide) rfl (fun ls hl => ?_)
        refine lv_iinc (v := 3) (lv' := [(4, .int 3), (3, .int (nI (N / 3 / 3 / 3))), (0, .ref g0), (1, .int (nI N)), (2, .int a2)]) hx hb dX11_crew_167 hl (k := 1) rfl (by decide) (by decide) rfl (fun ls hl => ?_)
        refine lv_goto (tgt := 119) hx hb dX11_crew_170 (by decide) ?_
        refine lv_iload hx hb dX11_crew_119 (lv_at hl 0 rfl) ?_
        refine lv_iconst (v := 4) hx hb dX11_crew_121 (by decide) ?_
        refine lv_icmp_ge (tgt := 173) hx hb dX11_crew_122 (by decide) (fun c_10 => absurd c_10 (by decide)) (fun _ => ?_)
        refine lv_iconst (v := 0) hx hb dX11_crew_125 (by decide) ?_
        refine lv_istore (lv' := [(5, .int 0), (4, .int 3), (3, .int (nI (N / 3 / 3 / 3))), (0, .ref g0), (1, .int (nI N)), (2, .int a2)]) hx hb dX11_crew_126 hl (by decide) rfl (fun ls hl => ?_)
        refine crew_in hx hb hts hown hK (M := N / 3 / 3 / 3) (by omega) (((0 + N % 3) + (N / 3) % 3) + (N / 3 / 3) % 3) (by omega) (fun f H locs ls hP hD hS hl => ?_) 3 0 _ _ _ _ (by omega) (Nat.zero_le _) hP hD hS (lv_sub hl [0, 1, 2, 3, 4, 5] rfl)
        refine lv_iload_n hx hb dX11_crew_163 rfl (lv_at hl 1 rfl) ?_
        refine lv_iconst (v := 3) hx hb dX11_crew_164 (by decide) ?_
        refine lv_idiv hx hb dX11_crew_165 (by decide) ?_
        refine lv_topi (fun y ey => ?_)
        obtain rfl : y = nI (N / 3 / 3 / 3 / 3) := ey.trans (pk_div (by omega) (by decide) (by decide))
        refine lv_istore_n (lv' := [(3, .int (nI (N / 3 / 3 / 3 / 3))), (4, .int 3), (0, .ref g0), (1, .int (nI N)), (2, .int a2)]) hx hb dX11_crew_166 rfl hl (by decide) rfl (fun ls hl => ?_)
        refine lv_iinc (v := 4) (lv' := [(4, .int 4), (3, .int (nI (N / 3 / 3 / 3 / 3))), (0, .ref g0), (1, .int (nI N)), (2, .int a2)]) hx hb dX11_crew_167 hl (k := 1) rfl (by decide) (by decide) rfl (fun ls hl => ?_)
        refine lv_goto (tgt := 119) hx hb dX11_crew_170 (by decide) ?_
        refine lv_iload hx hb dX11_crew_119 (lv_at hl 0 rfl) ?_
        refine lv_iconst (v := 4) hx hb dX11_crew_121 (by decide) ?_
        refine lv_icmp_ge (tgt := 173) hx hb dX11_crew_122 (by decide) (fun _ => ?_) (fun c_11 => absurd c_11 (by decide))
        refine lv_aload_n hx hb dX11_crew_173 rfl (lv_at hl 2 rfl) ?_
        refine lv_bipush (v := (-9)) hx hb dX11_crew_174 (by decide) ?_
        refine va_put (D := (dC, dI)) (ci := 11) (v := .int (-9)) (ty := .int) (C := RX11) (T := TX11) (N := 63) hx hb hts in_wsX11_crew_X11 tyX11 tyX11_ok nmX11 hown hK hP hD hS 0 rfl rfl 60 (by decide) (hts (.fieldLink RX11 338 "ShipOfficeModel" "least" "I") (by decide +kernel)) (fun _ h9 => h9) rfl (by decide +kernel) rfl rfl (Nat.le_of_ble_eq_true rfl) dX11_crew_176 (fun H locs hP hD hS => ?_)
        have hP : va_P (dC, dI) vwCl [(g0, .inr (11, (((mC pq (nI ((((0 + N % 3) + (N / 3) % 3) + (N / 3 / 3) % 3) + (N / 3 / 3 / 3) % 3)))).set 60 (.int (-9))))), ((pq 0), .inl ((cp 0), 7, .inl (fun _ => 0))), ((pq 55), .inl ((cp 55), 8, .inl f))] H := hP
        have hD : va_D A [(g0, .inr (11, (((mC pq (nI ((((0 + N % 3) + (N / 3) % 3) + (N / 3 / 3) % 3) + (N / 3 / 3 / 3) % 3)))).set 60 (.int (-9))))), ((pq 0), .inl ((cp 0), 7, .inl (fun _ => 0))), ((pq 55), .inl ((cp 55), 8, .inl f))] := hD
        refine lv_aload_n hx hb dX11_crew_179 rfl (lv_at hl 2 rfl) ?_
        refine lv_iconst (v := 0) hx hb dX11_crew_180 (by decide) ?_
        refine lv_iconst (v := 0) hx hb dX11_crew_181 (by decide) ?_
        refine lv_iconst (v := 0) hx hb dX11_crew_182 (by decide) ?_
        have hPc := hP.sub (ws' := [(g0, .inr (11, (((mC pq (nI ((((0 + N % 3) + (N / 3) % 3) + (N / 3 / 3) % 3) + (N / 3 / 3 / 3) % 3)))).set 60 (.int (-9)))))]) [0] rfl
        have hDc := hD.sub (ws' := [(g0, .inr (11, (((mC pq (nI ((((0 + N % 3) + (N / 3) % 3) + (N / 3 / 3) % 3) + (N / 3 / 3 / 3) % 3)))).set 60 (.int (-9)))))]) [0] (by decide) rfl
        have hKc := hK.sub (tys' := []) [] rfl
        have hFc := va_free (wc := [(g0, .inr (11, (((mC pq (nI ((((0 + N % 3) + (N / 3) % 3) + (N / 3 / 3) % 3) + (N / 3 / 3 / 3) % 3)))).set 60 (.int (-9)))))]) hD hS hA [0] rfl
        refine va_callv (va_runV (As := [.int 0, .int 0, .int 0]) (rest := []) ⟨hx, hb, hml, hown, hts⟩ (c_X11_chooses l dC dI H.size g0 pq cp (nI ((((0 + N % 3) + (N / 3) % 3) + (N / 3 / 3) % 3) + (N / 3 / 3 / 3) % 3))) (cwV 3 hts gX11_crew_X11_chooses rfl rfl rfl (by decide +kernel) ⟨(Nat.le_of_ble_eq_true rfl), (Nat.le_of_ble_eq_true rfl)⟩) (pr_V (r := (RX11, TX11, 63)) hPc hKc hDc 0 11 rfl rfl) rfl rfl hl.1 rfl (lv_room (Nat.le_of_ble_eq_true rfl)) dX11_crew_183 ⟨(Nat.le_of_ble_eq_true rfl), (Nat.le_of_ble_eq_true rfl)⟩) hS (fun q _ h => hFc q h) hFc (fun u t H locs ht hvm w_12 hB hz1 hk1 hS => ?_)
        obtain ⟨x_14, rfl⟩ : ∃ z, z = u := ⟨_, rfl⟩
        obtain ⟨hP1, hK1, hD1⟩ := hB
        rw [ht] at hP1
        have hK1 := va_K.moved hvm.symm hK1
        obtain ⟨hP, hD⟩ := va_join (wr := [((pq 0), .inl ((cp 0), 7, .inl (fun _ => 0))), ((pq 55), .inl ((cp 55), 8, .inl f))]) (w1 := [(g0, .inr (11, (((mC pq (nI ((((0 + N % 3) + (N / 3) % 3) + (N / 3 / 3) % 3) + (N / 3 / 3 / 3) % 3)))).set 60 (.int x_14))))]) hP hD [0] [1, 2] rfl rfl (by decide) (by decide) hk1 hFc hP1 hD1
        have hK := hK.app hK1
        have hP : va_P (dC, dI) vwCl [((pq 0), .inl ((cp 0), 7, .inl (fun _ => 0))), ((pq 55), .inl ((cp 55), 8, .inl f)), (g0, .inr (11, (((mC pq (nI ((((0 + N % 3) + (N / 3) % 3) + (N / 3 / 3) % 3) + (N / 3 / 3 / 3) % 3)))).set 60 (.int x_14))))] H := hP
        have hD : va_D A [((pq 0), .inl ((cp 0), 7, .inl (fun _ => 0))), ((pq 55), .inl ((cp 55), 8, .inl f)), (g0, .inr (11, (((mC pq (nI ((((0 + N % 3) + (N / 3) % 3) + (N / 3 / 3) % 3) + (N / 3 / 3 / 3) % 3)))).set 60 (.int x_14))))] := hD
        have hK : va_K (dC, dI) vwCl [((cp 0), .int), ((cp 55), .int)] s := hK
        clear hP1 hK1 hD1 hk1 hz1 hvm ht hPc hDc hKc hFc
        rcases Nat.eq_zero_or_pos N with rfl | hN0
        · obtain rfl : x_14 = 0 := w_12.trans (by decide)
          refine lv_iload_n hx hb dX11_crew_186 rfl (lv_at hl 4 rfl) ?_
          refine lv_if_ne (tgt := 195) hx hb dX11_crew_187 (by decide) (fun c_15 => ?_) (fun c_15 => ?_)
          · refine lv_aload_n hx hb dX11_crew_195 rfl (lv_at hl 2 rfl) ?_
            refine va_get (D := (dC, dI)) (ci := 11) (v := .int 0) (C := RX11) (T := TX11) (N := 63) hx hb hts in_wsX11_crew_X11 hown hK hP 2 rfl rfl 60 (by decide) (hts (.fieldLink RX11 338 "ShipOfficeModel" "least" "I") (by decide +kernel)) (fun _ h9 => h9) rfl dX11_crew_196 ?_
            refine lv_if_lt (tgt := 210) hx hb dX11_crew_199 (by decide) (fun c_16 => absurd c_16 (by decide)) (fun _ => ?_)
            refine lv_iload_n hx hb dX11_crew_202 rfl (lv_at hl 4 rfl) ?_
            refine lv_aload_n hx hb dX11_crew_203 rfl (lv_at hl 2 rfl) ?_
            refine va_get (D := (dC, dI)) (ci := 11) (v := .int 0) (C := RX11) (T := TX11) (N := 63) hx hb hts in_wsX11_crew_X11 hown hK hP 2 rfl rfl 59 (by decide) (hts (.fieldLink RX11 341 "ShipOfficeModel" "hands" "I") (by decide +kernel)) (fun _ h9 => h9) rfl dX11_crew_204 ?_
            refine lv_icmp_le (tgt := 215) hx hb dX11_crew_207 (by decide) (fun c_17 => absurd c_17 (crew_w0 c_5 c_15)) (fun c_17 => ?_)
            refine lv_bipush (v := (-9)) hx hb dX11_crew_210 (by decide) ?_
            refine lv_goto (tgt := 228) hx hb dX11_crew_212 (by decide) ?_
            exact W.iret (v := (-9)) hx hb hr (fun t ht hW => ⟨⟨(-9), (), rfl, (by rw [sp_crew, if_pos c_1, if_pos c_2, if_neg c_5, if_neg c_15]), trivial⟩, hS.F ht⟩) hS.2.2 dX11_crew_228
          · refine lv_aload_n hx hb dX11_crew_190 rfl (lv_at hl 2 rfl) ?_
            refine va_get (D := (dC, dI)) (ci := 11) (v := .int 0) (C := RX11) (T := TX11) (N := 63) hx hb hts in_wsX11_crew_X11 hown hK hP 2 rfl rfl 60 (by decide) (hts (.fieldLink RX11 338 "ShipOfficeModel" "least" "I") (by decide +kernel)) (fun _ h9 => h9) rfl dX11_crew_191 ?_
            exact W.iret (v := 0) hx hb hr (fun t ht hW => ⟨⟨0, (), rfl, (by rw [sp_crew, if_pos c_1, if_pos c_2, if_neg c_5, if_pos c_15, if_pos (by decide)]), trivial⟩, hS.F ht⟩) hS.2.2 dX11_crew_194
        · obtain rfl : x_14 = -9 := w_12.trans (if_neg (crew_D hN hN0))
          refine lv_iload_n hx hb dX11_crew_186 rfl (lv_at hl 4 rfl) ?_
          refine lv_if_ne (tgt := 195) hx hb dX11_crew_187 (by decide) (fun c_18 => ?_) (fun c_18 => ?_)
          · refine lv_aload_n hx hb dX11_crew_195 rfl (lv_at hl 2 rfl) ?_
            refine va_get (D := (dC, dI)) (ci := 11) (v := .int (-9)) (C := RX11) (T := TX11) (N := 63) hx hb hts in_wsX11_crew_X11 hown hK hP 2 rfl rfl 60 (by decide) (hts (.fieldLink RX11 338 "ShipOfficeModel" "least" "I") (by decide +kernel)) (fun _ h9 => h9) rfl dX11_crew_196 ?_
            refine lv_if_lt (tgt := 210) hx hb dX11_crew_199 (by decide) (fun _ => ?_) (fun c_19 => absurd c_19 (by decide))
            refine lv_bipush (v := (-9)) hx hb dX11_crew_210 (by decide) ?_
            refine lv_goto (tgt := 228) hx hb dX11_crew_212 (by decide) ?_
            exact W.iret (v := (-9)) hx hb hr (fun t ht hW => ⟨⟨(-9), (), rfl, (by rw [sp_crew, if_pos c_1, if_pos c_2, if_neg c_5, if_neg c_18]), trivial⟩, hS.F ht⟩) hS.2.2 dX11_crew_228
          · refine lv_aload_n hx hb dX11_crew_190 rfl (lv_at hl 2 rfl) ?_
            refine va_get (D := (dC, dI)) (ci := 11) (v := .int (-9)) (C := RX11) (T := TX11) (N := 63) hx hb hts in_wsX11_crew_X11 hown hK hP 2 rfl rfl 60 (by decide) (hts (.fieldLink RX11 338 "ShipOfficeModel" "least" "I") (by decide +kernel)) (fun _ h9 => h9) rfl dX11_crew_191 ?_
            exact W.iret (v := (-9)) hx hb hr (fun t ht hW => ⟨⟨(-9), (), rfl, (by rw [sp_crew, if_pos c_1, if_pos c_2, if_neg c_5, if_pos c_18, if_neg (nI_ne0 hN0 (by omega))]), trivial⟩, hS.F ht⟩) hS.2.2 dX11_crew_194
      · refine lv_aload_n hx hb dX11_crew_33 rfl (lv_at hl 0 rfl) ?_
        refine lv_bipush (v := (-2)) hx hb dX11_crew_34 (by decide) ?_
        have hPc := hP.sub (ws' := [(g0, .inr (11, mF pq)), ((pq 0), .inl ((cp 0), 7, .inl (fun _ => 0)))]) [0, 1] rfl
        have hDc := hD.sub (ws' := [(g0, .inr (11, mF pq)), ((pq 0), .inl ((cp 0), 7, .inl (fun _ => 0)))]) [0, 1] (by decide) rfl
        have hKc := hK.sub (tys' := [((cp 0), .int)]) [0] rfl
        have hFc := va_free (wc := [(g0, .inr (11, mF pq)), ((pq 0), .inl ((cp 0), 7, .inl (fun _ => 0)))]) hD hS hA [0, 1] rfl
        refine va_calli (va_runV (As := [.int (-2)]) (rest := []) ⟨hx, hb, hml, hown, hts⟩ (c_X11_refuse l dC dI H.size g0 pq cp (-2) (by unfold vp_in; decide)) (cwV 1 hts gX11_crew_X11_refuse rfl rfl rfl (by decide +kernel) ⟨(Nat.le_of_ble_eq_true rfl), (Nat.le_of_ble_eq_true rfl)⟩) (pr_V (r := (RX11, TX11, 63)) hPc hKc hDc 0 11 rfl rfl) rfl rfl hl.1 rfl (lv_room (Nat.le_of_ble_eq_true rfl)) dX11_crew_36 ⟨(Nat.le_of_ble_eq_true rfl), (Nat.le_of_ble_eq_true rfl)⟩) hS (fun q _ h => hFc q h) hFc (fun r_21 u t H locs ht hvm w_20 hB hz1 hk1 hS => ?_)
        subst w_20
        exact W.iret (v := (-2)) hx hb hr (fun t ht hW => ⟨⟨(-2), (), rfl, (by simp [sp_crew, c_1, c_2, c_5]), trivial⟩, hS.F ht⟩) hS.2.2 dX11_crew_39
    · refine lv_aload_n hx hb dX11_crew_17 rfl (lv_at hl 0 rfl) ?_
      refine lv_bipush (v := (-6)) hx hb dX11_crew_18 (by decide) ?_
      have hPc := hP.sub (ws' := [(g0, .inr (11, mF pq)), ((pq 0), .inl ((cp 0), 7, .inl (fun _ => 0)))]) [0, 1] rfl
      have hDc := hD.sub (ws' := [(g0, .inr (11, mF pq)), ((pq 0), .inl ((cp 0), 7, .inl (fun _ => 0)))]) [0, 1] (by decide) rfl
      have hKc := hK.sub (tys' := [((cp 0), .int)]) [0] rfl
      have hFc := va_free (wc := [(g0, .inr (11, mF pq)), ((pq 0), .inl ((cp 0), 7, .inl (fun _ => 0)))]) hD hS hA [0, 1] rfl
      refine va_calli (va_runV (As := [.int (-6)]) (rest := []) ⟨hx, hb, hml, hown, hts⟩ (c_X11_refuse l dC dI s.heap.size g0 pq cp (-6) (by unfold vp_in; decide)) (cwV 1 hts gX11_crew_X11_refuse rfl rfl rfl (by decide +kernel) ⟨(Nat.le_of_ble_eq_true rfl), (Nat.le_of_ble_eq_true rfl)⟩) (pr_V (r := (RX11, TX11, 63)) hPc hKc hDc 0 11 rfl rfl) rfl rfl hl.1 rfl (lv_room (Nat.le_of_ble_eq_true rfl)) dX11_crew_20 ⟨(Nat.le_of_ble_eq_true rfl), (Nat.le_of_ble_eq_true rfl)⟩) hS (fun q _ h => hFc q h) hFc (fun r_23 u t H locs ht hvm w_22 hB hz1 hk1 hS => ?_)
      subst w_22
      exact W.iret (v := (-6)) hx hb hr (fun t ht hW => ⟨⟨(-6), (), rfl, (by simp [sp_crew, c_1, c_2]), trivial⟩, hS.F ht⟩) hS.2.2 dX11_crew_23
  · refine lv_aload_n hx hb dX11_crew_4 rfl (lv_at hl 0 rfl) ?_
    refine lv_bipush (v := (-4)) hx hb dX11_crew_5 (by decide) ?_
    have hPc := hP.sub (ws' := [(g0, .inr (11, mF pq)), ((pq 0), .inl ((cp 0), 7, .inl (fun _ => 0)))]) [0, 1] rfl
    have hDc := hD.sub (ws' := [(g0, .inr (11, mF pq)), ((pq 0), .inl ((cp 0), 7, .inl (fun _ => 0)))]) [0, 1] (by decide) rfl
    have hKc := hK.sub (tys' := [((cp 0), .int)]) [0] rfl
    have hFc := va_free (wc := [(g0, .inr (11, mF pq)), ((pq 0), .inl ((cp 0), 7, .inl (fun _ => 0)))]) hD hS hA [0, 1] rfl
    refine va_calli (va_runV (As := [.int (-4)]) (rest := []) ⟨hx, hb, hml, hown, hts⟩ (c_X11_refuse l dC dI s.heap.size g0 pq cp (-4) (by unfold vp_in; decide)) (cwV 1 hts gX11_crew_X11_refuse rfl rfl rfl (by decide +kernel) ⟨(Nat.le_of_ble_eq_true rfl), (Nat.le_of_ble_eq_true rfl)⟩) (pr_V (r := (RX11, TX11, 63)) hPc hKc hDc 0 11 rfl rfl) rfl rfl hl.1 rfl (lv_room (Nat.le_of_ble_eq_true rfl)) dX11_crew_7 ⟨(Nat.le_of_ble_eq_true rfl), (Nat.le_of_ble_eq_true rfl)⟩) hS (fun q _ h => hFc q h) hFc (fun r_25 u t H locs ht hvm w_24 hB hz1 hk1 hS => ?_)
    subst w_24
    exact W.iret (v := (-4)) hx hb hr (fun t ht hW => ⟨⟨(-4), (), rfl, (by simp [sp_crew, c_1]), trivial⟩, hS.F ht⟩) hS.2.2 dX11_crew_10
