abbrev cX11_chooses : ByteArray := prog_13_method_77_code
def yX11_chooses : MethodName := ⟨RX11, "chooses", "(III)V"⟩
def wsX11_chooses : List Cond := .code yX11_chooses cX11_chooses 7 none :: ([.fieldLink RX11 338 "ShipOfficeModel" "least" "I", .fieldLink RX11 341 "ShipOfficeModel" "hands" "I", .fieldLink RX11 146 "ShipOfficeModel" "best" "[I", .fieldLink RX11 143 "ShipOfficeModel" "hand" "[I", .fieldLink RX11 140 "ShipOfficeModel" "handRank" "[I", .fieldLink RX11 344 "ShipOfficeModel" "someMany" "I", .fieldLink RX11 25 "ShipOfficeModel" "asks" "[I", .fieldLink RX11 137 "ShipOfficeModel" "some" "[I", .methodLink RX11 347 yX11_chooses, .instanceMethod yX11_chooses, .selects RX11 yX11_chooses yX11_chooses, .initialized RX11] ++ wsX110)
theorem gw_X11_chooses : wsX11_chooses.all goodWord = true := by decide +kernel
theorem il_X11_chooses_1 : ∀ w ∈ ([.fieldLink RX11 338 "ShipOfficeModel" "least" "I", .fieldLink RX11 341 "ShipOfficeModel" "hands" "I", .fieldLink RX11 146 "ShipOfficeModel" "best" "[I", .fieldLink RX11 143 "ShipOfficeModel" "hand" "[I", .fieldLink RX11 140 "ShipOfficeModel" "handRank" "[I", .fieldLink RX11 344 "ShipOfficeModel" "someMany" "I", .fieldLink RX11 25 "ShipOfficeModel" "asks" "[I", .fieldLink RX11 137 "ShipOfficeModel" "some" "[I", .methodLink RX11 347 yX11_chooses, .instanceMethod yX11_chooses, .selects RX11 yX11_chooses yX11_chooses, .initialized RX11] : List Cond), w ∈ wsX11_chooses := fun w h => (List.mem_cons_of_mem _ (List.mem_append_left _ h))
theorem il_X11_chooses_2 : ∀ w ∈ wsX110, w ∈ wsX11_chooses := fun w h => (List.mem_cons_of_mem _ (List.mem_append_right _ h))
theorem iw_X11_chooses_1 : Cond.fieldLink RX11 338 "ShipOfficeModel" "least" "I" ∈ wsX11_chooses := (mmI il_X11_chooses_1 0 rfl)
theorem iw_X11_chooses_2 : Cond.fieldLink RX11 341 "ShipOfficeModel" "hands" "I" ∈ wsX11_chooses := (mmI il_X11_chooses_1 1 rfl)
theorem iw_X11_chooses_3 : Cond.fieldLink RX11 146 "ShipOfficeModel" "best" "[I" ∈ wsX11_chooses := (mmI il_X11_chooses_1 2 rfl)
theorem iw_X11_chooses_4 : Cond.fieldLink RX11 143 "ShipOfficeModel" "hand" "[I" ∈ wsX11_chooses := (mmI il_X11_chooses_1 3 rfl)
theorem iw_X11_chooses_5 : Cond.fieldLink RX11 140 "ShipOfficeModel" "handRank" "[I" ∈ wsX11_chooses := (mmI il_X11_chooses_1 4 rfl)
theorem iw_X11_chooses_6 : Cond.fieldLink RX11 344 "ShipOfficeModel" "someMany" "I" ∈ wsX11_chooses := (mmI il_X11_chooses_1 5 rfl)
theorem iw_X11_chooses_7 : Cond.fieldLink RX11 25 "ShipOfficeModel" "asks" "[I" ∈ wsX11_chooses := (mmI il_X11_chooses_1 6 rfl)
theorem iw_X11_chooses_8 : Cond.fieldLink RX11 137 "ShipOfficeModel" "some" "[I" ∈ wsX11_chooses := (mmI il_X11_chooses_1 7 rfl)
set_option maxRecDepth 100000 in
theorem ggX11_chooses_X11_chooses : GoodIn wsX11_chooses wsX11_chooses := goodIn_sub (mmC (List.mem_cons_self) (mmA (mmC (mmI il_X11_chooses_1 0 rfl) (mmC (mmI il_X11_chooses_1 1 rfl) (mmC (mmI il_X11_chooses_1 2 rfl) (mmC (mmI il_X11_chooses_1 3 rfl) (mmC (mmI il_X11_chooses_1 4 rfl) (mmC (mmI il_X11_chooses_1 5 rfl) (mmC (mmI il_X11_chooses_1 6 rfl) (mmC (mmI il_X11_chooses_1 7 rfl) (mmC (mmI il_X11_chooses_1 8 rfl) (mmC (mmI il_X11_chooses_1 9 rfl) (mmC (mmI il_X11_chooses_1 10 rfl) (mmC (mmI il_X11_chooses_1 11 rfl) mmN)))))))))))) il_X11_chooses_2)) gw_X11_chooses
theorem gX11_chooses_X11_chooses : GoodIn wsX11_chooses (wsV RX11 347 RX11 yX11_chooses wsX11_chooses) := goodIn_app (goodIn_sub (mmC (mmI il_X11_chooses_1 8 rfl) (mmC (mmI il_X11_chooses_1 9 rfl) (mmC (mmI il_X11_chooses_1 10 rfl) (mmC (mmI il_X11_chooses_1 11 rfl) mmN)))) (by decide +kernel)) ggX11_chooses_X11_chooses
theorem dX11_chooses_0 : decode cX11_chooses 0 = .ok (.aload_n 0, 1) := by decide +kernel
theorem dX11_chooses_1 : decode cX11_chooses 1 = .ok (.getfield 338, 3) := by decide +kernel
theorem dX11_chooses_4 : decode cX11_chooses 4 = .ok (.ifCond .lt 12, 3) := by decide +kernel
theorem dX11_chooses_7 : decode cX11_chooses 7 = .ok (.iload_n 3, 1) := by decide +kernel
theorem dX11_chooses_8 : decode cX11_chooses 8 = .ok (.aload_n 0, 1) := by decide +kernel
theorem dX11_chooses_9 : decode cX11_chooses 9 = .ok (.getfield 338, 3) := by decide +kernel
theorem dX11_chooses_12 : decode cX11_chooses 12 = .ok (.if_icmp .lt 4, 3) := by decide +kernel
theorem dX11_chooses_15 : decode cX11_chooses 15 = .ok (.return_, 1) := by decide +kernel
theorem dX11_chooses_16 : decode cX11_chooses 16 = .ok (.iload_n 1, 1) := by decide +kernel
theorem dX11_chooses_17 : decode cX11_chooses 17 = .ok (.aload_n 0, 1) := by decide +kernel
theorem dX11_chooses_18 : decode cX11_chooses 18 = .ok (.getfield 341, 3) := by decide +kernel
theorem dX11_chooses_21 : decode cX11_chooses 21 = .ok (.if_icmp .ne 38, 3) := by decide +kernel
theorem dX11_chooses_24 : decode cX11_chooses 24 = .ok (.aload_n 0, 1) := by decide +kernel
theorem dX11_chooses_25 : decode cX11_chooses 25 = .ok (.iload_n 3, 1) := by decide +kernel
theorem dX11_chooses_26 : decode cX11_chooses 26 = .ok (.putfield 338, 3) := by decide +kernel
theorem dX11_chooses_29 : decode cX11_chooses 29 = .ok (.iconst 0, 1) := by decide +kernel
theorem dX11_chooses_30 : decode cX11_chooses 30 = .ok (.istore 4, 2) := by decide +kernel
theorem dX11_chooses_32 : decode cX11_chooses 32 = .ok (.iload 4, 2) := by decide +kernel
theorem dX11_chooses_34 : decode cX11_chooses 34 = .ok (.iload_n 1, 1) := by decide +kernel
theorem dX11_chooses_35 : decode cX11_chooses 35 = .ok (.if_icmp .ge 23, 3) := by decide +kernel
theorem dX11_chooses_38 : decode cX11_chooses 38 = .ok (.aload_n 0, 1) := by decide +kernel
theorem dX11_chooses_39 : decode cX11_chooses 39 = .ok (.getfield 146, 3) := by decide +kernel
theorem dX11_chooses_42 : decode cX11_chooses 42 = .ok (.iload 4, 2) := by decide +kernel
theorem dX11_chooses_44 : decode cX11_chooses 44 = .ok (.aload_n 0, 1) := by decide +kernel
theorem dX11_chooses_45 : decode cX11_chooses 45 = .ok (.getfield 143, 3) := by decide +kernel
theorem dX11_chooses_48 : decode cX11_chooses 48 = .ok (.iload 4, 2) := by decide +kernel
theorem dX11_chooses_50 : decode cX11_chooses 50 = .ok (.iaload, 1) := by decide +kernel
theorem dX11_chooses_51 : decode cX11_chooses 51 = .ok (.iastore, 1) := by decide +kernel
theorem dX11_chooses_52 : decode cX11_chooses 52 = .ok (.iinc 4 1, 3) := by decide +kernel
theorem dX11_chooses_55 : decode cX11_chooses 55 = .ok (.goto (-23), 3) := by decide +kernel
theorem dX11_chooses_58 : decode cX11_chooses 58 = .ok (.return_, 1) := by decide +kernel
theorem dX11_chooses_59 : decode cX11_chooses 59 = .ok (.iload_n 1, 1) := by decide +kernel
theorem dX11_chooses_60 : decode cX11_chooses 60 = .ok (.ifCond .le 33, 3) := by decide +kernel
theorem dX11_chooses_63 : decode cX11_chooses 63 = .ok (.aload_n 0, 1) := by decide +kernel
theorem dX11_chooses_64 : decode cX11_chooses 64 = .ok (.getfield 140, 3) := by decide +kernel
theorem dX11_chooses_67 : decode cX11_chooses 67 = .ok (.iload_n 1, 1) := by decide +kernel
theorem dX11_chooses_68 : decode cX11_chooses 68 = .ok (.iconst 1, 1) := by decide +kernel
theorem dX11_chooses_69 : decode cX11_chooses 69 = .ok (.isub, 1) := by decide +kernel
theorem dX11_chooses_70 : decode cX11_chooses 70 = .ok (.iaload, 1) := by decide +kernel
theorem dX11_chooses_71 : decode cX11_chooses 71 = .ok (.aload_n 0, 1) := by decide +kernel
theorem dX11_chooses_72 : decode cX11_chooses 72 = .ok (.getfield 140, 3) := by decide +kernel
theorem dX11_chooses_75 : decode cX11_chooses 75 = .ok (.iload_n 1, 1) := by decide +kernel
theorem dX11_chooses_76 : decode cX11_chooses 76 = .ok (.iaload, 1) := by decide +kernel
theorem dX11_chooses_77 : decode cX11_chooses 77 = .ok (.if_icmp .ne 16, 3) := by decide +kernel
theorem dX11_chooses_80 : decode cX11_chooses 80 = .ok (.aload_n 0, 1) := by decide +kernel
theorem dX11_chooses_81 : decode cX11_chooses 81 = .ok (.getfield 143, 3) := by decide +kernel
theorem dX11_chooses_84 : decode cX11_chooses 84 = .ok (.iload_n 1, 1) := by decide +kernel
theorem dX11_chooses_85 : decode cX11_chooses 85 = .ok (.iconst 1, 1) := by decide +kernel
theorem dX11_chooses_86 : decode cX11_chooses 86 = .ok (.isub, 1) := by decide +kernel
theorem dX11_chooses_87 : decode cX11_chooses 87 = .ok (.iaload, 1) := by decide +kernel
theorem dX11_chooses_88 : decode cX11_chooses 88 = .ok (.iconst 1, 1) := by decide +kernel
theorem dX11_chooses_89 : decode cX11_chooses 89 = .ok (.iadd, 1) := by decide +kernel
theorem dX11_chooses_90 : decode cX11_chooses 90 = .ok (.goto 4, 3) := by decide +kernel
theorem dX11_chooses_93 : decode cX11_chooses 93 = .ok (.iconst 0, 1) := by decide +kernel
theorem dX11_chooses_94 : decode cX11_chooses 94 = .ok (.istore 4, 2) := by decide +kernel
theorem dX11_chooses_96 : decode cX11_chooses 96 = .ok (.iload 4, 2) := by decide +kernel
theorem dX11_chooses_98 : decode cX11_chooses 98 = .ok (.istore 5, 2) := by decide +kernel
theorem dX11_chooses_100 : decode cX11_chooses 100 = .ok (.iload 5, 2) := by decide +kernel
theorem dX11_chooses_102 : decode cX11_chooses 102 = .ok (.aload_n 0, 1) := by decide +kernel
theorem dX11_chooses_103 : decode cX11_chooses 103 = .ok (.getfield 344, 3) := by decide +kernel
theorem dX11_chooses_106 : decode cX11_chooses 106 = .ok (.if_icmp .ge 75, 3) := by decide +kernel
theorem dX11_chooses_109 : decode cX11_chooses 109 = .ok (.aload_n 0, 1) := by decide +kernel
theorem dX11_chooses_110 : decode cX11_chooses 110 = .ok (.getfield 25, 3) := by decide +kernel
theorem dX11_chooses_113 : decode cX11_chooses 113 = .ok (.iconst 4, 1) := by decide +kernel
theorem dX11_chooses_114 : decode cX11_chooses 114 = .ok (.aload_n 0, 1) := by decide +kernel
theorem dX11_chooses_115 : decode cX11_chooses 115 = .ok (.getfield 137, 3) := by decide +kernel
theorem dX11_chooses_118 : decode cX11_chooses 118 = .ok (.iload 5, 2) := by decide +kernel
theorem dX11_chooses_120 : decode cX11_chooses 120 = .ok (.iaload, 1) := by decide +kernel
theorem dX11_chooses_121 : decode cX11_chooses 121 = .ok (.imul, 1) := by decide +kernel
theorem dX11_chooses_122 : decode cX11_chooses 122 = .ok (.aload_n 0, 1) := by decide +kernel
theorem dX11_chooses_123 : decode cX11_chooses 123 = .ok (.getfield 140, 3) := by decide +kernel
theorem dX11_chooses_126 : decode cX11_chooses 126 = .ok (.iload_n 1, 1) := by decide +kernel
theorem dX11_chooses_127 : decode cX11_chooses 127 = .ok (.iaload, 1) := by decide +kernel
theorem dX11_chooses_128 : decode cX11_chooses 128 = .ok (.iadd, 1) := by decide +kernel
theorem dX11_chooses_129 : decode cX11_chooses 129 = .ok (.iaload, 1) := by decide +kernel
theorem dX11_chooses_130 : decode cX11_chooses 130 = .ok (.istore 6, 2) := by decide +kernel
theorem dX11_chooses_132 : decode cX11_chooses 132 = .ok (.iload 6, 2) := by decide +kernel
theorem dX11_chooses_134 : decode cX11_chooses 134 = .ok (.ifCond .eq 41, 3) := by decide +kernel
theorem dX11_chooses_137 : decode cX11_chooses 137 = .ok (.iload_n 2, 1) := by decide +kernel
theorem dX11_chooses_138 : decode cX11_chooses 138 = .ok (.iload 5, 2) := by decide +kernel
theorem dX11_chooses_140 : decode cX11_chooses 140 = .ok (.ishr, 1) := by decide +kernel
theorem dX11_chooses_141 : decode cX11_chooses 141 = .ok (.iconst 1, 1) := by decide +kernel
theorem dX11_chooses_142 : decode cX11_chooses 142 = .ok (.iand, 1) := by decide +kernel
theorem dX11_chooses_143 : decode cX11_chooses 143 = .ok (.iconst 1, 1) := by decide +kernel
theorem dX11_chooses_144 : decode cX11_chooses 144 = .ok (.if_icmp .ne 6, 3) := by decide +kernel
theorem dX11_chooses_147 : decode cX11_chooses 147 = .ok (.goto 28, 3) := by decide +kernel
theorem dX11_chooses_150 : decode cX11_chooses 150 = .ok (.aload_n 0, 1) := by decide +kernel
theorem dX11_chooses_151 : decode cX11_chooses 151 = .ok (.getfield 143, 3) := by decide +kernel
theorem dX11_chooses_154 : decode cX11_chooses 154 = .ok (.iload_n 1, 1) := by decide +kernel
theorem dX11_chooses_155 : decode cX11_chooses 155 = .ok (.iload 5, 2) := by decide +kernel
theorem dX11_chooses_157 : decode cX11_chooses 157 = .ok (.iastore, 1) := by decide +kernel
theorem dX11_chooses_158 : decode cX11_chooses 158 = .ok (.aload_n 0, 1) := by decide +kernel
theorem dX11_chooses_159 : decode cX11_chooses 159 = .ok (.iload_n 1, 1) := by decide +kernel
theorem dX11_chooses_160 : decode cX11_chooses 160 = .ok (.iconst 1, 1) := by decide +kernel
theorem dX11_chooses_161 : decode cX11_chooses 161 = .ok (.iadd, 1) := by decide +kernel
theorem dX11_chooses_162 : decode cX11_chooses 162 = .ok (.iload_n 2, 1) := by decide +kernel
theorem dX11_chooses_163 : decode cX11_chooses 163 = .ok (.iconst 1, 1) := by decide +kernel
theorem dX11_chooses_164 : decode cX11_chooses 164 = .ok (.iload 5, 2) := by decide +kernel
theorem dX11_chooses_166 : decode cX11_chooses 166 = .ok (.ishl, 1) := by decide +kernel
theorem dX11_chooses_167 : decode cX11_chooses 167 = .ok (.ior, 1) := by decide +kernel
theorem dX11_chooses_168 : decode cX11_chooses 168 = .ok (.iload_n 3, 1) := by decide +kernel
theorem dX11_chooses_169 : decode cX11_chooses 169 = .ok (.iload 6, 2) := by decide +kernel
theorem dX11_chooses_171 : decode cX11_chooses 171 = .ok (.iadd, 1) := by decide +kernel
theorem dX11_chooses_172 : decode cX11_chooses 172 = .ok (.invokevirtual 347, 3) := by decide +kernel
theorem dX11_chooses_175 : decode cX11_chooses 175 = .ok (.iinc 5 1, 3) := by decide +kernel
theorem dX11_chooses_178 : decode cX11_chooses 178 = .ok (.goto (-78), 3) := by decide +kernel
theorem dX11_chooses_181 : decode cX11_chooses 181 = .ok (.return_, 1) := by decide +kernel
theorem in_wsX11_chooses_X11 : ∀ w ∈ wsX110, w ∈ wsX11_chooses := fun w h => List.mem_cons_of_mem _ (List.mem_append_right _ h)
