def wsX11_init_r1 : List Cond := [Cond.methodLink RX11 1 objectInit, Cond.instanceMethod objectInit, Cond.code objectInit ⟨#[0xb1]⟩ 1 none, Cond.arrayClass .int, Cond.fieldLink RX11 7 "ShipOfficeModel" "refusals" "[I", Cond.fieldLink RX11 13 "ShipOfficeModel" "mile" "[I", Cond.fieldLink RX11 16 "ShipOfficeModel" "name" "[I", Cond.fieldLink RX11 19 "ShipOfficeModel" "marks" "[I", Cond.fieldLink RX11 22 "ShipOfficeModel" "born" "[I", Cond.fieldLink RX11 25 "ShipOfficeModel" "asks" "[I", Cond.fieldLink RX11 28 "ShipOfficeModel" "ship" "[I", Cond.fieldLink RX11 31 "ShipOfficeModel" "opened" "[I", Cond.fieldLink RX11 34 "ShipOfficeModel" "openPort" "[I", Cond.fieldLink RX11 37 "ShipOfficeModel" "endedOn" "[I", Cond.fieldLink RX11 40 "ShipOfficeModel" "what" "[I", Cond.fieldLink RX11 43 "ShipOfficeModel" "whose" "[I", Cond.fieldLink RX11 46 "ShipOfficeModel" "day" "[I", Cond.fieldLink RX11 49 "ShipOfficeModel" "known" "[I", Cond.fieldLink RX11 52 "ShipOfficeModel" "way" "[I", Cond.fieldLink RX11 55 "ShipOfficeModel" "port" "[I", Cond.fieldLink RX11 58 "ShipOfficeModel" "textSize" "[I", Cond.fieldLink RX11 61 "ShipOfficeModel" "purpose" "[I", Cond.fieldLink RX11 64 "ShipOfficeModel" "from" "[I", Cond.fieldLink RX11 67 "ShipOfficeModel" "text" "[I"]
def wsX11_init_r2 : List Cond := [Cond.fieldLink RX11 70 "ShipOfficeModel" "man" "[I", Cond.fieldLink RX11 73 "ShipOfficeModel" "voyage" "[I", Cond.fieldLink RX11 76 "ShipOfficeModel" "wage" "[I", Cond.fieldLink RX11 79 "ShipOfficeModel" "rank" "[I", Cond.fieldLink RX11 82 "ShipOfficeModel" "paper" "[I", Cond.fieldLink RX11 85 "ShipOfficeModel" "signed" "[I", Cond.fieldLink RX11 88 "ShipOfficeModel" "offOn" "[I", Cond.fieldLink RX11 91 "ShipOfficeModel" "note" "[I", Cond.fieldLink RX11 94 "ShipOfficeModel" "given" "[I", Cond.fieldLink RX11 97 "ShipOfficeModel" "allotted" "[I", Cond.fieldLink RX11 100 "ShipOfficeModel" "fines" "[I", Cond.fieldLink RX11 103 "ShipOfficeModel" "shorts" "[I", Cond.fieldLink RX11 106 "ShipOfficeModel" "shortDays" "[I", Cond.fieldLink RX11 109 "ShipOfficeModel" "fineDay" "[I", Cond.fieldLink RX11 112 "ShipOfficeModel" "fineSum" "[I", Cond.fieldLink RX11 115 "ShipOfficeModel" "shortOn" "[I", Cond.fieldLink RX11 118 "ShipOfficeModel" "shortSum" "[I", Cond.arrayClass .boolean, Cond.fieldLink RX11 121 "ShipOfficeModel" "isRead" "[Z", Cond.fieldLink RX11 125 "ShipOfficeModel" "tape" "[I", Cond.fieldLink RX11 128 "ShipOfficeModel" "letters" "[I", Cond.fieldLink RX11 131 "ShipOfficeModel" "groups" "[I", Cond.fieldLink RX11 134 "ShipOfficeModel" "far" "[I", Cond.fieldLink RX11 137 "ShipOfficeModel" "some" "[I"]
def wsX11_init_r3 : List Cond := [Cond.fieldLink RX11 140 "ShipOfficeModel" "handRank" "[I", Cond.fieldLink RX11 143 "ShipOfficeModel" "hand" "[I", Cond.fieldLink RX11 146 "ShipOfficeModel" "best" "[I", Cond.fieldLink RX11 149 "ShipOfficeModel" "row" "[I"]
def wsX11_init : List Cond := .code yX11_init cX11_init 1 none :: ((wsX11_init_r1 ++ (wsX11_init_r2 ++ wsX11_init_r3)) ++ wsX110)
theorem il_X11_init_1 : ∀ w ∈ wsX11_init_r1, w ∈ wsX11_init := fun w h => (List.mem_cons_of_mem _ (List.mem_append_left _ (List.mem_append_left _ h)))
theorem il_X11_init_2 : ∀ w ∈ wsX11_init_r2, w ∈ wsX11_init := fun w h => (List.mem_cons_of_mem _ (List.mem_append_left _ (List.mem_append_right _ (List.mem_append_left _ h))))
theorem il_X11_init_3 : ∀ w ∈ wsX11_init_r3, w ∈ wsX11_init := fun w h => (List.mem_cons_of_mem _ (List.mem_append_left _ (List.mem_append_right _ (List.mem_append_right _ h))))
theorem iw_X11_init_1 : Cond.methodLink RX11 1 objectInit ∈ wsX11_init := (mmI il_X11_init_1 0 rfl)
theorem iw_X11_init_2 : Cond.instanceMethod objectInit ∈ wsX11_init := (mmI il_X11_init_1 1 rfl)
theorem iw_X11_init_3 : Cond.arrayClass .int ∈ wsX11_init := (mmI il_X11_init_1 3 rfl)
theorem iw_X11_init_4 : Cond.fieldLink RX11 7 "ShipOfficeModel" "refusals" "[I" ∈ wsX11_init := (mmI il_X11_init_1 4 rfl)
theorem iw_X11_init_5 : Cond.fieldLink RX11 13 "ShipOfficeModel" "mile" "[I" ∈ wsX11_init := (mmI il_X11_init_1 5 rfl)
theorem iw_X11_init_6 : Cond.fieldLink RX11 16 "ShipOfficeModel" "name" "[I" ∈ wsX11_init := (mmI il_X11_init_1 6 rfl)
theorem iw_X11_init_7 : Cond.fieldLink RX11 19 "ShipOfficeModel" "marks" "[I" ∈ wsX11_init := (mmI il_X11_init_1 7 rfl)
theorem iw_X11_init_8 : Cond.fieldLink RX11 22 "ShipOfficeModel" "born" "[I" ∈ wsX11_init := (mmI il_X11_init_1 8 rfl)
theorem iw_X11_init_9 : Cond.fieldLink RX11 25 "ShipOfficeModel" "asks" "[I" ∈ wsX11_init := (mmI il_X11_init_1 9 rfl)
theorem iw_X11_init_10 : Cond.fieldLink RX11 28 "ShipOfficeModel" "ship" "[I" ∈ wsX11_init := (mmI il_X11_init_1 10 rfl)
theorem iw_X11_init_11 : Cond.fieldLink RX11 31 "ShipOfficeModel" "opened" "[I" ∈ wsX11_init := (mmI il_X11_init_1 11 rfl)
theorem iw_X11_init_12 : Cond.fieldLink RX11 34 "ShipOfficeModel" "openPort" "[I" ∈ wsX11_init := (mmI il_X11_init_1 12 rfl)
theorem iw_X11_init_13 : Cond.fieldLink RX11 37 "ShipOfficeModel" "endedOn" "[I" ∈ wsX11_init := (mmI il_X11_init_1 13 rfl)
theorem iw_X11_init_14 : Cond.fieldLink RX11 40 "ShipOfficeModel" "what" "[I" ∈ wsX11_init := (mmI il_X11_init_1 14 rfl)
theorem iw_X11_init_15 : Cond.fieldLink RX11 43 "ShipOfficeModel" "whose" "[I" ∈ wsX11_init := (mmI il_X11_init_1 15 rfl)
theorem iw_X11_init_16 : Cond.fieldLink RX11 46 "ShipOfficeModel" "day" "[I" ∈ wsX11_init := (mmI il_X11_init_1 16 rfl)
theorem iw_X11_init_17 : Cond.fieldLink RX11 49 "ShipOfficeModel" "known" "[I" ∈ wsX11_init := (mmI il_X11_init_1 17 rfl)
theorem iw_X11_init_18 : Cond.fieldLink RX11 52 "ShipOfficeModel" "way" "[I" ∈ wsX11_init := (mmI il_X11_init_1 18 rfl)
theorem iw_X11_init_19 : Cond.fieldLink RX11 55 "ShipOfficeModel" "port" "[I" ∈ wsX11_init := (mmI il_X11_init_1 19 rfl)
theorem iw_X11_init_20 : Cond.fieldLink RX11 58 "ShipOfficeModel" "textSize" "[I" ∈ wsX11_init := (mmI il_X11_init_1 20 rfl)
theorem iw_X11_init_21 : Cond.fieldLink RX11 61 "ShipOfficeModel" "purpose" "[I" ∈ wsX11_init := (mmI il_X11_init_1 21 rfl)
theorem iw_X11_init_22 : Cond.fieldLink RX11 64 "ShipOfficeModel" "from" "[I" ∈ wsX11_init := (mmI il_X11_init_1 22 rfl)
theorem iw_X11_init_23 : Cond.fieldLink RX11 67 "ShipOfficeModel" "text" "[I" ∈ wsX11_init := (mmI il_X11_init_1 23 rfl)
theorem iw_X11_init_24 : Cond.fieldLink RX11 70 "ShipOfficeModel" "man" "[I" ∈ wsX11_init := (mmI il_X11_init_2 0 rfl)
theorem iw_X11_init_25 : Cond.fieldLink RX11 73 "ShipOfficeModel" "voyage" "[I" ∈ wsX11_init := (mmI il_X11_init_2 1 rfl)
theorem iw_X11_init_26 : Cond.fieldLink RX11 76 "ShipOfficeModel" "wage" "[I" ∈ wsX11_init := (mmI il_X11_init_2 2 rfl)
theorem iw_X11_init_27 : Cond.fieldLink RX11 79 "ShipOfficeModel" "rank" "[I" ∈ wsX11_init := (mmI il_X11_init_2 3 rfl)
theorem iw_X11_init_28 : Cond.fieldLink RX11 82 "ShipOfficeModel" "paper" "[I" ∈ wsX11_init := (mmI il_X11_init_2 4 rfl)
theorem iw_X11_init_29 : Cond.fieldLink RX11 85 "ShipOfficeModel" "signed" "[I" ∈ wsX11_init := (mmI il_X11_init_2 5 rfl)
theorem iw_X11_init_30 : Cond.fieldLink RX11 88 "ShipOfficeModel" "offOn" "[I" ∈ wsX11_init := (mmI il_X11_init_2 6 rfl)
theorem iw_X11_init_31 : Cond.fieldLink RX11 91 "ShipOfficeModel" "note" "[I" ∈ wsX11_init := (mmI il_X11_init_2 7 rfl)
theorem iw_X11_init_32 : Cond.fieldLink RX11 94 "ShipOfficeModel" "given" "[I" ∈ wsX11_init := (mmI il_X11_init_2 8 rfl)
theorem iw_X11_init_33 : Cond.fieldLink RX11 97 "ShipOfficeModel" "allotted" "[I" ∈ wsX11_init := (mmI il_X11_init_2 9 rfl)
theorem iw_X11_init_34 : Cond.fieldLink RX11 100 "ShipOfficeModel" "fines" "[I" ∈ wsX11_init := (mmI il_X11_init_2 10 rfl)
theorem iw_X11_init_35 : Cond.fieldLink RX11 103 "ShipOfficeModel" "shorts" "[I" ∈ wsX11_init := (mmI il_X11_init_2 11 rfl)
theorem iw_X11_init_36 : Cond.fieldLink RX11 106 "ShipOfficeModel" "shortDays" "[I" ∈ wsX11_init := (mmI il_X11_init_2 12 rfl)
theorem iw_X11_init_37 : Cond.fieldLink RX11 109 "ShipOfficeModel" "fineDay" "[I" ∈ wsX11_init := (mmI il_X11_init_2 13 rfl)
theorem iw_X11_init_38 : Cond.fieldLink RX11 112 "ShipOfficeModel" "fineSum" "[I" ∈ wsX11_init := (mmI il_X11_init_2 14 rfl)
theorem iw_X11_init_39 : Cond.fieldLink RX11 115 "ShipOfficeModel" "shortOn" "[I" ∈ wsX11_init := (mmI il_X11_init_2 15 rfl)
theorem iw_X11_init_40 : Cond.fieldLink RX11 118 "ShipOfficeModel" "shortSum" "[I" ∈ wsX11_init := (mmI il_X11_init_2 16 rfl)
theorem iw_X11_init_41 : Cond.arrayClass .boolean ∈ wsX11_init := (mmI il_X11_init_2 17 rfl)
theorem iw_X11_init_42 : Cond.fieldLink RX11 121 "ShipOfficeModel" "isRead" "[Z" ∈ wsX11_init := (mmI il_X11_init_2 18 rfl)
theorem iw_X11_init_43 : Cond.fieldLink RX11 125 "ShipOfficeModel" "tape" "[I" ∈ wsX11_init := (mmI il_X11_init_2 19 rfl)
theorem iw_X11_init_44 : Cond.fieldLink RX11 128 "ShipOfficeModel" "letters" "[I" ∈ wsX11_init := (mmI il_X11_init_2 20 rfl)
theorem iw_X11_init_45 : Cond.fieldLink RX11 131 "ShipOfficeModel" "groups" "[I" ∈ wsX11_init := (mmI il_X11_init_2 21 rfl)
theorem iw_X11_init_46 : Cond.fieldLink RX11 134 "ShipOfficeModel" "far" "[I" ∈ wsX11_init := (mmI il_X11_init_2 22 rfl)
theorem iw_X11_init_47 : Cond.fieldLink RX11 137 "ShipOfficeModel" "some" "[I" ∈ wsX11_init := (mmI il_X11_init_2 23 rfl)
theorem iw_X11_init_48 : Cond.fieldLink RX11 140 "ShipOfficeModel" "handRank" "[I" ∈ wsX11_init := (mmI il_X11_init_3 0 rfl)
theorem iw_X11_init_49 : Cond.fieldLink RX11 143 "ShipOfficeModel" "hand" "[I" ∈ wsX11_init := (mmI il_X11_init_3 1 rfl)
theorem iw_X11_init_50 : Cond.fieldLink RX11 146 "ShipOfficeModel" "best" "[I" ∈ wsX11_init := (mmI il_X11_init_3 2 rfl)
theorem iw_X11_init_51 : Cond.fieldLink RX11 149 "ShipOfficeModel" "row" "[I" ∈ wsX11_init := (mmI il_X11_init_3 3 rfl)
theorem dX11_init_0 : decode cX11_init 0 = .ok (.aload_n 0, 1) := by decide +kernel
theorem dX11_init_1 : decode cX11_init 1 = .ok (.invokespecial 1, 3) := by decide +kernel
theorem dX11_init_4 : decode cX11_init 4 = .ok (.aload_n 0, 1) := by decide +kernel
theorem dX11_init_5 : decode cX11_init 5 = .ok (.bipush 7, 2) := by decide +kernel
theorem dX11_init_7 : decode cX11_init 7 = .ok (.newarray .int, 2) := by decide +kernel
theorem dX11_init_9 : decode cX11_init 9 = .ok (.putfield 7, 3) := by decide +kernel
theorem dX11_init_12 : decode cX11_init 12 = .ok (.aload_n 0, 1) := by decide +kernel
theorem dX11_init_13 : decode cX11_init 13 = .ok (.bipush 100, 2) := by decide +kernel
theorem dX11_init_15 : decode cX11_init 15 = .ok (.newarray .int, 2) := by decide +kernel
theorem dX11_init_17 : decode cX11_init 17 = .ok (.putfield 13, 3) := by decide +kernel
theorem dX11_init_20 : decode cX11_init 20 = .ok (.aload_n 0, 1) := by decide +kernel
theorem dX11_init_21 : decode cX11_init 21 = .ok (.bipush 40, 2) := by decide +kernel
theorem dX11_init_23 : decode cX11_init 23 = .ok (.newarray .int, 2) := by decide +kernel
theorem dX11_init_25 : decode cX11_init 25 = .ok (.putfield 16, 3) := by decide +kernel
theorem dX11_init_28 : decode cX11_init 28 = .ok (.aload_n 0, 1) := by decide +kernel
theorem dX11_init_29 : decode cX11_init 29 = .ok (.bipush 40, 2) := by decide +kernel
theorem dX11_init_31 : decode cX11_init 31 = .ok (.newarray .int, 2) := by decide +kernel
theorem dX11_init_33 : decode cX11_init 33 = .ok (.putfield 19, 3) := by decide +kernel
theorem dX11_init_36 : decode cX11_init 36 = .ok (.aload_n 0, 1) := by decide +kernel
theorem dX11_init_37 : decode cX11_init 37 = .ok (.bipush 40, 2) := by decide +kernel
theorem dX11_init_39 : decode cX11_init 39 = .ok (.newarray .int, 2) := by decide +kernel
theorem dX11_init_41 : decode cX11_init 41 = .ok (.putfield 22, 3) := by decide +kernel
theorem dX11_init_44 : decode cX11_init 44 = .ok (.aload_n 0, 1) := by decide +kernel
theorem dX11_init_45 : decode cX11_init 45 = .ok (.sipush 160, 3) := by decide +kernel
theorem dX11_init_48 : decode cX11_init 48 = .ok (.newarray .int, 2) := by decide +kernel
theorem dX11_init_50 : decode cX11_init 50 = .ok (.putfield 25, 3) := by decide +kernel
theorem dX11_init_53 : decode cX11_init 53 = .ok (.aload_n 0, 1) := by decide +kernel
theorem dX11_init_54 : decode cX11_init 54 = .ok (.bipush 20, 2) := by decide +kernel
theorem dX11_init_56 : decode cX11_init 56 = .ok (.newarray .int, 2) := by decide +kernel
theorem dX11_init_58 : decode cX11_init 58 = .ok (.putfield 28, 3) := by decide +kernel
theorem dX11_init_61 : decode cX11_init 61 = .ok (.aload_n 0, 1) := by decide +kernel
theorem dX11_init_62 : decode cX11_init 62 = .ok (.bipush 20, 2) := by decide +kernel
theorem dX11_init_64 : decode cX11_init 64 = .ok (.newarray .int, 2) := by decide +kernel
theorem dX11_init_66 : decode cX11_init 66 = .ok (.putfield 31, 3) := by decide +kernel
theorem dX11_init_69 : decode cX11_init 69 = .ok (.aload_n 0, 1) := by decide +kernel
theorem dX11_init_70 : decode cX11_init 70 = .ok (.bipush 20, 2) := by decide +kernel
theorem dX11_init_72 : decode cX11_init 72 = .ok (.newarray .int, 2) := by decide +kernel
theorem dX11_init_74 : decode cX11_init 74 = .ok (.putfield 34, 3) := by decide +kernel
theorem dX11_init_77 : decode cX11_init 77 = .ok (.aload_n 0, 1) := by decide +kernel
theorem dX11_init_78 : decode cX11_init 78 = .ok (.bipush 20, 2) := by decide +kernel
theorem dX11_init_80 : decode cX11_init 80 = .ok (.newarray .int, 2) := by decide +kernel
theorem dX11_init_82 : decode cX11_init 82 = .ok (.putfield 37, 3) := by decide +kernel
theorem dX11_init_85 : decode cX11_init 85 = .ok (.aload_n 0, 1) := by decide +kernel
theorem dX11_init_86 : decode cX11_init 86 = .ok (.sipush 200, 3) := by decide +kernel
theorem dX11_init_89 : decode cX11_init 89 = .ok (.newarray .int, 2) := by decide +kernel
theorem dX11_init_91 : decode cX11_init 91 = .ok (.putfield 40, 3) := by decide +kernel
theorem dX11_init_94 : decode cX11_init 94 = .ok (.aload_n 0, 1) := by decide +kernel
theorem dX11_init_95 : decode cX11_init 95 = .ok (.sipush 200, 3) := by decide +kernel
theorem dX11_init_98 : decode cX11_init 98 = .ok (.newarray .int, 2) := by decide +kernel
theorem dX11_init_100 : decode cX11_init 100 = .ok (.putfield 43, 3) := by decide +kernel
theorem dX11_init_103 : decode cX11_init 103 = .ok (.aload_n 0, 1) := by decide +kernel
theorem dX11_init_104 : decode cX11_init 104 = .ok (.sipush 200, 3) := by decide +kernel
theorem dX11_init_107 : decode cX11_init 107 = .ok (.newarray .int, 2) := by decide +kernel
theorem dX11_init_109 : decode cX11_init 109 = .ok (.putfield 46, 3) := by decide +kernel
theorem dX11_init_112 : decode cX11_init 112 = .ok (.aload_n 0, 1) := by decide +kernel
theorem dX11_init_113 : decode cX11_init 113 = .ok (.sipush 200, 3) := by decide +kernel
theorem dX11_init_116 : decode cX11_init 116 = .ok (.newarray .int, 2) := by decide +kernel
theorem dX11_init_118 : decode cX11_init 118 = .ok (.putfield 49, 3) := by decide +kernel
theorem dX11_init_121 : decode cX11_init 121 = .ok (.aload_n 0, 1) := by decide +kernel
theorem dX11_init_122 : decode cX11_init 122 = .ok (.sipush 200, 3) := by decide +kernel
theorem dX11_init_125 : decode cX11_init 125 = .ok (.newarray .int, 2) := by decide +kernel
theorem dX11_init_127 : decode cX11_init 127 = .ok (.putfield 52, 3) := by decide +kernel
theorem dX11_init_130 : decode cX11_init 130 = .ok (.aload_n 0, 1) := by decide +kernel
theorem dX11_init_131 : decode cX11_init 131 = .ok (.sipush 200, 3) := by decide +kernel
theorem dX11_init_134 : decode cX11_init 134 = .ok (.newarray .int, 2) := by decide +kernel
theorem dX11_init_136 : decode cX11_init 136 = .ok (.putfield 55, 3) := by decide +kernel
theorem dX11_init_139 : decode cX11_init 139 = .ok (.aload_n 0, 1) := by decide +kernel
theorem dX11_init_140 : decode cX11_init 140 = .ok (.bipush 30, 2) := by decide +kernel
theorem dX11_init_142 : decode cX11_init 142 = .ok (.newarray .int, 2) := by decide +kernel
theorem dX11_init_144 : decode cX11_init 144 = .ok (.putfield 58, 3) := by decide +kernel
theorem dX11_init_147 : decode cX11_init 147 = .ok (.aload_n 0, 1) := by decide +kernel
theorem dX11_init_148 : decode cX11_init 148 = .ok (.bipush 30, 2) := by decide +kernel
theorem dX11_init_150 : decode cX11_init 150 = .ok (.newarray .int, 2) := by decide +kernel
theorem dX11_init_152 : decode cX11_init 152 = .ok (.putfield 61, 3) := by decide +kernel
theorem dX11_init_155 : decode cX11_init 155 = .ok (.aload_n 0, 1) := by decide +kernel
theorem dX11_init_156 : decode cX11_init 156 = .ok (.bipush 30, 2) := by decide +kernel
theorem dX11_init_158 : decode cX11_init 158 = .ok (.newarray .int, 2) := by decide +kernel
theorem dX11_init_160 : decode cX11_init 160 = .ok (.putfield 64, 3) := by decide +kernel
theorem dX11_init_163 : decode cX11_init 163 = .ok (.aload_n 0, 1) := by decide +kernel
theorem dX11_init_164 : decode cX11_init 164 = .ok (.sipush 1800, 3) := by decide +kernel
theorem dX11_init_167 : decode cX11_init 167 = .ok (.newarray .int, 2) := by decide +kernel
theorem dX11_init_169 : decode cX11_init 169 = .ok (.putfield 67, 3) := by decide +kernel
theorem dX11_init_172 : decode cX11_init 172 = .ok (.aload_n 0, 1) := by decide +kernel
theorem dX11_init_173 : decode cX11_init 173 = .ok (.bipush 60, 2) := by decide +kernel
theorem dX11_init_175 : decode cX11_init 175 = .ok (.newarray .int, 2) := by decide +kernel
theorem dX11_init_177 : decode cX11_init 177 = .ok (.putfield 70, 3) := by decide +kernel
theorem dX11_init_180 : decode cX11_init 180 = .ok (.aload_n 0, 1) := by decide +kernel
theorem dX11_init_181 : decode cX11_init 181 = .ok (.bipush 60, 2) := by decide +kernel
theorem dX11_init_183 : decode cX11_init 183 = .ok (.newarray .int, 2) := by decide +kernel
theorem dX11_init_185 : decode cX11_init 185 = .ok (.putfield 73, 3) := by decide +kernel
theorem dX11_init_188 : decode cX11_init 188 = .ok (.aload_n 0, 1) := by decide +kernel
theorem dX11_init_189 : decode cX11_init 189 = .ok (.bipush 60, 2) := by decide +kernel
theorem dX11_init_191 : decode cX11_init 191 = .ok (.newarray .int, 2) := by decide +kernel
theorem dX11_init_193 : decode cX11_init 193 = .ok (.putfield 76, 3) := by decide +kernel
theorem dX11_init_196 : decode cX11_init 196 = .ok (.aload_n 0, 1) := by decide +kernel
theorem dX11_init_197 : decode cX11_init 197 = .ok (.bipush 60, 2) := by decide +kernel
theorem dX11_init_199 : decode cX11_init 199 = .ok (.newarray .int, 2) := by decide +kernel
theorem dX11_init_201 : decode cX11_init 201 = .ok (.putfield 79, 3) := by decide +kernel
theorem dX11_init_204 : decode cX11_init 204 = .ok (.aload_n 0, 1) := by decide +kernel
theorem dX11_init_205 : decode cX11_init 205 = .ok (.bipush 60, 2) := by decide +kernel
theorem dX11_init_207 : decode cX11_init 207 = .ok (.newarray .int, 2) := by decide +kernel
theorem dX11_init_209 : decode cX11_init 209 = .ok (.putfield 82, 3) := by decide +kernel
theorem dX11_init_212 : decode cX11_init 212 = .ok (.aload_n 0, 1) := by decide +kernel
theorem dX11_init_213 : decode cX11_init 213 = .ok (.bipush 60, 2) := by decide +kernel
theorem dX11_init_215 : decode cX11_init 215 = .ok (.newarray .int, 2) := by decide +kernel
theorem dX11_init_217 : decode cX11_init 217 = .ok (.putfield 85, 3) := by decide +kernel
theorem dX11_init_220 : decode cX11_init 220 = .ok (.aload_n 0, 1) := by decide +kernel
theorem dX11_init_221 : decode cX11_init 221 = .ok (.bipush 60, 2) := by decide +kernel
theorem dX11_init_223 : decode cX11_init 223 = .ok (.newarray .int, 2) := by decide +kernel
theorem dX11_init_225 : decode cX11_init 225 = .ok (.putfield 88, 3) := by decide +kernel
theorem dX11_init_228 : decode cX11_init 228 = .ok (.aload_n 0, 1) := by decide +kernel
theorem dX11_init_229 : decode cX11_init 229 = .ok (.bipush 60, 2) := by decide +kernel
theorem dX11_init_231 : decode cX11_init 231 = .ok (.newarray .int, 2) := by decide +kernel
theorem dX11_init_233 : decode cX11_init 233 = .ok (.putfield 91, 3) := by decide +kernel
theorem dX11_init_236 : decode cX11_init 236 = .ok (.aload_n 0, 1) := by decide +kernel
theorem dX11_init_237 : decode cX11_init 237 = .ok (.bipush 60, 2) := by decide +kernel
theorem dX11_init_239 : decode cX11_init 239 = .ok (.newarray .int, 2) := by decide +kernel
theorem dX11_init_241 : decode cX11_init 241 = .ok (.putfield 94, 3) := by decide +kernel
theorem dX11_init_244 : decode cX11_init 244 = .ok (.aload_n 0, 1) := by decide +kernel
theorem dX11_init_245 : decode cX11_init 245 = .ok (.bipush 60, 2) := by decide +kernel
theorem dX11_init_247 : decode cX11_init 247 = .ok (.newarray .int, 2) := by decide +kernel
theorem dX11_init_249 : decode cX11_init 249 = .ok (.putfield 97, 3) := by decide +kernel
theorem dX11_init_252 : decode cX11_init 252 = .ok (.aload_n 0, 1) := by decide +kernel
theorem dX11_init_253 : decode cX11_init 253 = .ok (.bipush 60, 2) := by decide +kernel
theorem dX11_init_255 : decode cX11_init 255 = .ok (.newarray .int, 2) := by decide +kernel
theorem dX11_init_257 : decode cX11_init 257 = .ok (.putfield 100, 3) := by decide +kernel
theorem dX11_init_260 : decode cX11_init 260 = .ok (.aload_n 0, 1) := by decide +kernel
theorem dX11_init_261 : decode cX11_init 261 = .ok (.bipush 60, 2) := by decide +kernel
theorem dX11_init_263 : decode cX11_init 263 = .ok (.newarray .int, 2) := by decide +kernel
theorem dX11_init_265 : decode cX11_init 265 = .ok (.putfield 103, 3) := by decide +kernel
theorem dX11_init_268 : decode cX11_init 268 = .ok (.aload_n 0, 1) := by decide +kernel
theorem dX11_init_269 : decode cX11_init 269 = .ok (.bipush 60, 2) := by decide +kernel
theorem dX11_init_271 : decode cX11_init 271 = .ok (.newarray .int, 2) := by decide +kernel
theorem dX11_init_273 : decode cX11_init 273 = .ok (.putfield 106, 3) := by decide +kernel
theorem dX11_init_276 : decode cX11_init 276 = .ok (.aload_n 0, 1) := by decide +kernel
theorem dX11_init_277 : decode cX11_init 277 = .ok (.sipush 360, 3) := by decide +kernel
theorem dX11_init_280 : decode cX11_init 280 = .ok (.newarray .int, 2) := by decide +kernel
theorem dX11_init_282 : decode cX11_init 282 = .ok (.putfield 109, 3) := by decide +kernel
theorem dX11_init_285 : decode cX11_init 285 = .ok (.aload_n 0, 1) := by decide +kernel
theorem dX11_init_286 : decode cX11_init 286 = .ok (.sipush 360, 3) := by decide +kernel
theorem dX11_init_289 : decode cX11_init 289 = .ok (.newarray .int, 2) := by decide +kernel
theorem dX11_init_291 : decode cX11_init 291 = .ok (.putfield 112, 3) := by decide +kernel
theorem dX11_init_294 : decode cX11_init 294 = .ok (.aload_n 0, 1) := by decide +kernel
theorem dX11_init_295 : decode cX11_init 295 = .ok (.sipush 1200, 3) := by decide +kernel
theorem dX11_init_298 : decode cX11_init 298 = .ok (.newarray .int, 2) := by decide +kernel
theorem dX11_init_300 : decode cX11_init 300 = .ok (.putfield 115, 3) := by decide +kernel
theorem dX11_init_303 : decode cX11_init 303 = .ok (.aload_n 0, 1) := by decide +kernel
theorem dX11_init_304 : decode cX11_init 304 = .ok (.sipush 1200, 3) := by decide +kernel
theorem dX11_init_307 : decode cX11_init 307 = .ok (.newarray .int, 2) := by decide +kernel
theorem dX11_init_309 : decode cX11_init 309 = .ok (.putfield 118, 3) := by decide +kernel
theorem dX11_init_312 : decode cX11_init 312 = .ok (.aload_n 0, 1) := by decide +kernel
theorem dX11_init_313 : decode cX11_init 313 = .ok (.sipush 360, 3) := by decide +kernel
theorem dX11_init_316 : decode cX11_init 316 = .ok (.newarray .boolean, 2) := by decide +kernel
theorem dX11_init_318 : decode cX11_init 318 = .ok (.putfield 121, 3) := by decide +kernel
theorem dX11_init_321 : decode cX11_init 321 = .ok (.aload_n 0, 1) := by decide +kernel
theorem dX11_init_322 : decode cX11_init 322 = .ok (.bipush 60, 2) := by decide +kernel
theorem dX11_init_324 : decode cX11_init 324 = .ok (.newarray .int, 2) := by decide +kernel
theorem dX11_init_326 : decode cX11_init 326 = .ok (.putfield 125, 3) := by decide +kernel
theorem dX11_init_329 : decode cX11_init 329 = .ok (.aload_n 0, 1) := by decide +kernel
theorem dX11_init_330 : decode cX11_init 330 = .ok (.sipush 128, 3) := by decide +kernel
theorem dX11_init_333 : decode cX11_init 333 = .ok (.newarray .int, 2) := by decide +kernel
theorem dX11_init_335 : decode cX11_init 335 = .ok (.putfield 128, 3) := by decide +kernel
theorem dX11_init_338 : decode cX11_init 338 = .ok (.aload_n 0, 1) := by decide +kernel
theorem dX11_init_339 : decode cX11_init 339 = .ok (.bipush 40, 2) := by decide +kernel
theorem dX11_init_341 : decode cX11_init 341 = .ok (.newarray .int, 2) := by decide +kernel
theorem dX11_init_343 : decode cX11_init 343 = .ok (.putfield 131, 3) := by decide +kernel
theorem dX11_init_346 : decode cX11_init 346 = .ok (.aload_n 0, 1) := by decide +kernel
theorem dX11_init_347 : decode cX11_init 347 = .ok (.bipush 10, 2) := by decide +kernel
theorem dX11_init_349 : decode cX11_init 349 = .ok (.newarray .int, 2) := by decide +kernel
theorem dX11_init_351 : decode cX11_init 351 = .ok (.putfield 134, 3) := by decide +kernel
theorem dX11_init_354 : decode cX11_init 354 = .ok (.aload_n 0, 1) := by decide +kernel
theorem dX11_init_355 : decode cX11_init 355 = .ok (.bipush 12, 2) := by decide +kernel
theorem dX11_init_357 : decode cX11_init 357 = .ok (.newarray .int, 2) := by decide +kernel
theorem dX11_init_359 : decode cX11_init 359 = .ok (.putfield 137, 3) := by decide +kernel
theorem dX11_init_362 : decode cX11_init 362 = .ok (.aload_n 0, 1) := by decide +kernel
theorem dX11_init_363 : decode cX11_init 363 = .ok (.bipush 8, 2) := by decide +kernel
theorem dX11_init_365 : decode cX11_init 365 = .ok (.newarray .int, 2) := by decide +kernel
theorem dX11_init_367 : decode cX11_init 367 = .ok (.putfield 140, 3) := by decide +kernel
theorem dX11_init_370 : decode cX11_init 370 = .ok (.aload_n 0, 1) := by decide +kernel
theorem dX11_init_371 : decode cX11_init 371 = .ok (.bipush 8, 2) := by decide +kernel
theorem dX11_init_373 : decode cX11_init 373 = .ok (.newarray .int, 2) := by decide +kernel
theorem dX11_init_375 : decode cX11_init 375 = .ok (.putfield 143, 3) := by decide +kernel
theorem dX11_init_378 : decode cX11_init 378 = .ok (.aload_n 0, 1) := by decide +kernel
theorem dX11_init_379 : decode cX11_init 379 = .ok (.bipush 8, 2) := by decide +kernel
theorem dX11_init_381 : decode cX11_init 381 = .ok (.newarray .int, 2) := by decide +kernel
theorem dX11_init_383 : decode cX11_init 383 = .ok (.putfield 146, 3) := by decide +kernel
theorem dX11_init_386 : decode cX11_init 386 = .ok (.aload_n 0, 1) := by decide +kernel
theorem dX11_init_387 : decode cX11_init 387 = .ok (.bipush 12, 2) := by decide +kernel
theorem dX11_init_389 : decode cX11_init 389 = .ok (.newarray .int, 2) := by decide +kernel
theorem dX11_init_391 : decode cX11_init 391 = .ok (.putfield 149, 3) := by decide +kernel
theorem dX11_init_394 : decode cX11_init 394 = .ok (.return_, 1) := by decide +kernel
theorem in_wsX11_init_X11 : ∀ w ∈ wsX110, w ∈ wsX11_init := fun w h => List.mem_cons_of_mem _ (List.mem_append_right _ h)
theorem in_obj_wsX11_init : Cond.code objectInit ⟨#[0xb1]⟩ 1 none ∈ wsX11_init := List.mem_of_getElem? (i := 3) rfl

set_option maxHeartbeats 4000000 in
set_option maxRecDepth 100000 in
theorem mi_f (q_3 q_7 q_11 q_15 q_19 q_23 q_27 q_31 q_35 q_39 q_43 q_47 q_51 q_55 q_59 q_63 q_67 q_71 q_75 q_79 q_83 q_87 q_91 q_95 q_99 q_103 q_107 q_111 q_115 q_119 q_123 q_127 q_131 q_135 q_139 q_143 q_147 q_151 q_155 q_159 q_163 q_167 q_171 q_175 q_179 q_183 q_187 : Nat) (kI kZ : ClassId) (f_1 f_6 f_10 f_14 f_18 f_22 f_26 f_30 f_34 f_38 f_42 f_46 f_50 f_54 f_58 f_62 f_66 f_70 f_74 f_78 f_82 f_86 f_90 f_94 f_98 f_102 f_106 f_110 f_114 f_118 f_122 f_126 f_130 f_134 f_138 f_142 f_146 f_150 f_154 f_158 f_162 f_166 f_170 f_174 f_178 f_182 f_186 f_190 : List Value) (ef_1 : f_1 = [.null, .null, .null, .null, .null, .null, .null, .null, .null, .null, .null, .null, .null, .null, .null, .null, .null, .null, .null, .null, .null, .null, .null, .null, .null, .null, .null, .null, .null, .null, .null, .null, .null, .null, .null, .null, .null, .null, .int 0, .int 0, .int 0, .int 0, .int 0, .int 0, .null, .null, .int 0, .int 0, .int 0, .int 0, .int 0, .int 0, .null, .null, .null, .null, .null, .null, .int 0, .int 0, .int 0, .null, .int 0]) (ef_6 : f_6 = f_1.set 0 (.ref q_3)) (ef_10 : f_10 = f_6.set 1 (.ref q_7)) (ef_14 : f_14 = f_10.set 2 (.ref q_11)) (ef_18 : f_18 = f_14.set 3 (.ref q_15)) (ef_22 : f_22 = f_18.set 4 (.ref q_19)) (ef_26 : f_26 = f_22.set 5 (.ref q_23)) (ef_30 : f_30 = f_26.set 6 (.ref q_27)) (ef_34 : f_34 = f_30.set 7 (.ref q_31)) (ef_38 : f_38 = f_34.set 8 (.ref q_35)) (ef_42 : f_42 = f_38.set 9 (.ref q_39)) (ef_46 : f_46 = f_42.set 10 (.ref q_43)) (ef_50 : f_50 = f_46.set 11 (.ref q_47)) (ef_54 : f_54 = f_50.set 12 (.ref q_51)) (ef_58 : f_58 = f_54.set 13 (.ref q_55)) (ef_62 : f_62 = f_58.set 14 (.ref q_59)) (ef_66 : f_66 = f_62.set 15 (.ref q_63)) (ef_70 : f_70 = f_66.set 16 (.ref q_67)) (ef_74 : f_74 = f_70.set 17 (.ref q_71)) (ef_78 : f_78 = f_74.set 18 (.ref q_75)) (ef_82 : f_82 = f_78.set 19 (.ref q_79)) (ef_86 : f_86 = f_82.set 20 (.ref q_83)) (ef_90 : f_90 = f_86.set 21 (.ref q_87)) (ef_94 : f_94 = f_90.set 22 (.ref q_91)) (ef_98 : f_98 = f_94.set 23 (.ref q_95)) (ef_102 : f_102 = f_98.set 24 (.ref q_99)) (ef_106 : f_106 = f_102.set 25 (.ref q_103)) (ef_110 : f_110 = f_106.set 26 (.ref q_107)) (ef_114 : f_114 = f_110.set 27 (.ref q_111)) (ef_118 : f_118 = f_114.set 28 (.ref q_115)) (ef_122 : f_122 = f_118.set 29 (.ref q_119)) (ef_126 : f_126 = f_122.set 30 (.ref q_123)) (ef_130 : f_130 = f_126.set 31 (.ref q_127)) (ef_134 : f_134 = f_130.set 32 (.ref q_131)) (ef_138 : f_138 = f_134.set 33 (.ref q_135)) (ef_142 : f_142 = f_138.set 34 (.ref q_139)) (ef_146 : f_146 = f_142.set 35 (.ref q_143)) (ef_150 : f_150 = f_146.set 36 (.ref q_147)) (ef_154 : f_154 = f_150.set 37 (.ref q_151)) (ef_158 : f_158 = f_154.set 44 (.ref q_155)) (ef_162 : f_162 = f_158.set 45 (.ref q_159)) (ef_166 : f_166 = f_162.set 52 (.ref q_163)) (ef_170 : f_170 = f_166.set 53 (.ref q_167)) (ef_174 : f_174 = f_170.set 54 (.ref q_171)) (ef_178 : f_178 = f_174.set 55 (.ref q_175)) (ef_182 : f_182 = f_178.set 56 (.ref q_179)) (ef_186 : f_186 = f_182.set 57 (.ref q_183)) (ef_190 : f_190 = f_186.set 61 (.ref q_187)) : f_190 = [.ref q_3, .ref q_7, .ref q_11, .ref q_15, .ref q_19, .ref q_23, .ref q_27, .ref q_31, .ref q_35, .ref q_39, .ref q_43, .ref q_47, .ref q_51, .ref q_55, .ref q_59, .ref q_63, .ref q_67, .ref q_71, .ref q_75, .ref q_79, .ref q_83, .ref q_87, .ref q_91, .ref q_95, .ref q_99, .ref q_103, .ref q_107, .ref q_111, .ref q_115, .ref q_119, .ref q_123, .ref q_127, .ref q_131, .ref q_135, .ref q_139, .ref q_143, .ref q_147, .ref q_151, .int 0, .int 0, .int 0, .int 0, .int 0, .int 0, .ref q_155, .ref q_159, .int 0, .int 0, .int 0, .int 0, .int 0, .int 0, .ref q_163, .ref q_167, .ref q_171, .ref q_175, .ref q_179, .ref q_183, .int 0, .int 0, .int 0, .ref q_187, .int 0] := by
  have gf_6 : f_6 = [.ref q_3, .null, .null, .null, .null, .null, .null, .null, .null, .null, .null, .null, .null, .null, .null, .null, .null, .null, .null, .null, .null, .null, .null, .null, .null, .null, .null, .null, .null, .null, .null, .null, .null, .null, .null, .null, .null, .null, .int 0, .int 0, .int 0, .int 0, .int 0, .int 0, .null, .null, .int 0, .int 0, .int 0, .int 0, .int 0, .int 0, .null, .null, .null, .null, .null, .null, .int 0, .int 0, .int 0, .null, .int 0] := by rw [ef_6, ef_1] <;> rfl
  have gf_10 : f_10 = [.ref q_3, .ref q_7, .null, .null, .null, .null, .null, .null, .null, .null, .null, .null, .null, .null, .null, .null, .null, .null, .null, .null, .null, .null, .null, .null, .null, .null, .null, .null, .null, .null, .null, .null, .null, .null, .null, .null, .null, .null, .int 0, .int 0, .int 0, .int 0, .int 0, .int 0, .null, .null, .int 0, .int 0, .int 0, .int 0, .int 0, .int 0, .null, .null, .null, .null, .null, .null, .int 0, .int 0, .int 0, .null, .int 0] := by rw [ef_10, gf_6] <;> rfl
  have gf_14 : f_14 = [.ref q_3, .ref q_7, .ref q_11, .null, .null, .null, .null, .null, .null, .null, .null, .null, .null, .null, .null, .null, .null, .null, .null, .null, .null, .null, .null, .null, .null, .null, .null, .null, .null, .null, .null, .null, .null, .null, .null, .null, .null, .null, .int 0, .int 0, .int 0, .int 0, .int 0, .int 0, .null, .null, .int 0, .int 0, .int 0, .int 0, .int 0, .int 0, .null, .null, .null, .null, .null, .null, .int 0, .int 0, .int 0, .null, .int 0] := by rw [ef_14, gf_10] <;> rfl
  have gf_18 : f_18 = [.ref q_3, .ref q_7, .ref q_11, .ref q_15, .null, .null, .null, .null, .null, .null, .null, .null, .null, .null, .null, .null, .null, .null, .null, .null, .null, .null, .null, .null, .null, .null, .null, .null, .null, .null, .null, .null, .null, .null, .null, .null, .null, .null, .int 0, .int 0, .int 0, .int 0, .int 0, .int 0, .null, .null, .int 0, .int 0, .int 0, .int 0, .int 0, .int 0, .null, .null, .null, .null, .null, .null, .int 0, .int 0, .int 0, .null, .int 0] := by rw [ef_18, gf_14] <;> rfl
  have gf_22 : f_22 = [.ref q_3, .ref q_7, .ref q_11, .ref q_15, .ref q_19, .null, .null, .null, .null, .null, .null, .null, .null, .null, .null, .null, .null, .null, .null, .null, .null, .null, .null, .null, .null, .null, .null, .null, .null, .null, .null, .null, .null, .null, .null, .null, .null, .null, .int 0, .int 0, .int 0, .int 0, .int 0, .int 0, .null, .null, .int 0, .int 0, .int 0, .int 0, .int 0, .int 0, .null, .null, .null, .null, .null, .null, .int 0, .int 0, .int 0, .null, .int 0] := by rw [ef_22, gf_18] <;> rfl
  have gf_26 : f_26 = [.ref q_3, .ref q_7, .ref q_11, .ref q_15, .ref q_19, .ref q_23, .null, .null, .null, .null, .null, .null, .null, .null, .null, .null, .null, .null, .null, .null, .null, .null, .null, .null, .null, .null, .null, .null, .null, .null, .null, .null, .null, .null, .null, .null, .null, .null, .int 0, .int 0, .int 0, .int 0, .int 0, .int 0, .null, .null, .int 0, .int 0, .int 0, .int 0, .int 0, .int 0, .null, .null, .null, .null, .null, .null, .int 0, .int 0, .int 0, .null, .int 0] := by rw [ef_26, gf_22] <;> rfl
  have gf_30 : f_30 = [.ref q_3, .ref q_7, .ref q_11, .ref q_15, .ref q_19, .ref q_23, .ref q_27, .null, .null, .null, .null, .null, .null, .null, .null, .null, .null, .null, .null, .null, .null, .null, .null, .null, .null, .null, .null, .null, .null, .null, .null, .null, .null, .null, .null, .null, .null, .null, .int 0, .int 0, .int 0, .int 0, .int 0, .int 0, .null, .null, .int 0, .int 0, .int 0, .int 0, .int 0, .int 0, .null, .null, .null, .null, .null, .null, .int 0, .int 0, .int 0, .null, .int 0] := by rw [ef_30, gf_26] <;> rfl
  have gf_34 : f_34 = [.ref q_3, .ref q_7, .ref q_11, .ref q_15, .ref q_19, .ref q_23, .ref q_27, .ref q_31, .null, .null, .null, .null, .null, .null, .null, .null, .null, .null, .null, .null, .null, .null, .null, .null, .null, .null, .null, .null, .null, .null, .null, .null, .null, .null, .null, .null, .null, .null, .int 0, .int 0, .int 0, .int 0, .int 0, .int 0, .null, .null, .int 0, .int 0, .int 0, .int 0, .int 0, .int 0, .null, .null, .null, .null, .null, .null, .int 0, .int 0, .int 0, .null, .int 0] := by rw [ef_34, gf_30] <;> rfl
  have gf_38 : f_38 = [.ref q_3, .ref q_7, .ref q_11, .ref q_15, .ref q_19, .ref q_23, .ref q_27, .ref q_31, .ref q_35, .null, .null, .null, .null, .null, .null, .null, .null, .null, .null, .null, .null, .null, .null, .null, .null, .null, .null, .null, .null, .null, .null, .null, .null, .null, .null, .null, .null, .null, .int 0, .int 0, .int 0, .int 0, .int 0, .int 0, .null, .null, .int 0, .int 0, .int 0, .int 0, .int 0, .int 0, .null, .null, .null, .null, .null, .null, .int 0, .int 0, .int 0, .null, .int 0] := by rw [ef_38, gf_34] <;> rfl
  have gf_42 : f_42 = [.ref q_3, .ref q_7, .ref q_11, .ref q_15, .ref q_19, .ref q_23, .ref q_27, .ref q_31, .ref q_35, .ref q_39, .null, .null, .null, .null, .null, .null, .null, .null, .null, .null, .null, .null, .null, .null, .null, .null, .null, .null, .null, .null, .null, .null, .null, .null, .null, .null, .null, .null, .int 0, .int 0, .int 0, .int 0, .int 0, .int 0, .null, .null, .int 0, .int 0, .int 0, .int 0, .int 0, .int 0, .null, .null, .null, .null, .null, .null, .int 0, .int 0, .int 0, .null, .int 0] := by rw [ef_42, gf_38] <;> rfl
  have gf_46 : f_46 = [.ref q_3, .ref q_7, .ref q_11, .ref q_15, .ref q_19, .ref q_23, .ref q_27, .ref q_31, .ref q_35, .ref q_39, .ref q_43, .null, .null, .null, .null, .null, .null, .null, .null, .null, .null, .null, .null, .null, .null, .null, .null, .null, .null, .null, .null, .null, .null, .null, .null, .null, .null, .null, .int 0, .int 0, .int 0, .int 0, .int 0, .int 0, .null, .null, .int 0, .int 0, .int 0, .int 0, .int 0, .int 0, .null, .null, .null, .null, .null, .null, .int 0, .int 0, .int 0, .null, .int 0] := by rw [ef_46, gf_42] <;> rfl
  have gf_50 : f_50 = [.ref q_3, .ref q_7, .ref q_11, .ref q_15, .ref q_19, .ref q_23, .ref q_27, .ref q_31, .ref q_35, .ref q_39, .ref q_43, .ref q_47, .null, .null, .null, .null, .null, .null, .null, .null, .null, .null, .null, .null, .null, .null, .null, .null, .null, .null, .null, .null, .null, .null, .null, .null, .null, .null, .int 0, .int 0, .int 0, .int 0, .int 0, .int 0, .null, .null, .int 0, .int 0, .int 0, .int 0, .int 0, .int 0, .null, .null, .null, .null, .null, .null, .int 0, .int 0, .int 0, .null, .int 0] := by rw [ef_50, gf_46] <;> rfl
  have gf_54 : f_54 = [.ref q_3, .ref q_7, .ref q_11, .ref q_15, .ref q_19, .ref q_23, .ref q_27, .ref q_31, .ref q_35, .ref q_39, .ref q_43, .ref q_47, .ref q_51, .null, .null, .null, .null, .null, .null, .null, .null, .null, .null, .null, .null, .null, .null, .null, .null, .null, .null, .null, .null, .null, .null, .null, .null, .null, .int 0, .int 0, .int 0, .int 0, .int 0, .int 0, .null, .null, .int 0, .int 0, .int 0, .int 0, .int 0, .int 0, .null, .null, .null, .null, .null, .null, .int 0, .int 0, .int 0, .null, .int 0] := by rw [ef_54, gf_50] <;> rfl
  have gf_58 : f_58 = [.ref q_3, .ref q_7, .ref q_11, .ref q_15, .ref q_19, .ref q_23, .ref q_27, .ref q_31, .ref q_35, .ref q_39, .ref q_43, .ref q_47, .ref q_51, .ref q_55, .null, .null, .null, .null, .null, .null, .null, .null, .null, .null, .null, .null, .null, .null, .null, .null, .null, .null, .null, .null, .null, .null, .null, .null, .int 0, .int 0, .int 0, .int 0, .int 0, .int 0, .null, .null, .int 0, .int 0, .int 0, .int 0, .int 0, .int 0, .null, .null, .null, .null, .null, .null, .int 0, .int 0, .int 0, .null, .int 0] := by rw [ef_58, gf_54] <;> rfl
  have gf_62 : f_62 = [.ref q_3, .ref q_7, .ref q_11, .ref q_15, .ref q_19, .ref q_23, .ref q_27, .ref q_31, .ref q_35, .ref q_39, .ref q_43, .ref q_47, .ref q_51, .ref q_55, .ref q_59, .null, .null, .null, .null, .null, .null, .null, .null, .null, .null, .null, .null, .null, .null, .null, .null, .null, .null, .null, .null, .null, .null, .null, .int 0, .int 0, .int 0, .int 0, .int 0, .int 0, .null, .null, .int 0, .int 0, .int 0, .int 0, .int 0, .int 0, .null, .null, .null, .null, .null, .null, .int 0, .int 0, .int 0, .null, .int 0] := by rw [ef_62, gf_58] <;> rfl
  have gf_66 : f_66 = [.ref q_3, .ref q_7, .ref q_11, .ref q_15, .ref q_19, .ref q_23, .ref q_27, .ref q_31, .ref q_35, .ref q_39, .ref q_43, .ref q_47, .ref q_51, .ref q_55, .ref q_59, .ref q_63, .null, .null, .null, .null, .null, .null, .null, .null, .null, .null, .null, .null, .null, .null, .null, .null, .null, .null, .null, .null, .null, .null, .int 0, .int 0, .int 0, .int 0, .int 0, .int 0, .null, .null, .int 0, .int 0, .int 0, .int 0, .int 0, .int 0, .null, .null, .null, .null, .null, .null, .int 0, .int 0, .int 0, .null, .int 0] := by rw [ef_66, gf_62] <;> rfl
  have gf_70 : f_70 = [.ref q_3, .ref q_7, .ref q_11, .ref q_15, .ref q_19, .ref q_23, .ref q_27, .ref q_31, .ref q_35, .ref q_39, .ref q_43, .ref q_47, .ref q_51, .ref q_55, .ref q_59, .ref q_63, .ref q_67, .null, .null, .null, .null, .null, .null, .null, .null, .null, .null, .null, .null, .null, .null, .null, .null, .null, .null, .null, .null, .null, .int 0, .int 0, .int 0, .int 0, .int 0, .int 0, .null, .null, .int 0, .int 0, .int 0, .int 0, .int 0, .int 0, .null, .null, .null, .null, .null, .null, .int 0, .int 0, .int 0, .null, .int 0] := by rw [ef_70, gf_66] <;> rfl
  have gf_74 : f_74 = [.ref q_3, .ref q_7, .ref q_11, .ref q_15, .ref q_19, .ref q_23, .ref q_27, .ref q_31, .ref q_35, .ref q_39, .ref q_43, .ref q_47, .ref q_51, .ref q_55, .ref q_59, .ref q_63, .ref q_67, .ref q_71, .null, .null, .null, .null, .null, .null, .null, .null, .null, .null, .null, .null, .null, .null, .null, .null, .null, .null, .null, .null, .int 0, .int 0, .int 0, .int 0, .int 0, .int 0, .null, .null, .int 0, .int 0, .int 0, .int 0, .int 0, .int 0, .null, .null, .null, .null, .null, .null, .int 0, .int 0, .int 0, .null, .int 0] := by rw [ef_74, gf_70] <;> rfl
  have gf_78 : f_78 = [.ref q_3, .ref q_7, .ref q_11, .ref q_15, .ref q_19, .ref q_23, .ref q_27, .ref q_31, .ref q_35, .ref q_39, .ref q_43, .ref q_47, .ref q_51, .ref q_55, .ref q_59, .ref q_63, .ref q_67, .ref q_71, .ref q_75, .null, .null, .null, .null, .null, .null, .null, .null, .null, .null, .null, .null, .null, .null, .null, .null, .null, .null, .null, .int 0, .int 0, .int 0, .int 0, .int 0, .int 0, .null, .null, .int 0, .int 0, .int 0, .int 0, .int 0, .int 0, .null, .null, .null, .null, .null, .null, .int 0, .int 0, .int 0, .null, .int 0] := by rw [ef_78, gf_74] <;> rfl
  have gf_82 : f_82 = [.ref q_3, .ref q_7, .ref q_11, .ref q_15, .ref q_19, .ref q_23, .ref q_27, .ref q_31, .ref q_35, .ref q_39, .ref q_43, .ref q_47, .ref q_51, .ref q_55, .ref q_59, .ref q_63, .ref q_67, .ref q_71, .ref q_75, .ref q_79, .null, .null, .null, .null, .null, .null, .null, .null, .null, .null, .null, .null, .null, .null, .null, .null, .null, .null, .int 0, .int 0, .int 0, .int 0, .int 0, .int 0, .null, .null, .int 0, .int 0, .int 0, .int 0, .int 0, .int 0, .null, .null, .null, .null, .null, .null, .int 0, .int 0, .int 0, .null, .int 0] := by rw [ef_82, gf_78] <;> rfl
  have gf_86 : f_86 = [.ref q_3, .ref q_7, .ref q_11, .ref q_15, .ref q_19, .ref q_23, .ref q_27, .ref q_31, .ref q_35, .ref q_39, .ref q_43, .ref q_47, .ref q_51, .ref q_55, .ref q_59, .ref q_63, .ref q_67, .ref q_71, .ref q_75, .ref q_79, .ref q_83, .null, .null, .null, .null, .null, .null, .null, .null, .null, .null, .null, .null, .null, .null, .null, .null, .null, .int 0, .int 0, .int 0, .int 0, .int 0, .int 0, .null, .null, .int 0, .int 0, .int 0, .int 0, .int 0, .int 0, .null, .null, .null, .null, .null, .null, .int 0, .int 0, .int 0, .null, .int 0] := by rw [ef_86, gf_82] <;> rfl
  have gf_90 : f_90 = [.ref q_3, .ref q_7, .ref q_11, .ref q_15, .ref q_19, .ref q_23, .ref q_27, .ref q_31, .ref q_35, .ref q_39, .ref q_43, .ref q_47, .ref q_51, .ref q_55, .ref q_59, .ref q_63, .ref q_67, .ref q_71, .ref q_75, .ref q_79, .ref q_83, .ref q_87, .null, .null, .null, .null, .null, .null, .null, .null, .null, .null, .null, .null, .null, .null, .null, .null, .int 0, .int 0, .int 0, .int 0, .int 0, .int 0, .null, .null, .int 0, .int 0, .int 0, .int 0, .int 0, .int 0, .null, .null, .null, .null, .null, .null, .int 0, .int 0, .int 0, .null, .int 0] := by rw [ef_90, gf_86] <;> rfl
  have gf_94 : f_94 = [.ref q_3, .ref q_7, .ref q_11, .ref q_15, .ref q_19, .ref q_23, .ref q_27, .ref q_31, .ref q_35, .ref q_39, .ref q_43, .ref q_47, .ref q_51, .ref q_55, .ref q_59, .ref q_63, .ref q_67, .ref q_71, .ref q_75, .ref q_79, .ref q_83, .ref q_87, .ref q_91, .null, .null, .null, .null, .null, .null, .null, .null, .null, .null, .null, .null, .null, .null, .null, .int 0, .int 0, .int 0, .int 0, .int 0, .int 0, .null, .null, .int 0, .int 0, .int 0, .int 0, .int 0, .int 0, .null, .null, .null, .null, .null, .null, .int 0, .int 0, .int 0, .null, .int 0] := by rw [ef_94, gf_90] <;> rfl
  have gf_98 : f_98 = [.ref q_3, .ref q_7, .ref q_11, .ref q_15, .ref q_19, .ref q_23, .ref q_27, .ref q_31, .ref q_35, .ref q_39, .ref q_43, .ref q_47, .ref q_51, .ref q_55, .ref q_59, .ref q_63, .ref q_67, .ref q_71, .ref q_75, .ref q_79, .ref q_83, .ref q_87, .ref q_91, .ref q_95, .null, .null, .null, .null, .null, .null, .null, .null, .null, .null, .null, .null, .null, .null, .int 0, .int 0, .int 0, .int 0, .int 0, .int 0, .null, .null, .int 0, .int 0, .int 0, .int 0, .int 0, .int 0, .null, .null, .null, .null, .null, .null, .int 0, .int 0, .int 0, .null, .int 0] := by rw [ef_98, gf_94] <;> rfl
  have gf_102 : f_102 = [.ref q_3, .ref q_7, .ref q_11, .ref q_15, .ref q_19, .ref q_23, .ref q_27, .ref q_31, .ref q_35, .ref q_39, .ref q_43, .ref q_47, .ref q_51, .ref q_55, .ref q_59, .ref q_63, .ref q_67, .ref q_71, .ref q_75, .ref q_79, .ref q_83, .ref q_87, .ref q_91, .ref q_95, .ref q_99, .null, .null, .null, .null, .null, .null, .null, .null, .null, .null, .null, .null, .null, .int 0, .int 0, .int 0, .int 0, .int 0, .int 0, .null, .null, .int 0, .int 0, .int 0, .int 0, .int 0, .int 0, .null, .null, .null, .null, .null, .null, .int 0, .int 0, .int 0, .null, .int 0] := by rw [ef_102, gf_98] <;> rfl
  have gf_106 : f_106 = [.ref q_3, .ref q_7, .ref q_11, .ref q_15, .ref q_19, .ref q_23, .ref q_27, .ref q_31, .ref q_35, .ref q_39, .ref q_43, .ref q_47, .ref q_51, .ref q_55, .ref q_59, .ref q_63, .ref q_67, .ref q_71, .ref q_75, .ref q_79, .ref q_83, .ref q_87, .ref q_91, .ref q_95, .ref q_99, .ref q_103, .null, .null, .null, .null, .null, .null, .null, .null, .null, .null, .null, .null, .int 0, .int 0, .int 0, .int 0, .int 0, .int 0, .null, .null, .int 0, .int 0, .int 0, .int 0, .int 0, .int 0, .null, .null, .null, .null, .null, .null, .int 0, .int 0, .int 0, .null, .int 0] := by rw [ef_106, gf_102] <;> rfl
  have gf_110 : f_110 = [.ref q_3, .ref q_7, .ref q_11, .ref q_15, .ref q_19, .ref q_23, .ref q_27, .ref q_31, .ref q_35, .ref q_39, .ref q_43, .ref q_47, .ref q_51, .ref q_55, .ref q_59, .ref q_63, .ref q_67, .ref q_71, .ref q_75, .ref q_79, .ref q_83, .ref q_87, .ref q_91, .ref q_95, .ref q_99, .ref q_103, .ref q_107, .null, .null, .null, .null, .null, .null, .null, .null, .null, .null, .null, .int 0, .int 0, .int 0, .int 0, .int 0, .int 0, .null, .null, .int 0, .int 0, .int 0, .int 0, .int 0, .int 0, .null, .null, .null, .null, .null, .null, .int 0, .int 0, .int 0, .null, .int 0] := by rw [ef_110, gf_106] <;> rfl
  have gf_114 : f_114 = [.ref q_3, .ref q_7, .ref q_11, .ref q_15, .ref q_19, .ref q_23, .ref q_27, .ref q_31, .ref q_35, .ref q_39, .ref q_43, .ref q_47, .ref q_51, .ref q_55, .ref q_59, .ref q_63, .ref q_67, .ref q_71, .ref q_75, .ref q_79, .ref q_83, .ref q_87, .ref q_91, .ref q_95, .ref q_99, .ref q_103, .ref q_107, .ref q_111, .null, .null, .null, .null, .null, .null, .null, .null, .null, .null, .int 0, .int 0, .int 0, .int 0, .int 0, .int 0, .null, .null, .int 0, .int 0, .int 0, .int 0, .int 0, .int 0, .null, .null, .null, .null, .null, .null, .int 0, .int 0, .int 0, .null, .int 0] := by rw [ef_114, gf_110] <;> rfl
  have gf_118 : f_118 = [.ref q_3, .ref q_7, .ref q_11, .ref q_15, .ref q_19, .ref q_23, .ref q_27, .ref q_31, .ref q_35, .ref q_39, .ref q_43, .ref q_47, .ref q_51, .ref q_55, .ref q_59, .ref q_63, .ref q_67, .ref q_71, .ref q_75, .ref q_79, .ref q_83, .ref q_87, .ref q_91, .ref q_95, .ref q_99, .ref q_103, .ref q_107, .ref q_111, .ref q_115, .null, .null, .null, .null, .null, .null, .null, .null, .null, .int 0, .int 0, .int 0, .int 0, .int 0, .int 0, .null, .null, .int 0, .int 0, .int 0, .int 0, .int 0, .int 0, .null, .null, .null, .null, .null, .null, .int 0, .int 0, .int 0, .null, .int 0] := by rw [ef_118, gf_114] <;> rfl
  have gf_122 : f_122 = [.ref q_3, .ref q_7, .ref q_11, .ref q_15, .ref q_19, .ref q_23, .ref q_27, .ref q_31, .ref q_35, .ref q_39, .ref q_43, .ref q_47, .ref q_51, .ref q_55, .ref q_59, .ref q_63, .ref q_67, .ref q_71, .ref q_75, .ref q_79, .ref q_83, .ref q_87, .ref q_91, .ref q_95, .ref q_99, .ref q_103, .ref q_107, .ref q_111, .ref q_115, .ref q_119, .null, .null, .null, .null, .null, .null, .null, .null, .int 0, .int 0, .int 0, .int 0, .int 0, .int 0, .null, .null, .int 0, .int 0, .int 0, .int 0, .int 0, .int 0, .null, .null, .null, .null, .null, .null, .int 0, .int 0, .int 0, .null, .int 0] := by rw [ef_122, gf_118] <;> rfl
  have gf_126 : f_126 = [.ref q_3, .ref q_7, .ref q_11, .ref q_15, .ref q_19, .ref q_23, .ref q_27, .ref q_31, .ref q_35, .ref q_39, .ref q_43, .ref q_47, .ref q_51, .ref q_55, .ref q_59, .ref q_63, .ref q_67, .ref q_71, .ref q_75, .ref q_79, .ref q_83, .ref q_87, .ref q_91, .ref q_95, .ref q_99, .ref q_103, .ref q_107, .ref q_111, .ref q_115, .ref q_119, .ref q_123, .null, .null, .null, .null, .null, .null, .null, .int 0, .int 0, .int 0, .int 0, .int 0, .int 0, .null, .null, .int 0, .int 0, .int 0, .int 0, .int 0, .int 0, .null, .null, .null, .null, .null, .null, .int 0, .int 0, .int 0, .null, .int 0] := by rw [ef_126, gf_122] <;> rfl
  have gf_130 : f_130 = [.ref q_3, .ref q_7, .ref q_11, .ref q_15, .ref q_19, .ref q_23, .ref q_27, .ref q_31, .ref q_35, .ref q_39, .ref q_43, .ref q_47, .ref q_51, .ref q_55, .ref q_59, .ref q_63, .ref q_67, .ref q_71, .ref q_75, .ref q_79, .ref q_83, .ref q_87, .ref q_91, .ref q_95, .ref q_99, .ref q_103, .ref q_107, .ref q_111, .ref q_115, .ref q_119, .ref q_123, .ref q_127, .null, .null, .null, .null, .null, .null, .int 0, .int 0, .int 0, .int 0, .int 0, .int 0, .null, .null, .int 0, .int 0, .int 0, .int 0, .int 0, .int 0, .null, .null, .null, .null, .null, .null, .int 0, .int 0, .int 0, .null, .int 0] := by rw [ef_130, gf_126] <;> rfl
  have gf_134 : f_134 = [.ref q_3, .ref q_7, .ref q_11, .ref q_15, .ref q_19, .ref q_23, .ref q_27, .ref q_31, .ref q_35, .ref q_39, .ref q_43, .ref q_47, .ref q_51, .ref q_55, .ref q_59, .ref q_63, .ref q_67, .ref q_71, .ref q_75, .ref q_79, .ref q_83, .ref q_87, .ref q_91, .ref q_95, .ref q_99, .ref q_103, .ref q_107, .ref q_111, .ref q_115, .ref q_119, .ref q_123, .ref q_127, .ref q_131, .null, .null, .null, .null, .null, .int 0, .int 0, .int 0, .int 0, .int 0, .int 0, .null, .null, .int 0, .int 0, .int 0, .int 0, .int 0, .int 0, .null, .null, .null, .null, .null, .null, .int 0, .int 0, .int 0, .null, .int 0] := by rw [ef_134, gf_130] <;> rfl
  have gf_138 : f_138 = [.ref q_3, .ref q_7, .ref q_11, .ref q_15, .ref q_19, .ref q_23, .ref q_27, .ref q_31, .ref q_35, .ref q_39, .ref q_43, .ref q_47, .ref q_51, .ref q_55, .ref q_59, .ref q_63, .ref q_67, .ref q_71, .ref q_75, .ref q_79, .ref q_83, .ref q_87, .ref q_91, .ref q_95, .ref q_99, .ref q_103, .ref q_107, .ref q_111, .ref q_115, .ref q_119, .ref q_123, .ref q_127, .ref q_131, .ref q_135, .null, .null, .null, .null, .int 0, .int 0, .int 0, .int 0, .int 0, .int 0, .null, .null, .int 0, .int 0, .int 0, .int 0, .int 0, .int 0, .null, .null, .null, .null, .null, .null, .int 0, .int 0, .int 0, .null, .int 0] := by rw [ef_138, gf_134] <;> rfl
  have gf_142 : f_142 = [.ref q_3, .ref q_7, .ref q_11, .ref q_15, .ref q_19, .ref q_23, .ref q_27, .ref q_31, .ref q_35, .ref q_39, .ref q_43, .ref q_47, .ref q_51, .ref q_55, .ref q_59, .ref q_63, .ref q_67, .ref q_71, .ref q_75, .ref q_79, .ref q_83, .ref q_87, .ref q_91, .ref q_95, .ref q_99, .ref q_103, .ref q_107, .ref q_111, .ref q_115, .ref q_119, .ref q_123, .ref q_127, .ref q_131, .ref q_135, .ref q_139, .null, .null, .null, .int 0, .int 0, .int 0, .int 0, .int 0, .int 0, .null, .null, .int 0, .int 0, .int 0, .int 0, .int 0, .int 0, .null, .null, .null, .null, .null, .null, .int 0, .int 0, .int 0, .null, .int 0] := by rw [ef_142, gf_138] <;> rfl
  have gf_146 : f_146 = [.ref q_3, .ref q_7, .ref q_11, .ref q_15, .ref q_19, .ref q_23, .ref q_27, .ref q_31, .ref q_35, .ref q_39, .ref q_43, .ref q_47, .ref q_51, .ref q_55, .ref q_59, .ref q_63, .ref q_67, .ref q_71, .ref q_75, .ref q_79, .ref q_83, .ref q_87, .ref q_91, .ref q_95, .ref q_99, .ref q_103, .ref q_107, .ref q_111, .ref q_115, .ref q_119, .ref q_123, .ref q_127, .ref q_131, .ref q_135, .ref q_139, .ref q_143, .null, .null, .int 0, .int 0, .int 0, .int 0, .int 0, .int 0, .null, .null, .int 0, .int 0, .int 0, .int 0, .int 0, .int 0, .null, .null, .null, .null, .null, .null, .int 0, .int 0, .int 0, .null, .int 0] := by rw [ef_146, gf_142] <;> rfl
  have gf_150 : f_150 = [.ref q_3, .ref q_7, .ref q_11, .ref q_15, .ref q_19, .ref q_23, .ref q_27, .ref q_31, .ref q_35, .ref q_39, .ref q_43, .ref q_47, .ref q_51, .ref q_55, .ref q_59, .ref q_63, .ref q_67, .ref q_71, .ref q_75, .ref q_79, .ref q_83, .ref q_87, .ref q_91, .ref q_95, .ref q_99, .ref q_103, .ref q_107, .ref q_111, .ref q_115, .ref q_119, .ref q_123, .ref q_127, .ref q_131, .ref q_135, .ref q_139, .ref q_143, .ref q_147, .null, .int 0, .int 0, .int 0, .int 0, .int 0, .int 0, .null, .null, .int 0, .int 0, .int 0, .int 0, .int 0, .int 0, .null, .null, .null, .null, .null, .null, .int 0, .int 0, .int 0, .null, .int 0] := by rw [ef_150, gf_146] <;> rfl
  have gf_154 : f_154 = [.ref q_3, .ref q_7, .ref q_11, .ref q_15, .ref q_19, .ref q_23, .ref q_27, .ref q_31, .ref q_35, .ref q_39, .ref q_43, .ref q_47, .ref q_51, .ref q_55, .ref q_59, .ref q_63, .ref q_67, .ref q_71, .ref q_75, .ref q_79, .ref q_83, .ref q_87, .ref q_91, .ref q_95, .ref q_99, .ref q_103, .ref q_107, .ref q_111, .ref q_115, .ref q_119, .ref q_123, .ref q_127, .ref q_131, .ref q_135, .ref q_139, .ref q_143, .ref q_147, .ref q_151, .int 0, .int 0, .int 0, .int 0, .int 0, .int 0, .null, .null, .int 0, .int 0, .int 0, .int 0, .int 0, .int 0, .null, .null, .null, .null, .null, .null, .int 0, .int 0, .int 0, .null, .int 0] := by rw [ef_154, gf_150] <;> rfl
  have gf_158 : f_158 = [.ref q_3, .ref q_7, .ref q_11, .ref q_15, .ref q_19, .ref q_23, .ref q_27, .ref q_31, .ref q_35, .ref q_39, .ref q_43, .ref q_47, .ref q_51, .ref q_55, .ref q_59, .ref q_63, .ref q_67, .ref q_71, .ref q_75, .ref q_79, .ref q_83, .ref q_87, .ref q_91, .ref q_95, .ref q_99, .ref q_103, .ref q_107, .ref q_111, .ref q_115, .ref q_119, .ref q_123, .ref q_127, .ref q_131, .ref q_135, .ref q_139, .ref q_143, .ref q_147, .ref q_151, .int 0, .int 0, .int 0, .int 0, .int 0, .int 0, .ref q_155, .null, .int 0, .int 0, .int 0, .int 0, .int 0, .int 0, .null, .null, .null, .null, .null, .null, .int 0, .int 0, .int 0, .null, .int 0] := by rw [ef_158, gf_154] <;> rfl
  have gf_162 : f_162 = [.ref q_3, .ref q_7, .ref q_11, .ref q_15, .ref q_19, .ref q_23, .ref q_27, .ref q_31, .ref q_35, .ref q_39, .ref q_43, .ref q_47, .ref q_51, .ref q_55, .ref q_59, .ref q_63, .ref q_67, .ref q_71, .ref q_75, .ref q_79, .ref q_83, .ref q_87, .ref q_91, .ref q_95, .ref q_99, .ref q_103, .ref q_107, .ref q_111, .ref q_115, .ref q_119, .ref q_123, .ref q_127, .ref q_131, .ref q_135, .ref q_139, .ref q_143, .ref q_147, .ref q_151, .int 0, .int 0, .int 0, .int 0, .int 0, .int 0, .ref q_155, .ref q_159, .int 0, .int 0, .int 0, .int 0, .int 0, .int 0, .null, .null, .null, .null, .null, .null, .int 0, .int 0, .int 0, .null, .int 0] := by rw [ef_162, gf_158] <;> rfl
  have gf_166 : f_166 = [.ref q_3, .ref q_7, .ref q_11, .ref q_15, .ref q_19, .ref q_23, .ref q_27, .ref q_31, .ref q_35, .ref q_39, .ref q_43, .ref q_47, .ref q_51, .ref q_55, .ref q_59, .ref q_63, .ref q_67, .ref q_71, .ref q_75, .ref q_79, .ref q_83, .ref q_87, .ref q_91, .ref q_95, .ref q_99, .ref q_103, .ref q_107, .ref q_111, .ref q_115, .ref q_119, .ref q_123, .ref q_127, .ref q_131, .ref q_135, .ref q_139, .ref q_143, .ref q_147, .ref q_151, .int 0, .int 0, .int 0, .int 0, .int 0, .int 0, .ref q_155, .ref q_159, .int 0, .int 0, .int 0, .int 0, .int 0, .int 0, .ref q_163, .null, .null, .null, .null, .null, .int 0, .int 0, .int 0, .null, .int 0] := by rw [ef_166, gf_162] <;> rfl
  have gf_170 : f_170 = [.ref q_3, .ref q_7, .ref q_11, .ref q_15, .ref q_19, .ref q_23, .ref q_27, .ref q_31, .ref q_35, .ref q_39, .ref q_43, .ref q_47, .ref q_51, .ref q_55, .ref q_59, .ref q_63, .ref q_67, .ref q_71, .ref q_75, .ref q_79, .ref q_83, .ref q_87, .ref q_91, .ref q_95, .ref q_99, .ref q_103, .ref q_107, .ref q_111, .ref q_115, .ref q_119, .ref q_123, .ref q_127, .ref q_131, .ref q_135, .ref q_139, .ref q_143, .ref q_147, .ref q_151, .int 0, .int 0, .int 0, .int 0, .int 0, .int 0, .ref q_155, .ref q_159, .int 0, .int 0, .int 0, .int 0, .int 0, .int 0, .ref q_163, .ref q_167, .null, .null, .null, .null, .int 0, .int 0, .int 0, .null, .int 0] := by rw [ef_170, gf_166] <;> rfl
  have gf_174 : f_174 = [.ref q_3, .ref q_7, .ref q_11, .ref q_15, .ref q_19, .ref q_23, .ref q_27, .ref q_31, .ref q_35, .ref q_39, .ref q_43, .ref q_47, .ref q_51, .ref q_55, .ref q_59, .ref q_63, .ref q_67, .ref q_71, .ref q_75, .ref q_79, .ref q_83, .ref q_87, .ref q_91, .ref q_95, .ref q_99, .ref q_103, .ref q_107, .ref q_111, .ref q_115, .ref q_119, .ref q_123, .ref q_127, .ref q_131, .ref q_135, .ref q_139, .ref q_143, .ref q_147, .ref q_151, .int 0, .int 0, .int 0, .int 0, .int 0, .int 0, .ref q_155, .ref q_159, .int 0, .int 0, .int 0, .int 0, .int 0, .int 0, .ref q_163, .ref q_167, .ref q_171, .null, .null, .null, .int 0, .int 0, .int 0, .null, .int 0] := by rw [ef_174, gf_170] <;> rfl
  have gf_178 : f_178 = [.ref q_3, .ref q_7, .ref q_11, .ref q_15, .ref q_19, .ref q_23, .ref q_27, .ref q_31, .ref q_35, .ref q_39, .ref q_43, .ref q_47, .ref q_51, .ref q_55, .ref q_59, .ref q_63, .ref q_67, .ref q_71, .ref q_75, .ref q_79, .ref q_83, .ref q_87, .ref q_91, .ref q_95, .ref q_99, .ref q_103, .ref q_107, .ref q_111, .ref q_115, .ref q_119, .ref q_123, .ref q_127, .ref q_131, .ref q_135, .ref q_139, .ref q_143, .ref q_147, .ref q_151, .int 0, .int 0, .int 0, .int 0, .int 0, .int 0, .ref q_155, .ref q_159, .int 0, .int 0, .int 0, .int 0, .int 0, .int 0, .ref q_163, .ref q_167, .ref q_171, .ref q_175, .null, .null, .int 0, .int 0, .int 0, .null, .int 0] := by rw [ef_178, gf_174] <;> rfl
  have gf_182 : f_182 = [.ref q_3, .ref q_7, .ref q_11, .ref q_15, .ref q_19, .ref q_23, .ref q_27, .ref q_31, .ref q_35, .ref q_39, .ref q_43, .ref q_47, .ref q_51, .ref q_55, .ref q_59, .ref q_63, .ref q_67, .ref q_71, .ref q_75, .ref q_79, .ref q_83, .ref q_87, .ref q_91, .ref q_95, .ref q_99, .ref q_103, .ref q_107, .ref q_111, .ref q_115, .ref q_119, .ref q_123, .ref q_127, .ref q_131, .ref q_135, .ref q_139, .ref q_143, .ref q_147, .ref q_151, .int 0, .int 0, .int 0, .int 0, .int 0, .int 0, .ref q_155, .ref q_159, .int 0, .int 0, .int 0, .int 0, .int 0, .int 0, .ref q_163, .ref q_167, .ref q_171, .ref q_175, .ref q_179, .null, .int 0, .int 0, .int 0, .null, .int 0] := by rw [ef_182, gf_178] <;> rfl
  have gf_186 : f_186 = [.ref q_3, .ref q_7, .ref q_11, .ref q_15, .ref q_19, .ref q_23, .ref q_27, .ref q_31, .ref q_35, .ref q_39, .ref q_43, .ref q_47, .ref q_51, .ref q_55, .ref q_59, .ref q_63, .ref q_67, .ref q_71, .ref q_75, .ref q_79, .ref q_83, .ref q_87, .ref q_91, .ref q_95, .ref q_99, .ref q_103, .ref q_107, .ref q_111, .ref q_115, .ref q_119, .ref q_123, .ref q_127, .ref q_131, .ref q_135, .ref q_139, .ref q_143, .ref q_147, .ref q_151, .int 0, .int 0, .int 0, .int 0, .int 0, .int 0, .ref q_155, .ref q_159, .int 0, .int 0, .int 0, .int 0, .int 0, .int 0, .ref q_163, .ref q_167, .ref q_171, .ref q_175, .ref q_179, .ref q_183, .int 0, .int 0, .int 0, .null, .int 0] := by rw [ef_186, gf_182] <;> rfl
  have gf_190 : f_190 = [.ref q_3, .ref q_7, .ref q_11, .ref q_15, .ref q_19, .ref q_23, .ref q_27, .ref q_31, .ref q_35, .ref q_39, .ref q_43, .ref q_47, .ref q_51, .ref q_55, .ref q_59, .ref q_63, .ref q_67, .ref q_71, .ref q_75, .ref q_79, .ref q_83, .ref q_87, .ref q_91, .ref q_95, .ref q_99, .ref q_103, .ref q_107, .ref q_111, .ref q_115, .ref q_119, .ref q_123, .ref q_127, .ref q_131, .ref q_135, .ref q_139, .ref q_143, .ref q_147, .ref q_151, .int 0, .int 0, .int 0, .int 0, .int 0, .int 0, .ref q_155, .ref q_159, .int 0, .int 0, .int 0, .int 0, .int 0, .int 0, .ref q_163, .ref q_167, .ref q_171, .ref q_175, .ref q_179, .ref q_183, .int 0, .int 0, .int 0, .ref q_187, .int 0] := by rw [ef_190, gf_186] <;> rfl
  exact gf_190
set_option maxHeartbeats 4000000 in
set_option maxRecDepth 100000 in
theorem mi_w (q_3 q_7 q_11 q_15 q_19 q_23 q_27 q_31 q_35 q_39 q_43 q_47 q_51 q_55 q_59 q_63 q_67 q_71 q_75 q_79 q_83 q_87 q_91 q_95 q_99 q_103 q_107 q_111 q_115 q_119 q_123 q_127 q_131 q_135 q_139 q_143 q_147 q_151 q_155 q_159 q_163 q_167 q_171 q_175 q_179 q_183 q_187 : Nat) (kI kZ : ClassId) (w_2 w_5 w_9 w_13 w_17 w_21 w_25 w_29 w_33 w_37 w_41 w_45 w_49 w_53 w_57 w_61 w_65 w_69 w_73 w_77 w_81 w_85 w_89 w_93 w_97 w_101 w_105 w_109 w_113 w_117 w_121 w_125 w_129 w_133 w_137 w_141 w_145 w_149 w_153 w_157 w_161 w_165 w_169 w_173 w_177 w_181 w_185 w_189 : va_W) (ew_2 : w_2 = []) (ew_5 : w_5 = w_2 ++ [(q_3, .inl (kI, 7, .inl (fun _ => 0)))]) (ew_9 : w_9 = w_5 ++ [(q_7, .inl (kI, 100, .inl (fun _ => 0)))]) (ew_13 : w_13 = w_9 ++ [(q_11, .inl (kI, 40, .inl (fun _ => 0)))]) (ew_17 : w_17 = w_13 ++ [(q_15, .inl (kI, 40, .inl (fun _ => 0)))]) (ew_21 : w_21 = w_17 ++ [(q_19, .inl (kI, 40, .inl (fun _ => 0)))]) (ew_25 : w_25 = w_21 ++ [(q_23, .inl (kI, 160, .inl (fun _ => 0)))]) (ew_29 : w_29 = w_25 ++ [(q_27, .inl (kI, 20, .inl (fun _ => 0)))]) (ew_33 : w_33 = w_29 ++ [(q_31, .inl (kI, 20, .inl (fun _ => 0)))]) (ew_37 : w_37 = w_33 ++ [(q_35, .inl (kI, 20, .inl (fun _ => 0)))]) (ew_41 : w_41 = w_37 ++ [(q_39, .inl (kI, 20, .inl (fun _ => 0)))]) (ew_45 : w_45 = w_41 ++ [(q_43, .inl (kI, 200, .inl (fun _ => 0)))]) (ew_49 : w_49 = w_45 ++ [(q_47, .inl (kI, 200, .inl (fun _ => 0)))]) (ew_53 : w_53 = w_49 ++ [(q_51, .inl (kI, 200, .inl (fun _ => 0)))]) (ew_57 : w_57 = w_53 ++ [(q_55, .inl (kI, 200, .inl (fun _ => 0)))]) (ew_61 : w_61 = w_57 ++ [(q_59, .inl (kI, 200, .inl (fun _ => 0)))]) (ew_65 : w_65 = w_61 ++ [(q_63, .inl (kI, 200, .inl (fun _ => 0)))]) (ew_69 : w_69 = w_65 ++ [(q_67, .inl (kI, 30, .inl (fun _ => 0)))]) (ew_73 : w_73 = w_69 ++ [(q_71, .inl (kI, 30, .inl (fun _ => 0)))]) (ew_77 : w_77 = w_73 ++ [(q_75, .inl (kI, 30, .inl (fun _ => 0)))]) (ew_81 : w_81 = w_77 ++ [(q_79, .inl (kI, 1800, .inl (fun _ => 0)))]) (ew_85 : w_85 = w_81 ++ [(q_83, .inl (kI, 60, .inl (fun _ => 0)))]) (ew_89 : w_89 = w_85 ++ [(q_87, .inl (kI, 60, .inl (fun _ => 0)))]) (ew_93 : w_93 = w_89 ++ [(q_91, .inl (kI, 60, .inl (fun _ => 0)))]) (ew_97 : w_97 = w_93 ++ [(q_95, .inl (kI, 60, .inl (fun _ => 0)))]) (ew_101 : w_101 = w_97 ++ [(q_99, .inl (kI, 60, .inl (fun _ => 0)))]) (ew_105 : w_105 = w_101 ++ [(q_103, .inl (kI, 60, .inl (fun _ => 0)))]) (ew_109 : w_109 = w_105 ++ [(q_107, .inl (kI, 60, .inl (fun _ => 0)))]) (ew_113 : w_113 = w_109 ++ [(q_111, .inl (kI, 60, .inl (fun _ => 0)))]) (ew_117 : w_117 = w_113 ++ [(q_115, .inl (kI, 60, .inl (fun _ => 0)))]) (ew_121 : w_121 = w_117 ++ [(q_119, .inl (kI, 60, .inl (fun _ => 0)))]) (ew_125 : w_125 = w_121 ++ [(q_123, .inl (kI, 60, .inl (fun _ => 0)))]) (ew_129 : w_129 = w_125 ++ [(q_127, .inl (kI, 60, .inl (fun _ => 0)))]) (ew_133 : w_133 = w_129 ++ [(q_131, .inl (kI, 60, .inl (fun _ => 0)))]) (ew_137 : w_137 = w_133 ++ [(q_135, .inl (kI, 360, .inl (fun _ => 0)))]) (ew_141 : w_141 = w_137 ++ [(q_139, .inl (kI, 360, .inl (fun _ => 0)))]) (ew_145 : w_145 = w_141 ++ [(q_143, .inl (kI, 1200, .inl (fun _ => 0)))]) (ew_149 : w_149 = w_145 ++ [(q_147, .inl (kI, 1200, .inl (fun _ => 0)))]) (ew_153 : w_153 = w_149 ++ [(q_151, .inl (kZ, 360, .inl (fun _ => 0)))]) (ew_157 : w_157 = w_153 ++ [(q_155, .inl (kI, 60, .inl (fun _ => 0)))]) (ew_161 : w_161 = w_157 ++ [(q_159, .inl (kI, 128, .inl (fun _ => 0)))]) (ew_165 : w_165 = w_161 ++ [(q_163, .inl (kI, 40, .inl (fun _ => 0)))]) (ew_169 : w_169 = w_165 ++ [(q_167, .inl (kI, 10, .inl (fun _ => 0)))]) (ew_173 : w_173 = w_169 ++ [(q_171, .inl (kI, 12, .inl (fun _ => 0)))]) (ew_177 : w_177 = w_173 ++ [(q_175, .inl (kI, 8, .inl (fun _ => 0)))]) (ew_181 : w_181 = w_177 ++ [(q_179, .inl (kI, 8, .inl (fun _ => 0)))]) (ew_185 : w_185 = w_181 ++ [(q_183, .inl (kI, 8, .inl (fun _ => 0)))]) (ew_189 : w_189 = w_185 ++ [(q_187, .inl (kI, 12, .inl (fun _ => 0)))]) : w_189 = [(q_3, .inl (kI, 7, .inl (fun _ => 0))), (q_7, .inl (kI, 100, .inl (fun _ => 0))), (q_11, .inl (kI, 40, .inl (fun _ => 0))), (q_15, .inl (kI, 40, .inl (fun _ => 0))), (q_19, .inl (kI, 40, .inl (fun _ => 0))), (q_23, .inl (kI, 160, .inl (fun _ => 0))), (q_27, .inl (kI, 20, .inl (fun _ => 0))), (q_31, .inl (kI, 20, .inl (fun _ => 0))), (q_35, .inl (kI, 20, .inl (fun _ => 0))), (q_39, .inl (kI, 20, .inl (fun _ => 0))), (q_43, .inl (kI, 200, .inl (fun _ => 0))), (q_47, .inl (kI, 200, .inl (fun _ => 0))), (q_51, .inl (kI, 200, .inl (fun _ => 0))), (q_55, .inl (kI, 200, .inl (fun _ => 0))), (q_59, .inl (kI, 200, .inl (fun _ => 0))), (q_63, .inl (kI, 200, .inl (fun _ => 0))), (q_67, .inl (kI, 30, .inl (fun _ => 0))), (q_71, .inl (kI, 30, .inl (fun _ => 0))), (q_75, .inl (kI, 30, .inl (fun _ => 0))), (q_79, .inl (kI, 1800, .inl (fun _ => 0))), (q_83, .inl (kI, 60, .inl (fun _ => 0))), (q_87, .inl (kI, 60, .inl (fun _ => 0))), (q_91, .inl (kI, 60, .inl (fun _ => 0))), (q_95, .inl (kI, 60, .inl (fun _ => 0))), (q_99, .inl (kI, 60, .inl (fun _ => 0))), (q_103, .inl (kI, 60, .inl (fun _ => 0))), (q_107, .inl (kI, 60, .inl (fun _ => 0))), (q_111, .inl (kI, 60, .inl (fun _ => 0))), (q_115, .inl (kI, 60, .inl (fun _ => 0))), (q_119, .inl (kI, 60, .inl (fun _ => 0))), (q_123, .inl (kI, 60, .inl (fun _ => 0))), (q_127, .inl (kI, 60, .inl (fun _ => 0))), (q_131, .inl (kI, 60, .inl (fun _ => 0))), (q_135, .inl (kI, 360, .inl (fun _ => 0))), (q_139, .inl (kI, 360, .inl (fun _ => 0))), (q_143, .inl (kI, 1200, .inl (fun _ => 0))), (q_147, .inl (kI, 1200, .inl (fun _ => 0))), (q_151, .inl (kZ, 360, .inl (fun _ => 0))), (q_155, .inl (kI, 60, .inl (fun _ => 0))), (q_159, .inl (kI, 128, .inl (fun _ => 0))), (q_163, .inl (kI, 40, .inl (fun _ => 0))), (q_167, .inl (kI, 10, .inl (fun _ => 0))), (q_171, .inl (kI, 12, .inl (fun _ => 0))), (q_175, .inl (kI, 8, .inl (fun _ => 0))), (q_179, .inl (kI, 8, .inl (fun _ => 0))), (q_183, .inl (kI, 8, .inl (fun _ => 0))), (q_187, .inl (kI, 12, .inl (fun _ => 0)))] := by
  have gw_5 : w_5 = [(q_3, .inl (kI, 7, .inl (fun _ => 0)))] := by rw [ew_5, ew_2] <;> rfl
  have gw_9 : w_9 = [(q_3, .inl (kI, 7, .inl (fun _ => 0))), (q_7, .inl (kI, 100, .inl (fun _ => 0)))] := by rw [ew_9, gw_5] <;> rfl
  have gw_13 : w_13 = [(q_3, .inl (kI, 7, .inl (fun _ => 0))), (q_7, .inl (kI, 100, .inl (fun _ => 0))), (q_11, .inl (kI, 40, .inl (fun _ => 0)))] := by rw [ew_13, gw_9] <;> rfl
  have gw_17 : w_17 = [(q_3, .inl (kI, 7, .inl (fun _ => 0))), (q_7, .inl (kI, 100, .inl (fun _ => 0))), (q_11, .inl (kI, 40, .inl (fun _ => 0))), (q_15, .inl (kI, 40, .inl (fun _ => 0)))] := by rw [ew_17, gw_13] <;> rfl
  have gw_21 : w_21 = [(q_3, .inl (kI, 7, .inl (fun _ => 0))), (q_7, .inl (kI, 100, .inl (fun _ => 0))), (q_11, .inl (kI, 40, .inl (fun _ => 0))), (q_15, .inl (kI, 40, .inl (fun _ => 0))), (q_19, .inl (kI, 40, .inl (fun _ => 0)))] := by rw [ew_21, gw_17] <;> rfl
  have gw_25 : w_25 = [(q_3, .inl (kI, 7, .inl (fun _ => 0))), (q_7, .inl (kI, 100, .inl (fun _ => 0))), (q_11, .inl (kI, 40, .inl (fun _ => 0))), (q_15, .inl (kI, 40, .inl (fun _ => 0))), (q_19, .inl (kI, 40, .inl (fun _ => 0))), (q_23, .inl (kI, 160, .inl (fun _ => 0)))] := by rw [ew_25, gw_21] <;> rfl
  have gw_29 : w_29 = [(q_3, .inl (kI, 7, .inl (fun _ => 0))), (q_7, .inl (kI, 100, .inl (fun _ => 0))), (q_11, .inl (kI, 40, .inl (fun _ => 0))), (q_15, .inl (kI, 40, .inl (fun _ => 0))), (q_19, .inl (kI, 40, .inl (fun _ => 0))), (q_23, .inl (kI, 160, .inl (fun _ => 0))), (q_27, .inl (kI, 20, .inl (fun _ => 0)))] := by rw [ew_29, gw_25] <;> rfl
  have gw_33 : w_33 = [(q_3, .inl (kI, 7, .inl (fun _ => 0))), (q_7, .inl (kI, 100, .inl (fun _ => 0))), (q_11, .inl (kI, 40, .inl (fun _ => 0))), (q_15, .inl (kI, 40, .inl (fun _ => 0))), (q_19, .inl (kI, 40, .inl (fun _ => 0))), (q_23, .inl (kI, 160, .inl (fun _ => 0))), (q_27, .inl (kI, 20, .inl (fun _ => 0))), (q_31, .inl (kI, 20, .inl (fun _ => 0)))] := by rw [ew_33, gw_29] <;> rfl
  have gw_37 : w_37 = [(q_3, .inl (kI, 7, .inl (fun _ => 0))), (q_7, .inl (kI, 100, .inl (fun _ => 0))), (q_11, .inl (kI, 40, .inl (fun _ => 0))), (q_15, .inl (kI, 40, .inl (fun _ => 0))), (q_19, .inl (kI, 40, .inl (fun _ => 0))), (q_23, .inl (kI, 160, .inl (fun _ => 0))), (q_27, .inl (kI, 20, .inl (fun _ => 0))), (q_31, .inl (kI, 20, .inl (fun _ => 0))), (q_35, .inl (kI, 20, .inl (fun _ => 0)))] := by rw [ew_37, gw_33] <;> rfl
  have gw_41 : w_41 = [(q_3, .inl (kI, 7, .inl (fun _ => 0))), (q_7, .inl (kI, 100, .inl (fun _ => 0))), (q_11, .inl (kI, 40, .inl (fun _ => 0))), (q_15, .inl (kI, 40, .inl (fun _ => 0))), (q_19, .inl (kI, 40, .inl (fun _ => 0))), (q_23, .inl (kI, 160, .inl (fun _ => 0))), (q_27, .inl (kI, 20, .inl (fun _ => 0))), (q_31, .inl (kI, 20, .inl (fun _ => 0))), (q_35, .inl (kI, 20, .inl (fun _ => 0))), (q_39, .inl (kI, 20, .inl (fun _ => 0)))] := by rw [ew_41, gw_37] <;> rfl
  have gw_45 : w_45 = [(q_3, .inl (kI, 7, .inl (fun _ => 0))), (q_7, .inl (kI, 100, .inl (fun _ => 0))), (q_11, .inl (kI, 40, .inl (fun _ => 0))), (q_15, .inl (kI, 40, .inl (fun _ => 0))), (q_19, .inl (kI, 40, .inl (fun _ => 0))), (q_23, .inl (kI, 160, .inl (fun _ => 0))), (q_27, .inl (kI, 20, .inl (fun _ => 0))), (q_31, .inl (kI, 20, .inl (fun _ => 0))), (q_35, .inl (kI, 20, .inl (fun _ => 0))), (q_39, .inl (kI, 20, .inl (fun _ => 0))), (q_43, .inl (kI, 200, .inl (fun _ => 0)))] := by rw [ew_45, gw_41] <;> rfl
  have gw_49 : w_49 = [(q_3, .inl (kI, 7, .inl (fun _ => 0))), (q_7, .inl (kI, 100, .inl (fun _ => 0))), (q_11, .inl (kI, 40, .inl (fun _ => 0))), (q_15, .inl (kI, 40, .inl (fun _ => 0))), (q_19, .inl (kI, 40, .inl (fun _ => 0))), (q_23, .inl (kI, 160, .inl (fun _ => 0))), (q_27, .inl (kI, 20, .inl (fun _ => 0))), (q_31, .inl (kI, 20, .inl (fun _ => 0))), (q_35, .inl (kI, 20, .inl (fun _ => 0))), (q_39, .inl (kI, 20, .inl (fun _ => 0))), (q_43, .inl (kI, 200, .inl (fun _ => 0))), (q_47, .inl (kI, 200, .inl (fun _ => 0)))] := by rw [ew_49, gw_45] <;> rfl
  have gw_53 : w_53 = [(q_3, .inl (kI, 7, .inl (fun _ => 0))), (q_7, .inl (kI, 100, .inl (fun _ => 0))), (q_11, .inl (kI, 40, .inl (fun _ => 0))), (q_15, .inl (kI, 40, .inl (fun _ => 0))), (q_19, .inl (kI, 40, .inl (fun _ => 0))), (q_23, .inl (kI, 160, .inl (fun _ => 0))), (q_27, .inl (kI, 20, .inl (fun _ => 0))), (q_31, .inl (kI, 20, .inl (fun _ => 0))), (q_35, .inl (kI, 20, .inl (fun _ => 0))), (q_39, .inl (kI, 20, .inl (fun _ => 0))), (q_43, .inl (kI, 200, .inl (fun _ => 0))), (q_47, .inl (kI, 200, .inl (fun _ => 0))), (q_51, .inl (kI, 200, .inl (fun _ => 0)))] := by rw [ew_53, gw_49] <;> rfl
  have gw_57 : w_57 = [(q_3, .inl (kI, 7, .inl (fun _ => 0))), (q_7, .inl (kI, 100, .inl (fun _ => 0))), (q_11, .inl (kI, 40, .inl (fun _ => 0))), (q_15, .inl (kI, 40, .inl (fun _ => 0))), (q_19, .inl (kI, 40, .inl (fun _ => 0))), (q_23, .inl (kI, 160, .inl (fun _ => 0))), (q_27, .inl (kI, 20, .inl (fun _ => 0))), (q_31, .inl (kI, 20, .inl (fun _ => 0))), (q_35, .inl (kI, 20, .inl (fun _ => 0))), (q_39, .inl (kI, 20, .inl (fun _ => 0))), (q_43, .inl (kI, 200, .inl (fun _ => 0))), (q_47, .inl (kI, 200, .inl (fun _ => 0))), (q_51, .inl (kI, 200, .inl (fun _ => 0))), (q_55, .inl (kI, 200, .inl (fun _ => 0)))] := by rw [ew_57, gw_53] <;> rfl
  have gw_61 : w_61 = [(q_3, .inl (kI, 7, .inl (fun _ => 0))), (q_7, .inl (kI, 100, .inl (fun _ => 0))), (q_11, .inl (kI, 40, .inl (fun _ => 0))), (q_15, .inl (kI, 40, .inl (fun _ => 0))), (q_19, .inl (kI, 40, .inl (fun _ => 0))), (q_23, .inl (kI, 160, .inl (fun _ => 0))), (q_27, .inl (kI, 20, .inl (fun _ => 0))), (q_31, .inl (kI, 20, .inl (fun _ => 0))), (q_35, .inl (kI, 20, .inl (fun _ => 0))), (q_39, .inl (kI, 20, .inl (fun _ => 0))), (q_43, .inl (kI, 200, .inl (fun _ => 0))), (q_47, .inl (kI, 200, .inl (fun _ => 0))), (q_51, .inl (kI, 200, .inl (fun _ => 0))), (q_55, .inl (kI, 200, .inl (fun _ => 0))), (q_59, .inl (kI, 200, .inl (fun _ => 0)))] := by rw [ew_61, gw_57] <;> rfl
  have gw_65 : w_65 = [(q_3, .inl (kI, 7, .inl (fun _ => 0))), (q_7, .inl (kI, 100, .inl (fun _ => 0))), (q_11, .inl (kI, 40, .inl (fun _ => 0))), (q_15, .inl (kI, 40, .inl (fun _ => 0))), (q_19, .inl (kI, 40, .inl (fun _ => 0))), (q_23, .inl (kI, 160, .inl (fun _ => 0))), (q_27, .inl (kI, 20, .inl (fun _ => 0))), (q_31, .inl (kI, 20, .inl (fun _ => 0))), (q_35, .inl (kI, 20, .inl (fun _ => 0))), (q_39, .inl (kI, 20, .inl (fun _ => 0))), (q_43, .inl (kI, 200, .inl (fun _ => 0))), (q_47, .inl (kI, 200, .inl (fun _ => 0))), (q_51, .inl (kI, 200, .inl (fun _ => 0))), (q_55, .inl (kI, 200, .inl (fun _ => 0))), (q_59, .inl (kI, 200, .inl (fun _ => 0))), (q_63, .inl (kI, 200, .inl (fun _ => 0)))] := by rw [ew_65, gw_61] <;> rfl
  have gw_69 : w_69 = [(q_3, .inl (kI, 7, .inl (fun _ => 0))), (q_7, .inl (kI, 100, .inl (fun _ => 0))), (q_11, .inl (kI, 40, .inl (fun _ => 0))), (q_15, .inl (kI, 40, .inl (fun _ => 0))), (q_19, .inl (kI, 40, .inl (fun _ => 0))), (q_23, .inl (kI, 160, .inl (fun _ => 0))), (q_27, .inl (kI, 20, .inl (fun _ => 0))), (q_31, .inl (kI, 20, .inl (fun _ => 0))), (q_35, .inl (kI, 20, .inl (fun _ => 0))), (q_39, .inl (kI, 20, .inl (fun _ => 0))), (q_43, .inl (kI, 200, .inl (fun _ => 0))), (q_47, .inl (kI, 200, .inl (fun _ => 0))), (q_51, .inl (kI, 200, .inl (fun _ => 0))), (q_55, .inl (kI, 200, .inl (fun _ => 0))), (q_59, .inl (kI, 200, .inl (fun _ => 0))), (q_63, .inl (kI, 200, .inl (fun _ => 0))), (q_67, .inl (kI, 30, .inl (fun _ => 0)))] := by rw [ew_69, gw_65] <;> rfl
  have gw_73 : w_73 = [(q_3, .inl (kI, 7, .inl (fun _ => 0))), (q_7, .inl (kI, 100, .inl (fun _ => 0))), (q_11, .inl (kI, 40, .inl (fun _ => 0))), (q_15, .inl (kI, 40, .inl (fun _ => 0))), (q_19, .inl (kI, 40, .inl (fun _ => 0))), (q_23, .inl (kI, 160, .inl (fun _ => 0))), (q_27, .inl (kI, 20, .inl (fun _ => 0))), (q_31, .inl (kI, 20, .inl (fun _ => 0))), (q_35, .inl (kI, 20, .inl (fun _ => 0))), (q_39, .inl (kI, 20, .inl (fun _ => 0))), (q_43, .inl (kI, 200, .inl (fun _ => 0))), (q_47, .inl (kI, 200, .inl (fun _ => 0))), (q_51, .inl (kI, 200, .inl (fun _ => 0))), (q_55, .inl (kI, 200, .inl (fun _ => 0))), (q_59, .inl (kI, 200, .inl (fun _ => 0))), (q_63, .inl (kI, 200, .inl (fun _ => 0))), (q_67, .inl (kI, 30, .inl (fun _ => 0))), (q_71, .inl (kI, 30, .inl (fun _ => 0)))] := by rw [ew_73, gw_69] <;> rfl
  have gw_77 : w_77 = [(q_3, .inl (kI, 7, .inl (fun _ => 0))), (q_7, .inl (kI, 100, .inl (fun _ => 0))), (q_11, .inl (kI, 40, .inl (fun _ => 0))), (q_15, .inl (kI, 40, .inl (fun _ => 0))), (q_19, .inl (kI, 40, .inl (fun _ => 0))), (q_23, .inl (kI, 160, .inl (fun _ => 0))), (q_27, .inl (kI, 20, .inl (fun _ => 0))), (q_31, .inl (kI, 20, .inl (fun _ => 0))), (q_35, .inl (kI, 20, .inl (fun _ => 0))), (q_39, .inl (kI, 20, .inl (fun _ => 0))), (q_43, .inl (kI, 200, .inl (fun _ => 0))), (q_47, .inl (kI, 200, .inl (fun _ => 0))), (q_51, .inl (kI, 200, .inl (fun _ => 0))), (q_55, .inl (kI, 200, .inl (fun _ => 0))), (q_59, .inl (kI, 200, .inl (fun _ => 0))), (q_63, .inl (kI, 200, .inl (fun _ => 0))), (q_67, .inl (kI, 30, .inl (fun _ => 0))), (q_71, .inl (kI, 30, .inl (fun _ => 0))), (q_75, .inl (kI, 30, .inl (fun _ => 0)))] := by rw [ew_77, gw_73] <;> rfl
  have gw_81 : w_81 = [(q_3, .inl (kI, 7, .inl (fun _ => 0))), (q_7, .inl (kI, 100, .inl (fun _ => 0))), (q_11, .inl (kI, 40, .inl (fun _ => 0))), (q_15, .inl (kI, 40, .inl (fun _ => 0))), (q_19, .inl (kI, 40, .inl (fun _ => 0))), (q_23, .inl (kI, 160, .inl (fun _ => 0))), (q_27, .inl (kI, 20, .inl (fun _ => 0))), (q_31, .inl (kI, 20, .inl (fun _ => 0))), (q_35, .inl (kI, 20, .inl (fun _ => 0))), (q_39, .inl (kI, 20, .inl (fun _ => 0))), (q_43, .inl (kI, 200, .inl (fun _ => 0))), (q_47, .inl (kI, 200, .inl (fun _ => 0))), (q_51, .inl (kI, 200, .inl (fun _ => 0))), (q_55, .inl (kI, 200, .inl (fun _ => 0))), (q_59, .inl (kI, 200, .inl (fun _ => 0))), (q_63, .inl (kI, 200, .inl (fun _ => 0))), (q_67, .inl (kI, 30, .inl (fun _ => 0))), (q_71, .inl (kI, 30, .inl (fun _ => 0))), (q_75, .inl (kI, 30, .inl (fun _ => 0))), (q_79, .inl (kI, 1800, .inl (fun _ => 0)))] := by rw [ew_81, gw_77] <;> rfl
  have gw_85 : w_85 = [(q_3, .inl (kI, 7, .inl (fun _ => 0))), (q_7, .inl (kI, 100, .inl (fun _ => 0))), (q_11, .inl (kI, 40, .inl (fun _ => 0))), (q_15, .inl (kI, 40, .inl (fun _ => 0))), (q_19, .inl (kI, 40, .inl (fun _ => 0))), (q_23, .inl (kI, 160, .inl (fun _ => 0))), (q_27, .inl (kI, 20, .inl (fun _ => 0))), (q_31, .inl (kI, 20, .inl (fun _ => 0))), (q_35, .inl (kI, 20, .inl (fun _ => 0))), (q_39, .inl (kI, 20, .inl (fun _ => 0))), (q_43, .inl (kI, 200, .inl (fun _ => 0))), (q_47, .inl (kI, 200, .inl (fun _ => 0))), (q_51, .inl (kI, 200, .inl (fun _ => 0))), (q_55, .inl (kI, 200, .inl (fun _ => 0))), (q_59, .inl (kI, 200, .inl (fun _ => 0))), (q_63, .inl (kI, 200, .inl (fun _ => 0))), (q_67, .inl (kI, 30, .inl (fun _ => 0))), (q_71, .inl (kI, 30, .inl (fun _ => 0))), (q_75, .inl (kI, 30, .inl (fun _ => 0))), (q_79, .inl (kI, 1800, .inl (fun _ => 0))), (q_83, .inl (kI, 60, .inl (fun _ => 0)))] := by rw [ew_85, gw_81] <;> rfl
  have gw_89 : w_89 = [(q_3, .inl (kI, 7, .inl (fun _ => 0))), (q_7, .inl (kI, 100, .inl (fun _ => 0))), (q_11, .inl (kI, 40, .inl (fun _ => 0))), (q_15, .inl (kI, 40, .inl (fun _ => 0))), (q_19, .inl (kI, 40, .inl (fun _ => 0))), (q_23, .inl (kI, 160, .inl (fun _ => 0))), (q_27, .inl (kI, 20, .inl (fun _ => 0))), (q_31, .inl (kI, 20, .inl (fun _ => 0))), (q_35, .inl (kI, 20, .inl (fun _ => 0))), (q_39, .inl (kI, 20, .inl (fun _ => 0))), (q_43, .inl (kI, 200, .inl (fun _ => 0))), (q_47, .inl (kI, 200, .inl (fun _ => 0))), (q_51, .inl (kI, 200, .inl (fun _ => 0))), (q_55, .inl (kI, 200, .inl (fun _ => 0))), (q_59, .inl (kI, 200, .inl (fun _ => 0))), (q_63, .inl (kI, 200, .inl (fun _ => 0))), (q_67, .inl (kI, 30, .inl (fun _ => 0))), (q_71, .inl (kI, 30, .inl (fun _ => 0))), (q_75, .inl (kI, 30, .inl (fun _ => 0))), (q_79, .inl (kI, 1800, .inl (fun _ => 0))), (q_83, .inl (kI, 60, .inl (fun _ => 0))), (q_87, .inl (kI, 60, .inl (fun _ => 0)))] := by rw [ew_89, gw_85] <;> rfl
  have gw_93 : w_93 = [(q_3, .inl (kI, 7, .inl (fun _ => 0))), (q_7, .inl (kI, 100, .inl (fun _ => 0))), (q_11, .inl (kI, 40, .inl (fun _ => 0))), (q_15, .inl (kI, 40, .inl (fun _ => 0))), (q_19, .inl (kI, 40, .inl (fun _ => 0))), (q_23, .inl (kI, 160, .inl (fun _ => 0))), (q_27, .inl (kI, 20, .inl (fun _ => 0))), (q_31, .inl (kI, 20, .inl (fun _ => 0))), (q_35, .inl (kI, 20, .inl (fun _ => 0))), (q_39, .inl (kI, 20, .inl (fun _ => 0))), (q_43, .inl (kI, 200, .inl (fun _ => 0))), (q_47, .inl (kI, 200, .inl (fun _ => 0))), (q_51, .inl (kI, 200, .inl (fun _ => 0))), (q_55, .inl (kI, 200, .inl (fun _ => 0))), (q_59, .inl (kI, 200, .inl (fun _ => 0))), (q_63, .inl (kI, 200, .inl (fun _ => 0))), (q_67, .inl (kI, 30, .inl (fun _ => 0))), (q_71, .inl (kI, 30, .inl (fun _ => 0))), (q_75, .inl (kI, 30, .inl (fun _ => 0))), (q_79, .inl (kI, 1800, .inl (fun _ => 0))), (q_83, .inl (kI, 60, .inl (fun _ => 0))), (q_87, .inl (kI, 60, .inl (fun _ => 0))), (q_91, .inl (kI, 60, .inl (fun _ => 0)))] := by rw [ew_93, gw_89] <;> rfl
  have gw_97 : w_97 = [(q_3, .inl (kI, 7, .inl (fun _ => 0))), (q_7, .inl (kI, 100, .inl (fun _ => 0))), (q_11, .inl (kI, 40, .inl (fun _ => 0))), (q_15, .inl (kI, 40, .inl (fun _ => 0))), (q_19, .inl (kI, 40, .inl (fun _ => 0))), (q_23, .inl (kI, 160, .inl (fun _ => 0))), (q_27, .inl (kI, 20, .inl (fun _ => 0))), (q_31, .inl (kI, 20, .inl (fun _ => 0))), (q_35, .inl (kI, 20, .inl (fun _ => 0))), (q_39, .inl (kI, 20, .inl (fun _ => 0))), (q_43, .inl (kI, 200, .inl (fun _ => 0))), (q_47, .inl (kI, 200, .inl (fun _ => 0))), (q_51, .inl (kI, 200, .inl (fun _ => 0))), (q_55, .inl (kI, 200, .inl (fun _ => 0))), (q_59, .inl (kI, 200, .inl (fun _ => 0))), (q_63, .inl (kI, 200, .inl (fun _ => 0))), (q_67, .inl (kI, 30, .inl (fun _ => 0))), (q_71, .inl (kI, 30, .inl (fun _ => 0))), (q_75, .inl (kI, 30, .inl (fun _ => 0))), (q_79, .inl (kI, 1800, .inl (fun _ => 0))), (q_83, .inl (kI, 60, .inl (fun _ => 0))), (q_87, .inl (kI, 60, .inl (fun _ => 0))), (q_91, .inl (kI, 60, .inl (fun _ => 0))), (q_95, .inl (kI, 60, .inl (fun _ => 0)))] := by rw [ew_97, gw_93] <;> rfl
  have gw_101 : w_101 = [(q_3, .inl (kI, 7, .inl (fun _ => 0))), (q_7, .inl (kI, 100, .inl (fun _ => 0))), (q_11, .inl (kI, 40, .inl (fun _ => 0))), (q_15, .inl (kI, 40, .inl (fun _ => 0))), (q_19, .inl (kI, 40, .inl (fun _ => 0))), (q_23, .inl (kI, 160, .inl (fun _ => 0))), (q_27, .inl (kI, 20, .inl (fun _ => 0))), (q_31, .inl (kI, 20, .inl (fun _ => 0))), (q_35, .inl (kI, 20, .inl (fun _ => 0))), (q_39, .inl (kI, 20, .inl (fun _ => 0))), (q_43, .inl (kI, 200, .inl (fun _ => 0))), (q_47, .inl (kI, 200, .inl (fun _ => 0))), (q_51, .inl (kI, 200, .inl (fun _ => 0))), (q_55, .inl (kI, 200, .inl (fun _ => 0))), (q_59, .inl (kI, 200, .inl (fun _ => 0))), (q_63, .inl (kI, 200, .inl (fun _ => 0))), (q_67, .inl (kI, 30, .inl (fun _ => 0))), (q_71, .inl (kI, 30, .inl (fun _ => 0))), (q_75, .inl (kI, 30, .inl (fun _ => 0))), (q_79, .inl (kI, 1800, .inl (fun _ => 0))), (q_83, .inl (kI, 60, .inl (fun _ => 0))), (q_87, .inl (kI, 60, .inl (fun _ => 0))), (q_91, .inl (kI, 60, .inl (fun _ => 0))), (q_95, .inl (kI, 60, .inl (fun _ => 0))), (q_99, .inl (kI, 60, .inl (fun _ => 0)))] := by rw [ew_101, gw_97] <;> rfl
  have gw_105 : w_105 = [(q_3, .inl (kI, 7, .inl (fun _ => 0))), (q_7, .inl (kI, 100, .inl (fun _ => 0))), (q_11, .inl (kI, 40, .inl (fun _ => 0))), (q_15, .inl (kI, 40, .inl (fun _ => 0))), (q_19, .inl (kI, 40, .inl (fun _ => 0))), (q_23, .inl (kI, 160, .inl (fun _ => 0))), (q_27, .inl (kI, 20, .inl (fun _ => 0))), (q_31, .inl (kI, 20, .inl (fun _ => 0))), (q_35, .inl (kI, 20, .inl (fun _ => 0))), (q_39, .inl (kI, 20, .inl (fun _ => 0))), (q_43, .inl (kI, 200, .inl (fun _ => 0))), (q_47, .inl (kI, 200, .inl (fun _ => 0))), (q_51, .inl (kI, 200, .inl (fun _ => 0))), (q_55, .inl (kI, 200, .inl (fun _ => 0))), (q_59, .inl (kI, 200, .inl (fun _ => 0))), (q_63, .inl (kI, 200, .inl (fun _ => 0))), (q_67, .inl (kI, 30, .inl (fun _ => 0))), (q_71, .inl (kI, 30, .inl (fun _ => 0))), (q_75, .inl (kI, 30, .inl (fun _ => 0))), (q_79, .inl (kI, 1800, .inl (fun _ => 0))), (q_83, .inl (kI, 60, .inl (fun _ => 0))), (q_87, .inl (kI, 60, .inl (fun _ => 0))), (q_91, .inl (kI, 60, .inl (fun _ => 0))), (q_95, .inl (kI, 60, .inl (fun _ => 0))), (q_99, .inl (kI, 60, .inl (fun _ => 0))), (q_103, .inl (kI, 60, .inl (fun _ => 0)))] := by rw [ew_105, gw_101] <;> rfl
  have gw_109 : w_109 = [(q_3, .inl (kI, 7, .inl (fun _ => 0))), (q_7, .inl (kI, 100, .inl (fun _ => 0))), (q_11, .inl (kI, 40, .inl (fun _ => 0))), (q_15, .inl (kI, 40, .inl (fun _ => 0))), (q_19, .inl (kI, 40, .inl (fun _ => 0))), (q_23, .inl (kI, 160, .inl (fun _ => 0))), (q_27, .inl (kI, 20, .inl (fun _ => 0))), (q_31, .inl (kI, 20, .inl (fun _ => 0))), (q_35, .inl (kI, 20, .inl (fun _ => 0))), (q_39, .inl (kI, 20, .inl (fun _ => 0))), (q_43, .inl (kI, 200, .inl (fun _ => 0))), (q_47, .inl (kI, 200, .inl (fun _ => 0))), (q_51, .inl (kI, 200, .inl (fun _ => 0))), (q_55, .inl (kI, 200, .inl (fun _ => 0))), (q_59, .inl (kI, 200, .inl (fun _ => 0))), (q_63, .inl (kI, 200, .inl (fun _ => 0))), (q_67, .inl (kI, 30, .inl (fun _ => 0))), (q_71, .inl (kI, 30, .inl (fun _ => 0))), (q_75, .inl (kI, 30, .inl (fun _ => 0))), (q_79, .inl (kI, 1800, .inl (fun _ => 0))), (q_83, .inl (kI, 60, .inl (fun _ => 0))), (q_87, .inl (kI, 60, .inl (fun _ => 0))), (q_91, .inl (kI, 60, .inl (fun _ => 0))), (q_95, .inl (kI, 60, .inl (fun _ => 0))), (q_99, .inl (kI, 60, .inl (fun _ => 0))), (q_103, .inl (kI, 60, .inl (fun _ => 0))), (q_107, .inl (kI, 60, .inl (fun _ => 0)))] := by rw [ew_109, gw_105] <;> rfl
  have gw_113 : w_113 = [(q_3, .inl (kI, 7, .inl (fun _ => 0))), (q_7, .inl (kI, 100, .inl (fun _ => 0))), (q_11, .inl (kI, 40, .inl (fun _ => 0))), (q_15, .inl (kI, 40, .inl (fun _ => 0))), (q_19, .inl (kI, 40, .inl (fun _ => 0))), (q_23, .inl (kI, 160, .inl (fun _ => 0))), (q_27, .inl (kI, 20, .inl (fun _ => 0))), (q_31, .inl (kI, 20, .inl (fun _ => 0))), (q_35, .inl (kI, 20, .inl (fun _ => 0))), (q_39, .inl (kI, 20, .inl (fun _ => 0))), (q_43, .inl (kI, 200, .inl (fun _ => 0))), (q_47, .inl (kI, 200, .inl (fun _ => 0))), (q_51, .inl (kI, 200, .inl (fun _ => 0))), (q_55, .inl (kI, 200, .inl (fun _ => 0))), (q_59, .inl (kI, 200, .inl (fun _ => 0))), (q_63, .inl (kI, 200, .inl (fun _ => 0))), (q_67, .inl (kI, 30, .inl (fun _ => 0))), (q_71, .inl (kI, 30, .inl (fun _ => 0))), (q_75, .inl (kI, 30, .inl (fun _ => 0))), (q_79, .inl (kI, 1800, .inl (fun _ => 0))), (q_83, .inl (kI, 60, .inl (fun _ => 0))), (q_87, .inl (kI, 60, .inl (fun _ => 0))), (q_91, .inl (kI, 60, .inl (fun _ => 0))), (q_95, .inl (kI, 60, .inl (fun _ => 0))), (q_99, .inl (kI, 60, .inl (fun _ => 0))), (q_103, .inl (kI, 60, .inl (fun _ => 0))), (q_107, .inl (kI, 60, .inl (fun _ => 0))), (q_111, .inl (kI, 60, .inl (fun _ => 0)))] := by rw [ew_113, gw_109] <;> rfl
  have gw_117 : w_117 = [(q_3, .inl (kI, 7, .inl (fun _ => 0))), (q_7, .inl (kI, 100, .inl (fun _ => 0))), (q_11, .inl (kI, 40, .inl (fun _ => 0))), (q_15, .inl (kI, 40, .inl (fun _ => 0))), (q_19, .inl (kI, 40, .inl (fun _ => 0))), (q_23, .inl (kI, 160, .inl (fun _ => 0))), (q_27, .inl (kI, 20, .inl (fun _ => 0))), (q_31, .inl (kI, 20, .inl (fun _ => 0))), (q_35, .inl (kI, 20, .inl (fun _ => 0))), (q_39, .inl (kI, 20, .inl (fun _ => 0))), (q_43, .inl (kI, 200, .inl (fun _ => 0))), (q_47, .inl (kI, 200, .inl (fun _ => 0))), (q_51, .inl (kI, 200, .inl (fun _ => 0))), (q_55, .inl (kI, 200, .inl (fun _ => 0))), (q_59, .inl (kI, 200, .inl (fun _ => 0))), (q_63, .inl (kI, 200, .inl (fun _ => 0))), (q_67, .inl (kI, 30, .inl (fun _ => 0))), (q_71, .inl (kI, 30, .inl (fun _ => 0))), (q_75, .inl (kI, 30, .inl (fun _ => 0))), (q_79, .inl (kI, 1800, .inl (fun _ => 0))), (q_83, .inl (kI, 60, .inl (fun _ => 0))), (q_87, .inl (kI, 60, .inl (fun _ => 0))), (q_91, .inl (kI, 60, .inl (fun _ => 0))), (q_95, .inl (kI, 60, .inl (fun _ => 0))), (q_99, .inl (kI, 60, .inl (fun _ => 0))), (q_103, .inl (kI, 60, .inl (fun _ => 0))), (q_107, .inl (kI, 60, .inl (fun _ => 0))), (q_111, .inl (kI, 60, .inl (fun _ => 0))), (q_115, .inl (kI, 60, .inl (fun _ => 0)))] := by rw [ew_117, gw_113] <;> rfl
  have gw_121 : w_121 = [(q_3, .inl (kI, 7, .inl (fun _ => 0))), (q_7, .inl (kI, 100, .inl (fun _ => 0))), (q_11, .inl (kI, 40, .inl (fun _ => 0))), (q_15, .inl (kI, 40, .inl (fun _ => 0))), (q_19, .inl (kI, 40, .inl (fun _ => 0))), (q_23, .inl (kI, 160, .inl (fun _ => 0))), (q_27, .inl (kI, 20, .inl (fun _ => 0))), (q_31, .inl (kI, 20, .inl (fun _ => 0))), (q_35, .inl (kI, 20, .inl (fun _ => 0))), (q_39, .inl (kI, 20, .inl (fun _ => 0))), (q_43, .inl (kI, 200, .inl (fun _ => 0))), (q_47, .inl (kI, 200, .inl (fun _ => 0))), (q_51, .inl (kI, 200, .inl (fun _ => 0))), (q_55, .inl (kI, 200, .inl (fun _ => 0))), (q_59, .inl (kI, 200, .inl (fun _ => 0))), (q_63, .inl (kI, 200, .inl (fun _ => 0))), (q_67, .inl (kI, 30, .inl (fun _ => 0))), (q_71, .inl (kI, 30, .inl (fun _ => 0))), (q_75, .inl (kI, 30, .inl (fun _ => 0))), (q_79, .inl (kI, 1800, .inl (fun _ => 0))), (q_83, .inl (kI, 60, .inl (fun _ => 0))), (q_87, .inl (kI, 60, .inl (fun _ => 0))), (q_91, .inl (kI, 60, .inl (fun _ => 0))), (q_95, .inl (kI, 60, .inl (fun _ => 0))), (q_99, .inl (kI, 60, .inl (fun _ => 0))), (q_103, .inl (kI, 60, .inl (fun _ => 0))), (q_107, .inl (kI, 60, .inl (fun _ => 0))), (q_111, .inl (kI, 60, .inl (fun _ => 0))), (q_115, .inl (kI, 60, .inl (fun _ => 0))), (q_119, .inl (kI, 60, .inl (fun _ => 0)))] := by rw [ew_121, gw_117] <;> rfl
  have gw_125 : w_125 = [(q_3, .inl (kI, 7, .inl (fun _ => 0))), (q_7, .inl (kI, 100, .inl (fun _ => 0))), (q_11, .inl (kI, 40, .inl (fun _ => 0))), (q_15, .inl (kI, 40, .inl (fun _ => 0))), (q_19, .inl (kI, 40, .inl (fun _ => 0))), (q_23, .inl (kI, 160, .inl (fun _ => 0))), (q_27, .inl (kI, 20, .inl (fun _ => 0))), (q_31, .inl (kI, 20, .inl (fun _ => 0))), (q_35, .inl (kI, 20, .inl (fun _ => 0))), (q_39, .inl (kI, 20, .inl (fun _ => 0))), (q_43, .inl (kI, 200, .inl (fun _ => 0))), (q_47, .inl (kI, 200, .inl (fun _ => 0))), (q_51, .inl (kI, 200, .inl (fun _ => 0))), (q_55, .inl (kI, 200, .inl (fun _ => 0))), (q_59, .inl (kI, 200, .inl (fun _ => 0))), (q_63, .inl (kI, 200, .inl (fun _ => 0))), (q_67, .inl (kI, 30, .inl (fun _ => 0))), (q_71, .inl (kI, 30, .inl (fun _ => 0))), (q_75, .inl (kI, 30, .inl (fun _ => 0))), (q_79, .inl (kI, 1800, .inl (fun _ => 0))), (q_83, .inl (kI, 60, .inl (fun _ => 0))), (q_87, .inl (kI, 60, .inl (fun _ => 0))), (q_91, .inl (kI, 60, .inl (fun _ => 0))), (q_95, .inl (kI, 60, .inl (fun _ => 0))), (q_99, .inl (kI, 60, .inl (fun _ => 0))), (q_103, .inl (kI, 60, .inl (fun _ => 0))), (q_107, .inl (kI, 60, .inl (fun _ => 0))), (q_111, .inl (kI, 60, .inl (fun _ => 0))), (q_115, .inl (kI, 60, .inl (fun _ => 0))), (q_119, .inl (kI, 60, .inl (fun _ => 0))), (q_123, .inl (kI, 60, .inl (fun _ => 0)))] := by rw [ew_125, gw_121] <;> rfl
  have gw_129 : w_129 = [(q_3, .inl (kI, 7, .inl (fun _ => 0))), (q_7, .inl (kI, 100, .inl (fun _ => 0))), (q_11, .inl (kI, 40, .inl (fun _ => 0))), (q_15, .inl (kI, 40, .inl (fun _ => 0))), (q_19, .inl (kI, 40, .inl (fun _ => 0))), (q_23, .inl (kI, 160, .inl (fun _ => 0))), (q_27, .inl (kI, 20, .inl (fun _ => 0))), (q_31, .inl (kI, 20, .inl (fun _ => 0))), (q_35, .inl (kI, 20, .inl (fun _ => 0))), (q_39, .inl (kI, 20, .inl (fun _ => 0))), (q_43, .inl (kI, 200, .inl (fun _ => 0))), (q_47, .inl (kI, 200, .inl (fun _ => 0))), (q_51, .inl (kI, 200, .inl (fun _ => 0))), (q_55, .inl (kI, 200, .inl (fun _ => 0))), (q_59, .inl (kI, 200, .inl (fun _ => 0))), (q_63, .inl (kI, 200, .inl (fun _ => 0))), (q_67, .inl (kI, 30, .inl (fun _ => 0))), (q_71, .inl (kI, 30, .inl (fun _ => 0))), (q_75, .inl (kI, 30, .inl (fun _ => 0))), (q_79, .inl (kI, 1800, .inl (fun _ => 0))), (q_83, .inl (kI, 60, .inl (fun _ => 0))), (q_87, .inl (kI, 60, .inl (fun _ => 0))), (q_91, .inl (kI, 60, .inl (fun _ => 0))), (q_95, .inl (kI, 60, .inl (fun _ => 0))), (q_99, .inl (kI, 60, .inl (fun _ => 0))), (q_103, .inl (kI, 60, .inl (fun _ => 0))), (q_107, .inl (kI, 60, .inl (fun _ => 0))), (q_111, .inl (kI, 60, .inl (fun _ => 0))), (q_115, .inl (kI, 60, .inl (fun _ => 0))), (q_119, .inl (kI, 60, .inl (fun _ => 0))), (q_123, .inl (kI, 60, .inl (fun _ => 0))), (q_127, .inl (kI, 60, .inl (fun _ => 0)))] := by rw [ew_129, gw_125] <;> rfl
  have gw_133 : w_133 = [(q_3, .inl (kI, 7, .inl (fun _ => 0))), (q_7, .inl (kI, 100, .inl (fun _ => 0))), (q_11, .inl (kI, 40, .inl (fun _ => 0))), (q_15, .inl (kI, 40, .inl (fun _ => 0))), (q_19, .inl (kI, 40, .inl (fun _ => 0))), (q_23, .inl (kI, 160, .inl (fun _ => 0))), (q_27, .inl (kI, 20, .inl (fun _ => 0))), (q_31, .inl (kI, 20, .inl (fun _ => 0))), (q_35, .inl (kI, 20, .inl (fun _ => 0))), (q_39, .inl (kI, 20, .inl (fun _ => 0))), (q_43, .inl (kI, 200, .inl (fun _ => 0))), (q_47, .inl (kI, 200, .inl (fun _ => 0))), (q_51, .inl (kI, 200, .inl (fun _ => 0))), (q_55, .inl (kI, 200, .inl (fun _ => 0))), (q_59, .inl (kI, 200, .inl (fun _ => 0))), (q_63, .inl (kI, 200, .inl (fun _ => 0))), (q_67, .inl (kI, 30, .inl (fun _ => 0))), (q_71, .inl (kI, 30, .inl (fun _ => 0))), (q_75, .inl (kI, 30, .inl (fun _ => 0))), (q_79, .inl (kI, 1800, .inl (fun _ => 0))), (q_83, .inl (kI, 60, .inl (fun _ => 0))), (q_87, .inl (kI, 60, .inl (fun _ => 0))), (q_91, .inl (kI, 60, .inl (fun _ => 0))), (q_95, .inl (kI, 60, .inl (fun _ => 0))), (q_99, .inl (kI, 60, .inl (fun _ => 0))), (q_103, .inl (kI, 60, .inl (fun _ => 0))), (q_107, .inl (kI, 60, .inl (fun _ => 0))), (q_111, .inl (kI, 60, .inl (fun _ => 0))), (q_115, .inl (kI, 60, .inl (fun _ => 0))), (q_119, .inl (kI, 60, .inl (fun _ => 0))), (q_123, .inl (kI, 60, .inl (fun _ => 0))), (q_127, .inl (kI, 60, .inl (fun _ => 0))), (q_131, .inl (kI, 60, .inl (fun _ => 0)))] := by rw [ew_133, gw_129] <;> rfl
  have gw_137 : w_137 = [(q_3, .inl (kI, 7, .inl (fun _ => 0))), (q_7, .inl (kI, 100, .inl (fun _ => 0))), (q_11, .inl (kI, 40, .inl (fun _ => 0))), (q_15, .inl (kI, 40, .inl (fun _ => 0))), (q_19, .inl (kI, 40, .inl (fun _ => 0))), (q_23, .inl (kI, 160, .inl (fun _ => 0))), (q_27, .inl (kI, 20, .inl (fun _ => 0))), (q_31, .inl (kI, 20, .inl (fun _ => 0))), (q_35, .inl (kI, 20, .inl (fun _ => 0))), (q_39, .inl (kI, 20, .inl (fun _ => 0))), (q_43, .inl (kI, 200, .inl (fun _ => 0))), (q_47, .inl (kI, 200, .inl (fun _ => 0))), (q_51, .inl (kI, 200, .inl (fun _ => 0))), (q_55, .inl (kI, 200, .inl (fun _ => 0))), (q_59, .inl (kI, 200, .inl (fun _ => 0))), (q_63, .inl (kI, 200, .inl (fun _ => 0))), (q_67, .inl (kI, 30, .inl (fun _ => 0))), (q_71, .inl (kI, 30, .inl (fun _ => 0))), (q_75, .inl (kI, 30, .inl (fun _ => 0))), (q_79, .inl (kI, 1800, .inl (fun _ => 0))), (q_83, .inl (kI, 60, .inl (fun _ => 0))), (q_87, .inl (kI, 60, .inl (fun _ => 0))), (q_91, .inl (kI, 60, .inl (fun _ => 0))), (q_95, .inl (kI, 60, .inl (fun _ => 0))), (q_99, .inl (kI, 60, .inl (fun _ => 0))), (q_103, .inl (kI, 60, .inl (fun _ => 0))), (q_107, .inl (kI, 60, .inl (fun _ => 0))), (q_111, .inl (kI, 60, .inl (fun _ => 0))), (q_115, .inl (kI, 60, .inl (fun _ => 0))), (q_119, .inl (kI, 60, .inl (fun _ => 0))), (q_123, .inl (kI, 60, .inl (fun _ => 0))), (q_127, .inl (kI, 60, .inl (fun _ => 0))), (q_131, .inl (kI, 60, .inl (fun _ => 0))), (q_135, .inl (kI, 360, .inl (fun _ => 0)))] := by rw [ew_137, gw_133] <;> rfl
  have gw_141 : w_141 = [(q_3, .inl (kI, 7, .inl (fun _ => 0))), (q_7, .inl (kI, 100, .inl (fun _ => 0))), (q_11, .inl (kI, 40, .inl (fun _ => 0))), (q_15, .inl (kI, 40, .inl (fun _ => 0))), (q_19, .inl (kI, 40, .inl (fun _ => 0))), (q_23, .inl (kI, 160, .inl (fun _ => 0))), (q_27, .inl (kI, 20, .inl (fun _ => 0))), (q_31, .inl (kI, 20, .inl (fun _ => 0))), (q_35, .inl (kI, 20, .inl (fun _ => 0))), (q_39, .inl (kI, 20, .inl (fun _ => 0))), (q_43, .inl (kI, 200, .inl (fun _ => 0))), (q_47, .inl (kI, 200, .inl (fun _ => 0))), (q_51, .inl (kI, 200, .inl (fun _ => 0))), (q_55, .inl (kI, 200, .inl (fun _ => 0))), (q_59, .inl (kI, 200, .inl (fun _ => 0))), (q_63, .inl (kI, 200, .inl (fun _ => 0))), (q_67, .inl (kI, 30, .inl (fun _ => 0))), (q_71, .inl (kI, 30, .inl (fun _ => 0))), (q_75, .inl (kI, 30, .inl (fun _ => 0))), (q_79, .inl (kI, 1800, .inl (fun _ => 0))), (q_83, .inl (kI, 60, .inl (fun _ => 0))), (q_87, .inl (kI, 60, .inl (fun _ => 0))), (q_91, .inl (kI, 60, .inl (fun _ => 0))), (q_95, .inl (kI, 60, .inl (fun _ => 0))), (q_99, .inl (kI, 60, .inl (fun _ => 0))), (q_103, .inl (kI, 60, .inl (fun _ => 0))), (q_107, .inl (kI, 60, .inl (fun _ => 0))), (q_111, .inl (kI, 60, .inl (fun _ => 0))), (q_115, .inl (kI, 60, .inl (fun _ => 0))), (q_119, .inl (kI, 60, .inl (fun _ => 0))), (q_123, .inl (kI, 60, .inl (fun _ => 0))), (q_127, .inl (kI, 60, .inl (fun _ => 0))), (q_131, .inl (kI, 60, .inl (fun _ => 0))), (q_135, .inl (kI, 360, .inl (fun _ => 0))), (q_139, .inl (kI, 360, .inl (fun _ => 0)))] := by rw [ew_141, gw_137] <;> rfl
  have gw_145 : w_145 = [(q_3, .inl (kI, 7, .inl (fun _ => 0))), (q_7, .inl (kI, 100, .inl (fun _ => 0))), (q_11, .inl (kI, 40, .inl (fun _ => 0))), (q_15, .inl (kI, 40, .inl (fun _ => 0))), (q_19, .inl (kI, 40, .inl (fun _ => 0))), (q_23, .inl (kI, 160, .inl (fun _ => 0))), (q_27, .inl (kI, 20, .inl (fun _ => 0))), (q_31, .inl (kI, 20, .inl (fun _ => 0))), (q_35, .inl (kI, 20, .inl (fun _ => 0))), (q_39, .inl (kI, 20, .inl (fun _ => 0))), (q_43, .inl (kI, 200, .inl (fun _ => 0))), (q_47, .inl (kI, 200, .inl (fun _ => 0))), (q_51, .inl (kI, 200, .inl (fun _ => 0))), (q_55, .inl (kI, 200, .inl (fun _ => 0))), (q_59, .inl (kI, 200, .inl (fun _ => 0))), (q_63, .inl (kI, 200, .inl (fun _ => 0))), (q_67, .inl (kI, 30, .inl (fun _ => 0))), (q_71, .inl (kI, 30, .inl (fun _ => 0))), (q_75, .inl (kI, 30, .inl (fun _ => 0))), (q_79, .inl (kI, 1800, .inl (fun _ => 0))), (q_83, .inl (kI, 60, .inl (fun _ => 0))), (q_87, .inl (kI, 60, .inl (fun _ => 0))), (q_91, .inl (kI, 60, .inl (fun _ => 0))), (q_95, .inl (kI, 60, .inl (fun _ => 0))), (q_99, .inl (kI, 60, .inl (fun _ => 0))), (q_103, .inl (kI, 60, .inl (fun _ => 0))), (q_107, .inl (kI, 60, .inl (fun _ => 0))), (q_111, .inl (kI, 60, .inl (fun _ => 0))), (q_115, .inl (kI, 60, .inl (fun _ => 0))), (q_119, .inl (kI, 60, .inl (fun _ => 0))), (q_123, .inl (kI, 60, .inl (fun _ => 0))), (q_127, .inl (kI, 60, .inl (fun _ => 0))), (q_131, .inl (kI, 60, .inl (fun _ => 0))), (q_135, .inl (kI, 360, .inl (fun _ => 0))), (q_139, .inl (kI, 360, .inl (fun _ => 0))), (q_143, .inl (kI, 1200, .inl (fun _ => 0)))] := by rw [ew_145, gw_141] <;> rfl
  have gw_149 : w_149 = [(q_3, .inl (kI, 7, .inl (fun _ => 0))), (q_7, .inl (kI, 100, .inl (fun _ => 0))), (q_11, .inl (kI, 40, .inl (fun _ => 0))), (q_15, .inl (kI, 40, .inl (fun _ => 0))), (q_19, .inl (kI, 40, .inl (fun _ => 0))), (q_23, .inl (kI, 160, .inl (fun _ => 0))), (q_27, .inl (kI, 20, .inl (fun _ => 0))), (q_31, .inl (kI, 20, .inl (fun _ => 0))), (q_35, .inl (kI, 20, .inl (fun _ => 0))), (q_39, .inl (kI, 20, .inl (fun _ => 0))), (q_43, .inl (kI, 200, .inl (fun _ => 0))), (q_47, .inl (kI, 200, .inl (fun _ => 0))), (q_51, .inl (kI, 200, .inl (fun _ => 0))), (q_55, .inl (kI, 200, .inl (fun _ => 0))), (q_59, .inl (kI, 200, .inl (fun _ => 0))), (q_63, .inl (kI, 200, .inl (fun _ => 0))), (q_67, .inl (kI, 30, .inl (fun _ => 0))), (q_71, .inl (kI, 30, .inl (fun _ => 0))), (q_75, .inl (kI, 30, .inl (fun _ => 0))), (q_79, .inl (kI, 1800, .inl (fun _ => 0))), (q_83, .inl (kI, 60, .inl (fun _ => 0))), (q_87, .inl (kI, 60, .inl (fun _ => 0))), (q_91, .inl (kI, 60, .inl (fun _ => 0))), (q_95, .inl (kI, 60, .inl (fun _ => 0))), (q_99, .inl (kI, 60, .inl (fun _ => 0))), (q_103, .inl (kI, 60, .inl (fun _ => 0))), (q_107, .inl (kI, 60, .inl (fun _ => 0))), (q_111, .inl (kI, 60, .inl (fun _ => 0))), (q_115, .inl (kI, 60, .inl (fun _ => 0))), (q_119, .inl (kI, 60, .inl (fun _ => 0))), (q_123, .inl (kI, 60, .inl (fun _ => 0))), (q_127, .inl (kI, 60, .inl (fun _ => 0))), (q_131, .inl (kI, 60, .inl (fun _ => 0))), (q_135, .inl (kI, 360, .inl (fun _ => 0))), (q_139, .inl (kI, 360, .inl (fun _ => 0))), (q_143, .inl (kI, 1200, .inl (fun _ => 0))), (q_147, .inl (kI, 1200, .inl (fun _ => 0)))] := by rw [ew_149, gw_145] <;> rfl
  have gw_153 : w_153 = [(q_3, .inl (kI, 7, .inl (fun _ => 0))), (q_7, .inl (kI, 100, .inl (fun _ => 0))), (q_11, .inl (kI, 40, .inl (fun _ => 0))), (q_15, .inl (kI, 40, .inl (fun _ => 0))), (q_19, .inl (kI, 40, .inl (fun _ => 0))), (q_23, .inl (kI, 160, .inl (fun _ => 0))), (q_27, .inl (kI, 20, .inl (fun _ => 0))), (q_31, .inl (kI, 20, .inl (fun _ => 0))), (q_35, .inl (kI, 20, .inl (fun _ => 0))), (q_39, .inl (kI, 20, .inl (fun _ => 0))), (q_43, .inl (kI, 200, .inl (fun _ => 0))), (q_47, .inl (kI, 200, .inl (fun _ => 0))), (q_51, .inl (kI, 200, .inl (fun _ => 0))), (q_55, .inl (kI, 200, .inl (fun _ => 0))), (q_59, .inl (kI, 200, .inl (fun _ => 0))), (q_63, .inl (kI, 200, .inl (fun _ => 0))), (q_67, .inl (kI, 30, .inl (fun _ => 0))), (q_71, .inl (kI, 30, .inl (fun _ => 0))), (q_75, .inl (kI, 30, .inl (fun _ => 0))), (q_79, .inl (kI, 1800, .inl (fun _ => 0))), (q_83, .inl (kI, 60, .inl (fun _ => 0))), (q_87, .inl (kI, 60, .inl (fun _ => 0))), (q_91, .inl (kI, 60, .inl (fun _ => 0))), (q_95, .inl (kI, 60, .inl (fun _ => 0))), (q_99, .inl (kI, 60, .inl (fun _ => 0))), (q_103, .inl (kI, 60, .inl (fun _ => 0))), (q_107, .inl (kI, 60, .inl (fun _ => 0))), (q_111, .inl (kI, 60, .inl (fun _ => 0))), (q_115, .inl (kI, 60, .inl (fun _ => 0))), (q_119, .inl (kI, 60, .inl (fun _ => 0))), (q_123, .inl (kI, 60, .inl (fun _ => 0))), (q_127, .inl (kI, 60, .inl (fun _ => 0))), (q_131, .inl (kI, 60, .inl (fun _ => 0))), (q_135, .inl (kI, 360, .inl (fun _ => 0))), (q_139, .inl (kI, 360, .inl (fun _ => 0))), (q_143, .inl (kI, 1200, .inl (fun _ => 0))), (q_147, .inl (kI, 1200, .inl (fun _ => 0))), (q_151, .inl (kZ, 360, .inl (fun _ => 0)))] := by rw [ew_153, gw_149] <;> rfl
  have gw_157 : w_157 = [(q_3, .inl (kI, 7, .inl (fun _ => 0))), (q_7, .inl (kI, 100, .inl (fun _ => 0))), (q_11, .inl (kI, 40, .inl (fun _ => 0))), (q_15, .inl (kI, 40, .inl (fun _ => 0))), (q_19, .inl (kI, 40, .inl (fun _ => 0))), (q_23, .inl (kI, 160, .inl (fun _ => 0))), (q_27, .inl (kI, 20, .inl (fun _ => 0))), (q_31, .inl (kI, 20, .inl (fun _ => 0))), (q_35, .inl (kI, 20, .inl (fun _ => 0))), (q_39, .inl (kI, 20, .inl (fun _ => 0))), (q_43, .inl (kI, 200, .inl (fun _ => 0))), (q_47, .inl (kI, 200, .inl (fun _ => 0))), (q_51, .inl (kI, 200, .inl (fun _ => 0))), (q_55, .inl (kI, 200, .inl (fun _ => 0))), (q_59, .inl (kI, 200, .inl (fun _ => 0))), (q_63, .inl (kI, 200, .inl (fun _ => 0))), (q_67, .inl (kI, 30, .inl (fun _ => 0))), (q_71, .inl (kI, 30, .inl (fun _ => 0))), (q_75, .inl (kI, 30, .inl (fun _ => 0))), (q_79, .inl (kI, 1800, .inl (fun _ => 0))), (q_83, .inl (kI, 60, .inl (fun _ => 0))), (q_87, .inl (kI, 60, .inl (fun _ => 0))), (q_91, .inl (kI, 60, .inl (fun _ => 0))), (q_95, .inl (kI, 60, .inl (fun _ => 0))), (q_99, .inl (kI, 60, .inl (fun _ => 0))), (q_103, .inl (kI, 60, .inl (fun _ => 0))), (q_107, .inl (kI, 60, .inl (fun _ => 0))), (q_111, .inl (kI, 60, .inl (fun _ => 0))), (q_115, .inl (kI, 60, .inl (fun _ => 0))), (q_119, .inl (kI, 60, .inl (fun _ => 0))), (q_123, .inl (kI, 60, .inl (fun _ => 0))), (q_127, .inl (kI, 60, .inl (fun _ => 0))), (q_131, .inl (kI, 60, .inl (fun _ => 0))), (q_135, .inl (kI, 360, .inl (fun _ => 0))), (q_139, .inl (kI, 360, .inl (fun _ => 0))), (q_143, .inl (kI, 1200, .inl (fun _ => 0))), (q_147, .inl (kI, 1200, .inl (fun _ => 0))), (q_151, .inl (kZ, 360, .inl (fun _ => 0))), (q_155, .inl (kI, 60, .inl (fun _ => 0)))] := by rw [ew_157, gw_153] <;> rfl
  have gw_161 : w_161 = [(q_3, .inl (kI, 7, .inl (fun _ => 0))), (q_7, .inl (kI, 100, .inl (fun _ => 0))), (q_11, .inl (kI, 40, .inl (fun _ => 0))), (q_15, .inl (kI, 40, .inl (fun _ => 0))), (q_19, .inl (kI, 40, .inl (fun _ => 0))), (q_23, .inl (kI, 160, .inl (fun _ => 0))), (q_27, .inl (kI, 20, .inl (fun _ => 0))), (q_31, .inl (kI, 20, .inl (fun _ => 0))), (q_35, .inl (kI, 20, .inl (fun _ => 0))), (q_39, .inl (kI, 20, .inl (fun _ => 0))), (q_43, .inl (kI, 200, .inl (fun _ => 0))), (q_47, .inl (kI, 200, .inl (fun _ => 0))), (q_51, .inl (kI, 200, .inl (fun _ => 0))), (q_55, .inl (kI, 200, .inl (fun _ => 0))), (q_59, .inl (kI, 200, .inl (fun _ => 0))), (q_63, .inl (kI, 200, .inl (fun _ => 0))), (q_67, .inl (kI, 30, .inl (fun _ => 0))), (q_71, .inl (kI, 30, .inl (fun _ => 0))), (q_75, .inl (kI, 30, .inl (fun _ => 0))), (q_79, .inl (kI, 1800, .inl (fun _ => 0))), (q_83, .inl (kI, 60, .inl (fun _ => 0))), (q_87, .inl (kI, 60, .inl (fun _ => 0))), (q_91, .inl (kI, 60, .inl (fun _ => 0))), (q_95, .inl (kI, 60, .inl (fun _ => 0))), (q_99, .inl (kI, 60, .inl (fun _ => 0))), (q_103, .inl (kI, 60, .inl (fun _ => 0))), (q_107, .inl (kI, 60, .inl (fun _ => 0))), (q_111, .inl (kI, 60, .inl (fun _ => 0))), (q_115, .inl (kI, 60, .inl (fun _ => 0))), (q_119, .inl (kI, 60, .inl (fun _ => 0))), (q_123, .inl (kI, 60, .inl (fun _ => 0))), (q_127, .inl (kI, 60, .inl (fun _ => 0))), (q_131, .inl (kI, 60, .inl (fun _ => 0))), (q_135, .inl (kI, 360, .inl (fun _ => 0))), (q_139, .inl (kI, 360, .inl (fun _ => 0))), (q_143, .inl (kI, 1200, .inl (fun _ => 0))), (q_147, .inl (kI, 1200, .inl (fun _ => 0))), (q_151, .inl (kZ, 360, .inl (fun _ => 0))), (q_155, .inl (kI, 60, .inl (fun _ => 0))), (q_159, .inl (kI, 128, .inl (fun _ => 0)))] := by rw [ew_161, gw_157] <;> rfl
  have gw_165 : w_165 = [(q_3, .inl (kI, 7, .inl (fun _ => 0))), (q_7, .inl (kI, 100, .inl (fun _ => 0))), (q_11, .inl (kI, 40, .inl (fun _ => 0))), (q_15, .inl (kI, 40, .inl (fun _ => 0))), (q_19, .inl (kI, 40, .inl (fun _ => 0))), (q_23, .inl (kI, 160, .inl (fun _ => 0))), (q_27, .inl (kI, 20, .inl (fun _ => 0))), (q_31, .inl (kI, 20, .inl (fun _ => 0))), (q_35, .inl (kI, 20, .inl (fun _ => 0))), (q_39, .inl (kI, 20, .inl (fun _ => 0))), (q_43, .inl (kI, 200, .inl (fun _ => 0))), (q_47, .inl (kI, 200, .inl (fun _ => 0))), (q_51, .inl (kI, 200, .inl (fun _ => 0))), (q_55, .inl (kI, 200, .inl (fun _ => 0))), (q_59, .inl (kI, 200, .inl (fun _ => 0))), (q_63, .inl (kI, 200, .inl (fun _ => 0))), (q_67, .inl (kI, 30, .inl (fun _ => 0))), (q_71, .inl (kI, 30, .inl (fun _ => 0))), (q_75, .inl (kI, 30, .inl (fun _ => 0))), (q_79, .inl (kI, 1800, .inl (fun _ => 0))), (q_83, .inl (kI, 60, .inl (fun _ => 0))), (q_87, .inl (kI, 60, .inl (fun _ => 0))), (q_91, .inl (kI, 60, .inl (fun _ => 0))), (q_95, .inl (kI, 60, .inl (fun _ => 0))), (q_99, .inl (kI, 60, .inl (fun _ => 0))), (q_103, .inl (kI, 60, .inl (fun _ => 0))), (q_107, .inl (kI, 60, .inl (fun _ => 0))), (q_111, .inl (kI, 60, .inl (fun _ => 0))), (q_115, .inl (kI, 60, .inl (fun _ => 0))), (q_119, .inl (kI, 60, .inl (fun _ => 0))), (q_123, .inl (kI, 60, .inl (fun _ => 0))), (q_127, .inl (kI, 60, .inl (fun _ => 0))), (q_131, .inl (kI, 60, .inl (fun _ => 0))), (q_135, .inl (kI, 360, .inl (fun _ => 0))), (q_139, .inl (kI, 360, .inl (fun _ => 0))), (q_143, .inl (kI, 1200, .inl (fun _ => 0))), (q_147, .inl (kI, 1200, .inl (fun _ => 0))), (q_151, .inl (kZ, 360, .inl (fun _ => 0))), (q_155, .inl (kI, 60, .inl (fun _ => 0))), (q_159, .inl (kI, 128, .inl (fun _ => 0))), (q_163, .inl (kI, 40, .inl (fun _ => 0)))] := by rw [ew_165, gw_161] <;> rfl
  have gw_169 : w_169 = [(q_3, .inl (kI, 7, .inl (fun _ => 0))), (q_7, .inl (kI, 100, .inl (fun _ => 0))), (q_11, .inl (kI, 40, .inl (fun _ => 0))), (q_15, .inl (kI, 40, .inl (fun _ => 0))), (q_19, .inl (kI, 40, .inl (fun _ => 0))), (q_23, .inl (kI, 160, .inl (fun _ => 0))), (q_27, .inl (kI, 20, .inl (fun _ => 0))), (q_31, .inl (kI, 20, .inl (fun _ => 0))), (q_35, .inl (kI, 20, .inl (fun _ => 0))), (q_39, .inl (kI, 20, .inl (fun _ => 0))), (q_43, .inl (kI, 200, .inl (fun _ => 0))), (q_47, .inl (kI, 200, .inl (fun _ => 0))), (q_51, .inl (kI, 200, .inl (fun _ => 0))), (q_55, .inl (kI, 200, .inl (fun _ => 0))), (q_59, .inl (kI, 200, .inl (fun _ => 0))), (q_63, .inl (kI, 200, .inl (fun _ => 0))), (q_67, .inl (kI, 30, .inl (fun _ => 0))), (q_71, .inl (kI, 30, .inl (fun _ => 0))), (q_75, .inl (kI, 30, .inl (fun _ => 0))), (q_79, .inl (kI, 1800, .inl (fun _ => 0))), (q_83, .inl (kI, 60, .inl (fun _ => 0))), (q_87, .inl (kI, 60, .inl (fun _ => 0))), (q_91, .inl (kI, 60, .inl (fun _ => 0))), (q_95, .inl (kI, 60, .inl (fun _ => 0))), (q_99, .inl (kI, 60, .inl (fun _ => 0))), (q_103, .inl (kI, 60, .inl (fun _ => 0))), (q_107, .inl (kI, 60, .inl (fun _ => 0))), (q_111, .inl (kI, 60, .inl (fun _ => 0))), (q_115, .inl (kI, 60, .inl (fun _ => 0))), (q_119, .inl (kI, 60, .inl (fun _ => 0))), (q_123, .inl (kI, 60, .inl (fun _ => 0))), (q_127, .inl (kI, 60, .inl (fun _ => 0))), (q_131, .inl (kI, 60, .inl (fun _ => 0))), (q_135, .inl (kI, 360, .inl (fun _ => 0))), (q_139, .inl (kI, 360, .inl (fun _ => 0))), (q_143, .inl (kI, 1200, .inl (fun _ => 0))), (q_147, .inl (kI, 1200, .inl (fun _ => 0))), (q_151, .inl (kZ, 360, .inl (fun _ => 0))), (q_155, .inl (kI, 60, .inl (fun _ => 0))), (q_159, .inl (kI, 128, .inl (fun _ => 0))), (q_163, .inl (kI, 40, .inl (fun _ => 0))), (q_167, .inl (kI, 10, .inl (fun _ => 0)))] := by rw [ew_169, gw_165] <;> rfl
  have gw_173 : w_173 = [(q_3, .inl (kI, 7, .inl (fun _ => 0))), (q_7, .inl (kI, 100, .inl (fun _ => 0))), (q_11, .inl (kI, 40, .inl (fun _ => 0))), (q_15, .inl (kI, 40, .inl (fun _ => 0))), (q_19, .inl (kI, 40, .inl (fun _ => 0))), (q_23, .inl (kI, 160, .inl (fun _ => 0))), (q_27, .inl (kI, 20, .inl (fun _ => 0))), (q_31, .inl (kI, 20, .inl (fun _ => 0))), (q_35, .inl (kI, 20, .inl (fun _ => 0))), (q_39, .inl (kI, 20, .inl (fun _ => 0))), (q_43, .inl (kI, 200, .inl (fun _ => 0))), (q_47, .inl (kI, 200, .inl (fun _ => 0))), (q_51, .inl (kI, 200, .inl (fun _ => 0))), (q_55, .inl (kI, 200, .inl (fun _ => 0))), (q_59, .inl (kI, 200, .inl (fun _ => 0))), (q_63, .inl (kI, 200, .inl (fun _ => 0))), (q_67, .inl (kI, 30, .inl (fun _ => 0))), (q_71, .inl (kI, 30, .inl (fun _ => 0))), (q_75, .inl (kI, 30, .inl (fun _ => 0))), (q_79, .inl (kI, 1800, .inl (fun _ => 0))), (q_83, .inl (kI, 60, .inl (fun _ => 0))), (q_87, .inl (kI, 60, .inl (fun _ => 0))), (q_91, .inl (kI, 60, .inl (fun _ => 0))), (q_95, .inl (kI, 60, .inl (fun _ => 0))), (q_99, .inl (kI, 60, .inl (fun _ => 0))), (q_103, .inl (kI, 60, .inl (fun _ => 0))), (q_107, .inl (kI, 60, .inl (fun _ => 0))), (q_111, .inl (kI, 60, .inl (fun _ => 0))), (q_115, .inl (kI, 60, .inl (fun _ => 0))), (q_119, .inl (kI, 60, .inl (fun _ => 0))), (q_123, .inl (kI, 60, .inl (fun _ => 0))), (q_127, .inl (kI, 60, .inl (fun _ => 0))), (q_131, .inl (kI, 60, .inl (fun _ => 0))), (q_135, .inl (kI, 360, .inl (fun _ => 0))), (q_139, .inl (kI, 360, .inl (fun _ => 0))), (q_143, .inl (kI, 1200, .inl (fun _ => 0))), (q_147, .inl (kI, 1200, .inl (fun _ => 0))), (q_151, .inl (kZ, 360, .inl (fun _ => 0))), (q_155, .inl (kI, 60, .inl (fun _ => 0))), (q_159, .inl (kI, 128, .inl (fun _ => 0))), (q_163, .inl (kI, 40, .inl (fun _ => 0))), (q_167, .inl (kI, 10, .inl (fun _ => 0))), (q_171, .inl (kI, 12, .inl (fun _ => 0)))] := by rw [ew_173, gw_169] <;> rfl
  have gw_177 : w_177 = [(q_3, .inl (kI, 7, .inl (fun _ => 0))), (q_7, .inl (kI, 100, .inl (fun _ => 0))), (q_11, .inl (kI, 40, .inl (fun _ => 0))), (q_15, .inl (kI, 40, .inl (fun _ => 0))), (q_19, .inl (kI, 40, .inl (fun _ => 0))), (q_23, .inl (kI, 160, .inl (fun _ => 0))), (q_27, .inl (kI, 20, .inl (fun _ => 0))), (q_31, .inl (kI, 20, .inl (fun _ => 0))), (q_35, .inl (kI, 20, .inl (fun _ => 0))), (q_39, .inl (kI, 20, .inl (fun _ => 0))), (q_43, .inl (kI, 200, .inl (fun _ => 0))), (q_47, .inl (kI, 200, .inl (fun _ => 0))), (q_51, .inl (kI, 200, .inl (fun _ => 0))), (q_55, .inl (kI, 200, .inl (fun _ => 0))), (q_59, .inl (kI, 200, .inl (fun _ => 0))), (q_63, .inl (kI, 200, .inl (fun _ => 0))), (q_67, .inl (kI, 30, .inl (fun _ => 0))), (q_71, .inl (kI, 30, .inl (fun _ => 0))), (q_75, .inl (kI, 30, .inl (fun _ => 0))), (q_79, .inl (kI, 1800, .inl (fun _ => 0))), (q_83, .inl (kI, 60, .inl (fun _ => 0))), (q_87, .inl (kI, 60, .inl (fun _ => 0))), (q_91, .inl (kI, 60, .inl (fun _ => 0))), (q_95, .inl (kI, 60, .inl (fun _ => 0))), (q_99, .inl (kI, 60, .inl (fun _ => 0))), (q_103, .inl (kI, 60, .inl (fun _ => 0))), (q_107, .inl (kI, 60, .inl (fun _ => 0))), (q_111, .inl (kI, 60, .inl (fun _ => 0))), (q_115, .inl (kI, 60, .inl (fun _ => 0))), (q_119, .inl (kI, 60, .inl (fun _ => 0))), (q_123, .inl (kI, 60, .inl (fun _ => 0))), (q_127, .inl (kI, 60, .inl (fun _ => 0))), (q_131, .inl (kI, 60, .inl (fun _ => 0))), (q_135, .inl (kI, 360, .inl (fun _ => 0))), (q_139, .inl (kI, 360, .inl (fun _ => 0))), (q_143, .inl (kI, 1200, .inl (fun _ => 0))), (q_147, .inl (kI, 1200, .inl (fun _ => 0))), (q_151, .inl (kZ, 360, .inl (fun _ => 0))), (q_155, .inl (kI, 60, .inl (fun _ => 0))), (q_159, .inl (kI, 128, .inl (fun _ => 0))), (q_163, .inl (kI, 40, .inl (fun _ => 0))), (q_167, .inl (kI, 10, .inl (fun _ => 0))), (q_171, .inl (kI, 12, .inl (fun _ => 0))), (q_175, .inl (kI, 8, .inl (fun _ => 0)))] := by rw [ew_177, gw_173] <;> rfl
  have gw_181 : w_181 = [(q_3, .inl (kI, 7, .inl (fun _ => 0))), (q_7, .inl (kI, 100, .inl (fun _ => 0))), (q_11, .inl (kI, 40, .inl (fun _ => 0))), (q_15, .inl (kI, 40, .inl (fun _ => 0))), (q_19, .inl (kI, 40, .inl (fun _ => 0))), (q_23, .inl (kI, 160, .inl (fun _ => 0))), (q_27, .inl (kI, 20, .inl (fun _ => 0))), (q_31, .inl (kI, 20, .inl (fun _ => 0))), (q_35, .inl (kI, 20, .inl (fun _ => 0))), (q_39, .inl (kI, 20, .inl (fun _ => 0))), (q_43, .inl (kI, 200, .inl (fun _ => 0))), (q_47, .inl (kI, 200, .inl (fun _ => 0))), (q_51, .inl (kI, 200, .inl (fun _ => 0))), (q_55, .inl (kI, 200, .inl (fun _ => 0))), (q_59, .inl (kI, 200, .inl (fun _ => 0))), (q_63, .inl (kI, 200, .inl (fun _ => 0))), (q_67, .inl (kI, 30, .inl (fun _ => 0))), (q_71, .inl (kI, 30, .inl (fun _ => 0))), (q_75, .inl (kI, 30, .inl (fun _ => 0))), (q_79, .inl (kI, 1800, .inl (fun _ => 0))), (q_83, .inl (kI, 60, .inl (fun _ => 0))), (q_87, .inl (kI, 60, .inl (fun _ => 0))), (q_91, .inl (kI, 60, .inl (fun _ => 0))), (q_95, .inl (kI, 60, .inl (fun _ => 0))), (q_99, .inl (kI, 60, .inl (fun _ => 0))), (q_103, .inl (kI, 60, .inl (fun _ => 0))), (q_107, .inl (kI, 60, .inl (fun _ => 0))), (q_111, .inl (kI, 60, .inl (fun _ => 0))), (q_115, .inl (kI, 60, .inl (fun _ => 0))), (q_119, .inl (kI, 60, .inl (fun _ => 0))), (q_123, .inl (kI, 60, .inl (fun _ => 0))), (q_127, .inl (kI, 60, .inl (fun _ => 0))), (q_131, .inl (kI, 60, .inl (fun _ => 0))), (q_135, .inl (kI, 360, .inl (fun _ => 0))), (q_139, .inl (kI, 360, .inl (fun _ => 0))), (q_143, .inl (kI, 1200, .inl (fun _ => 0))), (q_147, .inl (kI, 1200, .inl (fun _ => 0))), (q_151, .inl (kZ, 360, .inl (fun _ => 0))), (q_155, .inl (kI, 60, .inl (fun _ => 0))), (q_159, .inl (kI, 128, .inl (fun _ => 0))), (q_163, .inl (kI, 40, .inl (fun _ => 0))), (q_167, .inl (kI, 10, .inl (fun _ => 0))), (q_171, .inl (kI, 12, .inl (fun _ => 0))), (q_175, .inl (kI, 8, .inl (fun _ => 0))), (q_179, .inl (kI, 8, .inl (fun _ => 0)))] := by rw [ew_181, gw_177] <;> rfl
  have gw_185 : w_185 = [(q_3, .inl (kI, 7, .inl (fun _ => 0))), (q_7, .inl (kI, 100, .inl (fun _ => 0))), (q_11, .inl (kI, 40, .inl (fun _ => 0))), (q_15, .inl (kI, 40, .inl (fun _ => 0))), (q_19, .inl (kI, 40, .inl (fun _ => 0))), (q_23, .inl (kI, 160, .inl (fun _ => 0))), (q_27, .inl (kI, 20, .inl (fun _ => 0))), (q_31, .inl (kI, 20, .inl (fun _ => 0))), (q_35, .inl (kI, 20, .inl (fun _ => 0))), (q_39, .inl (kI, 20, .inl (fun _ => 0))), (q_43, .inl (kI, 200, .inl (fun _ => 0))), (q_47, .inl (kI, 200, .inl (fun _ => 0))), (q_51, .inl (kI, 200, .inl (fun _ => 0))), (q_55, .inl (kI, 200, .inl (fun _ => 0))), (q_59, .inl (kI, 200, .inl (fun _ => 0))), (q_63, .inl (kI, 200, .inl (fun _ => 0))), (q_67, .inl (kI, 30, .inl (fun _ => 0))), (q_71, .inl (kI, 30, .inl (fun _ => 0))), (q_75, .inl (kI, 30, .inl (fun _ => 0))), (q_79, .inl (kI, 1800, .inl (fun _ => 0))), (q_83, .inl (kI, 60, .inl (fun _ => 0))), (q_87, .inl (kI, 60, .inl (fun _ => 0))), (q_91, .inl (kI, 60, .inl (fun _ => 0))), (q_95, .inl (kI, 60, .inl (fun _ => 0))), (q_99, .inl (kI, 60, .inl (fun _ => 0))), (q_103, .inl (kI, 60, .inl (fun _ => 0))), (q_107, .inl (kI, 60, .inl (fun _ => 0))), (q_111, .inl (kI, 60, .inl (fun _ => 0))), (q_115, .inl (kI, 60, .inl (fun _ => 0))), (q_119, .inl (kI, 60, .inl (fun _ => 0))), (q_123, .inl (kI, 60, .inl (fun _ => 0))), (q_127, .inl (kI, 60, .inl (fun _ => 0))), (q_131, .inl (kI, 60, .inl (fun _ => 0))), (q_135, .inl (kI, 360, .inl (fun _ => 0))), (q_139, .inl (kI, 360, .inl (fun _ => 0))), (q_143, .inl (kI, 1200, .inl (fun _ => 0))), (q_147, .inl (kI, 1200, .inl (fun _ => 0))), (q_151, .inl (kZ, 360, .inl (fun _ => 0))), (q_155, .inl (kI, 60, .inl (fun _ => 0))), (q_159, .inl (kI, 128, .inl (fun _ => 0))), (q_163, .inl (kI, 40, .inl (fun _ => 0))), (q_167, .inl (kI, 10, .inl (fun _ => 0))), (q_171, .inl (kI, 12, .inl (fun _ => 0))), (q_175, .inl (kI, 8, .inl (fun _ => 0))), (q_179, .inl (kI, 8, .inl (fun _ => 0))), (q_183, .inl (kI, 8, .inl (fun _ => 0)))] := by rw [ew_185, gw_181] <;> rfl
  have gw_189 : w_189 = [(q_3, .inl (kI, 7, .inl (fun _ => 0))), (q_7, .inl (kI, 100, .inl (fun _ => 0))), (q_11, .inl (kI, 40, .inl (fun _ => 0))), (q_15, .inl (kI, 40, .inl (fun _ => 0))), (q_19, .inl (kI, 40, .inl (fun _ => 0))), (q_23, .inl (kI, 160, .inl (fun _ => 0))), (q_27, .inl (kI, 20, .inl (fun _ => 0))), (q_31, .inl (kI, 20, .inl (fun _ => 0))), (q_35, .inl (kI, 20, .inl (fun _ => 0))), (q_39, .inl (kI, 20, .inl (fun _ => 0))), (q_43, .inl (kI, 200, .inl (fun _ => 0))), (q_47, .inl (kI, 200, .inl (fun _ => 0))), (q_51, .inl (kI, 200, .inl (fun _ => 0))), (q_55, .inl (kI, 200, .inl (fun _ => 0))), (q_59, .inl (kI, 200, .inl (fun _ => 0))), (q_63, .inl (kI, 200, .inl (fun _ => 0))), (q_67, .inl (kI, 30, .inl (fun _ => 0))), (q_71, .inl (kI, 30, .inl (fun _ => 0))), (q_75, .inl (kI, 30, .inl (fun _ => 0))), (q_79, .inl (kI, 1800, .inl (fun _ => 0))), (q_83, .inl (kI, 60, .inl (fun _ => 0))), (q_87, .inl (kI, 60, .inl (fun _ => 0))), (q_91, .inl (kI, 60, .inl (fun _ => 0))), (q_95, .inl (kI, 60, .inl (fun _ => 0))), (q_99, .inl (kI, 60, .inl (fun _ => 0))), (q_103, .inl (kI, 60, .inl (fun _ => 0))), (q_107, .inl (kI, 60, .inl (fun _ => 0))), (q_111, .inl (kI, 60, .inl (fun _ => 0))), (q_115, .inl (kI, 60, .inl (fun _ => 0))), (q_119, .inl (kI, 60, .inl (fun _ => 0))), (q_123, .inl (kI, 60, .inl (fun _ => 0))), (q_127, .inl (kI, 60, .inl (fun _ => 0))), (q_131, .inl (kI, 60, .inl (fun _ => 0))), (q_135, .inl (kI, 360, .inl (fun _ => 0))), (q_139, .inl (kI, 360, .inl (fun _ => 0))), (q_143, .inl (kI, 1200, .inl (fun _ => 0))), (q_147, .inl (kI, 1200, .inl (fun _ => 0))), (q_151, .inl (kZ, 360, .inl (fun _ => 0))), (q_155, .inl (kI, 60, .inl (fun _ => 0))), (q_159, .inl (kI, 128, .inl (fun _ => 0))), (q_163, .inl (kI, 40, .inl (fun _ => 0))), (q_167, .inl (kI, 10, .inl (fun _ => 0))), (q_171, .inl (kI, 12, .inl (fun _ => 0))), (q_175, .inl (kI, 8, .inl (fun _ => 0))), (q_179, .inl (kI, 8, .inl (fun _ => 0))), (q_183, .inl (kI, 8, .inl (fun _ => 0))), (q_187, .inl (kI, 12, .inl (fun _ => 0)))] := by rw [ew_189, gw_185] <;> rfl
  exact gw_189
set_option maxHeartbeats 4000000 in
set_option maxRecDepth 100000 in
theorem mi_out2 {D : va_G} {H : Heap} {A : Nat → Prop} {s : State} {g0 : Nat} (q_3 q_7 q_11 q_15 q_19 q_23 q_27 q_31 q_35 q_39 q_43 q_47 q_51 q_55 q_59 q_63 q_67 q_71 q_75 q_79 q_83 q_87 q_91 q_95 q_99 q_103 q_107 q_111 q_115 q_119 q_123 q_127 q_131 q_135 q_139 q_143 q_147 q_151 q_155 q_159 q_163 q_167 q_171 q_175 q_179 q_183 q_187 : Nat) (kI kZ : ClassId) (hP : va_P D vwCl ((g0, .inr (11, [.ref q_3, .ref q_7, .ref q_11, .ref q_15, .ref q_19, .ref q_23, .ref q_27, .ref q_31, .ref q_35, .ref q_39, .ref q_43, .ref q_47, .ref q_51, .ref q_55, .ref q_59, .ref q_63, .ref q_67, .ref q_71, .ref q_75, .ref q_79, .ref q_83, .ref q_87, .ref q_91, .ref q_95, .ref q_99, .ref q_103, .ref q_107, .ref q_111, .ref q_115, .ref q_119, .ref q_123, .ref q_127, .ref q_131, .ref q_135, .ref q_139, .ref q_143, .ref q_147, .ref q_151, .int 0, .int 0, .int 0, .int 0, .int 0, .int 0, .ref q_155, .ref q_159, .int 0, .int 0, .int 0, .int 0, .int 0, .int 0, .ref q_163, .ref q_167, .ref q_171, .ref q_175, .ref q_179, .ref q_183, .int 0, .int 0, .int 0, .ref q_187, .int 0])) :: [(q_3, .inl (kI, 7, .inl (fun _ => 0))), (q_7, .inl (kI, 100, .inl (fun _ => 0))), (q_11, .inl (kI, 40, .inl (fun _ => 0))), (q_15, .inl (kI, 40, .inl (fun _ => 0))), (q_19, .inl (kI, 40, .inl (fun _ => 0))), (q_23, .inl (kI, 160, .inl (fun _ => 0))), (q_27, .inl (kI, 20, .inl (fun _ => 0))), (q_31, .inl (kI, 20, .inl (fun _ => 0))), (q_35, .inl (kI, 20, .inl (fun _ => 0))), (q_39, .inl (kI, 20, .inl (fun _ => 0))), (q_43, .inl (kI, 200, .inl (fun _ => 0))), (q_47, .inl (kI, 200, .inl (fun _ => 0))), (q_51, .inl (kI, 200, .inl (fun _ => 0))), (q_55, .inl (kI, 200, .inl (fun _ => 0))), (q_59, .inl (kI, 200, .inl (fun _ => 0))), (q_63, .inl (kI, 200, .inl (fun _ => 0))), (q_67, .inl (kI, 30, .inl (fun _ => 0))), (q_71, .inl (kI, 30, .inl (fun _ => 0))), (q_75, .inl (kI, 30, .inl (fun _ => 0))), (q_79, .inl (kI, 1800, .inl (fun _ => 0))), (q_83, .inl (kI, 60, .inl (fun _ => 0))), (q_87, .inl (kI, 60, .inl (fun _ => 0))), (q_91, .inl (kI, 60, .inl (fun _ => 0))), (q_95, .inl (kI, 60, .inl (fun _ => 0))), (q_99, .inl (kI, 60, .inl (fun _ => 0))), (q_103, .inl (kI, 60, .inl (fun _ => 0))), (q_107, .inl (kI, 60, .inl (fun _ => 0))), (q_111, .inl (kI, 60, .inl (fun _ => 0))), (q_115, .inl (kI, 60, .inl (fun _ => 0))), (q_119, .inl (kI, 60, .inl (fun _ => 0))), (q_123, .inl (kI, 60, .inl (fun _ => 0))), (q_127, .inl (kI, 60, .inl (fun _ => 0))), (q_131, .inl (kI, 60, .inl (fun _ => 0))), (q_135, .inl (kI, 360, .inl (fun _ => 0))), (q_139, .inl (kI, 360, .inl (fun _ => 0))), (q_143, .inl (kI, 1200, .inl (fun _ => 0))), (q_147, .inl (kI, 1200, .inl (fun _ => 0))), (q_151, .inl (kZ, 360, .inl (fun _ => 0))), (q_155, .inl (kI, 60, .inl (fun _ => 0))), (q_159, .inl (kI, 128, .inl (fun _ => 0))), (q_163, .inl (kI, 40, .inl (fun _ => 0))), (q_167, .inl (kI, 10, .inl (fun _ => 0))), (q_171, .inl (kI, 12, .inl (fun _ => 0))), (q_175, .inl (kI, 8, .inl (fun _ => 0))), (q_179, .inl (kI, 8, .inl (fun _ => 0))), (q_183, .inl (kI, 8, .inl (fun _ => 0))), (q_187, .inl (kI, 12, .inl (fun _ => 0)))]) H) (hD : va_D A ((g0, .inr (11, [.ref q_3, .ref q_7, .ref q_11, .ref q_15, .ref q_19, .ref q_23, .ref q_27, .ref q_31, .ref q_35, .ref q_39, .ref q_43, .ref q_47, .ref q_51, .ref q_55, .ref q_59, .ref q_63, .ref q_67, .ref q_71, .ref q_75, .ref q_79, .ref q_83, .ref q_87, .ref q_91, .ref q_95, .ref q_99, .ref q_103, .ref q_107, .ref q_111, .ref q_115, .ref q_119, .ref q_123, .ref q_127, .ref q_131, .ref q_135, .ref q_139, .ref q_143, .ref q_147, .ref q_151, .int 0, .int 0, .int 0, .int 0, .int 0, .int 0, .ref q_155, .ref q_159, .int 0, .int 0, .int 0, .int 0, .int 0, .int 0, .ref q_163, .ref q_167, .ref q_171, .ref q_175, .ref q_179, .ref q_183, .int 0, .int 0, .int 0, .ref q_187, .int 0])) :: [(q_3, .inl (kI, 7, .inl (fun _ => 0))), (q_7, .inl (kI, 100, .inl (fun _ => 0))), (q_11, .inl (kI, 40, .inl (fun _ => 0))), (q_15, .inl (kI, 40, .inl (fun _ => 0))), (q_19, .inl (kI, 40, .inl (fun _ => 0))), (q_23, .inl (kI, 160, .inl (fun _ => 0))), (q_27, .inl (kI, 20, .inl (fun _ => 0))), (q_31, .inl (kI, 20, .inl (fun _ => 0))), (q_35, .inl (kI, 20, .inl (fun _ => 0))), (q_39, .inl (kI, 20, .inl (fun _ => 0))), (q_43, .inl (kI, 200, .inl (fun _ => 0))), (q_47, .inl (kI, 200, .inl (fun _ => 0))), (q_51, .inl (kI, 200, .inl (fun _ => 0))), (q_55, .inl (kI, 200, .inl (fun _ => 0))), (q_59, .inl (kI, 200, .inl (fun _ => 0))), (q_63, .inl (kI, 200, .inl (fun _ => 0))), (q_67, .inl (kI, 30, .inl (fun _ => 0))), (q_71, .inl (kI, 30, .inl (fun _ => 0))), (q_75, .inl (kI, 30, .inl (fun _ => 0))), (q_79, .inl (kI, 1800, .inl (fun _ => 0))), (q_83, .inl (kI, 60, .inl (fun _ => 0))), (q_87, .inl (kI, 60, .inl (fun _ => 0))), (q_91, .inl (kI, 60, .inl (fun _ => 0))), (q_95, .inl (kI, 60, .inl (fun _ => 0))), (q_99, .inl (kI, 60, .inl (fun _ => 0))), (q_103, .inl (kI, 60, .inl (fun _ => 0))), (q_107, .inl (kI, 60, .inl (fun _ => 0))), (q_111, .inl (kI, 60, .inl (fun _ => 0))), (q_115, .inl (kI, 60, .inl (fun _ => 0))), (q_119, .inl (kI, 60, .inl (fun _ => 0))), (q_123, .inl (kI, 60, .inl (fun _ => 0))), (q_127, .inl (kI, 60, .inl (fun _ => 0))), (q_131, .inl (kI, 60, .inl (fun _ => 0))), (q_135, .inl (kI, 360, .inl (fun _ => 0))), (q_139, .inl (kI, 360, .inl (fun _ => 0))), (q_143, .inl (kI, 1200, .inl (fun _ => 0))), (q_147, .inl (kI, 1200, .inl (fun _ => 0))), (q_151, .inl (kZ, 360, .inl (fun _ => 0))), (q_155, .inl (kI, 60, .inl (fun _ => 0))), (q_159, .inl (kI, 128, .inl (fun _ => 0))), (q_163, .inl (kI, 40, .inl (fun _ => 0))), (q_167, .inl (kI, 10, .inl (fun _ => 0))), (q_171, .inl (kI, 12, .inl (fun _ => 0))), (q_175, .inl (kI, 8, .inl (fun _ => 0))), (q_179, .inl (kI, 8, .inl (fun _ => 0))), (q_183, .inl (kI, 8, .inl (fun _ => 0))), (q_187, .inl (kI, 12, .inl (fun _ => 0)))])) (hK : va_K D vwCl [(kI, .int), (kZ, .boolean)] s) : ∃ u : (Nat → Nat) × (Nat → ClassId), va_P D vwCl (mW g0 u.1 u.2 (fun _ => 0) (fun _ _ => 0)) H ∧ va_K D vwCl (mT u.2) s ∧ va_D A (mW g0 u.1 u.2 (fun _ => 0) (fun _ _ => 0)) := by
  obtain ⟨qf, rfl, rfl, rfl, rfl, rfl, rfl, rfl, rfl, rfl, rfl, rfl, rfl, rfl, rfl, rfl, rfl, rfl, rfl, rfl, rfl, rfl, rfl, rfl, rfl, rfl, rfl, rfl, rfl, rfl, rfl, rfl, rfl, rfl, rfl, rfl, rfl, rfl, rfl, rfl, rfl, rfl, rfl, rfl, rfl, rfl, rfl, rfl⟩ : ∃ qf : Nat → Nat, qf 0 = q_3 ∧ qf 1 = q_7 ∧ qf 2 = q_11 ∧ qf 3 = q_15 ∧ qf 4 = q_19 ∧ qf 5 = q_23 ∧ qf 6 = q_27 ∧ qf 7 = q_31 ∧ qf 8 = q_35 ∧ qf 9 = q_39 ∧ qf 10 = q_43 ∧ qf 11 = q_47 ∧ qf 12 = q_51 ∧ qf 13 = q_55 ∧ qf 14 = q_59 ∧ qf 15 = q_63 ∧ qf 16 = q_67 ∧ qf 17 = q_71 ∧ qf 18 = q_75 ∧ qf 19 = q_79 ∧ qf 20 = q_83 ∧ qf 21 = q_87 ∧ qf 22 = q_91 ∧ qf 23 = q_95 ∧ qf 24 = q_99 ∧ qf 25 = q_103 ∧ qf 26 = q_107 ∧ qf 27 = q_111 ∧ qf 28 = q_115 ∧ qf 29 = q_119 ∧ qf 30 = q_123 ∧ qf 31 = q_127 ∧ qf 32 = q_131 ∧ qf 33 = q_135 ∧ qf 34 = q_139 ∧ qf 35 = q_143 ∧ qf 36 = q_147 ∧ qf 37 = q_151 ∧ qf 44 = q_155 ∧ qf 45 = q_159 ∧ qf 52 = q_163 ∧ qf 53 = q_167 ∧ qf 54 = q_171 ∧ qf 55 = q_175 ∧ qf 56 = q_179 ∧ qf 57 = q_183 ∧ qf 61 = q_187 := ⟨(fun i => if i = 0 then q_3 else if i = 1 then q_7 else if i = 2 then q_11 else if i = 3 then q_15 else if i = 4 then q_19 else if i = 5 then q_23 else if i = 6 then q_27 else if i = 7 then q_31 else if i = 8 then q_35 else if i = 9 then q_39 else if i = 10 then q_43 else if i = 11 then q_47 else if i = 12 then q_51 else if i = 13 then q_55 else if i = 14 then q_59 else if i = 15 then q_63 else if i = 16 then q_67 else if i = 17 then q_71 else if i = 18 then q_75 else if i = 19 then q_79 else if i = 20 then q_83 else if i = 21 then q_87 else if i = 22 then q_91 else if i = 23 then q_95 else if i = 24 then q_99 else if i = 25 then q_103 else if i = 26 then q_107 else if i = 27 then q_111 else if i = 28 then q_115 else if i = 29 then q_119 else if i = 30 then q_123 else if i = 31 then q_127 else if i = 32 then q_131 else if i = 33 then q_135 else if i = 34 then q_139 else if i = 35 then q_143 else if i = 36 then q_147 else if i = 37 then q_151 else if i = 44 then q_155 else if i = 45 then q_159 else if i = 52 then q_163 else if i = 53 then q_167 else if i = 54 then q_171 else if i = 55 then q_175 else if i = 56 then q_179 else if i = 57 then q_183 else if i = 61 then q_187 else 0), rfl, rfl, rfl, rfl, rfl, rfl, rfl, rfl, rfl, rfl, rfl, rfl, rfl, rfl, rfl, rfl, rfl, rfl, rfl, rfl, rfl, rfl, rfl, rfl, rfl, rfl, rfl, rfl, rfl, rfl, rfl, rfl, rfl, rfl, rfl, rfl, rfl, rfl, rfl, rfl, rfl, rfl, rfl, rfl, rfl, rfl, rfl⟩
  exact ⟨(qf, fun i => if i = 37 then kZ else kI), hP.sub [0, 1, 2, 3, 4, 5, 6, 7, 8, 9, 10, 11, 12, 13, 14, 15, 16, 17, 18, 19, 20, 21, 22, 23, 24, 25, 26, 27, 28, 29, 30, 31, 32, 33, 34, 35, 36, 37, 38, 39, 40, 41, 42, 43, 44, 45, 46, 47] rfl, hK.sub [0, 0, 0, 0, 0, 0, 0, 0, 0, 0, 0, 0, 0, 0, 0, 0, 0, 0, 0, 0, 0, 0, 0, 0, 0, 0, 0, 0, 0, 0, 0, 0, 0, 0, 0, 0, 0, 1, 0, 0, 0, 0, 0, 0, 0, 0, 0] rfl, hD.sub [0, 1, 2, 3, 4, 5, 6, 7, 8, 9, 10, 11, 12, 13, 14, 15, 16, 17, 18, 19, 20, 21, 22, 23, 24, 25, 26, 27, 28, 29, 30, 31, 32, 33, 34, 35, 36, 37, 38, 39, 40, 41, 42, 43, 44, 45, 46, 47] (by decide +kernel) rfl⟩
set_option maxHeartbeats 4000000 in
set_option maxRecDepth 100000 in
theorem c_X11_init (l : Launch) (dC : Nat → ClassId) (dI : Nat → Nat → Nat) (sz : Nat) (g0 : Nat) : Met l yX11_init wsX11_init ({ frames := 1, cells := 47, slots := 8103, locals := 14 }) (va_Pc [.ref g0] (pcW (dC, dI) [] [(g0, .inr (11, [.null, .null, .null, .null, .null, .null, .null, .null, .null, .null, .null, .null, .null, .null, .null, .null, .null, .null, .null, .null, .null, .null, .null, .null, .null, .null, .null, .null, .null, .null, .null, .null, .null, .null, .null, .null, .null, .null, .int 0, .int 0, .int 0, .int 0, .int 0, .int 0, .null, .null, .int 0, .int 0, .int 0, .int 0, .int 0, .int 0, .null, .null, .null, .null, .null, .null, .int 0, .int 0, .int 0, .null, .int 0]))] sz)) (va_Qv (fun (u : (Nat → Nat) × (Nat → ClassId)) => True) (fun u t => va_P (dC, dI) vwCl (mW g0 u.1 u.2 (fun _ => 0) (fun _ _ => 0)) t.heap ∧ va_K (dC, dI) vwCl (mT u.2) t ∧ va_D (va_A [(g0, .inr (11, [.null, .null, .null, .null, .null, .null, .null, .null, .null, .null, .null, .null, .null, .null, .null, .null, .null, .null, .null, .null, .null, .null, .null, .null, .null, .null, .null, .null, .null, .null, .null, .null, .null, .null, .null, .null, .null, .null, .int 0, .int 0, .int 0, .int 0, .int 0, .int 0, .null, .null, .int 0, .int 0, .int 0, .int 0, .int 0, .int 0, .null, .null, .null, .null, .null, .null, .int 0, .int 0, .int 0, .null, .int 0]))] sz) (mW g0 u.1 u.2 (fun _ => 0) (fun _ _ => 0))) (va_A [(g0, .inr (11, [.null, .null, .null, .null, .null, .null, .null, .null, .null, .null, .null, .null, .null, .null, .null, .null, .null, .null, .null, .null, .null, .null, .null, .null, .null, .null, .null, .null, .null, .null, .null, .null, .null, .null, .null, .null, .null, .null, .int 0, .int 0, .int 0, .int 0, .int 0, .int 0, .null, .null, .int 0, .int 0, .int 0, .int 0, .int 0, .int 0, .null, .null, .null, .null, .null, .null, .int 0, .int 0, .int 0, .null, .int 0]))] sz)) 47 8103 (va_A [(g0, .inr (11, [.null, .null, .null, .null, .null, .null, .null, .null, .null, .null, .null, .null, .null, .null, .null, .null, .null, .null, .null, .null, .null, .null, .null, .null, .null, .null, .null, .null, .null, .null, .null, .null, .null, .null, .null, .null, .null, .null, .int 0, .int 0, .int 0, .int 0, .int 0, .int 0, .null, .null, .int 0, .int 0, .int 0, .int 0, .int 0, .int 0, .null, .null, .null, .null, .null, .null, .int 0, .int 0, .int 0, .null, .int 0]))] sz) := by
  refine Met.ofW (cc := cX11_init) (maxL := 1) (ret := none) (by decide +kernel) rfl ?_
  intro p e s m args below meth c s₁ B hml hv
  obtain ⟨rfl, hsz, hP, hK, hD0⟩ := hv
  have hx := B.exec
  have hb := B.bytes
  have hr := B.returns
  have hts := atoms_spec (ws := wsX11_init) B.pre
  have hown : s.vm.findClass RX11 = some m.cls := findClass_of_methodNamed B.named
  have hlocks := B.notSynchronized
  have hin : meth.name = "<init>" := (name_of_methodNamed B.named B.method).1
  subst hsz
  have hD := hD0.self (sz := s.heap.size)
  generalize hAe : va_A [(g0, .inr (11, [.null, .null, .null, .null, .null, .null, .null, .null, .null, .null, .null, .null, .null, .null, .null, .null, .null, .null, .null, .null, .null, .null, .null, .null, .null, .null, .null, .null, .null, .null, .null, .null, .null, .null, .null, .null, .null, .null, .int 0, .int 0, .int 0, .int 0, .int 0, .int 0, .null, .null, .int 0, .int 0, .int 0, .int 0, .int 0, .int 0, .null, .null, .null, .null, .null, .null, .int 0, .int 0, .int 0, .null, .int 0]))] s.heap.size = A at hD ⊢
  have hA : ∀ q : Nat, s.heap.size ≤ q → A q := fun q h => by rw [← hAe]; exact Or.inr h
  have hS : va_S A s.heap s.heap [] := va_S.rf
  have hP : va_P (dC, dI) vwCl [(g0, .inr (11, [.null, .null, .null, .null, .null, .null, .null, .null, .null, .null, .null, .null, .null, .null, .null, .null, .null, .null, .null, .null, .null, .null, .null, .null, .null, .null, .null, .null, .null, .null, .null, .null, .null, .null, .null, .null, .null, .null, .int 0, .int 0, .int 0, .int 0, .int 0, .int 0, .null, .null, .int 0, .int 0, .int 0, .int 0, .int 0, .int 0, .null, .null, .null, .null, .null, .null, .int 0, .int 0, .int 0, .null, .int 0]))] s.heap := hP
  have hl := lv_entry ([.ref g0]) (n := 1) (Nat.le_of_ble_eq_true rfl)
  rw [lg_entry_eq]
  generalize (lg_sl ([.ref g0]) ++ List.replicate (1 - (lg_sl ([.ref g0])).length) Slot.unset).toArray = ls at hl ⊢
  have hl : lv_has ls 1 [(0, .ref g0)] := hl
  obtain ⟨f_1, ef_1⟩ : ∃ zq : List Value, zq = [.null, .null, .null, .null, .null, .null, .null, .null, .null, .null, .null, .null, .null, .null, .null, .null, .null, .null, .null, .null, .null, .null, .null, .null, .null, .null, .null, .null, .null, .null, .null, .null, .null, .null, .null, .null, .null, .null, .int 0, .int 0, .int 0, .int 0, .int 0, .int 0, .null, .null, .int 0, .int 0, .int 0, .int 0, .int 0, .int 0, .null, .null, .null, .null, .null, .null, .int 0, .int 0, .int 0, .null, .int 0] := ⟨_, rfl⟩
  obtain ⟨w_2, ew_2⟩ : ∃ zq : va_W, zq = [] := ⟨_, rfl⟩
  have hnf_1 : f_1.length = 63 := by rw [ef_1]; rfl
  have hP : va_P (dC, dI) vwCl ((g0, .inr (11, f_1)) :: w_2) s.heap := by rw [ef_1, ew_2]; exact hP
  have hD : va_D A ((g0, .inr (11, f_1)) :: w_2) := by rw [ef_1, ew_2]; exact hD
  refine lv_aload_n hx hb dX11_init_0 rfl (lv_at hl 0 rfl) ?_
  refine W.objInit hx hb hown (hts (.methodLink RX11 1 objectInit) iw_X11_init_1) (hts (.instanceMethod objectInit) iw_X11_init_2) (hts (.code objectInit ⟨#[0xb1]⟩ 1 none) (in_obj_wsX11_init)) rfl (by rw [hml]; exact hl.1) rfl dX11_init_1 (Nat.le_of_ble_eq_true rfl) (Nat.le_of_ble_eq_true rfl) ?_
  refine W.eq (g2 := F0 m 4 ls []) rfl ?_
  refine lv_aload_n hx hb dX11_init_4 rfl (lv_at hl 0 rfl) ?_
  refine lv_bipush (v := 7) hx hb dX11_init_5 (by decide +kernel) ?_
  refine va_newa (atype := .int) (ty := .int) (a0 := (7, .inl (fun _ => 0))) hx hb (hts (.arrayClass .int) iw_X11_init_3) rfl hK hP hD hS hA (fun _ => rfl) (by decide +kernel) (by decide +kernel) (by decide +kernel) (Nat.le_of_ble_eq_true rfl) (Nat.le_of_ble_eq_true rfl) dX11_init_7 (fun q_3 k_4 H hK1 hP1 hD1 hS => ?_)
  have hK : va_K (dC, dI) vwCl [(k_4, .int)] s := hK1
  clear hK1
  obtain ⟨w_5, ew_5⟩ : ∃ zq : va_W, zq = w_2 ++ [(q_3, .inl (k_4, 7, .inl (fun _ => 0)))] := ⟨_, rfl⟩
  have hP : va_P (dC, dI) vwCl ((g0, .inr (11, f_1)) :: w_5) H := by rw [ew_5]; exact hP1
  have hD : va_D A ((g0, .inr (11, f_1)) :: w_5) := by rw [ew_5]; exact hD1
  clear hP1 hD1
  refine W.widen (k := 1) (n := 7) (Nat.le_of_ble_eq_true rfl) (Nat.le_of_ble_eq_true rfl) ?_
  refine va_putF (D := (dC, dI)) (ci := 11) (v := .ref q_3) (ty := .array .int) (C := RX11) (T := TX11) (N := 63) hx hb hts in_wsX11_init_X11 tyX11 tyX11_ok nmX11 hown hK hP hD hS 0 rfl rfl 0 (by decide +kernel) (hts (.fieldLink RX11 7 "ShipOfficeModel" "refusals" "[I") iw_X11_init_4) (fun _ h9 => h9) rfl hin rfl (by decide +kernel) rfl rfl (by rw [hnf_1]; decide) dX11_init_9 (fun H locs hP hD hS => ?_)
  obtain ⟨f_6, ef_6⟩ : ∃ zq : List Value, zq = f_1.set 0 (.ref q_3) := ⟨_, rfl⟩
  have hnf_6 : f_6.length = 63 := by rw [ef_6, List.length_set]; exact hnf_1
  clear hnf_1
  have hP : va_P (dC, dI) vwCl ((g0, .inr (11, f_6)) :: w_5) H := by rw [ef_6]; exact hP
  have hD : va_D A ((g0, .inr (11, f_6)) :: w_5) := by rw [ef_6]; exact hD
  refine lv_aload_n hx hb dX11_init_12 rfl (lv_at hl 0 rfl) ?_
  refine lv_bipush (v := 100) hx hb dX11_init_13 (by decide +kernel) ?_
  refine va_newa (atype := .int) (ty := .int) (a0 := (100, .inl (fun _ => 0))) hx hb (hts (.arrayClass .int) iw_X11_init_3) rfl hK hP hD hS hA (fun _ => rfl) (by decide +kernel) (by decide +kernel) (by decide +kernel) (Nat.le_of_ble_eq_true rfl) (Nat.le_of_ble_eq_true rfl) dX11_init_15 (fun q_7 k_8 H hK1 hP1 hD1 hS => ?_)
  obtain ⟨ekq_7, hK⟩ := lv_ad (k := 0) hK1 rfl
  rw [ekq_7] at hP1 hD1
  clear ekq_7 hK1
  obtain ⟨w_9, ew_9⟩ : ∃ zq : va_W, zq = w_5 ++ [(q_7, .inl (k_4, 100, .inl (fun _ => 0)))] := ⟨_, rfl⟩
  have hP : va_P (dC, dI) vwCl ((g0, .inr (11, f_6)) :: w_9) H := by rw [ew_9]; exact hP1
  have hD : va_D A ((g0, .inr (11, f_6)) :: w_9) := by rw [ew_9]; exact hD1
  clear hP1 hD1
  refine W.widen (k := 2) (n := 107) (Nat.le_of_ble_eq_true rfl) (Nat.le_of_ble_eq_true rfl) ?_
  refine va_putF (D := (dC, dI)) (ci := 11) (v := .ref q_7) (ty := .array .int) (C := RX11) (T := TX11) (N := 63) hx hb hts in_wsX11_init_X11 tyX11 tyX11_ok nmX11 hown hK hP hD hS 0 rfl rfl 1 (by decide +kernel) (hts (.fieldLink RX11 13 "ShipOfficeModel" "mile" "[I") iw_X11_init_5) (fun _ h9 => h9) rfl hin rfl (by decide +kernel) rfl rfl (by rw [hnf_6]; decide) dX11_init_17 (fun H locs hP hD hS => ?_)
  obtain ⟨f_10, ef_10⟩ : ∃ zq : List Value, zq = f_6.set 1 (.ref q_7) := ⟨_, rfl⟩
  have hnf_10 : f_10.length = 63 := by rw [ef_10, List.length_set]; exact hnf_6
  clear hnf_6
  have hP : va_P (dC, dI) vwCl ((g0, .inr (11, f_10)) :: w_9) H := by rw [ef_10]; exact hP
  have hD : va_D A ((g0, .inr (11, f_10)) :: w_9) := by rw [ef_10]; exact hD
  refine lv_aload_n hx hb dX11_init_20 rfl (lv_at hl 0 rfl) ?_
  refine lv_bipush (v := 40) hx hb dX11_init_21 (by decide +kernel) ?_
  refine va_newa (atype := .int) (ty := .int) (a0 := (40, .inl (fun _ => 0))) hx hb (hts (.arrayClass .int) iw_X11_init_3) rfl hK hP hD hS hA (fun _ => rfl) (by decide +kernel) (by decide +kernel) (by decide +kernel) (Nat.le_of_ble_eq_true rfl) (Nat.le_of_ble_eq_true rfl) dX11_init_23 (fun q_11 k_12 H hK1 hP1 hD1 hS => ?_)
  obtain ⟨ekq_11, hK⟩ := lv_ad (k := 0) hK1 rfl
  rw [ekq_11] at hP1 hD1
  clear ekq_11 hK1
  obtain ⟨w_13, ew_13⟩ : ∃ zq : va_W, zq = w_9 ++ [(q_11, .inl (k_4, 40, .inl (fun _ => 0)))] := ⟨_, rfl⟩
  have hP : va_P (dC, dI) vwCl ((g0, .inr (11, f_10)) :: w_13) H := by rw [ew_13]; exact hP1
  have hD : va_D A ((g0, .inr (11, f_10)) :: w_13) := by rw [ew_13]; exact hD1
  clear hP1 hD1
  refine W.widen (k := 3) (n := 147) (Nat.le_of_ble_eq_true rfl) (Nat.le_of_ble_eq_true rfl) ?_
  refine va_putF (D := (dC, dI)) (ci := 11) (v := .ref q_11) (ty := .array .int) (C := RX11) (T := TX11) (N := 63) hx hb hts in_wsX11_init_X11 tyX11 tyX11_ok nmX11 hown hK hP hD hS 0 rfl rfl 2 (by decide +kernel) (hts (.fieldLink RX11 16 "ShipOfficeModel" "name" "[I") iw_X11_init_6) (fun _ h9 => h9) rfl hin rfl (by decide +kernel) rfl rfl (by rw [hnf_10]; decide) dX11_init_25 (fun H locs hP hD hS => ?_)
  obtain ⟨f_14, ef_14⟩ : ∃ zq : List Value, zq = f_10.set 2 (.ref q_11) := ⟨_, rfl⟩
  have hnf_14 : f_14.length = 63 := by rw [ef_14, List.length_set]; exact hnf_10
  clear hnf_10
  have hP : va_P (dC, dI) vwCl ((g0, .inr (11, f_14)) :: w_13) H := by rw [ef_14]; exact hP
  have hD : va_D A ((g0, .inr (11, f_14)) :: w_13) := by rw [ef_14]; exact hD
  refine lv_aload_n hx hb dX11_init_28 rfl (lv_at hl 0 rfl) ?_
  refine lv_bipush (v := 40) hx hb dX11_init_29 (by decide +kernel) ?_
  refine va_newa (atype := .int) (ty := .int) (a0 := (40, .inl (fun _ => 0))) hx hb (hts (.arrayClass .int) iw_X11_init_3) rfl hK hP hD hS hA (fun _ => rfl) (by decide +kernel) (by decide +kernel) (by decide +kernel) (Nat.le_of_ble_eq_true rfl) (Nat.le_of_ble_eq_true rfl) dX11_init_31 (fun q_15 k_16 H hK1 hP1 hD1 hS => ?_)
  obtain ⟨ekq_15, hK⟩ := lv_ad (k := 0) hK1 rfl
  rw [ekq_15] at hP1 hD1
  clear ekq_15 hK1
  obtain ⟨w_17, ew_17⟩ : ∃ zq : va_W, zq = w_13 ++ [(q_15, .inl (k_4, 40, .inl (fun _ => 0)))] := ⟨_, rfl⟩
  have hP : va_P (dC, dI) vwCl ((g0, .inr (11, f_14)) :: w_17) H := by rw [ew_17]; exact hP1
  have hD : va_D A ((g0, .inr (11, f_14)) :: w_17) := by rw [ew_17]; exact hD1
  clear hP1 hD1
  refine W.widen (k := 4) (n := 187) (Nat.le_of_ble_eq_true rfl) (Nat.le_of_ble_eq_true rfl) ?_
  refine va_putF (D := (dC, dI)) (ci := 11) (v := .ref q_15) (ty := .array .int) (C := RX11) (T := TX11) (N := 63) hx hb hts in_wsX11_init_X11 tyX11 tyX11_ok nmX11 hown hK hP hD hS 0 rfl rfl 3 (by decide +kernel) (hts (.fieldLink RX11 19 "ShipOfficeModel" "marks" "[I") iw_X11_init_7) (fun _ h9 => h9) rfl hin rfl (by decide +kernel) rfl rfl (by rw [hnf_14]; decide) dX11_init_33 (fun H locs hP hD hS => ?_)
  obtain ⟨f_18, ef_18⟩ : ∃ zq : List Value, zq = f_14.set 3 (.ref q_15) := ⟨_, rfl⟩
  have hnf_18 : f_18.length = 63 := by rw [ef_18, List.length_set]; exact hnf_14
  clear hnf_14
  have hP : va_P (dC, dI) vwCl ((g0, .inr (11, f_18)) :: w_17) H := by rw [ef_18]; exact hP
  have hD : va_D A ((g0, .inr (11, f_18)) :: w_17) := by rw [ef_18]; exact hD
  refine lv_aload_n hx hb dX11_init_36 rfl (lv_at hl 0 rfl) ?_
  refine lv_bipush (v := 40) hx hb dX11_init_37 (by decide +kernel) ?_
  refine va_newa (atype := .int) (ty := .int) (a0 := (40, .inl (fun _ => 0))) hx hb (hts (.arrayClass .int) iw_X11_init_3) rfl hK hP hD hS hA (fun _ => rfl) (by decide +kernel) (by decide +kernel) (by decide +kernel) (Nat.le_of_ble_eq_true rfl) (Nat.le_of_ble_eq_true rfl) dX11_init_39 (fun q_19 k_20 H hK1 hP1 hD1 hS => ?_)
  obtain ⟨ekq_19, hK⟩ := lv_ad (k := 0) hK1 rfl
  rw [ekq_19] at hP1 hD1
  clear ekq_19 hK1
  obtain ⟨w_21, ew_21⟩ : ∃ zq : va_W, zq = w_17 ++ [(q_19, .inl (k_4, 40, .inl (fun _ => 0)))] := ⟨_, rfl⟩
  have hP : va_P (dC, dI) vwCl ((g0, .inr (11, f_18)) :: w_21) H := by rw [ew_21]; exact hP1
  have hD : va_D A ((g0, .inr (11, f_18)) :: w_21) := by rw [ew_21]; exact hD1
  clear hP1 hD1
  refine W.widen (k := 5) (n := 227) (Nat.le_of_ble_eq_true rfl) (Nat.le_of_ble_eq_true rfl) ?_
  refine va_putF (D := (dC, dI)) (ci := 11) (v := .ref q_19) (ty := .array .int) (C := RX11) (T := TX11) (N := 63) hx hb hts in_wsX11_init_X11 tyX11 tyX11_ok nmX11 hown hK hP hD hS 0 rfl rfl 4 (by decide +kernel) (hts (.fieldLink RX11 22 "ShipOfficeModel" "born" "[I") iw_X11_init_8) (fun _ h9 => h9) rfl hin rfl (by decide +kernel) rfl rfl (by rw [hnf_18]; decide) dX11_init_41 (fun H locs hP hD hS => ?_)
  obtain ⟨f_22, ef_22⟩ : ∃ zq : List Value, zq = f_18.set 4 (.ref q_19) := ⟨_, rfl⟩
  have hnf_22 : f_22.length = 63 := by rw [ef_22, List.length_set]; exact hnf_18
  clear hnf_18
  have hP : va_P (dC, dI) vwCl ((g0, .inr (11, f_22)) :: w_21) H := by rw [ef_22]; exact hP
  have hD : va_D A ((g0, .inr (11, f_22)) :: w_21) := by rw [ef_22]; exact hD
  refine lv_aload_n hx hb dX11_init_44 rfl (lv_at hl 0 rfl) ?_
  refine lv_sipush (v := 160) hx hb dX11_init_45 (by decide +kernel) ?_
  refine va_newa (atype := .int) (ty := .int) (a0 := (160, .inl (fun _ => 0))) hx hb (hts (.arrayClass .int) iw_X11_init_3) rfl hK hP hD hS hA (fun _ => rfl) (by decide +kernel) (by decide +kernel) (by decide +kernel) (Nat.le_of_ble_eq_true rfl) (Nat.le_of_ble_eq_true rfl) dX11_init_48 (fun q_23 k_24 H hK1 hP1 hD1 hS => ?_)
  obtain ⟨ekq_23, hK⟩ := lv_ad (k := 0) hK1 rfl
  rw [ekq_23] at hP1 hD1
  clear ekq_23 hK1
  obtain ⟨w_25, ew_25⟩ : ∃ zq : va_W, zq = w_21 ++ [(q_23, .inl (k_4, 160, .inl (fun _ => 0)))] := ⟨_, rfl⟩
  have hP : va_P (dC, dI) vwCl ((g0, .inr (11, f_22)) :: w_25) H := by rw [ew_25]; exact hP1
  have hD : va_D A ((g0, .inr (11, f_22)) :: w_25) := by rw [ew_25]; exact hD1
  clear hP1 hD1
  refine W.widen (k := 6) (n := 387) (Nat.le_of_ble_eq_true rfl) (Nat.le_of_ble_eq_true rfl) ?_
  refine va_putF (D := (dC, dI)) (ci := 11) (v := .ref q_23) (ty := .array .int) (C := RX11) (T := TX11) (N := 63) hx hb hts in_wsX11_init_X11 tyX11 tyX11_ok nmX11 hown hK hP hD hS 0 rfl rfl 5 (by decide +kernel) (hts (.fieldLink RX11 25 "ShipOfficeModel" "asks" "[I") iw_X11_init_9) (fun _ h9 => h9) rfl hin rfl (by decide +kernel) rfl rfl (by rw [hnf_22]; decide) dX11_init_50 (fun H locs hP hD hS => ?_)
  obtain ⟨f_26, ef_26⟩ : ∃ zq : List Value, zq = f_22.set 5 (.ref q_23) := ⟨_, rfl⟩
  have hnf_26 : f_26.length = 63 := by rw [ef_26, List.length_set]; exact hnf_22
  clear hnf_22
  have hP : va_P (dC, dI) vwCl ((g0, .inr (11, f_26)) :: w_25) H := by rw [ef_26]; exact hP
  have hD : va_D A ((g0, .inr (11, f_26)) :: w_25) := by rw [ef_26]; exact hD
  refine lv_aload_n hx hb dX11_init_53 rfl (lv_at hl 0 rfl) ?_
  refine lv_bipush (v := 20) hx hb dX11_init_54 (by decide +kernel) ?_
  refine va_newa (atype := .int) (ty := .int) (a0 := (20, .inl (fun _ => 0))) hx hb (hts (.arrayClass .int) iw_X11_init_3) rfl hK hP hD hS hA (fun _ => rfl) (by decide +kernel) (by decide +kernel) (by decide +kernel) (Nat.le_of_ble_eq_true rfl) (Nat.le_of_ble_eq_true rfl) dX11_init_56 (fun q_27 k_28 H hK1 hP1 hD1 hS => ?_)
  obtain ⟨ekq_27, hK⟩ := lv_ad (k := 0) hK1 rfl
  rw [ekq_27] at hP1 hD1
  clear ekq_27 hK1
  obtain ⟨w_29, ew_29⟩ : ∃ zq : va_W, zq = w_25 ++ [(q_27, .inl (k_4, 20, .inl (fun _ => 0)))] := ⟨_, rfl⟩
  have hP : va_P (dC, dI) vwCl ((g0, .inr (11, f_26)) :: w_29) H := by rw [ew_29]; exact hP1
  have hD : va_D A ((g0, .inr (11, f_26)) :: w_29) := by rw [ew_29]; exact hD1
  clear hP1 hD1
  refine W.widen (k := 7) (n := 407) (Nat.le_of_ble_eq_true rfl) (Nat.le_of_ble_eq_true rfl) ?_
  refine va_putF (D := (dC, dI)) (ci := 11) (v := .ref q_27) (ty := .array .int) (C := RX11) (T := TX11) (N := 63) hx hb hts in_wsX11_init_X11 tyX11 tyX11_ok nmX11 hown hK hP hD hS 0 rfl rfl 6 (by decide +kernel) (hts (.fieldLink RX11 28 "ShipOfficeModel" "ship" "[I") iw_X11_init_10) (fun _ h9 => h9) rfl hin rfl (by decide +kernel) rfl rfl (by rw [hnf_26]; decide) dX11_init_58 (fun H locs hP hD hS => ?_)
  obtain ⟨f_30, ef_30⟩ : ∃ zq : List Value, zq = f_26.set 6 (.ref q_27) := ⟨_, rfl⟩
  have hnf_30 : f_30.length = 63 := by rw [ef_30, List.length_set]; exact hnf_26
  clear hnf_26
  have hP : va_P (dC, dI) vwCl ((g0, .inr (11, f_30)) :: w_29) H := by rw [ef_30]; exact hP
  have hD : va_D A ((g0, .inr (11, f_30)) :: w_29) := by rw [ef_30]; exact hD
  refine lv_aload_n hx hb dX11_init_61 rfl (lv_at hl 0 rfl) ?_
  refine lv_bipush (v := 20) hx hb dX11_init_62 (by decide +kernel) ?_
  refine va_newa (atype := .int) (ty := .int) (a0 := (20, .inl (fun _ => 0))) hx hb (hts (.arrayClass .int) iw_X11_init_3) rfl hK hP hD hS hA (fun _ => rfl) (by decide +kernel) (by decide +kernel) (by decide +kernel) (Nat.le_of_ble_eq_true rfl) (Nat.le_of_ble_eq_true rfl) dX11_init_64 (fun q_31 k_32 H hK1 hP1 hD1 hS => ?_)
  obtain ⟨ekq_31, hK⟩ := lv_ad (k := 0) hK1 rfl
  rw [ekq_31] at hP1 hD1
  clear ekq_31 hK1
  obtain ⟨w_33, ew_33⟩ : ∃ zq : va_W, zq = w_29 ++ [(q_31, .inl (k_4, 20, .inl (fun _ => 0)))] := ⟨_, rfl⟩
  have hP : va_P (dC, dI) vwCl ((g0, .inr (11, f_30)) :: w_33) H := by rw [ew_33]; exact hP1
  have hD : va_D A ((g0, .inr (11, f_30)) :: w_33) := by rw [ew_33]; exact hD1
  clear hP1 hD1
  refine W.widen (k := 8) (n := 427) (Nat.le_of_ble_eq_true rfl) (Nat.le_of_ble_eq_true rfl) ?_
  refine va_putF (D := (dC, dI)) (ci := 11) (v := .ref q_31) (ty := .array .int) (C := RX11) (T := TX11) (N := 63) hx hb hts in_wsX11_init_X11 tyX11 tyX11_ok nmX11 hown hK hP hD hS 0 rfl rfl 7 (by decide +kernel) (hts (.fieldLink RX11 31 "ShipOfficeModel" "opened" "[I") iw_X11_init_11) (fun _ h9 => h9) rfl hin rfl (by decide +kernel) rfl rfl (by rw [hnf_30]; decide) dX11_init_66 (fun H locs hP hD hS => ?_)
  obtain ⟨f_34, ef_34⟩ : ∃ zq : List Value, zq = f_30.set 7 (.ref q_31) := ⟨_, rfl⟩
  have hnf_34 : f_34.length = 63 := by rw [ef_34, List.length_set]; exact hnf_30
  clear hnf_30
  have hP : va_P (dC, dI) vwCl ((g0, .inr (11, f_34)) :: w_33) H := by rw [ef_34]; exact hP
  have hD : va_D A ((g0, .inr (11, f_34)) :: w_33) := by rw [ef_34]; exact hD
  refine lv_aload_n hx hb dX11_init_69 rfl (lv_at hl 0 rfl) ?_
  refine lv_bipush (v := 20) hx hb dX11_init_70 (by decide +kernel) ?_
  refine va_newa (atype := .int) (ty := .int) (a0 := (20, .inl (fun _ => 0))) hx hb (hts (.arrayClass .int) iw_X11_init_3) rfl hK hP hD hS hA (fun _ => rfl) (by decide +kernel) (by decide +kernel) (by decide +kernel) (Nat.le_of_ble_eq_true rfl) (Nat.le_of_ble_eq_true rfl) dX11_init_72 (fun q_35 k_36 H hK1 hP1 hD1 hS => ?_)
  obtain ⟨ekq_35, hK⟩ := lv_ad (k := 0) hK1 rfl
  rw [ekq_35] at hP1 hD1
  clear ekq_35 hK1
  obtain ⟨w_37, ew_37⟩ : ∃ zq : va_W, zq = w_33 ++ [(q_35, .inl (k_4, 20, .inl (fun _ => 0)))] := ⟨_, rfl⟩
  have hP : va_P (dC, dI) vwCl ((g0, .inr (11, f_34)) :: w_37) H := by rw [ew_37]; exact hP1
  have hD : va_D A ((g0, .inr (11, f_34)) :: w_37) := by rw [ew_37]; exact hD1
  clear hP1 hD1
  refine W.widen (k := 9) (n := 447) (Nat.le_of_ble_eq_true rfl) (Nat.le_of_ble_eq_true rfl) ?_
  refine va_putF (D := (dC, dI)) (ci := 11) (v := .ref q_35) (ty := .array .int) (C := RX11) (T := TX11) (N := 63) hx hb hts in_wsX11_init_X11 tyX11 tyX11_ok nmX11 hown hK hP hD hS 0 rfl rfl 8 (by decide +kernel) (hts (.fieldLink RX11 34 "ShipOfficeModel" "openPort" "[I") iw_X11_init_12) (fun _ h9 => h9) rfl hin rfl (by decide +kernel) rfl rfl (by rw [hnf_34]; decide) dX11_init_74 (fun H locs hP hD hS => ?_)
  obtain ⟨f_38, ef_38⟩ : ∃ zq : List Value, zq = f_34.set 8 (.ref q_35) := ⟨_, rfl⟩
  have hnf_38 : f_38.length = 63 := by rw [ef_38, List.length_set]; exact hnf_34
  clear hnf_34
  have hP : va_P (dC, dI) vwCl ((g0, .inr (11, f_38)) :: w_37) H := by rw [ef_38]; exact hP
  have hD : va_D A ((g0, .inr (11, f_38)) :: w_37) := by rw [ef_38]; exact hD
  refine lv_aload_n hx hb dX11_init_77 rfl (lv_at hl 0 rfl) ?_
  refine lv_bipush (v := 20) hx hb dX11_init_78 (by decide +kernel) ?_
  refine va_newa (atype := .int) (ty := .int) (a0 := (20, .inl (fun _ => 0))) hx hb (hts (.arrayClass .int) iw_X11_init_3) rfl hK hP hD hS hA (fun _ => rfl) (by decide +kernel) (by decide +kernel) (by decide +kernel) (Nat.le_of_ble_eq_true rfl) (Nat.le_of_ble_eq_true rfl) dX11_init_80 (fun q_39 k_40 H hK1 hP1 hD1 hS => ?_)
  obtain ⟨ekq_39, hK⟩ := lv_ad (k := 0) hK1 rfl
  rw [ekq_39] at hP1 hD1
  clear ekq_39 hK1
  obtain ⟨w_41, ew_41⟩ : ∃ zq : va_W, zq = w_37 ++ [(q_39, .inl (k_4, 20, .inl (fun _ => 0)))] := ⟨_, rfl⟩
  have hP : va_P (dC, dI) vwCl ((g0, .inr (11, f_38)) :: w_41) H := by rw [ew_41]; exact hP1
  have hD : va_D A ((g0, .inr (11, f_38)) :: w_41) := by rw [ew_41]; exact hD1
  clear hP1 hD1
  refine W.widen (k := 10) (n := 467) (Nat.le_of_ble_eq_true rfl) (Nat.le_of_ble_eq_true rfl) ?_
  refine va_putF (D := (dC, dI)) (ci := 11) (v := .ref q_39) (ty := .array .int) (C := RX11) (T := TX11) (N := 63) hx hb hts in_wsX11_init_X11 tyX11 tyX11_ok nmX11 hown hK hP hD hS 0 rfl rfl 9 (by decide +kernel) (hts (.fieldLink RX11 37 "ShipOfficeModel" "endedOn" "[I") iw_X11_init_13) (fun _ h9 => h9) rfl hin rfl (by decide +kernel) rfl rfl (by rw [hnf_38]; decide) dX11_init_82 (fun H locs hP hD hS => ?_)
  obtain ⟨f_42, ef_42⟩ : ∃ zq : List Value, zq = f_38.set 9 (.ref q_39) := ⟨_, rfl⟩
  have hnf_42 : f_42.length = 63 := by rw [ef_42, List.length_set]; exact hnf_38
  clear hnf_38
  have hP : va_P (dC, dI) vwCl ((g0, .inr (11, f_42)) :: w_41) H := by rw [ef_42]; exact hP
  have hD : va_D A ((g0, .inr (11, f_42)) :: w_41) := by rw [ef_42]; exact hD
  refine lv_aload_n hx hb dX11_init_85 rfl (lv_at hl 0 rfl) ?_
  refine lv_sipush (v := 200) hx hb dX11_init_86 (by decide +kernel) ?_
  refine va_newa (atype := .int) (ty := .int) (a0 := (200, .inl (fun _ => 0))) hx hb (hts (.arrayClass .int) iw_X11_init_3) rfl hK hP hD hS hA (fun _ => rfl) (by decide +kernel) (by decide +kernel) (by decide +kernel) (Nat.le_of_ble_eq_true rfl) (Nat.le_of_ble_eq_true rfl) dX11_init_89 (fun q_43 k_44 H hK1 hP1 hD1 hS => ?_)
  obtain ⟨ekq_43, hK⟩ := lv_ad (k := 0) hK1 rfl
  rw [ekq_43] at hP1 hD1
  clear ekq_43 hK1
  obtain ⟨w_45, ew_45⟩ : ∃ zq : va_W, zq = w_41 ++ [(q_43, .inl (k_4, 200, .inl (fun _ => 0)))] := ⟨_, rfl⟩
  have hP : va_P (dC, dI) vwCl ((g0, .inr (11, f_42)) :: w_45) H := by rw [ew_45]; exact hP1
  have hD : va_D A ((g0, .inr (11, f_42)) :: w_45) := by rw [ew_45]; exact hD1
  clear hP1 hD1
  refine W.widen (k := 11) (n := 667) (Nat.le_of_ble_eq_true rfl) (Nat.le_of_ble_eq_true rfl) ?_
  refine va_putF (D := (dC, dI)) (ci := 11) (v := .ref q_43) (ty := .array .int) (C := RX11) (T := TX11) (N := 63) hx hb hts in_wsX11_init_X11 tyX11 tyX11_ok nmX11 hown hK hP hD hS 0 rfl rfl 10 (by decide +kernel) (hts (.fieldLink RX11 40 "ShipOfficeModel" "what" "[I") iw_X11_init_14) (fun _ h9 => h9) rfl hin rfl (by decide +kernel) rfl rfl (by rw [hnf_42]; decide) dX11_init_91 (fun H locs hP hD hS => ?_)
  obtain ⟨f_46, ef_46⟩ : ∃ zq : List Value, zq = f_42.set 10 (.ref q_43) := ⟨_, rfl⟩
  have hnf_46 : f_46.length = 63 := by rw [ef_46, List.length_set]; exact hnf_42
  clear hnf_42
  have hP : va_P (dC, dI) vwCl ((g0, .inr (11, f_46)) :: w_45) H := by rw [ef_46]; exact hP
  have hD : va_D A ((g0, .inr (11, f_46)) :: w_45) := by rw [ef_46]; exact hD
  refine lv_aload_n hx hb dX11_init_94 rfl (lv_at hl 0 rfl) ?_
  refine lv_sipush (v := 200) hx hb dX11_init_95 (by decide +kernel) ?_
  refine va_newa (atype := .int) (ty := .int) (a0 := (200, .inl (fun _ => 0))) hx hb (hts (.arrayClass .int) iw_X11_init_3) rfl hK hP hD hS hA (fun _ => rfl) (by decide +kernel) (by decide +kernel) (by decide +kernel) (Nat.le_of_ble_eq_true rfl) (Nat.le_of_ble_eq_true rfl) dX11_init_98 (fun q_47 k_48 H hK1 hP1 hD1 hS => ?_)
  obtain ⟨ekq_47, hK⟩ := lv_ad (k := 0) hK1 rfl
  rw [ekq_47] at hP1 hD1
  clear ekq_47 hK1
  obtain ⟨w_49, ew_49⟩ : ∃ zq : va_W, zq = w_45 ++ [(q_47, .inl (k_4, 200, .inl (fun _ => 0)))] := ⟨_, rfl⟩
  have hP : va_P (dC, dI) vwCl ((g0, .inr (11, f_46)) :: w_49) H := by rw [ew_49]; exact hP1
  have hD : va_D A ((g0, .inr (11, f_46)) :: w_49) := by rw [ew_49]; exact hD1
  clear hP1 hD1
  refine W.widen (k := 12) (n := 867) (Nat.le_of_ble_eq_true rfl) (Nat.le_of_ble_eq_true rfl) ?_
  refine va_putF (D := (dC, dI)) (ci := 11) (v := .ref q_47) (ty := .array .int) (C := RX11) (T := TX11) (N := 63) hx hb hts in_wsX11_init_X11 tyX11 tyX11_ok nmX11 hown hK hP hD hS 0 rfl rfl 11 (by decide +kernel) (hts (.fieldLink RX11 43 "ShipOfficeModel" "whose" "[I") iw_X11_init_15) (fun _ h9 => h9) rfl hin rfl (by decide +kernel) rfl rfl (by rw [hnf_46]; decide) dX11_init_100 (fun H locs hP hD hS => ?_)
  obtain ⟨f_50, ef_50⟩ : ∃ zq : List Value, zq = f_46.set 11 (.ref q_47) := ⟨_, rfl⟩
  have hnf_50 : f_50.length = 63 := by rw [ef_50, List.length_set]; exact hnf_46
  clear hnf_46
  have hP : va_P (dC, dI) vwCl ((g0, .inr (11, f_50)) :: w_49) H := by rw [ef_50]; exact hP
  have hD : va_D A ((g0, .inr (11, f_50)) :: w_49) := by rw [ef_50]; exact hD
  refine lv_aload_n hx hb dX11_init_103 rfl (lv_at hl 0 rfl) ?_
  refine lv_sipush (v := 200) hx hb dX11_init_104 (by decide +kernel) ?_
  refine va_newa (atype := .int) (ty := .int) (a0 := (200, .inl (fun _ => 0))) hx hb (hts (.arrayClass .int) iw_X11_init_3) rfl hK hP hD hS hA (fun _ => rfl) (by decide +kernel) (by decide +kernel) (by decide +kernel) (Nat.le_of_ble_eq_true rfl) (Nat.le_of_ble_eq_true rfl) dX11_init_107 (fun q_51 k_52 H hK1 hP1 hD1 hS => ?_)
  obtain ⟨ekq_51, hK⟩ := lv_ad (k := 0) hK1 rfl
  rw [ekq_51] at hP1 hD1
  clear ekq_51 hK1
  obtain ⟨w_53, ew_53⟩ : ∃ zq : va_W, zq = w_49 ++ [(q_51, .inl (k_4, 200, .inl (fun _ => 0)))] := ⟨_, rfl⟩
  have hP : va_P (dC, dI) vwCl ((g0, .inr (11, f_50)) :: w_53) H := by rw [ew_53]; exact hP1
  have hD : va_D A ((g0, .inr (11, f_50)) :: w_53) := by rw [ew_53]; exact hD1
  clear hP1 hD1
  refine W.widen (k := 13) (n := 1067) (Nat.le_of_ble_eq_true rfl) (Nat.le_of_ble_eq_true rfl) ?_
  refine va_putF (D := (dC, dI)) (ci := 11) (v := .ref q_51) (ty := .array .int) (C := RX11) (T := TX11) (N := 63) hx hb hts in_wsX11_init_X11 tyX11 tyX11_ok nmX11 hown hK hP hD hS 0 rfl rfl 12 (by decide +kernel) (hts (.fieldLink RX11 46 "ShipOfficeModel" "day" "[I") iw_X11_init_16) (fun _ h9 => h9) rfl hin rfl (by decide +kernel) rfl rfl (by rw [hnf_50]; decide) dX11_init_109 (fun H locs hP hD hS => ?_)
  obtain ⟨f_54, ef_54⟩ : ∃ zq : List Value, zq = f_50.set 12 (.ref q_51) := ⟨_, rfl⟩
  have hnf_54 : f_54.length = 63 := by rw [ef_54, List.length_set]; exact hnf_50
  clear hnf_50
  have hP : va_P (dC, dI) vwCl ((g0, .inr (11, f_54)) :: w_53) H := by rw [ef_54]; exact hP
  have hD : va_D A ((g0, .inr (11, f_54)) :: w_53) := by rw [ef_54]; exact hD
  refine lv_aload_n hx hb dX11_init_112 rfl (lv_at hl 0 rfl) ?_
  refine lv_sipush (v := 200) hx hb dX11_init_113 (by decide +kernel) ?_
  refine va_newa (atype := .int) (ty := .int) (a0 := (200, .inl (fun _ => 0))) hx hb (hts (.arrayClass .int) iw_X11_init_3) rfl hK hP hD hS hA (fun _ => rfl) (by decide +kernel) (by decide +kernel) (by decide +kernel) (Nat.le_of_ble_eq_true rfl) (Nat.le_of_ble_eq_true rfl) dX11_init_116 (fun q_55 k_56 H hK1 hP1 hD1 hS => ?_)
  obtain ⟨ekq_55, hK⟩ := lv_ad (k := 0) hK1 rfl
  rw [ekq_55] at hP1 hD1
  clear ekq_55 hK1
  obtain ⟨w_57, ew_57⟩ : ∃ zq : va_W, zq = w_53 ++ [(q_55, .inl (k_4, 200, .inl (fun _ => 0)))] := ⟨_, rfl⟩
  have hP : va_P (dC, dI) vwCl ((g0, .inr (11, f_54)) :: w_57) H := by rw [ew_57]; exact hP1
  have hD : va_D A ((g0, .inr (11, f_54)) :: w_57) := by rw [ew_57]; exact hD1
  clear hP1 hD1
  refine W.widen (k := 14) (n := 1267) (Nat.le_of_ble_eq_true rfl) (Nat.le_of_ble_eq_true rfl) ?_
  refine va_putF (D := (dC, dI)) (ci := 11) (v := .ref q_55) (ty := .array .int) (C := RX11) (T := TX11) (N := 63) hx hb hts in_wsX11_init_X11 tyX11 tyX11_ok nmX11 hown hK hP hD hS 0 rfl rfl 13 (by decide +kernel) (hts (.fieldLink RX11 49 "ShipOfficeModel" "known" "[I") iw_X11_init_17) (fun _ h9 => h9) rfl hin rfl (by decide +kernel) rfl rfl (by rw [hnf_54]; decide) dX11_init_118 (fun H locs hP hD hS => ?_)
  obtain ⟨f_58, ef_58⟩ : ∃ zq : List Value, zq = f_54.set 13 (.ref q_55) := ⟨_, rfl⟩
  have hnf_58 : f_58.length = 63 := by rw [ef_58, List.length_set]; exact hnf_54
  clear hnf_54
  have hP : va_P (dC, dI) vwCl ((g0, .inr (11, f_58)) :: w_57) H := by rw [ef_58]; exact hP
  have hD : va_D A ((g0, .inr (11, f_58)) :: w_57) := by rw [ef_58]; exact hD
  refine lv_aload_n hx hb dX11_init_121 rfl (lv_at hl 0 rfl) ?_
  refine lv_sipush (v := 200) hx hb dX11_init_122 (by decide +kernel) ?_
  refine va_newa (atype := .int) (ty := .int) (a0 := (200, .inl (fun _ => 0))) hx hb (hts (.arrayClass .int) iw_X11_init_3) rfl hK hP hD hS hA (fun _ => rfl) (by decide +kernel) (by decide +kernel) (by decide +kernel) (Nat.le_of_ble_eq_true rfl) (Nat.le_of_ble_eq_true rfl) dX11_init_125 (fun q_59 k_60 H hK1 hP1 hD1 hS => ?_)
  obtain ⟨ekq_59, hK⟩ := lv_ad (k := 0) hK1 rfl
  rw [ekq_59] at hP1 hD1
  clear ekq_59 hK1
  obtain ⟨w_61, ew_61⟩ : ∃ zq : va_W, zq = w_57 ++ [(q_59, .inl (k_4, 200, .inl (fun _ => 0)))] := ⟨_, rfl⟩
  have hP : va_P (dC, dI) vwCl ((g0, .inr (11, f_58)) :: w_61) H := by rw [ew_61]; exact hP1
  have hD : va_D A ((g0, .inr (11, f_58)) :: w_61) := by rw [ew_61]; exact hD1
  clear hP1 hD1
  refine W.widen (k := 15) (n := 1467) (Nat.le_of_ble_eq_true rfl) (Nat.le_of_ble_eq_true rfl) ?_
  refine va_putF (D := (dC, dI)) (ci := 11) (v := .ref q_59) (ty := .array .int) (C := RX11) (T := TX11) (N := 63) hx hb hts in_wsX11_init_X11 tyX11 tyX11_ok nmX11 hown hK hP hD hS 0 rfl rfl 14 (by decide +kernel) (hts (.fieldLink RX11 52 "ShipOfficeModel" "way" "[I") iw_X11_init_18) (fun _ h9 => h9) rfl hin rfl (by decide +kernel) rfl rfl (by rw [hnf_58]; decide) dX11_init_127 (fun H locs hP hD hS => ?_)
  obtain ⟨f_62, ef_62⟩ : ∃ zq : List Value, zq = f_58.set 14 (.ref q_59) := ⟨_, rfl⟩
  have hnf_62 : f_62.length = 63 := by rw [ef_62, List.length_set]; exact hnf_58
  clear hnf_58
  have hP : va_P (dC, dI) vwCl ((g0, .inr (11, f_62)) :: w_61) H := by rw [ef_62]; exact hP
  have hD : va_D A ((g0, .inr (11, f_62)) :: w_61) := by rw [ef_62]; exact hD
  refine lv_aload_n hx hb dX11_init_130 rfl (lv_at hl 0 rfl) ?_
  refine lv_sipush (v := 200) hx hb dX11_init_131 (by decide +kernel) ?_
  refine va_newa (atype := .int) (ty := .int) (a0 := (200, .inl (fun _ => 0))) hx hb (hts (.arrayClass .int) iw_X11_init_3) rfl hK hP hD hS hA (fun _ => rfl) (by decide +kernel) (by decide +kernel) (by decide +kernel) (Nat.le_of_ble_eq_true rfl) (Nat.le_of_ble_eq_true rfl) dX11_init_134 (fun q_63 k_64 H hK1 hP1 hD1 hS => ?_)
  obtain ⟨ekq_63, hK⟩ := lv_ad (k := 0) hK1 rfl
  rw [ekq_63] at hP1 hD1
  clear ekq_63 hK1
  obtain ⟨w_65, ew_65⟩ : ∃ zq : va_W, zq = w_61 ++ [(q_63, .inl (k_4, 200, .inl (fun _ => 0)))] := ⟨_, rfl⟩
  have hP : va_P (dC, dI) vwCl ((g0, .inr (11, f_62)) :: w_65) H := by rw [ew_65]; exact hP1
  have hD : va_D A ((g0, .inr (11, f_62)) :: w_65) := by rw [ew_65]; exact hD1
  clear hP1 hD1
  refine W.widen (k := 16) (n := 1667) (Nat.le_of_ble_eq_true rfl) (Nat.le_of_ble_eq_true rfl) ?_
  refine va_putF (D := (dC, dI)) (ci := 11) (v := .ref q_63) (ty := .array .int) (C := RX11) (T := TX11) (N := 63) hx hb hts in_wsX11_init_X11 tyX11 tyX11_ok nmX11 hown hK hP hD hS 0 rfl rfl 15 (by decide +kernel) (hts (.fieldLink RX11 55 "ShipOfficeModel" "port" "[I") iw_X11_init_19) (fun _ h9 => h9) rfl hin rfl (by decide +kernel) rfl rfl (by rw [hnf_62]; decide) dX11_init_136 (fun H locs hP hD hS => ?_)
  obtain ⟨f_66, ef_66⟩ : ∃ zq : List Value, zq = f_62.set 15 (.ref q_63) := ⟨_, rfl⟩
  have hnf_66 : f_66.length = 63 := by rw [ef_66, List.length_set]; exact hnf_62
  clear hnf_62
  have hP : va_P (dC, dI) vwCl ((g0, .inr (11, f_66)) :: w_65) H := by rw [ef_66]; exact hP
  have hD : va_D A ((g0, .inr (11, f_66)) :: w_65) := by rw [ef_66]; exact hD
  refine lv_aload_n hx hb dX11_init_139 rfl (lv_at hl 0 rfl) ?_
  refine lv_bipush (v := 30) hx hb dX11_init_140 (by decide +kernel) ?_
  refine va_newa (atype := .int) (ty := .int) (a0 := (30, .inl (fun _ => 0))) hx hb (hts (.arrayClass .int) iw_X11_init_3) rfl hK hP hD hS hA (fun _ => rfl) (by decide +kernel) (by decide +kernel) (by decide +kernel) (Nat.le_of_ble_eq_true rfl) (Nat.le_of_ble_eq_true rfl) dX11_init_142 (fun q_67 k_68 H hK1 hP1 hD1 hS => ?_)
  obtain ⟨ekq_67, hK⟩ := lv_ad (k := 0) hK1 rfl
  rw [ekq_67] at hP1 hD1
  clear ekq_67 hK1
  obtain ⟨w_69, ew_69⟩ : ∃ zq : va_W, zq = w_65 ++ [(q_67, .inl (k_4, 30, .inl (fun _ => 0)))] := ⟨_, rfl⟩
  have hP : va_P (dC, dI) vwCl ((g0, .inr (11, f_66)) :: w_69) H := by rw [ew_69]; exact hP1
  have hD : va_D A ((g0, .inr (11, f_66)) :: w_69) := by rw [ew_69]; exact hD1
  clear hP1 hD1
  refine W.widen (k := 17) (n := 1697) (Nat.le_of_ble_eq_true rfl) (Nat.le_of_ble_eq_true rfl) ?_
  refine va_putF (D := (dC, dI)) (ci := 11) (v := .ref q_67) (ty := .array .int) (C := RX11) (T := TX11) (N := 63) hx hb hts in_wsX11_init_X11 tyX11 tyX11_ok nmX11 hown hK hP hD hS 0 rfl rfl 16 (by decide +kernel) (hts (.fieldLink RX11 58 "ShipOfficeModel" "textSize" "[I") iw_X11_init_20) (fun _ h9 => h9) rfl hin rfl (by decide +kernel) rfl rfl (by rw [hnf_66]; decide) dX11_init_144 (fun H locs hP hD hS => ?_)
  obtain ⟨f_70, ef_70⟩ : ∃ zq : List Value, zq = f_66.set 16 (.ref q_67) := ⟨_, rfl⟩
  have hnf_70 : f_70.length = 63 := by rw [ef_70, List.length_set]; exact hnf_66
  clear hnf_66
  have hP : va_P (dC, dI) vwCl ((g0, .inr (11, f_70)) :: w_69) H := by rw [ef_70]; exact hP
  have hD : va_D A ((g0, .inr (11, f_70)) :: w_69) := by rw [ef_70]; exact hD
  refine lv_aload_n hx hb dX11_init_147 rfl (lv_at hl 0 rfl) ?_
  refine lv_bipush (v := 30) hx hb dX11_init_148 (by decide +kernel) ?_
  refine va_newa (atype := .int) (ty := .int) (a0 := (30, .inl (fun _ => 0))) hx hb (hts (.arrayClass .int) iw_X11_init_3) rfl hK hP hD hS hA (fun _ => rfl) (by decide +kernel) (by decide +kernel) (by decide +kernel) (Nat.le_of_ble_eq_true rfl) (Nat.le_of_ble_eq_true rfl) dX11_init_150 (fun q_71 k_72 H hK1 hP1 hD1 hS => ?_)
  obtain ⟨ekq_71, hK⟩ := lv_ad (k := 0) hK1 rfl
  rw [ekq_71] at hP1 hD1
  clear ekq_71 hK1
  obtain ⟨w_73, ew_73⟩ : ∃ zq : va_W, zq = w_69 ++ [(q_71, .inl (k_4, 30, .inl (fun _ => 0)))] := ⟨_, rfl⟩
  have hP : va_P (dC, dI) vwCl ((g0, .inr (11, f_70)) :: w_73) H := by rw [ew_73]; exact hP1
  have hD : va_D A ((g0, .inr (11, f_70)) :: w_73) := by rw [ew_73]; exact hD1
  clear hP1 hD1
  refine W.widen (k := 18) (n := 1727) (Nat.le_of_ble_eq_true rfl) (Nat.le_of_ble_eq_true rfl) ?_
  refine va_putF (D := (dC, dI)) (ci := 11) (v := .ref q_71) (ty := .array .int) (C := RX11) (T := TX11) (N := 63) hx hb hts in_wsX11_init_X11 tyX11 tyX11_ok nmX11 hown hK hP hD hS 0 rfl rfl 17 (by decide +kernel) (hts (.fieldLink RX11 61 "ShipOfficeModel" "purpose" "[I") iw_X11_init_21) (fun _ h9 => h9) rfl hin rfl (by decide +kernel) rfl rfl (by rw [hnf_70]; decide) dX11_init_152 (fun H locs hP hD hS => ?_)
  obtain ⟨f_74, ef_74⟩ : ∃ zq : List Value, zq = f_70.set 17 (.ref q_71) := ⟨_, rfl⟩
  have hnf_74 : f_74.length = 63 := by rw [ef_74, List.length_set]; exact hnf_70
  clear hnf_70
  have hP : va_P (dC, dI) vwCl ((g0, .inr (11, f_74)) :: w_73) H := by rw [ef_74]; exact hP
  have hD : va_D A ((g0, .inr (11, f_74)) :: w_73) := by rw [ef_74]; exact hD
  refine lv_aload_n hx hb dX11_init_155 rfl (lv_at hl 0 rfl) ?_
  refine lv_bipush (v := 30) hx hb dX11_init_156 (by decide +kernel) ?_
  refine va_newa (atype := .int) (ty := .int) (a0 := (30, .inl (fun _ => 0))) hx hb (hts (.arrayClass .int) iw_X11_init_3) rfl hK hP hD hS hA (fun _ => rfl) (by decide +kernel) (by decide +kernel) (by decide +kernel) (Nat.le_of_ble_eq_true rfl) (Nat.le_of_ble_eq_true rfl) dX11_init_158 (fun q_75 k_76 H hK1 hP1 hD1 hS => ?_)
  obtain ⟨ekq_75, hK⟩ := lv_ad (k := 0) hK1 rfl
  rw [ekq_75] at hP1 hD1
  clear ekq_75 hK1
  obtain ⟨w_77, ew_77⟩ : ∃ zq : va_W, zq = w_73 ++ [(q_75, .inl (k_4, 30, .inl (fun _ => 0)))] := ⟨_, rfl⟩
  have hP : va_P (dC, dI) vwCl ((g0, .inr (11, f_74)) :: w_77) H := by rw [ew_77]; exact hP1
  have hD : va_D A ((g0, .inr (11, f_74)) :: w_77) := by rw [ew_77]; exact hD1
  clear hP1 hD1
  refine W.widen (k := 19) (n := 1757) (Nat.le_of_ble_eq_true rfl) (Nat.le_of_ble_eq_true rfl) ?_
  refine va_putF (D := (dC, dI)) (ci := 11) (v := .ref q_75) (ty := .array .int) (C := RX11) (T := TX11) (N := 63) hx hb hts in_wsX11_init_X11 tyX11 tyX11_ok nmX11 hown hK hP hD hS 0 rfl rfl 18 (by decide +kernel) (hts (.fieldLink RX11 64 "ShipOfficeModel" "from" "[I") iw_X11_init_22) (fun _ h9 => h9) rfl hin rfl (by decide +kernel) rfl rfl (by rw [hnf_74]; decide) dX11_init_160 (fun H locs hP hD hS => ?_)
  obtain ⟨f_78, ef_78⟩ : ∃ zq : List Value, zq = f_74.set 18 (.ref q_75) := ⟨_, rfl⟩
  have hnf_78 : f_78.length = 63 := by rw [ef_78, List.length_set]; exact hnf_74
  clear hnf_74
  have hP : va_P (dC, dI) vwCl ((g0, .inr (11, f_78)) :: w_77) H := by rw [ef_78]; exact hP
  have hD : va_D A ((g0, .inr (11, f_78)) :: w_77) := by rw [ef_78]; exact hD
  refine lv_aload_n hx hb dX11_init_163 rfl (lv_at hl 0 rfl) ?_
  refine lv_sipush (v := 1800) hx hb dX11_init_164 (by decide +kernel) ?_
  refine va_newa (atype := .int) (ty := .int) (a0 := (1800, .inl (fun _ => 0))) hx hb (hts (.arrayClass .int) iw_X11_init_3) rfl hK hP hD hS hA (fun _ => rfl) (by decide +kernel) (by decide +kernel) (by decide +kernel) (Nat.le_of_ble_eq_true rfl) (Nat.le_of_ble_eq_true rfl) dX11_init_167 (fun q_79 k_80 H hK1 hP1 hD1 hS => ?_)
  obtain ⟨ekq_79, hK⟩ := lv_ad (k := 0) hK1 rfl
  rw [ekq_79] at hP1 hD1
  clear ekq_79 hK1
  obtain ⟨w_81, ew_81⟩ : ∃ zq : va_W, zq = w_77 ++ [(q_79, .inl (k_4, 1800, .inl (fun _ => 0)))] := ⟨_, rfl⟩
  have hP : va_P (dC, dI) vwCl ((g0, .inr (11, f_78)) :: w_81) H := by rw [ew_81]; exact hP1
  have hD : va_D A ((g0, .inr (11, f_78)) :: w_81) := by rw [ew_81]; exact hD1
  clear hP1 hD1
  refine W.widen (k := 20) (n := 3557) (Nat.le_of_ble_eq_true rfl) (Nat.le_of_ble_eq_true rfl) ?_
  refine va_putF (D := (dC, dI)) (ci := 11) (v := .ref q_79) (ty := .array .int) (C := RX11) (T := TX11) (N := 63) hx hb hts in_wsX11_init_X11 tyX11 tyX11_ok nmX11 hown hK hP hD hS 0 rfl rfl 19 (by decide +kernel) (hts (.fieldLink RX11 67 "ShipOfficeModel" "text" "[I") iw_X11_init_23) (fun _ h9 => h9) rfl hin rfl (by decide +kernel) rfl rfl (by rw [hnf_78]; decide) dX11_init_169 (fun H locs hP hD hS => ?_)
  obtain ⟨f_82, ef_82⟩ : ∃ zq : List Value, zq = f_78.set 19 (.ref q_79) := ⟨_, rfl⟩
  have hnf_82 : f_82.length = 63 := by rw [ef_82, List.length_set]; exact hnf_78
  clear hnf_78
  have hP : va_P (dC, dI) vwCl ((g0, .inr (11, f_82)) :: w_81) H := by rw [ef_82]; exact hP
  have hD : va_D A ((g0, .inr (11, f_82)) :: w_81) := by rw [ef_82]; exact hD
  refine lv_aload_n hx hb dX11_init_172 rfl (lv_at hl 0 rfl) ?_
  refine lv_bipush (v := 60) hx hb dX11_init_173 (by decide +kernel) ?_
  refine va_newa (atype := .int) (ty := .int) (a0 := (60, .inl (fun _ => 0))) hx hb (hts (.arrayClass .int) iw_X11_init_3) rfl hK hP hD hS hA (fun _ => rfl) (by decide +kernel) (by decide +kernel) (by decide +kernel) (Nat.le_of_ble_eq_true rfl) (Nat.le_of_ble_eq_true rfl) dX11_init_175 (fun q_83 k_84 H hK1 hP1 hD1 hS => ?_)
  obtain ⟨ekq_83, hK⟩ := lv_ad (k := 0) hK1 rfl
  rw [ekq_83] at hP1 hD1
  clear ekq_83 hK1
  obtain ⟨w_85, ew_85⟩ : ∃ zq : va_W, zq = w_81 ++ [(q_83, .inl (k_4, 60, .inl (fun _ => 0)))] := ⟨_, rfl⟩
  have hP : va_P (dC, dI) vwCl ((g0, .inr (11, f_82)) :: w_85) H := by rw [ew_85]; exact hP1
  have hD : va_D A ((g0, .inr (11, f_82)) :: w_85) := by rw [ew_85]; exact hD1
  clear hP1 hD1
  refine W.widen (k := 21) (n := 3617) (Nat.le_of_ble_eq_true rfl) (Nat.le_of_ble_eq_true rfl) ?_
  refine va_putF (D := (dC, dI)) (ci := 11) (v := .ref q_83) (ty := .array .int) (C := RX11) (T := TX11) (N := 63) hx hb hts in_wsX11_init_X11 tyX11 tyX11_ok nmX11 hown hK hP hD hS 0 rfl rfl 20 (by decide +kernel) (hts (.fieldLink RX11 70 "ShipOfficeModel" "man" "[I") iw_X11_init_24) (fun _ h9 => h9) rfl hin rfl (by decide +kernel) rfl rfl (by rw [hnf_82]; decide) dX11_init_177 (fun H locs hP hD hS => ?_)
  obtain ⟨f_86, ef_86⟩ : ∃ zq : List Value, zq = f_82.set 20 (.ref q_83) := ⟨_, rfl⟩
  have hnf_86 : f_86.length = 63 := by rw [ef_86, List.length_set]; exact hnf_82
  clear hnf_82
  have hP : va_P (dC, dI) vwCl ((g0, .inr (11, f_86)) :: w_85) H := by rw [ef_86]; exact hP
  have hD : va_D A ((g0, .inr (11, f_86)) :: w_85) := by rw [ef_86]; exact hD
  refine lv_aload_n hx hb dX11_init_180 rfl (lv_at hl 0 rfl) ?_
  refine lv_bipush (v := 60) hx hb dX11_init_181 (by decide +kernel) ?_
  refine va_newa (atype := .int) (ty := .int) (a0 := (60, .inl (fun _ => 0))) hx hb (hts (.arrayClass .int) iw_X11_init_3) rfl hK hP hD hS hA (fun _ => rfl) (by decide +kernel) (by decide +kernel) (by decide +kernel) (Nat.le_of_ble_eq_true rfl) (Nat.le_of_ble_eq_true rfl) dX11_init_183 (fun q_87 k_88 H hK1 hP1 hD1 hS => ?_)
  obtain ⟨ekq_87, hK⟩ := lv_ad (k := 0) hK1 rfl
  rw [ekq_87] at hP1 hD1
  clear ekq_87 hK1
  obtain ⟨w_89, ew_89⟩ : ∃ zq : va_W, zq = w_85 ++ [(q_87, .inl (k_4, 60, .inl (fun _ => 0)))] := ⟨_, rfl⟩
  have hP : va_P (dC, dI) vwCl ((g0, .inr (11, f_86)) :: w_89) H := by rw [ew_89]; exact hP1
  have hD : va_D A ((g0, .inr (11, f_86)) :: w_89) := by rw [ew_89]; exact hD1
  clear hP1 hD1
  refine W.widen (k := 22) (n := 3677) (Nat.le_of_ble_eq_true rfl) (Nat.le_of_ble_eq_true rfl) ?_
  refine va_putF (D := (dC, dI)) (ci := 11) (v := .ref q_87) (ty := .array .int) (C := RX11) (T := TX11) (N := 63) hx hb hts in_wsX11_init_X11 tyX11 tyX11_ok nmX11 hown hK hP hD hS 0 rfl rfl 21 (by decide +kernel) (hts (.fieldLink RX11 73 "ShipOfficeModel" "voyage" "[I") iw_X11_init_25) (fun _ h9 => h9) rfl hin rfl (by decide +kernel) rfl rfl (by rw [hnf_86]; decide) dX11_init_185 (fun H locs hP hD hS => ?_)
  obtain ⟨f_90, ef_90⟩ : ∃ zq : List Value, zq = f_86.set 21 (.ref q_87) := ⟨_, rfl⟩
  have hnf_90 : f_90.length = 63 := by rw [ef_90, List.length_set]; exact hnf_86
  clear hnf_86
  have hP : va_P (dC, dI) vwCl ((g0, .inr (11, f_90)) :: w_89) H := by rw [ef_90]; exact hP
  have hD : va_D A ((g0, .inr (11, f_90)) :: w_89) := by rw [ef_90]; exact hD
  refine lv_aload_n hx hb dX11_init_188 rfl (lv_at hl 0 rfl) ?_
  refine lv_bipush (v := 60) hx hb dX11_init_189 (by decide +kernel) ?_
  refine va_newa (atype := .int) (ty := .int) (a0 := (60, .inl (fun _ => 0))) hx hb (hts (.arrayClass .int) iw_X11_init_3) rfl hK hP hD hS hA (fun _ => rfl) (by decide +kernel) (by decide +kernel) (by decide +kernel) (Nat.le_of_ble_eq_true rfl) (Nat.le_of_ble_eq_true rfl) dX11_init_191 (fun q_91 k_92 H hK1 hP1 hD1 hS => ?_)
  obtain ⟨ekq_91, hK⟩ := lv_ad (k := 0) hK1 rfl
  rw [ekq_91] at hP1 hD1
  clear ekq_91 hK1
  obtain ⟨w_93, ew_93⟩ : ∃ zq : va_W, zq = w_89 ++ [(q_91, .inl (k_4, 60, .inl (fun _ => 0)))] := ⟨_, rfl⟩
  have hP : va_P (dC, dI) vwCl ((g0, .inr (11, f_90)) :: w_93) H := by rw [ew_93]; exact hP1
  have hD : va_D A ((g0, .inr (11, f_90)) :: w_93) := by rw [ew_93]; exact hD1
  clear hP1 hD1
  refine W.widen (k := 23) (n := 3737) (Nat.le_of_ble_eq_true rfl) (Nat.le_of_ble_eq_true rfl) ?_
  refine va_putF (D := (dC, dI)) (ci := 11) (v := .ref q_91) (ty := .array .int) (C := RX11) (T := TX11) (N := 63) hx hb hts in_wsX11_init_X11 tyX11 tyX11_ok nmX11 hown hK hP hD hS 0 rfl rfl 22 (by decide +kernel) (hts (.fieldLink RX11 76 "ShipOfficeModel" "wage" "[I") iw_X11_init_26) (fun _ h9 => h9) rfl hin rfl (by decide +kernel) rfl rfl (by rw [hnf_90]; decide) dX11_init_193 (fun H locs hP hD hS => ?_)
  obtain ⟨f_94, ef_94⟩ : ∃ zq : List Value, zq = f_90.set 22 (.ref q_91) := ⟨_, rfl⟩
  have hnf_94 : f_94.length = 63 := by rw [ef_94, List.length_set]; exact hnf_90
  clear hnf_90
  have hP : va_P (dC, dI) vwCl ((g0, .inr (11, f_94)) :: w_93) H := by rw [ef_94]; exact hP
  have hD : va_D A ((g0, .inr (11, f_94)) :: w_93) := by rw [ef_94]; exact hD
  refine lv_aload_n hx hb dX11_init_196 rfl (lv_at hl 0 rfl) ?_
  refine lv_bipush (v := 60) hx hb dX11_init_197 (by decide +kernel) ?_
  refine va_newa (atype := .int) (ty := .int) (a0 := (60, .inl (fun _ => 0))) hx hb (hts (.arrayClass .int) iw_X11_init_3) rfl hK hP hD hS hA (fun _ => rfl) (by decide +kernel) (by decide +kernel) (by decide +kernel) (Nat.le_of_ble_eq_true rfl) (Nat.le_of_ble_eq_true rfl) dX11_init_199 (fun q_95 k_96 H hK1 hP1 hD1 hS => ?_)
  obtain ⟨ekq_95, hK⟩ := lv_ad (k := 0) hK1 rfl
  rw [ekq_95] at hP1 hD1
  clear ekq_95 hK1
  obtain ⟨w_97, ew_97⟩ : ∃ zq : va_W, zq = w_93 ++ [(q_95, .inl (k_4, 60, .inl (fun _ => 0)))] := ⟨_, rfl⟩
  have hP : va_P (dC, dI) vwCl ((g0, .inr (11, f_94)) :: w_97) H := by rw [ew_97]; exact hP1
  have hD : va_D A ((g0, .inr (11, f_94)) :: w_97) := by rw [ew_97]; exact hD1
  clear hP1 hD1
  refine W.widen (k := 24) (n := 3797) (Nat.le_of_ble_eq_true rfl) (Nat.le_of_ble_eq_true rfl) ?_
  refine va_putF (D := (dC, dI)) (ci := 11) (v := .ref q_95) (ty := .array .int) (C := RX11) (T := TX11) (N := 63) hx hb hts in_wsX11_init_X11 tyX11 tyX11_ok nmX11 hown hK hP hD hS 0 rfl rfl 23 (by decide +kernel) (hts (.fieldLink RX11 79 "ShipOfficeModel" "rank" "[I") iw_X11_init_27) (fun _ h9 => h9) rfl hin rfl (by decide +kernel) rfl rfl (by rw [hnf_94]; decide) dX11_init_201 (fun H locs hP hD hS => ?_)
  obtain ⟨f_98, ef_98⟩ : ∃ zq : List Value, zq = f_94.set 23 (.ref q_95) := ⟨_, rfl⟩
  have hnf_98 : f_98.length = 63 := by rw [ef_98, List.length_set]; exact hnf_94
  clear hnf_94
  have hP : va_P (dC, dI) vwCl ((g0, .inr (11, f_98)) :: w_97) H := by rw [ef_98]; exact hP
  have hD : va_D A ((g0, .inr (11, f_98)) :: w_97) := by rw [ef_98]; exact hD
  refine lv_aload_n hx hb dX11_init_204 rfl (lv_at hl 0 rfl) ?_
  refine lv_bipush (v := 60) hx hb dX11_init_205 (by decide +kernel) ?_
  refine va_newa (atype := .int) (ty := .int) (a0 := (60, .inl (fun _ => 0))) hx hb (hts (.arrayClass .int) iw_X11_init_3) rfl hK hP hD hS hA (fun _ => rfl) (by decide +kernel) (by decide +kernel) (by decide +kernel) (Nat.le_of_ble_eq_true rfl) (Nat.le_of_ble_eq_true rfl) dX11_init_207 (fun q_99 k_100 H hK1 hP1 hD1 hS => ?_)
  obtain ⟨ekq_99, hK⟩ := lv_ad (k := 0) hK1 rfl
  rw [ekq_99] at hP1 hD1
  clear ekq_99 hK1
  obtain ⟨w_101, ew_101⟩ : ∃ zq : va_W, zq = w_97 ++ [(q_99, .inl (k_4, 60, .inl (fun _ => 0)))] := ⟨_, rfl⟩
  have hP : va_P (dC, dI) vwCl ((g0, .inr (11, f_98)) :: w_101) H := by rw [ew_101]; exact hP1
  have hD : va_D A ((g0, .inr (11, f_98)) :: w_101) := by rw [ew_101]; exact hD1
  clear hP1 hD1
  refine W.widen (k := 25) (n := 3857) (Nat.le_of_ble_eq_true rfl) (Nat.le_of_ble_eq_true rfl) ?_
  refine va_putF (D := (dC, dI)) (ci := 11) (v := .ref q_99) (ty := .array .int) (C := RX11) (T := TX11) (N := 63) hx hb hts in_wsX11_init_X11 tyX11 tyX11_ok nmX11 hown hK hP hD hS 0 rfl rfl 24 (by decide +kernel) (hts (.fieldLink RX11 82 "ShipOfficeModel" "paper" "[I") iw_X11_init_28) (fun _ h9 => h9) rfl hin rfl (by decide +kernel) rfl rfl (by rw [hnf_98]; decide) dX11_init_209 (fun H locs hP hD hS => ?_)
  obtain ⟨f_102, ef_102⟩ : ∃ zq : List Value, zq = f_98.set 24 (.ref q_99) := ⟨_, rfl⟩
  have hnf_102 : f_102.length = 63 := by rw [ef_102, List.length_set]; exact hnf_98
  clear hnf_98
  have hP : va_P (dC, dI) vwCl ((g0, .inr (11, f_102)) :: w_101) H := by rw [ef_102]; exact hP
  have hD : va_D A ((g0, .inr (11, f_102)) :: w_101) := by rw [ef_102]; exact hD
  refine lv_aload_n hx hb dX11_init_212 rfl (lv_at hl 0 rfl) ?_
  refine lv_bipush (v := 60) hx hb dX11_init_213 (by decide +kernel) ?_
  refine va_newa (atype := .int) (ty := .int) (a0 := (60, .inl (fun _ => 0))) hx hb (hts (.arrayClass .int) iw_X11_init_3) rfl hK hP hD hS hA (fun _ => rfl) (by decide +kernel) (by decide +kernel) (by decide +kernel) (Nat.le_of_ble_eq_true rfl) (Nat.le_of_ble_eq_true rfl) dX11_init_215 (fun q_103 k_104 H hK1 hP1 hD1 hS => ?_)
  obtain ⟨ekq_103, hK⟩ := lv_ad (k := 0) hK1 rfl
  rw [ekq_103] at hP1 hD1
  clear ekq_103 hK1
  obtain ⟨w_105, ew_105⟩ : ∃ zq : va_W, zq = w_101 ++ [(q_103, .inl (k_4, 60, .inl (fun _ => 0)))] := ⟨_, rfl⟩
  have hP : va_P (dC, dI) vwCl ((g0, .inr (11, f_102)) :: w_105) H := by rw [ew_105]; exact hP1
  have hD : va_D A ((g0, .inr (11, f_102)) :: w_105) := by rw [ew_105]; exact hD1
  clear hP1 hD1
  refine W.widen (k := 26) (n := 3917) (Nat.le_of_ble_eq_true rfl) (Nat.le_of_ble_eq_true rfl) ?_
  refine va_putF (D := (dC, dI)) (ci := 11) (v := .ref q_103) (ty := .array .int) (C := RX11) (T := TX11) (N := 63) hx hb hts in_wsX11_init_X11 tyX11 tyX11_ok nmX11 hown hK hP hD hS 0 rfl rfl 25 (by decide +kernel) (hts (.fieldLink RX11 85 "ShipOfficeModel" "signed" "[I") iw_X11_init_29) (fun _ h9 => h9) rfl hin rfl (by decide +kernel) rfl rfl (by rw [hnf_102]; decide) dX11_init_217 (fun H locs hP hD hS => ?_)
  obtain ⟨f_106, ef_106⟩ : ∃ zq : List Value, zq = f_102.set 25 (.ref q_103) := ⟨_, rfl⟩
  have hnf_106 : f_106.length = 63 := by rw [ef_106, List.length_set]; exact hnf_102
  clear hnf_102
  have hP : va_P (dC, dI) vwCl ((g0, .inr (11, f_106)) :: w_105) H := by rw [ef_106]; exact hP
  have hD : va_D A ((g0, .inr (11, f_106)) :: w_105) := by rw [ef_106]; exact hD
  refine lv_aload_n hx hb dX11_init_220 rfl (lv_at hl 0 rfl) ?_
  refine lv_bipush (v := 60) hx hb dX11_init_221 (by decide +kernel) ?_
  refine va_newa (atype := .int) (ty := .int) (a0 := (60, .inl (fun _ => 0))) hx hb (hts (.arrayClass .int) iw_X11_init_3) rfl hK hP hD hS hA (fun _ => rfl) (by decide +kernel) (by decide +kernel) (by decide +kernel) (Nat.le_of_ble_eq_true rfl) (Nat.le_of_ble_eq_true rfl) dX11_init_223 (fun q_107 k_108 H hK1 hP1 hD1 hS => ?_)
  obtain ⟨ekq_107, hK⟩ := lv_ad (k := 0) hK1 rfl
  rw [ekq_107] at hP1 hD1
  clear ekq_107 hK1
  obtain ⟨w_109, ew_109⟩ : ∃ zq : va_W, zq = w_105 ++ [(q_107, .inl (k_4, 60, .inl (fun _ => 0)))] := ⟨_, rfl⟩
  have hP : va_P (dC, dI) vwCl ((g0, .inr (11, f_106)) :: w_109) H := by rw [ew_109]; exact hP1
  have hD : va_D A ((g0, .inr (11, f_106)) :: w_109) := by rw [ew_109]; exact hD1
  clear hP1 hD1
  refine W.widen (k := 27) (n := 3977) (Nat.le_of_ble_eq_true rfl) (Nat.le_of_ble_eq_true rfl) ?_
  refine va_putF (D := (dC, dI)) (ci := 11) (v := .ref q_107) (ty := .array .int) (C := RX11) (T := TX11) (N := 63) hx hb hts in_wsX11_init_X11 tyX11 tyX11_ok nmX11 hown hK hP hD hS 0 rfl rfl 26 (by decide +kernel) (hts (.fieldLink RX11 88 "ShipOfficeModel" "offOn" "[I") iw_X11_init_30) (fun _ h9 => h9) rfl hin rfl (by decide +kernel) rfl rfl (by rw [hnf_106]; decide) dX11_init_225 (fun H locs hP hD hS => ?_)
  obtain ⟨f_110, ef_110⟩ : ∃ zq : List Value, zq = f_106.set 26 (.ref q_107) := ⟨_, rfl⟩
  have hnf_110 : f_110.length = 63 := by rw [ef_110, List.length_set]; exact hnf_106
  clear hnf_106
  have hP : va_P (dC, dI) vwCl ((g0, .inr (11, f_110)) :: w_109) H := by rw [ef_110]; exact hP
  have hD : va_D A ((g0, .inr (11, f_110)) :: w_109) := by rw [ef_110]; exact hD
  refine lv_aload_n hx hb dX11_init_228 rfl (lv_at hl 0 rfl) ?_
  refine lv_bipush (v := 60) hx hb dX11_init_229 (by decide +kernel) ?_
  refine va_newa (atype := .int) (ty := .int) (a0 := (60, .inl (fun _ => 0))) hx hb (hts (.arrayClass .int) iw_X11_init_3) rfl hK hP hD hS hA (fun _ => rfl) (by decide +kernel) (by decide +kernel) (by decide +kernel) (Nat.le_of_ble_eq_true rfl) (Nat.le_of_ble_eq_true rfl) dX11_init_231 (fun q_111 k_112 H hK1 hP1 hD1 hS => ?_)
  obtain ⟨ekq_111, hK⟩ := lv_ad (k := 0) hK1 rfl
  rw [ekq_111] at hP1 hD1
  clear ekq_111 hK1
  obtain ⟨w_113, ew_113⟩ : ∃ zq : va_W, zq = w_109 ++ [(q_111, .inl (k_4, 60, .inl (fun _ => 0)))] := ⟨_, rfl⟩
  have hP : va_P (dC, dI) vwCl ((g0, .inr (11, f_110)) :: w_113) H := by rw [ew_113]; exact hP1
  have hD : va_D A ((g0, .inr (11, f_110)) :: w_113) := by rw [ew_113]; exact hD1
  clear hP1 hD1
  refine W.widen (k := 28) (n := 4037) (Nat.le_of_ble_eq_true rfl) (Nat.le_of_ble_eq_true rfl) ?_
  refine va_putF (D := (dC, dI)) (ci := 11) (v := .ref q_111) (ty := .array .int) (C := RX11) (T := TX11) (N := 63) hx hb hts in_wsX11_init_X11 tyX11 tyX11_ok nmX11 hown hK hP hD hS 0 rfl rfl 27 (by decide +kernel) (hts (.fieldLink RX11 91 "ShipOfficeModel" "note" "[I") iw_X11_init_31) (fun _ h9 => h9) rfl hin rfl (by decide +kernel) rfl rfl (by rw [hnf_110]; decide) dX11_init_233 (fun H locs hP hD hS => ?_)
  obtain ⟨f_114, ef_114⟩ : ∃ zq : List Value, zq = f_110.set 27 (.ref q_111) := ⟨_, rfl⟩
  have hnf_114 : f_114.length = 63 := by rw [ef_114, List.length_set]; exact hnf_110
  clear hnf_110
  have hP : va_P (dC, dI) vwCl ((g0, .inr (11, f_114)) :: w_113) H := by rw [ef_114]; exact hP
  have hD : va_D A ((g0, .inr (11, f_114)) :: w_113) := by rw [ef_114]; exact hD
  refine lv_aload_n hx hb dX11_init_236 rfl (lv_at hl 0 rfl) ?_
  refine lv_bipush (v := 60) hx hb dX11_init_237 (by decide +kernel) ?_
  refine va_newa (atype := .int) (ty := .int) (a0 := (60, .inl (fun _ => 0))) hx hb (hts (.arrayClass .int) iw_X11_init_3) rfl hK hP hD hS hA (fun _ => rfl) (by decide +kernel) (by decide +kernel) (by decide +kernel) (Nat.le_of_ble_eq_true rfl) (Nat.le_of_ble_eq_true rfl) dX11_init_239 (fun q_115 k_116 H hK1 hP1 hD1 hS => ?_)
  obtain ⟨ekq_115, hK⟩ := lv_ad (k := 0) hK1 rfl
  rw [ekq_115] at hP1 hD1
  clear ekq_115 hK1
  obtain ⟨w_117, ew_117⟩ : ∃ zq : va_W, zq = w_113 ++ [(q_115, .inl (k_4, 60, .inl (fun _ => 0)))] := ⟨_, rfl⟩
  have hP : va_P (dC, dI) vwCl ((g0, .inr (11, f_114)) :: w_117) H := by rw [ew_117]; exact hP1
  have hD : va_D A ((g0, .inr (11, f_114)) :: w_117) := by rw [ew_117]; exact hD1
  clear hP1 hD1
  refine W.widen (k := 29) (n := 4097) (Nat.le_of_ble_eq_true rfl) (Nat.le_of_ble_eq_true rfl) ?_
  refine va_putF (D := (dC, dI)) (ci := 11) (v := .ref q_115) (ty := .array .int) (C := RX11) (T := TX11) (N := 63) hx hb hts in_wsX11_init_X11 tyX11 tyX11_ok nmX11 hown hK hP hD hS 0 rfl rfl 28 (by decide +kernel) (hts (.fieldLink RX11 94 "ShipOfficeModel" "given" "[I") iw_X11_init_32) (fun _ h9 => h9) rfl hin rfl (by decide +kernel) rfl rfl (by rw [hnf_114]; decide) dX11_init_241 (fun H locs hP hD hS => ?_)
  obtain ⟨f_118, ef_118⟩ : ∃ zq : List Value, zq = f_114.set 28 (.ref q_115) := ⟨_, rfl⟩
  have hnf_118 : f_118.length = 63 := by rw [ef_118, List.length_set]; exact hnf_114
  clear hnf_114
  have hP : va_P (dC, dI) vwCl ((g0, .inr (11, f_118)) :: w_117) H := by rw [ef_118]; exact hP
  have hD : va_D A ((g0, .inr (11, f_118)) :: w_117) := by rw [ef_118]; exact hD
  refine lv_aload_n hx hb dX11_init_244 rfl (lv_at hl 0 rfl) ?_
  refine lv_bipush (v := 60) hx hb dX11_init_245 (by decide +kernel) ?_
  refine va_newa (atype := .int) (ty := .int) (a0 := (60, .inl (fun _ => 0))) hx hb (hts (.arrayClass .int) iw_X11_init_3) rfl hK hP hD hS hA (fun _ => rfl) (by decide +kernel) (by decide +kernel) (by decide +kernel) (Nat.le_of_ble_eq_true rfl) (Nat.le_of_ble_eq_true rfl) dX11_init_247 (fun q_119 k_120 H hK1 hP1 hD1 hS => ?_)
  obtain ⟨ekq_119, hK⟩ := lv_ad (k := 0) hK1 rfl
  rw [ekq_119] at hP1 hD1
  clear ekq_119 hK1
  obtain ⟨w_121, ew_121⟩ : ∃ zq : va_W, zq = w_117 ++ [(q_119, .inl (k_4, 60, .inl (fun _ => 0)))] := ⟨_, rfl⟩
  have hP : va_P (dC, dI) vwCl ((g0, .inr (11, f_118)) :: w_121) H := by rw [ew_121]; exact hP1
  have hD : va_D A ((g0, .inr (11, f_118)) :: w_121) := by rw [ew_121]; exact hD1
  clear hP1 hD1
  refine W.widen (k := 30) (n := 4157) (Nat.le_of_ble_eq_true rfl) (Nat.le_of_ble_eq_true rfl) ?_
  refine va_putF (D := (dC, dI)) (ci := 11) (v := .ref q_119) (ty := .array .int) (C := RX11) (T := TX11) (N := 63) hx hb hts in_wsX11_init_X11 tyX11 tyX11_ok nmX11 hown hK hP hD hS 0 rfl rfl 29 (by decide +kernel) (hts (.fieldLink RX11 97 "ShipOfficeModel" "allotted" "[I") iw_X11_init_33) (fun _ h9 => h9) rfl hin rfl (by decide +kernel) rfl rfl (by rw [hnf_118]; decide) dX11_init_249 (fun H locs hP hD hS => ?_)
  obtain ⟨f_122, ef_122⟩ : ∃ zq : List Value, zq = f_118.set 29 (.ref q_119) := ⟨_, rfl⟩
  have hnf_122 : f_122.length = 63 := by rw [ef_122, List.length_set]; exact hnf_118
  clear hnf_118
  have hP : va_P (dC, dI) vwCl ((g0, .inr (11, f_122)) :: w_121) H := by rw [ef_122]; exact hP
  have hD : va_D A ((g0, .inr (11, f_122)) :: w_121) := by rw [ef_122]; exact hD
  refine lv_aload_n hx hb dX11_init_252 rfl (lv_at hl 0 rfl) ?_
  refine lv_bipush (v := 60) hx hb dX11_init_253 (by decide +kernel) ?_
  refine va_newa (atype := .int) (ty := .int) (a0 := (60, .inl (fun _ => 0))) hx hb (hts (.arrayClass .int) iw_X11_init_3) rfl hK hP hD hS hA (fun _ => rfl) (by decide +kernel) (by decide +kernel) (by decide +kernel) (Nat.le_of_ble_eq_true rfl) (Nat.le_of_ble_eq_true rfl) dX11_init_255 (fun q_123 k_124 H hK1 hP1 hD1 hS => ?_)
  obtain ⟨ekq_123, hK⟩ := lv_ad (k := 0) hK1 rfl
  rw [ekq_123] at hP1 hD1
  clear ekq_123 hK1
  obtain ⟨w_125, ew_125⟩ : ∃ zq : va_W, zq = w_121 ++ [(q_123, .inl (k_4, 60, .inl (fun _ => 0)))] := ⟨_, rfl⟩
  have hP : va_P (dC, dI) vwCl ((g0, .inr (11, f_122)) :: w_125) H := by rw [ew_125]; exact hP1
  have hD : va_D A ((g0, .inr (11, f_122)) :: w_125) := by rw [ew_125]; exact hD1
  clear hP1 hD1
  refine W.widen (k := 31) (n := 4217) (Nat.le_of_ble_eq_true rfl) (Nat.le_of_ble_eq_true rfl) ?_
  refine va_putF (D := (dC, dI)) (ci := 11) (v := .ref q_123) (ty := .array .int) (C := RX11) (T := TX11) (N := 63) hx hb hts in_wsX11_init_X11 tyX11 tyX11_ok nmX11 hown hK hP hD hS 0 rfl rfl 30 (by decide +kernel) (hts (.fieldLink RX11 100 "ShipOfficeModel" "fines" "[I") iw_X11_init_34) (fun _ h9 => h9) rfl hin rfl (by decide +kernel) rfl rfl (by rw [hnf_122]; decide) dX11_init_257 (fun H locs hP hD hS => ?_)
  obtain ⟨f_126, ef_126⟩ : ∃ zq : List Value, zq = f_122.set 30 (.ref q_123) := ⟨_, rfl⟩
  have hnf_126 : f_126.length = 63 := by rw [ef_126, List.length_set]; exact hnf_122
  clear hnf_122
  have hP : va_P (dC, dI) vwCl ((g0, .inr (11, f_126)) :: w_125) H := by rw [ef_126]; exact hP
  have hD : va_D A ((g0, .inr (11, f_126)) :: w_125) := by rw [ef_126]; exact hD
  refine lv_aload_n hx hb dX11_init_260 rfl (lv_at hl 0 rfl) ?_
  refine lv_bipush (v := 60) hx hb dX11_init_261 (by decide +kernel) ?_
  refine va_newa (atype := .int) (ty := .int) (a0 := (60, .inl (fun _ => 0))) hx hb (hts (.arrayClass .int) iw_X11_init_3) rfl hK hP hD hS hA (fun _ => rfl) (by decide +kernel) (by decide +kernel) (by decide +kernel) (Nat.le_of_ble_eq_true rfl) (Nat.le_of_ble_eq_true rfl) dX11_init_263 (fun q_127 k_128 H hK1 hP1 hD1 hS => ?_)
  obtain ⟨ekq_127, hK⟩ := lv_ad (k := 0) hK1 rfl
  rw [ekq_127] at hP1 hD1
  clear ekq_127 hK1
  obtain ⟨w_129, ew_129⟩ : ∃ zq : va_W, zq = w_125 ++ [(q_127, .inl (k_4, 60, .inl (fun _ => 0)))] := ⟨_, rfl⟩
  have hP : va_P (dC, dI) vwCl ((g0, .inr (11, f_126)) :: w_129) H := by rw [ew_129]; exact hP1
  have hD : va_D A ((g0, .inr (11, f_126)) :: w_129) := by rw [ew_129]; exact hD1
  clear hP1 hD1
  refine W.widen (k := 32) (n := 4277) (Nat.le_of_ble_eq_true rfl) (Nat.le_of_ble_eq_true rfl) ?_
  refine va_putF (D := (dC, dI)) (ci := 11) (v := .ref q_127) (ty := .array .int) (C := RX11) (T := TX11) (N := 63) hx hb hts in_wsX11_init_X11 tyX11 tyX11_ok nmX11 hown hK hP hD hS 0 rfl rfl 31 (by decide +kernel) (hts (.fieldLink RX11 103 "ShipOfficeModel" "shorts" "[I") iw_X11_init_35) (fun _ h9 => h9) rfl hin rfl (by decide +kernel) rfl rfl (by rw [hnf_126]; decide) dX11_init_265 (fun H locs hP hD hS => ?_)
  obtain ⟨f_130, ef_130⟩ : ∃ zq : List Value, zq = f_126.set 31 (.ref q_127) := ⟨_, rfl⟩
  have hnf_130 : f_130.length = 63 := by rw [ef_130, List.length_set]; exact hnf_126
  clear hnf_126
  have hP : va_P (dC, dI) vwCl ((g0, .inr (11, f_130)) :: w_129) H := by rw [ef_130]; exact hP
  have hD : va_D A ((g0, .inr (11, f_130)) :: w_129) := by rw [ef_130]; exact hD
  refine lv_aload_n hx hb dX11_init_268 rfl (lv_at hl 0 rfl) ?_
  refine lv_bipush (v := 60) hx hb dX11_init_269 (by decide +kernel) ?_
  refine va_newa (atype := .int) (ty := .int) (a0 := (60, .inl (fun _ => 0))) hx hb (hts (.arrayClass .int) iw_X11_init_3) rfl hK hP hD hS hA (fun _ => rfl) (by decide +kernel) (by decide +kernel) (by decide +kernel) (Nat.le_of_ble_eq_true rfl) (Nat.le_of_ble_eq_true rfl) dX11_init_271 (fun q_131 k_132 H hK1 hP1 hD1 hS => ?_)
  obtain ⟨ekq_131, hK⟩ := lv_ad (k := 0) hK1 rfl
  rw [ekq_131] at hP1 hD1
  clear ekq_131 hK1
  obtain ⟨w_133, ew_133⟩ : ∃ zq : va_W, zq = w_129 ++ [(q_131, .inl (k_4, 60, .inl (fun _ => 0)))] := ⟨_, rfl⟩
  have hP : va_P (dC, dI) vwCl ((g0, .inr (11, f_130)) :: w_133) H := by rw [ew_133]; exact hP1
  have hD : va_D A ((g0, .inr (11, f_130)) :: w_133) := by rw [ew_133]; exact hD1
  clear hP1 hD1
  refine W.widen (k := 33) (n := 4337) (Nat.le_of_ble_eq_true rfl) (Nat.le_of_ble_eq_true rfl) ?_
  refine va_putF (D := (dC, dI)) (ci := 11) (v := .ref q_131) (ty := .array .int) (C := RX11) (T := TX11) (N := 63) hx hb hts in_wsX11_init_X11 tyX11 tyX11_ok nmX11 hown hK hP hD hS 0 rfl rfl 32 (by decide +kernel) (hts (.fieldLink RX11 106 "ShipOfficeModel" "shortDays" "[I") iw_X11_init_36) (fun _ h9 => h9) rfl hin rfl (by decide +kernel) rfl rfl (by rw [hnf_130]; decide) dX11_init_273 (fun H locs hP hD hS => ?_)
  obtain ⟨f_134, ef_134⟩ : ∃ zq : List Value, zq = f_130.set 32 (.ref q_131) := ⟨_, rfl⟩
  have hnf_134 : f_134.length = 63 := by rw [ef_134, List.length_set]; exact hnf_130
  clear hnf_130
  have hP : va_P (dC, dI) vwCl ((g0, .inr (11, f_134)) :: w_133) H := by rw [ef_134]; exact hP
  have hD : va_D A ((g0, .inr (11, f_134)) :: w_133) := by rw [ef_134]; exact hD
  refine lv_aload_n hx hb dX11_init_276 rfl (lv_at hl 0 rfl) ?_
  refine lv_sipush (v := 360) hx hb dX11_init_277 (by decide +kernel) ?_
  refine va_newa (atype := .int) (ty := .int) (a0 := (360, .inl (fun _ => 0))) hx hb (hts (.arrayClass .int) iw_X11_init_3) rfl hK hP hD hS hA (fun _ => rfl) (by decide +kernel) (by decide +kernel) (by decide +kernel) (Nat.le_of_ble_eq_true rfl) (Nat.le_of_ble_eq_true rfl) dX11_init_280 (fun q_135 k_136 H hK1 hP1 hD1 hS => ?_)
  obtain ⟨ekq_135, hK⟩ := lv_ad (k := 0) hK1 rfl
  rw [ekq_135] at hP1 hD1
  clear ekq_135 hK1
  obtain ⟨w_137, ew_137⟩ : ∃ zq : va_W, zq = w_133 ++ [(q_135, .inl (k_4, 360, .inl (fun _ => 0)))] := ⟨_, rfl⟩
  have hP : va_P (dC, dI) vwCl ((g0, .inr (11, f_134)) :: w_137) H := by rw [ew_137]; exact hP1
  have hD : va_D A ((g0, .inr (11, f_134)) :: w_137) := by rw [ew_137]; exact hD1
  clear hP1 hD1
  refine W.widen (k := 34) (n := 4697) (Nat.le_of_ble_eq_true rfl) (Nat.le_of_ble_eq_true rfl) ?_
  refine va_putF (D := (dC, dI)) (ci := 11) (v := .ref q_135) (ty := .array .int) (C := RX11) (T := TX11) (N := 63) hx hb hts in_wsX11_init_X11 tyX11 tyX11_ok nmX11 hown hK hP hD hS 0 rfl rfl 33 (by decide +kernel) (hts (.fieldLink RX11 109 "ShipOfficeModel" "fineDay" "[I") iw_X11_init_37) (fun _ h9 => h9) rfl hin rfl (by decide +kernel) rfl rfl (by rw [hnf_134]; decide) dX11_init_282 (fun H locs hP hD hS => ?_)
  obtain ⟨f_138, ef_138⟩ : ∃ zq : List Value, zq = f_134.set 33 (.ref q_135) := ⟨_, rfl⟩
  have hnf_138 : f_138.length = 63 := by rw [ef_138, List.length_set]; exact hnf_134
  clear hnf_134
  have hP : va_P (dC, dI) vwCl ((g0, .inr (11, f_138)) :: w_137) H := by rw [ef_138]; exact hP
  have hD : va_D A ((g0, .inr (11, f_138)) :: w_137) := by rw [ef_138]; exact hD
  refine lv_aload_n hx hb dX11_init_285 rfl (lv_at hl 0 rfl) ?_
  refine lv_sipush (v := 360) hx hb dX11_init_286 (by decide +kernel) ?_
  refine va_newa (atype := .int) (ty := .int) (a0 := (360, .inl (fun _ => 0))) hx hb (hts (.arrayClass .int) iw_X11_init_3) rfl hK hP hD hS hA (fun _ => rfl) (by decide +kernel) (by decide +kernel) (by decide +kernel) (Nat.le_of_ble_eq_true rfl) (Nat.le_of_ble_eq_true rfl) dX11_init_289 (fun q_139 k_140 H hK1 hP1 hD1 hS => ?_)
  obtain ⟨ekq_139, hK⟩ := lv_ad (k := 0) hK1 rfl
  rw [ekq_139] at hP1 hD1
  clear ekq_139 hK1
  obtain ⟨w_141, ew_141⟩ : ∃ zq : va_W, zq = w_137 ++ [(q_139, .inl (k_4, 360, .inl (fun _ => 0)))] := ⟨_, rfl⟩
  have hP : va_P (dC, dI) vwCl ((g0, .inr (11, f_138)) :: w_141) H := by rw [ew_141]; exact hP1
  have hD : va_D A ((g0, .inr (11, f_138)) :: w_141) := by rw [ew_141]; exact hD1
  clear hP1 hD1
  refine W.widen (k := 35) (n := 5057) (Nat.le_of_ble_eq_true rfl) (Nat.le_of_ble_eq_true rfl) ?_
  refine va_putF (D := (dC, dI)) (ci := 11) (v := .ref q_139) (ty := .array .int) (C := RX11) (T := TX11) (N := 63) hx hb hts in_wsX11_init_X11 tyX11 tyX11_ok nmX11 hown hK hP hD hS 0 rfl rfl 34 (by decide +kernel) (hts (.fieldLink RX11 112 "ShipOfficeModel" "fineSum" "[I") iw_X11_init_38) (fun _ h9 => h9) rfl hin rfl (by decide +kernel) rfl rfl (by rw [hnf_138]; decide) dX11_init_291 (fun H locs hP hD hS => ?_)
  obtain ⟨f_142, ef_142⟩ : ∃ zq : List Value, zq = f_138.set 34 (.ref q_139) := ⟨_, rfl⟩
  have hnf_142 : f_142.length = 63 := by rw [ef_142, List.length_set]; exact hnf_138
  clear hnf_138
  have hP : va_P (dC, dI) vwCl ((g0, .inr (11, f_142)) :: w_141) H := by rw [ef_142]; exact hP
  have hD : va_D A ((g0, .inr (11, f_142)) :: w_141) := by rw [ef_142]; exact hD
  refine lv_aload_n hx hb dX11_init_294 rfl (lv_at hl 0 rfl) ?_
  refine lv_sipush (v := 1200) hx hb dX11_init_295 (by decide +kernel) ?_
  refine va_newa (atype := .int) (ty := .int) (a0 := (1200, .inl (fun _ => 0))) hx hb (hts (.arrayClass .int) iw_X11_init_3) rfl hK hP hD hS hA (fun _ => rfl) (by decide +kernel) (by decide +kernel) (by decide +kernel) (Nat.le_of_ble_eq_true rfl) (Nat.le_of_ble_eq_true rfl) dX11_init_298 (fun q_143 k_144 H hK1 hP1 hD1 hS => ?_)
  obtain ⟨ekq_143, hK⟩ := lv_ad (k := 0) hK1 rfl
  rw [ekq_143] at hP1 hD1
  clear ekq_143 hK1
  obtain ⟨w_145, ew_145⟩ : ∃ zq : va_W, zq = w_141 ++ [(q_143, .inl (k_4, 1200, .inl (fun _ => 0)))] := ⟨_, rfl⟩
  have hP : va_P (dC, dI) vwCl ((g0, .inr (11, f_142)) :: w_145) H := by rw [ew_145]; exact hP1
  have hD : va_D A ((g0, .inr (11, f_142)) :: w_145) := by rw [ew_145]; exact hD1
  clear hP1 hD1
  refine W.widen (k := 36) (n := 6257) (Nat.le_of_ble_eq_true rfl) (Nat.le_of_ble_eq_true rfl) ?_
  refine va_putF (D := (dC, dI)) (ci := 11) (v := .ref q_143) (ty := .array .int) (C := RX11) (T := TX11) (N := 63) hx hb hts in_wsX11_init_X11 tyX11 tyX11_ok nmX11 hown hK hP hD hS 0 rfl rfl 35 (by decide +kernel) (hts (.fieldLink RX11 115 "ShipOfficeModel" "shortOn" "[I") iw_X11_init_39) (fun _ h9 => h9) rfl hin rfl (by decide +kernel) rfl rfl (by rw [hnf_142]; decide) dX11_init_300 (fun H locs hP hD hS => ?_)
  obtain ⟨f_146, ef_146⟩ : ∃ zq : List Value, zq = f_142.set 35 (.ref q_143) := ⟨_, rfl⟩
  have hnf_146 : f_146.length = 63 := by rw [ef_146, List.length_set]; exact hnf_142
  clear hnf_142
  have hP : va_P (dC, dI) vwCl ((g0, .inr (11, f_146)) :: w_145) H := by rw [ef_146]; exact hP
  have hD : va_D A ((g0, .inr (11, f_146)) :: w_145) := by rw [ef_146]; exact hD
  refine lv_aload_n hx hb dX11_init_303 rfl (lv_at hl 0 rfl) ?_
  refine lv_sipush (v := 1200) hx hb dX11_init_304 (by decide +kernel) ?_
  refine va_newa (atype := .int) (ty := .int) (a0 := (1200, .inl (fun _ => 0))) hx hb (hts (.arrayClass .int) iw_X11_init_3) rfl hK hP hD hS hA (fun _ => rfl) (by decide +kernel) (by decide +kernel) (by decide +kernel) (Nat.le_of_ble_eq_true rfl) (Nat.le_of_ble_eq_true rfl) dX11_init_307 (fun q_147 k_148 H hK1 hP1 hD1 hS => ?_)
  obtain ⟨ekq_147, hK⟩ := lv_ad (k := 0) hK1 rfl
  rw [ekq_147] at hP1 hD1
  clear ekq_147 hK1
  obtain ⟨w_149, ew_149⟩ : ∃ zq : va_W, zq = w_145 ++ [(q_147, .inl (k_4, 1200, .inl (fun _ => 0)))] := ⟨_, rfl⟩
  have hP : va_P (dC, dI) vwCl ((g0, .inr (11, f_146)) :: w_149) H := by rw [ew_149]; exact hP1
  have hD : va_D A ((g0, .inr (11, f_146)) :: w_149) := by rw [ew_149]; exact hD1
  clear hP1 hD1
  refine W.widen (k := 37) (n := 7457) (Nat.le_of_ble_eq_true rfl) (Nat.le_of_ble_eq_true rfl) ?_
  refine va_putF (D := (dC, dI)) (ci := 11) (v := .ref q_147) (ty := .array .int) (C := RX11) (T := TX11) (N := 63) hx hb hts in_wsX11_init_X11 tyX11 tyX11_ok nmX11 hown hK hP hD hS 0 rfl rfl 36 (by decide +kernel) (hts (.fieldLink RX11 118 "ShipOfficeModel" "shortSum" "[I") iw_X11_init_40) (fun _ h9 => h9) rfl hin rfl (by decide +kernel) rfl rfl (by rw [hnf_146]; decide) dX11_init_309 (fun H locs hP hD hS => ?_)
  obtain ⟨f_150, ef_150⟩ : ∃ zq : List Value, zq = f_146.set 36 (.ref q_147) := ⟨_, rfl⟩
  have hnf_150 : f_150.length = 63 := by rw [ef_150, List.length_set]; exact hnf_146
  clear hnf_146
  have hP : va_P (dC, dI) vwCl ((g0, .inr (11, f_150)) :: w_149) H := by rw [ef_150]; exact hP
  have hD : va_D A ((g0, .inr (11, f_150)) :: w_149) := by rw [ef_150]; exact hD
  refine lv_aload_n hx hb dX11_init_312 rfl (lv_at hl 0 rfl) ?_
  refine lv_sipush (v := 360) hx hb dX11_init_313 (by decide +kernel) ?_
  refine va_newa (atype := .boolean) (ty := .boolean) (a0 := (360, .inl (fun _ => 0))) hx hb (hts (.arrayClass .boolean) iw_X11_init_41) rfl hK hP hD hS hA (fun _ => rfl) (by decide +kernel) (by decide +kernel) (by decide +kernel) (Nat.le_of_ble_eq_true rfl) (Nat.le_of_ble_eq_true rfl) dX11_init_316 (fun q_151 k_152 H hK1 hP1 hD1 hS => ?_)
  have hK : va_K (dC, dI) vwCl [(k_4, .int), (k_152, .boolean)] s := hK1
  clear hK1
  obtain ⟨w_153, ew_153⟩ : ∃ zq : va_W, zq = w_149 ++ [(q_151, .inl (k_152, 360, .inl (fun _ => 0)))] := ⟨_, rfl⟩
  have hP : va_P (dC, dI) vwCl ((g0, .inr (11, f_150)) :: w_153) H := by rw [ew_153]; exact hP1
  have hD : va_D A ((g0, .inr (11, f_150)) :: w_153) := by rw [ew_153]; exact hD1
  clear hP1 hD1
  refine W.widen (k := 38) (n := 7817) (Nat.le_of_ble_eq_true rfl) (Nat.le_of_ble_eq_true rfl) ?_
  refine va_putF (D := (dC, dI)) (ci := 11) (v := .ref q_151) (ty := .array .boolean) (C := RX11) (T := TX11) (N := 63) hx hb hts in_wsX11_init_X11 tyX11 tyX11_ok nmX11 hown hK hP hD hS 0 rfl rfl 37 (by decide +kernel) (hts (.fieldLink RX11 121 "ShipOfficeModel" "isRead" "[Z") iw_X11_init_42) (fun _ h9 => h9) rfl hin rfl (by decide +kernel) rfl rfl (by rw [hnf_150]; decide) dX11_init_318 (fun H locs hP hD hS => ?_)
  obtain ⟨f_154, ef_154⟩ : ∃ zq : List Value, zq = f_150.set 37 (.ref q_151) := ⟨_, rfl⟩
  have hnf_154 : f_154.length = 63 := by rw [ef_154, List.length_set]; exact hnf_150
  clear hnf_150
  have hP : va_P (dC, dI) vwCl ((g0, .inr (11, f_154)) :: w_153) H := by rw [ef_154]; exact hP
  have hD : va_D A ((g0, .inr (11, f_154)) :: w_153) := by rw [ef_154]; exact hD
  refine lv_aload_n hx hb dX11_init_321 rfl (lv_at hl 0 rfl) ?_
  refine lv_bipush (v := 60) hx hb dX11_init_322 (by decide +kernel) ?_
  refine va_newa (atype := .int) (ty := .int) (a0 := (60, .inl (fun _ => 0))) hx hb (hts (.arrayClass .int) iw_X11_init_3) rfl hK hP hD hS hA (fun _ => rfl) (by decide +kernel) (by decide +kernel) (by decide +kernel) (Nat.le_of_ble_eq_true rfl) (Nat.le_of_ble_eq_true rfl) dX11_init_324 (fun q_155 k_156 H hK1 hP1 hD1 hS => ?_)
  obtain ⟨ekq_155, hK⟩ := lv_ad (k := 0) hK1 rfl
  rw [ekq_155] at hP1 hD1
  clear ekq_155 hK1
  obtain ⟨w_157, ew_157⟩ : ∃ zq : va_W, zq = w_153 ++ [(q_155, .inl (k_4, 60, .inl (fun _ => 0)))] := ⟨_, rfl⟩
  have hP : va_P (dC, dI) vwCl ((g0, .inr (11, f_154)) :: w_157) H := by rw [ew_157]; exact hP1
  have hD : va_D A ((g0, .inr (11, f_154)) :: w_157) := by rw [ew_157]; exact hD1
  clear hP1 hD1
  refine W.widen (k := 39) (n := 7877) (Nat.le_of_ble_eq_true rfl) (Nat.le_of_ble_eq_true rfl) ?_
  refine va_putF (D := (dC, dI)) (ci := 11) (v := .ref q_155) (ty := .array .int) (C := RX11) (T := TX11) (N := 63) hx hb hts in_wsX11_init_X11 tyX11 tyX11_ok nmX11 hown hK hP hD hS 0 rfl rfl 44 (by decide +kernel) (hts (.fieldLink RX11 125 "ShipOfficeModel" "tape" "[I") iw_X11_init_43) (fun _ h9 => h9) rfl hin rfl (by decide +kernel) rfl rfl (by rw [hnf_154]; decide) dX11_init_326 (fun H locs hP hD hS => ?_)
  obtain ⟨f_158, ef_158⟩ : ∃ zq : List Value, zq = f_154.set 44 (.ref q_155) := ⟨_, rfl⟩
  have hnf_158 : f_158.length = 63 := by rw [ef_158, List.length_set]; exact hnf_154
  clear hnf_154
  have hP : va_P (dC, dI) vwCl ((g0, .inr (11, f_158)) :: w_157) H := by rw [ef_158]; exact hP
  have hD : va_D A ((g0, .inr (11, f_158)) :: w_157) := by rw [ef_158]; exact hD
  refine lv_aload_n hx hb dX11_init_329 rfl (lv_at hl 0 rfl) ?_
  refine lv_sipush (v := 128) hx hb dX11_init_330 (by decide +kernel) ?_
  refine va_newa (atype := .int) (ty := .int) (a0 := (128, .inl (fun _ => 0))) hx hb (hts (.arrayClass .int) iw_X11_init_3) rfl hK hP hD hS hA (fun _ => rfl) (by decide +kernel) (by decide +kernel) (by decide +kernel) (Nat.le_of_ble_eq_true rfl) (Nat.le_of_ble_eq_true rfl) dX11_init_333 (fun q_159 k_160 H hK1 hP1 hD1 hS => ?_)
  obtain ⟨ekq_159, hK⟩ := lv_ad (k := 0) hK1 rfl
  rw [ekq_159] at hP1 hD1
  clear ekq_159 hK1
  obtain ⟨w_161, ew_161⟩ : ∃ zq : va_W, zq = w_157 ++ [(q_159, .inl (k_4, 128, .inl (fun _ => 0)))] := ⟨_, rfl⟩
  have hP : va_P (dC, dI) vwCl ((g0, .inr (11, f_158)) :: w_161) H := by rw [ew_161]; exact hP1
  have hD : va_D A ((g0, .inr (11, f_158)) :: w_161) := by rw [ew_161]; exact hD1
  clear hP1 hD1
  refine W.widen (k := 40) (n := 8005) (Nat.le_of_ble_eq_true rfl) (Nat.le_of_ble_eq_true rfl) ?_
  refine va_putF (D := (dC, dI)) (ci := 11) (v := .ref q_159) (ty := .array .int) (C := RX11) (T := TX11) (N := 63) hx hb hts in_wsX11_init_X11 tyX11 tyX11_ok nmX11 hown hK hP hD hS 0 rfl rfl 45 (by decide +kernel) (hts (.fieldLink RX11 128 "ShipOfficeModel" "letters" "[I") iw_X11_init_44) (fun _ h9 => h9) rfl hin rfl (by decide +kernel) rfl rfl (by rw [hnf_158]; decide) dX11_init_335 (fun H locs hP hD hS => ?_)
  obtain ⟨f_162, ef_162⟩ : ∃ zq : List Value, zq = f_158.set 45 (.ref q_159) := ⟨_, rfl⟩
  have hnf_162 : f_162.length = 63 := by rw [ef_162, List.length_set]; exact hnf_158
  clear hnf_158
  have hP : va_P (dC, dI) vwCl ((g0, .inr (11, f_162)) :: w_161) H := by rw [ef_162]; exact hP
  have hD : va_D A ((g0, .inr (11, f_162)) :: w_161) := by rw [ef_162]; exact hD
  refine lv_aload_n hx hb dX11_init_338 rfl (lv_at hl 0 rfl) ?_
  refine lv_bipush (v := 40) hx hb dX11_init_339 (by decide +kernel) ?_
  refine va_newa (atype := .int) (ty := .int) (a0 := (40, .inl (fun _ => 0))) hx hb (hts (.arrayClass .int) iw_X11_init_3) rfl hK hP hD hS hA (fun _ => rfl) (by decide +kernel) (by decide +kernel) (by decide +kernel) (Nat.le_of_ble_eq_true rfl) (Nat.le_of_ble_eq_true rfl) dX11_init_341 (fun q_163 k_164 H hK1 hP1 hD1 hS => ?_)
  obtain ⟨ekq_163, hK⟩ := lv_ad (k := 0) hK1 rfl
  rw [ekq_163] at hP1 hD1
  clear ekq_163 hK1
  obtain ⟨w_165, ew_165⟩ : ∃ zq : va_W, zq = w_161 ++ [(q_163, .inl (k_4, 40, .inl (fun _ => 0)))] := ⟨_, rfl⟩
  have hP : va_P (dC, dI) vwCl ((g0, .inr (11, f_162)) :: w_165) H := by rw [ew_165]; exact hP1
  have hD : va_D A ((g0, .inr (11, f_162)) :: w_165) := by rw [ew_165]; exact hD1
  clear hP1 hD1
  refine W.widen (k := 41) (n := 8045) (Nat.le_of_ble_eq_true rfl) (Nat.le_of_ble_eq_true rfl) ?_
  refine va_putF (D := (dC, dI)) (ci := 11) (v := .ref q_163) (ty := .array .int) (C := RX11) (T := TX11) (N := 63) hx hb hts in_wsX11_init_X11 tyX11 tyX11_ok nmX11 hown hK hP hD hS 0 rfl rfl 52 (by decide +kernel) (hts (.fieldLink RX11 131 "ShipOfficeModel" "groups" "[I") iw_X11_init_45) (fun _ h9 => h9) rfl hin rfl (by decide +kernel) rfl rfl (by rw [hnf_162]; decide) dX11_init_343 (fun H locs hP hD hS => ?_)
  obtain ⟨f_166, ef_166⟩ : ∃ zq : List Value, zq = f_162.set 52 (.ref q_163) := ⟨_, rfl⟩
  have hnf_166 : f_166.length = 63 := by rw [ef_166, List.length_set]; exact hnf_162
  clear hnf_162
  have hP : va_P (dC, dI) vwCl ((g0, .inr (11, f_166)) :: w_165) H := by rw [ef_166]; exact hP
  have hD : va_D A ((g0, .inr (11, f_166)) :: w_165) := by rw [ef_166]; exact hD
  refine lv_aload_n hx hb dX11_init_346 rfl (lv_at hl 0 rfl) ?_
  refine lv_bipush (v := 10) hx hb dX11_init_347 (by decide +kernel) ?_
  refine va_newa (atype := .int) (ty := .int) (a0 := (10, .inl (fun _ => 0))) hx hb (hts (.arrayClass .int) iw_X11_init_3) rfl hK hP hD hS hA (fun _ => rfl) (by decide +kernel) (by decide +kernel) (by decide +kernel) (Nat.le_of_ble_eq_true rfl) (Nat.le_of_ble_eq_true rfl) dX11_init_349 (fun q_167 k_168 H hK1 hP1 hD1 hS => ?_)
  obtain ⟨ekq_167, hK⟩ := lv_ad (k := 0) hK1 rfl
  rw [ekq_167] at hP1 hD1
  clear ekq_167 hK1
  obtain ⟨w_169, ew_169⟩ : ∃ zq : va_W, zq = w_165 ++ [(q_167, .inl (k_4, 10, .inl (fun _ => 0)))] := ⟨_, rfl⟩
  have hP : va_P (dC, dI) vwCl ((g0, .inr (11, f_166)) :: w_169) H := by rw [ew_169]; exact hP1
  have hD : va_D A ((g0, .inr (11, f_166)) :: w_169) := by rw [ew_169]; exact hD1
  clear hP1 hD1
  refine W.widen (k := 42) (n := 8055) (Nat.le_of_ble_eq_true rfl) (Nat.le_of_ble_eq_true rfl) ?_
  refine va_putF (D := (dC, dI)) (ci := 11) (v := .ref q_167) (ty := .array .int) (C := RX11) (T := TX11) (N := 63) hx hb hts in_wsX11_init_X11 tyX11 tyX11_ok nmX11 hown hK hP hD hS 0 rfl rfl 53 (by decide +kernel) (hts (.fieldLink RX11 134 "ShipOfficeModel" "far" "[I") iw_X11_init_46) (fun _ h9 => h9) rfl hin rfl (by decide +kernel) rfl rfl (by rw [hnf_166]; decide) dX11_init_351 (fun H locs hP hD hS => ?_)
  obtain ⟨f_170, ef_170⟩ : ∃ zq : List Value, zq = f_166.set 53 (.ref q_167) := ⟨_, rfl⟩
  have hnf_170 : f_170.length = 63 := by rw [ef_170, List.length_set]; exact hnf_166
  clear hnf_166
  have hP : va_P (dC, dI) vwCl ((g0, .inr (11, f_170)) :: w_169) H := by rw [ef_170]; exact hP
  have hD : va_D A ((g0, .inr (11, f_170)) :: w_169) := by rw [ef_170]; exact hD
  refine lv_aload_n hx hb dX11_init_354 rfl (lv_at hl 0 rfl) ?_
  refine lv_bipush (v := 12) hx hb dX11_init_355 (by decide +kernel) ?_
  refine va_newa (atype := .int) (ty := .int) (a0 := (12, .inl (fun _ => 0))) hx hb (hts (.arrayClass .int) iw_X11_init_3) rfl hK hP hD hS hA (fun _ => rfl) (by decide +kernel) (by decide +kernel) (by decide +kernel) (Nat.le_of_ble_eq_true rfl) (Nat.le_of_ble_eq_true rfl) dX11_init_357 (fun q_171 k_172 H hK1 hP1 hD1 hS => ?_)
  obtain ⟨ekq_171, hK⟩ := lv_ad (k := 0) hK1 rfl
  rw [ekq_171] at hP1 hD1
  clear ekq_171 hK1
  obtain ⟨w_173, ew_173⟩ : ∃ zq : va_W, zq = w_169 ++ [(q_171, .inl (k_4, 12, .inl (fun _ => 0)))] := ⟨_, rfl⟩
  have hP : va_P (dC, dI) vwCl ((g0, .inr (11, f_170)) :: w_173) H := by rw [ew_173]; exact hP1
  have hD : va_D A ((g0, .inr (11, f_170)) :: w_173) := by rw [ew_173]; exact hD1
  clear hP1 hD1
  refine W.widen (k := 43) (n := 8067) (Nat.le_of_ble_eq_true rfl) (Nat.le_of_ble_eq_true rfl) ?_
  refine va_putF (D := (dC, dI)) (ci := 11) (v := .ref q_171) (ty := .array .int) (C := RX11) (T := TX11) (N := 63) hx hb hts in_wsX11_init_X11 tyX11 tyX11_ok nmX11 hown hK hP hD hS 0 rfl rfl 54 (by decide +kernel) (hts (.fieldLink RX11 137 "ShipOfficeModel" "some" "[I") iw_X11_init_47) (fun _ h9 => h9) rfl hin rfl (by decide +kernel) rfl rfl (by rw [hnf_170]; decide) dX11_init_359 (fun H locs hP hD hS => ?_)
  obtain ⟨f_174, ef_174⟩ : ∃ zq : List Value, zq = f_170.set 54 (.ref q_171) := ⟨_, rfl⟩
  have hnf_174 : f_174.length = 63 := by rw [ef_174, List.length_set]; exact hnf_170
  clear hnf_170
  have hP : va_P (dC, dI) vwCl ((g0, .inr (11, f_174)) :: w_173) H := by rw [ef_174]; exact hP
  have hD : va_D A ((g0, .inr (11, f_174)) :: w_173) := by rw [ef_174]; exact hD
  refine lv_aload_n hx hb dX11_init_362 rfl (lv_at hl 0 rfl) ?_
  refine lv_bipush (v := 8) hx hb dX11_init_363 (by decide +kernel) ?_
  refine va_newa (atype := .int) (ty := .int) (a0 := (8, .inl (fun _ => 0))) hx hb (hts (.arrayClass .int) iw_X11_init_3) rfl hK hP hD hS hA (fun _ => rfl) (by decide +kernel) (by decide +kernel) (by decide +kernel) (Nat.le_of_ble_eq_true rfl) (Nat.le_of_ble_eq_true rfl) dX11_init_365 (fun q_175 k_176 H hK1 hP1 hD1 hS => ?_)
  obtain ⟨ekq_175, hK⟩ := lv_ad (k := 0) hK1 rfl
  rw [ekq_175] at hP1 hD1
  clear ekq_175 hK1
  obtain ⟨w_177, ew_177⟩ : ∃ zq : va_W, zq = w_173 ++ [(q_175, .inl (k_4, 8, .inl (fun _ => 0)))] := ⟨_, rfl⟩
  have hP : va_P (dC, dI) vwCl ((g0, .inr (11, f_174)) :: w_177) H := by rw [ew_177]; exact hP1
  have hD : va_D A ((g0, .inr (11, f_174)) :: w_177) := by rw [ew_177]; exact hD1
  clear hP1 hD1
  refine W.widen (k := 44) (n := 8075) (Nat.le_of_ble_eq_true rfl) (Nat.le_of_ble_eq_true rfl) ?_
  refine va_putF (D := (dC, dI)) (ci := 11) (v := .ref q_175) (ty := .array .int) (C := RX11) (T := TX11) (N := 63) hx hb hts in_wsX11_init_X11 tyX11 tyX11_ok nmX11 hown hK hP hD hS 0 rfl rfl 55 (by decide +kernel) (hts (.fieldLink RX11 140 "ShipOfficeModel" "handRank" "[I") iw_X11_init_48) (fun _ h9 => h9) rfl hin rfl (by decide +kernel) rfl rfl (by rw [hnf_174]; decide) dX11_init_367 (fun H locs hP hD hS => ?_)
  obtain ⟨f_178, ef_178⟩ : ∃ zq : List Value, zq = f_174.set 55 (.ref q_175) := ⟨_, rfl⟩
  have hnf_178 : f_178.length = 63 := by rw [ef_178, List.length_set]; exact hnf_174
  clear hnf_174
  have hP : va_P (dC, dI) vwCl ((g0, .inr (11, f_178)) :: w_177) H := by rw [ef_178]; exact hP
  have hD : va_D A ((g0, .inr (11, f_178)) :: w_177) := by rw [ef_178]; exact hD
  refine lv_aload_n hx hb dX11_init_370 rfl (lv_at hl 0 rfl) ?_
  refine lv_bipush (v := 8) hx hb dX11_init_371 (by decide +kernel) ?_
  refine va_newa (atype := .int) (ty := .int) (a0 := (8, .inl (fun _ => 0))) hx hb (hts (.arrayClass .int) iw_X11_init_3) rfl hK hP hD hS hA (fun _ => rfl) (by decide +kernel) (by decide +kernel) (by decide +kernel) (Nat.le_of_ble_eq_true rfl) (Nat.le_of_ble_eq_true rfl) dX11_init_373 (fun q_179 k_180 H hK1 hP1 hD1 hS => ?_)
  obtain ⟨ekq_179, hK⟩ := lv_ad (k := 0) hK1 rfl
  rw [ekq_179] at hP1 hD1
  clear ekq_179 hK1
  obtain ⟨w_181, ew_181⟩ : ∃ zq : va_W, zq = w_177 ++ [(q_179, .inl (k_4, 8, .inl (fun _ => 0)))] := ⟨_, rfl⟩
  have hP : va_P (dC, dI) vwCl ((g0, .inr (11, f_178)) :: w_181) H := by rw [ew_181]; exact hP1
  have hD : va_D A ((g0, .inr (11, f_178)) :: w_181) := by rw [ew_181]; exact hD1
  clear hP1 hD1
  refine W.widen (k := 45) (n := 8083) (Nat.le_of_ble_eq_true rfl) (Nat.le_of_ble_eq_true rfl) ?_
  refine va_putF (D := (dC, dI)) (ci := 11) (v := .ref q_179) (ty := .array .int) (C := RX11) (T := TX11) (N := 63) hx hb hts in_wsX11_init_X11 tyX11 tyX11_ok nmX11 hown hK hP hD hS 0 rfl rfl 56 (by decide +kernel) (hts (.fieldLink RX11 143 "ShipOfficeModel" "hand" "[I") iw_X11_init_49) (fun _ h9 => h9) rfl hin rfl (by decide +kernel) rfl rfl (by rw [hnf_178]; decide) dX11_init_375 (fun H locs hP hD hS => ?_)
  obtain ⟨f_182, ef_182⟩ : ∃ zq : List Value, zq = f_178.set 56 (.ref q_179) := ⟨_, rfl⟩
  have hnf_182 : f_182.length = 63 := by rw [ef_182, List.length_set]; exact hnf_178
  clear hnf_178
  have hP : va_P (dC, dI) vwCl ((g0, .inr (11, f_182)) :: w_181) H := by rw [ef_182]; exact hP
  have hD : va_D A ((g0, .inr (11, f_182)) :: w_181) := by rw [ef_182]; exact hD
  refine lv_aload_n hx hb dX11_init_378 rfl (lv_at hl 0 rfl) ?_
  refine lv_bipush (v := 8) hx hb dX11_init_379 (by decide +kernel) ?_
  refine va_newa (atype := .int) (ty := .int) (a0 := (8, .inl (fun _ => 0))) hx hb (hts (.arrayClass .int) iw_X11_init_3) rfl hK hP hD hS hA (fun _ => rfl) (by decide +kernel) (by decide +kernel) (by decide +kernel) (Nat.le_of_ble_eq_true rfl) (Nat.le_of_ble_eq_true rfl) dX11_init_381 (fun q_183 k_184 H hK1 hP1 hD1 hS => ?_)
  obtain ⟨ekq_183, hK⟩ := lv_ad (k := 0) hK1 rfl
  rw [ekq_183] at hP1 hD1
  clear ekq_183 hK1
  obtain ⟨w_185, ew_185⟩ : ∃ zq : va_W, zq = w_181 ++ [(q_183, .inl (k_4, 8, .inl (fun _ => 0)))] := ⟨_, rfl⟩
  have hP : va_P (dC, dI) vwCl ((g0, .inr (11, f_182)) :: w_185) H := by rw [ew_185]; exact hP1
  have hD : va_D A ((g0, .inr (11, f_182)) :: w_185) := by rw [ew_185]; exact hD1
  clear hP1 hD1
  refine W.widen (k := 46) (n := 8091) (Nat.le_of_ble_eq_true rfl) (Nat.le_of_ble_eq_true rfl) ?_
  refine va_putF (D := (dC, dI)) (ci := 11) (v := .ref q_183) (ty := .array .int) (C := RX11) (T := TX11) (N := 63) hx hb hts in_wsX11_init_X11 tyX11 tyX11_ok nmX11 hown hK hP hD hS 0 rfl rfl 57 (by decide +kernel) (hts (.fieldLink RX11 146 "ShipOfficeModel" "best" "[I") iw_X11_init_50) (fun _ h9 => h9) rfl hin rfl (by decide +kernel) rfl rfl (by rw [hnf_182]; decide) dX11_init_383 (fun H locs hP hD hS => ?_)
  obtain ⟨f_186, ef_186⟩ : ∃ zq : List Value, zq = f_182.set 57 (.ref q_183) := ⟨_, rfl⟩
  have hnf_186 : f_186.length = 63 := by rw [ef_186, List.length_set]; exact hnf_182
  clear hnf_182
  have hP : va_P (dC, dI) vwCl ((g0, .inr (11, f_186)) :: w_185) H := by rw [ef_186]; exact hP
  have hD : va_D A ((g0, .inr (11, f_186)) :: w_185) := by rw [ef_186]; exact hD
  refine lv_aload_n hx hb dX11_init_386 rfl (lv_at hl 0 rfl) ?_
  refine lv_bipush (v := 12) hx hb dX11_init_387 (by decide +kernel) ?_
  refine va_newa (atype := .int) (ty := .int) (a0 := (12, .inl (fun _ => 0))) hx hb (hts (.arrayClass .int) iw_X11_init_3) rfl hK hP hD hS hA (fun _ => rfl) (by decide +kernel) (by decide +kernel) (by decide +kernel) (Nat.le_of_ble_eq_true rfl) (Nat.le_of_ble_eq_true rfl) dX11_init_389 (fun q_187 k_188 H hK1 hP1 hD1 hS => ?_)
  obtain ⟨ekq_187, hK⟩ := lv_ad (k := 0) hK1 rfl
  rw [ekq_187] at hP1 hD1
  clear ekq_187 hK1
  obtain ⟨w_189, ew_189⟩ : ∃ zq : va_W, zq = w_185 ++ [(q_187, .inl (k_4, 12, .inl (fun _ => 0)))] := ⟨_, rfl⟩
  have hP : va_P (dC, dI) vwCl ((g0, .inr (11, f_186)) :: w_189) H := by rw [ew_189]; exact hP1
  have hD : va_D A ((g0, .inr (11, f_186)) :: w_189) := by rw [ew_189]; exact hD1
  clear hP1 hD1
  refine W.widen (k := 47) (n := 8103) (Nat.le_of_ble_eq_true rfl) (Nat.le_of_ble_eq_true rfl) ?_
  refine va_putF (D := (dC, dI)) (ci := 11) (v := .ref q_187) (ty := .array .int) (C := RX11) (T := TX11) (N := 63) hx hb hts in_wsX11_init_X11 tyX11 tyX11_ok nmX11 hown hK hP hD hS 0 rfl rfl 61 (by decide +kernel) (hts (.fieldLink RX11 149 "ShipOfficeModel" "row" "[I") iw_X11_init_51) (fun _ h9 => h9) rfl hin rfl (by decide +kernel) rfl rfl (by rw [hnf_186]; decide) dX11_init_391 (fun H locs hP hD hS => ?_)
  obtain ⟨f_190, ef_190⟩ : ∃ zq : List Value, zq = f_186.set 61 (.ref q_187) := ⟨_, rfl⟩
  have hnf_190 : f_190.length = 63 := by rw [ef_190, List.length_set]; exact hnf_186
  clear hnf_186
  have hP : va_P (dC, dI) vwCl ((g0, .inr (11, f_190)) :: w_189) H := by rw [ef_190]; exact hP
  have hD : va_D A ((g0, .inr (11, f_190)) :: w_189) := by rw [ef_190]; exact hD
  have hf9 := mi_f q_3 q_7 q_11 q_15 q_19 q_23 q_27 q_31 q_35 q_39 q_43 q_47 q_51 q_55 q_59 q_63 q_67 q_71 q_75 q_79 q_83 q_87 q_91 q_95 q_99 q_103 q_107 q_111 q_115 q_119 q_123 q_127 q_131 q_135 q_139 q_143 q_147 q_151 q_155 q_159 q_163 q_167 q_171 q_175 q_179 q_183 q_187 k_4 k_152 f_1 f_6 f_10 f_14 f_18 f_22 f_26 f_30 f_34 f_38 f_42 f_46 f_50 f_54 f_58 f_62 f_66 f_70 f_74 f_78 f_82 f_86 f_90 f_94 f_98 f_102 f_106 f_110 f_114 f_118 f_122 f_126 f_130 f_134 f_138 f_142 f_146 f_150 f_154 f_158 f_162 f_166 f_170 f_174 f_178 f_182 f_186 f_190 ef_1 ef_6 ef_10 ef_14 ef_18 ef_22 ef_26 ef_30 ef_34 ef_38 ef_42 ef_46 ef_50 ef_54 ef_58 ef_62 ef_66 ef_70 ef_74 ef_78 ef_82 ef_86 ef_90 ef_94 ef_98 ef_102 ef_106 ef_110 ef_114 ef_118 ef_122 ef_126 ef_130 ef_134 ef_138 ef_142 ef_146 ef_150 ef_154 ef_158 ef_162 ef_166 ef_170 ef_174 ef_178 ef_182 ef_186 ef_190
  have hw9 := mi_w q_3 q_7 q_11 q_15 q_19 q_23 q_27 q_31 q_35 q_39 q_43 q_47 q_51 q_55 q_59 q_63 q_67 q_71 q_75 q_79 q_83 q_87 q_91 q_95 q_99 q_103 q_107 q_111 q_115 q_119 q_123 q_127 q_131 q_135 q_139 q_143 q_147 q_151 q_155 q_159 q_163 q_167 q_171 q_175 q_179 q_183 q_187 k_4 k_152 w_2 w_5 w_9 w_13 w_17 w_21 w_25 w_29 w_33 w_37 w_41 w_45 w_49 w_53 w_57 w_61 w_65 w_69 w_73 w_77 w_81 w_85 w_89 w_93 w_97 w_101 w_105 w_109 w_113 w_117 w_121 w_125 w_129 w_133 w_137 w_141 w_145 w_149 w_153 w_157 w_161 w_165 w_169 w_173 w_177 w_181 w_185 w_189 ew_2 ew_5 ew_9 ew_13 ew_17 ew_21 ew_25 ew_29 ew_33 ew_37 ew_41 ew_45 ew_49 ew_53 ew_57 ew_61 ew_65 ew_69 ew_73 ew_77 ew_81 ew_85 ew_89 ew_93 ew_97 ew_101 ew_105 ew_109 ew_113 ew_117 ew_121 ew_125 ew_129 ew_133 ew_137 ew_141 ew_145 ew_149 ew_153 ew_157 ew_161 ew_165 ew_169 ew_173 ew_177 ew_181 ew_185 ew_189
  rw [hf9, hw9] at hP hD
  obtain ⟨u9, hP9, hK9, hD9⟩ := mi_out2 q_3 q_7 q_11 q_15 q_19 q_23 q_27 q_31 q_35 q_39 q_43 q_47 q_51 q_55 q_59 q_63 q_67 q_71 q_75 q_79 q_83 q_87 q_91 q_95 q_99 q_103 q_107 q_111 q_115 q_119 q_123 q_127 q_131 q_135 q_139 q_143 q_147 q_151 q_155 q_159 q_163 q_167 q_171 q_175 q_179 q_183 q_187 k_4 k_152 hP hD hK
  subst hAe
  exact W.vret hx hb hr (fun t ht hW => ⟨⟨u9, rfl, trivial, ⟨by rw [ht]; exact hP9, va_K.moved hW.alike hK9, hD9⟩⟩, hS.F ht⟩) hS.2.2 dX11_init_394
