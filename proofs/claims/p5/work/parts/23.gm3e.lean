abbrev cX11_voyage : ByteArray := prog_13_method_12_code
def yX11_voyage : MethodName := ⟨RX11, "voyage", "(II)I"⟩
abbrev cX11_ended : ByteArray := prog_13_method_15_code
def yX11_ended : MethodName := ⟨RX11, "ended", "(II)I"⟩
abbrev cX11_feed : ByteArray := prog_13_method_25_code
def yX11_feed : MethodName := ⟨RX11, "feed", "(IJ)I"⟩
def wsX11_voyage : List Cond := .code yX11_voyage cX11_voyage 4 (some .int) :: ([.fieldLink RX11 165 "ShipOfficeModel" "voyages" "I", .fieldLink RX11 28 "ShipOfficeModel" "ship" "[I", .fieldLink RX11 37 "ShipOfficeModel" "endedOn" "[I", .fieldLink RX11 31 "ShipOfficeModel" "opened" "[I", .fieldLink RX11 171 "ShipOfficeModel" "now" "I", .fieldLink RX11 34 "ShipOfficeModel" "openPort" "[I", .methodLink RX11 161 yX11_isIn, .static yX11_isIn, .initialized RX11, .code yX11_isIn cX11_isIn 2 (some .boolean), .methodLink RX11 174 yX11_isPort, .static yX11_isPort, .code yX11_isPort cX11_isPort 1 (some .boolean), .methodLink RX11 153 yX11_refuse, .instanceMethod yX11_refuse, .selects RX11 yX11_refuse yX11_refuse, .code yX11_refuse cX11_refuse 2 (some .int), .fieldLink RX11 7 "ShipOfficeModel" "refusals" "[I"] ++ wsX110)
theorem il_X11_voyage_1 : ∀ w ∈ ([.fieldLink RX11 165 "ShipOfficeModel" "voyages" "I", .fieldLink RX11 28 "ShipOfficeModel" "ship" "[I", .fieldLink RX11 37 "ShipOfficeModel" "endedOn" "[I", .fieldLink RX11 31 "ShipOfficeModel" "opened" "[I", .fieldLink RX11 171 "ShipOfficeModel" "now" "I", .fieldLink RX11 34 "ShipOfficeModel" "openPort" "[I", .methodLink RX11 161 yX11_isIn, .static yX11_isIn, .initialized RX11, .code yX11_isIn cX11_isIn 2 (some .boolean), .methodLink RX11 174 yX11_isPort, .static yX11_isPort, .code yX11_isPort cX11_isPort 1 (some .boolean), .methodLink RX11 153 yX11_refuse, .instanceMethod yX11_refuse, .selects RX11 yX11_refuse yX11_refuse, .code yX11_refuse cX11_refuse 2 (some .int), .fieldLink RX11 7 "ShipOfficeModel" "refusals" "[I"] : List Cond), w ∈ wsX11_voyage := fun w h => (List.mem_cons_of_mem _ (List.mem_append_left _ h))
theorem il_X11_voyage_2 : ∀ w ∈ wsX110, w ∈ wsX11_voyage := fun w h => (List.mem_cons_of_mem _ (List.mem_append_right _ h))
theorem iw_X11_voyage_1 : Cond.fieldLink RX11 165 "ShipOfficeModel" "voyages" "I" ∈ wsX11_voyage := (mmI il_X11_voyage_1 0 rfl)
theorem iw_X11_voyage_2 : Cond.fieldLink RX11 28 "ShipOfficeModel" "ship" "[I" ∈ wsX11_voyage := (mmI il_X11_voyage_1 1 rfl)
theorem iw_X11_voyage_3 : Cond.fieldLink RX11 31 "ShipOfficeModel" "opened" "[I" ∈ wsX11_voyage := (mmI il_X11_voyage_1 3 rfl)
theorem iw_X11_voyage_4 : Cond.fieldLink RX11 171 "ShipOfficeModel" "now" "I" ∈ wsX11_voyage := (mmI il_X11_voyage_1 4 rfl)
theorem iw_X11_voyage_5 : Cond.fieldLink RX11 34 "ShipOfficeModel" "openPort" "[I" ∈ wsX11_voyage := (mmI il_X11_voyage_1 5 rfl)
theorem iw_X11_voyage_6 : Cond.fieldLink RX11 37 "ShipOfficeModel" "endedOn" "[I" ∈ wsX11_voyage := (mmI il_X11_voyage_1 2 rfl)
def wsX11_ended_r1 : List Cond := [Cond.fieldLink RX11 37 "ShipOfficeModel" "endedOn" "[I", Cond.fieldLink RX11 168 "ShipOfficeModel" "agreements" "I", Cond.fieldLink RX11 73 "ShipOfficeModel" "voyage" "[I", Cond.fieldLink RX11 88 "ShipOfficeModel" "offOn" "[I", Cond.fieldLink RX11 171 "ShipOfficeModel" "now" "I", Cond.methodLink RX11 185 yX11_isVoyage, Cond.instanceMethod yX11_isVoyage, Cond.selects RX11 yX11_isVoyage yX11_isVoyage, Cond.initialized RX11, Cond.code yX11_isVoyage cX11_isVoyage 2 (some .boolean), Cond.fieldLink RX11 165 "ShipOfficeModel" "voyages" "I", Cond.methodLink RX11 161 yX11_isIn, Cond.static yX11_isIn, Cond.code yX11_isIn cX11_isIn 2 (some .boolean), Cond.methodLink RX11 174 yX11_isPort, Cond.static yX11_isPort, Cond.code yX11_isPort cX11_isPort 1 (some .boolean), Cond.methodLink RX11 153 yX11_refuse, Cond.instanceMethod yX11_refuse, Cond.selects RX11 yX11_refuse yX11_refuse, Cond.code yX11_refuse cX11_refuse 2 (some .int), Cond.fieldLink RX11 7 "ShipOfficeModel" "refusals" "[I", Cond.methodLink RX11 182 yX11_wasTold, Cond.instanceMethod yX11_wasTold]
def wsX11_ended_r2 : List Cond := [Cond.selects RX11 yX11_wasTold yX11_wasTold, Cond.code yX11_wasTold cX11_wasTold 4 (some .boolean), Cond.fieldLink RX11 179 "ShipOfficeModel" "happened" "I", Cond.fieldLink RX11 40 "ShipOfficeModel" "what" "[I", Cond.fieldLink RX11 43 "ShipOfficeModel" "whose" "[I", Cond.methodLink RX11 188 yX11_goesOn, Cond.instanceMethod yX11_goesOn, Cond.selects RX11 yX11_goesOn yX11_goesOn, Cond.code yX11_goesOn cX11_goesOn 2 (some .boolean)]
def wsX11_ended : List Cond := .code yX11_ended cX11_ended 5 (some .int) :: ((wsX11_ended_r1 ++ wsX11_ended_r2) ++ wsX110)
theorem il_X11_ended_1 : ∀ w ∈ wsX11_ended_r1, w ∈ wsX11_ended := fun w h => (List.mem_cons_of_mem _ (List.mem_append_left _ (List.mem_append_left _ h)))
theorem il_X11_ended_2 : ∀ w ∈ wsX11_ended_r2, w ∈ wsX11_ended := fun w h => (List.mem_cons_of_mem _ (List.mem_append_left _ (List.mem_append_right _ h)))
theorem il_X11_ended_3 : ∀ w ∈ wsX110, w ∈ wsX11_ended := fun w h => (List.mem_cons_of_mem _ (List.mem_append_right _ h))
theorem iw_X11_ended_1 : Cond.fieldLink RX11 37 "ShipOfficeModel" "endedOn" "[I" ∈ wsX11_ended := (mmI il_X11_ended_1 0 rfl)
theorem iw_X11_ended_2 : Cond.fieldLink RX11 168 "ShipOfficeModel" "agreements" "I" ∈ wsX11_ended := (mmI il_X11_ended_1 1 rfl)
theorem iw_X11_ended_3 : Cond.fieldLink RX11 171 "ShipOfficeModel" "now" "I" ∈ wsX11_ended := (mmI il_X11_ended_1 4 rfl)
theorem iw_X11_ended_4 : Cond.fieldLink RX11 73 "ShipOfficeModel" "voyage" "[I" ∈ wsX11_ended := (mmI il_X11_ended_1 2 rfl)
theorem iw_X11_ended_5 : Cond.fieldLink RX11 88 "ShipOfficeModel" "offOn" "[I" ∈ wsX11_ended := (mmI il_X11_ended_1 3 rfl)
def wsX11_feed : List Cond := .code yX11_feed cX11_feed 5 (some .int) :: ([.fieldLink RX11 205 "ShipOfficeModel" "taped" "I", .fieldLink RX11 125 "ShipOfficeModel" "tape" "[I", .constantLong RX11 208 (255), .methodLink RX11 153 yX11_refuse, .instanceMethod yX11_refuse, .selects RX11 yX11_refuse yX11_refuse, .initialized RX11, .code yX11_refuse cX11_refuse 2 (some .int), .fieldLink RX11 7 "ShipOfficeModel" "refusals" "[I"] ++ wsX110)
theorem il_X11_feed_1 : ∀ w ∈ ([.fieldLink RX11 205 "ShipOfficeModel" "taped" "I", .fieldLink RX11 125 "ShipOfficeModel" "tape" "[I", .constantLong RX11 208 (255), .methodLink RX11 153 yX11_refuse, .instanceMethod yX11_refuse, .selects RX11 yX11_refuse yX11_refuse, .initialized RX11, .code yX11_refuse cX11_refuse 2 (some .int), .fieldLink RX11 7 "ShipOfficeModel" "refusals" "[I"] : List Cond), w ∈ wsX11_feed := fun w h => (List.mem_cons_of_mem _ (List.mem_append_left _ h))
theorem il_X11_feed_2 : ∀ w ∈ wsX110, w ∈ wsX11_feed := fun w h => (List.mem_cons_of_mem _ (List.mem_append_right _ h))
theorem iw_X11_feed_1 : Cond.fieldLink RX11 205 "ShipOfficeModel" "taped" "I" ∈ wsX11_feed := (mmI il_X11_feed_1 0 rfl)
theorem iw_X11_feed_2 : Cond.fieldLink RX11 125 "ShipOfficeModel" "tape" "[I" ∈ wsX11_feed := (mmI il_X11_feed_1 1 rfl)
set_option maxRecDepth 100000 in
theorem ggX11_voyage_X11_isIn : GoodIn wsX11_voyage wsX11_isIn := goodIn_sub (mmC (mmI il_X11_voyage_1 9 rfl) mmN) gw_X11_isIn
set_option maxRecDepth 20000 in
theorem gX11_voyage_X11_isIn : GoodIn wsX11_voyage (va_wsS RX11 161 yX11_isIn wsX11_isIn) := goodIn_app (goodIn_of _ (by decide +kernel)) ggX11_voyage_X11_isIn
set_option maxRecDepth 100000 in
theorem ggX11_voyage_X11_isPort : GoodIn wsX11_voyage wsX11_isPort := goodIn_sub (mmC (mmI il_X11_voyage_1 12 rfl) (mmC (mmI il_X11_voyage_1 6 rfl) (mmC (mmI il_X11_voyage_1 7 rfl) (mmC (mmI il_X11_voyage_1 8 rfl) (mmC (mmI il_X11_voyage_1 9 rfl) mmN))))) gw_X11_isPort
set_option maxRecDepth 20000 in
theorem gX11_voyage_X11_isPort : GoodIn wsX11_voyage (va_wsS RX11 174 yX11_isPort wsX11_isPort) := goodIn_app (goodIn_of _ (by decide +kernel)) ggX11_voyage_X11_isPort
set_option maxRecDepth 100000 in
theorem ggX11_voyage_X11_refuse : GoodIn wsX11_voyage wsX11_refuse := goodIn_sub (mmC (mmI il_X11_voyage_1 16 rfl) (mmA (mmC (mmI il_X11_voyage_1 17 rfl) mmN) il_X11_voyage_2)) gw_X11_refuse
theorem gX11_voyage_X11_refuse : GoodIn wsX11_voyage (wsV RX11 153 RX11 yX11_refuse wsX11_refuse) := goodIn_app (goodIn_sub (mmC (mmI il_X11_voyage_1 13 rfl) (mmC (mmI il_X11_voyage_1 14 rfl) (mmC (mmI il_X11_voyage_1 15 rfl) (mmC (mmI il_X11_voyage_1 8 rfl) mmN)))) (by decide +kernel)) ggX11_voyage_X11_refuse
theorem dX11_voyage_0 : decode cX11_voyage 0 = .ok (.iload_n 1, 1) := by decide +kernel
theorem dX11_voyage_1 : decode cX11_voyage 1 = .ok (.bipush 10, 2) := by decide +kernel
theorem dX11_voyage_3 : decode cX11_voyage 3 = .ok (.invokestatic 161, 3) := by decide +kernel
theorem dX11_voyage_6 : decode cX11_voyage 6 = .ok (.ifCond .eq 10, 3) := by decide +kernel
theorem dX11_voyage_9 : decode cX11_voyage 9 = .ok (.iload_n 2, 1) := by decide +kernel
theorem dX11_voyage_10 : decode cX11_voyage 10 = .ok (.invokestatic 174, 3) := by decide +kernel
theorem dX11_voyage_13 : decode cX11_voyage 13 = .ok (.ifCond .ne 9, 3) := by decide +kernel
theorem dX11_voyage_16 : decode cX11_voyage 16 = .ok (.aload_n 0, 1) := by decide +kernel
theorem dX11_voyage_17 : decode cX11_voyage 17 = .ok (.iconst (-1), 1) := by decide +kernel
theorem dX11_voyage_18 : decode cX11_voyage 18 = .ok (.invokevirtual 153, 3) := by decide +kernel
theorem dX11_voyage_21 : decode cX11_voyage 21 = .ok (.ireturn, 1) := by decide +kernel
theorem dX11_voyage_22 : decode cX11_voyage 22 = .ok (.iconst 0, 1) := by decide +kernel
theorem dX11_voyage_23 : decode cX11_voyage 23 = .ok (.istore_n 3, 1) := by decide +kernel
theorem dX11_voyage_24 : decode cX11_voyage 24 = .ok (.iload_n 3, 1) := by decide +kernel
theorem dX11_voyage_25 : decode cX11_voyage 25 = .ok (.aload_n 0, 1) := by decide +kernel
theorem dX11_voyage_26 : decode cX11_voyage 26 = .ok (.getfield 165, 3) := by decide +kernel
theorem dX11_voyage_29 : decode cX11_voyage 29 = .ok (.if_icmp .ge 35, 3) := by decide +kernel
theorem dX11_voyage_32 : decode cX11_voyage 32 = .ok (.aload_n 0, 1) := by decide +kernel
theorem dX11_voyage_33 : decode cX11_voyage 33 = .ok (.getfield 28, 3) := by decide +kernel
theorem dX11_voyage_36 : decode cX11_voyage 36 = .ok (.iload_n 3, 1) := by decide +kernel
theorem dX11_voyage_37 : decode cX11_voyage 37 = .ok (.iaload, 1) := by decide +kernel
theorem dX11_voyage_38 : decode cX11_voyage 38 = .ok (.iload_n 1, 1) := by decide +kernel
theorem dX11_voyage_39 : decode cX11_voyage 39 = .ok (.if_icmp .ne 19, 3) := by decide +kernel
theorem dX11_voyage_42 : decode cX11_voyage 42 = .ok (.aload_n 0, 1) := by decide +kernel
theorem dX11_voyage_43 : decode cX11_voyage 43 = .ok (.getfield 37, 3) := by decide +kernel
theorem dX11_voyage_46 : decode cX11_voyage 46 = .ok (.iload_n 3, 1) := by decide +kernel
theorem dX11_voyage_47 : decode cX11_voyage 47 = .ok (.iaload, 1) := by decide +kernel
theorem dX11_voyage_48 : decode cX11_voyage 48 = .ok (.ifCond .ge 10, 3) := by decide +kernel
theorem dX11_voyage_51 : decode cX11_voyage 51 = .ok (.aload_n 0, 1) := by decide +kernel
theorem dX11_voyage_52 : decode cX11_voyage 52 = .ok (.bipush (-3), 2) := by decide +kernel
theorem dX11_voyage_54 : decode cX11_voyage 54 = .ok (.invokevirtual 153, 3) := by decide +kernel
theorem dX11_voyage_57 : decode cX11_voyage 57 = .ok (.ireturn, 1) := by decide +kernel
theorem dX11_voyage_58 : decode cX11_voyage 58 = .ok (.iinc 3 1, 3) := by decide +kernel
theorem dX11_voyage_61 : decode cX11_voyage 61 = .ok (.goto (-37), 3) := by decide +kernel
theorem dX11_voyage_64 : decode cX11_voyage 64 = .ok (.aload_n 0, 1) := by decide +kernel
theorem dX11_voyage_65 : decode cX11_voyage 65 = .ok (.getfield 165, 3) := by decide +kernel
theorem dX11_voyage_68 : decode cX11_voyage 68 = .ok (.bipush 20, 2) := by decide +kernel
theorem dX11_voyage_70 : decode cX11_voyage 70 = .ok (.if_icmp .ne 10, 3) := by decide +kernel
theorem dX11_voyage_73 : decode cX11_voyage 73 = .ok (.aload_n 0, 1) := by decide +kernel
theorem dX11_voyage_74 : decode cX11_voyage 74 = .ok (.bipush (-6), 2) := by decide +kernel
theorem dX11_voyage_76 : decode cX11_voyage 76 = .ok (.invokevirtual 153, 3) := by decide +kernel
theorem dX11_voyage_79 : decode cX11_voyage 79 = .ok (.ireturn, 1) := by decide +kernel
theorem dX11_voyage_80 : decode cX11_voyage 80 = .ok (.aload_n 0, 1) := by decide +kernel
theorem dX11_voyage_81 : decode cX11_voyage 81 = .ok (.getfield 28, 3) := by decide +kernel
theorem dX11_voyage_84 : decode cX11_voyage 84 = .ok (.aload_n 0, 1) := by decide +kernel
theorem dX11_voyage_85 : decode cX11_voyage 85 = .ok (.getfield 165, 3) := by decide +kernel
theorem dX11_voyage_88 : decode cX11_voyage 88 = .ok (.iload_n 1, 1) := by decide +kernel
theorem dX11_voyage_89 : decode cX11_voyage 89 = .ok (.iastore, 1) := by decide +kernel
theorem dX11_voyage_90 : decode cX11_voyage 90 = .ok (.aload_n 0, 1) := by decide +kernel
theorem dX11_voyage_91 : decode cX11_voyage 91 = .ok (.getfield 31, 3) := by decide +kernel
theorem dX11_voyage_94 : decode cX11_voyage 94 = .ok (.aload_n 0, 1) := by decide +kernel
theorem dX11_voyage_95 : decode cX11_voyage 95 = .ok (.getfield 165, 3) := by decide +kernel
theorem dX11_voyage_98 : decode cX11_voyage 98 = .ok (.aload_n 0, 1) := by decide +kernel
theorem dX11_voyage_99 : decode cX11_voyage 99 = .ok (.getfield 171, 3) := by decide +kernel
theorem dX11_voyage_102 : decode cX11_voyage 102 = .ok (.iastore, 1) := by decide +kernel
theorem dX11_voyage_103 : decode cX11_voyage 103 = .ok (.aload_n 0, 1) := by decide +kernel
theorem dX11_voyage_104 : decode cX11_voyage 104 = .ok (.getfield 34, 3) := by decide +kernel
theorem dX11_voyage_107 : decode cX11_voyage 107 = .ok (.aload_n 0, 1) := by decide +kernel
theorem dX11_voyage_108 : decode cX11_voyage 108 = .ok (.getfield 165, 3) := by decide +kernel
theorem dX11_voyage_111 : decode cX11_voyage 111 = .ok (.iload_n 2, 1) := by decide +kernel
theorem dX11_voyage_112 : decode cX11_voyage 112 = .ok (.iastore, 1) := by decide +kernel
theorem dX11_voyage_113 : decode cX11_voyage 113 = .ok (.aload_n 0, 1) := by decide +kernel
theorem dX11_voyage_114 : decode cX11_voyage 114 = .ok (.getfield 37, 3) := by decide +kernel
theorem dX11_voyage_117 : decode cX11_voyage 117 = .ok (.aload_n 0, 1) := by decide +kernel
theorem dX11_voyage_118 : decode cX11_voyage 118 = .ok (.getfield 165, 3) := by decide +kernel
theorem dX11_voyage_121 : decode cX11_voyage 121 = .ok (.iconst (-1), 1) := by decide +kernel
theorem dX11_voyage_122 : decode cX11_voyage 122 = .ok (.iastore, 1) := by decide +kernel
theorem dX11_voyage_123 : decode cX11_voyage 123 = .ok (.aload_n 0, 1) := by decide +kernel
theorem dX11_voyage_124 : decode cX11_voyage 124 = .ok (.dup, 1) := by decide +kernel
theorem dX11_voyage_125 : decode cX11_voyage 125 = .ok (.getfield 165, 3) := by decide +kernel
theorem dX11_voyage_128 : decode cX11_voyage 128 = .ok (.iconst 1, 1) := by decide +kernel
theorem dX11_voyage_129 : decode cX11_voyage 129 = .ok (.iadd, 1) := by decide +kernel
theorem dX11_voyage_130 : decode cX11_voyage 130 = .ok (.putfield 165, 3) := by decide +kernel
theorem dX11_voyage_133 : decode cX11_voyage 133 = .ok (.aload_n 0, 1) := by decide +kernel
theorem dX11_voyage_134 : decode cX11_voyage 134 = .ok (.getfield 165, 3) := by decide +kernel
theorem dX11_voyage_137 : decode cX11_voyage 137 = .ok (.iconst 1, 1) := by decide +kernel
theorem dX11_voyage_138 : decode cX11_voyage 138 = .ok (.isub, 1) := by decide +kernel
theorem dX11_voyage_139 : decode cX11_voyage 139 = .ok (.ireturn, 1) := by decide +kernel
set_option maxRecDepth 100000 in
theorem ggX11_ended_X11_isVoyage : GoodIn wsX11_ended wsX11_isVoyage := goodIn_sub (mmC (mmI il_X11_ended_1 9 rfl) (mmA (mmC (mmI il_X11_ended_1 10 rfl) (mmC (mmI il_X11_ended_1 11 rfl) (mmC (mmI il_X11_ended_1 12 rfl) (mmC (mmI il_X11_ended_1 8 rfl) (mmC (mmI il_X11_ended_1 13 rfl) mmN))))) il_X11_ended_3)) gw_X11_isVoyage
theorem gX11_ended_X11_isVoyage : GoodIn wsX11_ended (wsV RX11 185 RX11 yX11_isVoyage wsX11_isVoyage) := goodIn_app (goodIn_sub (mmC (mmI il_X11_ended_1 5 rfl) (mmC (mmI il_X11_ended_1 6 rfl) (mmC (mmI il_X11_ended_1 7 rfl) (mmC (mmI il_X11_ended_1 8 rfl) mmN)))) (by decide +kernel)) ggX11_ended_X11_isVoyage
set_option maxRecDepth 100000 in
theorem ggX11_ended_X11_isPort : GoodIn wsX11_ended wsX11_isPort := goodIn_sub (mmC (mmI il_X11_ended_1 16 rfl) (mmC (mmI il_X11_ended_1 11 rfl) (mmC (mmI il_X11_ended_1 12 rfl) (mmC (mmI il_X11_ended_1 8 rfl) (mmC (mmI il_X11_ended_1 13 rfl) mmN))))) gw_X11_isPort
set_option maxRecDepth 20000 in
theorem gX11_ended_X11_isPort : GoodIn wsX11_ended (va_wsS RX11 174 yX11_isPort wsX11_isPort) := goodIn_app (goodIn_of _ (by decide +kernel)) ggX11_ended_X11_isPort
set_option maxRecDepth 100000 in
theorem ggX11_ended_X11_refuse : GoodIn wsX11_ended wsX11_refuse := goodIn_sub (mmC (mmI il_X11_ended_1 20 rfl) (mmA (mmC (mmI il_X11_ended_1 21 rfl) mmN) il_X11_ended_3)) gw_X11_refuse
theorem gX11_ended_X11_refuse : GoodIn wsX11_ended (wsV RX11 153 RX11 yX11_refuse wsX11_refuse) := goodIn_app (goodIn_sub (mmC (mmI il_X11_ended_1 17 rfl) (mmC (mmI il_X11_ended_1 18 rfl) (mmC (mmI il_X11_ended_1 19 rfl) (mmC (mmI il_X11_ended_1 8 rfl) mmN)))) (by decide +kernel)) ggX11_ended_X11_refuse
set_option maxRecDepth 100000 in
theorem ggX11_ended_X11_wasTold : GoodIn wsX11_ended wsX11_wasTold := goodIn_sub (mmC (mmI il_X11_ended_2 1 rfl) (mmA (mmC (mmI il_X11_ended_2 2 rfl) (mmC (mmI il_X11_ended_2 3 rfl) (mmC (mmI il_X11_ended_2 4 rfl) mmN))) il_X11_ended_3)) gw_X11_wasTold
theorem gX11_ended_X11_wasTold : GoodIn wsX11_ended (wsV RX11 182 RX11 yX11_wasTold wsX11_wasTold) := goodIn_app (goodIn_sub (mmC (mmI il_X11_ended_1 22 rfl) (mmC (mmI il_X11_ended_1 23 rfl) (mmC (mmI il_X11_ended_2 0 rfl) (mmC (mmI il_X11_ended_1 8 rfl) mmN)))) (by decide +kernel)) ggX11_ended_X11_wasTold
set_option maxRecDepth 100000 in
theorem ggX11_ended_X11_goesOn : GoodIn wsX11_ended wsX11_goesOn := goodIn_sub (mmC (mmI il_X11_ended_2 8 rfl) (mmA (mmC (mmI il_X11_ended_1 3 rfl) (mmC (mmI il_X11_ended_1 2 rfl) (mmC (mmI il_X11_ended_1 22 rfl) (mmC (mmI il_X11_ended_1 23 rfl) (mmC (mmI il_X11_ended_2 0 rfl) (mmC (mmI il_X11_ended_1 8 rfl) (mmC (mmI il_X11_ended_2 1 rfl) (mmC (mmI il_X11_ended_2 2 rfl) (mmC (mmI il_X11_ended_2 3 rfl) (mmC (mmI il_X11_ended_2 4 rfl) mmN)))))))))) il_X11_ended_3)) gw_X11_goesOn
theorem gX11_ended_X11_goesOn : GoodIn wsX11_ended (wsV RX11 188 RX11 yX11_goesOn wsX11_goesOn) := goodIn_app (goodIn_sub (mmC (mmI il_X11_ended_2 5 rfl) (mmC (mmI il_X11_ended_2 6 rfl) (mmC (mmI il_X11_ended_2 7 rfl) (mmC (mmI il_X11_ended_1 8 rfl) mmN)))) (by decide +kernel)) ggX11_ended_X11_goesOn
theorem dX11_ended_0 : decode cX11_ended 0 = .ok (.aload_n 0, 1) := by decide +kernel
theorem dX11_ended_1 : decode cX11_ended 1 = .ok (.iload_n 1, 1) := by decide +kernel
theorem dX11_ended_2 : decode cX11_ended 2 = .ok (.invokevirtual 185, 3) := by decide +kernel
theorem dX11_ended_5 : decode cX11_ended 5 = .ok (.ifCond .eq 10, 3) := by decide +kernel
theorem dX11_ended_8 : decode cX11_ended 8 = .ok (.iload_n 2, 1) := by decide +kernel
theorem dX11_ended_9 : decode cX11_ended 9 = .ok (.invokestatic 174, 3) := by decide +kernel
theorem dX11_ended_12 : decode cX11_ended 12 = .ok (.ifCond .ne 9, 3) := by decide +kernel
theorem dX11_ended_15 : decode cX11_ended 15 = .ok (.aload_n 0, 1) := by decide +kernel
theorem dX11_ended_16 : decode cX11_ended 16 = .ok (.iconst (-1), 1) := by decide +kernel
theorem dX11_ended_17 : decode cX11_ended 17 = .ok (.invokevirtual 153, 3) := by decide +kernel
theorem dX11_ended_20 : decode cX11_ended 20 = .ok (.ireturn, 1) := by decide +kernel
theorem dX11_ended_21 : decode cX11_ended 21 = .ok (.aload_n 0, 1) := by decide +kernel
theorem dX11_ended_22 : decode cX11_ended 22 = .ok (.getfield 37, 3) := by decide +kernel
theorem dX11_ended_25 : decode cX11_ended 25 = .ok (.iload_n 1, 1) := by decide +kernel
theorem dX11_ended_26 : decode cX11_ended 26 = .ok (.iaload, 1) := by decide +kernel
theorem dX11_ended_27 : decode cX11_ended 27 = .ok (.ifCond .ge 12, 3) := by decide +kernel
theorem dX11_ended_30 : decode cX11_ended 30 = .ok (.aload_n 0, 1) := by decide +kernel
theorem dX11_ended_31 : decode cX11_ended 31 = .ok (.iconst 2, 1) := by decide +kernel
theorem dX11_ended_32 : decode cX11_ended 32 = .ok (.iload_n 1, 1) := by decide +kernel
theorem dX11_ended_33 : decode cX11_ended 33 = .ok (.invokevirtual 182, 3) := by decide +kernel
theorem dX11_ended_36 : decode cX11_ended 36 = .ok (.ifCond .eq 10, 3) := by decide +kernel
theorem dX11_ended_39 : decode cX11_ended 39 = .ok (.aload_n 0, 1) := by decide +kernel
theorem dX11_ended_40 : decode cX11_ended 40 = .ok (.bipush (-3), 2) := by decide +kernel
theorem dX11_ended_42 : decode cX11_ended 42 = .ok (.invokevirtual 153, 3) := by decide +kernel
theorem dX11_ended_45 : decode cX11_ended 45 = .ok (.ireturn, 1) := by decide +kernel
theorem dX11_ended_46 : decode cX11_ended 46 = .ok (.iconst 0, 1) := by decide +kernel
theorem dX11_ended_47 : decode cX11_ended 47 = .ok (.istore_n 3, 1) := by decide +kernel
theorem dX11_ended_48 : decode cX11_ended 48 = .ok (.iconst 0, 1) := by decide +kernel
theorem dX11_ended_49 : decode cX11_ended 49 = .ok (.istore 4, 2) := by decide +kernel
theorem dX11_ended_51 : decode cX11_ended 51 = .ok (.iload 4, 2) := by decide +kernel
theorem dX11_ended_53 : decode cX11_ended 53 = .ok (.aload_n 0, 1) := by decide +kernel
theorem dX11_ended_54 : decode cX11_ended 54 = .ok (.getfield 168, 3) := by decide +kernel
theorem dX11_ended_57 : decode cX11_ended 57 = .ok (.if_icmp .ge 46, 3) := by decide +kernel
theorem dX11_ended_60 : decode cX11_ended 60 = .ok (.aload_n 0, 1) := by decide +kernel
theorem dX11_ended_61 : decode cX11_ended 61 = .ok (.getfield 73, 3) := by decide +kernel
theorem dX11_ended_64 : decode cX11_ended 64 = .ok (.iload 4, 2) := by decide +kernel
theorem dX11_ended_66 : decode cX11_ended 66 = .ok (.iaload, 1) := by decide +kernel
theorem dX11_ended_67 : decode cX11_ended 67 = .ok (.iload_n 1, 1) := by decide +kernel
theorem dX11_ended_68 : decode cX11_ended 68 = .ok (.if_icmp .ne 29, 3) := by decide +kernel
theorem dX11_ended_71 : decode cX11_ended 71 = .ok (.aload_n 0, 1) := by decide +kernel
theorem dX11_ended_72 : decode cX11_ended 72 = .ok (.iload 4, 2) := by decide +kernel
theorem dX11_ended_74 : decode cX11_ended 74 = .ok (.invokevirtual 188, 3) := by decide +kernel
theorem dX11_ended_77 : decode cX11_ended 77 = .ok (.ifCond .ne 6, 3) := by decide +kernel
theorem dX11_ended_80 : decode cX11_ended 80 = .ok (.goto 17, 3) := by decide +kernel
theorem dX11_ended_83 : decode cX11_ended 83 = .ok (.aload_n 0, 1) := by decide +kernel
theorem dX11_ended_84 : decode cX11_ended 84 = .ok (.getfield 88, 3) := by decide +kernel
theorem dX11_ended_87 : decode cX11_ended 87 = .ok (.iload 4, 2) := by decide +kernel
theorem dX11_ended_89 : decode cX11_ended 89 = .ok (.aload_n 0, 1) := by decide +kernel
theorem dX11_ended_90 : decode cX11_ended 90 = .ok (.getfield 171, 3) := by decide +kernel
theorem dX11_ended_93 : decode cX11_ended 93 = .ok (.iastore, 1) := by decide +kernel
theorem dX11_ended_94 : decode cX11_ended 94 = .ok (.iinc 3 1, 3) := by decide +kernel
theorem dX11_ended_97 : decode cX11_ended 97 = .ok (.iinc 4 1, 3) := by decide +kernel
theorem dX11_ended_100 : decode cX11_ended 100 = .ok (.goto (-49), 3) := by decide +kernel
theorem dX11_ended_103 : decode cX11_ended 103 = .ok (.aload_n 0, 1) := by decide +kernel
theorem dX11_ended_104 : decode cX11_ended 104 = .ok (.getfield 37, 3) := by decide +kernel
theorem dX11_ended_107 : decode cX11_ended 107 = .ok (.iload_n 1, 1) := by decide +kernel
theorem dX11_ended_108 : decode cX11_ended 108 = .ok (.aload_n 0, 1) := by decide +kernel
theorem dX11_ended_109 : decode cX11_ended 109 = .ok (.getfield 171, 3) := by decide +kernel
theorem dX11_ended_112 : decode cX11_ended 112 = .ok (.iastore, 1) := by decide +kernel
theorem dX11_ended_113 : decode cX11_ended 113 = .ok (.iload_n 3, 1) := by decide +kernel
theorem dX11_ended_114 : decode cX11_ended 114 = .ok (.ireturn, 1) := by decide +kernel
set_option maxRecDepth 100000 in
theorem ggX11_feed_X11_refuse : GoodIn wsX11_feed wsX11_refuse := goodIn_sub (mmC (mmI il_X11_feed_1 7 rfl) (mmA (mmC (mmI il_X11_feed_1 8 rfl) mmN) il_X11_feed_2)) gw_X11_refuse
theorem gX11_feed_X11_refuse : GoodIn wsX11_feed (wsV RX11 153 RX11 yX11_refuse wsX11_refuse) := goodIn_app (goodIn_sub (mmC (mmI il_X11_feed_1 3 rfl) (mmC (mmI il_X11_feed_1 4 rfl) (mmC (mmI il_X11_feed_1 5 rfl) (mmC (mmI il_X11_feed_1 6 rfl) mmN)))) (by decide +kernel)) ggX11_feed_X11_refuse
theorem dX11_feed_0 : decode cX11_feed 0 = .ok (.iload_n 1, 1) := by decide +kernel
theorem dX11_feed_1 : decode cX11_feed 1 = .ok (.iconst 1, 1) := by decide +kernel
theorem dX11_feed_2 : decode cX11_feed 2 = .ok (.if_icmp .ge 10, 3) := by decide +kernel
theorem dX11_feed_5 : decode cX11_feed 5 = .ok (.aload_n 0, 1) := by decide +kernel
theorem dX11_feed_6 : decode cX11_feed 6 = .ok (.bipush (-4), 2) := by decide +kernel
theorem dX11_feed_8 : decode cX11_feed 8 = .ok (.invokevirtual 153, 3) := by decide +kernel
theorem dX11_feed_11 : decode cX11_feed 11 = .ok (.ireturn, 1) := by decide +kernel
theorem dX11_feed_12 : decode cX11_feed 12 = .ok (.iload_n 1, 1) := by decide +kernel
theorem dX11_feed_13 : decode cX11_feed 13 = .ok (.bipush 8, 2) := by decide +kernel
theorem dX11_feed_15 : decode cX11_feed 15 = .ok (.if_icmp .gt 14, 3) := by decide +kernel
theorem dX11_feed_18 : decode cX11_feed 18 = .ok (.aload_n 0, 1) := by decide +kernel
theorem dX11_feed_19 : decode cX11_feed 19 = .ok (.getfield 205, 3) := by decide +kernel
theorem dX11_feed_22 : decode cX11_feed 22 = .ok (.iload_n 1, 1) := by decide +kernel
theorem dX11_feed_23 : decode cX11_feed 23 = .ok (.iadd, 1) := by decide +kernel
theorem dX11_feed_24 : decode cX11_feed 24 = .ok (.bipush 60, 2) := by decide +kernel
theorem dX11_feed_26 : decode cX11_feed 26 = .ok (.if_icmp .le 10, 3) := by decide +kernel
theorem dX11_feed_29 : decode cX11_feed 29 = .ok (.aload_n 0, 1) := by decide +kernel
theorem dX11_feed_30 : decode cX11_feed 30 = .ok (.bipush (-6), 2) := by decide +kernel
theorem dX11_feed_32 : decode cX11_feed 32 = .ok (.invokevirtual 153, 3) := by decide +kernel
theorem dX11_feed_35 : decode cX11_feed 35 = .ok (.ireturn, 1) := by decide +kernel
theorem dX11_feed_36 : decode cX11_feed 36 = .ok (.iconst 0, 1) := by decide +kernel
theorem dX11_feed_37 : decode cX11_feed 37 = .ok (.istore 4, 2) := by decide +kernel
theorem dX11_feed_39 : decode cX11_feed 39 = .ok (.iload 4, 2) := by decide +kernel
theorem dX11_feed_41 : decode cX11_feed 41 = .ok (.iload_n 1, 1) := by decide +kernel
theorem dX11_feed_42 : decode cX11_feed 42 = .ok (.if_icmp .ge 40, 3) := by decide +kernel
theorem dX11_feed_45 : decode cX11_feed 45 = .ok (.aload_n 0, 1) := by decide +kernel
theorem dX11_feed_46 : decode cX11_feed 46 = .ok (.getfield 125, 3) := by decide +kernel
theorem dX11_feed_49 : decode cX11_feed 49 = .ok (.aload_n 0, 1) := by decide +kernel
theorem dX11_feed_50 : decode cX11_feed 50 = .ok (.getfield 205, 3) := by decide +kernel
theorem dX11_feed_53 : decode cX11_feed 53 = .ok (.lload_n 2, 1) := by decide +kernel
theorem dX11_feed_54 : decode cX11_feed 54 = .ok (.bipush 8, 2) := by decide +kernel
theorem dX11_feed_56 : decode cX11_feed 56 = .ok (.iload 4, 2) := by decide +kernel
theorem dX11_feed_58 : decode cX11_feed 58 = .ok (.imul, 1) := by decide +kernel
theorem dX11_feed_59 : decode cX11_feed 59 = .ok (.lshr, 1) := by decide +kernel
theorem dX11_feed_60 : decode cX11_feed 60 = .ok (.ldc2_w 208, 3) := by decide +kernel
theorem dX11_feed_63 : decode cX11_feed 63 = .ok (.land, 1) := by decide +kernel
theorem dX11_feed_64 : decode cX11_feed 64 = .ok (.l2i, 1) := by decide +kernel
theorem dX11_feed_65 : decode cX11_feed 65 = .ok (.iastore, 1) := by decide +kernel
theorem dX11_feed_66 : decode cX11_feed 66 = .ok (.aload_n 0, 1) := by decide +kernel
theorem dX11_feed_67 : decode cX11_feed 67 = .ok (.dup, 1) := by decide +kernel
theorem dX11_feed_68 : decode cX11_feed 68 = .ok (.getfield 205, 3) := by decide +kernel
theorem dX11_feed_71 : decode cX11_feed 71 = .ok (.iconst 1, 1) := by decide +kernel
theorem dX11_feed_72 : decode cX11_feed 72 = .ok (.iadd, 1) := by decide +kernel
theorem dX11_feed_73 : decode cX11_feed 73 = .ok (.putfield 205, 3) := by decide +kernel
theorem dX11_feed_76 : decode cX11_feed 76 = .ok (.iinc 4 1, 3) := by decide +kernel
theorem dX11_feed_79 : decode cX11_feed 79 = .ok (.goto (-40), 3) := by decide +kernel
theorem dX11_feed_82 : decode cX11_feed 82 = .ok (.aload_n 0, 1) := by decide +kernel
theorem dX11_feed_83 : decode cX11_feed 83 = .ok (.getfield 205, 3) := by decide +kernel
theorem dX11_feed_86 : decode cX11_feed 86 = .ok (.ireturn, 1) := by decide +kernel
theorem in_wsX11_voyage_X11 : ∀ w ∈ wsX110, w ∈ wsX11_voyage := fun w h => List.mem_cons_of_mem _ (List.mem_append_right _ h)
theorem in_wsX11_ended_X11 : ∀ w ∈ wsX110, w ∈ wsX11_ended := fun w h => List.mem_cons_of_mem _ (List.mem_append_right _ h)
theorem in_wsX11_feed_X11 : ∀ w ∈ wsX110, w ∈ wsX11_feed := fun w h => List.mem_cons_of_mem _ (List.mem_append_right _ h)

set_option maxHeartbeats 4000000 in
set_option maxRecDepth 100000 in
theorem c_X11_voyage (l : Launch) (dC : Nat → ClassId) (dI : Nat → Nat → Nat) (sz : Nat) (g0 : Nat) (pq : Nat → Nat) (cp : Nat → ClassId) (v : Nat → Int32) (fa : Nat → Nat → Int32) (gV : mV v) (gA : mA fa) (x1 : Int32) (x2 : Int32) : Met l yX11_voyage wsX11_voyage ({ frames := 2, cells := 0, slots := 0, locals := 41 }) (va_Pc [.ref g0, .int x1, .int x2] (pcW (dC, dI) (mT cp) (mW g0 pq cp v fa) sz)) (va_Qi (fun (r : Int32) (u : (Nat → Int32) × (Nat → Nat → Int32)) => mV u.1 ∧ mA u.2 ∧ mX [0, 6, 7, 8, 9, 40] v fa u.1 u.2) (fun u t => va_P (dC, dI) vwCl (mW g0 pq cp u.1 u.2) t.heap ∧ va_K (dC, dI) vwCl (mT cp) t ∧ va_D (va_A (mW g0 pq cp v fa) sz) (mW g0 pq cp u.1 u.2)) (va_A (mW g0 pq cp v fa) sz)) 0 0 (va_A (mW g0 pq cp v fa) sz) := by
  refine Met.ofW (cc := cX11_voyage) (maxL := 4) (ret := (some .int)) (by decide) rfl ?_
  intro p e s m args below meth c s₁ B hml hv
  obtain ⟨rfl, hsz, hP, hK, hD0⟩ := hv
  have hx := B.exec
  have hb := B.bytes
  have hr := B.returns
  have hts := atoms_spec (ws := wsX11_voyage) B.pre
  have hown : s.vm.findClass RX11 = some m.cls := findClass_of_methodNamed B.named
  have hlocks := B.notSynchronized
  subst hsz
  have hD := hD0.self (sz := s.heap.size)
  generalize hAe : va_A (mW g0 pq cp v fa) s.heap.size = A at hD ⊢
  have hA : ∀ q : Nat, s.heap.size ≤ q → A q := fun q h => by rw [← hAe]; exact Or.inr h
  have hS : va_S A s.heap s.heap [] := va_S.rf
  have hP : va_P (dC, dI) vwCl (mW g0 pq cp v fa) s.heap := hP
  have hl := lv_entry ([.ref g0, .int x1, .int x2]) (n := 4) (Nat.le_of_ble_eq_true rfl)
  rw [lg_entry_eq]
  generalize (lg_sl ([.ref g0, .int x1, .int x2]) ++ List.replicate (4 - (lg_sl ([.ref g0, .int x1, .int x2])).length) Slot.unset).toArray = ls at hl ⊢
  have hl : lv_has ls 4 [(0, .ref g0), (1, .int x1), (2, .int x2)] := hl
  refine lv_iload_n hx hb dX11_voyage_0 rfl (lv_at hl 1 rfl) ?_
  refine lv_bipush (v := 10) hx hb dX11_voyage_1 (by decide) ?_
  have hFc : ∀ q, va_A [] s.heap.size q → A q := pu_free hS hA
  have hPc := hP.sub (ws' := []) [] rfl
  have hDc := hD.sub (ws' := []) [] (by decide) rfl
  have hKc := hK.sub (tys' := []) [] rfl
  refine va_calli (va_runS (As := [.int x1, .int 10]) (rest := []) ⟨hx, hb, hml, hown, hts⟩ (c_X11_isIn l dC dI s.heap.size x1 10) (va_cwS 2 hts gX11_voyage_X11_isIn rfl rfl rfl (by decide +kernel) ⟨(Nat.le_of_ble_eq_true rfl), (Nat.le_of_ble_eq_true rfl)⟩) (pr_S hPc hKc hDc) rfl rfl hl.1 rfl (lv_room (Nat.le_of_ble_eq_true rfl)) dX11_voyage_3 ⟨(Nat.le_of_ble_eq_true rfl), (Nat.le_of_ble_eq_true rfl)⟩) hS (fun q _ h => hFc q h) hFc (fun r_2 u t H locs ht hvm w_1 hB hz1 hk1 hS => ?_)
  have hP := pu_keep hP hk1
  clear hk1 hz1 hvm hB ht hFc hPc hDc hKc
  have hbr_2 : 0 ≤ r_2.toInt ∧ r_2.toInt ≤ 1 := iv_of w_1 (isI_i _ _)
  refine lv_if_eq (tgt := 16) hx hb dX11_voyage_6 (by decide) (fun c_3 => ?_) (fun c_3 => ?_)
  · have dc_3 := c_eq (a := r_2.toInt) (b := 0) rfl (by decide) c_3
    refine lv_aload_n hx hb dX11_voyage_16 rfl (lv_at hl 0 rfl) ?_
    refine lv_iconst (v := (-1)) hx hb dX11_voyage_17 (by decide) ?_
    have hFc := va_free (wc := (mW g0 pq cp v fa)) hD hS hA (List.range 48) rfl
    refine va_calli (va_runV (As := [.int (-1)]) (rest := []) ⟨hx, hb, hml, hown, hts⟩ (c_X11_refuse l dC dI H.size g0 pq cp v fa (-1) (by unfold vp_in; decide)) (cwV 1 hts gX11_voyage_X11_refuse rfl rfl rfl (by decide +kernel) ⟨(Nat.le_of_ble_eq_true rfl), (Nat.le_of_ble_eq_true rfl)⟩) (pr_V (r := (RX11, TX11, 63)) hP hK hD 0 11 rfl rfl) rfl rfl hl.1 rfl (lv_room (Nat.le_of_ble_eq_true rfl)) dX11_voyage_18 ⟨(Nat.le_of_ble_eq_true rfl), (Nat.le_of_ble_eq_true rfl)⟩) hS (fun q _ h => hFc q h) hFc (fun r_5 u t H locs ht hvm w_4 hB hz1 hk1 hS => ?_)
    obtain ⟨v_6, fa_7⟩ := u
    obtain ⟨hP1, hK1, hD1⟩ := hB
    rw [ht] at hP1
    have hP : va_P (dC, dI) vwCl (mW g0 pq cp v_6 fa_7) H := hP1
    have hD : va_D A (mW g0 pq cp v_6 fa_7) := hD1.weaken (fun _ _ _ h => hFc _ h)
    clear hP1 hK1 hD1 hk1 hz1 hvm ht hFc
    obtain ⟨rfl, w_4⟩ := w_4
    have hVv_6 : mV v_6 := sm0_V w_4 gV
    have hAv_6 : mA fa_7 := sm0_A w_4 gA
    have g_8 : (v_6 40).toInt = (v 40).toInt := congrArg Int32.toInt (congrFun w_4.1 40)
    have hRv_6 : mX [0, 6, 7, 8, 9, 40] v fa v_6 fa_7 := mX.st mX.rf (mX.s0 w_4) (by decide)
    exact W.iret (v := (-1)) hx hb hr (fun t ht hW => ⟨⟨(-1), (v_6, fa_7), rfl, ⟨hVv_6, hAv_6, hRv_6⟩, ⟨by rw [ht]; exact hP, va_K.moved hW.alike hK, hD⟩⟩, hS.F ht⟩) hS.2.2 dX11_voyage_21
  · have dc_3 := c_ne (a := r_2.toInt) (b := 0) rfl (by decide) c_3
    have hi_9 := isI_t w_1 (fun q => c_3 (Int32.toInt_inj.mp q))
    have khi_9 : (10 : Int32).toInt = 10 := by decide
    refine lv_iload_n hx hb dX11_voyage_9 rfl (lv_at hl 2 rfl) ?_
    have hFc : ∀ q, va_A [] H.size q → A q := pu_free hS hA
    have hPc := hP.sub (ws' := []) [] rfl
    have hDc := hD.sub (ws' := []) [] (by decide) rfl
    have hKc := hK.sub (tys' := []) [] rfl
    refine va_calli (va_runS (As := [.int x2]) (rest := []) ⟨hx, hb, hml, hown, hts⟩ (c_X11_isPort l dC dI H.size x2) (va_cwS 1 hts gX11_voyage_X11_isPort rfl rfl rfl (by decide +kernel) ⟨(Nat.le_of_ble_eq_true rfl), (Nat.le_of_ble_eq_true rfl)⟩) (pr_S hPc hKc hDc) rfl rfl hl.1 rfl (lv_room (Nat.le_of_ble_eq_true rfl)) dX11_voyage_10 ⟨(Nat.le_of_ble_eq_true rfl), (Nat.le_of_ble_eq_true rfl)⟩) hS (fun q _ h => hFc q h) hFc (fun r_11 u t H locs ht hvm w_10 hB hz1 hk1 hS => ?_)
    have hP := pu_keep hP hk1
    clear hk1 hz1 hvm hB ht hFc hPc hDc hKc
    have hbr_11 : 0 ≤ r_11.toInt ∧ r_11.toInt ≤ 1 := iv_of w_10 (isI_i _ _)
    refine lv_if_ne (tgt := 22) hx hb dX11_voyage_13 (by decide) (fun c_12 => ?_) (fun c_12 => ?_)
    · have dc_12 := c_ne (a := r_11.toInt) (b := 0) rfl (by decide) c_12
      have hi_13 := isI_t w_10 (fun q => c_12 (Int32.toInt_inj.mp q))
      have khi_13 : (10 : Int32).toInt = 10 := by decide
      refine lv_iconst (v := 0) hx hb dX11_voyage_22 (by decide) ?_
      refine lv_istore_n (lv' := [(3, .int 0), (0, .ref g0), (1, .int x1), (2, .int x2)]) hx hb dX11_voyage_23 rfl hl (by decide) rfl (fun ls hl => ?_)
      have cut_14 : ∀ (n : Nat) (y_15 : Int32) (z_16 : Nat → Int32) (fz_17 : Nat → Nat → Int32) (H : Heap) (locs : List Loc) (ls : Array Slot), 20 - y_15.toInt ≤ (n : Int) → (0 ≤ y_15.toInt ∧ y_15.toInt ≤ 20) → mV z_16 → mA fz_17 → mX [0, 6, 7, 8, 9, 40] v fa z_16 fz_17 → va_P (dC, dI) vwCl (mW g0 pq cp z_16 fz_17) H → va_D A (mW g0 pq cp z_16 fz_17) → va_S A s.heap H locs → (z_16 40).toInt = (v 40).toInt → lv_has ls 4 [(3, .int y_15), (0, .ref g0), (1, .int x1), (2, .int x2)] → W p l e (headSpec wsX11_voyage { frames := 2, cells := 0, slots := 0, locals := 41 }).room s m #[Value.ref g0, Value.int x1, Value.int x2] below meth c H locs 0 0 (MQ below (va_Qi (fun (r : Int32) (u : (Nat → Int32) × (Nat → Nat → Int32)) => mV u.1 ∧ mA u.2 ∧ mX [0, 6, 7, 8, 9, 40] v fa u.1 u.2) (fun u t => va_P (dC, dI) vwCl (mW g0 pq cp u.1 u.2) t.heap ∧ va_K (dC, dI) vwCl (mT cp) t ∧ va_D A (mW g0 pq cp u.1 u.2)) A) #[Value.ref g0, Value.int x1, Value.int x2] s 0 0 A) (F0 m 24 ls []) := by
        intro n
        induction n using Nat.strongRecOn with
        | ind n ih =>
          intro y_15 z_16 fz_17 H locs ls hm hy_15 hVz_16 hAz_16 hRz_16 hP hD hS g_18 hl
          refine lv_iload_n hx hb dX11_voyage_24 rfl (lv_at hl 0 rfl) ?_
          refine lv_aload_n hx hb dX11_voyage_25 rfl (lv_at hl 1 rfl) ?_
          refine va_get (D := (dC, dI)) (ci := 11) (v := .int (z_16 40)) (C := RX11) (T := TX11) (N := 63) hx hb hts in_wsX11_voyage_X11 hown hK hP 0 rfl rfl 40 (by decide) (hts (.fieldLink RX11 165 "ShipOfficeModel" "voyages" "I") iw_X11_voyage_1) (fun _ h9 => h9) rfl dX11_voyage_26 ?_
          refine lv_topi (fun x_19 ex_19 => ?_)
          have hx_19 : 0 ≤ x_19.toInt ∧ x_19.toInt ≤ 20 := iv_of ex_19 (hVz_16 40)
          have gx_19 : x_19.toInt = (z_16 40).toInt := iv_to ex_19
          clear ex_19
          refine lv_icmp_ge (tgt := 64) hx hb dX11_voyage_29 (by decide) (fun c_20 => ?_) (fun c_20 => ?_)
          · have dc_20 := c_le (a := x_19.toInt) (b := y_15.toInt) rfl rfl c_20
            refine lv_aload_n hx hb dX11_voyage_64 rfl (lv_at hl 1 rfl) ?_
            refine va_get (D := (dC, dI)) (ci := 11) (v := .int (z_16 40)) (C := RX11) (T := TX11) (N := 63) hx hb hts in_wsX11_voyage_X11 hown hK hP 0 rfl rfl 40 (by decide) (hts (.fieldLink RX11 165 "ShipOfficeModel" "voyages" "I") iw_X11_voyage_1) (fun _ h9 => h9) rfl dX11_voyage_65 ?_
            refine lv_topi (fun x_21 ex_21 => ?_)
            have hx_21 : 0 ≤ x_21.toInt ∧ x_21.toInt ≤ 20 := iv_of ex_21 (hVz_16 40)
            have gx_21 : x_21.toInt = (z_16 40).toInt := iv_to ex_21
            clear ex_21
            refine lv_bipush (v := 20) hx hb dX11_voyage_68 (by decide) ?_
            refine lv_icmp_ne (tgt := 80) hx hb dX11_voyage_70 (by decide) (fun c_22 => ?_) (fun c_22 => ?_)
            · have dc_22 := c_ne (a := x_21.toInt) (b := 20) rfl (by decide) c_22
              refine lv_aload_n hx hb dX11_voyage_80 rfl (lv_at hl 1 rfl) ?_
              refine va_get (D := (dC, dI)) (ci := 11) (v := .ref (pq 6)) (C := RX11) (T := TX11) (N := 63) hx hb hts in_wsX11_voyage_X11 hown hK hP 0 rfl rfl 6 (by decide) (hts (.fieldLink RX11 28 "ShipOfficeModel" "ship" "[I") iw_X11_voyage_2) (fun _ h9 => h9) rfl dX11_voyage_81 ?_
              refine lv_aload_n hx hb dX11_voyage_84 rfl (lv_at hl 1 rfl) ?_
              refine va_get (D := (dC, dI)) (ci := 11) (v := .int (z_16 40)) (C := RX11) (T := TX11) (N := 63) hx hb hts in_wsX11_voyage_X11 hown hK hP 0 rfl rfl 40 (by decide) (hts (.fieldLink RX11 165 "ShipOfficeModel" "voyages" "I") iw_X11_voyage_1) (fun _ h9 => h9) rfl dX11_voyage_85 ?_
              refine lv_topi (fun x_23 ex_23 => ?_)
              have hx_23 : 0 ≤ x_23.toInt ∧ x_23.toInt ≤ 20 := iv_of ex_23 (hVz_16 40)
              have gx_23 : x_23.toInt = (z_16 40).toInt := iv_to ex_23
              clear ex_23
              refine lv_iload_n hx hb dX11_voyage_88 rfl (lv_at hl 2 rfl) ?_
              refine va_iast hx hb hK hP hD hS 7 6 rfl rfl (vp_in_iff.mpr (by omega)) dX11_voyage_89 (fun H locs hP hD hS => ?_)
              have hP : va_P (dC, dI) vwCl (mW g0 pq cp z_16 (upF fz_17 6 (x_23 : Int32).toNatClampNeg x1)) H := hP
              have hD : va_D A (mW g0 pq cp z_16 (upF fz_17 6 (x_23 : Int32).toNatClampNeg x1)) := hD
              obtain ⟨fz_24, efz_24⟩ : ∃ zq, zq = (upF fz_17 6 (x_23 : Int32).toNatClampNeg x1) := ⟨_, rfl⟩
              rw [← efz_24] at hP hD
              have hAfz_24 : mA fz_24 := by rw [efz_24]; exact mA_upF (lo := -2147483648) (hi := 2147483647) hAz_16 rfl rfl (iv_all _)
              have hRfz_24 : mX [0, 6, 7, 8, 9, 40] v fa z_16 fz_24 := by rw [efz_24]; exact mX.uF hRz_16 (by decide)
              refine lv_aload_n hx hb dX11_voyage_90 rfl (lv_at hl 1 rfl) ?_
              refine va_get (D := (dC, dI)) (ci := 11) (v := .ref (pq 7)) (C := RX11) (T := TX11) (N := 63) hx hb hts in_wsX11_voyage_X11 hown hK hP 0 rfl rfl 7 (by decide) (hts (.fieldLink RX11 31 "ShipOfficeModel" "opened" "[I") iw_X11_voyage_3) (fun _ h9 => h9) rfl dX11_voyage_91 ?_
              refine lv_aload_n hx hb dX11_voyage_94 rfl (lv_at hl 1 rfl) ?_
              refine va_get (D := (dC, dI)) (ci := 11) (v := .int (z_16 40)) (C := RX11) (T := TX11) (N := 63) hx hb hts in_wsX11_voyage_X11 hown hK hP 0 rfl rfl 40 (by decide) (hts (.fieldLink RX11 165 "ShipOfficeModel" "voyages" "I") iw_X11_voyage_1) (fun _ h9 => h9) rfl dX11_voyage_95 ?_
              refine lv_topi (fun x_25 ex_25 => ?_)
              have hx_25 : 0 ≤ x_25.toInt ∧ x_25.toInt ≤ 20 := iv_of ex_25 (hVz_16 40)
              have gx_25 : x_25.toInt = (z_16 40).toInt := iv_to ex_25
              clear ex_25
              refine lv_aload_n hx hb dX11_voyage_98 rfl (lv_at hl 1 rfl) ?_
              refine va_get (D := (dC, dI)) (ci := 11) (v := .int (z_16 38)) (C := RX11) (T := TX11) (N := 63) hx hb hts in_wsX11_voyage_X11 hown hK hP 0 rfl rfl 38 (by decide) (hts (.fieldLink RX11 171 "ShipOfficeModel" "now" "I") iw_X11_voyage_4) (fun _ h9 => h9) rfl dX11_voyage_99 ?_
              refine lv_topi (fun x_26 ex_26 => ?_)
              have hx_26 : 0 ≤ x_26.toInt ∧ x_26.toInt ≤ 3000 := iv_of ex_26 (hVz_16 38)
              clear ex_26
              refine va_iast hx hb hK hP hD hS 8 7 rfl rfl (vp_in_iff.mpr (by omega)) dX11_voyage_102 (fun H locs hP hD hS => ?_)
              have hP : va_P (dC, dI) vwCl (mW g0 pq cp z_16 (upF fz_24 7 (x_25 : Int32).toNatClampNeg x_26)) H := hP
              have hD : va_D A (mW g0 pq cp z_16 (upF fz_24 7 (x_25 : Int32).toNatClampNeg x_26)) := hD
              obtain ⟨fz_27, efz_27⟩ : ∃ zq, zq = (upF fz_24 7 (x_25 : Int32).toNatClampNeg x_26) := ⟨_, rfl⟩
              rw [← efz_27] at hP hD
              have hAfz_27 : mA fz_27 := by rw [efz_27]; exact mA_upF (lo := 0) (hi := 3000) hAfz_24 rfl rfl (by omega)
              have hRfz_27 : mX [0, 6, 7, 8, 9, 40] v fa z_16 fz_27 := by rw [efz_27]; exact mX.uF hRfz_24 (by decide)
              refine lv_aload_n hx hb dX11_voyage_103 rfl (lv_at hl 1 rfl) ?_
              refine va_get (D := (dC, dI)) (ci := 11) (v := .ref (pq 8)) (C := RX11) (T := TX11) (N := 63) hx hb hts in_wsX11_voyage_X11 hown hK hP 0 rfl rfl 8 (by decide) (hts (.fieldLink RX11 34 "ShipOfficeModel" "openPort" "[I") iw_X11_voyage_5) (fun _ h9 => h9) rfl dX11_voyage_104 ?_
              refine lv_aload_n hx hb dX11_voyage_107 rfl (lv_at hl 1 rfl) ?_
              refine va_get (D := (dC, dI)) (ci := 11) (v := .int (z_16 40)) (C := RX11) (T := TX11) (N := 63) hx hb hts in_wsX11_voyage_X11 hown hK hP 0 rfl rfl 40 (by decide) (hts (.fieldLink RX11 165 "ShipOfficeModel" "voyages" "I") iw_X11_voyage_1) (fun _ h9 => h9) rfl dX11_voyage_108 ?_
              refine lv_topi (fun x_28 ex_28 => ?_)
              have hx_28 : 0 ≤ x_28.toInt ∧ x_28.toInt ≤ 20 := iv_of ex_28 (hVz_16 40)
              have gx_28 : x_28.toInt = (z_16 40).toInt := iv_to ex_28
              clear ex_28
              refine lv_iload_n hx hb dX11_voyage_111 rfl (lv_at hl 3 rfl) ?_
              refine va_iast hx hb hK hP hD hS 9 8 rfl rfl (vp_in_iff.mpr (by omega)) dX11_voyage_112 (fun H locs hP hD hS => ?_)
              have hP : va_P (dC, dI) vwCl (mW g0 pq cp z_16 (upF fz_27 8 (x_28 : Int32).toNatClampNeg x2)) H := hP
              have hD : va_D A (mW g0 pq cp z_16 (upF fz_27 8 (x_28 : Int32).toNatClampNeg x2)) := hD
              obtain ⟨fz_29, efz_29⟩ : ∃ zq, zq = (upF fz_27 8 (x_28 : Int32).toNatClampNeg x2) := ⟨_, rfl⟩
              rw [← efz_29] at hP hD
              have hAfz_29 : mA fz_29 := by rw [efz_29]; exact mA_upF (lo := 0) (hi := 9) hAfz_27 rfl rfl (by omega)
              have hRfz_29 : mX [0, 6, 7, 8, 9, 40] v fa z_16 fz_29 := by rw [efz_29]; exact mX.uF hRfz_27 (by decide)
              refine lv_aload_n hx hb dX11_voyage_113 rfl (lv_at hl 1 rfl) ?_
              refine va_get (D := (dC, dI)) (ci := 11) (v := .ref (pq 9)) (C := RX11) (T := TX11) (N := 63) hx hb hts in_wsX11_voyage_X11 hown hK hP 0 rfl rfl 9 (by decide) (hts (.fieldLink RX11 37 "ShipOfficeModel" "endedOn" "[I") iw_X11_voyage_6) (fun _ h9 => h9) rfl dX11_voyage_114 ?_
              refine lv_aload_n hx hb dX11_voyage_117 rfl (lv_at hl 1 rfl) ?_
              refine va_get (D := (dC, dI)) (ci := 11) (v := .int (z_16 40)) (C := RX11) (T := TX11) (N := 63) hx hb hts in_wsX11_voyage_X11 hown hK hP 0 rfl rfl 40 (by decide) (hts (.fieldLink RX11 165 "ShipOfficeModel" "voyages" "I") iw_X11_voyage_1) (fun _ h9 => h9) rfl dX11_voyage_118 ?_
              refine lv_topi (fun x_30 ex_30 => ?_)
              have hx_30 : 0 ≤ x_30.toInt ∧ x_30.toInt ≤ 20 := iv_of ex_30 (hVz_16 40)
              have gx_30 : x_30.toInt = (z_16 40).toInt := iv_to ex_30
              clear ex_30
              refine lv_iconst (v := (-1)) hx hb dX11_voyage_121 (by decide) ?_
              refine va_iast hx hb hK hP hD hS 10 9 rfl rfl (vp_in_iff.mpr (by omega)) dX11_voyage_122 (fun H locs hP hD hS => ?_)
              have hP : va_P (dC, dI) vwCl (mW g0 pq cp z_16 (upF fz_29 9 (x_30 : Int32).toNatClampNeg (-1))) H := hP
              have hD : va_D A (mW g0 pq cp z_16 (upF fz_29 9 (x_30 : Int32).toNatClampNeg (-1))) := hD
              obtain ⟨fz_31, efz_31⟩ : ∃ zq, zq = (upF fz_29 9 (x_30 : Int32).toNatClampNeg (-1)) := ⟨_, rfl⟩
              rw [← efz_31] at hP hD
              have hAfz_31 : mA fz_31 := by rw [efz_31]; exact mA_upF (lo := -2147483648) (hi := 2147483647) hAfz_29 rfl rfl (iv_all _)
              have hRfz_31 : mX [0, 6, 7, 8, 9, 40] v fa z_16 fz_31 := by rw [efz_31]; exact mX.uF hRfz_29 (by decide)
              refine lv_aload_n hx hb dX11_voyage_123 rfl (lv_at hl 1 rfl) ?_
              refine lv_dup hx hb dX11_voyage_124 rfl ?_
              refine va_get (D := (dC, dI)) (ci := 11) (v := .int (z_16 40)) (C := RX11) (T := TX11) (N := 63) hx hb hts in_wsX11_voyage_X11 hown hK hP 0 rfl rfl 40 (by decide) (hts (.fieldLink RX11 165 "ShipOfficeModel" "voyages" "I") iw_X11_voyage_1) (fun _ h9 => h9) rfl dX11_voyage_125 ?_
              refine lv_topi (fun x_32 ex_32 => ?_)
              have hx_32 : 0 ≤ x_32.toInt ∧ x_32.toInt ≤ 20 := iv_of ex_32 (hVz_16 40)
              have gx_32 : x_32.toInt = (z_16 40).toInt := iv_to ex_32
              clear ex_32
              refine lv_iconst (v := 1) hx hb dX11_voyage_128 (by decide) ?_
              refine lv_iadd hx hb dX11_voyage_129 ?_
              refine lv_topi (fun x_33 ex_33 => ?_)
              have hx_33 : x_33.toInt = x_32.toInt + 1 := (iv_to ex_33).trans (ad_i rfl (by decide) (by omega) (by omega))
              clear ex_33
              refine va_put (D := (dC, dI)) (ci := 11) (v := .int x_33) (ty := .int) (C := RX11) (T := TX11) (N := 63) hx hb hts in_wsX11_voyage_X11 tyX11 tyX11_ok nmX11 hown hK hP hD hS 0 rfl rfl 40 (by decide) (hts (.fieldLink RX11 165 "ShipOfficeModel" "voyages" "I") iw_X11_voyage_1) (fun _ h9 => h9) rfl (by decide +kernel) rfl rfl (Nat.le_of_ble_eq_true rfl) dX11_voyage_130 (fun H locs hP hD hS => ?_)
              have hP : va_P (dC, dI) vwCl (mW g0 pq cp (upd z_16 40 x_33) fz_31) H := hP
              have hD : va_D A (mW g0 pq cp (upd z_16 40 x_33) fz_31) := hD
              obtain ⟨z_34, ez_34⟩ : ∃ zq, zq = (upd z_16 40 x_33) := ⟨_, rfl⟩
              rw [← ez_34] at hP hD
              have hVz_34 : mV z_34 := by rw [ez_34]; exact mV_upd (lo := 0) (hi := 20) hVz_16 rfl rfl (by omega)
              have hRz_34 : mX [0, 6, 7, 8, 9, 40] v fa z_34 fz_31 := by rw [ez_34]; exact mX.up hRfz_31 (by decide)
              have g_35 : (z_34 40).toInt = x_33.toInt := by rw [ez_34, show upd z_16 40 x_33 40 = x_33 from if_pos rfl]
              refine lv_aload_n hx hb dX11_voyage_133 rfl (lv_at hl 1 rfl) ?_
              refine va_get (D := (dC, dI)) (ci := 11) (v := .int (z_34 40)) (C := RX11) (T := TX11) (N := 63) hx hb hts in_wsX11_voyage_X11 hown hK hP 0 rfl rfl 40 (by decide) (hts (.fieldLink RX11 165 "ShipOfficeModel" "voyages" "I") iw_X11_voyage_1) (fun _ h9 => h9) rfl dX11_voyage_134 ?_
              refine lv_topi (fun x_36 ex_36 => ?_)
              have hx_36 : 0 ≤ x_36.toInt ∧ x_36.toInt ≤ 20 := iv_of ex_36 (hVz_34 40)
              have gx_36 : x_36.toInt = (z_34 40).toInt := iv_to ex_36
              clear ex_36
              refine lv_iconst (v := 1) hx hb dX11_voyage_137 (by decide) ?_
              refine lv_isub hx hb dX11_voyage_138 ?_
              refine lv_topi (fun x_37 ex_37 => ?_)
              have hx_37 : x_37.toInt = x_36.toInt - 1 := (iv_to ex_37).trans (sb_i rfl (by decide) (by omega) (by omega))
              clear ex_37
              exact W.iret (v := x_37) hx hb hr (fun t ht hW => ⟨⟨x_37, (z_34, fz_31), rfl, ⟨hVz_34, hAfz_31, hRz_34⟩, ⟨by rw [ht]; exact hP, va_K.moved hW.alike hK, hD⟩⟩, hS.F ht⟩) hS.2.2 dX11_voyage_139
            · have dc_22 := c_eq (a := x_21.toInt) (b := 20) rfl (by decide) c_22
              refine lv_aload_n hx hb dX11_voyage_73 rfl (lv_at hl 1 rfl) ?_
              refine lv_bipush (v := (-6)) hx hb dX11_voyage_74 (by decide) ?_
              have hFc := va_free (wc := (mW g0 pq cp z_16 fz_17)) hD hS hA (List.range 48) rfl
              refine va_calli (va_runV (As := [.int (-6)]) (rest := []) ⟨hx, hb, hml, hown, hts⟩ (c_X11_refuse l dC dI H.size g0 pq cp z_16 fz_17 (-6) (by unfold vp_in; decide)) (cwV 1 hts gX11_voyage_X11_refuse rfl rfl rfl (by decide +kernel) ⟨(Nat.le_of_ble_eq_true rfl), (Nat.le_of_ble_eq_true rfl)⟩) (pr_V (r := (RX11, TX11, 63)) hP hK hD 0 11 rfl rfl) rfl rfl hl.1 rfl (lv_room (Nat.le_of_ble_eq_true rfl)) dX11_voyage_76 ⟨(Nat.le_of_ble_eq_true rfl), (Nat.le_of_ble_eq_true rfl)⟩) hS (fun q _ h => hFc q h) hFc (fun r_39 u t H locs ht hvm w_38 hB hz1 hk1 hS => ?_)
              obtain ⟨v_40, fa_41⟩ := u
              obtain ⟨hP1, hK1, hD1⟩ := hB
              rw [ht] at hP1
              have hP : va_P (dC, dI) vwCl (mW g0 pq cp v_40 fa_41) H := hP1
              have hD : va_D A (mW g0 pq cp v_40 fa_41) := hD1.weaken (fun _ _ _ h => hFc _ h)
              clear hP1 hK1 hD1 hk1 hz1 hvm ht hFc
              obtain ⟨rfl, w_38⟩ := w_38
              have hVv_40 : mV v_40 := sm0_V w_38 hVz_16
              have hAv_40 : mA fa_41 := sm0_A w_38 hAz_16
              have g_42 : (v_40 40).toInt = (z_16 40).toInt := congrArg Int32.toInt (congrFun w_38.1 40)
              have hRv_40 : mX [0, 6, 7, 8, 9, 40] v fa v_40 fa_41 := mX.st hRz_16 (mX.s0 w_38) (by decide)
              exact W.iret (v := (-6)) hx hb hr (fun t ht hW => ⟨⟨(-6), (v_40, fa_41), rfl, ⟨hVv_40, hAv_40, hRv_40⟩, ⟨by rw [ht]; exact hP, va_K.moved hW.alike hK, hD⟩⟩, hS.F ht⟩) hS.2.2 dX11_voyage_79
          · have dc_20 := c_nle (a := x_19.toInt) (b := y_15.toInt) rfl rfl c_20
            refine lv_aload_n hx hb dX11_voyage_32 rfl (lv_at hl 1 rfl) ?_
            refine va_get (D := (dC, dI)) (ci := 11) (v := .ref (pq 6)) (C := RX11) (T := TX11) (N := 63) hx hb hts in_wsX11_voyage_X11 hown hK hP 0 rfl rfl 6 (by decide) (hts (.fieldLink RX11 28 "ShipOfficeModel" "ship" "[I") iw_X11_voyage_2) (fun _ h9 => h9) rfl dX11_voyage_33 ?_
            refine lv_iload_n hx hb dX11_voyage_36 rfl (lv_at hl 0 rfl) ?_
            refine va_iald hx hb hK hP 7 6 rfl rfl (vp_in_iff.mpr (by omega)) dX11_voyage_37 ?_
            refine lv_topi (fun x_43 ex_43 => ?_)
            clear ex_43
            refine lv_iload_n hx hb dX11_voyage_38 rfl (lv_at hl 2 rfl) ?_
            refine lv_icmp_ne (tgt := 58) hx hb dX11_voyage_39 (by decide) (fun c_44 => ?_) (fun c_44 => ?_)
            · have dc_44 := c_ne (a := x_43.toInt) (b := x1.toInt) rfl rfl c_44
              obtain ⟨x_45, ex_45⟩ : ∃ zq : Int32, y_15 + 1 = zq := ⟨_, rfl⟩
              have hx_45 : x_45.toInt = y_15.toInt + 1 := (iv_to ex_45).symm.trans (ad_i rfl (by decide) (by omega) (by omega))
              refine lv_iinc (v := x_45) (lv' := [(3, .int x_45), (0, .ref g0), (1, .int x1), (2, .int x2)]) hx hb dX11_voyage_58 hl (k := 0) rfl ex_45 (by decide) rfl (fun ls hl => ?_)
              clear ex_45
              refine lv_goto (tgt := 24) hx hb dX11_voyage_61 (by decide) ?_
              exact ih (n - 1) (by omega) x_45 z_16 fz_17 _ _ ls (by omega) (by omega) hVz_16 hAz_16 hRz_16 hP hD hS (by omega) (lv_sub hl [0, 1, 2, 3] rfl)
            · have dc_44 := c_eq (a := x_43.toInt) (b := x1.toInt) rfl rfl c_44
              refine lv_aload_n hx hb dX11_voyage_42 rfl (lv_at hl 1 rfl) ?_
              refine va_get (D := (dC, dI)) (ci := 11) (v := .ref (pq 9)) (C := RX11) (T := TX11) (N := 63) hx hb hts in_wsX11_voyage_X11 hown hK hP 0 rfl rfl 9 (by decide) (hts (.fieldLink RX11 37 "ShipOfficeModel" "endedOn" "[I") iw_X11_voyage_6) (fun _ h9 => h9) rfl dX11_voyage_43 ?_
              refine lv_iload_n hx hb dX11_voyage_46 rfl (lv_at hl 0 rfl) ?_
              refine va_iald hx hb hK hP 10 9 rfl rfl (vp_in_iff.mpr (by omega)) dX11_voyage_47 ?_
              refine lv_topi (fun x_46 ex_46 => ?_)
              clear ex_46
              refine lv_if_ge (tgt := 58) hx hb dX11_voyage_48 (by decide) (fun c_47 => ?_) (fun c_47 => ?_)
              · have dc_47 := c_le (a := 0) (b := x_46.toInt) (by decide) rfl c_47
                obtain ⟨x_48, ex_48⟩ : ∃ zq : Int32, y_15 + 1 = zq := ⟨_, rfl⟩
                have hx_48 : x_48.toInt = y_15.toInt + 1 := (iv_to ex_48).symm.trans (ad_i rfl (by decide) (by omega) (by omega))
                refine lv_iinc (v := x_48) (lv' := [(3, .int x_48), (0, .ref g0), (1, .int x1), (2, .int x2)]) hx hb dX11_voyage_58 hl (k := 0) rfl ex_48 (by decide) rfl (fun ls hl => ?_)
                clear ex_48
                refine lv_goto (tgt := 24) hx hb dX11_voyage_61 (by decide) ?_
                exact ih (n - 1) (by omega) x_48 z_16 fz_17 _ _ ls (by omega) (by omega) hVz_16 hAz_16 hRz_16 hP hD hS (by omega) (lv_sub hl [0, 1, 2, 3] rfl)
              · have dc_47 := c_nle (a := 0) (b := x_46.toInt) (by decide) rfl c_47
                refine lv_aload_n hx hb dX11_voyage_51 rfl (lv_at hl 1 rfl) ?_
                refine lv_bipush (v := (-3)) hx hb dX11_voyage_52 (by decide) ?_
                have hFc := va_free (wc := (mW g0 pq cp z_16 fz_17)) hD hS hA (List.range 48) rfl
                refine va_calli (va_runV (As := [.int (-3)]) (rest := []) ⟨hx, hb, hml, hown, hts⟩ (c_X11_refuse l dC dI H.size g0 pq cp z_16 fz_17 (-3) (by unfold vp_in; decide)) (cwV 1 hts gX11_voyage_X11_refuse rfl rfl rfl (by decide +kernel) ⟨(Nat.le_of_ble_eq_true rfl), (Nat.le_of_ble_eq_true rfl)⟩) (pr_V (r := (RX11, TX11, 63)) hP hK hD 0 11 rfl rfl) rfl rfl hl.1 rfl (lv_room (Nat.le_of_ble_eq_true rfl)) dX11_voyage_54 ⟨(Nat.le_of_ble_eq_true rfl), (Nat.le_of_ble_eq_true rfl)⟩) hS (fun q _ h => hFc q h) hFc (fun r_50 u t H locs ht hvm w_49 hB hz1 hk1 hS => ?_)
                obtain ⟨v_51, fa_52⟩ := u
                obtain ⟨hP1, hK1, hD1⟩ := hB
                rw [ht] at hP1
                have hP : va_P (dC, dI) vwCl (mW g0 pq cp v_51 fa_52) H := hP1
                have hD : va_D A (mW g0 pq cp v_51 fa_52) := hD1.weaken (fun _ _ _ h => hFc _ h)
                clear hP1 hK1 hD1 hk1 hz1 hvm ht hFc
                obtain ⟨rfl, w_49⟩ := w_49
                have hVv_51 : mV v_51 := sm0_V w_49 hVz_16
                have hAv_51 : mA fa_52 := sm0_A w_49 hAz_16
                have g_53 : (v_51 40).toInt = (z_16 40).toInt := congrArg Int32.toInt (congrFun w_49.1 40)
                have hRv_51 : mX [0, 6, 7, 8, 9, 40] v fa v_51 fa_52 := mX.st hRz_16 (mX.s0 w_49) (by decide)
                exact W.iret (v := (-3)) hx hb hr (fun t ht hW => ⟨⟨(-3), (v_51, fa_52), rfl, ⟨hVv_51, hAv_51, hRv_51⟩, ⟨by rw [ht]; exact hP, va_K.moved hW.alike hK, hD⟩⟩, hS.F ht⟩) hS.2.2 dX11_voyage_57
      have kc_54 : (0 : Int32).toInt = 0 := by decide
      exact cut_14 21 0 v fa _ _ ls (by omega) (by decide) gV gA mX.rf hP hD hS (by omega) (lv_sub hl [0, 1, 2, 3] rfl)
    · have dc_12 := c_eq (a := r_11.toInt) (b := 0) rfl (by decide) c_12
      refine lv_aload_n hx hb dX11_voyage_16 rfl (lv_at hl 0 rfl) ?_
      refine lv_iconst (v := (-1)) hx hb dX11_voyage_17 (by decide) ?_
      have hFc := va_free (wc := (mW g0 pq cp v fa)) hD hS hA (List.range 48) rfl
      refine va_calli (va_runV (As := [.int (-1)]) (rest := []) ⟨hx, hb, hml, hown, hts⟩ (c_X11_refuse l dC dI H.size g0 pq cp v fa (-1) (by unfold vp_in; decide)) (cwV 1 hts gX11_voyage_X11_refuse rfl rfl rfl (by decide +kernel) ⟨(Nat.le_of_ble_eq_true rfl), (Nat.le_of_ble_eq_true rfl)⟩) (pr_V (r := (RX11, TX11, 63)) hP hK hD 0 11 rfl rfl) rfl rfl hl.1 rfl (lv_room (Nat.le_of_ble_eq_true rfl)) dX11_voyage_18 ⟨(Nat.le_of_ble_eq_true rfl), (Nat.le_of_ble_eq_true rfl)⟩) hS (fun q _ h => hFc q h) hFc (fun r_56 u t H locs ht hvm w_55 hB hz1 hk1 hS => ?_)
      obtain ⟨v_57, fa_58⟩ := u
      obtain ⟨hP1, hK1, hD1⟩ := hB
      rw [ht] at hP1
      have hP : va_P (dC, dI) vwCl (mW g0 pq cp v_57 fa_58) H := hP1
      have hD : va_D A (mW g0 pq cp v_57 fa_58) := hD1.weaken (fun _ _ _ h => hFc _ h)
      clear hP1 hK1 hD1 hk1 hz1 hvm ht hFc
      obtain ⟨rfl, w_55⟩ := w_55
      have hVv_57 : mV v_57 := sm0_V w_55 gV
      have hAv_57 : mA fa_58 := sm0_A w_55 gA
      have g_59 : (v_57 40).toInt = (v 40).toInt := congrArg Int32.toInt (congrFun w_55.1 40)
      have hRv_57 : mX [0, 6, 7, 8, 9, 40] v fa v_57 fa_58 := mX.st mX.rf (mX.s0 w_55) (by decide)
      exact W.iret (v := (-1)) hx hb hr (fun t ht hW => ⟨⟨(-1), (v_57, fa_58), rfl, ⟨hVv_57, hAv_57, hRv_57⟩, ⟨by rw [ht]; exact hP, va_K.moved hW.alike hK, hD⟩⟩, hS.F ht⟩) hS.2.2 dX11_voyage_21
set_option maxHeartbeats 4000000 in
set_option maxRecDepth 100000 in
theorem c_X11_ended (l : Launch) (dC : Nat → ClassId) (dI : Nat → Nat → Nat) (sz : Nat) (g0 : Nat) (pq : Nat → Nat) (cp : Nat → ClassId) (v : Nat → Int32) (fa : Nat → Nat → Int32) (gV : mV v) (gA : mA fa) (x1 : Int32) (x2 : Int32) : Met l yX11_ended wsX11_ended ({ frames := 2, cells := 0, slots := 0, locals := 44 }) (va_Pc [.ref g0, .int x1, .int x2] (pcW (dC, dI) (mT cp) (mW g0 pq cp v fa) sz)) (va_Qi (fun (r : Int32) (u : (Nat → Int32) × (Nat → Nat → Int32)) => mV u.1 ∧ mA u.2 ∧ mX [0, 9, 26] v fa u.1 u.2) (fun u t => va_P (dC, dI) vwCl (mW g0 pq cp u.1 u.2) t.heap ∧ va_K (dC, dI) vwCl (mT cp) t ∧ va_D (va_A (mW g0 pq cp v fa) sz) (mW g0 pq cp u.1 u.2)) (va_A (mW g0 pq cp v fa) sz)) 0 0 (va_A (mW g0 pq cp v fa) sz) := by
  refine Met.ofW (cc := cX11_ended) (maxL := 5) (ret := (some .int)) (by decide) rfl ?_
  intro p e s m args below meth c s₁ B hml hv
  obtain ⟨rfl, hsz, hP, hK, hD0⟩ := hv
  have hx := B.exec
  have hb := B.bytes
  have hr := B.returns
  have hts := atoms_spec (ws := wsX11_ended) B.pre
  have hown : s.vm.findClass RX11 = some m.cls := findClass_of_methodNamed B.named
  have hlocks := B.notSynchronized
  subst hsz
  have hD := hD0.self (sz := s.heap.size)
  generalize hAe : va_A (mW g0 pq cp v fa) s.heap.size = A at hD ⊢
  have hA : ∀ q : Nat, s.heap.size ≤ q → A q := fun q h => by rw [← hAe]; exact Or.inr h
  have hS : va_S A s.heap s.heap [] := va_S.rf
  have hP : va_P (dC, dI) vwCl (mW g0 pq cp v fa) s.heap := hP
  have hl := lv_entry ([.ref g0, .int x1, .int x2]) (n := 5) (Nat.le_of_ble_eq_true rfl)
  rw [lg_entry_eq]
  generalize (lg_sl ([.ref g0, .int x1, .int x2]) ++ List.replicate (5 - (lg_sl ([.ref g0, .int x1, .int x2])).length) Slot.unset).toArray = ls at hl ⊢
  have hl : lv_has ls 5 [(0, .ref g0), (1, .int x1), (2, .int x2)] := hl
  refine lv_aload_n hx hb dX11_ended_0 rfl (lv_at hl 0 rfl) ?_
  refine lv_iload_n hx hb dX11_ended_1 rfl (lv_at hl 1 rfl) ?_
  have hFc : ∀ q, va_A [] s.heap.size q → A q := pu_free hS hA
  refine va_calli (va_runV (As := [.int x1]) (rest := []) ⟨hx, hb, hml, hown, hts⟩ (c_X11_isVoyage l dC dI s.heap.size g0 pq cp v fa x1) (cwV 1 hts gX11_ended_X11_isVoyage rfl rfl rfl (by decide +kernel) ⟨(Nat.le_of_ble_eq_true rfl), (Nat.le_of_ble_eq_true rfl)⟩) (pr_V (r := (RX11, TX11, 63)) hP hK hD 0 11 rfl rfl) rfl rfl hl.1 rfl (lv_room (Nat.le_of_ble_eq_true rfl)) dX11_ended_2 ⟨(Nat.le_of_ble_eq_true rfl), (Nat.le_of_ble_eq_true rfl)⟩) hS (fun q _ h => hFc q h) hFc (fun r_2 u t H locs ht hvm w_1 hB hz1 hk1 hS => ?_)
  have hP := pu_keep hP hk1
  clear hk1 hz1 hvm hB ht hFc
  have hbr_2 : 0 ≤ r_2.toInt ∧ r_2.toInt ≤ 1 := iv_of w_1 (isI_i _ _)
  refine lv_if_eq (tgt := 15) hx hb dX11_ended_5 (by decide) (fun c_3 => ?_) (fun c_3 => ?_)
  · have dc_3 := c_eq (a := r_2.toInt) (b := 0) rfl (by decide) c_3
    refine lv_aload_n hx hb dX11_ended_15 rfl (lv_at hl 0 rfl) ?_
    refine lv_iconst (v := (-1)) hx hb dX11_ended_16 (by decide) ?_
    have hFc := va_free (wc := (mW g0 pq cp v fa)) hD hS hA (List.range 48) rfl
    refine va_calli (va_runV (As := [.int (-1)]) (rest := []) ⟨hx, hb, hml, hown, hts⟩ (c_X11_refuse l dC dI H.size g0 pq cp v fa (-1) (by unfold vp_in; decide)) (cwV 1 hts gX11_ended_X11_refuse rfl rfl rfl (by decide +kernel) ⟨(Nat.le_of_ble_eq_true rfl), (Nat.le_of_ble_eq_true rfl)⟩) (pr_V (r := (RX11, TX11, 63)) hP hK hD 0 11 rfl rfl) rfl rfl hl.1 rfl (lv_room (Nat.le_of_ble_eq_true rfl)) dX11_ended_17 ⟨(Nat.le_of_ble_eq_true rfl), (Nat.le_of_ble_eq_true rfl)⟩) hS (fun q _ h => hFc q h) hFc (fun r_5 u t H locs ht hvm w_4 hB hz1 hk1 hS => ?_)
    obtain ⟨v_6, fa_7⟩ := u
    obtain ⟨hP1, hK1, hD1⟩ := hB
    rw [ht] at hP1
    have hP : va_P (dC, dI) vwCl (mW g0 pq cp v_6 fa_7) H := hP1
    have hD : va_D A (mW g0 pq cp v_6 fa_7) := hD1.weaken (fun _ _ _ h => hFc _ h)
    clear hP1 hK1 hD1 hk1 hz1 hvm ht hFc
    obtain ⟨rfl, w_4⟩ := w_4
    have hVv_6 : mV v_6 := sm0_V w_4 gV
    have hAv_6 : mA fa_7 := sm0_A w_4 gA
    have hRv_6 : mX [0, 9, 26] v fa v_6 fa_7 := mX.st mX.rf (mX.s0 w_4) (by decide)
    exact W.iret (v := (-1)) hx hb hr (fun t ht hW => ⟨⟨(-1), (v_6, fa_7), rfl, ⟨hVv_6, hAv_6, hRv_6⟩, ⟨by rw [ht]; exact hP, va_K.moved hW.alike hK, hD⟩⟩, hS.F ht⟩) hS.2.2 dX11_ended_20
  · have dc_3 := c_ne (a := r_2.toInt) (b := 0) rfl (by decide) c_3
    have hi_8 := isI_t w_1 (fun q => c_3 (Int32.toInt_inj.mp q))
    have khi_8 : (v 40).toInt ≤ 20 := (gV 40).2
    refine lv_iload_n hx hb dX11_ended_8 rfl (lv_at hl 2 rfl) ?_
    have hFc : ∀ q, va_A [] H.size q → A q := pu_free hS hA
    have hPc := hP.sub (ws' := []) [] rfl
    have hDc := hD.sub (ws' := []) [] (by decide) rfl
    have hKc := hK.sub (tys' := []) [] rfl
    refine va_calli (va_runS (As := [.int x2]) (rest := []) ⟨hx, hb, hml, hown, hts⟩ (c_X11_isPort l dC dI H.size x2) (va_cwS 1 hts gX11_ended_X11_isPort rfl rfl rfl (by decide +kernel) ⟨(Nat.le_of_ble_eq_true rfl), (Nat.le_of_ble_eq_true rfl)⟩) (pr_S hPc hKc hDc) rfl rfl hl.1 rfl (lv_room (Nat.le_of_ble_eq_true rfl)) dX11_ended_9 ⟨(Nat.le_of_ble_eq_true rfl), (Nat.le_of_ble_eq_true rfl)⟩) hS (fun q _ h => hFc q h) hFc (fun r_10 u t H locs ht hvm w_9 hB hz1 hk1 hS => ?_)
    have hP := pu_keep hP hk1
    clear hk1 hz1 hvm hB ht hFc hPc hDc hKc
    have hbr_10 : 0 ≤ r_10.toInt ∧ r_10.toInt ≤ 1 := iv_of w_9 (isI_i _ _)
    refine lv_if_ne (tgt := 21) hx hb dX11_ended_12 (by decide) (fun c_11 => ?_) (fun c_11 => ?_)
    · have dc_11 := c_ne (a := r_10.toInt) (b := 0) rfl (by decide) c_11
      have hi_12 := isI_t w_9 (fun q => c_11 (Int32.toInt_inj.mp q))
      have khi_12 : (10 : Int32).toInt = 10 := by decide
      refine lv_aload_n hx hb dX11_ended_21 rfl (lv_at hl 0 rfl) ?_
      refine va_get (D := (dC, dI)) (ci := 11) (v := .ref (pq 9)) (C := RX11) (T := TX11) (N := 63) hx hb hts in_wsX11_ended_X11 hown hK hP 0 rfl rfl 9 (by decide) (hts (.fieldLink RX11 37 "ShipOfficeModel" "endedOn" "[I") iw_X11_ended_1) (fun _ h9 => h9) rfl dX11_ended_22 ?_
      refine lv_iload_n hx hb dX11_ended_25 rfl (lv_at hl 1 rfl) ?_
      refine va_iald hx hb hK hP 10 9 rfl rfl (vp_in_iff.mpr (by omega)) dX11_ended_26 ?_
      refine lv_topi (fun x_13 ex_13 => ?_)
      clear ex_13
      refine lv_if_ge (tgt := 39) hx hb dX11_ended_27 (by decide) (fun c_14 => ?_) (fun c_14 => ?_)
      · have dc_14 := c_le (a := 0) (b := x_13.toInt) (by decide) rfl c_14
        refine lv_aload_n hx hb dX11_ended_39 rfl (lv_at hl 0 rfl) ?_
        refine lv_bipush (v := (-3)) hx hb dX11_ended_40 (by decide) ?_
        have hFc := va_free (wc := (mW g0 pq cp v fa)) hD hS hA (List.range 48) rfl
        refine va_calli (va_runV (As := [.int (-3)]) (rest := []) ⟨hx, hb, hml, hown, hts⟩ (c_X11_refuse l dC dI H.size g0 pq cp v fa (-3) (by unfold vp_in; decide)) (cwV 1 hts gX11_ended_X11_refuse rfl rfl rfl (by decide +kernel) ⟨(Nat.le_of_ble_eq_true rfl), (Nat.le_of_ble_eq_true rfl)⟩) (pr_V (r := (RX11, TX11, 63)) hP hK hD 0 11 rfl rfl) rfl rfl hl.1 rfl (lv_room (Nat.le_of_ble_eq_true rfl)) dX11_ended_42 ⟨(Nat.le_of_ble_eq_true rfl), (Nat.le_of_ble_eq_true rfl)⟩) hS (fun q _ h => hFc q h) hFc (fun r_16 u t H locs ht hvm w_15 hB hz1 hk1 hS => ?_)
        obtain ⟨v_17, fa_18⟩ := u
        obtain ⟨hP1, hK1, hD1⟩ := hB
        rw [ht] at hP1
        have hP : va_P (dC, dI) vwCl (mW g0 pq cp v_17 fa_18) H := hP1
        have hD : va_D A (mW g0 pq cp v_17 fa_18) := hD1.weaken (fun _ _ _ h => hFc _ h)
        clear hP1 hK1 hD1 hk1 hz1 hvm ht hFc
        obtain ⟨rfl, w_15⟩ := w_15
        have hVv_17 : mV v_17 := sm0_V w_15 gV
        have hAv_17 : mA fa_18 := sm0_A w_15 gA
        have hRv_17 : mX [0, 9, 26] v fa v_17 fa_18 := mX.st mX.rf (mX.s0 w_15) (by decide)
        exact W.iret (v := (-3)) hx hb hr (fun t ht hW => ⟨⟨(-3), (v_17, fa_18), rfl, ⟨hVv_17, hAv_17, hRv_17⟩, ⟨by rw [ht]; exact hP, va_K.moved hW.alike hK, hD⟩⟩, hS.F ht⟩) hS.2.2 dX11_ended_45
      · have dc_14 := c_nle (a := 0) (b := x_13.toInt) (by decide) rfl c_14
        refine lv_aload_n hx hb dX11_ended_30 rfl (lv_at hl 0 rfl) ?_
        refine lv_iconst (v := 2) hx hb dX11_ended_31 (by decide) ?_
        refine lv_iload_n hx hb dX11_ended_32 rfl (lv_at hl 1 rfl) ?_
        have hFc : ∀ q, va_A [] H.size q → A q := pu_free hS hA
        refine va_calli (va_runV (As := [.int 2, .int x1]) (rest := []) ⟨hx, hb, hml, hown, hts⟩ (c_X11_wasTold l dC dI H.size g0 pq cp v fa (v 41).toNatClampNeg (cn_le (n := 200) (gV 41)) (cn_eq (n := 200) (gV 41)) 2 x1) (cwV 2 hts gX11_ended_X11_wasTold rfl rfl rfl (by decide +kernel) ⟨(Nat.le_of_ble_eq_true rfl), (Nat.le_of_ble_eq_true rfl)⟩) (pr_V (r := (RX11, TX11, 63)) hP hK hD 0 11 rfl rfl) rfl rfl hl.1 rfl (lv_room (Nat.le_of_ble_eq_true rfl)) dX11_ended_33 ⟨(Nat.le_of_ble_eq_true rfl), (Nat.le_of_ble_eq_true rfl)⟩) hS (fun q _ h => hFc q h) hFc (fun r_20 u t H locs ht hvm w_19 hB hz1 hk1 hS => ?_)
        have hP := pu_keep hP hk1
        clear hk1 hz1 hvm hB ht hFc
        have hb_21 : 0 ≤ r_20.toInt ∧ r_20.toInt ≤ 1 := z1_i w_19
        refine lv_if_eq (tgt := 46) hx hb dX11_ended_36 (by decide) (fun c_22 => ?_) (fun c_22 => ?_)
        · have dc_22 := c_eq (a := r_20.toInt) (b := 0) rfl (by decide) c_22
          refine lv_iconst (v := 0) hx hb dX11_ended_46 (by decide) ?_
          refine lv_istore_n (lv' := [(3, .int 0), (0, .ref g0), (1, .int x1), (2, .int x2)]) hx hb dX11_ended_47 rfl hl (by decide) rfl (fun ls hl => ?_)
          refine lv_iconst (v := 0) hx hb dX11_ended_48 (by decide) ?_
          refine lv_istore (lv' := [(4, .int 0), (3, .int 0), (0, .ref g0), (1, .int x1), (2, .int x2)]) hx hb dX11_ended_49 hl (by decide) rfl (fun ls hl => ?_)
          have cut_23 : ∀ (n : Nat) (y_24 : Int32) (y_25 : Int32) (z_26 : Nat → Int32) (fz_27 : Nat → Nat → Int32) (H : Heap) (locs : List Loc) (ls : Array Slot), 60 - y_24.toInt ≤ (n : Int) → (0 ≤ y_24.toInt ∧ y_24.toInt ≤ 60) → mV z_26 → mA fz_27 → mX [0, 9, 26] v fa z_26 fz_27 → va_P (dC, dI) vwCl (mW g0 pq cp z_26 fz_27) H → va_D A (mW g0 pq cp z_26 fz_27) → va_S A s.heap H locs → lv_has ls 5 [(4, .int y_24), (3, .int y_25), (0, .ref g0), (1, .int x1), (2, .int x2)] → W p l e (headSpec wsX11_ended { frames := 2, cells := 0, slots := 0, locals := 44 }).room s m #[Value.ref g0, Value.int x1, Value.int x2] below meth c H locs 0 0 (MQ below (va_Qi (fun (r : Int32) (u : (Nat → Int32) × (Nat → Nat → Int32)) => mV u.1 ∧ mA u.2 ∧ mX [0, 9, 26] v fa u.1 u.2) (fun u t => va_P (dC, dI) vwCl (mW g0 pq cp u.1 u.2) t.heap ∧ va_K (dC, dI) vwCl (mT cp) t ∧ va_D A (mW g0 pq cp u.1 u.2)) A) #[Value.ref g0, Value.int x1, Value.int x2] s 0 0 A) (F0 m 51 ls []) := by
            intro n
            induction n using Nat.strongRecOn with
            | ind n ih =>
              intro y_24 y_25 z_26 fz_27 H locs ls hm hy_24 hVz_26 hAz_26 hRz_26 hP hD hS hl
              refine lv_iload hx hb dX11_ended_51 (lv_at hl 0 rfl) ?_
              refine lv_aload_n hx hb dX11_ended_53 rfl (lv_at hl 2 rfl) ?_
              refine va_get (D := (dC, dI)) (ci := 11) (v := .int (z_26 43)) (C := RX11) (T := TX11) (N := 63) hx hb hts in_wsX11_ended_X11 hown hK hP 0 rfl rfl 43 (by decide) (hts (.fieldLink RX11 168 "ShipOfficeModel" "agreements" "I") iw_X11_ended_2) (fun _ h9 => h9) rfl dX11_ended_54 ?_
              refine lv_topi (fun x_28 ex_28 => ?_)
              have hx_28 : 0 ≤ x_28.toInt ∧ x_28.toInt ≤ 60 := iv_of ex_28 (hVz_26 43)
              clear ex_28
              refine lv_icmp_ge (tgt := 103) hx hb dX11_ended_57 (by decide) (fun c_29 => ?_) (fun c_29 => ?_)
              · have dc_29 := c_le (a := x_28.toInt) (b := y_24.toInt) rfl rfl c_29
                refine lv_aload_n hx hb dX11_ended_103 rfl (lv_at hl 2 rfl) ?_
                refine va_get (D := (dC, dI)) (ci := 11) (v := .ref (pq 9)) (C := RX11) (T := TX11) (N := 63) hx hb hts in_wsX11_ended_X11 hown hK hP 0 rfl rfl 9 (by decide) (hts (.fieldLink RX11 37 "ShipOfficeModel" "endedOn" "[I") iw_X11_ended_1) (fun _ h9 => h9) rfl dX11_ended_104 ?_
                refine lv_iload_n hx hb dX11_ended_107 rfl (lv_at hl 3 rfl) ?_
                refine lv_aload_n hx hb dX11_ended_108 rfl (lv_at hl 2 rfl) ?_
                refine va_get (D := (dC, dI)) (ci := 11) (v := .int (z_26 38)) (C := RX11) (T := TX11) (N := 63) hx hb hts in_wsX11_ended_X11 hown hK hP 0 rfl rfl 38 (by decide) (hts (.fieldLink RX11 171 "ShipOfficeModel" "now" "I") iw_X11_ended_3) (fun _ h9 => h9) rfl dX11_ended_109 ?_
                refine lv_topi (fun x_30 ex_30 => ?_)
                have hx_30 : 0 ≤ x_30.toInt ∧ x_30.toInt ≤ 3000 := iv_of ex_30 (hVz_26 38)
                clear ex_30
                refine va_iast hx hb hK hP hD hS 10 9 rfl rfl (vp_in_iff.mpr (by omega)) dX11_ended_112 (fun H locs hP hD hS => ?_)
                have hP : va_P (dC, dI) vwCl (mW g0 pq cp z_26 (upF fz_27 9 (x1 : Int32).toNatClampNeg x_30)) H := hP
                have hD : va_D A (mW g0 pq cp z_26 (upF fz_27 9 (x1 : Int32).toNatClampNeg x_30)) := hD
                obtain ⟨fz_31, efz_31⟩ : ∃ zq, zq = (upF fz_27 9 (x1 : Int32).toNatClampNeg x_30) := ⟨_, rfl⟩
                rw [← efz_31] at hP hD
                have hAfz_31 : mA fz_31 := by rw [efz_31]; exact mA_upF (lo := -2147483648) (hi := 2147483647) hAz_26 rfl rfl (iv_all _)
                have hRfz_31 : mX [0, 9, 26] v fa z_26 fz_31 := by rw [efz_31]; exact mX.uF hRz_26 (by decide)
                refine lv_iload_n hx hb dX11_ended_113 rfl (lv_at hl 1 rfl) ?_
                exact W.iret (v := y_25) hx hb hr (fun t ht hW => ⟨⟨y_25, (z_26, fz_31), rfl, ⟨hVz_26, hAfz_31, hRfz_31⟩, ⟨by rw [ht]; exact hP, va_K.moved hW.alike hK, hD⟩⟩, hS.F ht⟩) hS.2.2 dX11_ended_114
              · have dc_29 := c_nle (a := x_28.toInt) (b := y_24.toInt) rfl rfl c_29
                refine lv_aload_n hx hb dX11_ended_60 rfl (lv_at hl 2 rfl) ?_
                refine va_get (D := (dC, dI)) (ci := 11) (v := .ref (pq 21)) (C := RX11) (T := TX11) (N := 63) hx hb hts in_wsX11_ended_X11 hown hK hP 0 rfl rfl 21 (by decide) (hts (.fieldLink RX11 73 "ShipOfficeModel" "voyage" "[I") iw_X11_ended_4) (fun _ h9 => h9) rfl dX11_ended_61 ?_
                refine lv_iload hx hb dX11_ended_64 (lv_at hl 0 rfl) ?_
                refine va_iald hx hb hK hP 22 21 rfl rfl (vp_in_iff.mpr (by omega)) dX11_ended_66 ?_
                refine lv_topi (fun x_32 ex_32 => ?_)
                have hx_32 : 0 ≤ x_32.toInt ∧ x_32.toInt ≤ 19 := iv_of ex_32 (hAz_26 21 _)
                clear ex_32
                refine lv_iload_n hx hb dX11_ended_67 rfl (lv_at hl 3 rfl) ?_
                refine lv_icmp_ne (tgt := 97) hx hb dX11_ended_68 (by decide) (fun c_33 => ?_) (fun c_33 => ?_)
                · have dc_33 := c_ne (a := x_32.toInt) (b := x1.toInt) rfl rfl c_33
                  obtain ⟨x_34, ex_34⟩ : ∃ zq : Int32, y_24 + 1 = zq := ⟨_, rfl⟩
                  have hx_34 : x_34.toInt = y_24.toInt + 1 := (iv_to ex_34).symm.trans (ad_i rfl (by decide) (by omega) (by omega))
                  refine lv_iinc (v := x_34) (lv' := [(4, .int x_34), (3, .int y_25), (0, .ref g0), (1, .int x1), (2, .int x2)]) hx hb dX11_ended_97 hl (k := 0) rfl ex_34 (by decide) rfl (fun ls hl => ?_)
                  clear ex_34
                  refine lv_goto (tgt := 51) hx hb dX11_ended_100 (by decide) ?_
                  exact ih (n - 1) (by omega) x_34 y_25 z_26 fz_27 _ _ ls (by omega) (by omega) hVz_26 hAz_26 hRz_26 hP hD hS (lv_sub hl [0, 1, 2, 3, 4] rfl)
                · have dc_33 := c_eq (a := x_32.toInt) (b := x1.toInt) rfl rfl c_33
                  refine lv_aload_n hx hb dX11_ended_71 rfl (lv_at hl 2 rfl) ?_
                  refine lv_iload hx hb dX11_ended_72 (lv_at hl 0 rfl) ?_
                  have hFc : ∀ q, va_A [] H.size q → A q := pu_free hS hA
                  refine va_calli (va_runV (As := [.int y_24]) (rest := []) ⟨hx, hb, hml, hown, hts⟩ (c_X11_goesOn l dC dI H.size g0 pq cp z_26 fz_27 (z_26 41).toNatClampNeg (cn_le (n := 200) (hVz_26 41)) (cn_eq (n := 200) (hVz_26 41)) y_24 (vp_in_iff.mpr (by omega))) (cwV 1 hts gX11_ended_X11_goesOn rfl rfl rfl (by decide +kernel) ⟨(Nat.le_of_ble_eq_true rfl), (Nat.le_of_ble_eq_true rfl)⟩) (pr_V (r := (RX11, TX11, 63)) hP hK hD 0 11 rfl rfl) rfl rfl hl.1 rfl (lv_room (Nat.le_of_ble_eq_true rfl)) dX11_ended_74 ⟨(Nat.le_of_ble_eq_true rfl), (Nat.le_of_ble_eq_true rfl)⟩) hS (fun q _ h => hFc q h) hFc (fun r_36 u t H locs ht hvm w_35 hB hz1 hk1 hS => ?_)
                  have hP := pu_keep hP hk1
                  clear hk1 hz1 hvm hB ht hFc
                  have hb_37 : 0 ≤ r_36.toInt ∧ r_36.toInt ≤ 1 := z1_i w_35
                  refine lv_if_ne (tgt := 83) hx hb dX11_ended_77 (by decide) (fun c_38 => ?_) (fun c_38 => ?_)
                  · have dc_38 := c_ne (a := r_36.toInt) (b := 0) rfl (by decide) c_38
                    refine lv_aload_n hx hb dX11_ended_83 rfl (lv_at hl 2 rfl) ?_
                    refine va_get (D := (dC, dI)) (ci := 11) (v := .ref (pq 26)) (C := RX11) (T := TX11) (N := 63) hx hb hts in_wsX11_ended_X11 hown hK hP 0 rfl rfl 26 (by decide) (hts (.fieldLink RX11 88 "ShipOfficeModel" "offOn" "[I") iw_X11_ended_5) (fun _ h9 => h9) rfl dX11_ended_84 ?_
                    refine lv_iload hx hb dX11_ended_87 (lv_at hl 0 rfl) ?_
                    refine lv_aload_n hx hb dX11_ended_89 rfl (lv_at hl 2 rfl) ?_
                    refine va_get (D := (dC, dI)) (ci := 11) (v := .int (z_26 38)) (C := RX11) (T := TX11) (N := 63) hx hb hts in_wsX11_ended_X11 hown hK hP 0 rfl rfl 38 (by decide) (hts (.fieldLink RX11 171 "ShipOfficeModel" "now" "I") iw_X11_ended_3) (fun _ h9 => h9) rfl dX11_ended_90 ?_
                    refine lv_topi (fun x_39 ex_39 => ?_)
                    have hx_39 : 0 ≤ x_39.toInt ∧ x_39.toInt ≤ 3000 := iv_of ex_39 (hVz_26 38)
                    clear ex_39
                    refine va_iast hx hb hK hP hD hS 27 26 rfl rfl (vp_in_iff.mpr (by omega)) dX11_ended_93 (fun H locs hP hD hS => ?_)
                    have hP : va_P (dC, dI) vwCl (mW g0 pq cp z_26 (upF fz_27 26 (y_24 : Int32).toNatClampNeg x_39)) H := hP
                    have hD : va_D A (mW g0 pq cp z_26 (upF fz_27 26 (y_24 : Int32).toNatClampNeg x_39)) := hD
                    obtain ⟨fz_40, efz_40⟩ : ∃ zq, zq = (upF fz_27 26 (y_24 : Int32).toNatClampNeg x_39) := ⟨_, rfl⟩
                    rw [← efz_40] at hP hD
                    have hAfz_40 : mA fz_40 := by rw [efz_40]; exact mA_upF (lo := -2147483648) (hi := 2147483647) hAz_26 rfl rfl (iv_all _)
                    have hRfz_40 : mX [0, 9, 26] v fa z_26 fz_40 := by rw [efz_40]; exact mX.uF hRz_26 (by decide)
                    obtain ⟨x_41, ex_41⟩ : ∃ zq : Int32, y_25 + 1 = zq := ⟨_, rfl⟩
                    refine lv_iinc (v := x_41) (lv' := [(3, .int x_41), (4, .int y_24), (0, .ref g0), (1, .int x1), (2, .int x2)]) hx hb dX11_ended_94 hl (k := 1) rfl ex_41 (by decide) rfl (fun ls hl => ?_)
                    clear ex_41
                    obtain ⟨x_42, ex_42⟩ : ∃ zq : Int32, y_24 + 1 = zq := ⟨_, rfl⟩
                    have hx_42 : x_42.toInt = y_24.toInt + 1 := (iv_to ex_42).symm.trans (ad_i rfl (by decide) (by omega) (by omega))
                    refine lv_iinc (v := x_42) (lv' := [(4, .int x_42), (3, .int x_41), (0, .ref g0), (1, .int x1), (2, .int x2)]) hx hb dX11_ended_97 hl (k := 1) rfl ex_42 (by decide) rfl (fun ls hl => ?_)
                    clear ex_42
                    refine lv_goto (tgt := 51) hx hb dX11_ended_100 (by decide) ?_
                    exact ih (n - 1) (by omega) x_42 x_41 z_26 fz_40 _ _ ls (by omega) (by omega) hVz_26 hAfz_40 hRfz_40 hP hD hS (lv_sub hl [0, 1, 2, 3, 4] rfl)
                  · have dc_38 := c_eq (a := r_36.toInt) (b := 0) rfl (by decide) c_38
                    refine lv_goto (tgt := 97) hx hb dX11_ended_80 (by decide) ?_
                    obtain ⟨x_43, ex_43⟩ : ∃ zq : Int32, y_24 + 1 = zq := ⟨_, rfl⟩
                    have hx_43 : x_43.toInt = y_24.toInt + 1 := (iv_to ex_43).symm.trans (ad_i rfl (by decide) (by omega) (by omega))
                    refine lv_iinc (v := x_43) (lv' := [(4, .int x_43), (3, .int y_25), (0, .ref g0), (1, .int x1), (2, .int x2)]) hx hb dX11_ended_97 hl (k := 0) rfl ex_43 (by decide) rfl (fun ls hl => ?_)
                    clear ex_43
                    refine lv_goto (tgt := 51) hx hb dX11_ended_100 (by decide) ?_
                    exact ih (n - 1) (by omega) x_43 y_25 z_26 fz_27 _ _ ls (by omega) (by omega) hVz_26 hAz_26 hRz_26 hP hD hS (lv_sub hl [0, 1, 2, 3, 4] rfl)
          have kc_44 : (0 : Int32).toInt = 0 := by decide
          exact cut_23 61 0 0 v fa _ _ ls (by omega) (by decide) gV gA mX.rf hP hD hS (lv_sub hl [0, 1, 2, 3, 4] rfl)
        · have dc_22 := c_ne (a := r_20.toInt) (b := 0) rfl (by decide) c_22
          refine lv_aload_n hx hb dX11_ended_39 rfl (lv_at hl 0 rfl) ?_
          refine lv_bipush (v := (-3)) hx hb dX11_ended_40 (by decide) ?_
          have hFc := va_free (wc := (mW g0 pq cp v fa)) hD hS hA (List.range 48) rfl
          refine va_calli (va_runV (As := [.int (-3)]) (rest := []) ⟨hx, hb, hml, hown, hts⟩ (c_X11_refuse l dC dI H.size g0 pq cp v fa (-3) (by unfold vp_in; decide)) (cwV 1 hts gX11_ended_X11_refuse rfl rfl rfl (by decide +kernel) ⟨(Nat.le_of_ble_eq_true rfl), (Nat.le_of_ble_eq_true rfl)⟩) (pr_V (r := (RX11, TX11, 63)) hP hK hD 0 11 rfl rfl) rfl rfl hl.1 rfl (lv_room (Nat.le_of_ble_eq_true rfl)) dX11_ended_42 ⟨(Nat.le_of_ble_eq_true rfl), (Nat.le_of_ble_eq_true rfl)⟩) hS (fun q _ h => hFc q h) hFc (fun r_46 u t H locs ht hvm w_45 hB hz1 hk1 hS => ?_)
          obtain ⟨v_47, fa_48⟩ := u
          obtain ⟨hP1, hK1, hD1⟩ := hB
          rw [ht] at hP1
          have hP : va_P (dC, dI) vwCl (mW g0 pq cp v_47 fa_48) H := hP1
          have hD : va_D A (mW g0 pq cp v_47 fa_48) := hD1.weaken (fun _ _ _ h => hFc _ h)
          clear hP1 hK1 hD1 hk1 hz1 hvm ht hFc
          obtain ⟨rfl, w_45⟩ := w_45
          have hVv_47 : mV v_47 := sm0_V w_45 gV
          have hAv_47 : mA fa_48 := sm0_A w_45 gA
          have hRv_47 : mX [0, 9, 26] v fa v_47 fa_48 := mX.st mX.rf (mX.s0 w_45) (by decide)
          exact W.iret (v := (-3)) hx hb hr (fun t ht hW => ⟨⟨(-3), (v_47, fa_48), rfl, ⟨hVv_47, hAv_47, hRv_47⟩, ⟨by rw [ht]; exact hP, va_K.moved hW.alike hK, hD⟩⟩, hS.F ht⟩) hS.2.2 dX11_ended_45
    · have dc_11 := c_eq (a := r_10.toInt) (b := 0) rfl (by decide) c_11
      refine lv_aload_n hx hb dX11_ended_15 rfl (lv_at hl 0 rfl) ?_
      refine lv_iconst (v := (-1)) hx hb dX11_ended_16 (by decide) ?_
      have hFc := va_free (wc := (mW g0 pq cp v fa)) hD hS hA (List.range 48) rfl
      refine va_calli (va_runV (As := [.int (-1)]) (rest := []) ⟨hx, hb, hml, hown, hts⟩ (c_X11_refuse l dC dI H.size g0 pq cp v fa (-1) (by unfold vp_in; decide)) (cwV 1 hts gX11_ended_X11_refuse rfl rfl rfl (by decide +kernel) ⟨(Nat.le_of_ble_eq_true rfl), (Nat.le_of_ble_eq_true rfl)⟩) (pr_V (r := (RX11, TX11, 63)) hP hK hD 0 11 rfl rfl) rfl rfl hl.1 rfl (lv_room (Nat.le_of_ble_eq_true rfl)) dX11_ended_17 ⟨(Nat.le_of_ble_eq_true rfl), (Nat.le_of_ble_eq_true rfl)⟩) hS (fun q _ h => hFc q h) hFc (fun r_50 u t H locs ht hvm w_49 hB hz1 hk1 hS => ?_)
      obtain ⟨v_51, fa_52⟩ := u
      obtain ⟨hP1, hK1, hD1⟩ := hB
      rw [ht] at hP1
      have hP : va_P (dC, dI) vwCl (mW g0 pq cp v_51 fa_52) H := hP1
      have hD : va_D A (mW g0 pq cp v_51 fa_52) := hD1.weaken (fun _ _ _ h => hFc _ h)
      clear hP1 hK1 hD1 hk1 hz1 hvm ht hFc
      obtain ⟨rfl, w_49⟩ := w_49
      have hVv_51 : mV v_51 := sm0_V w_49 gV
      have hAv_51 : mA fa_52 := sm0_A w_49 gA
      have hRv_51 : mX [0, 9, 26] v fa v_51 fa_52 := mX.st mX.rf (mX.s0 w_49) (by decide)
      exact W.iret (v := (-1)) hx hb hr (fun t ht hW => ⟨⟨(-1), (v_51, fa_52), rfl, ⟨hVv_51, hAv_51, hRv_51⟩, ⟨by rw [ht]; exact hP, va_K.moved hW.alike hK, hD⟩⟩, hS.F ht⟩) hS.2.2 dX11_ended_20
set_option maxHeartbeats 4000000 in
set_option maxRecDepth 100000 in
theorem c_X11_feed (l : Launch) (dC : Nat → ClassId) (dI : Nat → Nat → Nat) (sz : Nat) (g0 : Nat) (pq : Nat → Nat) (cp : Nat → ClassId) (v : Nat → Int32) (fa : Nat → Nat → Int32) (gV : mV v) (gA : mA fa) (x1 : Int32) (x2 : Int64) : Met l yX11_feed wsX11_feed ({ frames := 1, cells := 0, slots := 0, locals := 21 }) (va_Pc [.ref g0, .int x1, .long x2] (pcW (dC, dI) (mT cp) (mW g0 pq cp v fa) sz)) (va_Qi (fun (r : Int32) (u : (Nat → Int32) × (Nat → Nat → Int32)) => mV u.1 ∧ mA u.2 ∧ mX [0, 44, 46] v fa u.1 u.2) (fun u t => va_P (dC, dI) vwCl (mW g0 pq cp u.1 u.2) t.heap ∧ va_K (dC, dI) vwCl (mT cp) t ∧ va_D (va_A (mW g0 pq cp v fa) sz) (mW g0 pq cp u.1 u.2)) (va_A (mW g0 pq cp v fa) sz)) 0 0 (va_A (mW g0 pq cp v fa) sz) := by
  refine Met.ofW (cc := cX11_feed) (maxL := 5) (ret := (some .int)) (by decide) rfl ?_
  intro p e s m args below meth c s₁ B hml hv
  obtain ⟨rfl, hsz, hP, hK, hD0⟩ := hv
  have hx := B.exec
  have hb := B.bytes
  have hr := B.returns
  have hts := atoms_spec (ws := wsX11_feed) B.pre
  have hown : s.vm.findClass RX11 = some m.cls := findClass_of_methodNamed B.named
  have hlocks := B.notSynchronized
  subst hsz
  have hD := hD0.self (sz := s.heap.size)
  generalize hAe : va_A (mW g0 pq cp v fa) s.heap.size = A at hD ⊢
  have hA : ∀ q : Nat, s.heap.size ≤ q → A q := fun q h => by rw [← hAe]; exact Or.inr h
  have hS : va_S A s.heap s.heap [] := va_S.rf
  have hP : va_P (dC, dI) vwCl (mW g0 pq cp v fa) s.heap := hP
  have hl := lv_entry ([.ref g0, .int x1, .long x2]) (n := 5) (Nat.le_of_ble_eq_true rfl)
  rw [lg_entry_eq]
  generalize (lg_sl ([.ref g0, .int x1, .long x2]) ++ List.replicate (5 - (lg_sl ([.ref g0, .int x1, .long x2])).length) Slot.unset).toArray = ls at hl ⊢
  have hl : lv_has ls 5 [(0, .ref g0), (1, .int x1), (2, .long x2)] := hl
  refine lv_iload_n hx hb dX11_feed_0 rfl (lv_at hl 1 rfl) ?_
  refine lv_iconst (v := 1) hx hb dX11_feed_1 (by decide) ?_
  refine lv_icmp_ge (tgt := 12) hx hb dX11_feed_2 (by decide) (fun c_1 => ?_) (fun c_1 => ?_)
  · have dc_1 := c_le (a := 1) (b := x1.toInt) (by decide) rfl c_1
    refine lv_iload_n hx hb dX11_feed_12 rfl (lv_at hl 1 rfl) ?_
    refine lv_bipush (v := 8) hx hb dX11_feed_13 (by decide) ?_
    refine lv_icmp_gt (tgt := 29) hx hb dX11_feed_15 (by decide) (fun c_2 => ?_) (fun c_2 => ?_)
    · have dc_2 := c_lt (a := 8) (b := x1.toInt) (by decide) rfl c_2
      refine lv_aload_n hx hb dX11_feed_29 rfl (lv_at hl 0 rfl) ?_
      refine lv_bipush (v := (-6)) hx hb dX11_feed_30 (by decide) ?_
      have hFc := va_free (wc := (mW g0 pq cp v fa)) hD hS hA (List.range 48) rfl
      refine va_calli (va_runV (As := [.int (-6)]) (rest := []) ⟨hx, hb, hml, hown, hts⟩ (c_X11_refuse l dC dI s.heap.size g0 pq cp v fa (-6) (by unfold vp_in; decide)) (cwV 1 hts gX11_feed_X11_refuse rfl rfl rfl (by decide +kernel) ⟨(Nat.le_of_ble_eq_true rfl), (Nat.le_of_ble_eq_true rfl)⟩) (pr_V (r := (RX11, TX11, 63)) hP hK hD 0 11 rfl rfl) rfl rfl hl.1 rfl (lv_room (Nat.le_of_ble_eq_true rfl)) dX11_feed_32 ⟨(Nat.le_of_ble_eq_true rfl), (Nat.le_of_ble_eq_true rfl)⟩) hS (fun q _ h => hFc q h) hFc (fun r_4 u t H locs ht hvm w_3 hB hz1 hk1 hS => ?_)
      obtain ⟨v_5, fa_6⟩ := u
      obtain ⟨hP1, hK1, hD1⟩ := hB
      rw [ht] at hP1
      have hP : va_P (dC, dI) vwCl (mW g0 pq cp v_5 fa_6) H := hP1
      have hD : va_D A (mW g0 pq cp v_5 fa_6) := hD1.weaken (fun _ _ _ h => hFc _ h)
      clear hP1 hK1 hD1 hk1 hz1 hvm ht hFc
      obtain ⟨rfl, w_3⟩ := w_3
      have hVv_5 : mV v_5 := sm0_V w_3 gV
      have hAv_5 : mA fa_6 := sm0_A w_3 gA
      have g_7 : (v_5 46).toInt = (v 46).toInt := congrArg Int32.toInt (congrFun w_3.1 46)
      have hRv_5 : mX [0, 44, 46] v fa v_5 fa_6 := mX.st mX.rf (mX.s0 w_3) (by decide)
      exact W.iret (v := (-6)) hx hb hr (fun t ht hW => ⟨⟨(-6), (v_5, fa_6), rfl, ⟨hVv_5, hAv_5, hRv_5⟩, ⟨by rw [ht]; exact hP, va_K.moved hW.alike hK, hD⟩⟩, hS.F ht⟩) hS.2.2 dX11_feed_35
    · have dc_2 := c_nlt (a := 8) (b := x1.toInt) (by decide) rfl c_2
      refine lv_aload_n hx hb dX11_feed_18 rfl (lv_at hl 0 rfl) ?_
      refine va_get (D := (dC, dI)) (ci := 11) (v := .int (v 46)) (C := RX11) (T := TX11) (N := 63) hx hb hts in_wsX11_feed_X11 hown hK hP 0 rfl rfl 46 (by decide) (hts (.fieldLink RX11 205 "ShipOfficeModel" "taped" "I") iw_X11_feed_1) (fun _ h9 => h9) rfl dX11_feed_19 ?_
      refine lv_topi (fun x_8 ex_8 => ?_)
      have hx_8 : 0 ≤ x_8.toInt ∧ x_8.toInt ≤ 60 := iv_of ex_8 (gV 46)
      have gx_8 : x_8.toInt = (v 46).toInt := iv_to ex_8
      clear ex_8
      refine lv_iload_n hx hb dX11_feed_22 rfl (lv_at hl 1 rfl) ?_
      refine lv_iadd hx hb dX11_feed_23 ?_
      refine lv_topi (fun x_9 ex_9 => ?_)
      have hx_9 : x_9.toInt = x_8.toInt + x1.toInt := (iv_to ex_9).trans (ad_i rfl rfl (by omega) (by omega))
      clear ex_9
      refine lv_bipush (v := 60) hx hb dX11_feed_24 (by decide) ?_
      refine lv_icmp_le (tgt := 36) hx hb dX11_feed_26 (by decide) (fun c_10 => ?_) (fun c_10 => ?_)
      · have dc_10 := c_le (a := x_9.toInt) (b := 60) rfl (by decide) c_10
        refine lv_iconst (v := 0) hx hb dX11_feed_36 (by decide) ?_
        refine lv_istore (lv' := [(4, .int 0), (0, .ref g0), (1, .int x1), (2, .long x2)]) hx hb dX11_feed_37 hl (by decide) rfl (fun ls hl => ?_)
        have cut_11 : ∀ (n : Nat) (y_12 : Int32) (z_13 : Nat → Int32) (fz_14 : Nat → Nat → Int32) (H : Heap) (locs : List Loc) (ls : Array Slot), 8 - y_12.toInt ≤ (n : Int) → (0 ≤ y_12.toInt ∧ y_12.toInt ≤ 8) → (z_13 46).toInt + x1.toInt - y_12.toInt ≤ 60 → mV z_13 → mA fz_14 → mX [0, 44, 46] v fa z_13 fz_14 → va_P (dC, dI) vwCl (mW g0 pq cp z_13 fz_14) H → va_D A (mW g0 pq cp z_13 fz_14) → va_S A s.heap H locs → lv_has ls 5 [(4, .int y_12), (0, .ref g0), (1, .int x1), (2, .long x2)] → W p l e (headSpec wsX11_feed { frames := 1, cells := 0, slots := 0, locals := 21 }).room s m #[Value.ref g0, Value.int x1, Value.long x2] below meth c H locs 0 0 (MQ below (va_Qi (fun (r : Int32) (u : (Nat → Int32) × (Nat → Nat → Int32)) => mV u.1 ∧ mA u.2 ∧ mX [0, 44, 46] v fa u.1 u.2) (fun u t => va_P (dC, dI) vwCl (mW g0 pq cp u.1 u.2) t.heap ∧ va_K (dC, dI) vwCl (mT cp) t ∧ va_D A (mW g0 pq cp u.1 u.2)) A) #[Value.ref g0, Value.int x1, Value.long x2] s 0 0 A) (F0 m 39 ls []) := by
          intro n
          induction n using Nat.strongRecOn with
          | ind n ih =>
            intro y_12 z_13 fz_14 H locs ls hm hy_12 hq0_cut_11 hVz_13 hAz_13 hRz_13 hP hD hS hl
            refine lv_iload hx hb dX11_feed_39 (lv_at hl 0 rfl) ?_
            refine lv_iload_n hx hb dX11_feed_41 rfl (lv_at hl 2 rfl) ?_
            refine lv_icmp_ge (tgt := 82) hx hb dX11_feed_42 (by decide) (fun c_15 => ?_) (fun c_15 => ?_)
            · have dc_15 := c_le (a := x1.toInt) (b := y_12.toInt) rfl rfl c_15
              refine lv_aload_n hx hb dX11_feed_82 rfl (lv_at hl 1 rfl) ?_
              refine va_get (D := (dC, dI)) (ci := 11) (v := .int (z_13 46)) (C := RX11) (T := TX11) (N := 63) hx hb hts in_wsX11_feed_X11 hown hK hP 0 rfl rfl 46 (by decide) (hts (.fieldLink RX11 205 "ShipOfficeModel" "taped" "I") iw_X11_feed_1) (fun _ h9 => h9) rfl dX11_feed_83 ?_
              refine lv_topi (fun x_16 ex_16 => ?_)
              have hx_16 : 0 ≤ x_16.toInt ∧ x_16.toInt ≤ 60 := iv_of ex_16 (hVz_13 46)
              have gx_16 : x_16.toInt = (z_13 46).toInt := iv_to ex_16
              clear ex_16
              exact W.iret (v := x_16) hx hb hr (fun t ht hW => ⟨⟨x_16, (z_13, fz_14), rfl, ⟨hVz_13, hAz_13, hRz_13⟩, ⟨by rw [ht]; exact hP, va_K.moved hW.alike hK, hD⟩⟩, hS.F ht⟩) hS.2.2 dX11_feed_86
            · have dc_15 := c_nle (a := x1.toInt) (b := y_12.toInt) rfl rfl c_15
              refine lv_aload_n hx hb dX11_feed_45 rfl (lv_at hl 1 rfl) ?_
              refine va_get (D := (dC, dI)) (ci := 11) (v := .ref (pq 44)) (C := RX11) (T := TX11) (N := 63) hx hb hts in_wsX11_feed_X11 hown hK hP 0 rfl rfl 44 (by decide) (hts (.fieldLink RX11 125 "ShipOfficeModel" "tape" "[I") iw_X11_feed_2) (fun _ h9 => h9) rfl dX11_feed_46 ?_
              refine lv_aload_n hx hb dX11_feed_49 rfl (lv_at hl 1 rfl) ?_
              refine va_get (D := (dC, dI)) (ci := 11) (v := .int (z_13 46)) (C := RX11) (T := TX11) (N := 63) hx hb hts in_wsX11_feed_X11 hown hK hP 0 rfl rfl 46 (by decide) (hts (.fieldLink RX11 205 "ShipOfficeModel" "taped" "I") iw_X11_feed_1) (fun _ h9 => h9) rfl dX11_feed_50 ?_
              refine lv_topi (fun x_17 ex_17 => ?_)
              have hx_17 : 0 ≤ x_17.toInt ∧ x_17.toInt ≤ 60 := iv_of ex_17 (hVz_13 46)
              have gx_17 : x_17.toInt = (z_13 46).toInt := iv_to ex_17
              clear ex_17
              refine lv_lload_n hx hb dX11_feed_53 rfl (lv_at hl 3 rfl) ?_
              refine lv_bipush (v := 8) hx hb dX11_feed_54 (by decide) ?_
              refine lv_iload hx hb dX11_feed_56 (lv_at hl 0 rfl) ?_
              refine lv_imul hx hb dX11_feed_58 ?_
              refine lv_topi (fun x_18 ex_18 => ?_)
              have hx_18 : x_18.toInt = 8 * y_12.toInt := (iv_to ex_18).trans (mu_i (by decide) rfl (by omega) (by omega))
              clear ex_18
              refine lv_lshr (v := x2 >>> ((x_18 : Int32).toInt64 &&& 63)) hx hb dX11_feed_59 rfl ?_
              refine lv_ldc2 (v := 255) hx hb hown (hts (.constantLong RX11 208 (255)) (by decide +kernel)) dX11_feed_60 ?_
              refine lv_land hx hb dX11_feed_63 ?_
              refine lv_l2i (v := ((x2 >>> ((x_18 : Int32).toInt64 &&& 63)) &&& 255 : Int64).toInt32) hx hb dX11_feed_64 rfl ?_
              refine lv_topi (fun x_19 ex_19 => ?_)
              clear ex_19
              refine va_iast hx hb hK hP hD hS 39 38 rfl rfl (vp_in_iff.mpr (by omega)) dX11_feed_65 (fun H locs hP hD hS => ?_)
              have hP : va_P (dC, dI) vwCl (mW g0 pq cp z_13 (upF fz_14 44 (x_17 : Int32).toNatClampNeg x_19)) H := hP
              have hD : va_D A (mW g0 pq cp z_13 (upF fz_14 44 (x_17 : Int32).toNatClampNeg x_19)) := hD
              obtain ⟨fz_20, efz_20⟩ : ∃ zq, zq = (upF fz_14 44 (x_17 : Int32).toNatClampNeg x_19) := ⟨_, rfl⟩
              rw [← efz_20] at hP hD
              have hAfz_20 : mA fz_20 := by rw [efz_20]; exact mA_upF (lo := -2147483648) (hi := 2147483647) hAz_13 rfl rfl (iv_all _)
              have hRfz_20 : mX [0, 44, 46] v fa z_13 fz_20 := by rw [efz_20]; exact mX.uF hRz_13 (by decide)
              refine lv_aload_n hx hb dX11_feed_66 rfl (lv_at hl 1 rfl) ?_
              refine lv_dup hx hb dX11_feed_67 rfl ?_
              refine va_get (D := (dC, dI)) (ci := 11) (v := .int (z_13 46)) (C := RX11) (T := TX11) (N := 63) hx hb hts in_wsX11_feed_X11 hown hK hP 0 rfl rfl 46 (by decide) (hts (.fieldLink RX11 205 "ShipOfficeModel" "taped" "I") iw_X11_feed_1) (fun _ h9 => h9) rfl dX11_feed_68 ?_
              refine lv_topi (fun x_21 ex_21 => ?_)
              have hx_21 : 0 ≤ x_21.toInt ∧ x_21.toInt ≤ 60 := iv_of ex_21 (hVz_13 46)
              have gx_21 : x_21.toInt = (z_13 46).toInt := iv_to ex_21
              clear ex_21
              refine lv_iconst (v := 1) hx hb dX11_feed_71 (by decide) ?_
              refine lv_iadd hx hb dX11_feed_72 ?_
              refine lv_topi (fun x_22 ex_22 => ?_)
              have hx_22 : x_22.toInt = x_21.toInt + 1 := (iv_to ex_22).trans (ad_i rfl (by decide) (by omega) (by omega))
              clear ex_22
              refine va_put (D := (dC, dI)) (ci := 11) (v := .int x_22) (ty := .int) (C := RX11) (T := TX11) (N := 63) hx hb hts in_wsX11_feed_X11 tyX11 tyX11_ok nmX11 hown hK hP hD hS 0 rfl rfl 46 (by decide) (hts (.fieldLink RX11 205 "ShipOfficeModel" "taped" "I") iw_X11_feed_1) (fun _ h9 => h9) rfl (by decide +kernel) rfl rfl (Nat.le_of_ble_eq_true rfl) dX11_feed_73 (fun H locs hP hD hS => ?_)
              have hP : va_P (dC, dI) vwCl (mW g0 pq cp (upd z_13 46 x_22) fz_20) H := hP
              have hD : va_D A (mW g0 pq cp (upd z_13 46 x_22) fz_20) := hD
              obtain ⟨z_23, ez_23⟩ : ∃ zq, zq = (upd z_13 46 x_22) := ⟨_, rfl⟩
              rw [← ez_23] at hP hD
              have hVz_23 : mV z_23 := by rw [ez_23]; exact mV_upd (lo := 0) (hi := 60) hVz_13 rfl rfl (by omega)
              have hRz_23 : mX [0, 44, 46] v fa z_23 fz_20 := by rw [ez_23]; exact mX.up hRfz_20 (by decide)
              have g_24 : (z_23 46).toInt = x_22.toInt := by rw [ez_23, show upd z_13 46 x_22 46 = x_22 from if_pos rfl]
              obtain ⟨x_25, ex_25⟩ : ∃ zq : Int32, y_12 + 1 = zq := ⟨_, rfl⟩
              have hx_25 : x_25.toInt = y_12.toInt + 1 := (iv_to ex_25).symm.trans (ad_i rfl (by decide) (by omega) (by omega))
              refine lv_iinc (v := x_25) (lv' := [(4, .int x_25), (0, .ref g0), (1, .int x1), (2, .long x2)]) hx hb dX11_feed_76 hl (k := 0) rfl ex_25 (by decide) rfl (fun ls hl => ?_)
              clear ex_25
              refine lv_goto (tgt := 39) hx hb dX11_feed_79 (by decide) ?_
              exact ih (n - 1) (by omega) x_25 z_23 fz_20 _ _ ls (by omega) (by omega) (by omega) hVz_23 hAfz_20 hRz_23 hP hD hS (lv_sub hl [0, 1, 2, 3] rfl)
        have kc_26 : (0 : Int32).toInt = 0 := by decide
        exact cut_11 9 0 v fa _ _ ls (by omega) (by decide) (by omega) gV gA mX.rf hP hD hS (lv_sub hl [0, 1, 2, 3] rfl)
      · have dc_10 := c_nle (a := x_9.toInt) (b := 60) rfl (by decide) c_10
        refine lv_aload_n hx hb dX11_feed_29 rfl (lv_at hl 0 rfl) ?_
        refine lv_bipush (v := (-6)) hx hb dX11_feed_30 (by decide) ?_
        have hFc := va_free (wc := (mW g0 pq cp v fa)) hD hS hA (List.range 48) rfl
        refine va_calli (va_runV (As := [.int (-6)]) (rest := []) ⟨hx, hb, hml, hown, hts⟩ (c_X11_refuse l dC dI s.heap.size g0 pq cp v fa (-6) (by unfold vp_in; decide)) (cwV 1 hts gX11_feed_X11_refuse rfl rfl rfl (by decide +kernel) ⟨(Nat.le_of_ble_eq_true rfl), (Nat.le_of_ble_eq_true rfl)⟩) (pr_V (r := (RX11, TX11, 63)) hP hK hD 0 11 rfl rfl) rfl rfl hl.1 rfl (lv_room (Nat.le_of_ble_eq_true rfl)) dX11_feed_32 ⟨(Nat.le_of_ble_eq_true rfl), (Nat.le_of_ble_eq_true rfl)⟩) hS (fun q _ h => hFc q h) hFc (fun r_28 u t H locs ht hvm w_27 hB hz1 hk1 hS => ?_)
        obtain ⟨v_29, fa_30⟩ := u
        obtain ⟨hP1, hK1, hD1⟩ := hB
        rw [ht] at hP1
        have hP : va_P (dC, dI) vwCl (mW g0 pq cp v_29 fa_30) H := hP1
        have hD : va_D A (mW g0 pq cp v_29 fa_30) := hD1.weaken (fun _ _ _ h => hFc _ h)
        clear hP1 hK1 hD1 hk1 hz1 hvm ht hFc
        obtain ⟨rfl, w_27⟩ := w_27
        have hVv_29 : mV v_29 := sm0_V w_27 gV
        have hAv_29 : mA fa_30 := sm0_A w_27 gA
        have g_31 : (v_29 46).toInt = (v 46).toInt := congrArg Int32.toInt (congrFun w_27.1 46)
        have hRv_29 : mX [0, 44, 46] v fa v_29 fa_30 := mX.st mX.rf (mX.s0 w_27) (by decide)
        exact W.iret (v := (-6)) hx hb hr (fun t ht hW => ⟨⟨(-6), (v_29, fa_30), rfl, ⟨hVv_29, hAv_29, hRv_29⟩, ⟨by rw [ht]; exact hP, va_K.moved hW.alike hK, hD⟩⟩, hS.F ht⟩) hS.2.2 dX11_feed_35
  · have dc_1 := c_nle (a := 1) (b := x1.toInt) (by decide) rfl c_1
    refine lv_aload_n hx hb dX11_feed_5 rfl (lv_at hl 0 rfl) ?_
    refine lv_bipush (v := (-4)) hx hb dX11_feed_6 (by decide) ?_
    have hFc := va_free (wc := (mW g0 pq cp v fa)) hD hS hA (List.range 48) rfl
    refine va_calli (va_runV (As := [.int (-4)]) (rest := []) ⟨hx, hb, hml, hown, hts⟩ (c_X11_refuse l dC dI s.heap.size g0 pq cp v fa (-4) (by unfold vp_in; decide)) (cwV 1 hts gX11_feed_X11_refuse rfl rfl rfl (by decide +kernel) ⟨(Nat.le_of_ble_eq_true rfl), (Nat.le_of_ble_eq_true rfl)⟩) (pr_V (r := (RX11, TX11, 63)) hP hK hD 0 11 rfl rfl) rfl rfl hl.1 rfl (lv_room (Nat.le_of_ble_eq_true rfl)) dX11_feed_8 ⟨(Nat.le_of_ble_eq_true rfl), (Nat.le_of_ble_eq_true rfl)⟩) hS (fun q _ h => hFc q h) hFc (fun r_33 u t H locs ht hvm w_32 hB hz1 hk1 hS => ?_)
    obtain ⟨v_34, fa_35⟩ := u
    obtain ⟨hP1, hK1, hD1⟩ := hB
    rw [ht] at hP1
    have hP : va_P (dC, dI) vwCl (mW g0 pq cp v_34 fa_35) H := hP1
    have hD : va_D A (mW g0 pq cp v_34 fa_35) := hD1.weaken (fun _ _ _ h => hFc _ h)
    clear hP1 hK1 hD1 hk1 hz1 hvm ht hFc
    obtain ⟨rfl, w_32⟩ := w_32
    have hVv_34 : mV v_34 := sm0_V w_32 gV
    have hAv_34 : mA fa_35 := sm0_A w_32 gA
    have g_36 : (v_34 46).toInt = (v 46).toInt := congrArg Int32.toInt (congrFun w_32.1 46)
    have hRv_34 : mX [0, 44, 46] v fa v_34 fa_35 := mX.st mX.rf (mX.s0 w_32) (by decide)
    exact W.iret (v := (-4)) hx hb hr (fun t ht hW => ⟨⟨(-4), (v_34, fa_35), rfl, ⟨hVv_34, hAv_34, hRv_34⟩, ⟨by rw [ht]; exact hP, va_K.moved hW.alike hK, hD⟩⟩, hS.F ht⟩) hS.2.2 dX11_feed_11
