abbrev cX11_voyage : ByteArray := prog_13_method_12_code
def yX11_voyage : MethodName := ⟨RX11, "voyage", "(II)I"⟩
abbrev cX11_ended : ByteArray := prog_13_method_15_code
def yX11_ended : MethodName := ⟨RX11, "ended", "(II)I"⟩
abbrev cX11_feed : ByteArray := prog_13_method_25_code
def yX11_feed : MethodName := ⟨RX11, "feed", "(IJ)I"⟩
def wsX11_voyage : List Cond := .code yX11_voyage cX11_voyage 4 (some .int) :: ([.fieldLink RX11 165 "ShipOfficeModel" "voyages" "I", .fieldLink RX11 28 "ShipOfficeModel" "ship" "[I", .fieldLink RX11 37 "ShipOfficeModel" "endedOn" "[I", .fieldLink RX11 31 "ShipOfficeModel" "opened" "[I", .fieldLink RX11 171 "ShipOfficeModel" "now" "I", .fieldLink RX11 34 "ShipOfficeModel" "openPort" "[I", .methodLink RX11 161 yX11_isIn, .static yX11_isIn, .initialized RX11, .code yX11_isIn cX11_isIn 2 (some .boolean), .methodLink RX11 174 yX11_isPort, .static yX11_isPort, .code yX11_isPort cX11_isPort 1 (some .boolean), .methodLink RX11 153 yX11_refuse, .instanceMethod yX11_refuse, .selects RX11 yX11_refuse yX11_refuse, .code yX11_refuse cX11_refuse 2 (some .int), .fieldLink RX11 7 "ShipOfficeModel" "refusals" "[I"] ++ wsX110)
theorem il_X11_voyage_1 : ∀ w ∈ ([.fieldLink RX11 165 "ShipOfficeModel" "voyages" "I", .fieldLink RX11 28 "ShipOfficeModel" "ship" "[I", .fieldLink RX11 37 "ShipOfficeModel" "endedOn" "[I", .fieldLink RX11 31 "ShipOfficeModel" "opened" "[I", .fieldLink RX11 171 "ShipOfficeModel" "now" "I", .fieldLink RX11 34 "ShipOfficeModel" "openPort" "[I", .methodLink RX11 161 yX11_isIn, .static yX11_isIn, .initialized RX11, .code yX11_isIn cX11_isIn 2 (some .boolean), .methodLink RX11 174 yX11_isPort, .static yX11_isPort, .code yX11_isPort cX11_isPort 1 (some .boolean), .methodLink RX11 153 yX11_refuse, .instanceMethod yX11_refuse, .selects RX11 yX11_refuse yX11_refuse, .code yX11_refuse cX11_refuse 2 (some .int), .fieldLink RX11 7 "ShipOfficeModel" "refusals" "[I"] : List Cond), w ∈ wsX11_voyage := fun w h => (List.mem_cons_of_mem _ (List.mem_append_left _ h))
theorem il_X11_voyage_2 : ∀ w ∈ wsX110, w ∈ wsX11_voyage := fun w h => (List.mem_cons_of_mem _ (List.mem_append_right _ h))
theorem iw_X11_voyage_1 : Cond.fieldLink RX11 165 "ShipOfficeModel" "voyages" "I" ∈ wsX11_voyage := (mmI il_X11_voyage_1 0 rfl)
theorem iw_X11_voyage_2 : Cond.fieldLink RX11 28 "ShipOfficeModel" "ship" "[I" ∈ wsX11_voyage := (mmI il_X11_voyage_1 1 rfl)
theorem iw_X11_voyage_3 : Cond.fieldLink RX11 31 "ShipOfficeModel" "opened" "[I" ∈ wsX11_voyage := (mmI il_X11_voyage_1 3 rfl)
theorem iw_X11_voyage_4 : Cond.fieldLink RX11 171 "ShipOfficeModel" "now" "I" ∈ wsX11_voyage := (mmI il_X11_voyage_1 4 rfl)
theorem iw_X11_voyage_5 : Cond.fieldLink RX11 34 "ShipOfficeModel" "openPort" "[I" ∈ wsX11_voyage := (mmI il_X11_voyage_1 5 rfl)
theorem iw_X11_voyage_6 : Cond.fieldLink RX11 37 "ShipOfficeModel" "endedOn" "[I" ∈ wsX11_voyage := (mmI il_X11_voyage_1 2 rfl)
def wsX11_ended_r1 : List Cond := [Cond.fieldLink RX11 37 "ShipOfficeModel" "endedOn" "[I", Cond.fieldLink RX11 168 "ShipOfficeModel" "agreements" "I", Cond.fieldLink RX11 73 "ShipOfficeModel" "voyage" "[I", Cond.fieldLink RX11 88 "ShipOfficeModel" "offOn" "[I", Cond.fieldLink RX11 171 "ShipOfficeModel" "now" "I", Cond.methodLink RX11 185 yX11_isVoyage, Cond.instanceMethod yX11_isVoyage, Cond.selects RX11 yX11_isVoyage yX11_isVoyage, Cond.initialized RX11, Cond.code yX11_isVoyage cX11_isVoyage 2 (some .boolean), Cond.fieldLink RX11 165 "ShipOfficeModel" "voyages" "I", Cond.methodLink RX11 161 yX11_isIn, Cond.static yX11_isIn, Cond.code yX11_isIn cX11_isIn 2 (some .boolean), Cond.methodLink RX11 174 yX11_isPort, Cond.static yX11_isPort, Cond.code yX11_isPort cX11_isPort 1 (some .boolean), Cond.methodLink RX11 153 yX11_refuse, Cond.instanceMethod yX11_refuse, Cond.selects RX11 yX11_refuse yX11_refuse, Cond.code yX11_refuse cX11_refuse 2 (some .int), Cond.fieldLink RX11 7 "ShipOfficeModel" "refusals" "[I", Cond.methodLink RX11 182 yX11_wasTold, Cond.instanceMethod yX11_wasTold]
def wsX11_ended_r2 : List Cond := [Cond.selects RX11 yX11_wasTold yX11_wasTold, Cond.code yX11_wasTold cX11_wasTold 4 (some .boolean), Cond.fieldLink RX11 179 "ShipOfficeModel" "happened" "I", Cond.fieldLink RX11 40 "ShipOfficeModel" "what" "[I", Cond.fieldLink RX11 43 "ShipOfficeModel" "whose" "[I", Cond.methodLink RX11 188 yX11_goesOn, Cond.instanceMethod yX11_goesOn, Cond.selects RX11 yX11_goesOn yX11_goesOn, Cond.code yX11_goesOn cX11_goesOn 2 (some .boolean)]
def wsX11_ended : List Cond := .code yX11_ended cX11_ended 5 (some .int) :: ((wsX11_ended_r1 ++ wsX11_ended_r2) ++ wsX110)
theorem il_X11_ended_1 : ∀ w ∈ wsX11_ended_r1, w ∈ wsX11_ended := fun w h => (List.mem_cons_of_mem _ (List.mem_append_left _ (List.mem_append_left _ h)))
theorem il_X11_ended_2 : ∀ w ∈ wsX11_ended_r2, w ∈ wsX11_ended := fun w h => (List.mem_cons_of_mem _ (List.mem_append_left _ (List.mem_append_right _ h)))
theorem il_X11_ended_3 : ∀ w ∈ wsX110, w ∈ wsX11_ended := fun w h => (List.mem_cons_of_mem _ (List.mem_append_right _ h))
theorem iw_X11_ended_1 : Cond.fieldLink RX11 37 "ShipOfficeModel" "endedOn" "[I" ∈ wsX11_ended := (mmI il_X11_ended_1 0 rfl)
theorem iw_X11_ended_2 : Cond.fieldLink RX11 168 "ShipOfficeModel" "agreements" "I" ∈ wsX11_ended := (mmI il_X11_ended_1 1 rfl)
theorem iw_X11_ended_3 : Cond.fieldLink RX11 171 "ShipOfficeModel" "now" "I" ∈ wsX11_ended := (mmI il_X11_ended_1 4 rfl)
theorem iw_X11_ended_4 : Cond.fieldLink RX11 73 "ShipOfficeModel" "voyage" "[I" ∈ wsX11_ended := (mmI il_X11_ended_1 2 rfl)
theorem iw_X11_ended_5 : Cond.fieldLink RX11 88 "ShipOfficeModel" "offOn" "[I" ∈ wsX11_ended := (mmI il_X11_ended_1 3 rfl)
def wsX11_feed : List Cond := .code yX11_feed cX11_feed 5 (some .int) :: ([.fieldLink RX11 205 "ShipOfficeModel" "taped" "I", .fieldLink RX11 125 "ShipOfficeModel" "tape" "[I", .constantLong RX11 208 (255), .methodLink RX11 153 yX11_refuse, .instanceMethod yX11_refuse, .selects RX11 yX11_refuse yX11_refuse, .initialized RX11, .code yX11_refuse cX11_refuse 2 (some .int), .fieldLink RX11 7 "ShipOfficeModel" "refusals" "[I"] ++ wsX110)
theorem il_X11_feed_1 : ∀ w ∈ ([.fieldLink RX11 205 "ShipOfficeModel" "taped" "I", .fieldLink RX11 125 "ShipOfficeModel" "tape" "[I", .constantLong RX11 208 (255), .methodLink RX11 153 yX11_refuse, .instanceMethod yX11_refuse, .selects RX11 yX11_refuse yX11_refuse, .initialized RX11, .code yX11_refuse cX11_refuse 2 (some .int), .fieldLink RX11 7 "ShipOfficeModel" "refusals" "[I"] : List Cond), w ∈ wsX11_feed := fun w h => (List.mem_cons_of_mem _ (List.mem_append_left _ h))
theorem il_X11_feed_2 : ∀ w ∈ wsX110, w ∈ wsX11_feed := fun w h => (List.mem_cons_of_mem _ (List.mem_append_right _ h))
theorem iw_X11_feed_1 : Cond.fieldLink RX11 205 "ShipOfficeModel" "taped" "I" ∈ wsX11_feed := (mmI il_X11_feed_1 0 rfl)
theorem iw_X11_feed_2 : Cond.fieldLink RX11 125 "ShipOfficeModel" "tape" "[I" ∈ wsX11_feed := (mmI il_X11_feed_1 1 rfl)
set_option maxRecDepth 100000 in
theorem ggX11_voyage_X11_isIn : GoodIn wsX11_voyage wsX11_isIn := goodIn_sub (mmC (mmI il_X11_voyage_1 9 rfl) mmN) gw_X11_isIn
set_option maxRecDepth 20000 in
theorem gX11_voyage_X11_isIn : GoodIn wsX11_voyage (va_wsS RX11 161 yX11_isIn wsX11_isIn) := goodIn_app (goodIn_of _ (by decide +kernel)) ggX11_voyage_X11_isIn
set_option maxRecDepth 100000 in
theorem ggX11_voyage_X11_isPort : GoodIn wsX11_voyage wsX11_isPort := goodIn_sub (mmC (mmI il_X11_voyage_1 12 rfl) (mmC (mmI il_X11_voyage_1 6 rfl) (mmC (mmI il_X11_voyage_1 7 rfl) (mmC (mmI il_X11_voyage_1 8 rfl) (mmC (mmI il_X11_voyage_1 9 rfl) mmN))))) gw_X11_isPort
set_option maxRecDepth 20000 in
theorem gX11_voyage_X11_isPort : GoodIn wsX11_voyage (va_wsS RX11 174 yX11_isPort wsX11_isPort) := goodIn_app (goodIn_of _ (by decide +kernel)) ggX11_voyage_X11_isPort
set_option maxRecDepth 100000 in
theorem ggX11_voyage_X11_refuse : GoodIn wsX11_voyage wsX11_refuse := goodIn_sub (mmC (mmI il_X11_voyage_1 16 rfl) (mmA (mmC (mmI il_X11_voyage_1 17 rfl) mmN) il_X11_voyage_2)) gw_X11_refuse
theorem gX11_voyage_X11_refuse : GoodIn wsX11_voyage (wsV RX11 153 RX11 yX11_refuse wsX11_refuse) := goodIn_app (goodIn_sub (mmC (mmI il_X11_voyage_1 13 rfl) (mmC (mmI il_X11_voyage_1 14 rfl) (mmC (mmI il_X11_voyage_1 15 rfl) (mmC (mmI il_X11_voyage_1 8 rfl) mmN)))) (by decide +kernel)) ggX11_voyage_X11_refuse
theorem dX11_voyage_0 : decode cX11_voyage 0 = .ok (.iload_n 1, 1) := by decide +kernel
theorem dX11_voyage_1 : decode cX11_voyage 1 = .ok (.bipush 10, 2) := by decide +kernel
theorem dX11_voyage_3 : decode cX11_voyage 3 = .ok (.invokestatic 161, 3) := by decide +kernel
theorem dX11_voyage_6 : decode cX11_voyage 6 = .ok (.ifCond .eq 10, 3) := by decide +kernel
theorem dX11_voyage_9 : decode cX11_voyage 9 = .ok (.iload_n 2, 1) := by decide +kernel
theorem dX11_voyage_10 : decode cX11_voyage 10 = .ok (.invokestatic 174, 3) := by decide +kernel
theorem dX11_voyage_13 : decode cX11_voyage 13 = .ok (.ifCond .ne 9, 3) := by decide +kernel
theorem dX11_voyage_16 : decode cX11_voyage 16 = .ok (.aload_n 0, 1) := by decide +kernel
theorem dX11_voyage_17 : decode cX11_voyage 17 = .ok (.iconst (-1), 1) := by decide +kernel
theorem dX11_voyage_18 : decode cX11_voyage 18 = .ok (.invokevirtual 153, 3) := by decide +kernel
theorem dX11_voyage_21 : decode cX11_voyage 21 = .ok (.ireturn, 1) := by decide +kernel
theorem dX11_voyage_22 : decode cX11_voyage 22 = .ok (.iconst 0, 1) := by decide +kernel
theorem dX11_voyage_23 : decode cX11_voyage 23 = .ok (.istore_n 3, 1) := by decide +kernel
theorem dX11_voyage_24 : decode cX11_voyage 24 = .ok (.iload_n 3, 1) := by decide +kernel
theorem dX11_voyage_25 : decode cX11_voyage 25 = .ok (.aload_n 0, 1) := by decide +kernel
theorem dX11_voyage_26 : decode cX11_voyage 26 = .ok (.getfield 165, 3) := by decide +kernel
theorem dX11_voyage_29 : decode cX11_voyage 29 = .ok (.if_icmp .ge 35, 3) := by decide +kernel
theorem dX11_voyage_32 : decode cX11_voyage 32 = .ok (.aload_n 0, 1) := by decide +kernel
theorem dX11_voyage_33 : decode cX11_voyage 33 = .ok (.getfield 28, 3) := by decide +kernel
theorem dX11_voyage_36 : decode cX11_voyage 36 = .ok (.iload_n 3, 1) := by decide +kernel
theorem dX11_voyage_37 : decode cX11_voyage 37 = .ok (.iaload, 1) := by decide +kernel
theorem dX11_voyage_38 : decode cX11_voyage 38 = .ok (.iload_n 1, 1) := by decide +kernel
theorem dX11_voyage_39 : decode cX11_voyage 39 = .ok (.if_icmp .ne 19, 3) := by decide +kernel
theorem dX11_voyage_42 : decode cX11_voyage 42 = .ok (.aload_n 0, 1) := by decide +kernel
theorem dX11_voyage_43 : decode cX11_voyage 43 = .ok (.getfield 37, 3) := by decide +kernel
theorem dX11_voyage_46 : decode cX11_voyage 46 = .ok (.iload_n 3, 1) := by decide +kernel
theorem dX11_voyage_47 : decode cX11_voyage 47 = .ok (.iaload, 1) := by decide +kernel
theorem dX11_voyage_48 : decode cX11_voyage 48 = .ok (.ifCond .ge 10, 3) := by decide +kernel
theorem dX11_voyage_51 : decode cX11_voyage 51 = .ok (.aload_n 0, 1) := by decide +kernel
theorem dX11_voyage_52 : decode cX11_voyage 52 = .ok (.bipush (-3), 2) := by decide +kernel
theorem dX11_voyage_54 : decode cX11_voyage 54 = .ok (.invokevirtual 153, 3) := by decide +kernel
theorem dX11_voyage_57 : decode cX11_voyage 57 = .ok (.ireturn, 1) := by decide +kernel
theorem dX11_voyage_58 : decode cX11_voyage 58 = .ok (.iinc 3 1, 3) := by decide +kernel
theorem dX11_voyage_61 : decode cX11_voyage 61 = .ok (.goto (-37), 3) := by decide +kernel
theorem dX11_voyage_64 : decode cX11_voyage 64 = .ok (.aload_n 0, 1) := by decide +kernel
theorem dX11_voyage_65 : decode cX11_voyage 65 = .ok (.getfield 165, 3) := by decide +kernel
theorem dX11_voyage_68 : decode cX11_voyage 68 = .ok (.bipush 20, 2) := by decide +kernel
theorem dX11_voyage_70 : decode cX11_voyage 70 = .ok (.if_icmp .ne 10, 3) := by decide +kernel
theorem dX11_voyage_73 : decode cX11_voyage 73 = .ok (.aload_n 0, 1) := by decide +kernel
theorem dX11_voyage_74 : decode cX11_voyage 74 = .ok (.bipush (-6), 2) := by decide +kernel
theorem dX11_voyage_76 : decode cX11_voyage 76 = .ok (.invokevirtual 153, 3) := by decide +kernel
theorem dX11_voyage_79 : decode cX11_voyage 79 = .ok (.ireturn, 1) := by decide +kernel
theorem dX11_voyage_80 : decode cX11_voyage 80 = .ok (.aload_n 0, 1) := by decide +kernel
theorem dX11_voyage_81 : decode cX11_voyage 81 = .ok (.getfield 28, 3) := by decide +kernel
theorem dX11_voyage_84 : decode cX11_voyage 84 = .ok (.aload_n 0, 1) := by decide +kernel
theorem dX11_voyage_85 : decode cX11_voyage 85 = .ok (.getfield 165, 3) := by decide +kernel
theorem dX11_voyage_88 : decode cX11_voyage 88 = .ok (.iload_n 1, 1) := by decide +kernel
theorem dX11_voyage_89 : decode cX11_voyage 89 = .ok (.iastore, 1) := by decide +kernel
theorem dX11_voyage_90 : decode cX11_voyage 90 = .ok (.aload_n 0, 1) := by decide +kernel
theorem dX11_voyage_91 : decode cX11_voyage 91 = .ok (.getfield 31, 3) := by decide +kernel
theorem dX11_voyage_94 : decode cX11_voyage 94 = .ok (.aload_n 0, 1) := by decide +kernel
theorem dX11_voyage_95 : decode cX11_voyage 95 = .ok (.getfield 165, 3) := by decide +kernel
theorem dX11_voyage_98 : decode cX11_voyage 98 = .ok (.aload_n 0, 1) := by decide +kernel
theorem dX11_voyage_99 : decode cX11_voyage 99 = .ok (.getfield 171, 3) := by decide +kernel
theorem dX11_voyage_102 : decode cX11_voyage 102 = .ok (.iastore, 1) := by decide +kernel
theorem dX11_voyage_103 : decode cX11_voyage 103 = .ok (.aload_n 0, 1) := by decide +kernel
theorem dX11_voyage_104 : decode cX11_voyage 104 = .ok (.getfield 34, 3) := by decide +kernel
theorem dX11_voyage_107 : decode cX11_voyage 107 = .ok (.aload_n 0, 1) := by decide +kernel
theorem dX11_voyage_108 : decode cX11_voyage 108 = .ok (.getfield 165, 3) := by decide +kernel
theorem dX11_voyage_111 : decode cX11_voyage 111 = .ok (.iload_n 2, 1) := by decide +kernel
theorem dX11_voyage_112 : decode cX11_voyage 112 = .ok (.iastore, 1) := by decide +kernel
theorem dX11_voyage_113 : decode cX11_voyage 113 = .ok (.aload_n 0, 1) := by decide +kernel
theorem dX11_voyage_114 : decode cX11_voyage 114 = .ok (.getfield 37, 3) := by decide +kernel
theorem dX11_voyage_117 : decode cX11_voyage 117 = .ok (.aload_n 0, 1) := by decide +kernel
theorem dX11_voyage_118 : decode cX11_voyage 118 = .ok (.getfield 165, 3) := by decide +kernel
theorem dX11_voyage_121 : decode cX11_voyage 121 = .ok (.iconst (-1), 1) := by decide +kernel
theorem dX11_voyage_122 : decode cX11_voyage 122 = .ok (.iastore, 1) := by decide +kernel
theorem dX11_voyage_123 : decode cX11_voyage 123 = .ok (.aload_n 0, 1) := by decide +kernel
theorem dX11_voyage_124 : decode cX11_voyage 124 = .ok (.dup, 1) := by decide +kernel
theorem dX11_voyage_125 : decode cX11_voyage 125 = .ok (.getfield 165, 3) := by decide +kernel
theorem dX11_voyage_128 : decode cX11_voyage 128 = .ok (.iconst 1, 1) := by decide +kernel
theorem dX11_voyage_129 : decode cX11_voyage 129 = .ok (.iadd, 1) := by decide +kernel
theorem dX11_voyage_130 : decode cX11_voyage 130 = .ok (.putfield 165, 3) := by decide +kernel
theorem dX11_voyage_133 : decode cX11_voyage 133 = .ok (.aload_n 0, 1) := by decide +kernel
theorem dX11_voyage_134 : decode cX11_voyage 134 = .ok (.getfield 165, 3) := by decide +kernel
theorem dX11_voyage_137 : decode cX11_voyage 137 = .ok (.iconst 1, 1) := by decide +kernel
theorem dX11_voyage_138 : decode cX11_voyage 138 = .ok (.isub, 1) := by decide +kernel
theorem dX11_voyage_139 : decode cX11_voyage 139 = .ok (.ireturn, 1) := by decide +kernel
set_option maxRecDepth 100000 in
theorem ggX11_ended_X11_isVoyage : GoodIn wsX11_ended wsX11_isVoyage := goodIn_sub (mmC (mmI il_X11_ended_1 9 rfl) (mmA (mmC (mmI il_X11_ended_1 10 rfl) (mmC (mmI il_X11_ended_1 11 rfl) (mmC (mmI il_X11_ended_1 12 rfl) (mmC (mmI il_X11_ended_1 8 rfl) (mmC (mmI il_X11_ended_1 13 rfl) mmN))))) il_X11_ended_3)) gw_X11_isVoyage
theorem gX11_ended_X11_isVoyage : GoodIn wsX11_ended (wsV RX11 185 RX11 yX11_isVoyage wsX11_isVoyage) := goodIn_app (goodIn_sub (mmC (mmI il_X11_ended_1 5 rfl) (mmC (mmI il_X11_ended_1 6 rfl) (mmC (mmI il_X11_ended_1 7 rfl) (mmC (mmI il_X11_ended_1 8 rfl) mmN)))) (by decide +kernel)) ggX11_ended_X11_isVoyage
set_option maxRecDepth 100000 in
theorem ggX11_ended_X11_isPort : GoodIn wsX11_ended wsX11_isPort := goodIn_sub (mmC (mmI il_X11_ended_1 16 rfl) (mmC (mmI il_X11_ended_1 11 rfl) (mmC (mmI il_X11_ended_1 12 rfl) (mmC (mmI il_X11_ended_1 8 rfl) (mmC (mmI il_X11_ended_1 13 rfl) mmN))))) gw_X11_isPort
set_option maxRecDepth 20000 in
theorem gX11_ended_X11_isPort : GoodIn wsX11_ended (va_wsS RX11 174 yX11_isPort wsX11_isPort) := goodIn_app (goodIn_of _ (by decide +kernel)) ggX11_ended_X11_isPort
set_option maxRecDepth 100000 in
theorem ggX11_ended_X11_refuse : GoodIn wsX11_ended wsX11_refuse := goodIn_sub (mmC (mmI il_X11_ended_1 20 rfl) (mmA (mmC (mmI il_X11_ended_1 21 rfl) mmN) il_X11_ended_3)) gw_X11_refuse
theorem gX11_ended_X11_refuse : GoodIn wsX11_ended (wsV RX11 153 RX11 yX11_refuse wsX11_refuse) := goodIn_app (goodIn_sub (mmC (mmI il_X11_ended_1 17 rfl) (mmC (mmI il_X11_ended_1 18 rfl) (mmC (mmI il_X11_ended_1 19 rfl) (mmC (mmI il_X11_ended_1 8 rfl) mmN)))) (by decide +kernel)) ggX11_ended_X11_refuse
set_option maxRecDepth 100000 in
theorem ggX11_ended_X11_wasTold : GoodIn wsX11_ended wsX11_wasTold := goodIn_sub (mmC (mmI il_X11_ended_2 1 rfl) (mmA (mmC (mmI il_X11_ended_2 2 rfl) (mmC (mmI il_X11_ended_2 3 rfl) (mmC (mmI il_X11_ended_2 4 rfl) mmN))) il_X11_ended_3)) gw_X11_wasTold
theorem gX11_ended_X11_wasTold : GoodIn wsX11_ended (wsV RX11 182 RX11 yX11_wasTold wsX11_wasTold) := goodIn_app (goodIn_sub (mmC (mmI il_X11_ended_1 22 rfl) (mmC (mmI il_X11_ended_1 23 rfl) (mmC (mmI il_X11_ended_2 0 rfl) (mmC (mmI il_X11_ended_1 8 rfl) mmN)))) (by decide +kernel)) ggX11_ended_X11_wasTold
set_option maxRecDepth 100000 in
theorem ggX11_ended_X11_goesOn : GoodIn wsX11_ended wsX11_goesOn := goodIn_sub (mmC (mmI il_X11_ended_2 8 rfl) (mmA (mmC (mmI il_X11_ended_1 3 rfl) (mmC (mmI il_X11_ended_1 2 rfl) (mmC (mmI il_X11_ended_1 22 rfl) (mmC (mmI il_X11_ended_1 23 rfl) (mmC (mmI il_X11_ended_2 0 rfl) (mmC (mmI il_X11_ended_1 8 rfl) (mmC (mmI il_X11_ended_2 1 rfl) (mmC (mmI il_X11_ended_2 2 rfl) (mmC (mmI il_X11_ended_2 3 rfl) (mmC (mmI il_X11_ended_2 4 rfl) mmN)))))))))) il_X11_ended_3)) gw_X11_goesOn
theorem gX11_ended_X11_goesOn : GoodIn wsX11_ended (wsV RX11 188 RX11 yX11_goesOn wsX11_goesOn) := goodIn_app (goodIn_sub (mmC (mmI il_X11_ended_2 5 rfl) (mmC (mmI il_X11_ended_2 6 rfl) (mmC (mmI il_X11_ended_2 7 rfl) (mmC (mmI il_X11_ended_1 8 rfl) mmN)))) (by decide +kernel)) ggX11_ended_X11_goesOn
theorem dX11_ended_0 : decode cX11_ended 0 = .ok (.aload_n 0, 1) := by decide +kernel
theorem dX11_ended_1 : decode cX11_ended 1 = .ok (.iload_n 1, 1) := by decide +kernel
theorem dX11_ended_2 : decode cX11_ended 2 = .ok (.invokevirtual 185, 3) := by decide +kernel
theorem dX11_ended_5 : decode cX11_ended 5 = .ok (.ifCond .eq 10, 3) := by decide +kernel
theorem dX11_ended_8 : decode cX11_ended 8 = .ok (.iload_n 2, 1) := by decide +kernel
theorem dX11_ended_9 : decode cX11_ended 9 = .ok (.invokestatic 174, 3) := by decide +kernel
theorem dX11_ended_12 : decode cX11_ended 12 = .ok (.ifCond .ne 9, 3) := by decide +kernel
theorem dX11_ended_15 : decode cX11_ended 15 = .ok (.aload_n 0, 1) := by decide +kernel
theorem dX11_ended_16 : decode cX11_ended 16 = .ok (.iconst (-1), 1) := by decide +kernel
theorem dX11_ended_17 : decode cX11_ended 17 = .ok (.invokevirtual 153, 3) := by decide +kernel
theorem dX11_ended_20 : decode cX11_ended 20 = .ok (.ireturn, 1) := by decide +kernel
theorem dX11_ended_21 : decode cX11_ended 21 = .ok (.aload_n 0, 1) := by decide +kernel
theorem dX11_ended_22 : decode cX11_ended 22 = .ok (.getfield 37, 3) := by decide +kernel
theorem dX11_ended_25 : decode cX11_ended 25 = .ok (.iload_n 1, 1) := by decide +kernel
theorem dX11_ended_26 : decode cX11_ended 26 = .ok (.iaload, 1) := by decide +kernel
theorem dX11_ended_27 : decode cX11_ended 27 = .ok (.ifCond .ge 12, 3) := by decide +kernel
theorem dX11_ended_30 : decode cX11_ended 30 = .ok (.aload_n 0, 1) := by decide +kernel
theorem dX11_ended_31 : decode cX11_ended 31 = .ok (.iconst 2, 1) := by decide +kernel
theorem dX11_ended_32 : decode cX11_ended 32 = .ok (.iload_n 1, 1) := by decide +kernel
theorem dX11_ended_33 : decode cX11_ended 33 = .ok (.invokevirtual 182, 3) := by decide +kernel
theorem dX11_ended_36 : decode cX11_ended 36 = .ok (.ifCond .eq 10, 3) := by decide +kernel
theorem dX11_ended_39 : decode cX11_ended 39 = .ok (.aload_n 0, 1) := by decide +kernel
theorem dX11_ended_40 : decode cX11_ended 40 = .ok (.bipush (-3), 2) := by decide +kernel
theorem dX11_ended_42 : decode cX11_ended 42 = .ok (.invokevirtual 153, 3) := by decide +kernel
theorem dX11_ended_45 : decode cX11_ended 45 = .ok (.ireturn, 1) := by decide +kernel
theorem dX11_ended_46 : decode cX11_ended 46 = .ok (.iconst 0, 1) := by decide +kernel
theorem dX11_ended_47 : decode cX11_ended 47 = .ok (.istore_n 3, 1) := by decide +kernel
theorem dX11_ended_48 : decode cX11_ended 48 = .ok (.iconst 0, 1) := by decide +kernel
theorem dX11_ended_49 : decode cX11_ended 49 = .ok (.istore 4, 2) := by decide +kernel
theorem dX11_ended_51 : decode cX11_ended 51 = .ok (.iload 4, 2) := by decide +kernel
theorem dX11_ended_53 : decode cX11_ended 53 = .ok (.aload_n 0, 1) := by decide +kernel
theorem dX11_ended_54 : decode cX11_ended 54 = .ok (.getfield 168, 3) := by decide +kernel
theorem dX11_ended_57 : decode cX11_ended 57 = .ok (.if_icmp .ge 46, 3) := by decide +kernel
theorem dX11_ended_60 : decode cX11_ended 60 = .ok (.aload_n 0, 1) := by decide +kernel
theorem dX11_ended_61 : decode cX11_ended 61 = .ok (.getfield 73, 3) := by decide +kernel
theorem dX11_ended_64 : decode cX11_ended 64 = .ok (.iload 4, 2) := by decide +kernel
theorem dX11_ended_66 : decode cX11_ended 66 = .ok (.iaload, 1) := by decide +kernel
theorem dX11_ended_67 : decode cX11_ended 67 = .ok (.iload_n 1, 1) := by decide +kernel
theorem dX11_ended_68 : decode cX11_ended 68 = .ok (.if_icmp .ne 29, 3) := by decide +kernel
theorem dX11_ended_71 : decode cX11_ended 71 = .ok (.aload_n 0, 1) := by decide +kernel
theorem dX11_ended_72 : decode cX11_ended 72 = .ok (.iload 4, 2) := by decide +kernel
theorem dX11_ended_74 : decode cX11_ended 74 = .ok (.invokevirtual 188, 3) := by decide +kernel
theorem dX11_ended_77 : decode cX11_ended 77 = .ok (.ifCond .ne 6, 3) := by decide +kernel
theorem dX11_ended_80 : decode cX11_ended 80 = .ok (.goto 17, 3) := by decide +kernel
theorem dX11_ended_83 : decode cX11_ended 83 = .ok (.aload_n 0, 1) := by decide +kernel
theorem dX11_ended_84 : decode cX11_ended 84 = .ok (.getfield 88, 3) := by decide +kernel
theorem dX11_ended_87 : decode cX11_ended 87 = .ok (.iload 4, 2) := by decide +kernel
theorem dX11_ended_89 : decode cX11_ended 89 = .ok (.aload_n 0, 1) := by decide +kernel
theorem dX11_ended_90 : decode cX11_ended 90 = .ok (.getfield 171, 3) := by decide +kernel
theorem dX11_ended_93 : decode cX11_ended 93 = .ok (.iastore, 1) := by decide +kernel
theorem dX11_ended_94 : decode cX11_ended 94 = .ok (.iinc 3 1, 3) := by decide +kernel
theorem dX11_ended_97 : decode cX11_ended 97 = .ok (.iinc 4 1, 3) := by decide +kernel
theorem dX11_ended_100 : decode cX11_ended 100 = .ok (.goto (-49), 3) := by decide +kernel
theorem dX11_ended_103 : decode cX11_ended 103 = .ok (.aload_n 0, 1) := by decide +kernel
theorem dX11_ended_104 : decode cX11_ended 104 = .ok (.getfield 37, 3) := by decide +kernel
theorem dX11_ended_107 : decode cX11_ended 107 = .ok (.iload_n 1, 1) := by decide +kernel
theorem dX11_ended_108 : decode cX11_ended 108 = .ok (.aload_n 0, 1) := by decide +kernel
theorem dX11_ended_109 : decode cX11_ended 109 = .ok (.getfield 171, 3) := by decide +kernel
theorem dX11_ended_112 : decode cX11_ended 112 = .ok (.iastore, 1) := by decide +kernel
theorem dX11_ended_113 : decode cX11_ended 113 = .ok (.iload_n 3, 1) := by decide +kernel
theorem dX11_ended_114 : decode cX11_ended 114 = .ok (.ireturn, 1) := by decide +kernel
set_option maxRecDepth 100000 in
theorem ggX11_feed_X11_refuse : GoodIn wsX11_feed wsX11_refuse := goodIn_sub (mmC (mmI il_X11_feed_1 7 rfl) (mmA (mmC (mmI il_X11_feed_1 8 rfl) mmN) il_X11_feed_2)) gw_X11_refuse
theorem gX11_feed_X11_refuse : GoodIn wsX11_feed (wsV RX11 153 RX11 yX11_refuse wsX11_refuse) := goodIn_app (goodIn_sub (mmC (mmI il_X11_feed_1 3 rfl) (mmC (mmI il_X11_feed_1 4 rfl) (mmC (mmI il_X11_feed_1 5 rfl) (mmC (mmI il_X11_feed_1 6 rfl) mmN)))) (by decide +kernel)) ggX11_feed_X11_refuse
theorem dX11_feed_0 : decode cX11_feed 0 = .ok (.iload_n 1, 1) := by decide +kernel
theorem dX11_feed_1 : decode cX11_feed 1 = .ok (.iconst 1, 1) := by decide +kernel
theorem dX11_feed_2 : decode cX11_feed 2 = .ok (.if_icmp .ge 10, 3) := by decide +kernel
theorem dX11_feed_5 : decode cX11_feed 5 = .ok (.aload_n 0, 1) := by decide +kernel
theorem dX11_feed_6 : decode cX11_feed 6 = .ok (.bipush (-4), 2) := by decide +kernel
theorem dX11_feed_8 : decode cX11_feed 8 = .ok (.invokevirtual 153, 3) := by decide +kernel
theorem dX11_feed_11 : decode cX11_feed 11 = .ok (.ireturn, 1) := by decide +kernel
theorem dX11_feed_12 : decode cX11_feed 12 = .ok (.iload_n 1, 1) := by decide +kernel
theorem dX11_feed_13 : decode cX11_feed 13 = .ok (.bipush 8, 2) := by decide +kernel
theorem dX11_feed_15 : decode cX11_feed 15 = .ok (.if_icmp .gt 14, 3) := by decide +kernel
theorem dX11_feed_18 : decode cX11_feed 18 = .ok (.aload_n 0, 1) := by decide +kernel
theorem dX11_feed_19 : decode cX11_feed 19 = .ok (.getfield 205, 3) := by decide +kernel
theorem dX11_feed_22 : decode cX11_feed 22 = .ok (.iload_n 1, 1) := by decide +kernel
theorem dX11_feed_23 : decode cX11_feed 23 = .ok (.iadd, 1) := by decide +kernel
theorem dX11_feed_24 : decode cX11_feed 24 = .ok (.bipush 60, 2) := by decide +kernel
theorem dX11_feed_26 : decode cX11_feed 26 = .ok (.if_icmp .le 10, 3) := by decide +kernel
theorem dX11_feed_29 : decode cX11_feed 29 = .ok (.aload_n 0, 1) := by decide +kernel
theorem dX11_feed_30 : decode cX11_feed 30 = .ok (.bipush (-6), 2) := by decide +kernel
theorem dX11_feed_32 : decode cX11_feed 32 = .ok (.invokevirtual 153, 3) := by decide +kernel
theorem dX11_feed_35 : decode cX11_feed 35 = .ok (.ireturn, 1) := by decide +kernel
theorem dX11_feed_36 : decode cX11_feed 36 = .ok (.iconst 0, 1) := by decide +kernel
theorem dX11_feed_37 : decode cX11_feed 37 = .ok (.istore 4, 2) := by decide +kernel
theorem dX11_feed_39 : decode cX11_feed 39 = .ok (.iload 4, 2) := by decide +kernel
theorem dX11_feed_41 : decode cX11_feed 41 = .ok (.iload_n 1, 1) := by decide +kernel
theorem dX11_feed_42 : decode cX11_feed 42 = .ok (.if_icmp .ge 40, 3) := by decide +kernel
theorem dX11_feed_45 : decode cX11_feed 45 = .ok (.aload_n 0, 1) := by decide +kernel
theorem dX11_feed_46 : decode cX11_feed 46 = .ok (.getfield 125, 3) := by decide +kernel
theorem dX11_feed_49 : decode cX11_feed 49 = .ok (.aload_n 0, 1) := by decide +kernel
theorem dX11_feed_50 : decode cX11_feed 50 = .ok (.getfield 205, 3) := by decide +kernel
theorem dX11_feed_53 : decode cX11_feed 53 = .ok (.lload_n 2, 1) := by decide +kernel
theorem dX11_feed_54 : decode cX11_feed 54 = .ok (.bipush 8, 2) := by decide +kernel
theorem dX11_feed_56 : decode cX11_feed 56 = .ok (.iload 4, 2) := by decide +kernel
theorem dX11_feed_58 : decode cX11_feed 58 = .ok (.imul, 1) := by decide +kernel
theorem dX11_feed_59 : decode cX11_feed 59 = .ok (.lshr, 1) := by decide +kernel
theorem dX11_feed_60 : decode cX11_feed 60 = .ok (.ldc2_w 208, 3) := by decide +kernel
theorem dX11_feed_63 : decode cX11_feed 63 = .ok (.land, 1) := by decide +kernel
theorem dX11_feed_64 : decode cX11_feed 64 = .ok (.l2i, 1) := by decide +kernel
theorem dX11_feed_65 : decode cX11_feed 65 = .ok (.iastore, 1) := by decide +kernel
theorem dX11_feed_66 : decode cX11_feed 66 = .ok (.aload_n 0, 1) := by decide +kernel
theorem dX11_feed_67 : decode cX11_feed 67 = .ok (.dup, 1) := by decide +kernel
theorem dX11_feed_68 : decode cX11_feed 68 = .ok (.getfield 205, 3) := by decide +kernel
theorem dX11_feed_71 : decode cX11_feed 71 = .ok (.iconst 1, 1) := by decide +kernel
theorem dX11_feed_72 : decode cX11_feed 72 = .ok (.iadd, 1) := by decide +kernel
theorem dX11_feed_73 : decode cX11_feed 73 = .ok (.putfield 205, 3) := by decide +kernel
theorem dX11_feed_76 : decode cX11_feed 76 = .ok (.iinc 4 1, 3) := by decide +kernel
theorem dX11_feed_79 : decode cX11_feed 79 = .ok (.goto (-40), 3) := by decide +kernel
theorem dX11_feed_82 : decode cX11_feed 82 = .ok (.aload_n 0, 1) := by decide +kernel
theorem dX11_feed_83 : decode cX11_feed 83 = .ok (.getfield 205, 3) := by decide +kernel
theorem dX11_feed_86 : decode cX11_feed 86 = .ok (.ireturn, 1) := by decide +kernel
theorem in_wsX11_voyage_X11 : ∀ w ∈ wsX110, w ∈ wsX11_voyage := fun w h => List.mem_cons_of_mem _ (List.mem_append_right _ h)
theorem in_wsX11_ended_X11 : ∀ w ∈ wsX110, w ∈ wsX11_ended := fun w h => List.mem_cons_of_mem _ (List.mem_append_right _ h)
theorem in_wsX11_feed_X11 : ∀ w ∈ wsX110, w ∈ wsX11_feed := fun w h => List.mem_cons_of_mem _ (List.mem_append_right _ h)
