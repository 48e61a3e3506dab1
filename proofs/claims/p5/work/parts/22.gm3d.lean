abbrev cX11_happens : ByteArray := prog_13_method_16_code
def yX11_happens : MethodName := ⟨RX11, "happens", "(IIIIII)I"⟩
abbrev cX11_happensTo : ByteArray := prog_13_method_17_code
def yX11_happensTo : MethodName := ⟨RX11, "happensTo", "(III)I"⟩
abbrev cX11_sailed : ByteArray := prog_13_method_18_code
def yX11_sailed : MethodName := ⟨RX11, "sailed", "(II)I"⟩
abbrev cX11_heard : ByteArray := prog_13_method_19_code
def yX11_heard : MethodName := ⟨RX11, "heard", "(II)I"⟩
abbrev cX11_lost : ByteArray := prog_13_method_20_code
def yX11_lost : MethodName := ⟨RX11, "lost", "(II)I"⟩
abbrev cX11_left : ByteArray := prog_13_method_21_code
def yX11_left : MethodName := ⟨RX11, "left", "(IIII)I"⟩
abbrev cX11_happensOf : ByteArray := prog_13_method_22_code
def yX11_happensOf : MethodName := ⟨RX11, "happensOf", "(III)I"⟩
abbrev cX11_died : ByteArray := prog_13_method_23_code
def yX11_died : MethodName := ⟨RX11, "died", "(II)I"⟩
abbrev cX11_back : ByteArray := prog_13_method_24_code
def yX11_back : MethodName := ⟨RX11, "back", "(II)I"⟩
theorem gw_X11_isVoyage : wsX11_isVoyage.all goodWord = true := by decide +kernel
def wsX11_happens : List Cond := .code yX11_happens cX11_happens 7 (some .int) :: ([.fieldLink RX11 171 "ShipOfficeModel" "now" "I", .fieldLink RX11 179 "ShipOfficeModel" "happened" "I", .fieldLink RX11 40 "ShipOfficeModel" "what" "[I", .fieldLink RX11 43 "ShipOfficeModel" "whose" "[I", .fieldLink RX11 46 "ShipOfficeModel" "day" "[I", .fieldLink RX11 49 "ShipOfficeModel" "known" "[I", .fieldLink RX11 52 "ShipOfficeModel" "way" "[I", .fieldLink RX11 55 "ShipOfficeModel" "port" "[I", .methodLink RX11 153 yX11_refuse, .instanceMethod yX11_refuse, .selects RX11 yX11_refuse yX11_refuse, .initialized RX11, .code yX11_refuse cX11_refuse 2 (some .int), .fieldLink RX11 7 "ShipOfficeModel" "refusals" "[I"] ++ wsX110)
theorem gw_X11_happens : wsX11_happens.all goodWord = true := by decide +kernel
theorem il_X11_happens_1 : ∀ w ∈ ([.fieldLink RX11 171 "ShipOfficeModel" "now" "I", .fieldLink RX11 179 "ShipOfficeModel" "happened" "I", .fieldLink RX11 40 "ShipOfficeModel" "what" "[I", .fieldLink RX11 43 "ShipOfficeModel" "whose" "[I", .fieldLink RX11 46 "ShipOfficeModel" "day" "[I", .fieldLink RX11 49 "ShipOfficeModel" "known" "[I", .fieldLink RX11 52 "ShipOfficeModel" "way" "[I", .fieldLink RX11 55 "ShipOfficeModel" "port" "[I", .methodLink RX11 153 yX11_refuse, .instanceMethod yX11_refuse, .selects RX11 yX11_refuse yX11_refuse, .initialized RX11, .code yX11_refuse cX11_refuse 2 (some .int), .fieldLink RX11 7 "ShipOfficeModel" "refusals" "[I"] : List Cond), w ∈ wsX11_happens := fun w h => (List.mem_cons_of_mem _ (List.mem_append_left _ h))
theorem il_X11_happens_2 : ∀ w ∈ wsX110, w ∈ wsX11_happens := fun w h => (List.mem_cons_of_mem _ (List.mem_append_right _ h))
theorem iw_X11_happens_1 : Cond.fieldLink RX11 171 "ShipOfficeModel" "now" "I" ∈ wsX11_happens := (mmI il_X11_happens_1 0 rfl)
theorem iw_X11_happens_2 : Cond.fieldLink RX11 179 "ShipOfficeModel" "happened" "I" ∈ wsX11_happens := (mmI il_X11_happens_1 1 rfl)
theorem iw_X11_happens_3 : Cond.fieldLink RX11 40 "ShipOfficeModel" "what" "[I" ∈ wsX11_happens := (mmI il_X11_happens_1 2 rfl)
theorem iw_X11_happens_4 : Cond.fieldLink RX11 43 "ShipOfficeModel" "whose" "[I" ∈ wsX11_happens := (mmI il_X11_happens_1 3 rfl)
theorem iw_X11_happens_5 : Cond.fieldLink RX11 46 "ShipOfficeModel" "day" "[I" ∈ wsX11_happens := (mmI il_X11_happens_1 4 rfl)
theorem iw_X11_happens_6 : Cond.fieldLink RX11 49 "ShipOfficeModel" "known" "[I" ∈ wsX11_happens := (mmI il_X11_happens_1 5 rfl)
theorem iw_X11_happens_7 : Cond.fieldLink RX11 52 "ShipOfficeModel" "way" "[I" ∈ wsX11_happens := (mmI il_X11_happens_1 6 rfl)
theorem iw_X11_happens_8 : Cond.fieldLink RX11 55 "ShipOfficeModel" "port" "[I" ∈ wsX11_happens := (mmI il_X11_happens_1 7 rfl)
def wsX11_happensTo_r1 : List Cond := [Cond.fieldLink RX11 37 "ShipOfficeModel" "endedOn" "[I", Cond.fieldLink RX11 31 "ShipOfficeModel" "opened" "[I", Cond.methodLink RX11 185 yX11_isVoyage, Cond.instanceMethod yX11_isVoyage, Cond.selects RX11 yX11_isVoyage yX11_isVoyage, Cond.initialized RX11, Cond.code yX11_isVoyage cX11_isVoyage 2 (some .boolean), Cond.fieldLink RX11 165 "ShipOfficeModel" "voyages" "I", Cond.methodLink RX11 161 yX11_isIn, Cond.static yX11_isIn, Cond.code yX11_isIn cX11_isIn 2 (some .boolean), Cond.methodLink RX11 153 yX11_refuse, Cond.instanceMethod yX11_refuse, Cond.selects RX11 yX11_refuse yX11_refuse, Cond.code yX11_refuse cX11_refuse 2 (some .int), Cond.fieldLink RX11 7 "ShipOfficeModel" "refusals" "[I", Cond.methodLink RX11 182 yX11_wasTold, Cond.instanceMethod yX11_wasTold, Cond.selects RX11 yX11_wasTold yX11_wasTold, Cond.code yX11_wasTold cX11_wasTold 4 (some .boolean), Cond.fieldLink RX11 179 "ShipOfficeModel" "happened" "I", Cond.fieldLink RX11 40 "ShipOfficeModel" "what" "[I", Cond.fieldLink RX11 43 "ShipOfficeModel" "whose" "[I", Cond.methodLink RX11 191 yX11_happens]
def wsX11_happensTo_r2 : List Cond := [Cond.instanceMethod yX11_happens, Cond.selects RX11 yX11_happens yX11_happens, Cond.code yX11_happens cX11_happens 7 (some .int), Cond.fieldLink RX11 171 "ShipOfficeModel" "now" "I", Cond.fieldLink RX11 46 "ShipOfficeModel" "day" "[I", Cond.fieldLink RX11 49 "ShipOfficeModel" "known" "[I", Cond.fieldLink RX11 52 "ShipOfficeModel" "way" "[I", Cond.fieldLink RX11 55 "ShipOfficeModel" "port" "[I"]
def wsX11_happensTo : List Cond := .code yX11_happensTo cX11_happensTo 4 (some .int) :: ((wsX11_happensTo_r1 ++ wsX11_happensTo_r2) ++ wsX110)
theorem gw_X11_happensTo : wsX11_happensTo.all goodWord = true := by decide +kernel
theorem il_X11_happensTo_1 : ∀ w ∈ wsX11_happensTo_r1, w ∈ wsX11_happensTo := fun w h => (List.mem_cons_of_mem _ (List.mem_append_left _ (List.mem_append_left _ h)))
theorem il_X11_happensTo_2 : ∀ w ∈ wsX11_happensTo_r2, w ∈ wsX11_happensTo := fun w h => (List.mem_cons_of_mem _ (List.mem_append_left _ (List.mem_append_right _ h)))
theorem il_X11_happensTo_3 : ∀ w ∈ wsX110, w ∈ wsX11_happensTo := fun w h => (List.mem_cons_of_mem _ (List.mem_append_right _ h))
theorem iw_X11_happensTo_1 : Cond.fieldLink RX11 37 "ShipOfficeModel" "endedOn" "[I" ∈ wsX11_happensTo := (mmI il_X11_happensTo_1 0 rfl)
theorem iw_X11_happensTo_2 : Cond.fieldLink RX11 31 "ShipOfficeModel" "opened" "[I" ∈ wsX11_happensTo := (mmI il_X11_happensTo_1 1 rfl)
def wsX11_sailed_r1 : List Cond := [Cond.methodLink RX11 195 yX11_happensTo, Cond.instanceMethod yX11_happensTo, Cond.selects RX11 yX11_happensTo yX11_happensTo, Cond.initialized RX11, Cond.code yX11_happensTo cX11_happensTo 4 (some .int), Cond.fieldLink RX11 37 "ShipOfficeModel" "endedOn" "[I", Cond.fieldLink RX11 31 "ShipOfficeModel" "opened" "[I", Cond.methodLink RX11 185 yX11_isVoyage, Cond.instanceMethod yX11_isVoyage, Cond.selects RX11 yX11_isVoyage yX11_isVoyage, Cond.code yX11_isVoyage cX11_isVoyage 2 (some .boolean), Cond.fieldLink RX11 165 "ShipOfficeModel" "voyages" "I", Cond.methodLink RX11 161 yX11_isIn, Cond.static yX11_isIn, Cond.code yX11_isIn cX11_isIn 2 (some .boolean), Cond.methodLink RX11 153 yX11_refuse, Cond.instanceMethod yX11_refuse, Cond.selects RX11 yX11_refuse yX11_refuse, Cond.code yX11_refuse cX11_refuse 2 (some .int), Cond.fieldLink RX11 7 "ShipOfficeModel" "refusals" "[I", Cond.methodLink RX11 182 yX11_wasTold, Cond.instanceMethod yX11_wasTold, Cond.selects RX11 yX11_wasTold yX11_wasTold, Cond.code yX11_wasTold cX11_wasTold 4 (some .boolean)]
def wsX11_sailed_r2 : List Cond := [Cond.fieldLink RX11 179 "ShipOfficeModel" "happened" "I", Cond.fieldLink RX11 40 "ShipOfficeModel" "what" "[I", Cond.fieldLink RX11 43 "ShipOfficeModel" "whose" "[I", Cond.methodLink RX11 191 yX11_happens, Cond.instanceMethod yX11_happens, Cond.selects RX11 yX11_happens yX11_happens, Cond.code yX11_happens cX11_happens 7 (some .int), Cond.fieldLink RX11 171 "ShipOfficeModel" "now" "I", Cond.fieldLink RX11 46 "ShipOfficeModel" "day" "[I", Cond.fieldLink RX11 49 "ShipOfficeModel" "known" "[I", Cond.fieldLink RX11 52 "ShipOfficeModel" "way" "[I", Cond.fieldLink RX11 55 "ShipOfficeModel" "port" "[I"]
def wsX11_sailed : List Cond := .code yX11_sailed cX11_sailed 3 (some .int) :: ((wsX11_sailed_r1 ++ wsX11_sailed_r2) ++ wsX110)
theorem il_X11_sailed_1 : ∀ w ∈ wsX11_sailed_r1, w ∈ wsX11_sailed := fun w h => (List.mem_cons_of_mem _ (List.mem_append_left _ (List.mem_append_left _ h)))
theorem il_X11_sailed_2 : ∀ w ∈ wsX11_sailed_r2, w ∈ wsX11_sailed := fun w h => (List.mem_cons_of_mem _ (List.mem_append_left _ (List.mem_append_right _ h)))
theorem il_X11_sailed_3 : ∀ w ∈ wsX110, w ∈ wsX11_sailed := fun w h => (List.mem_cons_of_mem _ (List.mem_append_right _ h))
def wsX11_heard_r1 : List Cond := [Cond.methodLink RX11 195 yX11_happensTo, Cond.instanceMethod yX11_happensTo, Cond.selects RX11 yX11_happensTo yX11_happensTo, Cond.initialized RX11, Cond.code yX11_happensTo cX11_happensTo 4 (some .int), Cond.fieldLink RX11 37 "ShipOfficeModel" "endedOn" "[I", Cond.fieldLink RX11 31 "ShipOfficeModel" "opened" "[I", Cond.methodLink RX11 185 yX11_isVoyage, Cond.instanceMethod yX11_isVoyage, Cond.selects RX11 yX11_isVoyage yX11_isVoyage, Cond.code yX11_isVoyage cX11_isVoyage 2 (some .boolean), Cond.fieldLink RX11 165 "ShipOfficeModel" "voyages" "I", Cond.methodLink RX11 161 yX11_isIn, Cond.static yX11_isIn, Cond.code yX11_isIn cX11_isIn 2 (some .boolean), Cond.methodLink RX11 153 yX11_refuse, Cond.instanceMethod yX11_refuse, Cond.selects RX11 yX11_refuse yX11_refuse, Cond.code yX11_refuse cX11_refuse 2 (some .int), Cond.fieldLink RX11 7 "ShipOfficeModel" "refusals" "[I", Cond.methodLink RX11 182 yX11_wasTold, Cond.instanceMethod yX11_wasTold, Cond.selects RX11 yX11_wasTold yX11_wasTold, Cond.code yX11_wasTold cX11_wasTold 4 (some .boolean)]
def wsX11_heard_r2 : List Cond := [Cond.fieldLink RX11 179 "ShipOfficeModel" "happened" "I", Cond.fieldLink RX11 40 "ShipOfficeModel" "what" "[I", Cond.fieldLink RX11 43 "ShipOfficeModel" "whose" "[I", Cond.methodLink RX11 191 yX11_happens, Cond.instanceMethod yX11_happens, Cond.selects RX11 yX11_happens yX11_happens, Cond.code yX11_happens cX11_happens 7 (some .int), Cond.fieldLink RX11 171 "ShipOfficeModel" "now" "I", Cond.fieldLink RX11 46 "ShipOfficeModel" "day" "[I", Cond.fieldLink RX11 49 "ShipOfficeModel" "known" "[I", Cond.fieldLink RX11 52 "ShipOfficeModel" "way" "[I", Cond.fieldLink RX11 55 "ShipOfficeModel" "port" "[I"]
def wsX11_heard : List Cond := .code yX11_heard cX11_heard 3 (some .int) :: ((wsX11_heard_r1 ++ wsX11_heard_r2) ++ wsX110)
theorem il_X11_heard_1 : ∀ w ∈ wsX11_heard_r1, w ∈ wsX11_heard := fun w h => (List.mem_cons_of_mem _ (List.mem_append_left _ (List.mem_append_left _ h)))
theorem il_X11_heard_2 : ∀ w ∈ wsX11_heard_r2, w ∈ wsX11_heard := fun w h => (List.mem_cons_of_mem _ (List.mem_append_left _ (List.mem_append_right _ h)))
theorem il_X11_heard_3 : ∀ w ∈ wsX110, w ∈ wsX11_heard := fun w h => (List.mem_cons_of_mem _ (List.mem_append_right _ h))
def wsX11_lost_r1 : List Cond := [Cond.methodLink RX11 195 yX11_happensTo, Cond.instanceMethod yX11_happensTo, Cond.selects RX11 yX11_happensTo yX11_happensTo, Cond.initialized RX11, Cond.code yX11_happensTo cX11_happensTo 4 (some .int), Cond.fieldLink RX11 37 "ShipOfficeModel" "endedOn" "[I", Cond.fieldLink RX11 31 "ShipOfficeModel" "opened" "[I", Cond.methodLink RX11 185 yX11_isVoyage, Cond.instanceMethod yX11_isVoyage, Cond.selects RX11 yX11_isVoyage yX11_isVoyage, Cond.code yX11_isVoyage cX11_isVoyage 2 (some .boolean), Cond.fieldLink RX11 165 "ShipOfficeModel" "voyages" "I", Cond.methodLink RX11 161 yX11_isIn, Cond.static yX11_isIn, Cond.code yX11_isIn cX11_isIn 2 (some .boolean), Cond.methodLink RX11 153 yX11_refuse, Cond.instanceMethod yX11_refuse, Cond.selects RX11 yX11_refuse yX11_refuse, Cond.code yX11_refuse cX11_refuse 2 (some .int), Cond.fieldLink RX11 7 "ShipOfficeModel" "refusals" "[I", Cond.methodLink RX11 182 yX11_wasTold, Cond.instanceMethod yX11_wasTold, Cond.selects RX11 yX11_wasTold yX11_wasTold, Cond.code yX11_wasTold cX11_wasTold 4 (some .boolean)]
def wsX11_lost_r2 : List Cond := [Cond.fieldLink RX11 179 "ShipOfficeModel" "happened" "I", Cond.fieldLink RX11 40 "ShipOfficeModel" "what" "[I", Cond.fieldLink RX11 43 "ShipOfficeModel" "whose" "[I", Cond.methodLink RX11 191 yX11_happens, Cond.instanceMethod yX11_happens, Cond.selects RX11 yX11_happens yX11_happens, Cond.code yX11_happens cX11_happens 7 (some .int), Cond.fieldLink RX11 171 "ShipOfficeModel" "now" "I", Cond.fieldLink RX11 46 "ShipOfficeModel" "day" "[I", Cond.fieldLink RX11 49 "ShipOfficeModel" "known" "[I", Cond.fieldLink RX11 52 "ShipOfficeModel" "way" "[I", Cond.fieldLink RX11 55 "ShipOfficeModel" "port" "[I"]
def wsX11_lost : List Cond := .code yX11_lost cX11_lost 3 (some .int) :: ((wsX11_lost_r1 ++ wsX11_lost_r2) ++ wsX110)
theorem il_X11_lost_1 : ∀ w ∈ wsX11_lost_r1, w ∈ wsX11_lost := fun w h => (List.mem_cons_of_mem _ (List.mem_append_left _ (List.mem_append_left _ h)))
theorem il_X11_lost_2 : ∀ w ∈ wsX11_lost_r2, w ∈ wsX11_lost := fun w h => (List.mem_cons_of_mem _ (List.mem_append_left _ (List.mem_append_right _ h)))
theorem il_X11_lost_3 : ∀ w ∈ wsX110, w ∈ wsX11_lost := fun w h => (List.mem_cons_of_mem _ (List.mem_append_right _ h))
def wsX11_left_r1 : List Cond := [Cond.fieldLink RX11 88 "ShipOfficeModel" "offOn" "[I", Cond.fieldLink RX11 85 "ShipOfficeModel" "signed" "[I", Cond.methodLink RX11 199 yX11_isAgreement, Cond.instanceMethod yX11_isAgreement, Cond.selects RX11 yX11_isAgreement yX11_isAgreement, Cond.initialized RX11, Cond.code yX11_isAgreement cX11_isAgreement 2 (some .boolean), Cond.fieldLink RX11 168 "ShipOfficeModel" "agreements" "I", Cond.methodLink RX11 161 yX11_isIn, Cond.static yX11_isIn, Cond.code yX11_isIn cX11_isIn 2 (some .boolean), Cond.methodLink RX11 174 yX11_isPort, Cond.static yX11_isPort, Cond.code yX11_isPort cX11_isPort 1 (some .boolean), Cond.methodLink RX11 153 yX11_refuse, Cond.instanceMethod yX11_refuse, Cond.selects RX11 yX11_refuse yX11_refuse, Cond.code yX11_refuse cX11_refuse 2 (some .int), Cond.fieldLink RX11 7 "ShipOfficeModel" "refusals" "[I", Cond.methodLink RX11 191 yX11_happens, Cond.instanceMethod yX11_happens, Cond.selects RX11 yX11_happens yX11_happens, Cond.code yX11_happens cX11_happens 7 (some .int), Cond.fieldLink RX11 171 "ShipOfficeModel" "now" "I"]
def wsX11_left_r2 : List Cond := [Cond.fieldLink RX11 179 "ShipOfficeModel" "happened" "I", Cond.fieldLink RX11 40 "ShipOfficeModel" "what" "[I", Cond.fieldLink RX11 43 "ShipOfficeModel" "whose" "[I", Cond.fieldLink RX11 46 "ShipOfficeModel" "day" "[I", Cond.fieldLink RX11 49 "ShipOfficeModel" "known" "[I", Cond.fieldLink RX11 52 "ShipOfficeModel" "way" "[I", Cond.fieldLink RX11 55 "ShipOfficeModel" "port" "[I"]
def wsX11_left : List Cond := .code yX11_left cX11_left 5 (some .int) :: ((wsX11_left_r1 ++ wsX11_left_r2) ++ wsX110)
theorem il_X11_left_1 : ∀ w ∈ wsX11_left_r1, w ∈ wsX11_left := fun w h => (List.mem_cons_of_mem _ (List.mem_append_left _ (List.mem_append_left _ h)))
theorem il_X11_left_2 : ∀ w ∈ wsX11_left_r2, w ∈ wsX11_left := fun w h => (List.mem_cons_of_mem _ (List.mem_append_left _ (List.mem_append_right _ h)))
theorem il_X11_left_3 : ∀ w ∈ wsX110, w ∈ wsX11_left := fun w h => (List.mem_cons_of_mem _ (List.mem_append_right _ h))
theorem iw_X11_left_1 : Cond.fieldLink RX11 88 "ShipOfficeModel" "offOn" "[I" ∈ wsX11_left := (mmI il_X11_left_1 0 rfl)
theorem iw_X11_left_2 : Cond.fieldLink RX11 85 "ShipOfficeModel" "signed" "[I" ∈ wsX11_left := (mmI il_X11_left_1 1 rfl)
def wsX11_happensOf_r1 : List Cond := [Cond.fieldLink RX11 88 "ShipOfficeModel" "offOn" "[I", Cond.fieldLink RX11 85 "ShipOfficeModel" "signed" "[I", Cond.methodLink RX11 199 yX11_isAgreement, Cond.instanceMethod yX11_isAgreement, Cond.selects RX11 yX11_isAgreement yX11_isAgreement, Cond.initialized RX11, Cond.code yX11_isAgreement cX11_isAgreement 2 (some .boolean), Cond.fieldLink RX11 168 "ShipOfficeModel" "agreements" "I", Cond.methodLink RX11 161 yX11_isIn, Cond.static yX11_isIn, Cond.code yX11_isIn cX11_isIn 2 (some .boolean), Cond.methodLink RX11 153 yX11_refuse, Cond.instanceMethod yX11_refuse, Cond.selects RX11 yX11_refuse yX11_refuse, Cond.code yX11_refuse cX11_refuse 2 (some .int), Cond.fieldLink RX11 7 "ShipOfficeModel" "refusals" "[I", Cond.methodLink RX11 191 yX11_happens, Cond.instanceMethod yX11_happens, Cond.selects RX11 yX11_happens yX11_happens, Cond.code yX11_happens cX11_happens 7 (some .int), Cond.fieldLink RX11 171 "ShipOfficeModel" "now" "I", Cond.fieldLink RX11 179 "ShipOfficeModel" "happened" "I", Cond.fieldLink RX11 40 "ShipOfficeModel" "what" "[I", Cond.fieldLink RX11 43 "ShipOfficeModel" "whose" "[I"]
def wsX11_happensOf_r2 : List Cond := [Cond.fieldLink RX11 46 "ShipOfficeModel" "day" "[I", Cond.fieldLink RX11 49 "ShipOfficeModel" "known" "[I", Cond.fieldLink RX11 52 "ShipOfficeModel" "way" "[I", Cond.fieldLink RX11 55 "ShipOfficeModel" "port" "[I"]
def wsX11_happensOf : List Cond := .code yX11_happensOf cX11_happensOf 4 (some .int) :: ((wsX11_happensOf_r1 ++ wsX11_happensOf_r2) ++ wsX110)
theorem gw_X11_happensOf : wsX11_happensOf.all goodWord = true := by decide +kernel
theorem il_X11_happensOf_1 : ∀ w ∈ wsX11_happensOf_r1, w ∈ wsX11_happensOf := fun w h => (List.mem_cons_of_mem _ (List.mem_append_left _ (List.mem_append_left _ h)))
theorem il_X11_happensOf_2 : ∀ w ∈ wsX11_happensOf_r2, w ∈ wsX11_happensOf := fun w h => (List.mem_cons_of_mem _ (List.mem_append_left _ (List.mem_append_right _ h)))
theorem il_X11_happensOf_3 : ∀ w ∈ wsX110, w ∈ wsX11_happensOf := fun w h => (List.mem_cons_of_mem _ (List.mem_append_right _ h))
theorem iw_X11_happensOf_1 : Cond.fieldLink RX11 88 "ShipOfficeModel" "offOn" "[I" ∈ wsX11_happensOf := (mmI il_X11_happensOf_1 0 rfl)
theorem iw_X11_happensOf_2 : Cond.fieldLink RX11 85 "ShipOfficeModel" "signed" "[I" ∈ wsX11_happensOf := (mmI il_X11_happensOf_1 1 rfl)
def wsX11_died_r1 : List Cond := [Cond.methodLink RX11 202 yX11_happensOf, Cond.instanceMethod yX11_happensOf, Cond.selects RX11 yX11_happensOf yX11_happensOf, Cond.initialized RX11, Cond.code yX11_happensOf cX11_happensOf 4 (some .int), Cond.fieldLink RX11 88 "ShipOfficeModel" "offOn" "[I", Cond.fieldLink RX11 85 "ShipOfficeModel" "signed" "[I", Cond.methodLink RX11 199 yX11_isAgreement, Cond.instanceMethod yX11_isAgreement, Cond.selects RX11 yX11_isAgreement yX11_isAgreement, Cond.code yX11_isAgreement cX11_isAgreement 2 (some .boolean), Cond.fieldLink RX11 168 "ShipOfficeModel" "agreements" "I", Cond.methodLink RX11 161 yX11_isIn, Cond.static yX11_isIn, Cond.code yX11_isIn cX11_isIn 2 (some .boolean), Cond.methodLink RX11 153 yX11_refuse, Cond.instanceMethod yX11_refuse, Cond.selects RX11 yX11_refuse yX11_refuse, Cond.code yX11_refuse cX11_refuse 2 (some .int), Cond.fieldLink RX11 7 "ShipOfficeModel" "refusals" "[I", Cond.methodLink RX11 191 yX11_happens, Cond.instanceMethod yX11_happens, Cond.selects RX11 yX11_happens yX11_happens, Cond.code yX11_happens cX11_happens 7 (some .int)]
def wsX11_died_r2 : List Cond := [Cond.fieldLink RX11 171 "ShipOfficeModel" "now" "I", Cond.fieldLink RX11 179 "ShipOfficeModel" "happened" "I", Cond.fieldLink RX11 40 "ShipOfficeModel" "what" "[I", Cond.fieldLink RX11 43 "ShipOfficeModel" "whose" "[I", Cond.fieldLink RX11 46 "ShipOfficeModel" "day" "[I", Cond.fieldLink RX11 49 "ShipOfficeModel" "known" "[I", Cond.fieldLink RX11 52 "ShipOfficeModel" "way" "[I", Cond.fieldLink RX11 55 "ShipOfficeModel" "port" "[I"]
def wsX11_died : List Cond := .code yX11_died cX11_died 3 (some .int) :: ((wsX11_died_r1 ++ wsX11_died_r2) ++ wsX110)
theorem il_X11_died_1 : ∀ w ∈ wsX11_died_r1, w ∈ wsX11_died := fun w h => (List.mem_cons_of_mem _ (List.mem_append_left _ (List.mem_append_left _ h)))
theorem il_X11_died_2 : ∀ w ∈ wsX11_died_r2, w ∈ wsX11_died := fun w h => (List.mem_cons_of_mem _ (List.mem_append_left _ (List.mem_append_right _ h)))
theorem il_X11_died_3 : ∀ w ∈ wsX110, w ∈ wsX11_died := fun w h => (List.mem_cons_of_mem _ (List.mem_append_right _ h))
def wsX11_back_r1 : List Cond := [Cond.methodLink RX11 202 yX11_happensOf, Cond.instanceMethod yX11_happensOf, Cond.selects RX11 yX11_happensOf yX11_happensOf, Cond.initialized RX11, Cond.code yX11_happensOf cX11_happensOf 4 (some .int), Cond.fieldLink RX11 88 "ShipOfficeModel" "offOn" "[I", Cond.fieldLink RX11 85 "ShipOfficeModel" "signed" "[I", Cond.methodLink RX11 199 yX11_isAgreement, Cond.instanceMethod yX11_isAgreement, Cond.selects RX11 yX11_isAgreement yX11_isAgreement, Cond.code yX11_isAgreement cX11_isAgreement 2 (some .boolean), Cond.fieldLink RX11 168 "ShipOfficeModel" "agreements" "I", Cond.methodLink RX11 161 yX11_isIn, Cond.static yX11_isIn, Cond.code yX11_isIn cX11_isIn 2 (some .boolean), Cond.methodLink RX11 153 yX11_refuse, Cond.instanceMethod yX11_refuse, Cond.selects RX11 yX11_refuse yX11_refuse, Cond.code yX11_refuse cX11_refuse 2 (some .int), Cond.fieldLink RX11 7 "ShipOfficeModel" "refusals" "[I", Cond.methodLink RX11 191 yX11_happens, Cond.instanceMethod yX11_happens, Cond.selects RX11 yX11_happens yX11_happens, Cond.code yX11_happens cX11_happens 7 (some .int)]
def wsX11_back_r2 : List Cond := [Cond.fieldLink RX11 171 "ShipOfficeModel" "now" "I", Cond.fieldLink RX11 179 "ShipOfficeModel" "happened" "I", Cond.fieldLink RX11 40 "ShipOfficeModel" "what" "[I", Cond.fieldLink RX11 43 "ShipOfficeModel" "whose" "[I", Cond.fieldLink RX11 46 "ShipOfficeModel" "day" "[I", Cond.fieldLink RX11 49 "ShipOfficeModel" "known" "[I", Cond.fieldLink RX11 52 "ShipOfficeModel" "way" "[I", Cond.fieldLink RX11 55 "ShipOfficeModel" "port" "[I"]
def wsX11_back : List Cond := .code yX11_back cX11_back 3 (some .int) :: ((wsX11_back_r1 ++ wsX11_back_r2) ++ wsX110)
theorem il_X11_back_1 : ∀ w ∈ wsX11_back_r1, w ∈ wsX11_back := fun w h => (List.mem_cons_of_mem _ (List.mem_append_left _ (List.mem_append_left _ h)))
theorem il_X11_back_2 : ∀ w ∈ wsX11_back_r2, w ∈ wsX11_back := fun w h => (List.mem_cons_of_mem _ (List.mem_append_left _ (List.mem_append_right _ h)))
theorem il_X11_back_3 : ∀ w ∈ wsX110, w ∈ wsX11_back := fun w h => (List.mem_cons_of_mem _ (List.mem_append_right _ h))
set_option maxRecDepth 100000 in
theorem ggX11_happens_X11_refuse : GoodIn wsX11_happens wsX11_refuse := goodIn_sub (mmC (mmI il_X11_happens_1 12 rfl) (mmA (mmC (mmI il_X11_happens_1 13 rfl) mmN) il_X11_happens_2)) gw_X11_refuse
theorem gX11_happens_X11_refuse : GoodIn wsX11_happens (wsV RX11 153 RX11 yX11_refuse wsX11_refuse) := goodIn_app (goodIn_sub (mmC (mmI il_X11_happens_1 8 rfl) (mmC (mmI il_X11_happens_1 9 rfl) (mmC (mmI il_X11_happens_1 10 rfl) (mmC (mmI il_X11_happens_1 11 rfl) mmN)))) (by decide +kernel)) ggX11_happens_X11_refuse
theorem dX11_happens_0 : decode cX11_happens 0 = .ok (.iload_n 3, 1) := by decide +kernel
theorem dX11_happens_1 : decode cX11_happens 1 = .ok (.iload 6, 2) := by decide +kernel
theorem dX11_happens_3 : decode cX11_happens 3 = .ok (.if_icmp .ge 10, 3) := by decide +kernel
theorem dX11_happens_6 : decode cX11_happens 6 = .ok (.aload_n 0, 1) := by decide +kernel
theorem dX11_happens_7 : decode cX11_happens 7 = .ok (.bipush (-4), 2) := by decide +kernel
theorem dX11_happens_9 : decode cX11_happens 9 = .ok (.invokevirtual 153, 3) := by decide +kernel
theorem dX11_happens_12 : decode cX11_happens 12 = .ok (.ireturn, 1) := by decide +kernel
theorem dX11_happens_13 : decode cX11_happens 13 = .ok (.iload_n 3, 1) := by decide +kernel
theorem dX11_happens_14 : decode cX11_happens 14 = .ok (.aload_n 0, 1) := by decide +kernel
theorem dX11_happens_15 : decode cX11_happens 15 = .ok (.getfield 171, 3) := by decide +kernel
theorem dX11_happens_18 : decode cX11_happens 18 = .ok (.if_icmp .gt 13, 3) := by decide +kernel
theorem dX11_happens_21 : decode cX11_happens 21 = .ok (.aload_n 0, 1) := by decide +kernel
theorem dX11_happens_22 : decode cX11_happens 22 = .ok (.getfield 179, 3) := by decide +kernel
theorem dX11_happens_25 : decode cX11_happens 25 = .ok (.sipush 200, 3) := by decide +kernel
theorem dX11_happens_28 : decode cX11_happens 28 = .ok (.if_icmp .ne 10, 3) := by decide +kernel
theorem dX11_happens_31 : decode cX11_happens 31 = .ok (.aload_n 0, 1) := by decide +kernel
theorem dX11_happens_32 : decode cX11_happens 32 = .ok (.bipush (-6), 2) := by decide +kernel
theorem dX11_happens_34 : decode cX11_happens 34 = .ok (.invokevirtual 153, 3) := by decide +kernel
theorem dX11_happens_37 : decode cX11_happens 37 = .ok (.ireturn, 1) := by decide +kernel
theorem dX11_happens_38 : decode cX11_happens 38 = .ok (.aload_n 0, 1) := by decide +kernel
theorem dX11_happens_39 : decode cX11_happens 39 = .ok (.getfield 40, 3) := by decide +kernel
theorem dX11_happens_42 : decode cX11_happens 42 = .ok (.aload_n 0, 1) := by decide +kernel
theorem dX11_happens_43 : decode cX11_happens 43 = .ok (.getfield 179, 3) := by decide +kernel
theorem dX11_happens_46 : decode cX11_happens 46 = .ok (.iload_n 1, 1) := by decide +kernel
theorem dX11_happens_47 : decode cX11_happens 47 = .ok (.iastore, 1) := by decide +kernel
theorem dX11_happens_48 : decode cX11_happens 48 = .ok (.aload_n 0, 1) := by decide +kernel
theorem dX11_happens_49 : decode cX11_happens 49 = .ok (.getfield 43, 3) := by decide +kernel
theorem dX11_happens_52 : decode cX11_happens 52 = .ok (.aload_n 0, 1) := by decide +kernel
theorem dX11_happens_53 : decode cX11_happens 53 = .ok (.getfield 179, 3) := by decide +kernel
theorem dX11_happens_56 : decode cX11_happens 56 = .ok (.iload_n 2, 1) := by decide +kernel
theorem dX11_happens_57 : decode cX11_happens 57 = .ok (.iastore, 1) := by decide +kernel
theorem dX11_happens_58 : decode cX11_happens 58 = .ok (.aload_n 0, 1) := by decide +kernel
theorem dX11_happens_59 : decode cX11_happens 59 = .ok (.getfield 46, 3) := by decide +kernel
theorem dX11_happens_62 : decode cX11_happens 62 = .ok (.aload_n 0, 1) := by decide +kernel
theorem dX11_happens_63 : decode cX11_happens 63 = .ok (.getfield 179, 3) := by decide +kernel
theorem dX11_happens_66 : decode cX11_happens 66 = .ok (.iload_n 3, 1) := by decide +kernel
theorem dX11_happens_67 : decode cX11_happens 67 = .ok (.iastore, 1) := by decide +kernel
theorem dX11_happens_68 : decode cX11_happens 68 = .ok (.aload_n 0, 1) := by decide +kernel
theorem dX11_happens_69 : decode cX11_happens 69 = .ok (.getfield 49, 3) := by decide +kernel
theorem dX11_happens_72 : decode cX11_happens 72 = .ok (.aload_n 0, 1) := by decide +kernel
theorem dX11_happens_73 : decode cX11_happens 73 = .ok (.getfield 179, 3) := by decide +kernel
theorem dX11_happens_76 : decode cX11_happens 76 = .ok (.aload_n 0, 1) := by decide +kernel
theorem dX11_happens_77 : decode cX11_happens 77 = .ok (.getfield 171, 3) := by decide +kernel
theorem dX11_happens_80 : decode cX11_happens 80 = .ok (.iastore, 1) := by decide +kernel
theorem dX11_happens_81 : decode cX11_happens 81 = .ok (.aload_n 0, 1) := by decide +kernel
theorem dX11_happens_82 : decode cX11_happens 82 = .ok (.getfield 52, 3) := by decide +kernel
theorem dX11_happens_85 : decode cX11_happens 85 = .ok (.aload_n 0, 1) := by decide +kernel
theorem dX11_happens_86 : decode cX11_happens 86 = .ok (.getfield 179, 3) := by decide +kernel
theorem dX11_happens_89 : decode cX11_happens 89 = .ok (.iload 4, 2) := by decide +kernel
theorem dX11_happens_91 : decode cX11_happens 91 = .ok (.iastore, 1) := by decide +kernel
theorem dX11_happens_92 : decode cX11_happens 92 = .ok (.aload_n 0, 1) := by decide +kernel
theorem dX11_happens_93 : decode cX11_happens 93 = .ok (.getfield 55, 3) := by decide +kernel
theorem dX11_happens_96 : decode cX11_happens 96 = .ok (.aload_n 0, 1) := by decide +kernel
theorem dX11_happens_97 : decode cX11_happens 97 = .ok (.getfield 179, 3) := by decide +kernel
theorem dX11_happens_100 : decode cX11_happens 100 = .ok (.iload 5, 2) := by decide +kernel
theorem dX11_happens_102 : decode cX11_happens 102 = .ok (.iastore, 1) := by decide +kernel
theorem dX11_happens_103 : decode cX11_happens 103 = .ok (.aload_n 0, 1) := by decide +kernel
theorem dX11_happens_104 : decode cX11_happens 104 = .ok (.dup, 1) := by decide +kernel
theorem dX11_happens_105 : decode cX11_happens 105 = .ok (.getfield 179, 3) := by decide +kernel
theorem dX11_happens_108 : decode cX11_happens 108 = .ok (.iconst 1, 1) := by decide +kernel
theorem dX11_happens_109 : decode cX11_happens 109 = .ok (.iadd, 1) := by decide +kernel
theorem dX11_happens_110 : decode cX11_happens 110 = .ok (.putfield 179, 3) := by decide +kernel
theorem dX11_happens_113 : decode cX11_happens 113 = .ok (.aload_n 0, 1) := by decide +kernel
theorem dX11_happens_114 : decode cX11_happens 114 = .ok (.getfield 179, 3) := by decide +kernel
theorem dX11_happens_117 : decode cX11_happens 117 = .ok (.ireturn, 1) := by decide +kernel
set_option maxRecDepth 100000 in
theorem ggX11_happensTo_X11_isVoyage : GoodIn wsX11_happensTo wsX11_isVoyage := goodIn_sub (mmC (mmI il_X11_happensTo_1 6 rfl) (mmA (mmC (mmI il_X11_happensTo_1 7 rfl) (mmC (mmI il_X11_happensTo_1 8 rfl) (mmC (mmI il_X11_happensTo_1 9 rfl) (mmC (mmI il_X11_happensTo_1 5 rfl) (mmC (mmI il_X11_happensTo_1 10 rfl) mmN))))) il_X11_happensTo_3)) gw_X11_isVoyage
theorem gX11_happensTo_X11_isVoyage : GoodIn wsX11_happensTo (wsV RX11 185 RX11 yX11_isVoyage wsX11_isVoyage) := goodIn_app (goodIn_sub (mmC (mmI il_X11_happensTo_1 2 rfl) (mmC (mmI il_X11_happensTo_1 3 rfl) (mmC (mmI il_X11_happensTo_1 4 rfl) (mmC (mmI il_X11_happensTo_1 5 rfl) mmN)))) (by decide +kernel)) ggX11_happensTo_X11_isVoyage
set_option maxRecDepth 100000 in
theorem ggX11_happensTo_X11_refuse : GoodIn wsX11_happensTo wsX11_refuse := goodIn_sub (mmC (mmI il_X11_happensTo_1 14 rfl) (mmA (mmC (mmI il_X11_happensTo_1 15 rfl) mmN) il_X11_happensTo_3)) gw_X11_refuse
theorem gX11_happensTo_X11_refuse : GoodIn wsX11_happensTo (wsV RX11 153 RX11 yX11_refuse wsX11_refuse) := goodIn_app (goodIn_sub (mmC (mmI il_X11_happensTo_1 11 rfl) (mmC (mmI il_X11_happensTo_1 12 rfl) (mmC (mmI il_X11_happensTo_1 13 rfl) (mmC (mmI il_X11_happensTo_1 5 rfl) mmN)))) (by decide +kernel)) ggX11_happensTo_X11_refuse
set_option maxRecDepth 100000 in
theorem ggX11_happensTo_X11_wasTold : GoodIn wsX11_happensTo wsX11_wasTold := goodIn_sub (mmC (mmI il_X11_happensTo_1 19 rfl) (mmA (mmC (mmI il_X11_happensTo_1 20 rfl) (mmC (mmI il_X11_happensTo_1 21 rfl) (mmC (mmI il_X11_happensTo_1 22 rfl) mmN))) il_X11_happensTo_3)) gw_X11_wasTold
theorem gX11_happensTo_X11_wasTold : GoodIn wsX11_happensTo (wsV RX11 182 RX11 yX11_wasTold wsX11_wasTold) := goodIn_app (goodIn_sub (mmC (mmI il_X11_happensTo_1 16 rfl) (mmC (mmI il_X11_happensTo_1 17 rfl) (mmC (mmI il_X11_happensTo_1 18 rfl) (mmC (mmI il_X11_happensTo_1 5 rfl) mmN)))) (by decide +kernel)) ggX11_happensTo_X11_wasTold
set_option maxRecDepth 100000 in
theorem ggX11_happensTo_X11_happens : GoodIn wsX11_happensTo wsX11_happens := goodIn_sub (mmC (mmI il_X11_happensTo_2 2 rfl) (mmA (mmC (mmI il_X11_happensTo_2 3 rfl) (mmC (mmI il_X11_happensTo_1 20 rfl) (mmC (mmI il_X11_happensTo_1 21 rfl) (mmC (mmI il_X11_happensTo_1 22 rfl) (mmC (mmI il_X11_happensTo_2 4 rfl) (mmC (mmI il_X11_happensTo_2 5 rfl) (mmC (mmI il_X11_happensTo_2 6 rfl) (mmC (mmI il_X11_happensTo_2 7 rfl) (mmC (mmI il_X11_happensTo_1 11 rfl) (mmC (mmI il_X11_happensTo_1 12 rfl) (mmC (mmI il_X11_happensTo_1 13 rfl) (mmC (mmI il_X11_happensTo_1 5 rfl) (mmC (mmI il_X11_happensTo_1 14 rfl) (mmC (mmI il_X11_happensTo_1 15 rfl) mmN)))))))))))))) il_X11_happensTo_3)) gw_X11_happens
theorem gX11_happensTo_X11_happens : GoodIn wsX11_happensTo (wsV RX11 191 RX11 yX11_happens wsX11_happens) := goodIn_app (goodIn_sub (mmC (mmI il_X11_happensTo_1 23 rfl) (mmC (mmI il_X11_happensTo_2 0 rfl) (mmC (mmI il_X11_happensTo_2 1 rfl) (mmC (mmI il_X11_happensTo_1 5 rfl) mmN)))) (by decide +kernel)) ggX11_happensTo_X11_happens
theorem dX11_happensTo_0 : decode cX11_happensTo 0 = .ok (.aload_n 0, 1) := by decide +kernel
theorem dX11_happensTo_1 : decode cX11_happensTo 1 = .ok (.iload_n 2, 1) := by decide +kernel
theorem dX11_happensTo_2 : decode cX11_happensTo 2 = .ok (.invokevirtual 185, 3) := by decide +kernel
theorem dX11_happensTo_5 : decode cX11_happensTo 5 = .ok (.ifCond .ne 9, 3) := by decide +kernel
theorem dX11_happensTo_8 : decode cX11_happensTo 8 = .ok (.aload_n 0, 1) := by decide +kernel
theorem dX11_happensTo_9 : decode cX11_happensTo 9 = .ok (.iconst (-1), 1) := by decide +kernel
theorem dX11_happensTo_10 : decode cX11_happensTo 10 = .ok (.invokevirtual 153, 3) := by decide +kernel
theorem dX11_happensTo_13 : decode cX11_happensTo 13 = .ok (.ireturn, 1) := by decide +kernel
theorem dX11_happensTo_14 : decode cX11_happensTo 14 = .ok (.aload_n 0, 1) := by decide +kernel
theorem dX11_happensTo_15 : decode cX11_happensTo 15 = .ok (.getfield 37, 3) := by decide +kernel
theorem dX11_happensTo_18 : decode cX11_happensTo 18 = .ok (.iload_n 2, 1) := by decide +kernel
theorem dX11_happensTo_19 : decode cX11_happensTo 19 = .ok (.iaload, 1) := by decide +kernel
theorem dX11_happensTo_20 : decode cX11_happensTo 20 = .ok (.ifCond .ge 17, 3) := by decide +kernel
theorem dX11_happensTo_23 : decode cX11_happensTo 23 = .ok (.iload_n 1, 1) := by decide +kernel
theorem dX11_happensTo_24 : decode cX11_happensTo 24 = .ok (.iconst 1, 1) := by decide +kernel
theorem dX11_happensTo_25 : decode cX11_happensTo 25 = .ok (.if_icmp .eq 19, 3) := by decide +kernel
theorem dX11_happensTo_28 : decode cX11_happensTo 28 = .ok (.aload_n 0, 1) := by decide +kernel
theorem dX11_happensTo_29 : decode cX11_happensTo 29 = .ok (.iload_n 1, 1) := by decide +kernel
theorem dX11_happensTo_30 : decode cX11_happensTo 30 = .ok (.iload_n 2, 1) := by decide +kernel
theorem dX11_happensTo_31 : decode cX11_happensTo 31 = .ok (.invokevirtual 182, 3) := by decide +kernel
theorem dX11_happensTo_34 : decode cX11_happensTo 34 = .ok (.ifCond .eq 10, 3) := by decide +kernel
theorem dX11_happensTo_37 : decode cX11_happensTo 37 = .ok (.aload_n 0, 1) := by decide +kernel
theorem dX11_happensTo_38 : decode cX11_happensTo 38 = .ok (.bipush (-3), 2) := by decide +kernel
theorem dX11_happensTo_40 : decode cX11_happensTo 40 = .ok (.invokevirtual 153, 3) := by decide +kernel
theorem dX11_happensTo_43 : decode cX11_happensTo 43 = .ok (.ireturn, 1) := by decide +kernel
theorem dX11_happensTo_44 : decode cX11_happensTo 44 = .ok (.aload_n 0, 1) := by decide +kernel
theorem dX11_happensTo_45 : decode cX11_happensTo 45 = .ok (.iload_n 1, 1) := by decide +kernel
theorem dX11_happensTo_46 : decode cX11_happensTo 46 = .ok (.iload_n 2, 1) := by decide +kernel
theorem dX11_happensTo_47 : decode cX11_happensTo 47 = .ok (.iload_n 3, 1) := by decide +kernel
theorem dX11_happensTo_48 : decode cX11_happensTo 48 = .ok (.iconst 0, 1) := by decide +kernel
theorem dX11_happensTo_49 : decode cX11_happensTo 49 = .ok (.iconst 0, 1) := by decide +kernel
theorem dX11_happensTo_50 : decode cX11_happensTo 50 = .ok (.aload_n 0, 1) := by decide +kernel
theorem dX11_happensTo_51 : decode cX11_happensTo 51 = .ok (.getfield 31, 3) := by decide +kernel
theorem dX11_happensTo_54 : decode cX11_happensTo 54 = .ok (.iload_n 2, 1) := by decide +kernel
theorem dX11_happensTo_55 : decode cX11_happensTo 55 = .ok (.iaload, 1) := by decide +kernel
theorem dX11_happensTo_56 : decode cX11_happensTo 56 = .ok (.invokevirtual 191, 3) := by decide +kernel
theorem dX11_happensTo_59 : decode cX11_happensTo 59 = .ok (.ireturn, 1) := by decide +kernel
set_option maxRecDepth 100000 in
theorem ggX11_sailed_X11_happensTo : GoodIn wsX11_sailed wsX11_happensTo := goodIn_sub (mmC (mmI il_X11_sailed_1 4 rfl) (mmA (mmA (mmC (mmI il_X11_sailed_1 5 rfl) (mmC (mmI il_X11_sailed_1 6 rfl) (mmC (mmI il_X11_sailed_1 7 rfl) (mmC (mmI il_X11_sailed_1 8 rfl) (mmC (mmI il_X11_sailed_1 9 rfl) (mmC (mmI il_X11_sailed_1 3 rfl) (mmC (mmI il_X11_sailed_1 10 rfl) (mmC (mmI il_X11_sailed_1 11 rfl) (mmC (mmI il_X11_sailed_1 12 rfl) (mmC (mmI il_X11_sailed_1 13 rfl) (mmC (mmI il_X11_sailed_1 14 rfl) (mmC (mmI il_X11_sailed_1 15 rfl) (mmC (mmI il_X11_sailed_1 16 rfl) (mmC (mmI il_X11_sailed_1 17 rfl) (mmC (mmI il_X11_sailed_1 18 rfl) (mmC (mmI il_X11_sailed_1 19 rfl) (mmC (mmI il_X11_sailed_1 20 rfl) (mmC (mmI il_X11_sailed_1 21 rfl) (mmC (mmI il_X11_sailed_1 22 rfl) (mmC (mmI il_X11_sailed_1 23 rfl) (mmC (mmI il_X11_sailed_2 0 rfl) (mmC (mmI il_X11_sailed_2 1 rfl) (mmC (mmI il_X11_sailed_2 2 rfl) (mmC (mmI il_X11_sailed_2 3 rfl) mmN)))))))))))))))))))))))) (mmC (mmI il_X11_sailed_2 4 rfl) (mmC (mmI il_X11_sailed_2 5 rfl) (mmC (mmI il_X11_sailed_2 6 rfl) (mmC (mmI il_X11_sailed_2 7 rfl) (mmC (mmI il_X11_sailed_2 8 rfl) (mmC (mmI il_X11_sailed_2 9 rfl) (mmC (mmI il_X11_sailed_2 10 rfl) (mmC (mmI il_X11_sailed_2 11 rfl) mmN))))))))) il_X11_sailed_3)) gw_X11_happensTo
theorem gX11_sailed_X11_happensTo : GoodIn wsX11_sailed (wsV RX11 195 RX11 yX11_happensTo wsX11_happensTo) := goodIn_app (goodIn_sub (mmC (mmI il_X11_sailed_1 0 rfl) (mmC (mmI il_X11_sailed_1 1 rfl) (mmC (mmI il_X11_sailed_1 2 rfl) (mmC (mmI il_X11_sailed_1 3 rfl) mmN)))) (by decide +kernel)) ggX11_sailed_X11_happensTo
theorem dX11_sailed_0 : decode cX11_sailed 0 = .ok (.aload_n 0, 1) := by decide +kernel
theorem dX11_sailed_1 : decode cX11_sailed 1 = .ok (.iconst 0, 1) := by decide +kernel
theorem dX11_sailed_2 : decode cX11_sailed 2 = .ok (.iload_n 1, 1) := by decide +kernel
theorem dX11_sailed_3 : decode cX11_sailed 3 = .ok (.iload_n 2, 1) := by decide +kernel
theorem dX11_sailed_4 : decode cX11_sailed 4 = .ok (.invokevirtual 195, 3) := by decide +kernel
theorem dX11_sailed_7 : decode cX11_sailed 7 = .ok (.ireturn, 1) := by decide +kernel
set_option maxRecDepth 100000 in
theorem ggX11_heard_X11_happensTo : GoodIn wsX11_heard wsX11_happensTo := goodIn_sub (mmC (mmI il_X11_heard_1 4 rfl) (mmA (mmA (mmC (mmI il_X11_heard_1 5 rfl) (mmC (mmI il_X11_heard_1 6 rfl) (mmC (mmI il_X11_heard_1 7 rfl) (mmC (mmI il_X11_heard_1 8 rfl) (mmC (mmI il_X11_heard_1 9 rfl) (mmC (mmI il_X11_heard_1 3 rfl) (mmC (mmI il_X11_heard_1 10 rfl) (mmC (mmI il_X11_heard_1 11 rfl) (mmC (mmI il_X11_heard_1 12 rfl) (mmC (mmI il_X11_heard_1 13 rfl) (mmC (mmI il_X11_heard_1 14 rfl) (mmC (mmI il_X11_heard_1 15 rfl) (mmC (mmI il_X11_heard_1 16 rfl) (mmC (mmI il_X11_heard_1 17 rfl) (mmC (mmI il_X11_heard_1 18 rfl) (mmC (mmI il_X11_heard_1 19 rfl) (mmC (mmI il_X11_heard_1 20 rfl) (mmC (mmI il_X11_heard_1 21 rfl) (mmC (mmI il_X11_heard_1 22 rfl) (mmC (mmI il_X11_heard_1 23 rfl) (mmC (mmI il_X11_heard_2 0 rfl) (mmC (mmI il_X11_heard_2 1 rfl) (mmC (mmI il_X11_heard_2 2 rfl) (mmC (mmI il_X11_heard_2 3 rfl) mmN)))))))))))))))))))))))) (mmC (mmI il_X11_heard_2 4 rfl) (mmC (mmI il_X11_heard_2 5 rfl) (mmC (mmI il_X11_heard_2 6 rfl) (mmC (mmI il_X11_heard_2 7 rfl) (mmC (mmI il_X11_heard_2 8 rfl) (mmC (mmI il_X11_heard_2 9 rfl) (mmC (mmI il_X11_heard_2 10 rfl) (mmC (mmI il_X11_heard_2 11 rfl) mmN))))))))) il_X11_heard_3)) gw_X11_happensTo
theorem gX11_heard_X11_happensTo : GoodIn wsX11_heard (wsV RX11 195 RX11 yX11_happensTo wsX11_happensTo) := goodIn_app (goodIn_sub (mmC (mmI il_X11_heard_1 0 rfl) (mmC (mmI il_X11_heard_1 1 rfl) (mmC (mmI il_X11_heard_1 2 rfl) (mmC (mmI il_X11_heard_1 3 rfl) mmN)))) (by decide +kernel)) ggX11_heard_X11_happensTo
theorem dX11_heard_0 : decode cX11_heard 0 = .ok (.aload_n 0, 1) := by decide +kernel
theorem dX11_heard_1 : decode cX11_heard 1 = .ok (.iconst 1, 1) := by decide +kernel
theorem dX11_heard_2 : decode cX11_heard 2 = .ok (.iload_n 1, 1) := by decide +kernel
theorem dX11_heard_3 : decode cX11_heard 3 = .ok (.iload_n 2, 1) := by decide +kernel
theorem dX11_heard_4 : decode cX11_heard 4 = .ok (.invokevirtual 195, 3) := by decide +kernel
theorem dX11_heard_7 : decode cX11_heard 7 = .ok (.ireturn, 1) := by decide +kernel
set_option maxRecDepth 100000 in
theorem ggX11_lost_X11_happensTo : GoodIn wsX11_lost wsX11_happensTo := goodIn_sub (mmC (mmI il_X11_lost_1 4 rfl) (mmA (mmA (mmC (mmI il_X11_lost_1 5 rfl) (mmC (mmI il_X11_lost_1 6 rfl) (mmC (mmI il_X11_lost_1 7 rfl) (mmC (mmI il_X11_lost_1 8 rfl) (mmC (mmI il_X11_lost_1 9 rfl) (mmC (mmI il_X11_lost_1 3 rfl) (mmC (mmI il_X11_lost_1 10 rfl) (mmC (mmI il_X11_lost_1 11 rfl) (mmC (mmI il_X11_lost_1 12 rfl) (mmC (mmI il_X11_lost_1 13 rfl) (mmC (mmI il_X11_lost_1 14 rfl) (mmC (mmI il_X11_lost_1 15 rfl) (mmC (mmI il_X11_lost_1 16 rfl) (mmC (mmI il_X11_lost_1 17 rfl) (mmC (mmI il_X11_lost_1 18 rfl) (mmC (mmI il_X11_lost_1 19 rfl) (mmC (mmI il_X11_lost_1 20 rfl) (mmC (mmI il_X11_lost_1 21 rfl) (mmC (mmI il_X11_lost_1 22 rfl) (mmC (mmI il_X11_lost_1 23 rfl) (mmC (mmI il_X11_lost_2 0 rfl) (mmC (mmI il_X11_lost_2 1 rfl) (mmC (mmI il_X11_lost_2 2 rfl) (mmC (mmI il_X11_lost_2 3 rfl) mmN)))))))))))))))))))))))) (mmC (mmI il_X11_lost_2 4 rfl) (mmC (mmI il_X11_lost_2 5 rfl) (mmC (mmI il_X11_lost_2 6 rfl) (mmC (mmI il_X11_lost_2 7 rfl) (mmC (mmI il_X11_lost_2 8 rfl) (mmC (mmI il_X11_lost_2 9 rfl) (mmC (mmI il_X11_lost_2 10 rfl) (mmC (mmI il_X11_lost_2 11 rfl) mmN))))))))) il_X11_lost_3)) gw_X11_happensTo
theorem gX11_lost_X11_happensTo : GoodIn wsX11_lost (wsV RX11 195 RX11 yX11_happensTo wsX11_happensTo) := goodIn_app (goodIn_sub (mmC (mmI il_X11_lost_1 0 rfl) (mmC (mmI il_X11_lost_1 1 rfl) (mmC (mmI il_X11_lost_1 2 rfl) (mmC (mmI il_X11_lost_1 3 rfl) mmN)))) (by decide +kernel)) ggX11_lost_X11_happensTo
theorem dX11_lost_0 : decode cX11_lost 0 = .ok (.aload_n 0, 1) := by decide +kernel
theorem dX11_lost_1 : decode cX11_lost 1 = .ok (.iconst 2, 1) := by decide +kernel
theorem dX11_lost_2 : decode cX11_lost 2 = .ok (.iload_n 1, 1) := by decide +kernel
theorem dX11_lost_3 : decode cX11_lost 3 = .ok (.iload_n 2, 1) := by decide +kernel
theorem dX11_lost_4 : decode cX11_lost 4 = .ok (.invokevirtual 195, 3) := by decide +kernel
theorem dX11_lost_7 : decode cX11_lost 7 = .ok (.ireturn, 1) := by decide +kernel
set_option maxRecDepth 100000 in
theorem ggX11_left_X11_isAgreement : GoodIn wsX11_left wsX11_isAgreement := goodIn_sub (mmC (mmI il_X11_left_1 6 rfl) (mmA (mmC (mmI il_X11_left_1 7 rfl) (mmC (mmI il_X11_left_1 8 rfl) (mmC (mmI il_X11_left_1 9 rfl) (mmC (mmI il_X11_left_1 5 rfl) (mmC (mmI il_X11_left_1 10 rfl) mmN))))) il_X11_left_3)) gw_X11_isAgreement
theorem gX11_left_X11_isAgreement : GoodIn wsX11_left (wsV RX11 199 RX11 yX11_isAgreement wsX11_isAgreement) := goodIn_app (goodIn_sub (mmC (mmI il_X11_left_1 2 rfl) (mmC (mmI il_X11_left_1 3 rfl) (mmC (mmI il_X11_left_1 4 rfl) (mmC (mmI il_X11_left_1 5 rfl) mmN)))) (by decide +kernel)) ggX11_left_X11_isAgreement
set_option maxRecDepth 100000 in
theorem ggX11_left_X11_isPort : GoodIn wsX11_left wsX11_isPort := goodIn_sub (mmC (mmI il_X11_left_1 13 rfl) (mmC (mmI il_X11_left_1 8 rfl) (mmC (mmI il_X11_left_1 9 rfl) (mmC (mmI il_X11_left_1 5 rfl) (mmC (mmI il_X11_left_1 10 rfl) mmN))))) gw_X11_isPort
set_option maxRecDepth 20000 in
theorem gX11_left_X11_isPort : GoodIn wsX11_left (va_wsS RX11 174 yX11_isPort wsX11_isPort) := goodIn_app (goodIn_of _ (by decide +kernel)) ggX11_left_X11_isPort
set_option maxRecDepth 100000 in
theorem ggX11_left_X11_refuse : GoodIn wsX11_left wsX11_refuse := goodIn_sub (mmC (mmI il_X11_left_1 17 rfl) (mmA (mmC (mmI il_X11_left_1 18 rfl) mmN) il_X11_left_3)) gw_X11_refuse
theorem gX11_left_X11_refuse : GoodIn wsX11_left (wsV RX11 153 RX11 yX11_refuse wsX11_refuse) := goodIn_app (goodIn_sub (mmC (mmI il_X11_left_1 14 rfl) (mmC (mmI il_X11_left_1 15 rfl) (mmC (mmI il_X11_left_1 16 rfl) (mmC (mmI il_X11_left_1 5 rfl) mmN)))) (by decide +kernel)) ggX11_left_X11_refuse
set_option maxRecDepth 100000 in
theorem ggX11_left_X11_isIn : GoodIn wsX11_left wsX11_isIn := goodIn_sub (mmC (mmI il_X11_left_1 10 rfl) mmN) gw_X11_isIn
set_option maxRecDepth 20000 in
theorem gX11_left_X11_isIn : GoodIn wsX11_left (va_wsS RX11 161 yX11_isIn wsX11_isIn) := goodIn_app (goodIn_of _ (by decide +kernel)) ggX11_left_X11_isIn
set_option maxRecDepth 100000 in
theorem ggX11_left_X11_happens : GoodIn wsX11_left wsX11_happens := goodIn_sub (mmC (mmI il_X11_left_1 22 rfl) (mmA (mmC (mmI il_X11_left_1 23 rfl) (mmC (mmI il_X11_left_2 0 rfl) (mmC (mmI il_X11_left_2 1 rfl) (mmC (mmI il_X11_left_2 2 rfl) (mmC (mmI il_X11_left_2 3 rfl) (mmC (mmI il_X11_left_2 4 rfl) (mmC (mmI il_X11_left_2 5 rfl) (mmC (mmI il_X11_left_2 6 rfl) (mmC (mmI il_X11_left_1 14 rfl) (mmC (mmI il_X11_left_1 15 rfl) (mmC (mmI il_X11_left_1 16 rfl) (mmC (mmI il_X11_left_1 5 rfl) (mmC (mmI il_X11_left_1 17 rfl) (mmC (mmI il_X11_left_1 18 rfl) mmN)))))))))))))) il_X11_left_3)) gw_X11_happens
theorem gX11_left_X11_happens : GoodIn wsX11_left (wsV RX11 191 RX11 yX11_happens wsX11_happens) := goodIn_app (goodIn_sub (mmC (mmI il_X11_left_1 19 rfl) (mmC (mmI il_X11_left_1 20 rfl) (mmC (mmI il_X11_left_1 21 rfl) (mmC (mmI il_X11_left_1 5 rfl) mmN)))) (by decide +kernel)) ggX11_left_X11_happens
theorem dX11_left_0 : decode cX11_left 0 = .ok (.aload_n 0, 1) := by decide +kernel
theorem dX11_left_1 : decode cX11_left 1 = .ok (.iload_n 1, 1) := by decide +kernel
theorem dX11_left_2 : decode cX11_left 2 = .ok (.invokevirtual 199, 3) := by decide +kernel
theorem dX11_left_5 : decode cX11_left 5 = .ok (.ifCond .eq 11, 3) := by decide +kernel
theorem dX11_left_8 : decode cX11_left 8 = .ok (.iload 4, 2) := by decide +kernel
theorem dX11_left_10 : decode cX11_left 10 = .ok (.invokestatic 174, 3) := by decide +kernel
theorem dX11_left_13 : decode cX11_left 13 = .ok (.ifCond .ne 9, 3) := by decide +kernel
theorem dX11_left_16 : decode cX11_left 16 = .ok (.aload_n 0, 1) := by decide +kernel
theorem dX11_left_17 : decode cX11_left 17 = .ok (.iconst (-1), 1) := by decide +kernel
theorem dX11_left_18 : decode cX11_left 18 = .ok (.invokevirtual 153, 3) := by decide +kernel
theorem dX11_left_21 : decode cX11_left 21 = .ok (.ireturn, 1) := by decide +kernel
theorem dX11_left_22 : decode cX11_left 22 = .ok (.iload_n 3, 1) := by decide +kernel
theorem dX11_left_23 : decode cX11_left 23 = .ok (.iconst 3, 1) := by decide +kernel
theorem dX11_left_24 : decode cX11_left 24 = .ok (.invokestatic 161, 3) := by decide +kernel
theorem dX11_left_27 : decode cX11_left 27 = .ok (.ifCond .ne 10, 3) := by decide +kernel
theorem dX11_left_30 : decode cX11_left 30 = .ok (.aload_n 0, 1) := by decide +kernel
theorem dX11_left_31 : decode cX11_left 31 = .ok (.bipush (-2), 2) := by decide +kernel
theorem dX11_left_33 : decode cX11_left 33 = .ok (.invokevirtual 153, 3) := by decide +kernel
theorem dX11_left_36 : decode cX11_left 36 = .ok (.ireturn, 1) := by decide +kernel
theorem dX11_left_37 : decode cX11_left 37 = .ok (.aload_n 0, 1) := by decide +kernel
theorem dX11_left_38 : decode cX11_left 38 = .ok (.getfield 88, 3) := by decide +kernel
theorem dX11_left_41 : decode cX11_left 41 = .ok (.iload_n 1, 1) := by decide +kernel
theorem dX11_left_42 : decode cX11_left 42 = .ok (.iaload, 1) := by decide +kernel
theorem dX11_left_43 : decode cX11_left 43 = .ok (.ifCond .lt 12, 3) := by decide +kernel
theorem dX11_left_46 : decode cX11_left 46 = .ok (.aload_n 0, 1) := by decide +kernel
theorem dX11_left_47 : decode cX11_left 47 = .ok (.bipush (-3), 2) := by decide +kernel
theorem dX11_left_49 : decode cX11_left 49 = .ok (.invokevirtual 153, 3) := by decide +kernel
theorem dX11_left_52 : decode cX11_left 52 = .ok (.goto 19, 3) := by decide +kernel
theorem dX11_left_55 : decode cX11_left 55 = .ok (.aload_n 0, 1) := by decide +kernel
theorem dX11_left_56 : decode cX11_left 56 = .ok (.iconst 3, 1) := by decide +kernel
theorem dX11_left_57 : decode cX11_left 57 = .ok (.iload_n 1, 1) := by decide +kernel
theorem dX11_left_58 : decode cX11_left 58 = .ok (.iload_n 2, 1) := by decide +kernel
theorem dX11_left_59 : decode cX11_left 59 = .ok (.iload_n 3, 1) := by decide +kernel
theorem dX11_left_60 : decode cX11_left 60 = .ok (.iload 4, 2) := by decide +kernel
theorem dX11_left_62 : decode cX11_left 62 = .ok (.aload_n 0, 1) := by decide +kernel
theorem dX11_left_63 : decode cX11_left 63 = .ok (.getfield 85, 3) := by decide +kernel
theorem dX11_left_66 : decode cX11_left 66 = .ok (.iload_n 1, 1) := by decide +kernel
theorem dX11_left_67 : decode cX11_left 67 = .ok (.iaload, 1) := by decide +kernel
theorem dX11_left_68 : decode cX11_left 68 = .ok (.invokevirtual 191, 3) := by decide +kernel
theorem dX11_left_71 : decode cX11_left 71 = .ok (.ireturn, 1) := by decide +kernel
set_option maxRecDepth 100000 in
theorem ggX11_happensOf_X11_isAgreement : GoodIn wsX11_happensOf wsX11_isAgreement := goodIn_sub (mmC (mmI il_X11_happensOf_1 6 rfl) (mmA (mmC (mmI il_X11_happensOf_1 7 rfl) (mmC (mmI il_X11_happensOf_1 8 rfl) (mmC (mmI il_X11_happensOf_1 9 rfl) (mmC (mmI il_X11_happensOf_1 5 rfl) (mmC (mmI il_X11_happensOf_1 10 rfl) mmN))))) il_X11_happensOf_3)) gw_X11_isAgreement
theorem gX11_happensOf_X11_isAgreement : GoodIn wsX11_happensOf (wsV RX11 199 RX11 yX11_isAgreement wsX11_isAgreement) := goodIn_app (goodIn_sub (mmC (mmI il_X11_happensOf_1 2 rfl) (mmC (mmI il_X11_happensOf_1 3 rfl) (mmC (mmI il_X11_happensOf_1 4 rfl) (mmC (mmI il_X11_happensOf_1 5 rfl) mmN)))) (by decide +kernel)) ggX11_happensOf_X11_isAgreement
set_option maxRecDepth 100000 in
theorem ggX11_happensOf_X11_refuse : GoodIn wsX11_happensOf wsX11_refuse := goodIn_sub (mmC (mmI il_X11_happensOf_1 14 rfl) (mmA (mmC (mmI il_X11_happensOf_1 15 rfl) mmN) il_X11_happensOf_3)) gw_X11_refuse
theorem gX11_happensOf_X11_refuse : GoodIn wsX11_happensOf (wsV RX11 153 RX11 yX11_refuse wsX11_refuse) := goodIn_app (goodIn_sub (mmC (mmI il_X11_happensOf_1 11 rfl) (mmC (mmI il_X11_happensOf_1 12 rfl) (mmC (mmI il_X11_happensOf_1 13 rfl) (mmC (mmI il_X11_happensOf_1 5 rfl) mmN)))) (by decide +kernel)) ggX11_happensOf_X11_refuse
set_option maxRecDepth 100000 in
theorem ggX11_happensOf_X11_happens : GoodIn wsX11_happensOf wsX11_happens := goodIn_sub (mmC (mmI il_X11_happensOf_1 19 rfl) (mmA (mmC (mmI il_X11_happensOf_1 20 rfl) (mmC (mmI il_X11_happensOf_1 21 rfl) (mmC (mmI il_X11_happensOf_1 22 rfl) (mmC (mmI il_X11_happensOf_1 23 rfl) (mmC (mmI il_X11_happensOf_2 0 rfl) (mmC (mmI il_X11_happensOf_2 1 rfl) (mmC (mmI il_X11_happensOf_2 2 rfl) (mmC (mmI il_X11_happensOf_2 3 rfl) (mmC (mmI il_X11_happensOf_1 11 rfl) (mmC (mmI il_X11_happensOf_1 12 rfl) (mmC (mmI il_X11_happensOf_1 13 rfl) (mmC (mmI il_X11_happensOf_1 5 rfl) (mmC (mmI il_X11_happensOf_1 14 rfl) (mmC (mmI il_X11_happensOf_1 15 rfl) mmN)))))))))))))) il_X11_happensOf_3)) gw_X11_happens
theorem gX11_happensOf_X11_happens : GoodIn wsX11_happensOf (wsV RX11 191 RX11 yX11_happens wsX11_happens) := goodIn_app (goodIn_sub (mmC (mmI il_X11_happensOf_1 16 rfl) (mmC (mmI il_X11_happensOf_1 17 rfl) (mmC (mmI il_X11_happensOf_1 18 rfl) (mmC (mmI il_X11_happensOf_1 5 rfl) mmN)))) (by decide +kernel)) ggX11_happensOf_X11_happens
theorem dX11_happensOf_0 : decode cX11_happensOf 0 = .ok (.aload_n 0, 1) := by decide +kernel
theorem dX11_happensOf_1 : decode cX11_happensOf 1 = .ok (.iload_n 2, 1) := by decide +kernel
theorem dX11_happensOf_2 : decode cX11_happensOf 2 = .ok (.invokevirtual 199, 3) := by decide +kernel
theorem dX11_happensOf_5 : decode cX11_happensOf 5 = .ok (.ifCond .ne 9, 3) := by decide +kernel
theorem dX11_happensOf_8 : decode cX11_happensOf 8 = .ok (.aload_n 0, 1) := by decide +kernel
theorem dX11_happensOf_9 : decode cX11_happensOf 9 = .ok (.iconst (-1), 1) := by decide +kernel
theorem dX11_happensOf_10 : decode cX11_happensOf 10 = .ok (.invokevirtual 153, 3) := by decide +kernel
theorem dX11_happensOf_13 : decode cX11_happensOf 13 = .ok (.ireturn, 1) := by decide +kernel
theorem dX11_happensOf_14 : decode cX11_happensOf 14 = .ok (.aload_n 0, 1) := by decide +kernel
theorem dX11_happensOf_15 : decode cX11_happensOf 15 = .ok (.getfield 88, 3) := by decide +kernel
theorem dX11_happensOf_18 : decode cX11_happensOf 18 = .ok (.iload_n 2, 1) := by decide +kernel
theorem dX11_happensOf_19 : decode cX11_happensOf 19 = .ok (.iaload, 1) := by decide +kernel
theorem dX11_happensOf_20 : decode cX11_happensOf 20 = .ok (.ifCond .lt 12, 3) := by decide +kernel
theorem dX11_happensOf_23 : decode cX11_happensOf 23 = .ok (.aload_n 0, 1) := by decide +kernel
theorem dX11_happensOf_24 : decode cX11_happensOf 24 = .ok (.bipush (-3), 2) := by decide +kernel
theorem dX11_happensOf_26 : decode cX11_happensOf 26 = .ok (.invokevirtual 153, 3) := by decide +kernel
theorem dX11_happensOf_29 : decode cX11_happensOf 29 = .ok (.goto 18, 3) := by decide +kernel
theorem dX11_happensOf_32 : decode cX11_happensOf 32 = .ok (.aload_n 0, 1) := by decide +kernel
theorem dX11_happensOf_33 : decode cX11_happensOf 33 = .ok (.iload_n 1, 1) := by decide +kernel
theorem dX11_happensOf_34 : decode cX11_happensOf 34 = .ok (.iload_n 2, 1) := by decide +kernel
theorem dX11_happensOf_35 : decode cX11_happensOf 35 = .ok (.iload_n 3, 1) := by decide +kernel
theorem dX11_happensOf_36 : decode cX11_happensOf 36 = .ok (.iconst 0, 1) := by decide +kernel
theorem dX11_happensOf_37 : decode cX11_happensOf 37 = .ok (.iconst 0, 1) := by decide +kernel
theorem dX11_happensOf_38 : decode cX11_happensOf 38 = .ok (.aload_n 0, 1) := by decide +kernel
theorem dX11_happensOf_39 : decode cX11_happensOf 39 = .ok (.getfield 85, 3) := by decide +kernel
theorem dX11_happensOf_42 : decode cX11_happensOf 42 = .ok (.iload_n 2, 1) := by decide +kernel
theorem dX11_happensOf_43 : decode cX11_happensOf 43 = .ok (.iaload, 1) := by decide +kernel
theorem dX11_happensOf_44 : decode cX11_happensOf 44 = .ok (.invokevirtual 191, 3) := by decide +kernel
theorem dX11_happensOf_47 : decode cX11_happensOf 47 = .ok (.ireturn, 1) := by decide +kernel
set_option maxRecDepth 100000 in
theorem ggX11_died_X11_happensOf : GoodIn wsX11_died wsX11_happensOf := goodIn_sub (mmC (mmI il_X11_died_1 4 rfl) (mmA (mmA (mmC (mmI il_X11_died_1 5 rfl) (mmC (mmI il_X11_died_1 6 rfl) (mmC (mmI il_X11_died_1 7 rfl) (mmC (mmI il_X11_died_1 8 rfl) (mmC (mmI il_X11_died_1 9 rfl) (mmC (mmI il_X11_died_1 3 rfl) (mmC (mmI il_X11_died_1 10 rfl) (mmC (mmI il_X11_died_1 11 rfl) (mmC (mmI il_X11_died_1 12 rfl) (mmC (mmI il_X11_died_1 13 rfl) (mmC (mmI il_X11_died_1 14 rfl) (mmC (mmI il_X11_died_1 15 rfl) (mmC (mmI il_X11_died_1 16 rfl) (mmC (mmI il_X11_died_1 17 rfl) (mmC (mmI il_X11_died_1 18 rfl) (mmC (mmI il_X11_died_1 19 rfl) (mmC (mmI il_X11_died_1 20 rfl) (mmC (mmI il_X11_died_1 21 rfl) (mmC (mmI il_X11_died_1 22 rfl) (mmC (mmI il_X11_died_1 23 rfl) (mmC (mmI il_X11_died_2 0 rfl) (mmC (mmI il_X11_died_2 1 rfl) (mmC (mmI il_X11_died_2 2 rfl) (mmC (mmI il_X11_died_2 3 rfl) mmN)))))))))))))))))))))))) (mmC (mmI il_X11_died_2 4 rfl) (mmC (mmI il_X11_died_2 5 rfl) (mmC (mmI il_X11_died_2 6 rfl) (mmC (mmI il_X11_died_2 7 rfl) mmN))))) il_X11_died_3)) gw_X11_happensOf
theorem gX11_died_X11_happensOf : GoodIn wsX11_died (wsV RX11 202 RX11 yX11_happensOf wsX11_happensOf) := goodIn_app (goodIn_sub (mmC (mmI il_X11_died_1 0 rfl) (mmC (mmI il_X11_died_1 1 rfl) (mmC (mmI il_X11_died_1 2 rfl) (mmC (mmI il_X11_died_1 3 rfl) mmN)))) (by decide +kernel)) ggX11_died_X11_happensOf
theorem dX11_died_0 : decode cX11_died 0 = .ok (.aload_n 0, 1) := by decide +kernel
theorem dX11_died_1 : decode cX11_died 1 = .ok (.iconst 4, 1) := by decide +kernel
theorem dX11_died_2 : decode cX11_died 2 = .ok (.iload_n 1, 1) := by decide +kernel
theorem dX11_died_3 : decode cX11_died 3 = .ok (.iload_n 2, 1) := by decide +kernel
theorem dX11_died_4 : decode cX11_died 4 = .ok (.invokevirtual 202, 3) := by decide +kernel
theorem dX11_died_7 : decode cX11_died 7 = .ok (.ireturn, 1) := by decide +kernel
set_option maxRecDepth 100000 in
theorem ggX11_back_X11_happensOf : GoodIn wsX11_back wsX11_happensOf := goodIn_sub (mmC (mmI il_X11_back_1 4 rfl) (mmA (mmA (mmC (mmI il_X11_back_1 5 rfl) (mmC (mmI il_X11_back_1 6 rfl) (mmC (mmI il_X11_back_1 7 rfl) (mmC (mmI il_X11_back_1 8 rfl) (mmC (mmI il_X11_back_1 9 rfl) (mmC (mmI il_X11_back_1 3 rfl) (mmC (mmI il_X11_back_1 10 rfl) (mmC (mmI il_X11_back_1 11 rfl) (mmC (mmI il_X11_back_1 12 rfl) (mmC (mmI il_X11_back_1 13 rfl) (mmC (mmI il_X11_back_1 14 rfl) (mmC (mmI il_X11_back_1 15 rfl) (mmC (mmI il_X11_back_1 16 rfl) (mmC (mmI il_X11_back_1 17 rfl) (mmC (mmI il_X11_back_1 18 rfl) (mmC (mmI il_X11_back_1 19 rfl) (mmC (mmI il_X11_back_1 20 rfl) (mmC (mmI il_X11_back_1 21 rfl) (mmC (mmI il_X11_back_1 22 rfl) (mmC (mmI il_X11_back_1 23 rfl) (mmC (mmI il_X11_back_2 0 rfl) (mmC (mmI il_X11_back_2 1 rfl) (mmC (mmI il_X11_back_2 2 rfl) (mmC (mmI il_X11_back_2 3 rfl) mmN)))))))))))))))))))))))) (mmC (mmI il_X11_back_2 4 rfl) (mmC (mmI il_X11_back_2 5 rfl) (mmC (mmI il_X11_back_2 6 rfl) (mmC (mmI il_X11_back_2 7 rfl) mmN))))) il_X11_back_3)) gw_X11_happensOf
theorem gX11_back_X11_happensOf : GoodIn wsX11_back (wsV RX11 202 RX11 yX11_happensOf wsX11_happensOf) := goodIn_app (goodIn_sub (mmC (mmI il_X11_back_1 0 rfl) (mmC (mmI il_X11_back_1 1 rfl) (mmC (mmI il_X11_back_1 2 rfl) (mmC (mmI il_X11_back_1 3 rfl) mmN)))) (by decide +kernel)) ggX11_back_X11_happensOf
theorem dX11_back_0 : decode cX11_back 0 = .ok (.aload_n 0, 1) := by decide +kernel
theorem dX11_back_1 : decode cX11_back 1 = .ok (.iconst 5, 1) := by decide +kernel
theorem dX11_back_2 : decode cX11_back 2 = .ok (.iload_n 1, 1) := by decide +kernel
theorem dX11_back_3 : decode cX11_back 3 = .ok (.iload_n 2, 1) := by decide +kernel
theorem dX11_back_4 : decode cX11_back 4 = .ok (.invokevirtual 202, 3) := by decide +kernel
theorem dX11_back_7 : decode cX11_back 7 = .ok (.ireturn, 1) := by decide +kernel
theorem in_wsX11_happens_X11 : ∀ w ∈ wsX110, w ∈ wsX11_happens := fun w h => List.mem_cons_of_mem _ (List.mem_append_right _ h)
theorem in_wsX11_happensTo_X11 : ∀ w ∈ wsX110, w ∈ wsX11_happensTo := fun w h => List.mem_cons_of_mem _ (List.mem_append_right _ h)
theorem in_wsX11_happensOf_X11 : ∀ w ∈ wsX110, w ∈ wsX11_happensOf := fun w h => List.mem_cons_of_mem _ (List.mem_append_right _ h)
theorem in_wsX11_left_X11 : ∀ w ∈ wsX110, w ∈ wsX11_left := fun w h => List.mem_cons_of_mem _ (List.mem_append_right _ h)

set_option maxHeartbeats 4000000 in
set_option maxRecDepth 100000 in
theorem c_X11_happens (l : Launch) (dC : Nat → ClassId) (dI : Nat → Nat → Nat) (sz : Nat) (g0 : Nat) (pq : Nat → Nat) (cp : Nat → ClassId) (v : Nat → Int32) (fa : Nat → Nat → Int32) (gV : mV v) (gA : mA fa) (x1 : Int32) (x2 : Int32) (x3 : Int32) (x4 : Int32) (x5 : Int32) (hx5 : 0 ≤ x5.toInt ∧ x5.toInt ≤ 9) (x6 : Int32) (hx6 : 0 ≤ x6.toInt ∧ x6.toInt ≤ 3000) : Met l yX11_happens wsX11_happens ({ frames := 1, cells := 0, slots := 0, locals := 21 }) (va_Pc [.ref g0, .int x1, .int x2, .int x3, .int x4, .int x5, .int x6] (pcW (dC, dI) (mT cp) (mW g0 pq cp v fa) sz)) (va_Qi (fun (r : Int32) (u : (Nat → Int32) × (Nat → Nat → Int32)) => mV u.1 ∧ mA u.2 ∧ mX [0, 10, 11, 12, 13, 14, 15, 41] v fa u.1 u.2) (fun u t => va_P (dC, dI) vwCl (mW g0 pq cp u.1 u.2) t.heap ∧ va_K (dC, dI) vwCl (mT cp) t ∧ va_D (va_A (mW g0 pq cp v fa) sz) (mW g0 pq cp u.1 u.2)) (va_A (mW g0 pq cp v fa) sz)) 0 0 (va_A (mW g0 pq cp v fa) sz) := by
  refine Met.ofW (cc := cX11_happens) (maxL := 7) (ret := (some .int)) (by decide) rfl ?_
  intro p e s m args below meth c s₁ B hml hv
  obtain ⟨rfl, hsz, hP, hK, hD0⟩ := hv
  have hx := B.exec
  have hb := B.bytes
  have hr := B.returns
  have hts := atoms_spec (ws := wsX11_happens) B.pre
  have hown : s.vm.findClass RX11 = some m.cls := findClass_of_methodNamed B.named
  have hlocks := B.notSynchronized
  subst hsz
  have hD := hD0.self (sz := s.heap.size)
  generalize hAe : va_A (mW g0 pq cp v fa) s.heap.size = A at hD ⊢
  have hA : ∀ q : Nat, s.heap.size ≤ q → A q := fun q h => by rw [← hAe]; exact Or.inr h
  have hS : va_S A s.heap s.heap [] := va_S.rf
  have hP : va_P (dC, dI) vwCl (mW g0 pq cp v fa) s.heap := hP
  have hl := lv_entry ([.ref g0, .int x1, .int x2, .int x3, .int x4, .int x5, .int x6]) (n := 7) (Nat.le_of_ble_eq_true rfl)
  rw [lg_entry_eq]
  generalize (lg_sl ([.ref g0, .int x1, .int x2, .int x3, .int x4, .int x5, .int x6]) ++ List.replicate (7 - (lg_sl ([.ref g0, .int x1, .int x2, .int x3, .int x4, .int x5, .int x6])).length) Slot.unset).toArray = ls at hl ⊢
  have hl : lv_has ls 7 [(0, .ref g0), (1, .int x1), (2, .int x2), (3, .int x3), (4, .int x4), (5, .int x5), (6, .int x6)] := hl
  refine lv_iload_n hx hb dX11_happens_0 rfl (lv_at hl 3 rfl) ?_
  refine lv_iload hx hb dX11_happens_1 (lv_at hl 6 rfl) ?_
  refine lv_icmp_ge (tgt := 13) hx hb dX11_happens_3 (by decide) (fun c_1 => ?_) (fun c_1 => ?_)
  · have dc_1 := c_le (a := x6.toInt) (b := x3.toInt) rfl rfl c_1
    refine lv_iload_n hx hb dX11_happens_13 rfl (lv_at hl 3 rfl) ?_
    refine lv_aload_n hx hb dX11_happens_14 rfl (lv_at hl 0 rfl) ?_
    refine va_get (D := (dC, dI)) (ci := 11) (v := .int (v 38)) (C := RX11) (T := TX11) (N := 63) hx hb hts in_wsX11_happens_X11 hown hK hP 0 rfl rfl 38 (by decide) (hts (.fieldLink RX11 171 "ShipOfficeModel" "now" "I") iw_X11_happens_1) (fun _ h9 => h9) rfl dX11_happens_15 ?_
    refine lv_topi (fun x_2 ex_2 => ?_)
    have hx_2 : 0 ≤ x_2.toInt ∧ x_2.toInt ≤ 3000 := iv_of ex_2 (gV 38)
    clear ex_2
    refine lv_icmp_gt (tgt := 31) hx hb dX11_happens_18 (by decide) (fun c_3 => ?_) (fun c_3 => ?_)
    · have dc_3 := c_lt (a := x_2.toInt) (b := x3.toInt) rfl rfl c_3
      refine lv_aload_n hx hb dX11_happens_31 rfl (lv_at hl 0 rfl) ?_
      refine lv_bipush (v := (-6)) hx hb dX11_happens_32 (by decide) ?_
      have hFc := va_free (wc := (mW g0 pq cp v fa)) hD hS hA (List.range 48) rfl
      refine va_calli (va_runV (As := [.int (-6)]) (rest := []) ⟨hx, hb, hml, hown, hts⟩ (c_X11_refuse l dC dI s.heap.size g0 pq cp v fa (-6) (by unfold vp_in; decide)) (cwV 1 hts gX11_happens_X11_refuse rfl rfl rfl (by decide +kernel) ⟨(Nat.le_of_ble_eq_true rfl), (Nat.le_of_ble_eq_true rfl)⟩) (pr_V (r := (RX11, TX11, 63)) hP hK hD 0 11 rfl rfl) rfl rfl hl.1 rfl (lv_room (Nat.le_of_ble_eq_true rfl)) dX11_happens_34 ⟨(Nat.le_of_ble_eq_true rfl), (Nat.le_of_ble_eq_true rfl)⟩) hS (fun q _ h => hFc q h) hFc (fun r_5 u t H locs ht hvm w_4 hB hz1 hk1 hS => ?_)
      obtain ⟨v_6, fa_7⟩ := u
      obtain ⟨hP1, hK1, hD1⟩ := hB
      rw [ht] at hP1
      have hP : va_P (dC, dI) vwCl (mW g0 pq cp v_6 fa_7) H := hP1
      have hD : va_D A (mW g0 pq cp v_6 fa_7) := hD1.weaken (fun _ _ _ h => hFc _ h)
      clear hP1 hK1 hD1 hk1 hz1 hvm ht hFc
      obtain ⟨rfl, w_4⟩ := w_4
      have hVv_6 : mV v_6 := sm0_V w_4 gV
      have hAv_6 : mA fa_7 := sm0_A w_4 gA
      have g_8 : (v_6 41).toInt = (v 41).toInt := congrArg Int32.toInt (congrFun w_4.1 41)
      have hRv_6 : mX [0, 10, 11, 12, 13, 14, 15, 41] v fa v_6 fa_7 := mX.st mX.rf (mX.s0 w_4) (by decide)
      exact W.iret (v := (-6)) hx hb hr (fun t ht hW => ⟨⟨(-6), (v_6, fa_7), rfl, ⟨hVv_6, hAv_6, hRv_6⟩, ⟨by rw [ht]; exact hP, va_K.moved hW.alike hK, hD⟩⟩, hS.F ht⟩) hS.2.2 dX11_happens_37
    · have dc_3 := c_nlt (a := x_2.toInt) (b := x3.toInt) rfl rfl c_3
      refine lv_aload_n hx hb dX11_happens_21 rfl (lv_at hl 0 rfl) ?_
      refine va_get (D := (dC, dI)) (ci := 11) (v := .int (v 41)) (C := RX11) (T := TX11) (N := 63) hx hb hts in_wsX11_happens_X11 hown hK hP 0 rfl rfl 41 (by decide) (hts (.fieldLink RX11 179 "ShipOfficeModel" "happened" "I") iw_X11_happens_2) (fun _ h9 => h9) rfl dX11_happens_22 ?_
      refine lv_topi (fun x_9 ex_9 => ?_)
      have hx_9 : 0 ≤ x_9.toInt ∧ x_9.toInt ≤ 200 := iv_of ex_9 (gV 41)
      have gx_9 : x_9.toInt = (v 41).toInt := iv_to ex_9
      clear ex_9
      refine lv_sipush (v := 200) hx hb dX11_happens_25 (by decide) ?_
      refine lv_icmp_ne (tgt := 38) hx hb dX11_happens_28 (by decide) (fun c_10 => ?_) (fun c_10 => ?_)
      · have dc_10 := c_ne (a := x_9.toInt) (b := 200) rfl (by decide) c_10
        refine lv_aload_n hx hb dX11_happens_38 rfl (lv_at hl 0 rfl) ?_
        refine va_get (D := (dC, dI)) (ci := 11) (v := .ref (pq 10)) (C := RX11) (T := TX11) (N := 63) hx hb hts in_wsX11_happens_X11 hown hK hP 0 rfl rfl 10 (by decide) (hts (.fieldLink RX11 40 "ShipOfficeModel" "what" "[I") iw_X11_happens_3) (fun _ h9 => h9) rfl dX11_happens_39 ?_
        refine lv_aload_n hx hb dX11_happens_42 rfl (lv_at hl 0 rfl) ?_
        refine va_get (D := (dC, dI)) (ci := 11) (v := .int (v 41)) (C := RX11) (T := TX11) (N := 63) hx hb hts in_wsX11_happens_X11 hown hK hP 0 rfl rfl 41 (by decide) (hts (.fieldLink RX11 179 "ShipOfficeModel" "happened" "I") iw_X11_happens_2) (fun _ h9 => h9) rfl dX11_happens_43 ?_
        refine lv_topi (fun x_11 ex_11 => ?_)
        have hx_11 : 0 ≤ x_11.toInt ∧ x_11.toInt ≤ 200 := iv_of ex_11 (gV 41)
        have gx_11 : x_11.toInt = (v 41).toInt := iv_to ex_11
        clear ex_11
        refine lv_iload_n hx hb dX11_happens_46 rfl (lv_at hl 1 rfl) ?_
        refine va_iast hx hb hK hP hD hS 11 10 rfl rfl (vp_in_iff.mpr (by omega)) dX11_happens_47 (fun H locs hP hD hS => ?_)
        have hP : va_P (dC, dI) vwCl (mW g0 pq cp v (upF fa 10 (x_11 : Int32).toNatClampNeg x1)) H := hP
        have hD : va_D A (mW g0 pq cp v (upF fa 10 (x_11 : Int32).toNatClampNeg x1)) := hD
        obtain ⟨fz_12, efz_12⟩ : ∃ zq, zq = (upF fa 10 (x_11 : Int32).toNatClampNeg x1) := ⟨_, rfl⟩
        rw [← efz_12] at hP hD
        have hAfz_12 : mA fz_12 := by rw [efz_12]; exact mA_upF (lo := -2147483648) (hi := 2147483647) gA rfl rfl (iv_all _)
        have hRfz_12 : mX [0, 10, 11, 12, 13, 14, 15, 41] v fa v fz_12 := by rw [efz_12]; exact mX.uF mX.rf (by decide)
        refine lv_aload_n hx hb dX11_happens_48 rfl (lv_at hl 0 rfl) ?_
        refine va_get (D := (dC, dI)) (ci := 11) (v := .ref (pq 11)) (C := RX11) (T := TX11) (N := 63) hx hb hts in_wsX11_happens_X11 hown hK hP 0 rfl rfl 11 (by decide) (hts (.fieldLink RX11 43 "ShipOfficeModel" "whose" "[I") iw_X11_happens_4) (fun _ h9 => h9) rfl dX11_happens_49 ?_
        refine lv_aload_n hx hb dX11_happens_52 rfl (lv_at hl 0 rfl) ?_
        refine va_get (D := (dC, dI)) (ci := 11) (v := .int (v 41)) (C := RX11) (T := TX11) (N := 63) hx hb hts in_wsX11_happens_X11 hown hK hP 0 rfl rfl 41 (by decide) (hts (.fieldLink RX11 179 "ShipOfficeModel" "happened" "I") iw_X11_happens_2) (fun _ h9 => h9) rfl dX11_happens_53 ?_
        refine lv_topi (fun x_13 ex_13 => ?_)
        have hx_13 : 0 ≤ x_13.toInt ∧ x_13.toInt ≤ 200 := iv_of ex_13 (gV 41)
        have gx_13 : x_13.toInt = (v 41).toInt := iv_to ex_13
        clear ex_13
        refine lv_iload_n hx hb dX11_happens_56 rfl (lv_at hl 2 rfl) ?_
        refine va_iast hx hb hK hP hD hS 12 11 rfl rfl (vp_in_iff.mpr (by omega)) dX11_happens_57 (fun H locs hP hD hS => ?_)
        have hP : va_P (dC, dI) vwCl (mW g0 pq cp v (upF fz_12 11 (x_13 : Int32).toNatClampNeg x2)) H := hP
        have hD : va_D A (mW g0 pq cp v (upF fz_12 11 (x_13 : Int32).toNatClampNeg x2)) := hD
        obtain ⟨fz_14, efz_14⟩ : ∃ zq, zq = (upF fz_12 11 (x_13 : Int32).toNatClampNeg x2) := ⟨_, rfl⟩
        rw [← efz_14] at hP hD
        have hAfz_14 : mA fz_14 := by rw [efz_14]; exact mA_upF (lo := -2147483648) (hi := 2147483647) hAfz_12 rfl rfl (iv_all _)
        have hRfz_14 : mX [0, 10, 11, 12, 13, 14, 15, 41] v fa v fz_14 := by rw [efz_14]; exact mX.uF hRfz_12 (by decide)
        refine lv_aload_n hx hb dX11_happens_58 rfl (lv_at hl 0 rfl) ?_
        refine va_get (D := (dC, dI)) (ci := 11) (v := .ref (pq 12)) (C := RX11) (T := TX11) (N := 63) hx hb hts in_wsX11_happens_X11 hown hK hP 0 rfl rfl 12 (by decide) (hts (.fieldLink RX11 46 "ShipOfficeModel" "day" "[I") iw_X11_happens_5) (fun _ h9 => h9) rfl dX11_happens_59 ?_
        refine lv_aload_n hx hb dX11_happens_62 rfl (lv_at hl 0 rfl) ?_
        refine va_get (D := (dC, dI)) (ci := 11) (v := .int (v 41)) (C := RX11) (T := TX11) (N := 63) hx hb hts in_wsX11_happens_X11 hown hK hP 0 rfl rfl 41 (by decide) (hts (.fieldLink RX11 179 "ShipOfficeModel" "happened" "I") iw_X11_happens_2) (fun _ h9 => h9) rfl dX11_happens_63 ?_
        refine lv_topi (fun x_15 ex_15 => ?_)
        have hx_15 : 0 ≤ x_15.toInt ∧ x_15.toInt ≤ 200 := iv_of ex_15 (gV 41)
        have gx_15 : x_15.toInt = (v 41).toInt := iv_to ex_15
        clear ex_15
        refine lv_iload_n hx hb dX11_happens_66 rfl (lv_at hl 3 rfl) ?_
        refine va_iast hx hb hK hP hD hS 13 12 rfl rfl (vp_in_iff.mpr (by omega)) dX11_happens_67 (fun H locs hP hD hS => ?_)
        have hP : va_P (dC, dI) vwCl (mW g0 pq cp v (upF fz_14 12 (x_15 : Int32).toNatClampNeg x3)) H := hP
        have hD : va_D A (mW g0 pq cp v (upF fz_14 12 (x_15 : Int32).toNatClampNeg x3)) := hD
        obtain ⟨fz_16, efz_16⟩ : ∃ zq, zq = (upF fz_14 12 (x_15 : Int32).toNatClampNeg x3) := ⟨_, rfl⟩
        rw [← efz_16] at hP hD
        have hAfz_16 : mA fz_16 := by rw [efz_16]; exact mA_upF (lo := 0) (hi := 3000) hAfz_14 rfl rfl (by omega)
        have hRfz_16 : mX [0, 10, 11, 12, 13, 14, 15, 41] v fa v fz_16 := by rw [efz_16]; exact mX.uF hRfz_14 (by decide)
        refine lv_aload_n hx hb dX11_happens_68 rfl (lv_at hl 0 rfl) ?_
        refine va_get (D := (dC, dI)) (ci := 11) (v := .ref (pq 13)) (C := RX11) (T := TX11) (N := 63) hx hb hts in_wsX11_happens_X11 hown hK hP 0 rfl rfl 13 (by decide) (hts (.fieldLink RX11 49 "ShipOfficeModel" "known" "[I") iw_X11_happens_6) (fun _ h9 => h9) rfl dX11_happens_69 ?_
        refine lv_aload_n hx hb dX11_happens_72 rfl (lv_at hl 0 rfl) ?_
        refine va_get (D := (dC, dI)) (ci := 11) (v := .int (v 41)) (C := RX11) (T := TX11) (N := 63) hx hb hts in_wsX11_happens_X11 hown hK hP 0 rfl rfl 41 (by decide) (hts (.fieldLink RX11 179 "ShipOfficeModel" "happened" "I") iw_X11_happens_2) (fun _ h9 => h9) rfl dX11_happens_73 ?_
        refine lv_topi (fun x_17 ex_17 => ?_)
        have hx_17 : 0 ≤ x_17.toInt ∧ x_17.toInt ≤ 200 := iv_of ex_17 (gV 41)
        have gx_17 : x_17.toInt = (v 41).toInt := iv_to ex_17
        clear ex_17
        refine lv_aload_n hx hb dX11_happens_76 rfl (lv_at hl 0 rfl) ?_
        refine va_get (D := (dC, dI)) (ci := 11) (v := .int (v 38)) (C := RX11) (T := TX11) (N := 63) hx hb hts in_wsX11_happens_X11 hown hK hP 0 rfl rfl 38 (by decide) (hts (.fieldLink RX11 171 "ShipOfficeModel" "now" "I") iw_X11_happens_1) (fun _ h9 => h9) rfl dX11_happens_77 ?_
        refine lv_topi (fun x_18 ex_18 => ?_)
        have hx_18 : 0 ≤ x_18.toInt ∧ x_18.toInt ≤ 3000 := iv_of ex_18 (gV 38)
        clear ex_18
        refine va_iast hx hb hK hP hD hS 14 13 rfl rfl (vp_in_iff.mpr (by omega)) dX11_happens_80 (fun H locs hP hD hS => ?_)
        have hP : va_P (dC, dI) vwCl (mW g0 pq cp v (upF fz_16 13 (x_17 : Int32).toNatClampNeg x_18)) H := hP
        have hD : va_D A (mW g0 pq cp v (upF fz_16 13 (x_17 : Int32).toNatClampNeg x_18)) := hD
        obtain ⟨fz_19, efz_19⟩ : ∃ zq, zq = (upF fz_16 13 (x_17 : Int32).toNatClampNeg x_18) := ⟨_, rfl⟩
        rw [← efz_19] at hP hD
        have hAfz_19 : mA fz_19 := by rw [efz_19]; exact mA_upF (lo := -2147483648) (hi := 2147483647) hAfz_16 rfl rfl (iv_all _)
        have hRfz_19 : mX [0, 10, 11, 12, 13, 14, 15, 41] v fa v fz_19 := by rw [efz_19]; exact mX.uF hRfz_16 (by decide)
        refine lv_aload_n hx hb dX11_happens_81 rfl (lv_at hl 0 rfl) ?_
        refine va_get (D := (dC, dI)) (ci := 11) (v := .ref (pq 14)) (C := RX11) (T := TX11) (N := 63) hx hb hts in_wsX11_happens_X11 hown hK hP 0 rfl rfl 14 (by decide) (hts (.fieldLink RX11 52 "ShipOfficeModel" "way" "[I") iw_X11_happens_7) (fun _ h9 => h9) rfl dX11_happens_82 ?_
        refine lv_aload_n hx hb dX11_happens_85 rfl (lv_at hl 0 rfl) ?_
        refine va_get (D := (dC, dI)) (ci := 11) (v := .int (v 41)) (C := RX11) (T := TX11) (N := 63) hx hb hts in_wsX11_happens_X11 hown hK hP 0 rfl rfl 41 (by decide) (hts (.fieldLink RX11 179 "ShipOfficeModel" "happened" "I") iw_X11_happens_2) (fun _ h9 => h9) rfl dX11_happens_86 ?_
        refine lv_topi (fun x_20 ex_20 => ?_)
        have hx_20 : 0 ≤ x_20.toInt ∧ x_20.toInt ≤ 200 := iv_of ex_20 (gV 41)
        have gx_20 : x_20.toInt = (v 41).toInt := iv_to ex_20
        clear ex_20
        refine lv_iload hx hb dX11_happens_89 (lv_at hl 4 rfl) ?_
        refine va_iast hx hb hK hP hD hS 15 14 rfl rfl (vp_in_iff.mpr (by omega)) dX11_happens_91 (fun H locs hP hD hS => ?_)
        have hP : va_P (dC, dI) vwCl (mW g0 pq cp v (upF fz_19 14 (x_20 : Int32).toNatClampNeg x4)) H := hP
        have hD : va_D A (mW g0 pq cp v (upF fz_19 14 (x_20 : Int32).toNatClampNeg x4)) := hD
        obtain ⟨fz_21, efz_21⟩ : ∃ zq, zq = (upF fz_19 14 (x_20 : Int32).toNatClampNeg x4) := ⟨_, rfl⟩
        rw [← efz_21] at hP hD
        have hAfz_21 : mA fz_21 := by rw [efz_21]; exact mA_upF (lo := -2147483648) (hi := 2147483647) hAfz_19 rfl rfl (iv_all _)
        have hRfz_21 : mX [0, 10, 11, 12, 13, 14, 15, 41] v fa v fz_21 := by rw [efz_21]; exact mX.uF hRfz_19 (by decide)
        refine lv_aload_n hx hb dX11_happens_92 rfl (lv_at hl 0 rfl) ?_
        refine va_get (D := (dC, dI)) (ci := 11) (v := .ref (pq 15)) (C := RX11) (T := TX11) (N := 63) hx hb hts in_wsX11_happens_X11 hown hK hP 0 rfl rfl 15 (by decide) (hts (.fieldLink RX11 55 "ShipOfficeModel" "port" "[I") iw_X11_happens_8) (fun _ h9 => h9) rfl dX11_happens_93 ?_
        refine lv_aload_n hx hb dX11_happens_96 rfl (lv_at hl 0 rfl) ?_
        refine va_get (D := (dC, dI)) (ci := 11) (v := .int (v 41)) (C := RX11) (T := TX11) (N := 63) hx hb hts in_wsX11_happens_X11 hown hK hP 0 rfl rfl 41 (by decide) (hts (.fieldLink RX11 179 "ShipOfficeModel" "happened" "I") iw_X11_happens_2) (fun _ h9 => h9) rfl dX11_happens_97 ?_
        refine lv_topi (fun x_22 ex_22 => ?_)
        have hx_22 : 0 ≤ x_22.toInt ∧ x_22.toInt ≤ 200 := iv_of ex_22 (gV 41)
        have gx_22 : x_22.toInt = (v 41).toInt := iv_to ex_22
        clear ex_22
        refine lv_iload hx hb dX11_happens_100 (lv_at hl 5 rfl) ?_
        refine va_iast hx hb hK hP hD hS 16 15 rfl rfl (vp_in_iff.mpr (by omega)) dX11_happens_102 (fun H locs hP hD hS => ?_)
        have hP : va_P (dC, dI) vwCl (mW g0 pq cp v (upF fz_21 15 (x_22 : Int32).toNatClampNeg x5)) H := hP
        have hD : va_D A (mW g0 pq cp v (upF fz_21 15 (x_22 : Int32).toNatClampNeg x5)) := hD
        obtain ⟨fz_23, efz_23⟩ : ∃ zq, zq = (upF fz_21 15 (x_22 : Int32).toNatClampNeg x5) := ⟨_, rfl⟩
        rw [← efz_23] at hP hD
        have hAfz_23 : mA fz_23 := by rw [efz_23]; exact mA_upF (lo := 0) (hi := 9) hAfz_21 rfl rfl (by omega)
        have hRfz_23 : mX [0, 10, 11, 12, 13, 14, 15, 41] v fa v fz_23 := by rw [efz_23]; exact mX.uF hRfz_21 (by decide)
        refine lv_aload_n hx hb dX11_happens_103 rfl (lv_at hl 0 rfl) ?_
        refine lv_dup hx hb dX11_happens_104 rfl ?_
        refine va_get (D := (dC, dI)) (ci := 11) (v := .int (v 41)) (C := RX11) (T := TX11) (N := 63) hx hb hts in_wsX11_happens_X11 hown hK hP 0 rfl rfl 41 (by decide) (hts (.fieldLink RX11 179 "ShipOfficeModel" "happened" "I") iw_X11_happens_2) (fun _ h9 => h9) rfl dX11_happens_105 ?_
        refine lv_topi (fun x_24 ex_24 => ?_)
        have hx_24 : 0 ≤ x_24.toInt ∧ x_24.toInt ≤ 200 := iv_of ex_24 (gV 41)
        have gx_24 : x_24.toInt = (v 41).toInt := iv_to ex_24
        clear ex_24
        refine lv_iconst (v := 1) hx hb dX11_happens_108 (by decide) ?_
        refine lv_iadd hx hb dX11_happens_109 ?_
        refine lv_topi (fun x_25 ex_25 => ?_)
        have hx_25 : x_25.toInt = x_24.toInt + 1 := (iv_to ex_25).trans (ad_i rfl (by decide) (by omega) (by omega))
        clear ex_25
        refine va_put (D := (dC, dI)) (ci := 11) (v := .int x_25) (ty := .int) (C := RX11) (T := TX11) (N := 63) hx hb hts in_wsX11_happens_X11 tyX11 tyX11_ok nmX11 hown hK hP hD hS 0 rfl rfl 41 (by decide) (hts (.fieldLink RX11 179 "ShipOfficeModel" "happened" "I") iw_X11_happens_2) (fun _ h9 => h9) rfl (by decide +kernel) rfl rfl (Nat.le_of_ble_eq_true rfl) dX11_happens_110 (fun H locs hP hD hS => ?_)
        have hP : va_P (dC, dI) vwCl (mW g0 pq cp (upd v 41 x_25) fz_23) H := hP
        have hD : va_D A (mW g0 pq cp (upd v 41 x_25) fz_23) := hD
        obtain ⟨z_26, ez_26⟩ : ∃ zq, zq = (upd v 41 x_25) := ⟨_, rfl⟩
        rw [← ez_26] at hP hD
        have hVz_26 : mV z_26 := by rw [ez_26]; exact mV_upd (lo := 0) (hi := 200) gV rfl rfl (by omega)
        have hRz_26 : mX [0, 10, 11, 12, 13, 14, 15, 41] v fa z_26 fz_23 := by rw [ez_26]; exact mX.up hRfz_23 (by decide)
        have g_27 : (z_26 41).toInt = x_25.toInt := by rw [ez_26, show upd v 41 x_25 41 = x_25 from if_pos rfl]
        refine lv_aload_n hx hb dX11_happens_113 rfl (lv_at hl 0 rfl) ?_
        refine va_get (D := (dC, dI)) (ci := 11) (v := .int (z_26 41)) (C := RX11) (T := TX11) (N := 63) hx hb hts in_wsX11_happens_X11 hown hK hP 0 rfl rfl 41 (by decide) (hts (.fieldLink RX11 179 "ShipOfficeModel" "happened" "I") iw_X11_happens_2) (fun _ h9 => h9) rfl dX11_happens_114 ?_
        refine lv_topi (fun x_28 ex_28 => ?_)
        have hx_28 : 0 ≤ x_28.toInt ∧ x_28.toInt ≤ 200 := iv_of ex_28 (hVz_26 41)
        have gx_28 : x_28.toInt = (z_26 41).toInt := iv_to ex_28
        clear ex_28
        exact W.iret (v := x_28) hx hb hr (fun t ht hW => ⟨⟨x_28, (z_26, fz_23), rfl, ⟨hVz_26, hAfz_23, hRz_26⟩, ⟨by rw [ht]; exact hP, va_K.moved hW.alike hK, hD⟩⟩, hS.F ht⟩) hS.2.2 dX11_happens_117
      · have dc_10 := c_eq (a := x_9.toInt) (b := 200) rfl (by decide) c_10
        refine lv_aload_n hx hb dX11_happens_31 rfl (lv_at hl 0 rfl) ?_
        refine lv_bipush (v := (-6)) hx hb dX11_happens_32 (by decide) ?_
        have hFc := va_free (wc := (mW g0 pq cp v fa)) hD hS hA (List.range 48) rfl
        refine va_calli (va_runV (As := [.int (-6)]) (rest := []) ⟨hx, hb, hml, hown, hts⟩ (c_X11_refuse l dC dI s.heap.size g0 pq cp v fa (-6) (by unfold vp_in; decide)) (cwV 1 hts gX11_happens_X11_refuse rfl rfl rfl (by decide +kernel) ⟨(Nat.le_of_ble_eq_true rfl), (Nat.le_of_ble_eq_true rfl)⟩) (pr_V (r := (RX11, TX11, 63)) hP hK hD 0 11 rfl rfl) rfl rfl hl.1 rfl (lv_room (Nat.le_of_ble_eq_true rfl)) dX11_happens_34 ⟨(Nat.le_of_ble_eq_true rfl), (Nat.le_of_ble_eq_true rfl)⟩) hS (fun q _ h => hFc q h) hFc (fun r_30 u t H locs ht hvm w_29 hB hz1 hk1 hS => ?_)
        obtain ⟨v_31, fa_32⟩ := u
        obtain ⟨hP1, hK1, hD1⟩ := hB
        rw [ht] at hP1
        have hP : va_P (dC, dI) vwCl (mW g0 pq cp v_31 fa_32) H := hP1
        have hD : va_D A (mW g0 pq cp v_31 fa_32) := hD1.weaken (fun _ _ _ h => hFc _ h)
        clear hP1 hK1 hD1 hk1 hz1 hvm ht hFc
        obtain ⟨rfl, w_29⟩ := w_29
        have hVv_31 : mV v_31 := sm0_V w_29 gV
        have hAv_31 : mA fa_32 := sm0_A w_29 gA
        have g_33 : (v_31 41).toInt = (v 41).toInt := congrArg Int32.toInt (congrFun w_29.1 41)
        have hRv_31 : mX [0, 10, 11, 12, 13, 14, 15, 41] v fa v_31 fa_32 := mX.st mX.rf (mX.s0 w_29) (by decide)
        exact W.iret (v := (-6)) hx hb hr (fun t ht hW => ⟨⟨(-6), (v_31, fa_32), rfl, ⟨hVv_31, hAv_31, hRv_31⟩, ⟨by rw [ht]; exact hP, va_K.moved hW.alike hK, hD⟩⟩, hS.F ht⟩) hS.2.2 dX11_happens_37
  · have dc_1 := c_nle (a := x6.toInt) (b := x3.toInt) rfl rfl c_1
    refine lv_aload_n hx hb dX11_happens_6 rfl (lv_at hl 0 rfl) ?_
    refine lv_bipush (v := (-4)) hx hb dX11_happens_7 (by decide) ?_
    have hFc := va_free (wc := (mW g0 pq cp v fa)) hD hS hA (List.range 48) rfl
    refine va_calli (va_runV (As := [.int (-4)]) (rest := []) ⟨hx, hb, hml, hown, hts⟩ (c_X11_refuse l dC dI s.heap.size g0 pq cp v fa (-4) (by unfold vp_in; decide)) (cwV 1 hts gX11_happens_X11_refuse rfl rfl rfl (by decide +kernel) ⟨(Nat.le_of_ble_eq_true rfl), (Nat.le_of_ble_eq_true rfl)⟩) (pr_V (r := (RX11, TX11, 63)) hP hK hD 0 11 rfl rfl) rfl rfl hl.1 rfl (lv_room (Nat.le_of_ble_eq_true rfl)) dX11_happens_9 ⟨(Nat.le_of_ble_eq_true rfl), (Nat.le_of_ble_eq_true rfl)⟩) hS (fun q _ h => hFc q h) hFc (fun r_35 u t H locs ht hvm w_34 hB hz1 hk1 hS => ?_)
    obtain ⟨v_36, fa_37⟩ := u
    obtain ⟨hP1, hK1, hD1⟩ := hB
    rw [ht] at hP1
    have hP : va_P (dC, dI) vwCl (mW g0 pq cp v_36 fa_37) H := hP1
    have hD : va_D A (mW g0 pq cp v_36 fa_37) := hD1.weaken (fun _ _ _ h => hFc _ h)
    clear hP1 hK1 hD1 hk1 hz1 hvm ht hFc
    obtain ⟨rfl, w_34⟩ := w_34
    have hVv_36 : mV v_36 := sm0_V w_34 gV
    have hAv_36 : mA fa_37 := sm0_A w_34 gA
    have g_38 : (v_36 41).toInt = (v 41).toInt := congrArg Int32.toInt (congrFun w_34.1 41)
    have hRv_36 : mX [0, 10, 11, 12, 13, 14, 15, 41] v fa v_36 fa_37 := mX.st mX.rf (mX.s0 w_34) (by decide)
    exact W.iret (v := (-4)) hx hb hr (fun t ht hW => ⟨⟨(-4), (v_36, fa_37), rfl, ⟨hVv_36, hAv_36, hRv_36⟩, ⟨by rw [ht]; exact hP, va_K.moved hW.alike hK, hD⟩⟩, hS.F ht⟩) hS.2.2 dX11_happens_12
set_option maxHeartbeats 4000000 in
set_option maxRecDepth 100000 in
theorem c_X11_happensTo (l : Launch) (dC : Nat → ClassId) (dI : Nat → Nat → Nat) (sz : Nat) (g0 : Nat) (pq : Nat → Nat) (cp : Nat → ClassId) (v : Nat → Int32) (fa : Nat → Nat → Int32) (gV : mV v) (gA : mA fa) (x1 : Int32) (x2 : Int32) (x3 : Int32) : Met l yX11_happensTo wsX11_happensTo ({ frames := 2, cells := 0, slots := 0, locals := 47 }) (va_Pc [.ref g0, .int x1, .int x2, .int x3] (pcW (dC, dI) (mT cp) (mW g0 pq cp v fa) sz)) (va_Qi (fun (r : Int32) (u : (Nat → Int32) × (Nat → Nat → Int32)) => mV u.1 ∧ mA u.2 ∧ mX [0, 10, 11, 12, 13, 14, 15, 41] v fa u.1 u.2) (fun u t => va_P (dC, dI) vwCl (mW g0 pq cp u.1 u.2) t.heap ∧ va_K (dC, dI) vwCl (mT cp) t ∧ va_D (va_A (mW g0 pq cp v fa) sz) (mW g0 pq cp u.1 u.2)) (va_A (mW g0 pq cp v fa) sz)) 0 0 (va_A (mW g0 pq cp v fa) sz) := by
  refine Met.ofW (cc := cX11_happensTo) (maxL := 4) (ret := (some .int)) (by decide) rfl ?_
  intro p e s m args below meth c s₁ B hml hv
  obtain ⟨rfl, hsz, hP, hK, hD0⟩ := hv
  have hx := B.exec
  have hb := B.bytes
  have hr := B.returns
  have hts := atoms_spec (ws := wsX11_happensTo) B.pre
  have hown : s.vm.findClass RX11 = some m.cls := findClass_of_methodNamed B.named
  have hlocks := B.notSynchronized
  subst hsz
  have hD := hD0.self (sz := s.heap.size)
  generalize hAe : va_A (mW g0 pq cp v fa) s.heap.size = A at hD ⊢
  have hA : ∀ q : Nat, s.heap.size ≤ q → A q := fun q h => by rw [← hAe]; exact Or.inr h
  have hS : va_S A s.heap s.heap [] := va_S.rf
  have hP : va_P (dC, dI) vwCl (mW g0 pq cp v fa) s.heap := hP
  have hl := lv_entry ([.ref g0, .int x1, .int x2, .int x3]) (n := 4) (Nat.le_of_ble_eq_true rfl)
  rw [lg_entry_eq]
  generalize (lg_sl ([.ref g0, .int x1, .int x2, .int x3]) ++ List.replicate (4 - (lg_sl ([.ref g0, .int x1, .int x2, .int x3])).length) Slot.unset).toArray = ls at hl ⊢
  have hl : lv_has ls 4 [(0, .ref g0), (1, .int x1), (2, .int x2), (3, .int x3)] := hl
  refine lv_aload_n hx hb dX11_happensTo_0 rfl (lv_at hl 0 rfl) ?_
  refine lv_iload_n hx hb dX11_happensTo_1 rfl (lv_at hl 2 rfl) ?_
  have hFc : ∀ q, va_A [] s.heap.size q → A q := pu_free hS hA
  refine va_calli (va_runV (As := [.int x2]) (rest := []) ⟨hx, hb, hml, hown, hts⟩ (c_X11_isVoyage l dC dI s.heap.size g0 pq cp v fa x2) (cwV 1 hts gX11_happensTo_X11_isVoyage rfl rfl rfl (by decide +kernel) ⟨(Nat.le_of_ble_eq_true rfl), (Nat.le_of_ble_eq_true rfl)⟩) (pr_V (r := (RX11, TX11, 63)) hP hK hD 0 11 rfl rfl) rfl rfl hl.1 rfl (lv_room (Nat.le_of_ble_eq_true rfl)) dX11_happensTo_2 ⟨(Nat.le_of_ble_eq_true rfl), (Nat.le_of_ble_eq_true rfl)⟩) hS (fun q _ h => hFc q h) hFc (fun r_2 u t H locs ht hvm w_1 hB hz1 hk1 hS => ?_)
  have hP := pu_keep hP hk1
  clear hk1 hz1 hvm hB ht hFc
  have hbr_2 : 0 ≤ r_2.toInt ∧ r_2.toInt ≤ 1 := iv_of w_1 (isI_i _ _)
  refine lv_if_ne (tgt := 14) hx hb dX11_happensTo_5 (by decide) (fun c_3 => ?_) (fun c_3 => ?_)
  · have dc_3 := c_ne (a := r_2.toInt) (b := 0) rfl (by decide) c_3
    have hi_4 := isI_t w_1 (fun q => c_3 (Int32.toInt_inj.mp q))
    have khi_4 : (v 40).toInt ≤ 20 := (gV 40).2
    refine lv_aload_n hx hb dX11_happensTo_14 rfl (lv_at hl 0 rfl) ?_
    refine va_get (D := (dC, dI)) (ci := 11) (v := .ref (pq 9)) (C := RX11) (T := TX11) (N := 63) hx hb hts in_wsX11_happensTo_X11 hown hK hP 0 rfl rfl 9 (by decide) (hts (.fieldLink RX11 37 "ShipOfficeModel" "endedOn" "[I") iw_X11_happensTo_1) (fun _ h9 => h9) rfl dX11_happensTo_15 ?_
    refine lv_iload_n hx hb dX11_happensTo_18 rfl (lv_at hl 2 rfl) ?_
    refine va_iald hx hb hK hP 10 9 rfl rfl (vp_in_iff.mpr (by omega)) dX11_happensTo_19 ?_
    refine lv_topi (fun x_5 ex_5 => ?_)
    clear ex_5
    refine lv_if_ge (tgt := 37) hx hb dX11_happensTo_20 (by decide) (fun c_6 => ?_) (fun c_6 => ?_)
    · have dc_6 := c_le (a := 0) (b := x_5.toInt) (by decide) rfl c_6
      refine lv_aload_n hx hb dX11_happensTo_37 rfl (lv_at hl 0 rfl) ?_
      refine lv_bipush (v := (-3)) hx hb dX11_happensTo_38 (by decide) ?_
      have hFc := va_free (wc := (mW g0 pq cp v fa)) hD hS hA (List.range 48) rfl
      refine va_calli (va_runV (As := [.int (-3)]) (rest := []) ⟨hx, hb, hml, hown, hts⟩ (c_X11_refuse l dC dI H.size g0 pq cp v fa (-3) (by unfold vp_in; decide)) (cwV 1 hts gX11_happensTo_X11_refuse rfl rfl rfl (by decide +kernel) ⟨(Nat.le_of_ble_eq_true rfl), (Nat.le_of_ble_eq_true rfl)⟩) (pr_V (r := (RX11, TX11, 63)) hP hK hD 0 11 rfl rfl) rfl rfl hl.1 rfl (lv_room (Nat.le_of_ble_eq_true rfl)) dX11_happensTo_40 ⟨(Nat.le_of_ble_eq_true rfl), (Nat.le_of_ble_eq_true rfl)⟩) hS (fun q _ h => hFc q h) hFc (fun r_8 u t H locs ht hvm w_7 hB hz1 hk1 hS => ?_)
      obtain ⟨v_9, fa_10⟩ := u
      obtain ⟨hP1, hK1, hD1⟩ := hB
      rw [ht] at hP1
      have hP : va_P (dC, dI) vwCl (mW g0 pq cp v_9 fa_10) H := hP1
      have hD : va_D A (mW g0 pq cp v_9 fa_10) := hD1.weaken (fun _ _ _ h => hFc _ h)
      clear hP1 hK1 hD1 hk1 hz1 hvm ht hFc
      obtain ⟨rfl, w_7⟩ := w_7
      have hVv_9 : mV v_9 := sm0_V w_7 gV
      have hAv_9 : mA fa_10 := sm0_A w_7 gA
      have hRv_9 : mX [0, 10, 11, 12, 13, 14, 15, 41] v fa v_9 fa_10 := mX.st mX.rf (mX.s0 w_7) (by decide)
      exact W.iret (v := (-3)) hx hb hr (fun t ht hW => ⟨⟨(-3), (v_9, fa_10), rfl, ⟨hVv_9, hAv_9, hRv_9⟩, ⟨by rw [ht]; exact hP, va_K.moved hW.alike hK, hD⟩⟩, hS.F ht⟩) hS.2.2 dX11_happensTo_43
    · have dc_6 := c_nle (a := 0) (b := x_5.toInt) (by decide) rfl c_6
      refine lv_iload_n hx hb dX11_happensTo_23 rfl (lv_at hl 1 rfl) ?_
      refine lv_iconst (v := 1) hx hb dX11_happensTo_24 (by decide) ?_
      refine lv_icmp_eq (tgt := 44) hx hb dX11_happensTo_25 (by decide) (fun c_11 => ?_) (fun c_11 => ?_)
      · have dc_11 := c_eq (a := x1.toInt) (b := 1) rfl (by decide) c_11
        refine lv_aload_n hx hb dX11_happensTo_44 rfl (lv_at hl 0 rfl) ?_
        refine lv_iload_n hx hb dX11_happensTo_45 rfl (lv_at hl 1 rfl) ?_
        refine lv_iload_n hx hb dX11_happensTo_46 rfl (lv_at hl 2 rfl) ?_
        refine lv_iload_n hx hb dX11_happensTo_47 rfl (lv_at hl 3 rfl) ?_
        refine lv_iconst (v := 0) hx hb dX11_happensTo_48 (by decide) ?_
        refine lv_iconst (v := 0) hx hb dX11_happensTo_49 (by decide) ?_
        refine lv_aload_n hx hb dX11_happensTo_50 rfl (lv_at hl 0 rfl) ?_
        refine va_get (D := (dC, dI)) (ci := 11) (v := .ref (pq 7)) (C := RX11) (T := TX11) (N := 63) hx hb hts in_wsX11_happensTo_X11 hown hK hP 0 rfl rfl 7 (by decide) (hts (.fieldLink RX11 31 "ShipOfficeModel" "opened" "[I") iw_X11_happensTo_2) (fun _ h9 => h9) rfl dX11_happensTo_51 ?_
        refine lv_iload_n hx hb dX11_happensTo_54 rfl (lv_at hl 2 rfl) ?_
        refine va_iald hx hb hK hP 8 7 rfl rfl (vp_in_iff.mpr (by omega)) dX11_happensTo_55 ?_
        refine lv_topi (fun x_12 ex_12 => ?_)
        have hx_12 : 0 ≤ x_12.toInt ∧ x_12.toInt ≤ 3000 := iv_of ex_12 (gA 7 _)
        clear ex_12
        have hFc := va_free (wc := (mW g0 pq cp v fa)) hD hS hA (List.range 48) rfl
        refine va_calli (va_runV (As := [.int x1, .int x2, .int x3, .int 0, .int 0, .int x_12]) (rest := []) ⟨hx, hb, hml, hown, hts⟩ (c_X11_happens l dC dI H.size g0 pq cp v fa gV gA x1 x2 x3 0 0 (by decide) x_12 (by omega)) (cwV 6 hts gX11_happensTo_X11_happens rfl rfl rfl (by decide +kernel) ⟨(Nat.le_of_ble_eq_true rfl), (Nat.le_of_ble_eq_true rfl)⟩) (pr_V (r := (RX11, TX11, 63)) hP hK hD 0 11 rfl rfl) rfl rfl hl.1 rfl (lv_room (Nat.le_of_ble_eq_true rfl)) dX11_happensTo_56 ⟨(Nat.le_of_ble_eq_true rfl), (Nat.le_of_ble_eq_true rfl)⟩) hS (fun q _ h => hFc q h) hFc (fun r_14 u t H locs ht hvm w_13 hB hz1 hk1 hS => ?_)
        obtain ⟨v_15, fa_16⟩ := u
        obtain ⟨hP1, hK1, hD1⟩ := hB
        rw [ht] at hP1
        have hP : va_P (dC, dI) vwCl (mW g0 pq cp v_15 fa_16) H := hP1
        have hD : va_D A (mW g0 pq cp v_15 fa_16) := hD1.weaken (fun _ _ _ h => hFc _ h)
        clear hP1 hK1 hD1 hk1 hz1 hvm ht hFc
        obtain ⟨hV_17, hA_18, hR_19⟩ := w_13
        dsimp only at hV_17 hA_18 hR_19 
        have R_20 : mX [0, 10, 11, 12, 13, 14, 15, 41] v fa v_15 fa_16 := mX.st mX.rf hR_19 (by decide)
        exact W.iret (v := r_14) hx hb hr (fun t ht hW => ⟨⟨r_14, (v_15, fa_16), rfl, ⟨hV_17, hA_18, R_20⟩, ⟨by rw [ht]; exact hP, va_K.moved hW.alike hK, hD⟩⟩, hS.F ht⟩) hS.2.2 dX11_happensTo_59
      · have dc_11 := c_ne (a := x1.toInt) (b := 1) rfl (by decide) c_11
        refine lv_aload_n hx hb dX11_happensTo_28 rfl (lv_at hl 0 rfl) ?_
        refine lv_iload_n hx hb dX11_happensTo_29 rfl (lv_at hl 1 rfl) ?_
        refine lv_iload_n hx hb dX11_happensTo_30 rfl (lv_at hl 2 rfl) ?_
        have hFc : ∀ q, va_A [] H.size q → A q := pu_free hS hA
        refine va_calli (va_runV (As := [.int x1, .int x2]) (rest := []) ⟨hx, hb, hml, hown, hts⟩ (c_X11_wasTold l dC dI H.size g0 pq cp v fa (v 41).toNatClampNeg (cn_le (n := 200) (gV 41)) (cn_eq (n := 200) (gV 41)) x1 x2) (cwV 2 hts gX11_happensTo_X11_wasTold rfl rfl rfl (by decide +kernel) ⟨(Nat.le_of_ble_eq_true rfl), (Nat.le_of_ble_eq_true rfl)⟩) (pr_V (r := (RX11, TX11, 63)) hP hK hD 0 11 rfl rfl) rfl rfl hl.1 rfl (lv_room (Nat.le_of_ble_eq_true rfl)) dX11_happensTo_31 ⟨(Nat.le_of_ble_eq_true rfl), (Nat.le_of_ble_eq_true rfl)⟩) hS (fun q _ h => hFc q h) hFc (fun r_22 u t H locs ht hvm w_21 hB hz1 hk1 hS => ?_)
        have hP := pu_keep hP hk1
        clear hk1 hz1 hvm hB ht hFc
        have hb_23 : 0 ≤ r_22.toInt ∧ r_22.toInt ≤ 1 := z1_i w_21
        refine lv_if_eq (tgt := 44) hx hb dX11_happensTo_34 (by decide) (fun c_24 => ?_) (fun c_24 => ?_)
        · have dc_24 := c_eq (a := r_22.toInt) (b := 0) rfl (by decide) c_24
          refine lv_aload_n hx hb dX11_happensTo_44 rfl (lv_at hl 0 rfl) ?_
          refine lv_iload_n hx hb dX11_happensTo_45 rfl (lv_at hl 1 rfl) ?_
          refine lv_iload_n hx hb dX11_happensTo_46 rfl (lv_at hl 2 rfl) ?_
          refine lv_iload_n hx hb dX11_happensTo_47 rfl (lv_at hl 3 rfl) ?_
          refine lv_iconst (v := 0) hx hb dX11_happensTo_48 (by decide) ?_
          refine lv_iconst (v := 0) hx hb dX11_happensTo_49 (by decide) ?_
          refine lv_aload_n hx hb dX11_happensTo_50 rfl (lv_at hl 0 rfl) ?_
          refine va_get (D := (dC, dI)) (ci := 11) (v := .ref (pq 7)) (C := RX11) (T := TX11) (N := 63) hx hb hts in_wsX11_happensTo_X11 hown hK hP 0 rfl rfl 7 (by decide) (hts (.fieldLink RX11 31 "ShipOfficeModel" "opened" "[I") iw_X11_happensTo_2) (fun _ h9 => h9) rfl dX11_happensTo_51 ?_
          refine lv_iload_n hx hb dX11_happensTo_54 rfl (lv_at hl 2 rfl) ?_
          refine va_iald hx hb hK hP 8 7 rfl rfl (vp_in_iff.mpr (by omega)) dX11_happensTo_55 ?_
          refine lv_topi (fun x_25 ex_25 => ?_)
          have hx_25 : 0 ≤ x_25.toInt ∧ x_25.toInt ≤ 3000 := iv_of ex_25 (gA 7 _)
          clear ex_25
          have hFc := va_free (wc := (mW g0 pq cp v fa)) hD hS hA (List.range 48) rfl
          refine va_calli (va_runV (As := [.int x1, .int x2, .int x3, .int 0, .int 0, .int x_25]) (rest := []) ⟨hx, hb, hml, hown, hts⟩ (c_X11_happens l dC dI H.size g0 pq cp v fa gV gA x1 x2 x3 0 0 (by decide) x_25 (by omega)) (cwV 6 hts gX11_happensTo_X11_happens rfl rfl rfl (by decide +kernel) ⟨(Nat.le_of_ble_eq_true rfl), (Nat.le_of_ble_eq_true rfl)⟩) (pr_V (r := (RX11, TX11, 63)) hP hK hD 0 11 rfl rfl) rfl rfl hl.1 rfl (lv_room (Nat.le_of_ble_eq_true rfl)) dX11_happensTo_56 ⟨(Nat.le_of_ble_eq_true rfl), (Nat.le_of_ble_eq_true rfl)⟩) hS (fun q _ h => hFc q h) hFc (fun r_27 u t H locs ht hvm w_26 hB hz1 hk1 hS => ?_)
          obtain ⟨v_28, fa_29⟩ := u
          obtain ⟨hP1, hK1, hD1⟩ := hB
          rw [ht] at hP1
          have hP : va_P (dC, dI) vwCl (mW g0 pq cp v_28 fa_29) H := hP1
          have hD : va_D A (mW g0 pq cp v_28 fa_29) := hD1.weaken (fun _ _ _ h => hFc _ h)
          clear hP1 hK1 hD1 hk1 hz1 hvm ht hFc
          obtain ⟨hV_30, hA_31, hR_32⟩ := w_26
          dsimp only at hV_30 hA_31 hR_32 
          have R_33 : mX [0, 10, 11, 12, 13, 14, 15, 41] v fa v_28 fa_29 := mX.st mX.rf hR_32 (by decide)
          exact W.iret (v := r_27) hx hb hr (fun t ht hW => ⟨⟨r_27, (v_28, fa_29), rfl, ⟨hV_30, hA_31, R_33⟩, ⟨by rw [ht]; exact hP, va_K.moved hW.alike hK, hD⟩⟩, hS.F ht⟩) hS.2.2 dX11_happensTo_59
        · have dc_24 := c_ne (a := r_22.toInt) (b := 0) rfl (by decide) c_24
          refine lv_aload_n hx hb dX11_happensTo_37 rfl (lv_at hl 0 rfl) ?_
          refine lv_bipush (v := (-3)) hx hb dX11_happensTo_38 (by decide) ?_
          have hFc := va_free (wc := (mW g0 pq cp v fa)) hD hS hA (List.range 48) rfl
          refine va_calli (va_runV (As := [.int (-3)]) (rest := []) ⟨hx, hb, hml, hown, hts⟩ (c_X11_refuse l dC dI H.size g0 pq cp v fa (-3) (by unfold vp_in; decide)) (cwV 1 hts gX11_happensTo_X11_refuse rfl rfl rfl (by decide +kernel) ⟨(Nat.le_of_ble_eq_true rfl), (Nat.le_of_ble_eq_true rfl)⟩) (pr_V (r := (RX11, TX11, 63)) hP hK hD 0 11 rfl rfl) rfl rfl hl.1 rfl (lv_room (Nat.le_of_ble_eq_true rfl)) dX11_happensTo_40 ⟨(Nat.le_of_ble_eq_true rfl), (Nat.le_of_ble_eq_true rfl)⟩) hS (fun q _ h => hFc q h) hFc (fun r_35 u t H locs ht hvm w_34 hB hz1 hk1 hS => ?_)
          obtain ⟨v_36, fa_37⟩ := u
          obtain ⟨hP1, hK1, hD1⟩ := hB
          rw [ht] at hP1
          have hP : va_P (dC, dI) vwCl (mW g0 pq cp v_36 fa_37) H := hP1
          have hD : va_D A (mW g0 pq cp v_36 fa_37) := hD1.weaken (fun _ _ _ h => hFc _ h)
          clear hP1 hK1 hD1 hk1 hz1 hvm ht hFc
          obtain ⟨rfl, w_34⟩ := w_34
          have hVv_36 : mV v_36 := sm0_V w_34 gV
          have hAv_36 : mA fa_37 := sm0_A w_34 gA
          have hRv_36 : mX [0, 10, 11, 12, 13, 14, 15, 41] v fa v_36 fa_37 := mX.st mX.rf (mX.s0 w_34) (by decide)
          exact W.iret (v := (-3)) hx hb hr (fun t ht hW => ⟨⟨(-3), (v_36, fa_37), rfl, ⟨hVv_36, hAv_36, hRv_36⟩, ⟨by rw [ht]; exact hP, va_K.moved hW.alike hK, hD⟩⟩, hS.F ht⟩) hS.2.2 dX11_happensTo_43
  · have dc_3 := c_eq (a := r_2.toInt) (b := 0) rfl (by decide) c_3
    refine lv_aload_n hx hb dX11_happensTo_8 rfl (lv_at hl 0 rfl) ?_
    refine lv_iconst (v := (-1)) hx hb dX11_happensTo_9 (by decide) ?_
    have hFc := va_free (wc := (mW g0 pq cp v fa)) hD hS hA (List.range 48) rfl
    refine va_calli (va_runV (As := [.int (-1)]) (rest := []) ⟨hx, hb, hml, hown, hts⟩ (c_X11_refuse l dC dI H.size g0 pq cp v fa (-1) (by unfold vp_in; decide)) (cwV 1 hts gX11_happensTo_X11_refuse rfl rfl rfl (by decide +kernel) ⟨(Nat.le_of_ble_eq_true rfl), (Nat.le_of_ble_eq_true rfl)⟩) (pr_V (r := (RX11, TX11, 63)) hP hK hD 0 11 rfl rfl) rfl rfl hl.1 rfl (lv_room (Nat.le_of_ble_eq_true rfl)) dX11_happensTo_10 ⟨(Nat.le_of_ble_eq_true rfl), (Nat.le_of_ble_eq_true rfl)⟩) hS (fun q _ h => hFc q h) hFc (fun r_39 u t H locs ht hvm w_38 hB hz1 hk1 hS => ?_)
    obtain ⟨v_40, fa_41⟩ := u
    obtain ⟨hP1, hK1, hD1⟩ := hB
    rw [ht] at hP1
    have hP : va_P (dC, dI) vwCl (mW g0 pq cp v_40 fa_41) H := hP1
    have hD : va_D A (mW g0 pq cp v_40 fa_41) := hD1.weaken (fun _ _ _ h => hFc _ h)
    clear hP1 hK1 hD1 hk1 hz1 hvm ht hFc
    obtain ⟨rfl, w_38⟩ := w_38
    have hVv_40 : mV v_40 := sm0_V w_38 gV
    have hAv_40 : mA fa_41 := sm0_A w_38 gA
    have hRv_40 : mX [0, 10, 11, 12, 13, 14, 15, 41] v fa v_40 fa_41 := mX.st mX.rf (mX.s0 w_38) (by decide)
    exact W.iret (v := (-1)) hx hb hr (fun t ht hW => ⟨⟨(-1), (v_40, fa_41), rfl, ⟨hVv_40, hAv_40, hRv_40⟩, ⟨by rw [ht]; exact hP, va_K.moved hW.alike hK, hD⟩⟩, hS.F ht⟩) hS.2.2 dX11_happensTo_13
set_option maxHeartbeats 4000000 in
set_option maxRecDepth 100000 in
theorem c_X11_happensOf (l : Launch) (dC : Nat → ClassId) (dI : Nat → Nat → Nat) (sz : Nat) (g0 : Nat) (pq : Nat → Nat) (cp : Nat → ClassId) (v : Nat → Int32) (fa : Nat → Nat → Int32) (gV : mV v) (gA : mA fa) (x1 : Int32) (x2 : Int32) (x3 : Int32) : Met l yX11_happensOf wsX11_happensOf ({ frames := 2, cells := 0, slots := 0, locals := 47 }) (va_Pc [.ref g0, .int x1, .int x2, .int x3] (pcW (dC, dI) (mT cp) (mW g0 pq cp v fa) sz)) (va_Qi (fun (r : Int32) (u : (Nat → Int32) × (Nat → Nat → Int32)) => mV u.1 ∧ mA u.2 ∧ mX [0, 10, 11, 12, 13, 14, 15, 41] v fa u.1 u.2) (fun u t => va_P (dC, dI) vwCl (mW g0 pq cp u.1 u.2) t.heap ∧ va_K (dC, dI) vwCl (mT cp) t ∧ va_D (va_A (mW g0 pq cp v fa) sz) (mW g0 pq cp u.1 u.2)) (va_A (mW g0 pq cp v fa) sz)) 0 0 (va_A (mW g0 pq cp v fa) sz) := by
  refine Met.ofW (cc := cX11_happensOf) (maxL := 4) (ret := (some .int)) (by decide) rfl ?_
  intro p e s m args below meth c s₁ B hml hv
  obtain ⟨rfl, hsz, hP, hK, hD0⟩ := hv
  have hx := B.exec
  have hb := B.bytes
  have hr := B.returns
  have hts := atoms_spec (ws := wsX11_happensOf) B.pre
  have hown : s.vm.findClass RX11 = some m.cls := findClass_of_methodNamed B.named
  have hlocks := B.notSynchronized
  subst hsz
  have hD := hD0.self (sz := s.heap.size)
  generalize hAe : va_A (mW g0 pq cp v fa) s.heap.size = A at hD ⊢
  have hA : ∀ q : Nat, s.heap.size ≤ q → A q := fun q h => by rw [← hAe]; exact Or.inr h
  have hS : va_S A s.heap s.heap [] := va_S.rf
  have hP : va_P (dC, dI) vwCl (mW g0 pq cp v fa) s.heap := hP
  have hl := lv_entry ([.ref g0, .int x1, .int x2, .int x3]) (n := 4) (Nat.le_of_ble_eq_true rfl)
  rw [lg_entry_eq]
  generalize (lg_sl ([.ref g0, .int x1, .int x2, .int x3]) ++ List.replicate (4 - (lg_sl ([.ref g0, .int x1, .int x2, .int x3])).length) Slot.unset).toArray = ls at hl ⊢
  have hl : lv_has ls 4 [(0, .ref g0), (1, .int x1), (2, .int x2), (3, .int x3)] := hl
  refine lv_aload_n hx hb dX11_happensOf_0 rfl (lv_at hl 0 rfl) ?_
  refine lv_iload_n hx hb dX11_happensOf_1 rfl (lv_at hl 2 rfl) ?_
  have hFc : ∀ q, va_A [] s.heap.size q → A q := pu_free hS hA
  refine va_calli (va_runV (As := [.int x2]) (rest := []) ⟨hx, hb, hml, hown, hts⟩ (c_X11_isAgreement l dC dI s.heap.size g0 pq cp v fa x2) (cwV 1 hts gX11_happensOf_X11_isAgreement rfl rfl rfl (by decide +kernel) ⟨(Nat.le_of_ble_eq_true rfl), (Nat.le_of_ble_eq_true rfl)⟩) (pr_V (r := (RX11, TX11, 63)) hP hK hD 0 11 rfl rfl) rfl rfl hl.1 rfl (lv_room (Nat.le_of_ble_eq_true rfl)) dX11_happensOf_2 ⟨(Nat.le_of_ble_eq_true rfl), (Nat.le_of_ble_eq_true rfl)⟩) hS (fun q _ h => hFc q h) hFc (fun r_2 u t H locs ht hvm w_1 hB hz1 hk1 hS => ?_)
  have hP := pu_keep hP hk1
  clear hk1 hz1 hvm hB ht hFc
  have hbr_2 : 0 ≤ r_2.toInt ∧ r_2.toInt ≤ 1 := iv_of w_1 (isI_i _ _)
  refine lv_if_ne (tgt := 14) hx hb dX11_happensOf_5 (by decide) (fun c_3 => ?_) (fun c_3 => ?_)
  · have dc_3 := c_ne (a := r_2.toInt) (b := 0) rfl (by decide) c_3
    have hi_4 := isI_t w_1 (fun q => c_3 (Int32.toInt_inj.mp q))
    have khi_4 : (v 43).toInt ≤ 60 := (gV 43).2
    refine lv_aload_n hx hb dX11_happensOf_14 rfl (lv_at hl 0 rfl) ?_
    refine va_get (D := (dC, dI)) (ci := 11) (v := .ref (pq 26)) (C := RX11) (T := TX11) (N := 63) hx hb hts in_wsX11_happensOf_X11 hown hK hP 0 rfl rfl 26 (by decide) (hts (.fieldLink RX11 88 "ShipOfficeModel" "offOn" "[I") iw_X11_happensOf_1) (fun _ h9 => h9) rfl dX11_happensOf_15 ?_
    refine lv_iload_n hx hb dX11_happensOf_18 rfl (lv_at hl 2 rfl) ?_
    refine va_iald hx hb hK hP 27 26 rfl rfl (vp_in_iff.mpr (by omega)) dX11_happensOf_19 ?_
    refine lv_topi (fun x_5 ex_5 => ?_)
    clear ex_5
    refine lv_if_lt (tgt := 32) hx hb dX11_happensOf_20 (by decide) (fun c_6 => ?_) (fun c_6 => ?_)
    · have dc_6 := c_lt (a := x_5.toInt) (b := 0) rfl (by decide) c_6
      refine lv_aload_n hx hb dX11_happensOf_32 rfl (lv_at hl 0 rfl) ?_
      refine lv_iload_n hx hb dX11_happensOf_33 rfl (lv_at hl 1 rfl) ?_
      refine lv_iload_n hx hb dX11_happensOf_34 rfl (lv_at hl 2 rfl) ?_
      refine lv_iload_n hx hb dX11_happensOf_35 rfl (lv_at hl 3 rfl) ?_
      refine lv_iconst (v := 0) hx hb dX11_happensOf_36 (by decide) ?_
      refine lv_iconst (v := 0) hx hb dX11_happensOf_37 (by decide) ?_
      refine lv_aload_n hx hb dX11_happensOf_38 rfl (lv_at hl 0 rfl) ?_
      refine va_get (D := (dC, dI)) (ci := 11) (v := .ref (pq 25)) (C := RX11) (T := TX11) (N := 63) hx hb hts in_wsX11_happensOf_X11 hown hK hP 0 rfl rfl 25 (by decide) (hts (.fieldLink RX11 85 "ShipOfficeModel" "signed" "[I") iw_X11_happensOf_2) (fun _ h9 => h9) rfl dX11_happensOf_39 ?_
      refine lv_iload_n hx hb dX11_happensOf_42 rfl (lv_at hl 2 rfl) ?_
      refine va_iald hx hb hK hP 26 25 rfl rfl (vp_in_iff.mpr (by omega)) dX11_happensOf_43 ?_
      refine lv_topi (fun x_7 ex_7 => ?_)
      have hx_7 : 0 ≤ x_7.toInt ∧ x_7.toInt ≤ 3000 := iv_of ex_7 (gA 25 _)
      clear ex_7
      have hFc := va_free (wc := (mW g0 pq cp v fa)) hD hS hA (List.range 48) rfl
      refine va_calli (va_runV (As := [.int x1, .int x2, .int x3, .int 0, .int 0, .int x_7]) (rest := []) ⟨hx, hb, hml, hown, hts⟩ (c_X11_happens l dC dI H.size g0 pq cp v fa gV gA x1 x2 x3 0 0 (by decide) x_7 (by omega)) (cwV 6 hts gX11_happensOf_X11_happens rfl rfl rfl (by decide +kernel) ⟨(Nat.le_of_ble_eq_true rfl), (Nat.le_of_ble_eq_true rfl)⟩) (pr_V (r := (RX11, TX11, 63)) hP hK hD 0 11 rfl rfl) rfl rfl hl.1 rfl (lv_room (Nat.le_of_ble_eq_true rfl)) dX11_happensOf_44 ⟨(Nat.le_of_ble_eq_true rfl), (Nat.le_of_ble_eq_true rfl)⟩) hS (fun q _ h => hFc q h) hFc (fun r_9 u t H locs ht hvm w_8 hB hz1 hk1 hS => ?_)
      obtain ⟨v_10, fa_11⟩ := u
      obtain ⟨hP1, hK1, hD1⟩ := hB
      rw [ht] at hP1
      have hP : va_P (dC, dI) vwCl (mW g0 pq cp v_10 fa_11) H := hP1
      have hD : va_D A (mW g0 pq cp v_10 fa_11) := hD1.weaken (fun _ _ _ h => hFc _ h)
      clear hP1 hK1 hD1 hk1 hz1 hvm ht hFc
      obtain ⟨hV_12, hA_13, hR_14⟩ := w_8
      dsimp only at hV_12 hA_13 hR_14 
      have R_15 : mX [0, 10, 11, 12, 13, 14, 15, 41] v fa v_10 fa_11 := mX.st mX.rf hR_14 (by decide)
      exact W.iret (v := r_9) hx hb hr (fun t ht hW => ⟨⟨r_9, (v_10, fa_11), rfl, ⟨hV_12, hA_13, R_15⟩, ⟨by rw [ht]; exact hP, va_K.moved hW.alike hK, hD⟩⟩, hS.F ht⟩) hS.2.2 dX11_happensOf_47
    · have dc_6 := c_nlt (a := x_5.toInt) (b := 0) rfl (by decide) c_6
      refine lv_aload_n hx hb dX11_happensOf_23 rfl (lv_at hl 0 rfl) ?_
      refine lv_bipush (v := (-3)) hx hb dX11_happensOf_24 (by decide) ?_
      have hFc := va_free (wc := (mW g0 pq cp v fa)) hD hS hA (List.range 48) rfl
      refine va_calli (va_runV (As := [.int (-3)]) (rest := []) ⟨hx, hb, hml, hown, hts⟩ (c_X11_refuse l dC dI H.size g0 pq cp v fa (-3) (by unfold vp_in; decide)) (cwV 1 hts gX11_happensOf_X11_refuse rfl rfl rfl (by decide +kernel) ⟨(Nat.le_of_ble_eq_true rfl), (Nat.le_of_ble_eq_true rfl)⟩) (pr_V (r := (RX11, TX11, 63)) hP hK hD 0 11 rfl rfl) rfl rfl hl.1 rfl (lv_room (Nat.le_of_ble_eq_true rfl)) dX11_happensOf_26 ⟨(Nat.le_of_ble_eq_true rfl), (Nat.le_of_ble_eq_true rfl)⟩) hS (fun q _ h => hFc q h) hFc (fun r_17 u t H locs ht hvm w_16 hB hz1 hk1 hS => ?_)
      obtain ⟨v_18, fa_19⟩ := u
      obtain ⟨hP1, hK1, hD1⟩ := hB
      rw [ht] at hP1
      have hP : va_P (dC, dI) vwCl (mW g0 pq cp v_18 fa_19) H := hP1
      have hD : va_D A (mW g0 pq cp v_18 fa_19) := hD1.weaken (fun _ _ _ h => hFc _ h)
      clear hP1 hK1 hD1 hk1 hz1 hvm ht hFc
      obtain ⟨rfl, w_16⟩ := w_16
      have hVv_18 : mV v_18 := sm0_V w_16 gV
      have hAv_18 : mA fa_19 := sm0_A w_16 gA
      have hRv_18 : mX [0, 10, 11, 12, 13, 14, 15, 41] v fa v_18 fa_19 := mX.st mX.rf (mX.s0 w_16) (by decide)
      refine lv_goto (tgt := 47) hx hb dX11_happensOf_29 (by decide) ?_
      exact W.iret (v := (-3)) hx hb hr (fun t ht hW => ⟨⟨(-3), (v_18, fa_19), rfl, ⟨hVv_18, hAv_18, hRv_18⟩, ⟨by rw [ht]; exact hP, va_K.moved hW.alike hK, hD⟩⟩, hS.F ht⟩) hS.2.2 dX11_happensOf_47
  · have dc_3 := c_eq (a := r_2.toInt) (b := 0) rfl (by decide) c_3
    refine lv_aload_n hx hb dX11_happensOf_8 rfl (lv_at hl 0 rfl) ?_
    refine lv_iconst (v := (-1)) hx hb dX11_happensOf_9 (by decide) ?_
    have hFc := va_free (wc := (mW g0 pq cp v fa)) hD hS hA (List.range 48) rfl
    refine va_calli (va_runV (As := [.int (-1)]) (rest := []) ⟨hx, hb, hml, hown, hts⟩ (c_X11_refuse l dC dI H.size g0 pq cp v fa (-1) (by unfold vp_in; decide)) (cwV 1 hts gX11_happensOf_X11_refuse rfl rfl rfl (by decide +kernel) ⟨(Nat.le_of_ble_eq_true rfl), (Nat.le_of_ble_eq_true rfl)⟩) (pr_V (r := (RX11, TX11, 63)) hP hK hD 0 11 rfl rfl) rfl rfl hl.1 rfl (lv_room (Nat.le_of_ble_eq_true rfl)) dX11_happensOf_10 ⟨(Nat.le_of_ble_eq_true rfl), (Nat.le_of_ble_eq_true rfl)⟩) hS (fun q _ h => hFc q h) hFc (fun r_21 u t H locs ht hvm w_20 hB hz1 hk1 hS => ?_)
    obtain ⟨v_22, fa_23⟩ := u
    obtain ⟨hP1, hK1, hD1⟩ := hB
    rw [ht] at hP1
    have hP : va_P (dC, dI) vwCl (mW g0 pq cp v_22 fa_23) H := hP1
    have hD : va_D A (mW g0 pq cp v_22 fa_23) := hD1.weaken (fun _ _ _ h => hFc _ h)
    clear hP1 hK1 hD1 hk1 hz1 hvm ht hFc
    obtain ⟨rfl, w_20⟩ := w_20
    have hVv_22 : mV v_22 := sm0_V w_20 gV
    have hAv_22 : mA fa_23 := sm0_A w_20 gA
    have hRv_22 : mX [0, 10, 11, 12, 13, 14, 15, 41] v fa v_22 fa_23 := mX.st mX.rf (mX.s0 w_20) (by decide)
    exact W.iret (v := (-1)) hx hb hr (fun t ht hW => ⟨⟨(-1), (v_22, fa_23), rfl, ⟨hVv_22, hAv_22, hRv_22⟩, ⟨by rw [ht]; exact hP, va_K.moved hW.alike hK, hD⟩⟩, hS.F ht⟩) hS.2.2 dX11_happensOf_13
set_option maxHeartbeats 4000000 in
set_option maxRecDepth 100000 in
theorem c_X11_sailed (l : Launch) (dC : Nat → ClassId) (dI : Nat → Nat → Nat) (sz : Nat) (g0 : Nat) (pq : Nat → Nat) (cp : Nat → ClassId) (v : Nat → Int32) (fa : Nat → Nat → Int32) (gV : mV v) (gA : mA fa) (x1 : Int32) (x2 : Int32) : Met l yX11_sailed wsX11_sailed ({ frames := 3, cells := 0, slots := 0, locals := 70 }) (va_Pc [.ref g0, .int x1, .int x2] (pcW (dC, dI) (mT cp) (mW g0 pq cp v fa) sz)) (va_Qi (fun (r : Int32) (u : (Nat → Int32) × (Nat → Nat → Int32)) => mV u.1 ∧ mA u.2 ∧ mX [0, 10, 11, 12, 13, 14, 15, 41] v fa u.1 u.2) (fun u t => va_P (dC, dI) vwCl (mW g0 pq cp u.1 u.2) t.heap ∧ va_K (dC, dI) vwCl (mT cp) t ∧ va_D (va_A (mW g0 pq cp v fa) sz) (mW g0 pq cp u.1 u.2)) (va_A (mW g0 pq cp v fa) sz)) 0 0 (va_A (mW g0 pq cp v fa) sz) := by
  refine Met.ofW (cc := cX11_sailed) (maxL := 3) (ret := (some .int)) (by decide) rfl ?_
  intro p e s m args below meth c s₁ B hml hv
  obtain ⟨rfl, hsz, hP, hK, hD0⟩ := hv
  have hx := B.exec
  have hb := B.bytes
  have hr := B.returns
  have hts := atoms_spec (ws := wsX11_sailed) B.pre
  have hown : s.vm.findClass RX11 = some m.cls := findClass_of_methodNamed B.named
  have hlocks := B.notSynchronized
  subst hsz
  have hD := hD0.self (sz := s.heap.size)
  generalize hAe : va_A (mW g0 pq cp v fa) s.heap.size = A at hD ⊢
  have hA : ∀ q : Nat, s.heap.size ≤ q → A q := fun q h => by rw [← hAe]; exact Or.inr h
  have hS : va_S A s.heap s.heap [] := va_S.rf
  have hP : va_P (dC, dI) vwCl (mW g0 pq cp v fa) s.heap := hP
  have hl := lv_entry ([.ref g0, .int x1, .int x2]) (n := 3) (Nat.le_of_ble_eq_true rfl)
  rw [lg_entry_eq]
  generalize (lg_sl ([.ref g0, .int x1, .int x2]) ++ List.replicate (3 - (lg_sl ([.ref g0, .int x1, .int x2])).length) Slot.unset).toArray = ls at hl ⊢
  have hl : lv_has ls 3 [(0, .ref g0), (1, .int x1), (2, .int x2)] := hl
  refine lv_aload_n hx hb dX11_sailed_0 rfl (lv_at hl 0 rfl) ?_
  refine lv_iconst (v := 0) hx hb dX11_sailed_1 (by decide) ?_
  refine lv_iload_n hx hb dX11_sailed_2 rfl (lv_at hl 1 rfl) ?_
  refine lv_iload_n hx hb dX11_sailed_3 rfl (lv_at hl 2 rfl) ?_
  have hFc := va_free (wc := (mW g0 pq cp v fa)) hD hS hA (List.range 48) rfl
  refine va_calli (va_runV (As := [.int 0, .int x1, .int x2]) (rest := []) ⟨hx, hb, hml, hown, hts⟩ (c_X11_happensTo l dC dI s.heap.size g0 pq cp v fa gV gA 0 x1 x2) (cwV 3 hts gX11_sailed_X11_happensTo rfl rfl rfl (by decide +kernel) ⟨(Nat.le_of_ble_eq_true rfl), (Nat.le_of_ble_eq_true rfl)⟩) (pr_V (r := (RX11, TX11, 63)) hP hK hD 0 11 rfl rfl) rfl rfl hl.1 rfl (lv_room (Nat.le_of_ble_eq_true rfl)) dX11_sailed_4 ⟨(Nat.le_of_ble_eq_true rfl), (Nat.le_of_ble_eq_true rfl)⟩) hS (fun q _ h => hFc q h) hFc (fun r_2 u t H locs ht hvm w_1 hB hz1 hk1 hS => ?_)
  obtain ⟨v_3, fa_4⟩ := u
  obtain ⟨hP1, hK1, hD1⟩ := hB
  rw [ht] at hP1
  have hP : va_P (dC, dI) vwCl (mW g0 pq cp v_3 fa_4) H := hP1
  have hD : va_D A (mW g0 pq cp v_3 fa_4) := hD1.weaken (fun _ _ _ h => hFc _ h)
  clear hP1 hK1 hD1 hk1 hz1 hvm ht hFc
  obtain ⟨hV_5, hA_6, hR_7⟩ := w_1
  dsimp only at hV_5 hA_6 hR_7 
  have R_8 : mX [0, 10, 11, 12, 13, 14, 15, 41] v fa v_3 fa_4 := mX.st mX.rf hR_7 (by decide)
  exact W.iret (v := r_2) hx hb hr (fun t ht hW => ⟨⟨r_2, (v_3, fa_4), rfl, ⟨hV_5, hA_6, R_8⟩, ⟨by rw [ht]; exact hP, va_K.moved hW.alike hK, hD⟩⟩, hS.F ht⟩) hS.2.2 dX11_sailed_7
set_option maxHeartbeats 4000000 in
set_option maxRecDepth 100000 in
theorem c_X11_heard (l : Launch) (dC : Nat → ClassId) (dI : Nat → Nat → Nat) (sz : Nat) (g0 : Nat) (pq : Nat → Nat) (cp : Nat → ClassId) (v : Nat → Int32) (fa : Nat → Nat → Int32) (gV : mV v) (gA : mA fa) (x1 : Int32) (x2 : Int32) : Met l yX11_heard wsX11_heard ({ frames := 3, cells := 0, slots := 0, locals := 70 }) (va_Pc [.ref g0, .int x1, .int x2] (pcW (dC, dI) (mT cp) (mW g0 pq cp v fa) sz)) (va_Qi (fun (r : Int32) (u : (Nat → Int32) × (Nat → Nat → Int32)) => mV u.1 ∧ mA u.2 ∧ mX [0, 10, 11, 12, 13, 14, 15, 41] v fa u.1 u.2) (fun u t => va_P (dC, dI) vwCl (mW g0 pq cp u.1 u.2) t.heap ∧ va_K (dC, dI) vwCl (mT cp) t ∧ va_D (va_A (mW g0 pq cp v fa) sz) (mW g0 pq cp u.1 u.2)) (va_A (mW g0 pq cp v fa) sz)) 0 0 (va_A (mW g0 pq cp v fa) sz) := by
  refine Met.ofW (cc := cX11_heard) (maxL := 3) (ret := (some .int)) (by decide) rfl ?_
  intro p e s m args below meth c s₁ B hml hv
  obtain ⟨rfl, hsz, hP, hK, hD0⟩ := hv
  have hx := B.exec
  have hb := B.bytes
  have hr := B.returns
  have hts := atoms_spec (ws := wsX11_heard) B.pre
  have hown : s.vm.findClass RX11 = some m.cls := findClass_of_methodNamed B.named
  have hlocks := B.notSynchronized
  subst hsz
  have hD := hD0.self (sz := s.heap.size)
  generalize hAe : va_A (mW g0 pq cp v fa) s.heap.size = A at hD ⊢
  have hA : ∀ q : Nat, s.heap.size ≤ q → A q := fun q h => by rw [← hAe]; exact Or.inr h
  have hS : va_S A s.heap s.heap [] := va_S.rf
  have hP : va_P (dC, dI) vwCl (mW g0 pq cp v fa) s.heap := hP
  have hl := lv_entry ([.ref g0, .int x1, .int x2]) (n := 3) (Nat.le_of_ble_eq_true rfl)
  rw [lg_entry_eq]
  generalize (lg_sl ([.ref g0, .int x1, .int x2]) ++ List.replicate (3 - (lg_sl ([.ref g0, .int x1, .int x2])).length) Slot.unset).toArray = ls at hl ⊢
  have hl : lv_has ls 3 [(0, .ref g0), (1, .int x1), (2, .int x2)] := hl
  refine lv_aload_n hx hb dX11_heard_0 rfl (lv_at hl 0 rfl) ?_
  refine lv_iconst (v := 1) hx hb dX11_heard_1 (by decide) ?_
  refine lv_iload_n hx hb dX11_heard_2 rfl (lv_at hl 1 rfl) ?_
  refine lv_iload_n hx hb dX11_heard_3 rfl (lv_at hl 2 rfl) ?_
  have hFc := va_free (wc := (mW g0 pq cp v fa)) hD hS hA (List.range 48) rfl
  refine va_calli (va_runV (As := [.int 1, .int x1, .int x2]) (rest := []) ⟨hx, hb, hml, hown, hts⟩ (c_X11_happensTo l dC dI s.heap.size g0 pq cp v fa gV gA 1 x1 x2) (cwV 3 hts gX11_heard_X11_happensTo rfl rfl rfl (by decide +kernel) ⟨(Nat.le_of_ble_eq_true rfl), (Nat.le_of_ble_eq_true rfl)⟩) (pr_V (r := (RX11, TX11, 63)) hP hK hD 0 11 rfl rfl) rfl rfl hl.1 rfl (lv_room (Nat.le_of_ble_eq_true rfl)) dX11_heard_4 ⟨(Nat.le_of_ble_eq_true rfl), (Nat.le_of_ble_eq_true rfl)⟩) hS (fun q _ h => hFc q h) hFc (fun r_2 u t H locs ht hvm w_1 hB hz1 hk1 hS => ?_)
  obtain ⟨v_3, fa_4⟩ := u
  obtain ⟨hP1, hK1, hD1⟩ := hB
  rw [ht] at hP1
  have hP : va_P (dC, dI) vwCl (mW g0 pq cp v_3 fa_4) H := hP1
  have hD : va_D A (mW g0 pq cp v_3 fa_4) := hD1.weaken (fun _ _ _ h => hFc _ h)
  clear hP1 hK1 hD1 hk1 hz1 hvm ht hFc
  obtain ⟨hV_5, hA_6, hR_7⟩ := w_1
  dsimp only at hV_5 hA_6 hR_7 
  have R_8 : mX [0, 10, 11, 12, 13, 14, 15, 41] v fa v_3 fa_4 := mX.st mX.rf hR_7 (by decide)
  exact W.iret (v := r_2) hx hb hr (fun t ht hW => ⟨⟨r_2, (v_3, fa_4), rfl, ⟨hV_5, hA_6, R_8⟩, ⟨by rw [ht]; exact hP, va_K.moved hW.alike hK, hD⟩⟩, hS.F ht⟩) hS.2.2 dX11_heard_7
set_option maxHeartbeats 4000000 in
set_option maxRecDepth 100000 in
theorem c_X11_lost (l : Launch) (dC : Nat → ClassId) (dI : Nat → Nat → Nat) (sz : Nat) (g0 : Nat) (pq : Nat → Nat) (cp : Nat → ClassId) (v : Nat → Int32) (fa : Nat → Nat → Int32) (gV : mV v) (gA : mA fa) (x1 : Int32) (x2 : Int32) : Met l yX11_lost wsX11_lost ({ frames := 3, cells := 0, slots := 0, locals := 70 }) (va_Pc [.ref g0, .int x1, .int x2] (pcW (dC, dI) (mT cp) (mW g0 pq cp v fa) sz)) (va_Qi (fun (r : Int32) (u : (Nat → Int32) × (Nat → Nat → Int32)) => mV u.1 ∧ mA u.2 ∧ mX [0, 10, 11, 12, 13, 14, 15, 41] v fa u.1 u.2) (fun u t => va_P (dC, dI) vwCl (mW g0 pq cp u.1 u.2) t.heap ∧ va_K (dC, dI) vwCl (mT cp) t ∧ va_D (va_A (mW g0 pq cp v fa) sz) (mW g0 pq cp u.1 u.2)) (va_A (mW g0 pq cp v fa) sz)) 0 0 (va_A (mW g0 pq cp v fa) sz) := by
  refine Met.ofW (cc := cX11_lost) (maxL := 3) (ret := (some .int)) (by decide) rfl ?_
  intro p e s m args below meth c s₁ B hml hv
  obtain ⟨rfl, hsz, hP, hK, hD0⟩ := hv
  have hx := B.exec
  have hb := B.bytes
  have hr := B.returns
  have hts := atoms_spec (ws := wsX11_lost) B.pre
  have hown : s.vm.findClass RX11 = some m.cls := findClass_of_methodNamed B.named
  have hlocks := B.notSynchronized
  subst hsz
  have hD := hD0.self (sz := s.heap.size)
  generalize hAe : va_A (mW g0 pq cp v fa) s.heap.size = A at hD ⊢
  have hA : ∀ q : Nat, s.heap.size ≤ q → A q := fun q h => by rw [← hAe]; exact Or.inr h
  have hS : va_S A s.heap s.heap [] := va_S.rf
  have hP : va_P (dC, dI) vwCl (mW g0 pq cp v fa) s.heap := hP
  have hl := lv_entry ([.ref g0, .int x1, .int x2]) (n := 3) (Nat.le_of_ble_eq_true rfl)
  rw [lg_entry_eq]
  generalize (lg_sl ([.ref g0, .int x1, .int x2]) ++ List.replicate (3 - (lg_sl ([.ref g0, .int x1, .int x2])).length) Slot.unset).toArray = ls at hl ⊢
  have hl : lv_has ls 3 [(0, .ref g0), (1, .int x1), (2, .int x2)] := hl
  refine lv_aload_n hx hb dX11_lost_0 rfl (lv_at hl 0 rfl) ?_
  refine lv_iconst (v := 2) hx hb dX11_lost_1 (by decide) ?_
  refine lv_iload_n hx hb dX11_lost_2 rfl (lv_at hl 1 rfl) ?_
  refine lv_iload_n hx hb dX11_lost_3 rfl (lv_at hl 2 rfl) ?_
  have hFc := va_free (wc := (mW g0 pq cp v fa)) hD hS hA (List.range 48) rfl
  refine va_calli (va_runV (As := [.int 2, .int x1, .int x2]) (rest := []) ⟨hx, hb, hml, hown, hts⟩ (c_X11_happensTo l dC dI s.heap.size g0 pq cp v fa gV gA 2 x1 x2) (cwV 3 hts gX11_lost_X11_happensTo rfl rfl rfl (by decide +kernel) ⟨(Nat.le_of_ble_eq_true rfl), (Nat.le_of_ble_eq_true rfl)⟩) (pr_V (r := (RX11, TX11, 63)) hP hK hD 0 11 rfl rfl) rfl rfl hl.1 rfl (lv_room (Nat.le_of_ble_eq_true rfl)) dX11_lost_4 ⟨(Nat.le_of_ble_eq_true rfl), (Nat.le_of_ble_eq_true rfl)⟩) hS (fun q _ h => hFc q h) hFc (fun r_2 u t H locs ht hvm w_1 hB hz1 hk1 hS => ?_)
  obtain ⟨v_3, fa_4⟩ := u
  obtain ⟨hP1, hK1, hD1⟩ := hB
  rw [ht] at hP1
  have hP : va_P (dC, dI) vwCl (mW g0 pq cp v_3 fa_4) H := hP1
  have hD : va_D A (mW g0 pq cp v_3 fa_4) := hD1.weaken (fun _ _ _ h => hFc _ h)
  clear hP1 hK1 hD1 hk1 hz1 hvm ht hFc
  obtain ⟨hV_5, hA_6, hR_7⟩ := w_1
  dsimp only at hV_5 hA_6 hR_7 
  have R_8 : mX [0, 10, 11, 12, 13, 14, 15, 41] v fa v_3 fa_4 := mX.st mX.rf hR_7 (by decide)
  exact W.iret (v := r_2) hx hb hr (fun t ht hW => ⟨⟨r_2, (v_3, fa_4), rfl, ⟨hV_5, hA_6, R_8⟩, ⟨by rw [ht]; exact hP, va_K.moved hW.alike hK, hD⟩⟩, hS.F ht⟩) hS.2.2 dX11_lost_7
set_option maxHeartbeats 4000000 in
set_option maxRecDepth 100000 in
theorem c_X11_died (l : Launch) (dC : Nat → ClassId) (dI : Nat → Nat → Nat) (sz : Nat) (g0 : Nat) (pq : Nat → Nat) (cp : Nat → ClassId) (v : Nat → Int32) (fa : Nat → Nat → Int32) (gV : mV v) (gA : mA fa) (x1 : Int32) (x2 : Int32) : Met l yX11_died wsX11_died ({ frames := 3, cells := 0, slots := 0, locals := 70 }) (va_Pc [.ref g0, .int x1, .int x2] (pcW (dC, dI) (mT cp) (mW g0 pq cp v fa) sz)) (va_Qi (fun (r : Int32) (u : (Nat → Int32) × (Nat → Nat → Int32)) => mV u.1 ∧ mA u.2 ∧ mX [0, 10, 11, 12, 13, 14, 15, 41] v fa u.1 u.2) (fun u t => va_P (dC, dI) vwCl (mW g0 pq cp u.1 u.2) t.heap ∧ va_K (dC, dI) vwCl (mT cp) t ∧ va_D (va_A (mW g0 pq cp v fa) sz) (mW g0 pq cp u.1 u.2)) (va_A (mW g0 pq cp v fa) sz)) 0 0 (va_A (mW g0 pq cp v fa) sz) := by
  refine Met.ofW (cc := cX11_died) (maxL := 3) (ret := (some .int)) (by decide) rfl ?_
  intro p e s m args below meth c s₁ B hml hv
  obtain ⟨rfl, hsz, hP, hK, hD0⟩ := hv
  have hx := B.exec
  have hb := B.bytes
  have hr := B.returns
  have hts := atoms_spec (ws := wsX11_died) B.pre
  have hown : s.vm.findClass RX11 = some m.cls := findClass_of_methodNamed B.named
  have hlocks := B.notSynchronized
  subst hsz
  have hD := hD0.self (sz := s.heap.size)
  generalize hAe : va_A (mW g0 pq cp v fa) s.heap.size = A at hD ⊢
  have hA : ∀ q : Nat, s.heap.size ≤ q → A q := fun q h => by rw [← hAe]; exact Or.inr h
  have hS : va_S A s.heap s.heap [] := va_S.rf
  have hP : va_P (dC, dI) vwCl (mW g0 pq cp v fa) s.heap := hP
  have hl := lv_entry ([.ref g0, .int x1, .int x2]) (n := 3) (Nat.le_of_ble_eq_true rfl)
  rw [lg_entry_eq]
  generalize (lg_sl ([.ref g0, .int x1, .int x2]) ++ List.replicate (3 - (lg_sl ([.ref g0, .int x1, .int x2])).length) Slot.unset).toArray = ls at hl ⊢
  have hl : lv_has ls 3 [(0, .ref g0), (1, .int x1), (2, .int x2)] := hl
  refine lv_aload_n hx hb dX11_died_0 rfl (lv_at hl 0 rfl) ?_
  refine lv_iconst (v := 4) hx hb dX11_died_1 (by decide) ?_
  refine lv_iload_n hx hb dX11_died_2 rfl (lv_at hl 1 rfl) ?_
  refine lv_iload_n hx hb dX11_died_3 rfl (lv_at hl 2 rfl) ?_
  have hFc := va_free (wc := (mW g0 pq cp v fa)) hD hS hA (List.range 48) rfl
  refine va_calli (va_runV (As := [.int 4, .int x1, .int x2]) (rest := []) ⟨hx, hb, hml, hown, hts⟩ (c_X11_happensOf l dC dI s.heap.size g0 pq cp v fa gV gA 4 x1 x2) (cwV 3 hts gX11_died_X11_happensOf rfl rfl rfl (by decide +kernel) ⟨(Nat.le_of_ble_eq_true rfl), (Nat.le_of_ble_eq_true rfl)⟩) (pr_V (r := (RX11, TX11, 63)) hP hK hD 0 11 rfl rfl) rfl rfl hl.1 rfl (lv_room (Nat.le_of_ble_eq_true rfl)) dX11_died_4 ⟨(Nat.le_of_ble_eq_true rfl), (Nat.le_of_ble_eq_true rfl)⟩) hS (fun q _ h => hFc q h) hFc (fun r_2 u t H locs ht hvm w_1 hB hz1 hk1 hS => ?_)
  obtain ⟨v_3, fa_4⟩ := u
  obtain ⟨hP1, hK1, hD1⟩ := hB
  rw [ht] at hP1
  have hP : va_P (dC, dI) vwCl (mW g0 pq cp v_3 fa_4) H := hP1
  have hD : va_D A (mW g0 pq cp v_3 fa_4) := hD1.weaken (fun _ _ _ h => hFc _ h)
  clear hP1 hK1 hD1 hk1 hz1 hvm ht hFc
  obtain ⟨hV_5, hA_6, hR_7⟩ := w_1
  dsimp only at hV_5 hA_6 hR_7 
  have R_8 : mX [0, 10, 11, 12, 13, 14, 15, 41] v fa v_3 fa_4 := mX.st mX.rf hR_7 (by decide)
  exact W.iret (v := r_2) hx hb hr (fun t ht hW => ⟨⟨r_2, (v_3, fa_4), rfl, ⟨hV_5, hA_6, R_8⟩, ⟨by rw [ht]; exact hP, va_K.moved hW.alike hK, hD⟩⟩, hS.F ht⟩) hS.2.2 dX11_died_7
set_option maxHeartbeats 4000000 in
set_option maxRecDepth 100000 in
theorem c_X11_back (l : Launch) (dC : Nat → ClassId) (dI : Nat → Nat → Nat) (sz : Nat) (g0 : Nat) (pq : Nat → Nat) (cp : Nat → ClassId) (v : Nat → Int32) (fa : Nat → Nat → Int32) (gV : mV v) (gA : mA fa) (x1 : Int32) (x2 : Int32) : Met l yX11_back wsX11_back ({ frames := 3, cells := 0, slots := 0, locals := 70 }) (va_Pc [.ref g0, .int x1, .int x2] (pcW (dC, dI) (mT cp) (mW g0 pq cp v fa) sz)) (va_Qi (fun (r : Int32) (u : (Nat → Int32) × (Nat → Nat → Int32)) => mV u.1 ∧ mA u.2 ∧ mX [0, 10, 11, 12, 13, 14, 15, 41] v fa u.1 u.2) (fun u t => va_P (dC, dI) vwCl (mW g0 pq cp u.1 u.2) t.heap ∧ va_K (dC, dI) vwCl (mT cp) t ∧ va_D (va_A (mW g0 pq cp v fa) sz) (mW g0 pq cp u.1 u.2)) (va_A (mW g0 pq cp v fa) sz)) 0 0 (va_A (mW g0 pq cp v fa) sz) := by
  refine Met.ofW (cc := cX11_back) (maxL := 3) (ret := (some .int)) (by decide) rfl ?_
  intro p e s m args below meth c s₁ B hml hv
  obtain ⟨rfl, hsz, hP, hK, hD0⟩ := hv
  have hx := B.exec
  have hb := B.bytes
  have hr := B.returns
  have hts := atoms_spec (ws := wsX11_back) B.pre
  have hown : s.vm.findClass RX11 = some m.cls := findClass_of_methodNamed B.named
  have hlocks := B.notSynchronized
  subst hsz
  have hD := hD0.self (sz := s.heap.size)
  generalize hAe : va_A (mW g0 pq cp v fa) s.heap.size = A at hD ⊢
  have hA : ∀ q : Nat, s.heap.size ≤ q → A q := fun q h => by rw [← hAe]; exact Or.inr h
  have hS : va_S A s.heap s.heap [] := va_S.rf
  have hP : va_P (dC, dI) vwCl (mW g0 pq cp v fa) s.heap := hP
  have hl := lv_entry ([.ref g0, .int x1, .int x2]) (n := 3) (Nat.le_of_ble_eq_true rfl)
  rw [lg_entry_eq]
  generalize (lg_sl ([.ref g0, .int x1, .int x2]) ++ List.replicate (3 - (lg_sl ([.ref g0, .int x1, .int x2])).length) Slot.unset).toArray = ls at hl ⊢
  have hl : lv_has ls 3 [(0, .ref g0), (1, .int x1), (2, .int x2)] := hl
  refine lv_aload_n hx hb dX11_back_0 rfl (lv_at hl 0 rfl) ?_
  refine lv_iconst (v := 5) hx hb dX11_back_1 (by decide) ?_
  refine lv_iload_n hx hb dX11_back_2 rfl (lv_at hl 1 rfl) ?_
  refine lv_iload_n hx hb dX11_back_3 rfl (lv_at hl 2 rfl) ?_
  have hFc := va_free (wc := (mW g0 pq cp v fa)) hD hS hA (List.range 48) rfl
  refine va_calli (va_runV (As := [.int 5, .int x1, .int x2]) (rest := []) ⟨hx, hb, hml, hown, hts⟩ (c_X11_happensOf l dC dI s.heap.size g0 pq cp v fa gV gA 5 x1 x2) (cwV 3 hts gX11_back_X11_happensOf rfl rfl rfl (by decide +kernel) ⟨(Nat.le_of_ble_eq_true rfl), (Nat.le_of_ble_eq_true rfl)⟩) (pr_V (r := (RX11, TX11, 63)) hP hK hD 0 11 rfl rfl) rfl rfl hl.1 rfl (lv_room (Nat.le_of_ble_eq_true rfl)) dX11_back_4 ⟨(Nat.le_of_ble_eq_true rfl), (Nat.le_of_ble_eq_true rfl)⟩) hS (fun q _ h => hFc q h) hFc (fun r_2 u t H locs ht hvm w_1 hB hz1 hk1 hS => ?_)
  obtain ⟨v_3, fa_4⟩ := u
  obtain ⟨hP1, hK1, hD1⟩ := hB
  rw [ht] at hP1
  have hP : va_P (dC, dI) vwCl (mW g0 pq cp v_3 fa_4) H := hP1
  have hD : va_D A (mW g0 pq cp v_3 fa_4) := hD1.weaken (fun _ _ _ h => hFc _ h)
  clear hP1 hK1 hD1 hk1 hz1 hvm ht hFc
  obtain ⟨hV_5, hA_6, hR_7⟩ := w_1
  dsimp only at hV_5 hA_6 hR_7 
  have R_8 : mX [0, 10, 11, 12, 13, 14, 15, 41] v fa v_3 fa_4 := mX.st mX.rf hR_7 (by decide)
  exact W.iret (v := r_2) hx hb hr (fun t ht hW => ⟨⟨r_2, (v_3, fa_4), rfl, ⟨hV_5, hA_6, R_8⟩, ⟨by rw [ht]; exact hP, va_K.moved hW.alike hK, hD⟩⟩, hS.F ht⟩) hS.2.2 dX11_back_7
set_option maxHeartbeats 4000000 in
set_option maxRecDepth 100000 in
theorem c_X11_left (l : Launch) (dC : Nat → ClassId) (dI : Nat → Nat → Nat) (sz : Nat) (g0 : Nat) (pq : Nat → Nat) (cp : Nat → ClassId) (v : Nat → Int32) (fa : Nat → Nat → Int32) (gV : mV v) (gA : mA fa) (x1 : Int32) (x2 : Int32) (x3 : Int32) (x4 : Int32) : Met l yX11_left wsX11_left ({ frames := 2, cells := 0, slots := 0, locals := 47 }) (va_Pc [.ref g0, .int x1, .int x2, .int x3, .int x4] (pcW (dC, dI) (mT cp) (mW g0 pq cp v fa) sz)) (va_Qi (fun (r : Int32) (u : (Nat → Int32) × (Nat → Nat → Int32)) => mV u.1 ∧ mA u.2 ∧ mX [0, 10, 11, 12, 13, 14, 15, 41] v fa u.1 u.2) (fun u t => va_P (dC, dI) vwCl (mW g0 pq cp u.1 u.2) t.heap ∧ va_K (dC, dI) vwCl (mT cp) t ∧ va_D (va_A (mW g0 pq cp v fa) sz) (mW g0 pq cp u.1 u.2)) (va_A (mW g0 pq cp v fa) sz)) 0 0 (va_A (mW g0 pq cp v fa) sz) := by
  refine Met.ofW (cc := cX11_left) (maxL := 5) (ret := (some .int)) (by decide) rfl ?_
  intro p e s m args below meth c s₁ B hml hv
  obtain ⟨rfl, hsz, hP, hK, hD0⟩ := hv
  have hx := B.exec
  have hb := B.bytes
  have hr := B.returns
  have hts := atoms_spec (ws := wsX11_left) B.pre
  have hown : s.vm.findClass RX11 = some m.cls := findClass_of_methodNamed B.named
  have hlocks := B.notSynchronized
  subst hsz
  have hD := hD0.self (sz := s.heap.size)
  generalize hAe : va_A (mW g0 pq cp v fa) s.heap.size = A at hD ⊢
  have hA : ∀ q : Nat, s.heap.size ≤ q → A q := fun q h => by rw [← hAe]; exact Or.inr h
  have hS : va_S A s.heap s.heap [] := va_S.rf
  have hP : va_P (dC, dI) vwCl (mW g0 pq cp v fa) s.heap := hP
  have hl := lv_entry ([.ref g0, .int x1, .int x2, .int x3, .int x4]) (n := 5) (Nat.le_of_ble_eq_true rfl)
  rw [lg_entry_eq]
  generalize (lg_sl ([.ref g0, .int x1, .int x2, .int x3, .int x4]) ++ List.replicate (5 - (lg_sl ([.ref g0, .int x1, .int x2, .int x3, .int x4])).length) Slot.unset).toArray = ls at hl ⊢
  have hl : lv_has ls 5 [(0, .ref g0), (1, .int x1), (2, .int x2), (3, .int x3), (4, .int x4)] := hl
  refine lv_aload_n hx hb dX11_left_0 rfl (lv_at hl 0 rfl) ?_
  refine lv_iload_n hx hb dX11_left_1 rfl (lv_at hl 1 rfl) ?_
  have hFc : ∀ q, va_A [] s.heap.size q → A q := pu_free hS hA
  refine va_calli (va_runV (As := [.int x1]) (rest := []) ⟨hx, hb, hml, hown, hts⟩ (c_X11_isAgreement l dC dI s.heap.size g0 pq cp v fa x1) (cwV 1 hts gX11_left_X11_isAgreement rfl rfl rfl (by decide +kernel) ⟨(Nat.le_of_ble_eq_true rfl), (Nat.le_of_ble_eq_true rfl)⟩) (pr_V (r := (RX11, TX11, 63)) hP hK hD 0 11 rfl rfl) rfl rfl hl.1 rfl (lv_room (Nat.le_of_ble_eq_true rfl)) dX11_left_2 ⟨(Nat.le_of_ble_eq_true rfl), (Nat.le_of_ble_eq_true rfl)⟩) hS (fun q _ h => hFc q h) hFc (fun r_2 u t H locs ht hvm w_1 hB hz1 hk1 hS => ?_)
  have hP := pu_keep hP hk1
  clear hk1 hz1 hvm hB ht hFc
  have hbr_2 : 0 ≤ r_2.toInt ∧ r_2.toInt ≤ 1 := iv_of w_1 (isI_i _ _)
  refine lv_if_eq (tgt := 16) hx hb dX11_left_5 (by decide) (fun c_3 => ?_) (fun c_3 => ?_)
  · have dc_3 := c_eq (a := r_2.toInt) (b := 0) rfl (by decide) c_3
    refine lv_aload_n hx hb dX11_left_16 rfl (lv_at hl 0 rfl) ?_
    refine lv_iconst (v := (-1)) hx hb dX11_left_17 (by decide) ?_
    have hFc := va_free (wc := (mW g0 pq cp v fa)) hD hS hA (List.range 48) rfl
    refine va_calli (va_runV (As := [.int (-1)]) (rest := []) ⟨hx, hb, hml, hown, hts⟩ (c_X11_refuse l dC dI H.size g0 pq cp v fa (-1) (by unfold vp_in; decide)) (cwV 1 hts gX11_left_X11_refuse rfl rfl rfl (by decide +kernel) ⟨(Nat.le_of_ble_eq_true rfl), (Nat.le_of_ble_eq_true rfl)⟩) (pr_V (r := (RX11, TX11, 63)) hP hK hD 0 11 rfl rfl) rfl rfl hl.1 rfl (lv_room (Nat.le_of_ble_eq_true rfl)) dX11_left_18 ⟨(Nat.le_of_ble_eq_true rfl), (Nat.le_of_ble_eq_true rfl)⟩) hS (fun q _ h => hFc q h) hFc (fun r_5 u t H locs ht hvm w_4 hB hz1 hk1 hS => ?_)
    obtain ⟨v_6, fa_7⟩ := u
    obtain ⟨hP1, hK1, hD1⟩ := hB
    rw [ht] at hP1
    have hP : va_P (dC, dI) vwCl (mW g0 pq cp v_6 fa_7) H := hP1
    have hD : va_D A (mW g0 pq cp v_6 fa_7) := hD1.weaken (fun _ _ _ h => hFc _ h)
    clear hP1 hK1 hD1 hk1 hz1 hvm ht hFc
    obtain ⟨rfl, w_4⟩ := w_4
    have hVv_6 : mV v_6 := sm0_V w_4 gV
    have hAv_6 : mA fa_7 := sm0_A w_4 gA
    have hRv_6 : mX [0, 10, 11, 12, 13, 14, 15, 41] v fa v_6 fa_7 := mX.st mX.rf (mX.s0 w_4) (by decide)
    exact W.iret (v := (-1)) hx hb hr (fun t ht hW => ⟨⟨(-1), (v_6, fa_7), rfl, ⟨hVv_6, hAv_6, hRv_6⟩, ⟨by rw [ht]; exact hP, va_K.moved hW.alike hK, hD⟩⟩, hS.F ht⟩) hS.2.2 dX11_left_21
  · have dc_3 := c_ne (a := r_2.toInt) (b := 0) rfl (by decide) c_3
    have hi_8 := isI_t w_1 (fun q => c_3 (Int32.toInt_inj.mp q))
    have khi_8 : (v 43).toInt ≤ 60 := (gV 43).2
    refine lv_iload hx hb dX11_left_8 (lv_at hl 4 rfl) ?_
    have hFc : ∀ q, va_A [] H.size q → A q := pu_free hS hA
    have hPc := hP.sub (ws' := []) [] rfl
    have hDc := hD.sub (ws' := []) [] (by decide) rfl
    have hKc := hK.sub (tys' := []) [] rfl
    refine va_calli (va_runS (As := [.int x4]) (rest := []) ⟨hx, hb, hml, hown, hts⟩ (c_X11_isPort l dC dI H.size x4) (va_cwS 1 hts gX11_left_X11_isPort rfl rfl rfl (by decide +kernel) ⟨(Nat.le_of_ble_eq_true rfl), (Nat.le_of_ble_eq_true rfl)⟩) (pr_S hPc hKc hDc) rfl rfl hl.1 rfl (lv_room (Nat.le_of_ble_eq_true rfl)) dX11_left_10 ⟨(Nat.le_of_ble_eq_true rfl), (Nat.le_of_ble_eq_true rfl)⟩) hS (fun q _ h => hFc q h) hFc (fun r_10 u t H locs ht hvm w_9 hB hz1 hk1 hS => ?_)
    have hP := pu_keep hP hk1
    clear hk1 hz1 hvm hB ht hFc hPc hDc hKc
    have hbr_10 : 0 ≤ r_10.toInt ∧ r_10.toInt ≤ 1 := iv_of w_9 (isI_i _ _)
    refine lv_if_ne (tgt := 22) hx hb dX11_left_13 (by decide) (fun c_11 => ?_) (fun c_11 => ?_)
    · have dc_11 := c_ne (a := r_10.toInt) (b := 0) rfl (by decide) c_11
      have hi_12 := isI_t w_9 (fun q => c_11 (Int32.toInt_inj.mp q))
      have khi_12 : (10 : Int32).toInt = 10 := by decide
      refine lv_iload_n hx hb dX11_left_22 rfl (lv_at hl 3 rfl) ?_
      refine lv_iconst (v := 3) hx hb dX11_left_23 (by decide) ?_
      have hFc : ∀ q, va_A [] H.size q → A q := pu_free hS hA
      have hPc := hP.sub (ws' := []) [] rfl
      have hDc := hD.sub (ws' := []) [] (by decide) rfl
      have hKc := hK.sub (tys' := []) [] rfl
      refine va_calli (va_runS (As := [.int x3, .int 3]) (rest := []) ⟨hx, hb, hml, hown, hts⟩ (c_X11_isIn l dC dI H.size x3 3) (va_cwS 2 hts gX11_left_X11_isIn rfl rfl rfl (by decide +kernel) ⟨(Nat.le_of_ble_eq_true rfl), (Nat.le_of_ble_eq_true rfl)⟩) (pr_S hPc hKc hDc) rfl rfl hl.1 rfl (lv_room (Nat.le_of_ble_eq_true rfl)) dX11_left_24 ⟨(Nat.le_of_ble_eq_true rfl), (Nat.le_of_ble_eq_true rfl)⟩) hS (fun q _ h => hFc q h) hFc (fun r_14 u t H locs ht hvm w_13 hB hz1 hk1 hS => ?_)
      have hP := pu_keep hP hk1
      clear hk1 hz1 hvm hB ht hFc hPc hDc hKc
      have hbr_14 : 0 ≤ r_14.toInt ∧ r_14.toInt ≤ 1 := iv_of w_13 (isI_i _ _)
      refine lv_if_ne (tgt := 37) hx hb dX11_left_27 (by decide) (fun c_15 => ?_) (fun c_15 => ?_)
      · have dc_15 := c_ne (a := r_14.toInt) (b := 0) rfl (by decide) c_15
        have hi_16 := isI_t w_13 (fun q => c_15 (Int32.toInt_inj.mp q))
        have khi_16 : (3 : Int32).toInt = 3 := by decide
        refine lv_aload_n hx hb dX11_left_37 rfl (lv_at hl 0 rfl) ?_
        refine va_get (D := (dC, dI)) (ci := 11) (v := .ref (pq 26)) (C := RX11) (T := TX11) (N := 63) hx hb hts in_wsX11_left_X11 hown hK hP 0 rfl rfl 26 (by decide) (hts (.fieldLink RX11 88 "ShipOfficeModel" "offOn" "[I") iw_X11_left_1) (fun _ h9 => h9) rfl dX11_left_38 ?_
        refine lv_iload_n hx hb dX11_left_41 rfl (lv_at hl 1 rfl) ?_
        refine va_iald hx hb hK hP 27 26 rfl rfl (vp_in_iff.mpr (by omega)) dX11_left_42 ?_
        refine lv_topi (fun x_17 ex_17 => ?_)
        clear ex_17
        refine lv_if_lt (tgt := 55) hx hb dX11_left_43 (by decide) (fun c_18 => ?_) (fun c_18 => ?_)
        · have dc_18 := c_lt (a := x_17.toInt) (b := 0) rfl (by decide) c_18
          refine lv_aload_n hx hb dX11_left_55 rfl (lv_at hl 0 rfl) ?_
          refine lv_iconst (v := 3) hx hb dX11_left_56 (by decide) ?_
          refine lv_iload_n hx hb dX11_left_57 rfl (lv_at hl 1 rfl) ?_
          refine lv_iload_n hx hb dX11_left_58 rfl (lv_at hl 2 rfl) ?_
          refine lv_iload_n hx hb dX11_left_59 rfl (lv_at hl 3 rfl) ?_
          refine lv_iload hx hb dX11_left_60 (lv_at hl 4 rfl) ?_
          refine lv_aload_n hx hb dX11_left_62 rfl (lv_at hl 0 rfl) ?_
          refine va_get (D := (dC, dI)) (ci := 11) (v := .ref (pq 25)) (C := RX11) (T := TX11) (N := 63) hx hb hts in_wsX11_left_X11 hown hK hP 0 rfl rfl 25 (by decide) (hts (.fieldLink RX11 85 "ShipOfficeModel" "signed" "[I") iw_X11_left_2) (fun _ h9 => h9) rfl dX11_left_63 ?_
          refine lv_iload_n hx hb dX11_left_66 rfl (lv_at hl 1 rfl) ?_
          refine va_iald hx hb hK hP 26 25 rfl rfl (vp_in_iff.mpr (by omega)) dX11_left_67 ?_
          refine lv_topi (fun x_19 ex_19 => ?_)
          have hx_19 : 0 ≤ x_19.toInt ∧ x_19.toInt ≤ 3000 := iv_of ex_19 (gA 25 _)
          clear ex_19
          have hFc := va_free (wc := (mW g0 pq cp v fa)) hD hS hA (List.range 48) rfl
          refine va_calli (va_runV (As := [.int 3, .int x1, .int x2, .int x3, .int x4, .int x_19]) (rest := []) ⟨hx, hb, hml, hown, hts⟩ (c_X11_happens l dC dI H.size g0 pq cp v fa gV gA 3 x1 x2 x3 x4 (by omega) x_19 (by omega)) (cwV 6 hts gX11_left_X11_happens rfl rfl rfl (by decide +kernel) ⟨(Nat.le_of_ble_eq_true rfl), (Nat.le_of_ble_eq_true rfl)⟩) (pr_V (r := (RX11, TX11, 63)) hP hK hD 0 11 rfl rfl) rfl rfl hl.1 rfl (lv_room (Nat.le_of_ble_eq_true rfl)) dX11_left_68 ⟨(Nat.le_of_ble_eq_true rfl), (Nat.le_of_ble_eq_true rfl)⟩) hS (fun q _ h => hFc q h) hFc (fun r_21 u t H locs ht hvm w_20 hB hz1 hk1 hS => ?_)
          obtain ⟨v_22, fa_23⟩ := u
          obtain ⟨hP1, hK1, hD1⟩ := hB
          rw [ht] at hP1
          have hP : va_P (dC, dI) vwCl (mW g0 pq cp v_22 fa_23) H := hP1
          have hD : va_D A (mW g0 pq cp v_22 fa_23) := hD1.weaken (fun _ _ _ h => hFc _ h)
          clear hP1 hK1 hD1 hk1 hz1 hvm ht hFc
          obtain ⟨hV_24, hA_25, hR_26⟩ := w_20
          dsimp only at hV_24 hA_25 hR_26 
          have R_27 : mX [0, 10, 11, 12, 13, 14, 15, 41] v fa v_22 fa_23 := mX.st mX.rf hR_26 (by decide)
          exact W.iret (v := r_21) hx hb hr (fun t ht hW => ⟨⟨r_21, (v_22, fa_23), rfl, ⟨hV_24, hA_25, R_27⟩, ⟨by rw [ht]; exact hP, va_K.moved hW.alike hK, hD⟩⟩, hS.F ht⟩) hS.2.2 dX11_left_71
        · have dc_18 := c_nlt (a := x_17.toInt) (b := 0) rfl (by decide) c_18
          refine lv_aload_n hx hb dX11_left_46 rfl (lv_at hl 0 rfl) ?_
          refine lv_bipush (v := (-3)) hx hb dX11_left_47 (by decide) ?_
          have hFc := va_free (wc := (mW g0 pq cp v fa)) hD hS hA (List.range 48) rfl
          refine va_calli (va_runV (As := [.int (-3)]) (rest := []) ⟨hx, hb, hml, hown, hts⟩ (c_X11_refuse l dC dI H.size g0 pq cp v fa (-3) (by unfold vp_in; decide)) (cwV 1 hts gX11_left_X11_refuse rfl rfl rfl (by decide +kernel) ⟨(Nat.le_of_ble_eq_true rfl), (Nat.le_of_ble_eq_true rfl)⟩) (pr_V (r := (RX11, TX11, 63)) hP hK hD 0 11 rfl rfl) rfl rfl hl.1 rfl (lv_room (Nat.le_of_ble_eq_true rfl)) dX11_left_49 ⟨(Nat.le_of_ble_eq_true rfl), (Nat.le_of_ble_eq_true rfl)⟩) hS (fun q _ h => hFc q h) hFc (fun r_29 u t H locs ht hvm w_28 hB hz1 hk1 hS => ?_)
          obtain ⟨v_30, fa_31⟩ := u
          obtain ⟨hP1, hK1, hD1⟩ := hB
          rw [ht] at hP1
          have hP : va_P (dC, dI) vwCl (mW g0 pq cp v_30 fa_31) H := hP1
          have hD : va_D A (mW g0 pq cp v_30 fa_31) := hD1.weaken (fun _ _ _ h => hFc _ h)
          clear hP1 hK1 hD1 hk1 hz1 hvm ht hFc
          obtain ⟨rfl, w_28⟩ := w_28
          have hVv_30 : mV v_30 := sm0_V w_28 gV
          have hAv_30 : mA fa_31 := sm0_A w_28 gA
          have hRv_30 : mX [0, 10, 11, 12, 13, 14, 15, 41] v fa v_30 fa_31 := mX.st mX.rf (mX.s0 w_28) (by decide)
          refine lv_goto (tgt := 71) hx hb dX11_left_52 (by decide) ?_
          exact W.iret (v := (-3)) hx hb hr (fun t ht hW => ⟨⟨(-3), (v_30, fa_31), rfl, ⟨hVv_30, hAv_30, hRv_30⟩, ⟨by rw [ht]; exact hP, va_K.moved hW.alike hK, hD⟩⟩, hS.F ht⟩) hS.2.2 dX11_left_71
      · have dc_15 := c_eq (a := r_14.toInt) (b := 0) rfl (by decide) c_15
        refine lv_aload_n hx hb dX11_left_30 rfl (lv_at hl 0 rfl) ?_
        refine lv_bipush (v := (-2)) hx hb dX11_left_31 (by decide) ?_
        have hFc := va_free (wc := (mW g0 pq cp v fa)) hD hS hA (List.range 48) rfl
        refine va_calli (va_runV (As := [.int (-2)]) (rest := []) ⟨hx, hb, hml, hown, hts⟩ (c_X11_refuse l dC dI H.size g0 pq cp v fa (-2) (by unfold vp_in; decide)) (cwV 1 hts gX11_left_X11_refuse rfl rfl rfl (by decide +kernel) ⟨(Nat.le_of_ble_eq_true rfl), (Nat.le_of_ble_eq_true rfl)⟩) (pr_V (r := (RX11, TX11, 63)) hP hK hD 0 11 rfl rfl) rfl rfl hl.1 rfl (lv_room (Nat.le_of_ble_eq_true rfl)) dX11_left_33 ⟨(Nat.le_of_ble_eq_true rfl), (Nat.le_of_ble_eq_true rfl)⟩) hS (fun q _ h => hFc q h) hFc (fun r_33 u t H locs ht hvm w_32 hB hz1 hk1 hS => ?_)
        obtain ⟨v_34, fa_35⟩ := u
        obtain ⟨hP1, hK1, hD1⟩ := hB
        rw [ht] at hP1
        have hP : va_P (dC, dI) vwCl (mW g0 pq cp v_34 fa_35) H := hP1
        have hD : va_D A (mW g0 pq cp v_34 fa_35) := hD1.weaken (fun _ _ _ h => hFc _ h)
        clear hP1 hK1 hD1 hk1 hz1 hvm ht hFc
        obtain ⟨rfl, w_32⟩ := w_32
        have hVv_34 : mV v_34 := sm0_V w_32 gV
        have hAv_34 : mA fa_35 := sm0_A w_32 gA
        have hRv_34 : mX [0, 10, 11, 12, 13, 14, 15, 41] v fa v_34 fa_35 := mX.st mX.rf (mX.s0 w_32) (by decide)
        exact W.iret (v := (-2)) hx hb hr (fun t ht hW => ⟨⟨(-2), (v_34, fa_35), rfl, ⟨hVv_34, hAv_34, hRv_34⟩, ⟨by rw [ht]; exact hP, va_K.moved hW.alike hK, hD⟩⟩, hS.F ht⟩) hS.2.2 dX11_left_36
    · have dc_11 := c_eq (a := r_10.toInt) (b := 0) rfl (by decide) c_11
      refine lv_aload_n hx hb dX11_left_16 rfl (lv_at hl 0 rfl) ?_
      refine lv_iconst (v := (-1)) hx hb dX11_left_17 (by decide) ?_
      have hFc := va_free (wc := (mW g0 pq cp v fa)) hD hS hA (List.range 48) rfl
      refine va_calli (va_runV (As := [.int (-1)]) (rest := []) ⟨hx, hb, hml, hown, hts⟩ (c_X11_refuse l dC dI H.size g0 pq cp v fa (-1) (by unfold vp_in; decide)) (cwV 1 hts gX11_left_X11_refuse rfl rfl rfl (by decide +kernel) ⟨(Nat.le_of_ble_eq_true rfl), (Nat.le_of_ble_eq_true rfl)⟩) (pr_V (r := (RX11, TX11, 63)) hP hK hD 0 11 rfl rfl) rfl rfl hl.1 rfl (lv_room (Nat.le_of_ble_eq_true rfl)) dX11_left_18 ⟨(Nat.le_of_ble_eq_true rfl), (Nat.le_of_ble_eq_true rfl)⟩) hS (fun q _ h => hFc q h) hFc (fun r_37 u t H locs ht hvm w_36 hB hz1 hk1 hS => ?_)
      obtain ⟨v_38, fa_39⟩ := u
      obtain ⟨hP1, hK1, hD1⟩ := hB
      rw [ht] at hP1
      have hP : va_P (dC, dI) vwCl (mW g0 pq cp v_38 fa_39) H := hP1
      have hD : va_D A (mW g0 pq cp v_38 fa_39) := hD1.weaken (fun _ _ _ h => hFc _ h)
      clear hP1 hK1 hD1 hk1 hz1 hvm ht hFc
      obtain ⟨rfl, w_36⟩ := w_36
      have hVv_38 : mV v_38 := sm0_V w_36 gV
      have hAv_38 : mA fa_39 := sm0_A w_36 gA
      have hRv_38 : mX [0, 10, 11, 12, 13, 14, 15, 41] v fa v_38 fa_39 := mX.st mX.rf (mX.s0 w_36) (by decide)
      exact W.iret (v := (-1)) hx hb hr (fun t ht hW => ⟨⟨(-1), (v_38, fa_39), rfl, ⟨hVv_38, hAv_38, hRv_38⟩, ⟨by rw [ht]; exact hP, va_K.moved hW.alike hK, hD⟩⟩, hS.F ht⟩) hS.2.2 dX11_left_21
