abbrev cX11_happens : ByteArray := prog_13_method_16_code
def yX11_happens : MethodName := ⟨RX11, "happens", "(IIIIII)I"⟩
abbrev cX11_happensTo : ByteArray := prog_13_method_17_code
def yX11_happensTo : MethodName := ⟨RX11, "happensTo", "(III)I"⟩
abbrev cX11_sailed : ByteArray := prog_13_method_18_code
def yX11_sailed : MethodName := ⟨RX11, "sailed", "(II)I"⟩
abbrev cX11_heard : ByteArray := prog_13_method_19_code
def yX11_heard : MethodName := ⟨RX11, "heard", "(II)I"⟩
abbrev cX11_lost : ByteArray := prog_13_method_20_code
def yX11_lost : MethodName := ⟨RX11, "lost", "(II)I"⟩
abbrev cX11_left : ByteArray := prog_13_method_21_code
def yX11_left : MethodName := ⟨RX11, "left", "(IIII)I"⟩
abbrev cX11_happensOf : ByteArray := prog_13_method_22_code
def yX11_happensOf : MethodName := ⟨RX11, "happensOf", "(III)I"⟩
abbrev cX11_died : ByteArray := prog_13_method_23_code
def yX11_died : MethodName := ⟨RX11, "died", "(II)I"⟩
abbrev cX11_back : ByteArray := prog_13_method_24_code
def yX11_back : MethodName := ⟨RX11, "back", "(II)I"⟩
theorem gw_X11_isVoyage : wsX11_isVoyage.all goodWord = true := by decide +kernel
def wsX11_happens : List Cond := .code yX11_happens cX11_happens 7 (some .int) :: ([.fieldLink RX11 171 "ShipOfficeModel" "now" "I", .fieldLink RX11 179 "ShipOfficeModel" "happened" "I", .fieldLink RX11 40 "ShipOfficeModel" "what" "[I", .fieldLink RX11 43 "ShipOfficeModel" "whose" "[I", .fieldLink RX11 46 "ShipOfficeModel" "day" "[I", .fieldLink RX11 49 "ShipOfficeModel" "known" "[I", .fieldLink RX11 52 "ShipOfficeModel" "way" "[I", .fieldLink RX11 55 "ShipOfficeModel" "port" "[I", .methodLink RX11 153 yX11_refuse, .instanceMethod yX11_refuse, .selects RX11 yX11_refuse yX11_refuse, .initialized RX11, .code yX11_refuse cX11_refuse 2 (some .int), .fieldLink RX11 7 "ShipOfficeModel" "refusals" "[I"] ++ wsX110)
theorem gw_X11_happens : wsX11_happens.all goodWord = true := by decide +kernel
theorem il_X11_happens_1 : ∀ w ∈ ([.fieldLink RX11 171 "ShipOfficeModel" "now" "I", .fieldLink RX11 179 "ShipOfficeModel" "happened" "I", .fieldLink RX11 40 "ShipOfficeModel" "what" "[I", .fieldLink RX11 43 "ShipOfficeModel" "whose" "[I", .fieldLink RX11 46 "ShipOfficeModel" "day" "[I", .fieldLink RX11 49 "ShipOfficeModel" "known" "[I", .fieldLink RX11 52 "ShipOfficeModel" "way" "[I", .fieldLink RX11 55 "ShipOfficeModel" "port" "[I", .methodLink RX11 153 yX11_refuse, .instanceMethod yX11_refuse, .selects RX11 yX11_refuse yX11_refuse, .initialized RX11, .code yX11_refuse cX11_refuse 2 (some .int), .fieldLink RX11 7 "ShipOfficeModel" "refusals" "[I"] : List Cond), w ∈ wsX11_happens := fun w h => (List.mem_cons_of_mem _ (List.mem_append_left _ h))
theorem il_X11_happens_2 : ∀ w ∈ wsX110, w ∈ wsX11_happens := fun w h => (List.mem_cons_of_mem _ (List.mem_append_right _ h))
theorem iw_X11_happens_1 : Cond.fieldLink RX11 171 "ShipOfficeModel" "now" "I" ∈ wsX11_happens := (mmI il_X11_happens_1 0 rfl)
theorem iw_X11_happens_2 : Cond.fieldLink RX11 179 "ShipOfficeModel" "happened" "I" ∈ wsX11_happens := (mmI il_X11_happens_1 1 rfl)
theorem iw_X11_happens_3 : Cond.fieldLink RX11 40 "ShipOfficeModel" "what" "[I" ∈ wsX11_happens := (mmI il_X11_happens_1 2 rfl)
theorem iw_X11_happens_4 : Cond.fieldLink RX11 43 "ShipOfficeModel" "whose" "[I" ∈ wsX11_happens := (mmI il_X11_happens_1 3 rfl)
theorem iw_X11_happens_5 : Cond.fieldLink RX11 46 "ShipOfficeModel" "day" "[I" ∈ wsX11_happens := (mmI il_X11_happens_1 4 rfl)
theorem iw_X11_happens_6 : Cond.fieldLink RX11 49 "ShipOfficeModel" "known" "[I" ∈ wsX11_happens := (mmI il_X11_happens_1 5 rfl)
theorem iw_X11_happens_7 : Cond.fieldLink RX11 52 "ShipOfficeModel" "way" "[I" ∈ wsX11_happens := (mmI il_X11_happens_1 6 rfl)
theorem iw_X11_happens_8 : Cond.fieldLink RX11 55 "ShipOfficeModel" "port" "[I" ∈ wsX11_happens := (mmI il_X11_happens_1 7 rfl)
def wsX11_happensTo_r1 : List Cond := [Cond.fieldLink RX11 37 "ShipOfficeModel" "endedOn" "[I", Cond.fieldLink RX11 31 "ShipOfficeModel" "opened" "[I", Cond.methodLink RX11 185 yX11_isVoyage, Cond.instanceMethod yX11_isVoyage, Cond.selects RX11 yX11_isVoyage yX11_isVoyage, Cond.initialized RX11, Cond.code yX11_isVoyage cX11_isVoyage 2 (some .boolean), Cond.fieldLink RX11 165 "ShipOfficeModel" "voyages" "I", Cond.methodLink RX11 161 yX11_isIn, Cond.static yX11_isIn, Cond.code yX11_isIn cX11_isIn 2 (some .boolean), Cond.methodLink RX11 153 yX11_refuse, Cond.instanceMethod yX11_refuse, Cond.selects RX11 yX11_refuse yX11_refuse, Cond.code yX11_refuse cX11_refuse 2 (some .int), Cond.fieldLink RX11 7 "ShipOfficeModel" "refusals" "[I", Cond.methodLink RX11 182 yX11_wasTold, Cond.instanceMethod yX11_wasTold, Cond.selects RX11 yX11_wasTold yX11_wasTold, Cond.code yX11_wasTold cX11_wasTold 4 (some .boolean), Cond.fieldLink RX11 179 "ShipOfficeModel" "happened" "I", Cond.fieldLink RX11 40 "ShipOfficeModel" "what" "[I", Cond.fieldLink RX11 43 "ShipOfficeModel" "whose" "[I", Cond.methodLink RX11 191 yX11_happens]
def wsX11_happensTo_r2 : List Cond := [Cond.instanceMethod yX11_happens, Cond.selects RX11 yX11_happens yX11_happens, Cond.code yX11_happens cX11_happens 7 (some .int), Cond.fieldLink RX11 171 "ShipOfficeModel" "now" "I", Cond.fieldLink RX11 46 "ShipOfficeModel" "day" "[I", Cond.fieldLink RX11 49 "ShipOfficeModel" "known" "[I", Cond.fieldLink RX11 52 "ShipOfficeModel" "way" "[I", Cond.fieldLink RX11 55 "ShipOfficeModel" "port" "[I"]
def wsX11_happensTo : List Cond := .code yX11_happensTo cX11_happensTo 4 (some .int) :: ((wsX11_happensTo_r1 ++ wsX11_happensTo_r2) ++ wsX110)
theorem gw_X11_happensTo : wsX11_happensTo.all goodWord = true := by decide +kernel
theorem il_X11_happensTo_1 : ∀ w ∈ wsX11_happensTo_r1, w ∈ wsX11_happensTo := fun w h => (List.mem_cons_of_mem _ (List.mem_append_left _ (List.mem_append_left _ h)))
theorem il_X11_happensTo_2 : ∀ w ∈ wsX11_happensTo_r2, w ∈ wsX11_happensTo := fun w h => (List.mem_cons_of_mem _ (List.mem_append_left _ (List.mem_append_right _ h)))
theorem il_X11_happensTo_3 : ∀ w ∈ wsX110, w ∈ wsX11_happensTo := fun w h => (List.mem_cons_of_mem _ (List.mem_append_right _ h))
theorem iw_X11_happensTo_1 : Cond.fieldLink RX11 37 "ShipOfficeModel" "endedOn" "[I" ∈ wsX11_happensTo := (mmI il_X11_happensTo_1 0 rfl)
theorem iw_X11_happensTo_2 : Cond.fieldLink RX11 31 "ShipOfficeModel" "opened" "[I" ∈ wsX11_happensTo := (mmI il_X11_happensTo_1 1 rfl)
def wsX11_sailed_r1 : List Cond := [Cond.methodLink RX11 195 yX11_happensTo, Cond.instanceMethod yX11_happensTo, Cond.selects RX11 yX11_happensTo yX11_happensTo, Cond.initialized RX11, Cond.code yX11_happensTo cX11_happensTo 4 (some .int), Cond.fieldLink RX11 37 "ShipOfficeModel" "endedOn" "[I", Cond.fieldLink RX11 31 "ShipOfficeModel" "opened" "[I", Cond.methodLink RX11 185 yX11_isVoyage, Cond.instanceMethod yX11_isVoyage, Cond.selects RX11 yX11_isVoyage yX11_isVoyage, Cond.code yX11_isVoyage cX11_isVoyage 2 (some .boolean), Cond.fieldLink RX11 165 "ShipOfficeModel" "voyages" "I", Cond.methodLink RX11 161 yX11_isIn, Cond.static yX11_isIn, Cond.code yX11_isIn cX11_isIn 2 (some .boolean), Cond.methodLink RX11 153 yX11_refuse, Cond.instanceMethod yX11_refuse, Cond.selects RX11 yX11_refuse yX11_refuse, Cond.code yX11_refuse cX11_refuse 2 (some .int), Cond.fieldLink RX11 7 "ShipOfficeModel" "refusals" "[I", Cond.methodLink RX11 182 yX11_wasTold, Cond.instanceMethod yX11_wasTold, Cond.selects RX11 yX11_wasTold yX11_wasTold, Cond.code yX11_wasTold cX11_wasTold 4 (some .boolean)]
def wsX11_sailed_r2 : List Cond := [Cond.fieldLink RX11 179 "ShipOfficeModel" "happened" "I", Cond.fieldLink RX11 40 "ShipOfficeModel" "what" "[I", Cond.fieldLink RX11 43 "ShipOfficeModel" "whose" "[I", Cond.methodLink RX11 191 yX11_happens, Cond.instanceMethod yX11_happens, Cond.selects RX11 yX11_happens yX11_happens, Cond.code yX11_happens cX11_happens 7 (some .int), Cond.fieldLink RX11 171 "ShipOfficeModel" "now" "I", Cond.fieldLink RX11 46 "ShipOfficeModel" "day" "[I", Cond.fieldLink RX11 49 "ShipOfficeModel" "known" "[I", Cond.fieldLink RX11 52 "ShipOfficeModel" "way" "[I", Cond.fieldLink RX11 55 "ShipOfficeModel" "port" "[I"]
def wsX11_sailed : List Cond := .code yX11_sailed cX11_sailed 3 (some .int) :: ((wsX11_sailed_r1 ++ wsX11_sailed_r2) ++ wsX110)
theorem il_X11_sailed_1 : ∀ w ∈ wsX11_sailed_r1, w ∈ wsX11_sailed := fun w h => (List.mem_cons_of_mem _ (List.mem_append_left _ (List.mem_append_left _ h)))
theorem il_X11_sailed_2 : ∀ w ∈ wsX11_sailed_r2, w ∈ wsX11_sailed := fun w h => (List.mem_cons_of_mem _ (List.mem_append_left _ (List.mem_append_right _ h)))
theorem il_X11_sailed_3 : ∀ w ∈ wsX110, w ∈ wsX11_sailed := fun w h => (List.mem_cons_of_mem _ (List.mem_append_right _ h))
def wsX11_heard_r1 : List Cond := [Cond.methodLink RX11 195 yX11_happensTo, Cond.instanceMethod yX11_happensTo, Cond.selects RX11 yX11_happensTo yX11_happensTo, Cond.initialized RX11, Cond.code yX11_happensTo cX11_happensTo 4 (some .int), Cond.fieldLink RX11 37 "ShipOfficeModel" "endedOn" "[I", Cond.fieldLink RX11 31 "ShipOfficeModel" "opened" "[I", Cond.methodLink RX11 185 yX11_isVoyage, Cond.instanceMethod yX11_isVoyage, Cond.selects RX11 yX11_isVoyage yX11_isVoyage, Cond.code yX11_isVoyage cX11_isVoyage 2 (some .boolean), Cond.fieldLink RX11 165 "ShipOfficeModel" "voyages" "I", Cond.methodLink RX11 161 yX11_isIn, Cond.static yX11_isIn, Cond.code yX11_isIn cX11_isIn 2 (some .boolean), Cond.methodLink RX11 153 yX11_refuse, Cond.instanceMethod yX11_refuse, Cond.selects RX11 yX11_refuse yX11_refuse, Cond.code yX11_refuse cX11_refuse 2 (some .int), Cond.fieldLink RX11 7 "ShipOfficeModel" "refusals" "[I", Cond.methodLink RX11 182 yX11_wasTold, Cond.instanceMethod yX11_wasTold, Cond.selects RX11 yX11_wasTold yX11_wasTold, Cond.code yX11_wasTold cX11_wasTold 4 (some .boolean)]
def wsX11_heard_r2 : List Cond := [Cond.fieldLink RX11 179 "ShipOfficeModel" "happened" "I", Cond.fieldLink RX11 40 "ShipOfficeModel" "what" "[I", Cond.fieldLink RX11 43 "ShipOfficeModel" "whose" "[I", Cond.methodLink RX11 191 yX11_happens, Cond.instanceMethod yX11_happens, Cond.selects RX11 yX11_happens yX11_happens, Cond.code yX11_happens cX11_happens 7 (some .int), Cond.fieldLink RX11 171 "ShipOfficeModel" "now" "I", Cond.fieldLink RX11 46 "ShipOfficeModel" "day" "[I", Cond.fieldLink RX11 49 "ShipOfficeModel" "known" "[I", Cond.fieldLink RX11 52 "ShipOfficeModel" "way" "[I", Cond.fieldLink RX11 55 "ShipOfficeModel" "port" "[I"]
def wsX11_heard : List Cond := .code yX11_heard cX11_heard 3 (some .int) :: ((wsX11_heard_r1 ++ wsX11_heard_r2) ++ wsX110)
theorem il_X11_heard_1 : ∀ w ∈ wsX11_heard_r1, w ∈ wsX11_heard := fun w h => (List.mem_cons_of_mem _ (List.mem_append_left _ (List.mem_append_left _ h)))
theorem il_X11_heard_2 : ∀ w ∈ wsX11_heard_r2, w ∈ wsX11_heard := fun w h => (List.mem_cons_of_mem _ (List.mem_append_left _ (List.mem_append_right _ h)))
theorem il_X11_heard_3 : ∀ w ∈ wsX110, w ∈ wsX11_heard := fun w h => (List.mem_cons_of_mem _ (List.mem_append_right _ h))
def wsX11_lost_r1 : List Cond := [Cond.methodLink RX11 195 yX11_happensTo, Cond.instanceMethod yX11_happensTo, Cond.selects RX11 yX11_happensTo yX11_happensTo, Cond.initialized RX11, Cond.code yX11_happensTo cX11_happensTo 4 (some .int), Cond.fieldLink RX11 37 "ShipOfficeModel" "endedOn" "[I", Cond.fieldLink RX11 31 "ShipOfficeModel" "opened" "[I", Cond.methodLink RX11 185 yX11_isVoyage, Cond.instanceMethod yX11_isVoyage, Cond.selects RX11 yX11_isVoyage yX11_isVoyage, Cond.code yX11_isVoyage cX11_isVoyage 2 (some .boolean), Cond.fieldLink RX11 165 "ShipOfficeModel" "voyages" "I", Cond.methodLink RX11 161 yX11_isIn, Cond.static yX11_isIn, Cond.code yX11_isIn cX11_isIn 2 (some .boolean), Cond.methodLink RX11 153 yX11_refuse, Cond.instanceMethod yX11_refuse, Cond.selects RX11 yX11_refuse yX11_refuse, Cond.code yX11_refuse cX11_refuse 2 (some .int), Cond.fieldLink RX11 7 "ShipOfficeModel" "refusals" "[I", Cond.methodLink RX11 182 yX11_wasTold, Cond.instanceMethod yX11_wasTold, Cond.selects RX11 yX11_wasTold yX11_wasTold, Cond.code yX11_wasTold cX11_wasTold 4 (some .boolean)]
def wsX11_lost_r2 : List Cond := [Cond.fieldLink RX11 179 "ShipOfficeModel" "happened" "I", Cond.fieldLink RX11 40 "ShipOfficeModel" "what" "[I", Cond.fieldLink RX11 43 "ShipOfficeModel" "whose" "[I", Cond.methodLink RX11 191 yX11_happens, Cond.instanceMethod yX11_happens, Cond.selects RX11 yX11_happens yX11_happens, Cond.code yX11_happens cX11_happens 7 (some .int), Cond.fieldLink RX11 171 "ShipOfficeModel" "now" "I", Cond.fieldLink RX11 46 "ShipOfficeModel" "day" "[I", Cond.fieldLink RX11 49 "ShipOfficeModel" "known" "[I", Cond.fieldLink RX11 52 "ShipOfficeModel" "way" "[I", Cond.fieldLink RX11 55 "ShipOfficeModel" "port" "[I"]
def wsX11_lost : List Cond := .code yX11_lost cX11_lost 3 (some .int) :: ((wsX11_lost_r1 ++ wsX11_lost_r2) ++ wsX110)
theorem il_X11_lost_1 : ∀ w ∈ wsX11_lost_r1, w ∈ wsX11_lost := fun w h => (List.mem_cons_of_mem _ (List.mem_append_left _ (List.mem_append_left _ h)))
theorem il_X11_lost_2 : ∀ w ∈ wsX11_lost_r2, w ∈ wsX11_lost := fun w h => (List.mem_cons_of_mem _ (List.mem_append_left _ (List.mem_append_right _ h)))
theorem il_X11_lost_3 : ∀ w ∈ wsX110, w ∈ wsX11_lost := fun w h => (List.mem_cons_of_mem _ (List.mem_append_right _ h))
def wsX11_left_r1 : List Cond := [Cond.fieldLink RX11 88 "ShipOfficeModel" "offOn" "[I", Cond.fieldLink RX11 85 "ShipOfficeModel" "signed" "[I", Cond.methodLink RX11 199 yX11_isAgreement, Cond.instanceMethod yX11_isAgreement, Cond.selects RX11 yX11_isAgreement yX11_isAgreement, Cond.initialized RX11, Cond.code yX11_isAgreement cX11_isAgreement 2 (some .boolean), Cond.fieldLink RX11 168 "ShipOfficeModel" "agreements" "I", Cond.methodLink RX11 161 yX11_isIn, Cond.static yX11_isIn, Cond.code yX11_isIn cX11_isIn 2 (some .boolean), Cond.methodLink RX11 174 yX11_isPort, Cond.static yX11_isPort, Cond.code yX11_isPort cX11_isPort 1 (some .boolean), Cond.methodLink RX11 153 yX11_refuse, Cond.instanceMethod yX11_refuse, Cond.selects RX11 yX11_refuse yX11_refuse, Cond.code yX11_refuse cX11_refuse 2 (some .int), Cond.fieldLink RX11 7 "ShipOfficeModel" "refusals" "[I", Cond.methodLink RX11 191 yX11_happens, Cond.instanceMethod yX11_happens, Cond.selects RX11 yX11_happens yX11_happens, Cond.code yX11_happens cX11_happens 7 (some .int), Cond.fieldLink RX11 171 "ShipOfficeModel" "now" "I"]
def wsX11_left_r2 : List Cond := [Cond.fieldLink RX11 179 "ShipOfficeModel" "happened" "I", Cond.fieldLink RX11 40 "ShipOfficeModel" "what" "[I", Cond.fieldLink RX11 43 "ShipOfficeModel" "whose" "[I", Cond.fieldLink RX11 46 "ShipOfficeModel" "day" "[I", Cond.fieldLink RX11 49 "ShipOfficeModel" "known" "[I", Cond.fieldLink RX11 52 "ShipOfficeModel" "way" "[I", Cond.fieldLink RX11 55 "ShipOfficeModel" "port" "[I"]
def wsX11_left : List Cond := .code yX11_left cX11_left 5 (some .int) :: ((wsX11_left_r1 ++ wsX11_left_r2) ++ wsX110)
theorem il_X11_left_1 : ∀ w ∈ wsX11_left_r1, w ∈ wsX11_left := fun w h => (List.mem_cons_of_mem _ (List.mem_append_left _ (List.mem_append_left _ h)))
theorem il_X11_left_2 : ∀ w ∈ wsX11_left_r2, w ∈ wsX11_left := fun w h => (List.mem_cons_of_mem _ (List.mem_append_left _ (List.mem_append_right _ h)))
theorem il_X11_left_3 : ∀ w ∈ wsX110, w ∈ wsX11_left := fun w h => (List.mem_cons_of_mem _ (List.mem_append_right _ h))
theorem iw_X11_left_1 : Cond.fieldLink RX11 88 "ShipOfficeModel" "offOn" "[I" ∈ wsX11_left := (mmI il_X11_left_1 0 rfl)
theorem iw_X11_left_2 : Cond.fieldLink RX11 85 "ShipOfficeModel" "signed" "[I" ∈ wsX11_left := (mmI il_X11_left_1 1 rfl)
def wsX11_happensOf_r1 : List Cond := [Cond.fieldLink RX11 88 "ShipOfficeModel" "offOn" "[I", Cond.fieldLink RX11 85 "ShipOfficeModel" "signed" "[I", Cond.methodLink RX11 199 yX11_isAgreement, Cond.instanceMethod yX11_isAgreement, Cond.selects RX11 yX11_isAgreement yX11_isAgreement, Cond.initialized RX11, Cond.code yX11_isAgreement cX11_isAgreement 2 (some .boolean), Cond.fieldLink RX11 168 "ShipOfficeModel" "agreements" "I", Cond.methodLink RX11 161 yX11_isIn, Cond.static yX11_isIn, Cond.code yX11_isIn cX11_isIn 2 (some .boolean), Cond.methodLink RX11 153 yX11_refuse, Cond.instanceMethod yX11_refuse, Cond.selects RX11 yX11_refuse yX11_refuse, Cond.code yX11_refuse cX11_refuse 2 (some .int), Cond.fieldLink RX11 7 "ShipOfficeModel" "refusals" "[I", Cond.methodLink RX11 191 yX11_happens, Cond.instanceMethod yX11_happens, Cond.selects RX11 yX11_happens yX11_happens, Cond.code yX11_happens cX11_happens 7 (some .int), Cond.fieldLink RX11 171 "ShipOfficeModel" "now" "I", Cond.fieldLink RX11 179 "ShipOfficeModel" "happened" "I", Cond.fieldLink RX11 40 "ShipOfficeModel" "what" "[I", Cond.fieldLink RX11 43 "ShipOfficeModel" "whose" "[I"]
def wsX11_happensOf_r2 : List Cond := [Cond.fieldLink RX11 46 "ShipOfficeModel" "day" "[I", Cond.fieldLink RX11 49 "ShipOfficeModel" "known" "[I", Cond.fieldLink RX11 52 "ShipOfficeModel" "way" "[I", Cond.fieldLink RX11 55 "ShipOfficeModel" "port" "[I"]
def wsX11_happensOf : List Cond := .code yX11_happensOf cX11_happensOf 4 (some .int) :: ((wsX11_happensOf_r1 ++ wsX11_happensOf_r2) ++ wsX110)
theorem gw_X11_happensOf : wsX11_happensOf.all goodWord = true := by decide +kernel
theorem il_X11_happensOf_1 : ∀ w ∈ wsX11_happensOf_r1, w ∈ wsX11_happensOf := fun w h => (List.mem_cons_of_mem _ (List.mem_append_left _ (List.mem_append_left _ h)))
theorem il_X11_happensOf_2 : ∀ w ∈ wsX11_happensOf_r2, w ∈ wsX11_happensOf := fun w h => (List.mem_cons_of_mem _ (List.mem_append_left _ (List.mem_append_right _ h)))
theorem il_X11_happensOf_3 : ∀ w ∈ wsX110, w ∈ wsX11_happensOf := fun w h => (List.mem_cons_of_mem _ (List.mem_append_right _ h))
theorem iw_X11_happensOf_1 : Cond.fieldLink RX11 88 "ShipOfficeModel" "offOn" "[I" ∈ wsX11_happensOf := (mmI il_X11_happensOf_1 0 rfl)
theorem iw_X11_happensOf_2 : Cond.fieldLink RX11 85 "ShipOfficeModel" "signed" "[I" ∈ wsX11_happensOf := (mmI il_X11_happensOf_1 1 rfl)
def wsX11_died_r1 : List Cond := [Cond.methodLink RX11 202 yX11_happensOf, Cond.instanceMethod yX11_happensOf, Cond.selects RX11 yX11_happensOf yX11_happensOf, Cond.initialized RX11, Cond.code yX11_happensOf cX11_happensOf 4 (some .int), Cond.fieldLink RX11 88 "ShipOfficeModel" "offOn" "[I", Cond.fieldLink RX11 85 "ShipOfficeModel" "signed" "[I", Cond.methodLink RX11 199 yX11_isAgreement, Cond.instanceMethod yX11_isAgreement, Cond.selects RX11 yX11_isAgreement yX11_isAgreement, Cond.code yX11_isAgreement cX11_isAgreement 2 (some .boolean), Cond.fieldLink RX11 168 "ShipOfficeModel" "agreements" "I", Cond.methodLink RX11 161 yX11_isIn, Cond.static yX11_isIn, Cond.code yX11_isIn cX11_isIn 2 (some .boolean), Cond.methodLink RX11 153 yX11_refuse, Cond.instanceMethod yX11_refuse, Cond.selects RX11 yX11_refuse yX11_refuse, Cond.code yX11_refuse cX11_refuse 2 (some .int), Cond.fieldLink RX11 7 "ShipOfficeModel" "refusals" "[I", Cond.methodLink RX11 191 yX11_happens, Cond.instanceMethod yX11_happens, Cond.selects RX11 yX11_happens yX11_happens, Cond.code yX11_happens cX11_happens 7 (some .int)]
def wsX11_died_r2 : List Cond := [Cond.fieldLink RX11 171 "ShipOfficeModel" "now" "I", Cond.fieldLink RX11 179 "ShipOfficeModel" "happened" "I", Cond.fieldLink RX11 40 "ShipOfficeModel" "what" "[I", Cond.fieldLink RX11 43 "ShipOfficeModel" "whose" "[I", Cond.fieldLink RX11 46 "ShipOfficeModel" "day" "[I", Cond.fieldLink RX11 49 "ShipOfficeModel" "known" "[I", Cond.fieldLink RX11 52 "ShipOfficeModel" "way" "[I", Cond.fieldLink RX11 55 "ShipOfficeModel" "port" "[I"]
def wsX11_died : List Cond := .code yX11_died cX11_died 3 (some .int) :: ((wsX11_died_r1 ++ wsX11_died_r2) ++ wsX110)
theorem il_X11_died_1 : ∀ w ∈ wsX11_died_r1, w ∈ wsX11_died := fun w h => (List.mem_cons_of_mem _ (List.mem_append_left _ (List.mem_append_left _ h)))
theorem il_X11_died_2 : ∀ w ∈ wsX11_died_r2, w ∈ wsX11_died := fun w h => (List.mem_cons_of_mem _ (List.mem_append_left _ (List.mem_append_right _ h)))
theorem il_X11_died_3 : ∀ w ∈ wsX110, w ∈ wsX11_died := fun w h => (List.mem_cons_of_mem _ (List.mem_append_right _ h))
def wsX11_back_r1 : List Cond := [Cond.methodLink RX11 202 yX11_happensOf, Cond.instanceMethod yX11_happensOf, Cond.selects RX11 yX11_happensOf yX11_happensOf, Cond.initialized RX11, Cond.code yX11_happensOf cX11_happensOf 4 (some .int), Cond.fieldLink RX11 88 "ShipOfficeModel" "offOn" "[I", Cond.fieldLink RX11 85 "ShipOfficeModel" "signed" "[I", Cond.methodLink RX11 199 yX11_isAgreement, Cond.instanceMethod yX11_isAgreement, Cond.selects RX11 yX11_isAgreement yX11_isAgreement, Cond.code yX11_isAgreement cX11_isAgreement 2 (some .boolean), Cond.fieldLink RX11 168 "ShipOfficeModel" "agreements" "I", Cond.methodLink RX11 161 yX11_isIn, Cond.static yX11_isIn, Cond.code yX11_isIn cX11_isIn 2 (some .boolean), Cond.methodLink RX11 153 yX11_refuse, Cond.instanceMethod yX11_refuse, Cond.selects RX11 yX11_refuse yX11_refuse, Cond.code yX11_refuse cX11_refuse 2 (some .int), Cond.fieldLink RX11 7 "ShipOfficeModel" "refusals" "[I", Cond.methodLink RX11 191 yX11_happens, Cond.instanceMethod yX11_happens, Cond.selects RX11 yX11_happens yX11_happens, Cond.code yX11_happens cX11_happens 7 (some .int)]
def wsX11_back_r2 : List Cond := [Cond.fieldLink RX11 171 "ShipOfficeModel" "now" "I", Cond.fieldLink RX11 179 "ShipOfficeModel" "happened" "I", Cond.fieldLink RX11 40 "ShipOfficeModel" "what" "[I", Cond.fieldLink RX11 43 "ShipOfficeModel" "whose" "[I", Cond.fieldLink RX11 46 "ShipOfficeModel" "day" "[I", Cond.fieldLink RX11 49 "ShipOfficeModel" "known" "[I", Cond.fieldLink RX11 52 "ShipOfficeModel" "way" "[I", Cond.fieldLink RX11 55 "ShipOfficeModel" "port" "[I"]
def wsX11_back : List Cond := .code yX11_back cX11_back 3 (some .int) :: ((wsX11_back_r1 ++ wsX11_back_r2) ++ wsX110)
theorem il_X11_back_1 : ∀ w ∈ wsX11_back_r1, w ∈ wsX11_back := fun w h => (List.mem_cons_of_mem _ (List.mem_append_left _ (List.mem_append_left _ h)))
theorem il_X11_back_2 : ∀ w ∈ wsX11_back_r2, w ∈ wsX11_back := fun w h => (List.mem_cons_of_mem _ (List.mem_append_left _ (List.mem_append_right _ h)))
theorem il_X11_back_3 : ∀ w ∈ wsX110, w ∈ wsX11_back := fun w h => (List.mem_cons_of_mem _ (List.mem_append_right _ h))
set_option maxRecDepth 100000 in
theorem ggX11_happens_X11_refuse : GoodIn wsX11_happens wsX11_refuse := goodIn_sub (mmC (mmI il_X11_happens_1 12 rfl) (mmA (mmC (mmI il_X11_happens_1 13 rfl) mmN) il_X11_happens_2)) gw_X11_refuse
theorem gX11_happens_X11_refuse : GoodIn wsX11_happens (wsV RX11 153 RX11 yX11_refuse wsX11_refuse) := goodIn_app (goodIn_sub (mmC (mmI il_X11_happens_1 8 rfl) (mmC (mmI il_X11_happens_1 9 rfl) (mmC (mmI il_X11_happens_1 10 rfl) (mmC (mmI il_X11_happens_1 11 rfl) mmN)))) (by decide +kernel)) ggX11_happens_X11_refuse
theorem dX11_happens_0 : decode cX11_happens 0 = .ok (.iload_n 3, 1) := by decide +kernel
theorem dX11_happens_1 : decode cX11_happens 1 = .ok (.iload 6, 2) := by decide +kernel
theorem dX11_happens_3 : decode cX11_happens 3 = .ok (.if_icmp .ge 10, 3) := by decide +kernel
theorem dX11_happens_6 : decode cX11_happens 6 = .ok (.aload_n 0, 1) := by decide +kernel
theorem dX11_happens_7 : decode cX11_happens 7 = .ok (.bipush (-4), 2) := by decide +kernel
theorem dX11_happens_9 : decode cX11_happens 9 = .ok (.invokevirtual 153, 3) := by decide +kernel
theorem dX11_happens_12 : decode cX11_happens 12 = .ok (.ireturn, 1) := by decide +kernel
theorem dX11_happens_13 : decode cX11_happens 13 = .ok (.iload_n 3, 1) := by decide +kernel
theorem dX11_happens_14 : decode cX11_happens 14 = .ok (.aload_n 0, 1) := by decide +kernel
theorem dX11_happens_15 : decode cX11_happens 15 = .ok (.getfield 171, 3) := by decide +kernel
theorem dX11_happens_18 : decode cX11_happens 18 = .ok (.if_icmp .gt 13, 3) := by decide +kernel
theorem dX11_happens_21 : decode cX11_happens 21 = .ok (.aload_n 0, 1) := by decide +kernel
theorem dX11_happens_22 : decode cX11_happens 22 = .ok (.getfield 179, 3) := by decide +kernel
theorem dX11_happens_25 : decode cX11_happens 25 = .ok (.sipush 200, 3) := by decide +kernel
theorem dX11_happens_28 : decode cX11_happens 28 = .ok (.if_icmp .ne 10, 3) := by decide +kernel
theorem dX11_happens_31 : decode cX11_happens 31 = .ok (.aload_n 0, 1) := by decide +kernel
theorem dX11_happens_32 : decode cX11_happens 32 = .ok (.bipush (-6), 2) := by decide +kernel
theorem dX11_happens_34 : decode cX11_happens 34 = .ok (.invokevirtual 153, 3) := by decide +kernel
theorem dX11_happens_37 : decode cX11_happens 37 = .ok (.ireturn, 1) := by decide +kernel
theorem dX11_happens_38 : decode cX11_happens 38 = .ok (.aload_n 0, 1) := by decide +kernel
theorem dX11_happens_39 : decode cX11_happens 39 = .ok (.getfield 40, 3) := by decide +kernel
theorem dX11_happens_42 : decode cX11_happens 42 = .ok (.aload_n 0, 1) := by decide +kernel
theorem dX11_happens_43 : decode cX11_happens 43 = .ok (.getfield 179, 3) := by decide +kernel
theorem dX11_happens_46 : decode cX11_happens 46 = .ok (.iload_n 1, 1) := by decide +kernel
theorem dX11_happens_47 : decode cX11_happens 47 = .ok (.iastore, 1) := by decide +kernel
theorem dX11_happens_48 : decode cX11_happens 48 = .ok (.aload_n 0, 1) := by decide +kernel
theorem dX11_happens_49 : decode cX11_happens 49 = .ok (.getfield 43, 3) := by decide +kernel
theorem dX11_happens_52 : decode cX11_happens 52 = .ok (.aload_n 0, 1) := by decide +kernel
theorem dX11_happens_53 : decode cX11_happens 53 = .ok (.getfield 179, 3) := by decide +kernel
theorem dX11_happens_56 : decode cX11_happens 56 = .ok (.iload_n 2, 1) := by decide +kernel
theorem dX11_happens_57 : decode cX11_happens 57 = .ok (.iastore, 1) := by decide +kernel
theorem dX11_happens_58 : decode cX11_happens 58 = .ok (.aload_n 0, 1) := by decide +kernel
theorem dX11_happens_59 : decode cX11_happens 59 = .ok (.getfield 46, 3) := by decide +kernel
theorem dX11_happens_62 : decode cX11_happens 62 = .ok (.aload_n 0, 1) := by decide +kernel
theorem dX11_happens_63 : decode cX11_happens 63 = .ok (.getfield 179, 3) := by decide +kernel
theorem dX11_happens_66 : decode cX11_happens 66 = .ok (.iload_n 3, 1) := by decide +kernel
theorem dX11_happens_67 : decode cX11_happens 67 = .ok (.iastore, 1) := by decide +kernel
theorem dX11_happens_68 : decode cX11_happens 68 = .ok (.aload_n 0, 1) := by decide +kernel
theorem dX11_happens_69 : decode cX11_happens 69 = .ok (.getfield 49, 3) := by decide +kernel
theorem dX11_happens_72 : decode cX11_happens 72 = .ok (.aload_n 0, 1) := by decide +kernel
theorem dX11_happens_73 : decode cX11_happens 73 = .ok (.getfield 179, 3) := by decide +kernel
theorem dX11_happens_76 : decode cX11_happens 76 = .ok (.aload_n 0, 1) := by decide +kernel
theorem dX11_happens_77 : decode cX11_happens 77 = .ok (.getfield 171, 3) := by decide +kernel
theorem dX11_happens_80 : decode cX11_happens 80 = .ok (.iastore, 1) := by decide +kernel
theorem dX11_happens_81 : decode cX11_happens 81 = .ok (.aload_n 0, 1) := by decide +kernel
theorem dX11_happens_82 : decode cX11_happens 82 = .ok (.getfield 52, 3) := by decide +kernel
theorem dX11_happens_85 : decode cX11_happens 85 = .ok (.aload_n 0, 1) := by decide +kernel
theorem dX11_happens_86 : decode cX11_happens 86 = .ok (.getfield 179, 3) := by decide +kernel
theorem dX11_happens_89 : decode cX11_happens 89 = .ok (.iload 4, 2) := by decide +kernel
theorem dX11_happens_91 : decode cX11_happens 91 = .ok (.iastore, 1) := by decide +kernel
theorem dX11_happens_92 : decode cX11_happens 92 = .ok (.aload_n 0, 1) := by decide +kernel
theorem dX11_happens_93 : decode cX11_happens 93 = .ok (.getfield 55, 3) := by decide +kernel
theorem dX11_happens_96 : decode cX11_happens 96 = .ok (.aload_n 0, 1) := by decide +kernel
theorem dX11_happens_97 : decode cX11_happens 97 = .ok (.getfield 179, 3) := by decide +kernel
theorem dX11_happens_100 : decode cX11_happens 100 = .ok (.iload 5, 2) := by decide +kernel
theorem dX11_happens_102 : decode cX11_happens 102 = .ok (.iastore, 1) := by decide +kernel
theorem dX11_happens_103 : decode cX11_happens 103 = .ok (.aload_n 0, 1) := by decide +kernel
theorem dX11_happens_104 : decode cX11_happens 104 = .ok (.dup, 1) := by decide +kernel
theorem dX11_happens_105 : decode cX11_happens 105 = .ok (.getfield 179, 3) := by decide +kernel
theorem dX11_happens_108 : decode cX11_happens 108 = .ok (.iconst 1, 1) := by decide +kernel
theorem dX11_happens_109 : decode cX11_happens 109 = .ok (.iadd, 1) := by decide +kernel
theorem dX11_happens_110 : decode cX11_happens 110 = .ok (.putfield 179, 3) := by decide +kernel
theorem dX11_happens_113 : decode cX11_happens 113 = .ok (.aload_n 0, 1) := by decide +kernel
theorem dX11_happens_114 : decode cX11_happens 114 = .ok (.getfield 179, 3) := by decide +kernel
theorem dX11_happens_117 : decode cX11_happens 117 = .ok (.ireturn, 1) := by decide +kernel
set_option maxRecDepth 100000 in
theorem ggX11_happensTo_X11_isVoyage : GoodIn wsX11_happensTo wsX11_isVoyage := goodIn_sub (mmC (mmI il_X11_happensTo_1 6 rfl) (mmA (mmC (mmI il_X11_happensTo_1 7 rfl) (mmC (mmI il_X11_happensTo_1 8 rfl) (mmC (mmI il_X11_happensTo_1 9 rfl) (mmC (mmI il_X11_happensTo_1 5 rfl) (mmC (mmI il_X11_happensTo_1 10 rfl) mmN))))) il_X11_happensTo_3)) gw_X11_isVoyage
theorem gX11_happensTo_X11_isVoyage : GoodIn wsX11_happensTo (wsV RX11 185 RX11 yX11_isVoyage wsX11_isVoyage) := goodIn_app (goodIn_sub (mmC (mmI il_X11_happensTo_1 2 rfl) (mmC (mmI il_X11_happensTo_1 3 rfl) (mmC (mmI il_X11_happensTo_1 4 rfl) (mmC (mmI il_X11_happensTo_1 5 rfl) mmN)))) (by decide +kernel)) ggX11_happensTo_X11_isVoyage
set_option maxRecDepth 100000 in
theorem ggX11_happensTo_X11_refuse : GoodIn wsX11_happensTo wsX11_refuse := goodIn_sub (mmC (mmI il_X11_happensTo_1 14 rfl) (mmA (mmC (mmI il_X11_happensTo_1 15 rfl) mmN) il_X11_happensTo_3)) gw_X11_refuse
theorem gX11_happensTo_X11_refuse : GoodIn wsX11_happensTo (wsV RX11 153 RX11 yX11_refuse wsX11_refuse) := goodIn_app (goodIn_sub (mmC (mmI il_X11_happensTo_1 11 rfl) (mmC (mmI il_X11_happensTo_1 12 rfl) (mmC (mmI il_X11_happensTo_1 13 rfl) (mmC (mmI il_X11_happensTo_1 5 rfl) mmN)))) (by decide +kernel)) ggX11_happensTo_X11_refuse
set_option maxRecDepth 100000 in
theorem ggX11_happensTo_X11_wasTold : GoodIn wsX11_happensTo wsX11_wasTold := goodIn_sub (mmC (mmI il_X11_happensTo_1 19 rfl) (mmA (mmC (mmI il_X11_happensTo_1 20 rfl) (mmC (mmI il_X11_happensTo_1 21 rfl) (mmC (mmI il_X11_happensTo_1 22 rfl) mmN))) il_X11_happensTo_3)) gw_X11_wasTold
theorem gX11_happensTo_X11_wasTold : GoodIn wsX11_happensTo (wsV RX11 182 RX11 yX11_wasTold wsX11_wasTold) := goodIn_app (goodIn_sub (mmC (mmI il_X11_happensTo_1 16 rfl) (mmC (mmI il_X11_happensTo_1 17 rfl) (mmC (mmI il_X11_happensTo_1 18 rfl) (mmC (mmI il_X11_happensTo_1 5 rfl) mmN)))) (by decide +kernel)) ggX11_happensTo_X11_wasTold
set_option maxRecDepth 100000 in
theorem ggX11_happensTo_X11_happens : GoodIn wsX11_happensTo wsX11_happens := goodIn_sub (mmC (mmI il_X11_happensTo_2 2 rfl) (mmA (mmC (mmI il_X11_happensTo_2 3 rfl) (mmC (mmI il_X11_happensTo_1 20 rfl) (mmC (mmI il_X11_happensTo_1 21 rfl) (mmC (mmI il_X11_happensTo_1 22 rfl) (mmC (mmI il_X11_happensTo_2 4 rfl) (mmC (mmI il_X11_happensTo_2 5 rfl) (mmC (mmI il_X11_happensTo_2 6 rfl) (mmC (mmI il_X11_happensTo_2 7 rfl) (mmC (mmI il_X11_happensTo_1 11 rfl) (mmC (mmI il_X11_happensTo_1 12 rfl) (mmC (mmI il_X11_happensTo_1 13 rfl) (mmC (mmI il_X11_happensTo_1 5 rfl) (mmC (mmI il_X11_happensTo_1 14 rfl) (mmC (mmI il_X11_happensTo_1 15 rfl) mmN)))))))))))))) il_X11_happensTo_3)) gw_X11_happens
theorem gX11_happensTo_X11_happens : GoodIn wsX11_happensTo (wsV RX11 191 RX11 yX11_happens wsX11_happens) := goodIn_app (goodIn_sub (mmC (mmI il_X11_happensTo_1 23 rfl) (mmC (mmI il_X11_happensTo_2 0 rfl) (mmC (mmI il_X11_happensTo_2 1 rfl) (mmC (mmI il_X11_happensTo_1 5 rfl) mmN)))) (by decide +kernel)) ggX11_happensTo_X11_happens
theorem dX11_happensTo_0 : decode cX11_happensTo 0 = .ok (.aload_n 0, 1) := by decide +kernel
theorem dX11_happensTo_1 : decode cX11_happensTo 1 = .ok (.iload_n 2, 1) := by decide +kernel
theorem dX11_happensTo_2 : decode cX11_happensTo 2 = .ok (.invokevirtual 185, 3) := by decide +kernel
theorem dX11_happensTo_5 : decode cX11_happensTo 5 = .ok (.ifCond .ne 9, 3) := by decide +kernel
theorem dX11_happensTo_8 : decode cX11_happensTo 8 = .ok (.aload_n 0, 1) := by decide +kernel
theorem dX11_happensTo_9 : decode cX11_happensTo 9 = .ok (.iconst (-1), 1) := by decide +kernel
theorem dX11_happensTo_10 : decode cX11_happensTo 10 = .ok (.invokevirtual 153, 3) := by decide +kernel
theorem dX11_happensTo_13 : decode cX11_happensTo 13 = .ok (.ireturn, 1) := by decide +kernel
theorem dX11_happensTo_14 : decode cX11_happensTo 14 = .ok (.aload_n 0, 1) := by decide +kernel
theorem dX11_happensTo_15 : decode cX11_happensTo 15 = .ok (.getfield 37, 3) := by decide +kernel
theorem dX11_happensTo_18 : decode cX11_happensTo 18 = .ok (.iload_n 2, 1) := by decide +kernel
theorem dX11_happensTo_19 : decode cX11_happensTo 19 = .ok (.iaload, 1) := by decide +kernel
theorem dX11_happensTo_20 : decode cX11_happensTo 20 = .ok (.ifCond .ge 17, 3) := by decide +kernel
theorem dX11_happensTo_23 : decode cX11_happensTo 23 = .ok (.iload_n 1, 1) := by decide +kernel
theorem dX11_happensTo_24 : decode cX11_happensTo 24 = .ok (.iconst 1, 1) := by decide +kernel
theorem dX11_happensTo_25 : decode cX11_happensTo 25 = .ok (.if_icmp .eq 19, 3) := by decide +kernel
theorem dX11_happensTo_28 : decode cX11_happensTo 28 = .ok (.aload_n 0, 1) := by decide +kernel
theorem dX11_happensTo_29 : decode cX11_happensTo 29 = .ok (.iload_n 1, 1) := by decide +kernel
theorem dX11_happensTo_30 : decode cX11_happensTo 30 = .ok (.iload_n 2, 1) := by decide +kernel
theorem dX11_happensTo_31 : decode cX11_happensTo 31 = .ok (.invokevirtual 182, 3) := by decide +kernel
theorem dX11_happensTo_34 : decode cX11_happensTo 34 = .ok (.ifCond .eq 10, 3) := by decide +kernel
theorem dX11_happensTo_37 : decode cX11_happensTo 37 = .ok (.aload_n 0, 1) := by decide +kernel
theorem dX11_happensTo_38 : decode cX11_happensTo 38 = .ok (.bipush (-3), 2) := by decide +kernel
theorem dX11_happensTo_40 : decode cX11_happensTo 40 = .ok (.invokevirtual 153, 3) := by decide +kernel
theorem dX11_happensTo_43 : decode cX11_happensTo 43 = .ok (.ireturn, 1) := by decide +kernel
theorem dX11_happensTo_44 : decode cX11_happensTo 44 = .ok (.aload_n 0, 1) := by decide +kernel
theorem dX11_happensTo_45 : decode cX11_happensTo 45 = .ok (.iload_n 1, 1) := by decide +kernel
theorem dX11_happensTo_46 : decode cX11_happensTo 46 = .ok (.iload_n 2, 1) := by decide +kernel
theorem dX11_happensTo_47 : decode cX11_happensTo 47 = .ok (.iload_n 3, 1) := by decide +kernel
theorem dX11_happensTo_48 : decode cX11_happensTo 48 = .ok (.iconst 0, 1) := by decide +kernel
theorem dX11_happensTo_49 : decode cX11_happensTo 49 = .ok (.iconst 0, 1) := by decide +kernel
theorem dX11_happensTo_50 : decode cX11_happensTo 50 = .ok (.aload_n 0, 1) := by decide +kernel
theorem dX11_happensTo_51 : decode cX11_happensTo 51 = .ok (.getfield 31, 3) := by decide +kernel
theorem dX11_happensTo_54 : decode cX11_happensTo 54 = .ok (.iload_n 2, 1) := by decide +kernel
theorem dX11_happensTo_55 : decode cX11_happensTo 55 = .ok (.iaload, 1) := by decide +kernel
theorem dX11_happensTo_56 : decode cX11_happensTo 56 = .ok (.invokevirtual 191, 3) := by decide +kernel
theorem dX11_happensTo_59 : decode cX11_happensTo 59 = .ok (.ireturn, 1) := by decide +kernel
set_option maxRecDepth 100000 in
theorem ggX11_sailed_X11_happensTo : GoodIn wsX11_sailed wsX11_happensTo := goodIn_sub (mmC (mmI il_X11_sailed_1 4 rfl) (mmA (mmA (mmC (mmI il_X11_sailed_1 5 rfl) (mmC (mmI il_X11_sailed_1 6 rfl) (mmC (mmI il_X11_sailed_1 7 rfl) (mmC (mmI il_X11_sailed_1 8 rfl) (mmC (mmI il_X11_sailed_1 9 rfl) (mmC (mmI il_X11_sailed_1 3 rfl) (mmC (mmI il_X11_sailed_1 10 rfl) (mmC (mmI il_X11_sailed_1 11 rfl) (mmC (mmI il_X11_sailed_1 12 rfl) (mmC (mmI il_X11_sailed_1 13 rfl) (mmC (mmI il_X11_sailed_1 14 rfl) (mmC (mmI il_X11_sailed_1 15 rfl) (mmC (mmI il_X11_sailed_1 16 rfl) (mmC (mmI il_X11_sailed_1 17 rfl) (mmC (mmI il_X11_sailed_1 18 rfl) (mmC (mmI il_X11_sailed_1 19 rfl) (mmC (mmI il_X11_sailed_1 20 rfl) (mmC (mmI il_X11_sailed_1 21 rfl) (mmC (mmI il_X11_sailed_1 22 rfl) (mmC (mmI il_X11_sailed_1 23 rfl) (mmC (mmI il_X11_sailed_2 0 rfl) (mmC (mmI il_X11_sailed_2 1 rfl) (mmC (mmI il_X11_sailed_2 2 rfl) (mmC (mmI il_X11_sailed_2 3 rfl) mmN)))))))))))))))))))))))) (mmC (mmI il_X11_sailed_2 4 rfl) (mmC (mmI il_X11_sailed_2 5 rfl) (mmC (mmI il_X11_sailed_2 6 rfl) (mmC (mmI il_X11_sailed_2 7 rfl) (mmC (mmI il_X11_sailed_2 8 rfl) (mmC (mmI il_X11_sailed_2 9 rfl) (mmC (mmI il_X11_sailed_2 10 rfl) (mmC (mmI il_X11_sailed_2 11 rfl) mmN))))))))) il_X11_sailed_3)) gw_X11_happensTo
theorem gX11_sailed_X11_happensTo : GoodIn wsX11_sailed (wsV RX11 195 RX11 yX11_happensTo wsX11_happensTo) := goodIn_app (goodIn_sub (mmC (mmI il_X11_sailed_1 0 rfl) (mmC (mmI il_X11_sailed_1 1 rfl) (mmC (mmI il_X11_sailed_1 2 rfl) (mmC (mmI il_X11_sailed_1 3 rfl) mmN)))) (by decide +kernel)) ggX11_sailed_X11_happensTo
theorem dX11_sailed_0 : decode cX11_sailed 0 = .ok (.aload_n 0, 1) := by decide +kernel
theorem dX11_sailed_1 : decode cX11_sailed 1 = .ok (.iconst 0, 1) := by decide +kernel
theorem dX11_sailed_2 : decode cX11_sailed 2 = .ok (.iload_n 1, 1) := by decide +kernel
theorem dX11_sailed_3 : decode cX11_sailed 3 = .ok (.iload_n 2, 1) := by decide +kernel
theorem dX11_sailed_4 : decode cX11_sailed 4 = .ok (.invokevirtual 195, 3) := by decide +kernel
theorem dX11_sailed_7 : decode cX11_sailed 7 = .ok (.ireturn, 1) := by decide +kernel
set_option maxRecDepth 100000 in
theorem ggX11_heard_X11_happensTo : GoodIn wsX11_heard wsX11_happensTo := goodIn_sub (mmC (mmI il_X11_heard_1 4 rfl) (mmA (mmA (mmC (mmI il_X11_heard_1 5 rfl) (mmC (mmI il_X11_heard_1 6 rfl) (mmC (mmI il_X11_heard_1 7 rfl) (mmC (mmI il_X11_heard_1 8 rfl) (mmC (mmI il_X11_heard_1 9 rfl) (mmC (mmI il_X11_heard_1 3 rfl) (mmC (mmI il_X11_heard_1 10 rfl) (mmC (mmI il_X11_heard_1 11 rfl) (mmC (mmI il_X11_heard_1 12 rfl) (mmC (mmI il_X11_heard_1 13 rfl) (mmC (mmI il_X11_heard_1 14 rfl) (mmC (mmI il_X11_heard_1 15 rfl) (mmC (mmI il_X11_heard_1 16 rfl) (mmC (mmI il_X11_heard_1 17 rfl) (mmC (mmI il_X11_heard_1 18 rfl) (mmC (mmI il_X11_heard_1 19 rfl) (mmC (mmI il_X11_heard_1 20 rfl) (mmC (mmI il_X11_heard_1 21 rfl) (mmC (mmI il_X11_heard_1 22 rfl) (mmC (mmI il_X11_heard_1 23 rfl) (mmC (mmI il_X11_heard_2 0 rfl) (mmC (mmI il_X11_heard_2 1 rfl) (mmC (mmI il_X11_heard_2 2 rfl) (mmC (mmI il_X11_heard_2 3 rfl) mmN)))))))))))))))))))))))) (mmC (mmI il_X11_heard_2 4 rfl) (mmC (mmI il_X11_heard_2 5 rfl) (mmC (mmI il_X11_heard_2 6 rfl) (mmC (mmI il_X11_heard_2 7 rfl) (mmC (mmI il_X11_heard_2 8 rfl) (mmC (mmI il_X11_heard_2 9 rfl) (mmC (mmI il_X11_heard_2 10 rfl) (mmC (mmI il_X11_heard_2 11 rfl) mmN))))))))) il_X11_heard_3)) gw_X11_happensTo
theorem gX11_heard_X11_happensTo : GoodIn wsX11_heard (wsV RX11 195 RX11 yX11_happensTo wsX11_happensTo) := goodIn_app (goodIn_sub (mmC (mmI il_X11_heard_1 0 rfl) (mmC (mmI il_X11_heard_1 1 rfl) (mmC (mmI il_X11_heard_1 2 rfl) (mmC (mmI il_X11_heard_1 3 rfl) mmN)))) (by decide +kernel)) ggX11_heard_X11_happensTo
theorem dX11_heard_0 : decode cX11_heard 0 = .ok (.aload_n 0, 1) := by decide +kernel
theorem dX11_heard_1 : decode cX11_heard 1 = .ok (.iconst 1, 1) := by decide +kernel
theorem dX11_heard_2 : decode cX11_heard 2 = .ok (.iload_n 1, 1) := by decide +kernel
theorem dX11_heard_3 : decode cX11_heard 3 = .ok (.iload_n 2, 1) := by decide +kernel
theorem dX11_heard_4 : decode cX11_heard 4 = .ok (.invokevirtual 195, 3) := by decide +kernel
theorem dX11_heard_7 : decode cX11_heard 7 = .ok (.ireturn, 1) := by decide +kernel
set_option maxRecDepth 100000 in
theorem ggX11_lost_X11_happensTo : GoodIn wsX11_lost wsX11_happensTo := goodIn_sub (mmC (mmI il_X11_lost_1 4 rfl) (mmA (mmA (mmC (mmI il_X11_lost_1 5 rfl) (mmC (mmI il_X11_lost_1 6 rfl) (mmC (mmI il_X11_lost_1 7 rfl) (mmC (mmI il_X11_lost_1 8 rfl) (mmC (mmI il_X11_lost_1 9 rfl) (mmC (mmI il_X11_lost_1 3 rfl) (mmC (mmI il_X11_lost_1 10 rfl) (mmC (mmI il_X11_lost_1 11 rfl) (mmC (mmI il_X11_lost_1 12 rfl) (mmC (mmI il_X11_lost_1 13 rfl) (mmC (mmI il_X11_lost_1 14 rfl) (mmC (mmI il_X11_lost_1 15 rfl) (mmC (mmI il_X11_lost_1 16 rfl) (mmC (mmI il_X11_lost_1 17 rfl) (mmC (mmI il_X11_lost_1 18 rfl) (mmC (mmI il_X11_lost_1 19 rfl) (mmC (mmI il_X11_lost_1 20 rfl) (mmC (mmI il_X11_lost_1 21 rfl) (mmC (mmI il_X11_lost_1 22 rfl) (mmC (mmI il_X11_lost_1 23 rfl) (mmC (mmI il_X11_lost_2 0 rfl) (mmC (mmI il_X11_lost_2 1 rfl) (mmC (mmI il_X11_lost_2 2 rfl) (mmC (mmI il_X11_lost_2 3 rfl) mmN)))))))))))))))))))))))) (mmC (mmI il_X11_lost_2 4 rfl) (mmC (mmI il_X11_lost_2 5 rfl) (mmC (mmI il_X11_lost_2 6 rfl) (mmC (mmI il_X11_lost_2 7 rfl) (mmC (mmI il_X11_lost_2 8 rfl) (mmC (mmI il_X11_lost_2 9 rfl) (mmC (mmI il_X11_lost_2 10 rfl) (mmC (mmI il_X11_lost_2 11 rfl) mmN))))))))) il_X11_lost_3)) gw_X11_happensTo
theorem gX11_lost_X11_happensTo : GoodIn wsX11_lost (wsV RX11 195 RX11 yX11_happensTo wsX11_happensTo) := goodIn_app (goodIn_sub (mmC (mmI il_X11_lost_1 0 rfl) (mmC (mmI il_X11_lost_1 1 rfl) (mmC (mmI il_X11_lost_1 2 rfl) (mmC (mmI il_X11_lost_1 3 rfl) mmN)))) (by decide +kernel)) ggX11_lost_X11_happensTo
theorem dX11_lost_0 : decode cX11_lost 0 = .ok (.aload_n 0, 1) := by decide +kernel
theorem dX11_lost_1 : decode cX11_lost 1 = .ok (.iconst 2, 1) := by decide +kernel
theorem dX11_lost_2 : decode cX11_lost 2 = .ok (.iload_n 1, 1) := by decide +kernel
theorem dX11_lost_3 : decode cX11_lost 3 = .ok (.iload_n 2, 1) := by decide +kernel
theorem dX11_lost_4 : decode cX11_lost 4 = .ok (.invokevirtual 195, 3) := by decide +kernel
theorem dX11_lost_7 : decode cX11_lost 7 = .ok (.ireturn, 1) := by decide +kernel
set_option maxRecDepth 100000 in
theorem ggX11_left_X11_isAgreement : GoodIn wsX11_left wsX11_isAgreement := goodIn_sub (mmC (mmI il_X11_left_1 6 rfl) (mmA (mmC (mmI il_X11_left_1 7 rfl) (mmC (mmI il_X11_left_1 8 rfl) (mmC (mmI il_X11_left_1 9 rfl) (mmC (mmI il_X11_left_1 5 rfl) (mmC (mmI il_X11_left_1 10 rfl) mmN))))) il_X11_left_3)) gw_X11_isAgreement
theorem gX11_left_X11_isAgreement : GoodIn wsX11_left (wsV RX11 199 RX11 yX11_isAgreement wsX11_isAgreement) := goodIn_app (goodIn_sub (mmC (mmI il_X11_left_1 2 rfl) (mmC (mmI il_X11_left_1 3 rfl) (mmC (mmI il_X11_left_1 4 rfl) (mmC (mmI il_X11_left_1 5 rfl) mmN)))) (by decide +kernel)) ggX11_left_X11_isAgreement
set_option maxRecDepth 100000 in
theorem ggX11_left_X11_isPort : GoodIn wsX11_left wsX11_isPort := goodIn_sub (mmC (mmI il_X11_left_1 13 rfl) (mmC (mmI il_X11_left_1 8 rfl) (mmC (mmI il_X11_left_1 9 rfl) (mmC (mmI il_X11_left_1 5 rfl) (mmC (mmI il_X11_left_1 10 rfl) mmN))))) gw_X11_isPort
set_option maxRecDepth 20000 in
theorem gX11_left_X11_isPort : GoodIn wsX11_left (va_wsS RX11 174 yX11_isPort wsX11_isPort) := goodIn_app (goodIn_of _ (by decide +kernel)) ggX11_left_X11_isPort
set_option maxRecDepth 100000 in
theorem ggX11_left_X11_refuse : GoodIn wsX11_left wsX11_refuse := goodIn_sub (mmC (mmI il_X11_left_1 17 rfl) (mmA (mmC (mmI il_X11_left_1 18 rfl) mmN) il_X11_left_3)) gw_X11_refuse
theorem gX11_left_X11_refuse : GoodIn wsX11_left (wsV RX11 153 RX11 yX11_refuse wsX11_refuse) := goodIn_app (goodIn_sub (mmC (mmI il_X11_left_1 14 rfl) (mmC (mmI il_X11_left_1 15 rfl) (mmC (mmI il_X11_left_1 16 rfl) (mmC (mmI il_X11_left_1 5 rfl) mmN)))) (by decide +kernel)) ggX11_left_X11_refuse
set_option maxRecDepth 100000 in
theorem ggX11_left_X11_isIn : GoodIn wsX11_left wsX11_isIn := goodIn_sub (mmC (mmI il_X11_left_1 10 rfl) mmN) gw_X11_isIn
set_option maxRecDepth 20000 in
theorem gX11_left_X11_isIn : GoodIn wsX11_left (va_wsS RX11 161 yX11_isIn wsX11_isIn) := goodIn_app (goodIn_of _ (by decide +kernel)) ggX11_left_X11_isIn
set_option maxRecDepth 100000 in
theorem ggX11_left_X11_happens : GoodIn wsX11_left wsX11_happens := goodIn_sub (mmC (mmI il_X11_left_1 22 rfl) (mmA (mmC (mmI il_X11_left_1 23 rfl) (mmC (mmI il_X11_left_2 0 rfl) (mmC (mmI il_X11_left_2 1 rfl) (mmC (mmI il_X11_left_2 2 rfl) (mmC (mmI il_X11_left_2 3 rfl) (mmC (mmI il_X11_left_2 4 rfl) (mmC (mmI il_X11_left_2 5 rfl) (mmC (mmI il_X11_left_2 6 rfl) (mmC (mmI il_X11_left_1 14 rfl) (mmC (mmI il_X11_left_1 15 rfl) (mmC (mmI il_X11_left_1 16 rfl) (mmC (mmI il_X11_left_1 5 rfl) (mmC (mmI il_X11_left_1 17 rfl) (mmC (mmI il_X11_left_1 18 rfl) mmN)))))))))))))) il_X11_left_3)) gw_X11_happens
theorem gX11_left_X11_happens : GoodIn wsX11_left (wsV RX11 191 RX11 yX11_happens wsX11_happens) := goodIn_app (goodIn_sub (mmC (mmI il_X11_left_1 19 rfl) (mmC (mmI il_X11_left_1 20 rfl) (mmC (mmI il_X11_left_1 21 rfl) (mmC (mmI il_X11_left_1 5 rfl) mmN)))) (by decide +kernel)) ggX11_left_X11_happens
theorem dX11_left_0 : decode cX11_left 0 = .ok (.aload_n 0, 1) := by decide +kernel
theorem dX11_left_1 : decode cX11_left 1 = .ok (.iload_n 1, 1) := by decide +kernel
theorem dX11_left_2 : decode cX11_left 2 = .ok (.invokevirtual 199, 3) := by decide +kernel
theorem dX11_left_5 : decode cX11_left 5 = .ok (.ifCond .eq 11, 3) := by decide +kernel
theorem dX11_left_8 : decode cX11_left 8 = .ok (.iload 4, 2) := by decide +kernel
theorem dX11_left_10 : decode cX11_left 10 = .ok (.invokestatic 174, 3) := by decide +kernel
theorem dX11_left_13 : decode cX11_left 13 = .ok (.ifCond .ne 9, 3) := by decide +kernel
theorem dX11_left_16 : decode cX11_left 16 = .ok (.aload_n 0, 1) := by decide +kernel
theorem dX11_left_17 : decode cX11_left 17 = .ok (.iconst (-1), 1) := by decide +kernel
theorem dX11_left_18 : decode cX11_left 18 = .ok (.invokevirtual 153, 3) := by decide +kernel
theorem dX11_left_21 : decode cX11_left 21 = .ok (.ireturn, 1) := by decide +kernel
theorem dX11_left_22 : decode cX11_left 22 = .ok (.iload_n 3, 1) := by decide +kernel
theorem dX11_left_23 : decode cX11_left 23 = .ok (.iconst 3, 1) := by decide +kernel
theorem dX11_left_24 : decode cX11_left 24 = .ok (.invokestatic 161, 3) := by decide +kernel
theorem dX11_left_27 : decode cX11_left 27 = .ok (.ifCond .ne 10, 3) := by decide +kernel
theorem dX11_left_30 : decode cX11_left 30 = .ok (.aload_n 0, 1) := by decide +kernel
theorem dX11_left_31 : decode cX11_left 31 = .ok (.bipush (-2), 2) := by decide +kernel
theorem dX11_left_33 : decode cX11_left 33 = .ok (.invokevirtual 153, 3) := by decide +kernel
theorem dX11_left_36 : decode cX11_left 36 = .ok (.ireturn, 1) := by decide +kernel
theorem dX11_left_37 : decode cX11_left 37 = .ok (.aload_n 0, 1) := by decide +kernel
theorem dX11_left_38 : decode cX11_left 38 = .ok (.getfield 88, 3) := by decide +kernel
theorem dX11_left_41 : decode cX11_left 41 = .ok (.iload_n 1, 1) := by decide +kernel
theorem dX11_left_42 : decode cX11_left 42 = .ok (.iaload, 1) := by decide +kernel
theorem dX11_left_43 : decode cX11_left 43 = .ok (.ifCond .lt 12, 3) := by decide +kernel
theorem dX11_left_46 : decode cX11_left 46 = .ok (.aload_n 0, 1) := by decide +kernel
theorem dX11_left_47 : decode cX11_left 47 = .ok (.bipush (-3), 2) := by decide +kernel
theorem dX11_left_49 : decode cX11_left 49 = .ok (.invokevirtual 153, 3) := by decide +kernel
theorem dX11_left_52 : decode cX11_left 52 = .ok (.goto 19, 3) := by decide +kernel
theorem dX11_left_55 : decode cX11_left 55 = .ok (.aload_n 0, 1) := by decide +kernel
theorem dX11_left_56 : decode cX11_left 56 = .ok (.iconst 3, 1) := by decide +kernel
theorem dX11_left_57 : decode cX11_left 57 = .ok (.iload_n 1, 1) := by decide +kernel
theorem dX11_left_58 : decode cX11_left 58 = .ok (.iload_n 2, 1) := by decide +kernel
theorem dX11_left_59 : decode cX11_left 59 = .ok (.iload_n 3, 1) := by decide +kernel
theorem dX11_left_60 : decode cX11_left 60 = .ok (.iload 4, 2) := by decide +kernel
theorem dX11_left_62 : decode cX11_left 62 = .ok (.aload_n 0, 1) := by decide +kernel
theorem dX11_left_63 : decode cX11_left 63 = .ok (.getfield 85, 3) := by decide +kernel
theorem dX11_left_66 : decode cX11_left 66 = .ok (.iload_n 1, 1) := by decide +kernel
theorem dX11_left_67 : decode cX11_left 67 = .ok (.iaload, 1) := by decide +kernel
theorem dX11_left_68 : decode cX11_left 68 = .ok (.invokevirtual 191, 3) := by decide +kernel
theorem dX11_left_71 : decode cX11_left 71 = .ok (.ireturn, 1) := by decide +kernel
set_option maxRecDepth 100000 in
theorem ggX11_happensOf_X11_isAgreement : GoodIn wsX11_happensOf wsX11_isAgreement := goodIn_sub (mmC (mmI il_X11_happensOf_1 6 rfl) (mmA (mmC (mmI il_X11_happensOf_1 7 rfl) (mmC (mmI il_X11_happensOf_1 8 rfl) (mmC (mmI il_X11_happensOf_1 9 rfl) (mmC (mmI il_X11_happensOf_1 5 rfl) (mmC (mmI il_X11_happensOf_1 10 rfl) mmN))))) il_X11_happensOf_3)) gw_X11_isAgreement
theorem gX11_happensOf_X11_isAgreement : GoodIn wsX11_happensOf (wsV RX11 199 RX11 yX11_isAgreement wsX11_isAgreement) := goodIn_app (goodIn_sub (mmC (mmI il_X11_happensOf_1 2 rfl) (mmC (mmI il_X11_happensOf_1 3 rfl) (mmC (mmI il_X11_happensOf_1 4 rfl) (mmC (mmI il_X11_happensOf_1 5 rfl) mmN)))) (by decide +kernel)) ggX11_happensOf_X11_isAgreement
set_option maxRecDepth 100000 in
theorem ggX11_happensOf_X11_refuse : GoodIn wsX11_happensOf wsX11_refuse := goodIn_sub (mmC (mmI il_X11_happensOf_1 14 rfl) (mmA (mmC (mmI il_X11_happensOf_1 15 rfl) mmN) il_X11_happensOf_3)) gw_X11_refuse
theorem gX11_happensOf_X11_refuse : GoodIn wsX11_happensOf (wsV RX11 153 RX11 yX11_refuse wsX11_refuse) := goodIn_app (goodIn_sub (mmC (mmI il_X11_happensOf_1 11 rfl) (mmC (mmI il_X11_happensOf_1 12 rfl) (mmC (mmI il_X11_happensOf_1 13 rfl) (mmC (mmI il_X11_happensOf_1 5 rfl) mmN)))) (by decide +kernel)) ggX11_happensOf_X11_refuse
set_option maxRecDepth 100000 in
theorem ggX11_happensOf_X11_happens : GoodIn wsX11_happensOf wsX11_happens := goodIn_sub (mmC (mmI il_X11_happensOf_1 19 rfl) (mmA (mmC (mmI il_X11_happensOf_1 20 rfl) (mmC (mmI il_X11_happensOf_1 21 rfl) (mmC (mmI il_X11_happensOf_1 22 rfl) (mmC (mmI il_X11_happensOf_1 23 rfl) (mmC (mmI il_X11_happensOf_2 0 rfl) (mmC (mmI il_X11_happensOf_2 1 rfl) (mmC (mmI il_X11_happensOf_2 2 rfl) (mmC (mmI il_X11_happensOf_2 3 rfl) (mmC (mmI il_X11_happensOf_1 11 rfl) (mmC (mmI il_X11_happensOf_1 12 rfl) (mmC (mmI il_X11_happensOf_1 13 rfl) (mmC (mmI il_X11_happensOf_1 5 rfl) (mmC (mmI il_X11_happensOf_1 14 rfl) (mmC (mmI il_X11_happensOf_1 15 rfl) mmN)))))))))))))) il_X11_happensOf_3)) gw_X11_happens
theorem gX11_happensOf_X11_happens : GoodIn wsX11_happensOf (wsV RX11 191 RX11 yX11_happens wsX11_happens) := goodIn_app (goodIn_sub (mmC (mmI il_X11_happensOf_1 16 rfl) (mmC (mmI il_X11_happensOf_1 17 rfl) (mmC (mmI il_X11_happensOf_1 18 rfl) (mmC (mmI il_X11_happensOf_1 5 rfl) mmN)))) (by decide +kernel)) ggX11_happensOf_X11_happens
theorem dX11_happensOf_0 : decode cX11_happensOf 0 = .ok (.aload_n 0, 1) := by decide +kernel
theorem dX11_happensOf_1 : decode cX11_happensOf 1 = .ok (.iload_n 2, 1) := by decide +kernel
theorem dX11_happensOf_2 : decode cX11_happensOf 2 = .ok (.invokevirtual 199, 3) := by decide +kernel
theorem dX11_happensOf_5 : decode cX11_happensOf 5 = .ok (.ifCond .ne 9, 3) := by decide +kernel
theorem dX11_happensOf_8 : decode cX11_happensOf 8 = .ok (.aload_n 0, 1) := by decide +kernel
theorem dX11_happensOf_9 : decode cX11_happensOf 9 = .ok (.iconst (-1), 1) := by decide +kernel
theorem dX11_happensOf_10 : decode cX11_happensOf 10 = .ok (.invokevirtual 153, 3) := by decide +kernel
theorem dX11_happensOf_13 : decode cX11_happensOf 13 = .ok (.ireturn, 1) := by decide +kernel
theorem dX11_happensOf_14 : decode cX11_happensOf 14 = .ok (.aload_n 0, 1) := by decide +kernel
theorem dX11_happensOf_15 : decode cX11_happensOf 15 = .ok (.getfield 88, 3) := by decide +kernel
theorem dX11_happensOf_18 : decode cX11_happensOf 18 = .ok (.iload_n 2, 1) := by decide +kernel
theorem dX11_happensOf_19 : decode cX11_happensOf 19 = .ok (.iaload, 1) := by decide +kernel
theorem dX11_happensOf_20 : decode cX11_happensOf 20 = .ok (.ifCond .lt 12, 3) := by decide +kernel
theorem dX11_happensOf_23 : decode cX11_happensOf 23 = .ok (.aload_n 0, 1) := by decide +kernel
theorem dX11_happensOf_24 : decode cX11_happensOf 24 = .ok (.bipush (-3), 2) := by decide +kernel
theorem dX11_happensOf_26 : decode cX11_happensOf 26 = .ok (.invokevirtual 153, 3) := by decide +kernel
theorem dX11_happensOf_29 : decode cX11_happensOf 29 = .ok (.goto 18, 3) := by decide +kernel
theorem dX11_happensOf_32 : decode cX11_happensOf 32 = .ok (.aload_n 0, 1) := by decide +kernel
theorem dX11_happensOf_33 : decode cX11_happensOf 33 = .ok (.iload_n 1, 1) := by decide +kernel
theorem dX11_happensOf_34 : decode cX11_happensOf 34 = .ok (.iload_n 2, 1) := by decide +kernel
theorem dX11_happensOf_35 : decode cX11_happensOf 35 = .ok (.iload_n 3, 1) := by decide +kernel
theorem dX11_happensOf_36 : decode cX11_happensOf 36 = .ok (.iconst 0, 1) := by decide +kernel
theorem dX11_happensOf_37 : decode cX11_happensOf 37 = .ok (.iconst 0, 1) := by decide +kernel
theorem dX11_happensOf_38 : decode cX11_happensOf 38 = .ok (.aload_n 0, 1) := by decide +kernel
theorem dX11_happensOf_39 : decode cX11_happensOf 39 = .ok (.getfield 85, 3) := by decide +kernel
theorem dX11_happensOf_42 : decode cX11_happensOf 42 = .ok (.iload_n 2, 1) := by decide +kernel
theorem dX11_happensOf_43 : decode cX11_happensOf 43 = .ok (.iaload, 1) := by decide +kernel
theorem dX11_happensOf_44 : decode cX11_happensOf 44 = .ok (.invokevirtual 191, 3) := by decide +kernel
theorem dX11_happensOf_47 : decode cX11_happensOf 47 = .ok (.ireturn, 1) := by decide +kernel
set_option maxRecDepth 100000 in
theorem ggX11_died_X11_happensOf : GoodIn wsX11_died wsX11_happensOf := goodIn_sub (mmC (mmI il_X11_died_1 4 rfl) (mmA (mmA (mmC (mmI il_X11_died_1 5 rfl) (mmC (mmI il_X11_died_1 6 rfl) (mmC (mmI il_X11_died_1 7 rfl) (mmC (mmI il_X11_died_1 8 rfl) (mmC (mmI il_X11_died_1 9 rfl) (mmC (mmI il_X11_died_1 3 rfl) (mmC (mmI il_X11_died_1 10 rfl) (mmC (mmI il_X11_died_1 11 rfl) (mmC (mmI il_X11_died_1 12 rfl) (mmC (mmI il_X11_died_1 13 rfl) (mmC (mmI il_X11_died_1 14 rfl) (mmC (mmI il_X11_died_1 15 rfl) (mmC (mmI il_X11_died_1 16 rfl) (mmC (mmI il_X11_died_1 17 rfl) (mmC (mmI il_X11_died_1 18 rfl) (mmC (mmI il_X11_died_1 19 rfl) (mmC (mmI il_X11_died_1 20 rfl) (mmC (mmI il_X11_died_1 21 rfl) (mmC (mmI il_X11_died_1 22 rfl) (mmC (mmI il_X11_died_1 23 rfl) (mmC (mmI il_X11_died_2 0 rfl) (mmC (mmI il_X11_died_2 1 rfl) (mmC (mmI il_X11_died_2 2 rfl) (mmC (mmI il_X11_died_2 3 rfl) mmN)))))))))))))))))))))))) (mmC (mmI il_X11_died_2 4 rfl) (mmC (mmI il_X11_died_2 5 rfl) (mmC (mmI il_X11_died_2 6 rfl) (mmC (mmI il_X11_died_2 7 rfl) mmN))))) il_X11_died_3)) gw_X11_happensOf
theorem gX11_died_X11_happensOf : GoodIn wsX11_died (wsV RX11 202 RX11 yX11_happensOf wsX11_happensOf) := goodIn_app (goodIn_sub (mmC (mmI il_X11_died_1 0 rfl) (mmC (mmI il_X11_died_1 1 rfl) (mmC (mmI il_X11_died_1 2 rfl) (mmC (mmI il_X11_died_1 3 rfl) mmN)))) (by decide +kernel)) ggX11_died_X11_happensOf
theorem dX11_died_0 : decode cX11_died 0 = .ok (.aload_n 0, 1) := by decide +kernel
theorem dX11_died_1 : decode cX11_died 1 = .ok (.iconst 4, 1) := by decide +kernel
theorem dX11_died_2 : decode cX11_died 2 = .ok (.iload_n 1, 1) := by decide +kernel
theorem dX11_died_3 : decode cX11_died 3 = .ok (.iload_n 2, 1) := by decide +kernel
theorem dX11_died_4 : decode cX11_died 4 = .ok (.invokevirtual 202, 3) := by decide +kernel
theorem dX11_died_7 : decode cX11_died 7 = .ok (.ireturn, 1) := by decide +kernel
set_option maxRecDepth 100000 in
theorem ggX11_back_X11_happensOf : GoodIn wsX11_back wsX11_happensOf := goodIn_sub (mmC (mmI il_X11_back_1 4 rfl) (mmA (mmA (mmC (mmI il_X11_back_1 5 rfl) (mmC (mmI il_X11_back_1 6 rfl) (mmC (mmI il_X11_back_1 7 rfl) (mmC (mmI il_X11_back_1 8 rfl) (mmC (mmI il_X11_back_1 9 rfl) (mmC (mmI il_X11_back_1 3 rfl) (mmC (mmI il_X11_back_1 10 rfl) (mmC (mmI il_X11_back_1 11 rfl) (mmC (mmI il_X11_back_1 12 rfl) (mmC (mmI il_X11_back_1 13 rfl) (mmC (mmI il_X11_back_1 14 rfl) (mmC (mmI il_X11_back_1 15 rfl) (mmC (mmI il_X11_back_1 16 rfl) (mmC (mmI il_X11_back_1 17 rfl) (mmC (mmI il_X11_back_1 18 rfl) (mmC (mmI il_X11_back_1 19 rfl) (mmC (mmI il_X11_back_1 20 rfl) (mmC (mmI il_X11_back_1 21 rfl) (mmC (mmI il_X11_back_1 22 rfl) (mmC (mmI il_X11_back_1 23 rfl) (mmC (mmI il_X11_back_2 0 rfl) (mmC (mmI il_X11_back_2 1 rfl) (mmC (mmI il_X11_back_2 2 rfl) (mmC (mmI il_X11_back_2 3 rfl) mmN)))))))))))))))))))))))) (mmC (mmI il_X11_back_2 4 rfl) (mmC (mmI il_X11_back_2 5 rfl) (mmC (mmI il_X11_back_2 6 rfl) (mmC (mmI il_X11_back_2 7 rfl) mmN))))) il_X11_back_3)) gw_X11_happensOf
theorem gX11_back_X11_happensOf : GoodIn wsX11_back (wsV RX11 202 RX11 yX11_happensOf wsX11_happensOf) := goodIn_app (goodIn_sub (mmC (mmI il_X11_back_1 0 rfl) (mmC (mmI il_X11_back_1 1 rfl) (mmC (mmI il_X11_back_1 2 rfl) (mmC (mmI il_X11_back_1 3 rfl) mmN)))) (by decide +kernel)) ggX11_back_X11_happensOf
theorem dX11_back_0 : decode cX11_back 0 = .ok (.aload_n 0, 1) := by decide +kernel
theorem dX11_back_1 : decode cX11_back 1 = .ok (.iconst 5, 1) := by decide +kernel
theorem dX11_back_2 : decode cX11_back 2 = .ok (.iload_n 1, 1) := by decide +kernel
theorem dX11_back_3 : decode cX11_back 3 = .ok (.iload_n 2, 1) := by decide +kernel
theorem dX11_back_4 : decode cX11_back 4 = .ok (.invokevirtual 202, 3) := by decide +kernel
theorem dX11_back_7 : decode cX11_back 7 = .ok (.ireturn, 1) := by decide +kernel
theorem in_wsX11_happens_X11 : ∀ w ∈ wsX110, w ∈ wsX11_happens := fun w h => List.mem_cons_of_mem _ (List.mem_append_right _ h)
theorem in_wsX11_happensTo_X11 : ∀ w ∈ wsX110, w ∈ wsX11_happensTo := fun w h => List.mem_cons_of_mem _ (List.mem_append_right _ h)
theorem in_wsX11_happensOf_X11 : ∀ w ∈ wsX110, w ∈ wsX11_happensOf := fun w h => List.mem_cons_of_mem _ (List.mem_append_right _ h)
theorem in_wsX11_left_X11 : ∀ w ∈ wsX110, w ∈ wsX11_left := fun w h => List.mem_cons_of_mem _ (List.mem_append_right _ h)
