abbrev wsX00 : List Cond := u_ws RX0 TX0 5
abbrev cX1_stateOn : ByteArray := prog_3_method_3_code
def yX1_stateOn : MethodName := ⟨RX1, "stateOn", "(IILShipOffice$Law;)I"⟩
abbrev cX1_diedBy : ByteArray := prog_3_method_4_code
def yX1_diedBy : MethodName := ⟨RX1, "diedBy", "(II)Z"⟩
abbrev cX1_lastMove : ByteArray := prog_3_method_5_code
def yX1_lastMove : MethodName := ⟨RX1, "lastMove", "(II)LShipOffice$Happening;"⟩
abbrev cX1_nearer : ByteArray := prog_3_method_10_code
def yX1_nearer : MethodName := ⟨RX1, "nearer", "(III)I"⟩
abbrev wsX30 : List Cond := u_ws RX3 TX3 6
abbrev wsX50 : List Cond := u_ws RX5 TX5 3
abbrev cX5_inForce : ByteArray := prog_7_method_3_code
def yX5_inForce : MethodName := ⟨RX5, "inForce", "(II)LShipOffice$Act;"⟩
abbrev cX5_nextPresume : ByteArray := prog_7_method_4_code
def yX5_nextPresume : MethodName := ⟨RX5, "nextPresume", "(I)I"⟩
abbrev cX9_lastHeard : ByteArray := prog_11_method_5_code
def yX9_lastHeard : MethodName := ⟨RX9, "lastHeard", "(II)I"⟩
abbrev cX9_daysUnheard : ByteArray := prog_11_method_6_code
def yX9_daysUnheard : MethodName := ⟨RX9, "daysUnheard", "(II)I"⟩
abbrev cX9_nextTold : ByteArray := prog_11_method_7_code
def yX9_nextTold : MethodName := ⟨RX9, "nextTold", "(II)I"⟩
theorem gw_X9_lostBy : wsX9_lostBy.all goodWord = true := by decide +kernel
def wsX1_diedBy : List Cond := .code yX1_diedBy cX1_diedBy 4 (some .boolean) :: ([.fieldLink RX1 87 "ShipOffice$Agreement" "tidings" "LShipOffice$Happening;", .fieldLink RX1 64 "ShipOffice$Happening" "kind" "I", .fieldLink RX1 91 "ShipOffice$Happening" "told" "I", .fieldLink RX1 94 "ShipOffice$Happening" "day" "I", .fieldLink RX1 97 "ShipOffice$Happening" "before" "LShipOffice$Happening;"] ++ wsX10 ++ wsX30)
theorem gw_X1_diedBy : wsX1_diedBy.all goodWord = true := by decide +kernel
theorem il_X1_diedBy_1 : ∀ w ∈ ([.fieldLink RX1 87 "ShipOffice$Agreement" "tidings" "LShipOffice$Happening;", .fieldLink RX1 64 "ShipOffice$Happening" "kind" "I", .fieldLink RX1 91 "ShipOffice$Happening" "told" "I", .fieldLink RX1 94 "ShipOffice$Happening" "day" "I", .fieldLink RX1 97 "ShipOffice$Happening" "before" "LShipOffice$Happening;"] : List Cond), w ∈ wsX1_diedBy := fun w h => (List.mem_cons_of_mem _ (List.mem_append_left _ (List.mem_append_left _ h)))
theorem iw_X1_diedBy_1 : Cond.fieldLink RX1 87 "ShipOffice$Agreement" "tidings" "LShipOffice$Happening;" ∈ wsX1_diedBy := (mmI il_X1_diedBy_1 0 rfl)
theorem iw_X1_diedBy_2 : Cond.fieldLink RX1 64 "ShipOffice$Happening" "kind" "I" ∈ wsX1_diedBy := (mmI il_X1_diedBy_1 1 rfl)
theorem iw_X1_diedBy_3 : Cond.fieldLink RX1 97 "ShipOffice$Happening" "before" "LShipOffice$Happening;" ∈ wsX1_diedBy := (mmI il_X1_diedBy_1 4 rfl)
theorem iw_X1_diedBy_4 : Cond.fieldLink RX1 91 "ShipOffice$Happening" "told" "I" ∈ wsX1_diedBy := (mmI il_X1_diedBy_1 2 rfl)
theorem iw_X1_diedBy_5 : Cond.fieldLink RX1 94 "ShipOffice$Happening" "day" "I" ∈ wsX1_diedBy := (mmI il_X1_diedBy_1 3 rfl)
def wsX1_lastMove : List Cond := .code yX1_lastMove cX1_lastMove 6 (some (.object "ShipOffice$Happening")) :: ([.fieldLink RX1 87 "ShipOffice$Agreement" "tidings" "LShipOffice$Happening;", .fieldLink RX1 64 "ShipOffice$Happening" "kind" "I", .fieldLink RX1 91 "ShipOffice$Happening" "told" "I", .fieldLink RX1 94 "ShipOffice$Happening" "day" "I", .fieldLink RX1 97 "ShipOffice$Happening" "before" "LShipOffice$Happening;"] ++ wsX10 ++ wsX30)
theorem gw_X1_lastMove : wsX1_lastMove.all goodWord = true := by decide +kernel
theorem il_X1_lastMove_1 : ∀ w ∈ ([.fieldLink RX1 87 "ShipOffice$Agreement" "tidings" "LShipOffice$Happening;", .fieldLink RX1 64 "ShipOffice$Happening" "kind" "I", .fieldLink RX1 91 "ShipOffice$Happening" "told" "I", .fieldLink RX1 94 "ShipOffice$Happening" "day" "I", .fieldLink RX1 97 "ShipOffice$Happening" "before" "LShipOffice$Happening;"] : List Cond), w ∈ wsX1_lastMove := fun w h => (List.mem_cons_of_mem _ (List.mem_append_left _ (List.mem_append_left _ h)))
theorem iw_X1_lastMove_1 : Cond.fieldLink RX1 87 "ShipOffice$Agreement" "tidings" "LShipOffice$Happening;" ∈ wsX1_lastMove := (mmI il_X1_lastMove_1 0 rfl)
theorem iw_X1_lastMove_2 : Cond.fieldLink RX1 64 "ShipOffice$Happening" "kind" "I" ∈ wsX1_lastMove := (mmI il_X1_lastMove_1 1 rfl)
theorem iw_X1_lastMove_3 : Cond.fieldLink RX1 97 "ShipOffice$Happening" "before" "LShipOffice$Happening;" ∈ wsX1_lastMove := (mmI il_X1_lastMove_1 4 rfl)
theorem iw_X1_lastMove_4 : Cond.fieldLink RX1 91 "ShipOffice$Happening" "told" "I" ∈ wsX1_lastMove := (mmI il_X1_lastMove_1 2 rfl)
theorem iw_X1_lastMove_5 : Cond.fieldLink RX1 94 "ShipOffice$Happening" "day" "I" ∈ wsX1_lastMove := (mmI il_X1_lastMove_1 3 rfl)
theorem gw_X9_sailedBy : wsX9_sailedBy.all goodWord = true := by decide +kernel
def wsX9_lastHeard : List Cond := .code yX9_lastHeard cX9_lastHeard 5 (some .int) :: ([.fieldLink RX9 16 "ShipOffice$Voyage" "sailedTold" "I", .fieldLink RX9 10 "ShipOffice$Voyage" "sailedDay" "I", .fieldLink RX9 41 "ShipOffice$Voyage" "heardOf" "LShipOffice$Happening;", .fieldLink RX9 45 "ShipOffice$Happening" "told" "I", .fieldLink RX9 50 "ShipOffice$Happening" "day" "I", .fieldLink RX9 53 "ShipOffice$Happening" "before" "LShipOffice$Happening;"] ++ wsX90 ++ wsX30)
theorem gw_X9_lastHeard : wsX9_lastHeard.all goodWord = true := by decide +kernel
theorem il_X9_lastHeard_1 : ∀ w ∈ ([.fieldLink RX9 16 "ShipOffice$Voyage" "sailedTold" "I", .fieldLink RX9 10 "ShipOffice$Voyage" "sailedDay" "I", .fieldLink RX9 41 "ShipOffice$Voyage" "heardOf" "LShipOffice$Happening;", .fieldLink RX9 45 "ShipOffice$Happening" "told" "I", .fieldLink RX9 50 "ShipOffice$Happening" "day" "I", .fieldLink RX9 53 "ShipOffice$Happening" "before" "LShipOffice$Happening;"] : List Cond), w ∈ wsX9_lastHeard := fun w h => (List.mem_cons_of_mem _ (List.mem_append_left _ (List.mem_append_left _ h)))
theorem iw_X9_lastHeard_1 : Cond.fieldLink RX9 16 "ShipOffice$Voyage" "sailedTold" "I" ∈ wsX9_lastHeard := (mmI il_X9_lastHeard_1 0 rfl)
theorem iw_X9_lastHeard_2 : Cond.fieldLink RX9 41 "ShipOffice$Voyage" "heardOf" "LShipOffice$Happening;" ∈ wsX9_lastHeard := (mmI il_X9_lastHeard_1 2 rfl)
theorem iw_X9_lastHeard_3 : Cond.fieldLink RX9 45 "ShipOffice$Happening" "told" "I" ∈ wsX9_lastHeard := (mmI il_X9_lastHeard_1 3 rfl)
theorem iw_X9_lastHeard_4 : Cond.fieldLink RX9 53 "ShipOffice$Happening" "before" "LShipOffice$Happening;" ∈ wsX9_lastHeard := (mmI il_X9_lastHeard_1 5 rfl)
theorem iw_X9_lastHeard_5 : Cond.fieldLink RX9 50 "ShipOffice$Happening" "day" "I" ∈ wsX9_lastHeard := (mmI il_X9_lastHeard_1 4 rfl)
theorem iw_X9_lastHeard_6 : Cond.fieldLink RX9 10 "ShipOffice$Voyage" "sailedDay" "I" ∈ wsX9_lastHeard := (mmI il_X9_lastHeard_1 1 rfl)
def wsX5_inForce : List Cond := .code yX5_inForce cX5_inForce 6 (some (.object "ShipOffice$Act")) :: ([.fieldLink RX5 17 "ShipOffice$Law" "customs" "[LShipOffice$Act;", .fieldLink RX5 23 "ShipOffice$Law" "actCount" "I", .fieldLink RX5 11 "ShipOffice$Law" "acts" "[LShipOffice$Act;", .fieldLink RX5 27 "ShipOffice$Act" "purpose" "I", .fieldLink RX5 30 "ShipOffice$Act" "day" "I"] ++ wsX50 ++ wsX00)
theorem gw_X5_inForce : wsX5_inForce.all goodWord = true := by decide +kernel
theorem il_X5_inForce_1 : ∀ w ∈ ([.fieldLink RX5 17 "ShipOffice$Law" "customs" "[LShipOffice$Act;", .fieldLink RX5 23 "ShipOffice$Law" "actCount" "I", .fieldLink RX5 11 "ShipOffice$Law" "acts" "[LShipOffice$Act;", .fieldLink RX5 27 "ShipOffice$Act" "purpose" "I", .fieldLink RX5 30 "ShipOffice$Act" "day" "I"] : List Cond), w ∈ wsX5_inForce := fun w h => (List.mem_cons_of_mem _ (List.mem_append_left _ (List.mem_append_left _ h)))
theorem iw_X5_inForce_1 : Cond.fieldLink RX5 17 "ShipOffice$Law" "customs" "[LShipOffice$Act;" ∈ wsX5_inForce := (mmI il_X5_inForce_1 0 rfl)
theorem iw_X5_inForce_2 : Cond.fieldLink RX5 23 "ShipOffice$Law" "actCount" "I" ∈ wsX5_inForce := (mmI il_X5_inForce_1 1 rfl)
theorem iw_X5_inForce_3 : Cond.fieldLink RX5 11 "ShipOffice$Law" "acts" "[LShipOffice$Act;" ∈ wsX5_inForce := (mmI il_X5_inForce_1 2 rfl)
theorem iw_X5_inForce_4 : Cond.fieldLink RX5 27 "ShipOffice$Act" "purpose" "I" ∈ wsX5_inForce := (mmI il_X5_inForce_1 3 rfl)
theorem iw_X5_inForce_5 : Cond.fieldLink RX5 30 "ShipOffice$Act" "day" "I" ∈ wsX5_inForce := (mmI il_X5_inForce_1 4 rfl)
def wsX1_stateOn_r1 : List Cond := [Cond.fieldLink RX1 37 "ShipOffice$Agreement" "signedOn" "I", Cond.fieldLink RX1 33 "ShipOffice$Agreement" "voyage" "LShipOffice$Voyage;", Cond.fieldLink RX1 44 "ShipOffice$Agreement" "isDead" "Z", Cond.fieldLink RX1 10 "ShipOffice$Agreement" "offDay" "I", Cond.fieldLink RX1 64 "ShipOffice$Happening" "kind" "I", Cond.fieldLink RX1 82 "ShipOffice$Act" "plainWorth" "I", Cond.methodLink RX1 53 yX9_lostBy, Cond.instanceMethod yX9_lostBy, Cond.selects RX9 yX9_lostBy yX9_lostBy, Cond.initialized RX9, Cond.code yX9_lostBy cX9_lostBy 3 (some .boolean), Cond.fieldLink RX9 22 "ShipOffice$Voyage" "lostTold" "I", Cond.fieldLink RX9 19 "ShipOffice$Voyage" "lostDay" "I", Cond.methodLink RX1 57 yX1_diedBy, Cond.instanceMethod yX1_diedBy, Cond.selects RX1 yX1_diedBy yX1_diedBy, Cond.initialized RX1, Cond.code yX1_diedBy cX1_diedBy 4 (some .boolean), Cond.fieldLink RX1 87 "ShipOffice$Agreement" "tidings" "LShipOffice$Happening;", Cond.fieldLink RX1 91 "ShipOffice$Happening" "told" "I", Cond.fieldLink RX1 94 "ShipOffice$Happening" "day" "I", Cond.fieldLink RX1 97 "ShipOffice$Happening" "before" "LShipOffice$Happening;", Cond.methodLink RX1 60 yX1_lastMove, Cond.instanceMethod yX1_lastMove]
def wsX1_stateOn_r2 : List Cond := [Cond.selects RX1 yX1_lastMove yX1_lastMove, Cond.code yX1_lastMove cX1_lastMove 6 (some (.object "ShipOffice$Happening")), Cond.methodLink RX1 69 yX9_sailedBy, Cond.instanceMethod yX9_sailedBy, Cond.selects RX9 yX9_sailedBy yX9_sailedBy, Cond.code yX9_sailedBy cX9_sailedBy 3 (some .boolean), Cond.fieldLink RX9 16 "ShipOffice$Voyage" "sailedTold" "I", Cond.fieldLink RX9 10 "ShipOffice$Voyage" "sailedDay" "I", Cond.methodLink RX1 72 yX9_lastHeard, Cond.instanceMethod yX9_lastHeard, Cond.selects RX9 yX9_lastHeard yX9_lastHeard, Cond.code yX9_lastHeard cX9_lastHeard 5 (some .int), Cond.fieldLink RX9 41 "ShipOffice$Voyage" "heardOf" "LShipOffice$Happening;", Cond.fieldLink RX9 45 "ShipOffice$Happening" "told" "I", Cond.fieldLink RX9 50 "ShipOffice$Happening" "day" "I", Cond.fieldLink RX9 53 "ShipOffice$Happening" "before" "LShipOffice$Happening;", Cond.methodLink RX1 76 yX5_inForce, Cond.instanceMethod yX5_inForce, Cond.selects RX5 yX5_inForce yX5_inForce, Cond.initialized RX5, Cond.code yX5_inForce cX5_inForce 6 (some (.object "ShipOffice$Act")), Cond.fieldLink RX5 17 "ShipOffice$Law" "customs" "[LShipOffice$Act;", Cond.fieldLink RX5 23 "ShipOffice$Law" "actCount" "I", Cond.fieldLink RX5 11 "ShipOffice$Law" "acts" "[LShipOffice$Act;"]
def wsX1_stateOn_r3 : List Cond := [Cond.fieldLink RX5 27 "ShipOffice$Act" "purpose" "I", Cond.fieldLink RX5 30 "ShipOffice$Act" "day" "I"]
def wsX1_stateOn : List Cond := .code yX1_stateOn cX1_stateOn 5 (some .int) :: ((wsX1_stateOn_r1 ++ (wsX1_stateOn_r2 ++ wsX1_stateOn_r3)) ++ wsX10 ++ wsX30 ++ wsX00 ++ wsX90 ++ wsX50)
theorem il_X1_stateOn_1 : ∀ w ∈ wsX1_stateOn_r1, w ∈ wsX1_stateOn := fun w h => (List.mem_cons_of_mem _ (List.mem_append_left _ (List.mem_append_left _ (List.mem_append_left _ (List.mem_append_left _ (List.mem_append_left _ (List.mem_append_left _ h)))))))
theorem il_X1_stateOn_2 : ∀ w ∈ wsX1_stateOn_r2, w ∈ wsX1_stateOn := fun w h => (List.mem_cons_of_mem _ (List.mem_append_left _ (List.mem_append_left _ (List.mem_append_left _ (List.mem_append_left _ (List.mem_append_left _ (List.mem_append_right _ (List.mem_append_left _ h))))))))
theorem il_X1_stateOn_3 : ∀ w ∈ wsX1_stateOn_r3, w ∈ wsX1_stateOn := fun w h => (List.mem_cons_of_mem _ (List.mem_append_left _ (List.mem_append_left _ (List.mem_append_left _ (List.mem_append_left _ (List.mem_append_left _ (List.mem_append_right _ (List.mem_append_right _ h))))))))
theorem il_X1_stateOn_4 : ∀ w ∈ wsX10, w ∈ wsX1_stateOn := fun w h => (List.mem_cons_of_mem _ (List.mem_append_left _ (List.mem_append_left _ (List.mem_append_left _ (List.mem_append_left _ (List.mem_append_right _ h))))))
theorem il_X1_stateOn_5 : ∀ w ∈ wsX30, w ∈ wsX1_stateOn := fun w h => (List.mem_cons_of_mem _ (List.mem_append_left _ (List.mem_append_left _ (List.mem_append_left _ (List.mem_append_right _ h)))))
theorem il_X1_stateOn_6 : ∀ w ∈ wsX00, w ∈ wsX1_stateOn := fun w h => (List.mem_cons_of_mem _ (List.mem_append_left _ (List.mem_append_left _ (List.mem_append_right _ h))))
theorem il_X1_stateOn_7 : ∀ w ∈ wsX90, w ∈ wsX1_stateOn := fun w h => (List.mem_cons_of_mem _ (List.mem_append_left _ (List.mem_append_right _ h)))
theorem il_X1_stateOn_8 : ∀ w ∈ wsX50, w ∈ wsX1_stateOn := fun w h => (List.mem_cons_of_mem _ (List.mem_append_right _ h))
theorem iw_X1_stateOn_1 : Cond.fieldLink RX1 37 "ShipOffice$Agreement" "signedOn" "I" ∈ wsX1_stateOn := (mmI il_X1_stateOn_1 0 rfl)
theorem iw_X1_stateOn_2 : Cond.fieldLink RX1 33 "ShipOffice$Agreement" "voyage" "LShipOffice$Voyage;" ∈ wsX1_stateOn := (mmI il_X1_stateOn_1 1 rfl)
theorem iw_X1_stateOn_3 : Cond.fieldLink RX1 44 "ShipOffice$Agreement" "isDead" "Z" ∈ wsX1_stateOn := (mmI il_X1_stateOn_1 2 rfl)
theorem iw_X1_stateOn_4 : Cond.fieldLink RX1 10 "ShipOffice$Agreement" "offDay" "I" ∈ wsX1_stateOn := (mmI il_X1_stateOn_1 3 rfl)
theorem iw_X1_stateOn_5 : Cond.fieldLink RX1 82 "ShipOffice$Act" "plainWorth" "I" ∈ wsX1_stateOn := (mmI il_X1_stateOn_1 5 rfl)
theorem iw_X1_stateOn_6 : Cond.fieldLink RX1 64 "ShipOffice$Happening" "kind" "I" ∈ wsX1_stateOn := (mmI il_X1_stateOn_1 4 rfl)
def wsX1_nearer : List Cond := .code yX1_nearer cX1_nearer 3 (some .int) :: ([])
def wsX9_nextTold : List Cond := .code yX9_nextTold cX9_nextTold 5 (some .int) :: ([.constant RX9 9 (1000000), .fieldLink RX9 16 "ShipOffice$Voyage" "sailedTold" "I", .fieldLink RX9 10 "ShipOffice$Voyage" "sailedDay" "I", .fieldLink RX9 22 "ShipOffice$Voyage" "lostTold" "I", .fieldLink RX9 19 "ShipOffice$Voyage" "lostDay" "I", .fieldLink RX9 41 "ShipOffice$Voyage" "heardOf" "LShipOffice$Happening;", .fieldLink RX9 45 "ShipOffice$Happening" "told" "I", .fieldLink RX9 50 "ShipOffice$Happening" "day" "I", .fieldLink RX9 53 "ShipOffice$Happening" "before" "LShipOffice$Happening;"] ++ wsX90 ++ wsX30)
theorem il_X9_nextTold_1 : ∀ w ∈ ([.constant RX9 9 (1000000), .fieldLink RX9 16 "ShipOffice$Voyage" "sailedTold" "I", .fieldLink RX9 10 "ShipOffice$Voyage" "sailedDay" "I", .fieldLink RX9 22 "ShipOffice$Voyage" "lostTold" "I", .fieldLink RX9 19 "ShipOffice$Voyage" "lostDay" "I", .fieldLink RX9 41 "ShipOffice$Voyage" "heardOf" "LShipOffice$Happening;", .fieldLink RX9 45 "ShipOffice$Happening" "told" "I", .fieldLink RX9 50 "ShipOffice$Happening" "day" "I", .fieldLink RX9 53 "ShipOffice$Happening" "before" "LShipOffice$Happening;"] : List Cond), w ∈ wsX9_nextTold := fun w h => (List.mem_cons_of_mem _ (List.mem_append_left _ (List.mem_append_left _ h)))
theorem iw_X9_nextTold_1 : Cond.fieldLink RX9 41 "ShipOffice$Voyage" "heardOf" "LShipOffice$Happening;" ∈ wsX9_nextTold := (mmI il_X9_nextTold_1 5 rfl)
theorem iw_X9_nextTold_2 : Cond.fieldLink RX9 45 "ShipOffice$Happening" "told" "I" ∈ wsX9_nextTold := (mmI il_X9_nextTold_1 6 rfl)
theorem iw_X9_nextTold_3 : Cond.fieldLink RX9 53 "ShipOffice$Happening" "before" "LShipOffice$Happening;" ∈ wsX9_nextTold := (mmI il_X9_nextTold_1 8 rfl)
theorem iw_X9_nextTold_4 : Cond.fieldLink RX9 50 "ShipOffice$Happening" "day" "I" ∈ wsX9_nextTold := (mmI il_X9_nextTold_1 7 rfl)
theorem iw_X9_nextTold_5 : Cond.fieldLink RX9 22 "ShipOffice$Voyage" "lostTold" "I" ∈ wsX9_nextTold := (mmI il_X9_nextTold_1 3 rfl)
theorem iw_X9_nextTold_6 : Cond.fieldLink RX9 19 "ShipOffice$Voyage" "lostDay" "I" ∈ wsX9_nextTold := (mmI il_X9_nextTold_1 4 rfl)
theorem iw_X9_nextTold_7 : Cond.fieldLink RX9 16 "ShipOffice$Voyage" "sailedTold" "I" ∈ wsX9_nextTold := (mmI il_X9_nextTold_1 1 rfl)
theorem iw_X9_nextTold_8 : Cond.fieldLink RX9 10 "ShipOffice$Voyage" "sailedDay" "I" ∈ wsX9_nextTold := (mmI il_X9_nextTold_1 2 rfl)
def wsX5_nextPresume : List Cond := .code yX5_nextPresume cX5_nextPresume 4 (some .int) :: ([.constant RX5 33 (1000000), .fieldLink RX5 23 "ShipOffice$Law" "actCount" "I", .fieldLink RX5 11 "ShipOffice$Law" "acts" "[LShipOffice$Act;", .fieldLink RX5 27 "ShipOffice$Act" "purpose" "I", .fieldLink RX5 30 "ShipOffice$Act" "day" "I"] ++ wsX50 ++ wsX00)
theorem il_X5_nextPresume_1 : ∀ w ∈ ([.constant RX5 33 (1000000), .fieldLink RX5 23 "ShipOffice$Law" "actCount" "I", .fieldLink RX5 11 "ShipOffice$Law" "acts" "[LShipOffice$Act;", .fieldLink RX5 27 "ShipOffice$Act" "purpose" "I", .fieldLink RX5 30 "ShipOffice$Act" "day" "I"] : List Cond), w ∈ wsX5_nextPresume := fun w h => (List.mem_cons_of_mem _ (List.mem_append_left _ (List.mem_append_left _ h)))
theorem iw_X5_nextPresume_1 : Cond.fieldLink RX5 23 "ShipOffice$Law" "actCount" "I" ∈ wsX5_nextPresume := (mmI il_X5_nextPresume_1 1 rfl)
theorem iw_X5_nextPresume_2 : Cond.fieldLink RX5 11 "ShipOffice$Law" "acts" "[LShipOffice$Act;" ∈ wsX5_nextPresume := (mmI il_X5_nextPresume_1 2 rfl)
theorem iw_X5_nextPresume_3 : Cond.fieldLink RX5 27 "ShipOffice$Act" "purpose" "I" ∈ wsX5_nextPresume := (mmI il_X5_nextPresume_1 3 rfl)
theorem iw_X5_nextPresume_4 : Cond.fieldLink RX5 30 "ShipOffice$Act" "day" "I" ∈ wsX5_nextPresume := (mmI il_X5_nextPresume_1 4 rfl)
def wsX9_daysUnheard : List Cond := .code yX9_daysUnheard cX9_daysUnheard 4 (some .int) :: ([.methodLink RX9 56 yX9_lastHeard, .instanceMethod yX9_lastHeard, .selects RX9 yX9_lastHeard yX9_lastHeard, .initialized RX9, .code yX9_lastHeard cX9_lastHeard 5 (some .int), .fieldLink RX9 16 "ShipOffice$Voyage" "sailedTold" "I", .fieldLink RX9 10 "ShipOffice$Voyage" "sailedDay" "I", .fieldLink RX9 41 "ShipOffice$Voyage" "heardOf" "LShipOffice$Happening;", .fieldLink RX9 45 "ShipOffice$Happening" "told" "I", .fieldLink RX9 50 "ShipOffice$Happening" "day" "I", .fieldLink RX9 53 "ShipOffice$Happening" "before" "LShipOffice$Happening;"] ++ wsX90 ++ wsX30)
theorem il_X9_daysUnheard_1 : ∀ w ∈ ([.methodLink RX9 56 yX9_lastHeard, .instanceMethod yX9_lastHeard, .selects RX9 yX9_lastHeard yX9_lastHeard, .initialized RX9, .code yX9_lastHeard cX9_lastHeard 5 (some .int), .fieldLink RX9 16 "ShipOffice$Voyage" "sailedTold" "I", .fieldLink RX9 10 "ShipOffice$Voyage" "sailedDay" "I", .fieldLink RX9 41 "ShipOffice$Voyage" "heardOf" "LShipOffice$Happening;", .fieldLink RX9 45 "ShipOffice$Happening" "told" "I", .fieldLink RX9 50 "ShipOffice$Happening" "day" "I", .fieldLink RX9 53 "ShipOffice$Happening" "before" "LShipOffice$Happening;"] : List Cond), w ∈ wsX9_daysUnheard := fun w h => (List.mem_cons_of_mem _ (List.mem_append_left _ (List.mem_append_left _ h)))
theorem il_X9_daysUnheard_2 : ∀ w ∈ wsX90, w ∈ wsX9_daysUnheard := fun w h => (List.mem_cons_of_mem _ (List.mem_append_left _ (List.mem_append_right _ h)))
theorem il_X9_daysUnheard_3 : ∀ w ∈ wsX30, w ∈ wsX9_daysUnheard := fun w h => (List.mem_cons_of_mem _ (List.mem_append_right _ h))
set_option maxRecDepth 100000 in
theorem ggX1_stateOn_X9_lostBy : GoodIn wsX1_stateOn wsX9_lostBy := goodIn_sub (mmC (mmI il_X1_stateOn_1 10 rfl) (mmA (mmC (mmI il_X1_stateOn_1 11 rfl) (mmC (mmI il_X1_stateOn_1 12 rfl) mmN)) il_X1_stateOn_7)) gw_X9_lostBy
theorem gX1_stateOn_X9_lostBy : GoodIn wsX1_stateOn (wsV RX1 53 RX9 yX9_lostBy wsX9_lostBy) := goodIn_app (goodIn_sub (mmC (mmI il_X1_stateOn_1 6 rfl) (mmC (mmI il_X1_stateOn_1 7 rfl) (mmC (mmI il_X1_stateOn_1 8 rfl) (mmC (mmI il_X1_stateOn_1 9 rfl) mmN)))) (by decide +kernel)) ggX1_stateOn_X9_lostBy
set_option maxRecDepth 100000 in
theorem ggX1_stateOn_X1_diedBy : GoodIn wsX1_stateOn wsX1_diedBy := goodIn_sub (mmC (mmI il_X1_stateOn_1 17 rfl) (mmA (mmA (mmC (mmI il_X1_stateOn_1 18 rfl) (mmC (mmI il_X1_stateOn_1 4 rfl) (mmC (mmI il_X1_stateOn_1 19 rfl) (mmC (mmI il_X1_stateOn_1 20 rfl) (mmC (mmI il_X1_stateOn_1 21 rfl) mmN))))) il_X1_stateOn_4) il_X1_stateOn_5)) gw_X1_diedBy
theorem gX1_stateOn_X1_diedBy : GoodIn wsX1_stateOn (wsV RX1 57 RX1 yX1_diedBy wsX1_diedBy) := goodIn_app (goodIn_sub (mmC (mmI il_X1_stateOn_1 13 rfl) (mmC (mmI il_X1_stateOn_1 14 rfl) (mmC (mmI il_X1_stateOn_1 15 rfl) (mmC (mmI il_X1_stateOn_1 16 rfl) mmN)))) (by decide +kernel)) ggX1_stateOn_X1_diedBy
set_option maxRecDepth 100000 in
theorem ggX1_stateOn_X1_lastMove : GoodIn wsX1_stateOn wsX1_lastMove := goodIn_sub (mmC (mmI il_X1_stateOn_2 1 rfl) (mmA (mmA (mmC (mmI il_X1_stateOn_1 18 rfl) (mmC (mmI il_X1_stateOn_1 4 rfl) (mmC (mmI il_X1_stateOn_1 19 rfl) (mmC (mmI il_X1_stateOn_1 20 rfl) (mmC (mmI il_X1_stateOn_1 21 rfl) mmN))))) il_X1_stateOn_4) il_X1_stateOn_5)) gw_X1_lastMove
theorem gX1_stateOn_X1_lastMove : GoodIn wsX1_stateOn (wsV RX1 60 RX1 yX1_lastMove wsX1_lastMove) := goodIn_app (goodIn_sub (mmC (mmI il_X1_stateOn_1 22 rfl) (mmC (mmI il_X1_stateOn_1 23 rfl) (mmC (mmI il_X1_stateOn_2 0 rfl) (mmC (mmI il_X1_stateOn_1 16 rfl) mmN)))) (by decide +kernel)) ggX1_stateOn_X1_lastMove
set_option maxRecDepth 100000 in
theorem ggX1_stateOn_X9_sailedBy : GoodIn wsX1_stateOn wsX9_sailedBy := goodIn_sub (mmC (mmI il_X1_stateOn_2 5 rfl) (mmA (mmC (mmI il_X1_stateOn_2 6 rfl) (mmC (mmI il_X1_stateOn_2 7 rfl) mmN)) il_X1_stateOn_7)) gw_X9_sailedBy
theorem gX1_stateOn_X9_sailedBy : GoodIn wsX1_stateOn (wsV RX1 69 RX9 yX9_sailedBy wsX9_sailedBy) := goodIn_app (goodIn_sub (mmC (mmI il_X1_stateOn_2 2 rfl) (mmC (mmI il_X1_stateOn_2 3 rfl) (mmC (mmI il_X1_stateOn_2 4 rfl) (mmC (mmI il_X1_stateOn_1 9 rfl) mmN)))) (by decide +kernel)) ggX1_stateOn_X9_sailedBy
set_option maxRecDepth 100000 in
theorem ggX1_stateOn_X9_lastHeard : GoodIn wsX1_stateOn wsX9_lastHeard := goodIn_sub (mmC (mmI il_X1_stateOn_2 11 rfl) (mmA (mmA (mmC (mmI il_X1_stateOn_2 6 rfl) (mmC (mmI il_X1_stateOn_2 7 rfl) (mmC (mmI il_X1_stateOn_2 12 rfl) (mmC (mmI il_X1_stateOn_2 13 rfl) (mmC (mmI il_X1_stateOn_2 14 rfl) (mmC (mmI il_X1_stateOn_2 15 rfl) mmN)))))) il_X1_stateOn_7) il_X1_stateOn_5)) gw_X9_lastHeard
theorem gX1_stateOn_X9_lastHeard : GoodIn wsX1_stateOn (wsV RX1 72 RX9 yX9_lastHeard wsX9_lastHeard) := goodIn_app (goodIn_sub (mmC (mmI il_X1_stateOn_2 8 rfl) (mmC (mmI il_X1_stateOn_2 9 rfl) (mmC (mmI il_X1_stateOn_2 10 rfl) (mmC (mmI il_X1_stateOn_1 9 rfl) mmN)))) (by decide +kernel)) ggX1_stateOn_X9_lastHeard
set_option maxRecDepth 100000 in
theorem ggX1_stateOn_X5_inForce : GoodIn wsX1_stateOn wsX5_inForce := goodIn_sub (mmC (mmI il_X1_stateOn_2 20 rfl) (mmA (mmA (mmC (mmI il_X1_stateOn_2 21 rfl) (mmC (mmI il_X1_stateOn_2 22 rfl) (mmC (mmI il_X1_stateOn_2 23 rfl) (mmC (mmI il_X1_stateOn_3 0 rfl) (mmC (mmI il_X1_stateOn_3 1 rfl) mmN))))) il_X1_stateOn_8) il_X1_stateOn_6)) gw_X5_inForce
theorem gX1_stateOn_X5_inForce : GoodIn wsX1_stateOn (wsV RX1 76 RX5 yX5_inForce wsX5_inForce) := goodIn_app (goodIn_sub (mmC (mmI il_X1_stateOn_2 16 rfl) (mmC (mmI il_X1_stateOn_2 17 rfl) (mmC (mmI il_X1_stateOn_2 18 rfl) (mmC (mmI il_X1_stateOn_2 19 rfl) mmN)))) (by decide +kernel)) ggX1_stateOn_X5_inForce
theorem dX1_stateOn_0 : decode cX1_stateOn 0 = .ok (.iload_n 1, 1) := by decide +kernel
theorem dX1_stateOn_1 : decode cX1_stateOn 1 = .ok (.aload_n 0, 1) := by decide +kernel
theorem dX1_stateOn_2 : decode cX1_stateOn 2 = .ok (.getfield 37, 3) := by decide +kernel
theorem dX1_stateOn_5 : decode cX1_stateOn 5 = .ok (.if_icmp .ge 6, 3) := by decide +kernel
theorem dX1_stateOn_8 : decode cX1_stateOn 8 = .ok (.bipush (-9), 2) := by decide +kernel
theorem dX1_stateOn_10 : decode cX1_stateOn 10 = .ok (.ireturn, 1) := by decide +kernel
theorem dX1_stateOn_11 : decode cX1_stateOn 11 = .ok (.aload_n 0, 1) := by decide +kernel
theorem dX1_stateOn_12 : decode cX1_stateOn 12 = .ok (.getfield 33, 3) := by decide +kernel
theorem dX1_stateOn_15 : decode cX1_stateOn 15 = .ok (.iload_n 1, 1) := by decide +kernel
theorem dX1_stateOn_16 : decode cX1_stateOn 16 = .ok (.iload_n 2, 1) := by decide +kernel
theorem dX1_stateOn_17 : decode cX1_stateOn 17 = .ok (.invokevirtual 53, 3) := by decide +kernel
theorem dX1_stateOn_20 : decode cX1_stateOn 20 = .ok (.ifCond .ne 19, 3) := by decide +kernel
theorem dX1_stateOn_23 : decode cX1_stateOn 23 = .ok (.aload_n 0, 1) := by decide +kernel
theorem dX1_stateOn_24 : decode cX1_stateOn 24 = .ok (.getfield 44, 3) := by decide +kernel
theorem dX1_stateOn_27 : decode cX1_stateOn 27 = .ok (.ifCond .eq 14, 3) := by decide +kernel
theorem dX1_stateOn_30 : decode cX1_stateOn 30 = .ok (.aload_n 0, 1) := by decide +kernel
theorem dX1_stateOn_31 : decode cX1_stateOn 31 = .ok (.iload_n 1, 1) := by decide +kernel
theorem dX1_stateOn_32 : decode cX1_stateOn 32 = .ok (.iload_n 2, 1) := by decide +kernel
theorem dX1_stateOn_33 : decode cX1_stateOn 33 = .ok (.invokevirtual 57, 3) := by decide +kernel
theorem dX1_stateOn_36 : decode cX1_stateOn 36 = .ok (.ifCond .eq 5, 3) := by decide +kernel
theorem dX1_stateOn_39 : decode cX1_stateOn 39 = .ok (.iconst 4, 1) := by decide +kernel
theorem dX1_stateOn_40 : decode cX1_stateOn 40 = .ok (.ireturn, 1) := by decide +kernel
theorem dX1_stateOn_41 : decode cX1_stateOn 41 = .ok (.aload_n 0, 1) := by decide +kernel
theorem dX1_stateOn_42 : decode cX1_stateOn 42 = .ok (.getfield 10, 3) := by decide +kernel
theorem dX1_stateOn_45 : decode cX1_stateOn 45 = .ok (.iload_n 1, 1) := by decide +kernel
theorem dX1_stateOn_46 : decode cX1_stateOn 46 = .ok (.if_icmp .gt 13, 3) := by decide +kernel
theorem dX1_stateOn_49 : decode cX1_stateOn 49 = .ok (.aload_n 0, 1) := by decide +kernel
theorem dX1_stateOn_50 : decode cX1_stateOn 50 = .ok (.getfield 10, 3) := by decide +kernel
theorem dX1_stateOn_53 : decode cX1_stateOn 53 = .ok (.iload_n 2, 1) := by decide +kernel
theorem dX1_stateOn_54 : decode cX1_stateOn 54 = .ok (.if_icmp .gt 5, 3) := by decide +kernel
theorem dX1_stateOn_57 : decode cX1_stateOn 57 = .ok (.iconst 5, 1) := by decide +kernel
theorem dX1_stateOn_58 : decode cX1_stateOn 58 = .ok (.ireturn, 1) := by decide +kernel
theorem dX1_stateOn_59 : decode cX1_stateOn 59 = .ok (.aload_n 0, 1) := by decide +kernel
theorem dX1_stateOn_60 : decode cX1_stateOn 60 = .ok (.iload_n 1, 1) := by decide +kernel
theorem dX1_stateOn_61 : decode cX1_stateOn 61 = .ok (.iload_n 2, 1) := by decide +kernel
theorem dX1_stateOn_62 : decode cX1_stateOn 62 = .ok (.invokevirtual 60, 3) := by decide +kernel
theorem dX1_stateOn_65 : decode cX1_stateOn 65 = .ok (.astore 4, 2) := by decide +kernel
theorem dX1_stateOn_67 : decode cX1_stateOn 67 = .ok (.aload 4, 2) := by decide +kernel
theorem dX1_stateOn_69 : decode cX1_stateOn 69 = .ok (.ifnull 13, 3) := by decide +kernel
theorem dX1_stateOn_72 : decode cX1_stateOn 72 = .ok (.aload 4, 2) := by decide +kernel
theorem dX1_stateOn_74 : decode cX1_stateOn 74 = .ok (.getfield 64, 3) := by decide +kernel
theorem dX1_stateOn_77 : decode cX1_stateOn 77 = .ok (.ifCond .ne 5, 3) := by decide +kernel
theorem dX1_stateOn_80 : decode cX1_stateOn 80 = .ok (.iconst 3, 1) := by decide +kernel
theorem dX1_stateOn_81 : decode cX1_stateOn 81 = .ok (.ireturn, 1) := by decide +kernel
theorem dX1_stateOn_82 : decode cX1_stateOn 82 = .ok (.aload_n 0, 1) := by decide +kernel
theorem dX1_stateOn_83 : decode cX1_stateOn 83 = .ok (.getfield 33, 3) := by decide +kernel
theorem dX1_stateOn_86 : decode cX1_stateOn 86 = .ok (.iload_n 1, 1) := by decide +kernel
theorem dX1_stateOn_87 : decode cX1_stateOn 87 = .ok (.iload_n 2, 1) := by decide +kernel
theorem dX1_stateOn_88 : decode cX1_stateOn 88 = .ok (.invokevirtual 69, 3) := by decide +kernel
theorem dX1_stateOn_91 : decode cX1_stateOn 91 = .ok (.ifCond .ne 5, 3) := by decide +kernel
theorem dX1_stateOn_94 : decode cX1_stateOn 94 = .ok (.iconst 0, 1) := by decide +kernel
theorem dX1_stateOn_95 : decode cX1_stateOn 95 = .ok (.ireturn, 1) := by decide +kernel
theorem dX1_stateOn_96 : decode cX1_stateOn 96 = .ok (.aload_n 0, 1) := by decide +kernel
theorem dX1_stateOn_97 : decode cX1_stateOn 97 = .ok (.getfield 33, 3) := by decide +kernel
theorem dX1_stateOn_100 : decode cX1_stateOn 100 = .ok (.iload_n 1, 1) := by decide +kernel
theorem dX1_stateOn_101 : decode cX1_stateOn 101 = .ok (.iload_n 2, 1) := by decide +kernel
theorem dX1_stateOn_102 : decode cX1_stateOn 102 = .ok (.invokevirtual 72, 3) := by decide +kernel
theorem dX1_stateOn_105 : decode cX1_stateOn 105 = .ok (.iload_n 1, 1) := by decide +kernel
theorem dX1_stateOn_106 : decode cX1_stateOn 106 = .ok (.aload_n 3, 1) := by decide +kernel
theorem dX1_stateOn_107 : decode cX1_stateOn 107 = .ok (.iconst 4, 1) := by decide +kernel
theorem dX1_stateOn_108 : decode cX1_stateOn 108 = .ok (.iload_n 1, 1) := by decide +kernel
theorem dX1_stateOn_109 : decode cX1_stateOn 109 = .ok (.invokevirtual 76, 3) := by decide +kernel
theorem dX1_stateOn_112 : decode cX1_stateOn 112 = .ok (.getfield 82, 3) := by decide +kernel
theorem dX1_stateOn_115 : decode cX1_stateOn 115 = .ok (.isub, 1) := by decide +kernel
theorem dX1_stateOn_116 : decode cX1_stateOn 116 = .ok (.if_icmp .ge 7, 3) := by decide +kernel
theorem dX1_stateOn_119 : decode cX1_stateOn 119 = .ok (.iconst 2, 1) := by decide +kernel
theorem dX1_stateOn_120 : decode cX1_stateOn 120 = .ok (.goto 4, 3) := by decide +kernel
theorem dX1_stateOn_123 : decode cX1_stateOn 123 = .ok (.iconst 1, 1) := by decide +kernel
theorem dX1_stateOn_124 : decode cX1_stateOn 124 = .ok (.ireturn, 1) := by decide +kernel
theorem dX1_diedBy_0 : decode cX1_diedBy 0 = .ok (.aload_n 0, 1) := by decide +kernel
theorem dX1_diedBy_1 : decode cX1_diedBy 1 = .ok (.getfield 87, 3) := by decide +kernel
theorem dX1_diedBy_4 : decode cX1_diedBy 4 = .ok (.astore_n 3, 1) := by decide +kernel
theorem dX1_diedBy_5 : decode cX1_diedBy 5 = .ok (.aload_n 3, 1) := by decide +kernel
theorem dX1_diedBy_6 : decode cX1_diedBy 6 = .ok (.ifnull 37, 3) := by decide +kernel
theorem dX1_diedBy_9 : decode cX1_diedBy 9 = .ok (.aload_n 3, 1) := by decide +kernel
theorem dX1_diedBy_10 : decode cX1_diedBy 10 = .ok (.getfield 64, 3) := by decide +kernel
theorem dX1_diedBy_13 : decode cX1_diedBy 13 = .ok (.iconst 2, 1) := by decide +kernel
theorem dX1_diedBy_14 : decode cX1_diedBy 14 = .ok (.if_icmp .ne 21, 3) := by decide +kernel
theorem dX1_diedBy_17 : decode cX1_diedBy 17 = .ok (.aload_n 3, 1) := by decide +kernel
theorem dX1_diedBy_18 : decode cX1_diedBy 18 = .ok (.getfield 91, 3) := by decide +kernel
theorem dX1_diedBy_21 : decode cX1_diedBy 21 = .ok (.iload_n 2, 1) := by decide +kernel
theorem dX1_diedBy_22 : decode cX1_diedBy 22 = .ok (.if_icmp .gt 13, 3) := by decide +kernel
theorem dX1_diedBy_25 : decode cX1_diedBy 25 = .ok (.aload_n 3, 1) := by decide +kernel
theorem dX1_diedBy_26 : decode cX1_diedBy 26 = .ok (.getfield 94, 3) := by decide +kernel
theorem dX1_diedBy_29 : decode cX1_diedBy 29 = .ok (.iload_n 1, 1) := by decide +kernel
theorem dX1_diedBy_30 : decode cX1_diedBy 30 = .ok (.if_icmp .gt 5, 3) := by decide +kernel
theorem dX1_diedBy_33 : decode cX1_diedBy 33 = .ok (.iconst 1, 1) := by decide +kernel
theorem dX1_diedBy_34 : decode cX1_diedBy 34 = .ok (.ireturn, 1) := by decide +kernel
theorem dX1_diedBy_35 : decode cX1_diedBy 35 = .ok (.aload_n 3, 1) := by decide +kernel
theorem dX1_diedBy_36 : decode cX1_diedBy 36 = .ok (.getfield 97, 3) := by decide +kernel
theorem dX1_diedBy_39 : decode cX1_diedBy 39 = .ok (.astore_n 3, 1) := by decide +kernel
theorem dX1_diedBy_40 : decode cX1_diedBy 40 = .ok (.goto (-35), 3) := by decide +kernel
theorem dX1_diedBy_43 : decode cX1_diedBy 43 = .ok (.iconst 0, 1) := by decide +kernel
theorem dX1_diedBy_44 : decode cX1_diedBy 44 = .ok (.ireturn, 1) := by decide +kernel
theorem dX1_lastMove_0 : decode cX1_lastMove 0 = .ok (.aconst_null, 1) := by decide +kernel
theorem dX1_lastMove_1 : decode cX1_lastMove 1 = .ok (.astore_n 3, 1) := by decide +kernel
theorem dX1_lastMove_2 : decode cX1_lastMove 2 = .ok (.aload_n 0, 1) := by decide +kernel
theorem dX1_lastMove_3 : decode cX1_lastMove 3 = .ok (.getfield 87, 3) := by decide +kernel
theorem dX1_lastMove_6 : decode cX1_lastMove 6 = .ok (.astore 4, 2) := by decide +kernel
theorem dX1_lastMove_8 : decode cX1_lastMove 8 = .ok (.aload 4, 2) := by decide +kernel
theorem dX1_lastMove_10 : decode cX1_lastMove 10 = .ok (.ifnull 71, 3) := by decide +kernel
theorem dX1_lastMove_13 : decode cX1_lastMove 13 = .ok (.aload 4, 2) := by decide +kernel
theorem dX1_lastMove_15 : decode cX1_lastMove 15 = .ok (.getfield 64, 3) := by decide +kernel
theorem dX1_lastMove_18 : decode cX1_lastMove 18 = .ok (.iconst 2, 1) := by decide +kernel
theorem dX1_lastMove_19 : decode cX1_lastMove 19 = .ok (.if_icmp .eq 25, 3) := by decide +kernel
theorem dX1_lastMove_22 : decode cX1_lastMove 22 = .ok (.aload 4, 2) := by decide +kernel
theorem dX1_lastMove_24 : decode cX1_lastMove 24 = .ok (.getfield 91, 3) := by decide +kernel
theorem dX1_lastMove_27 : decode cX1_lastMove 27 = .ok (.iload_n 2, 1) := by decide +kernel
theorem dX1_lastMove_28 : decode cX1_lastMove 28 = .ok (.if_icmp .gt 16, 3) := by decide +kernel
theorem dX1_lastMove_31 : decode cX1_lastMove 31 = .ok (.aload 4, 2) := by decide +kernel
theorem dX1_lastMove_33 : decode cX1_lastMove 33 = .ok (.getfield 94, 3) := by decide +kernel
theorem dX1_lastMove_36 : decode cX1_lastMove 36 = .ok (.iload_n 1, 1) := by decide +kernel
theorem dX1_lastMove_37 : decode cX1_lastMove 37 = .ok (.if_icmp .gt 7, 3) := by decide +kernel
theorem dX1_lastMove_40 : decode cX1_lastMove 40 = .ok (.iconst 1, 1) := by decide +kernel
theorem dX1_lastMove_41 : decode cX1_lastMove 41 = .ok (.goto 4, 3) := by decide +kernel
theorem dX1_lastMove_44 : decode cX1_lastMove 44 = .ok (.iconst 0, 1) := by decide +kernel
theorem dX1_lastMove_45 : decode cX1_lastMove 45 = .ok (.istore 5, 2) := by decide +kernel
theorem dX1_lastMove_47 : decode cX1_lastMove 47 = .ok (.iload 5, 2) := by decide +kernel
theorem dX1_lastMove_49 : decode cX1_lastMove 49 = .ok (.ifCond .eq 22, 3) := by decide +kernel
theorem dX1_lastMove_52 : decode cX1_lastMove 52 = .ok (.aload_n 3, 1) := by decide +kernel
theorem dX1_lastMove_53 : decode cX1_lastMove 53 = .ok (.ifnull 15, 3) := by decide +kernel
theorem dX1_lastMove_56 : decode cX1_lastMove 56 = .ok (.aload 4, 2) := by decide +kernel
theorem dX1_lastMove_58 : decode cX1_lastMove 58 = .ok (.getfield 94, 3) := by decide +kernel
theorem dX1_lastMove_61 : decode cX1_lastMove 61 = .ok (.aload_n 3, 1) := by decide +kernel
theorem dX1_lastMove_62 : decode cX1_lastMove 62 = .ok (.getfield 94, 3) := by decide +kernel
theorem dX1_lastMove_65 : decode cX1_lastMove 65 = .ok (.if_icmp .le 6, 3) := by decide +kernel
theorem dX1_lastMove_68 : decode cX1_lastMove 68 = .ok (.aload 4, 2) := by decide +kernel
theorem dX1_lastMove_70 : decode cX1_lastMove 70 = .ok (.astore_n 3, 1) := by decide +kernel
theorem dX1_lastMove_71 : decode cX1_lastMove 71 = .ok (.aload 4, 2) := by decide +kernel
theorem dX1_lastMove_73 : decode cX1_lastMove 73 = .ok (.getfield 97, 3) := by decide +kernel
theorem dX1_lastMove_76 : decode cX1_lastMove 76 = .ok (.astore 4, 2) := by decide +kernel
theorem dX1_lastMove_78 : decode cX1_lastMove 78 = .ok (.goto (-70), 3) := by decide +kernel
theorem dX1_lastMove_81 : decode cX1_lastMove 81 = .ok (.aload_n 3, 1) := by decide +kernel
theorem dX1_lastMove_82 : decode cX1_lastMove 82 = .ok (.areturn, 1) := by decide +kernel
theorem dX1_nearer_0 : decode cX1_nearer 0 = .ok (.iload_n 1, 1) := by decide +kernel
theorem dX1_nearer_1 : decode cX1_nearer 1 = .ok (.iload_n 0, 1) := by decide +kernel
theorem dX1_nearer_2 : decode cX1_nearer 2 = .ok (.if_icmp .le 12, 3) := by decide +kernel
theorem dX1_nearer_5 : decode cX1_nearer 5 = .ok (.iload_n 1, 1) := by decide +kernel
theorem dX1_nearer_6 : decode cX1_nearer 6 = .ok (.iload_n 2, 1) := by decide +kernel
theorem dX1_nearer_7 : decode cX1_nearer 7 = .ok (.if_icmp .ge 7, 3) := by decide +kernel
theorem dX1_nearer_10 : decode cX1_nearer 10 = .ok (.iload_n 1, 1) := by decide +kernel
theorem dX1_nearer_11 : decode cX1_nearer 11 = .ok (.goto 4, 3) := by decide +kernel
theorem dX1_nearer_14 : decode cX1_nearer 14 = .ok (.iload_n 2, 1) := by decide +kernel
theorem dX1_nearer_15 : decode cX1_nearer 15 = .ok (.ireturn, 1) := by decide +kernel
theorem dX5_inForce_0 : decode cX5_inForce 0 = .ok (.aload_n 0, 1) := by decide +kernel
theorem dX5_inForce_1 : decode cX5_inForce 1 = .ok (.getfield 17, 3) := by decide +kernel
theorem dX5_inForce_4 : decode cX5_inForce 4 = .ok (.iload_n 1, 1) := by decide +kernel
theorem dX5_inForce_5 : decode cX5_inForce 5 = .ok (.aaload, 1) := by decide +kernel
theorem dX5_inForce_6 : decode cX5_inForce 6 = .ok (.astore_n 3, 1) := by decide +kernel
theorem dX5_inForce_7 : decode cX5_inForce 7 = .ok (.iconst 0, 1) := by decide +kernel
theorem dX5_inForce_8 : decode cX5_inForce 8 = .ok (.istore 4, 2) := by decide +kernel
theorem dX5_inForce_10 : decode cX5_inForce 10 = .ok (.iload 4, 2) := by decide +kernel
theorem dX5_inForce_12 : decode cX5_inForce 12 = .ok (.aload_n 0, 1) := by decide +kernel
theorem dX5_inForce_13 : decode cX5_inForce 13 = .ok (.getfield 23, 3) := by decide +kernel
theorem dX5_inForce_16 : decode cX5_inForce 16 = .ok (.if_icmp .ge 51, 3) := by decide +kernel
theorem dX5_inForce_19 : decode cX5_inForce 19 = .ok (.aload_n 0, 1) := by decide +kernel
theorem dX5_inForce_20 : decode cX5_inForce 20 = .ok (.getfield 11, 3) := by decide +kernel
theorem dX5_inForce_23 : decode cX5_inForce 23 = .ok (.iload 4, 2) := by decide +kernel
theorem dX5_inForce_25 : decode cX5_inForce 25 = .ok (.aaload, 1) := by decide +kernel
theorem dX5_inForce_26 : decode cX5_inForce 26 = .ok (.astore 5, 2) := by decide +kernel
theorem dX5_inForce_28 : decode cX5_inForce 28 = .ok (.aload 5, 2) := by decide +kernel
theorem dX5_inForce_30 : decode cX5_inForce 30 = .ok (.getfield 27, 3) := by decide +kernel
theorem dX5_inForce_33 : decode cX5_inForce 33 = .ok (.iload_n 1, 1) := by decide +kernel
theorem dX5_inForce_34 : decode cX5_inForce 34 = .ok (.if_icmp .ne 27, 3) := by decide +kernel
theorem dX5_inForce_37 : decode cX5_inForce 37 = .ok (.aload 5, 2) := by decide +kernel
theorem dX5_inForce_39 : decode cX5_inForce 39 = .ok (.getfield 30, 3) := by decide +kernel
theorem dX5_inForce_42 : decode cX5_inForce 42 = .ok (.iload_n 2, 1) := by decide +kernel
theorem dX5_inForce_43 : decode cX5_inForce 43 = .ok (.if_icmp .gt 18, 3) := by decide +kernel
theorem dX5_inForce_46 : decode cX5_inForce 46 = .ok (.aload 5, 2) := by decide +kernel
theorem dX5_inForce_48 : decode cX5_inForce 48 = .ok (.getfield 30, 3) := by decide +kernel
theorem dX5_inForce_51 : decode cX5_inForce 51 = .ok (.aload_n 3, 1) := by decide +kernel
theorem dX5_inForce_52 : decode cX5_inForce 52 = .ok (.getfield 30, 3) := by decide +kernel
theorem dX5_inForce_55 : decode cX5_inForce 55 = .ok (.if_icmp .lt 6, 3) := by decide +kernel
theorem dX5_inForce_58 : decode cX5_inForce 58 = .ok (.aload 5, 2) := by decide +kernel
theorem dX5_inForce_60 : decode cX5_inForce 60 = .ok (.astore_n 3, 1) := by decide +kernel
theorem dX5_inForce_61 : decode cX5_inForce 61 = .ok (.iinc 4 1, 3) := by decide +kernel
theorem dX5_inForce_64 : decode cX5_inForce 64 = .ok (.goto (-54), 3) := by decide +kernel
theorem dX5_inForce_67 : decode cX5_inForce 67 = .ok (.aload_n 3, 1) := by decide +kernel
theorem dX5_inForce_68 : decode cX5_inForce 68 = .ok (.areturn, 1) := by decide +kernel
theorem dX5_nextPresume_0 : decode cX5_nextPresume 0 = .ok (.ldc 33, 2) := by decide +kernel
theorem dX5_nextPresume_2 : decode cX5_nextPresume 2 = .ok (.istore_n 2, 1) := by decide +kernel
theorem dX5_nextPresume_3 : decode cX5_nextPresume 3 = .ok (.iconst 0, 1) := by decide +kernel
theorem dX5_nextPresume_4 : decode cX5_nextPresume 4 = .ok (.istore_n 3, 1) := by decide +kernel
theorem dX5_nextPresume_5 : decode cX5_nextPresume 5 = .ok (.iload_n 3, 1) := by decide +kernel
theorem dX5_nextPresume_6 : decode cX5_nextPresume 6 = .ok (.aload_n 0, 1) := by decide +kernel
theorem dX5_nextPresume_7 : decode cX5_nextPresume 7 = .ok (.getfield 23, 3) := by decide +kernel
theorem dX5_nextPresume_10 : decode cX5_nextPresume 10 = .ok (.if_icmp .ge 58, 3) := by decide +kernel
theorem dX5_nextPresume_13 : decode cX5_nextPresume 13 = .ok (.aload_n 0, 1) := by decide +kernel
theorem dX5_nextPresume_14 : decode cX5_nextPresume 14 = .ok (.getfield 11, 3) := by decide +kernel
theorem dX5_nextPresume_17 : decode cX5_nextPresume 17 = .ok (.iload_n 3, 1) := by decide +kernel
theorem dX5_nextPresume_18 : decode cX5_nextPresume 18 = .ok (.aaload, 1) := by decide +kernel
theorem dX5_nextPresume_19 : decode cX5_nextPresume 19 = .ok (.getfield 27, 3) := by decide +kernel
theorem dX5_nextPresume_22 : decode cX5_nextPresume 22 = .ok (.iconst 4, 1) := by decide +kernel
theorem dX5_nextPresume_23 : decode cX5_nextPresume 23 = .ok (.if_icmp .ne 39, 3) := by decide +kernel
theorem dX5_nextPresume_26 : decode cX5_nextPresume 26 = .ok (.aload_n 0, 1) := by decide +kernel
theorem dX5_nextPresume_27 : decode cX5_nextPresume 27 = .ok (.getfield 11, 3) := by decide +kernel
theorem dX5_nextPresume_30 : decode cX5_nextPresume 30 = .ok (.iload_n 3, 1) := by decide +kernel
theorem dX5_nextPresume_31 : decode cX5_nextPresume 31 = .ok (.aaload, 1) := by decide +kernel
theorem dX5_nextPresume_32 : decode cX5_nextPresume 32 = .ok (.getfield 30, 3) := by decide +kernel
theorem dX5_nextPresume_35 : decode cX5_nextPresume 35 = .ok (.iload_n 1, 1) := by decide +kernel
theorem dX5_nextPresume_36 : decode cX5_nextPresume 36 = .ok (.if_icmp .le 26, 3) := by decide +kernel
theorem dX5_nextPresume_39 : decode cX5_nextPresume 39 = .ok (.aload_n 0, 1) := by decide +kernel
theorem dX5_nextPresume_40 : decode cX5_nextPresume 40 = .ok (.getfield 11, 3) := by decide +kernel
theorem dX5_nextPresume_43 : decode cX5_nextPresume 43 = .ok (.iload_n 3, 1) := by decide +kernel
theorem dX5_nextPresume_44 : decode cX5_nextPresume 44 = .ok (.aaload, 1) := by decide +kernel
theorem dX5_nextPresume_45 : decode cX5_nextPresume 45 = .ok (.getfield 30, 3) := by decide +kernel
theorem dX5_nextPresume_48 : decode cX5_nextPresume 48 = .ok (.iload_n 2, 1) := by decide +kernel
theorem dX5_nextPresume_49 : decode cX5_nextPresume 49 = .ok (.if_icmp .ge 13, 3) := by decide +kernel
theorem dX5_nextPresume_52 : decode cX5_nextPresume 52 = .ok (.aload_n 0, 1) := by decide +kernel
theorem dX5_nextPresume_53 : decode cX5_nextPresume 53 = .ok (.getfield 11, 3) := by decide +kernel
theorem dX5_nextPresume_56 : decode cX5_nextPresume 56 = .ok (.iload_n 3, 1) := by decide +kernel
theorem dX5_nextPresume_57 : decode cX5_nextPresume 57 = .ok (.aaload, 1) := by decide +kernel
theorem dX5_nextPresume_58 : decode cX5_nextPresume 58 = .ok (.getfield 30, 3) := by decide +kernel
theorem dX5_nextPresume_61 : decode cX5_nextPresume 61 = .ok (.istore_n 2, 1) := by decide +kernel
theorem dX5_nextPresume_62 : decode cX5_nextPresume 62 = .ok (.iinc 3 1, 3) := by decide +kernel
theorem dX5_nextPresume_65 : decode cX5_nextPresume 65 = .ok (.goto (-60), 3) := by decide +kernel
theorem dX5_nextPresume_68 : decode cX5_nextPresume 68 = .ok (.iload_n 2, 1) := by decide +kernel
theorem dX5_nextPresume_69 : decode cX5_nextPresume 69 = .ok (.ireturn, 1) := by decide +kernel
theorem dX9_lastHeard_0 : decode cX9_lastHeard 0 = .ok (.aload_n 0, 1) := by decide +kernel
theorem dX9_lastHeard_1 : decode cX9_lastHeard 1 = .ok (.getfield 16, 3) := by decide +kernel
theorem dX9_lastHeard_4 : decode cX9_lastHeard 4 = .ok (.iload_n 2, 1) := by decide +kernel
theorem dX9_lastHeard_5 : decode cX9_lastHeard 5 = .ok (.if_icmp .gt 18, 3) := by decide +kernel
theorem dX9_lastHeard_8 : decode cX9_lastHeard 8 = .ok (.aload_n 0, 1) := by decide +kernel
theorem dX9_lastHeard_9 : decode cX9_lastHeard 9 = .ok (.getfield 10, 3) := by decide +kernel
theorem dX9_lastHeard_12 : decode cX9_lastHeard 12 = .ok (.iload_n 1, 1) := by decide +kernel
theorem dX9_lastHeard_13 : decode cX9_lastHeard 13 = .ok (.if_icmp .gt 10, 3) := by decide +kernel
theorem dX9_lastHeard_16 : decode cX9_lastHeard 16 = .ok (.aload_n 0, 1) := by decide +kernel
theorem dX9_lastHeard_17 : decode cX9_lastHeard 17 = .ok (.getfield 10, 3) := by decide +kernel
theorem dX9_lastHeard_20 : decode cX9_lastHeard 20 = .ok (.goto 4, 3) := by decide +kernel
theorem dX9_lastHeard_23 : decode cX9_lastHeard 23 = .ok (.iconst (-1), 1) := by decide +kernel
theorem dX9_lastHeard_24 : decode cX9_lastHeard 24 = .ok (.istore_n 3, 1) := by decide +kernel
theorem dX9_lastHeard_25 : decode cX9_lastHeard 25 = .ok (.aload_n 0, 1) := by decide +kernel
theorem dX9_lastHeard_26 : decode cX9_lastHeard 26 = .ok (.getfield 41, 3) := by decide +kernel
theorem dX9_lastHeard_29 : decode cX9_lastHeard 29 = .ok (.astore 4, 2) := by decide +kernel
theorem dX9_lastHeard_31 : decode cX9_lastHeard 31 = .ok (.aload 4, 2) := by decide +kernel
theorem dX9_lastHeard_33 : decode cX9_lastHeard 33 = .ok (.ifnull 46, 3) := by decide +kernel
theorem dX9_lastHeard_36 : decode cX9_lastHeard 36 = .ok (.aload 4, 2) := by decide +kernel
theorem dX9_lastHeard_38 : decode cX9_lastHeard 38 = .ok (.getfield 45, 3) := by decide +kernel
theorem dX9_lastHeard_41 : decode cX9_lastHeard 41 = .ok (.iload_n 2, 1) := by decide +kernel
theorem dX9_lastHeard_42 : decode cX9_lastHeard 42 = .ok (.if_icmp .gt 27, 3) := by decide +kernel
theorem dX9_lastHeard_45 : decode cX9_lastHeard 45 = .ok (.aload 4, 2) := by decide +kernel
theorem dX9_lastHeard_47 : decode cX9_lastHeard 47 = .ok (.getfield 50, 3) := by decide +kernel
theorem dX9_lastHeard_50 : decode cX9_lastHeard 50 = .ok (.iload_n 1, 1) := by decide +kernel
theorem dX9_lastHeard_51 : decode cX9_lastHeard 51 = .ok (.if_icmp .gt 18, 3) := by decide +kernel
theorem dX9_lastHeard_54 : decode cX9_lastHeard 54 = .ok (.aload 4, 2) := by decide +kernel
theorem dX9_lastHeard_56 : decode cX9_lastHeard 56 = .ok (.getfield 50, 3) := by decide +kernel
theorem dX9_lastHeard_59 : decode cX9_lastHeard 59 = .ok (.iload_n 3, 1) := by decide +kernel
theorem dX9_lastHeard_60 : decode cX9_lastHeard 60 = .ok (.if_icmp .le 9, 3) := by decide +kernel
theorem dX9_lastHeard_63 : decode cX9_lastHeard 63 = .ok (.aload 4, 2) := by decide +kernel
theorem dX9_lastHeard_65 : decode cX9_lastHeard 65 = .ok (.getfield 50, 3) := by decide +kernel
theorem dX9_lastHeard_68 : decode cX9_lastHeard 68 = .ok (.istore_n 3, 1) := by decide +kernel
theorem dX9_lastHeard_69 : decode cX9_lastHeard 69 = .ok (.aload 4, 2) := by decide +kernel
theorem dX9_lastHeard_71 : decode cX9_lastHeard 71 = .ok (.getfield 53, 3) := by decide +kernel
theorem dX9_lastHeard_74 : decode cX9_lastHeard 74 = .ok (.astore 4, 2) := by decide +kernel
theorem dX9_lastHeard_76 : decode cX9_lastHeard 76 = .ok (.goto (-45), 3) := by decide +kernel
theorem dX9_lastHeard_79 : decode cX9_lastHeard 79 = .ok (.iload_n 3, 1) := by decide +kernel
theorem dX9_lastHeard_80 : decode cX9_lastHeard 80 = .ok (.ireturn, 1) := by decide +kernel
set_option maxRecDepth 100000 in
theorem ggX9_daysUnheard_X9_lastHeard : GoodIn wsX9_daysUnheard wsX9_lastHeard := goodIn_sub (mmC (mmI il_X9_daysUnheard_1 4 rfl) (mmA (mmA (mmC (mmI il_X9_daysUnheard_1 5 rfl) (mmC (mmI il_X9_daysUnheard_1 6 rfl) (mmC (mmI il_X9_daysUnheard_1 7 rfl) (mmC (mmI il_X9_daysUnheard_1 8 rfl) (mmC (mmI il_X9_daysUnheard_1 9 rfl) (mmC (mmI il_X9_daysUnheard_1 10 rfl) mmN)))))) il_X9_daysUnheard_2) il_X9_daysUnheard_3)) gw_X9_lastHeard
theorem gX9_daysUnheard_X9_lastHeard : GoodIn wsX9_daysUnheard (wsV RX9 56 RX9 yX9_lastHeard wsX9_lastHeard) := goodIn_app (goodIn_sub (mmC (mmI il_X9_daysUnheard_1 0 rfl) (mmC (mmI il_X9_daysUnheard_1 1 rfl) (mmC (mmI il_X9_daysUnheard_1 2 rfl) (mmC (mmI il_X9_daysUnheard_1 3 rfl) mmN)))) (by decide +kernel)) ggX9_daysUnheard_X9_lastHeard
theorem dX9_daysUnheard_0 : decode cX9_daysUnheard 0 = .ok (.aload_n 0, 1) := by decide +kernel
theorem dX9_daysUnheard_1 : decode cX9_daysUnheard 1 = .ok (.iload_n 1, 1) := by decide +kernel
theorem dX9_daysUnheard_2 : decode cX9_daysUnheard 2 = .ok (.iload_n 2, 1) := by decide +kernel
theorem dX9_daysUnheard_3 : decode cX9_daysUnheard 3 = .ok (.invokevirtual 56, 3) := by decide +kernel
theorem dX9_daysUnheard_6 : decode cX9_daysUnheard 6 = .ok (.istore_n 3, 1) := by decide +kernel
theorem dX9_daysUnheard_7 : decode cX9_daysUnheard 7 = .ok (.iload_n 3, 1) := by decide +kernel
theorem dX9_daysUnheard_8 : decode cX9_daysUnheard 8 = .ok (.ifCond .ge 7, 3) := by decide +kernel
theorem dX9_daysUnheard_11 : decode cX9_daysUnheard 11 = .ok (.iconst 0, 1) := by decide +kernel
theorem dX9_daysUnheard_12 : decode cX9_daysUnheard 12 = .ok (.goto 6, 3) := by decide +kernel
theorem dX9_daysUnheard_15 : decode cX9_daysUnheard 15 = .ok (.iload_n 1, 1) := by decide +kernel
theorem dX9_daysUnheard_16 : decode cX9_daysUnheard 16 = .ok (.iload_n 3, 1) := by decide +kernel
theorem dX9_daysUnheard_17 : decode cX9_daysUnheard 17 = .ok (.isub, 1) := by decide +kernel
theorem dX9_daysUnheard_18 : decode cX9_daysUnheard 18 = .ok (.ireturn, 1) := by decide +kernel
theorem dX9_nextTold_0 : decode cX9_nextTold 0 = .ok (.ldc 9, 2) := by decide +kernel
theorem dX9_nextTold_2 : decode cX9_nextTold 2 = .ok (.istore_n 3, 1) := by decide +kernel
theorem dX9_nextTold_3 : decode cX9_nextTold 3 = .ok (.aload_n 0, 1) := by decide +kernel
theorem dX9_nextTold_4 : decode cX9_nextTold 4 = .ok (.getfield 16, 3) := by decide +kernel
theorem dX9_nextTold_7 : decode cX9_nextTold 7 = .ok (.iload_n 2, 1) := by decide +kernel
theorem dX9_nextTold_8 : decode cX9_nextTold 8 = .ok (.if_icmp .gt 16, 3) := by decide +kernel
theorem dX9_nextTold_11 : decode cX9_nextTold 11 = .ok (.aload_n 0, 1) := by decide +kernel
theorem dX9_nextTold_12 : decode cX9_nextTold 12 = .ok (.getfield 10, 3) := by decide +kernel
theorem dX9_nextTold_15 : decode cX9_nextTold 15 = .ok (.iload_n 1, 1) := by decide +kernel
theorem dX9_nextTold_16 : decode cX9_nextTold 16 = .ok (.if_icmp .le 8, 3) := by decide +kernel
theorem dX9_nextTold_19 : decode cX9_nextTold 19 = .ok (.aload_n 0, 1) := by decide +kernel
theorem dX9_nextTold_20 : decode cX9_nextTold 20 = .ok (.getfield 10, 3) := by decide +kernel
theorem dX9_nextTold_23 : decode cX9_nextTold 23 = .ok (.istore_n 3, 1) := by decide +kernel
theorem dX9_nextTold_24 : decode cX9_nextTold 24 = .ok (.aload_n 0, 1) := by decide +kernel
theorem dX9_nextTold_25 : decode cX9_nextTold 25 = .ok (.getfield 22, 3) := by decide +kernel
theorem dX9_nextTold_28 : decode cX9_nextTold 28 = .ok (.iload_n 2, 1) := by decide +kernel
theorem dX9_nextTold_29 : decode cX9_nextTold 29 = .ok (.if_icmp .gt 24, 3) := by decide +kernel
theorem dX9_nextTold_32 : decode cX9_nextTold 32 = .ok (.aload_n 0, 1) := by decide +kernel
theorem dX9_nextTold_33 : decode cX9_nextTold 33 = .ok (.getfield 19, 3) := by decide +kernel
theorem dX9_nextTold_36 : decode cX9_nextTold 36 = .ok (.iload_n 1, 1) := by decide +kernel
theorem dX9_nextTold_37 : decode cX9_nextTold 37 = .ok (.if_icmp .le 16, 3) := by decide +kernel
theorem dX9_nextTold_40 : decode cX9_nextTold 40 = .ok (.aload_n 0, 1) := by decide +kernel
theorem dX9_nextTold_41 : decode cX9_nextTold 41 = .ok (.getfield 19, 3) := by decide +kernel
theorem dX9_nextTold_44 : decode cX9_nextTold 44 = .ok (.iload_n 3, 1) := by decide +kernel
theorem dX9_nextTold_45 : decode cX9_nextTold 45 = .ok (.if_icmp .ge 8, 3) := by decide +kernel
theorem dX9_nextTold_48 : decode cX9_nextTold 48 = .ok (.aload_n 0, 1) := by decide +kernel
theorem dX9_nextTold_49 : decode cX9_nextTold 49 = .ok (.getfield 19, 3) := by decide +kernel
theorem dX9_nextTold_52 : decode cX9_nextTold 52 = .ok (.istore_n 3, 1) := by decide +kernel
theorem dX9_nextTold_53 : decode cX9_nextTold 53 = .ok (.aload_n 0, 1) := by decide +kernel
theorem dX9_nextTold_54 : decode cX9_nextTold 54 = .ok (.getfield 41, 3) := by decide +kernel
theorem dX9_nextTold_57 : decode cX9_nextTold 57 = .ok (.astore 4, 2) := by decide +kernel
theorem dX9_nextTold_59 : decode cX9_nextTold 59 = .ok (.aload 4, 2) := by decide +kernel
theorem dX9_nextTold_61 : decode cX9_nextTold 61 = .ok (.ifnull 46, 3) := by decide +kernel
theorem dX9_nextTold_64 : decode cX9_nextTold 64 = .ok (.aload 4, 2) := by decide +kernel
theorem dX9_nextTold_66 : decode cX9_nextTold 66 = .ok (.getfield 45, 3) := by decide +kernel
theorem dX9_nextTold_69 : decode cX9_nextTold 69 = .ok (.iload_n 2, 1) := by decide +kernel
theorem dX9_nextTold_70 : decode cX9_nextTold 70 = .ok (.if_icmp .gt 27, 3) := by decide +kernel
theorem dX9_nextTold_73 : decode cX9_nextTold 73 = .ok (.aload 4, 2) := by decide +kernel
theorem dX9_nextTold_75 : decode cX9_nextTold 75 = .ok (.getfield 50, 3) := by decide +kernel
theorem dX9_nextTold_78 : decode cX9_nextTold 78 = .ok (.iload_n 1, 1) := by decide +kernel
theorem dX9_nextTold_79 : decode cX9_nextTold 79 = .ok (.if_icmp .le 18, 3) := by decide +kernel
theorem dX9_nextTold_82 : decode cX9_nextTold 82 = .ok (.aload 4, 2) := by decide +kernel
theorem dX9_nextTold_84 : decode cX9_nextTold 84 = .ok (.getfield 50, 3) := by decide +kernel
theorem dX9_nextTold_87 : decode cX9_nextTold 87 = .ok (.iload_n 3, 1) := by decide +kernel
theorem dX9_nextTold_88 : decode cX9_nextTold 88 = .ok (.if_icmp .ge 9, 3) := by decide +kernel
theorem dX9_nextTold_91 : decode cX9_nextTold 91 = .ok (.aload 4, 2) := by decide +kernel
theorem dX9_nextTold_93 : decode cX9_nextTold 93 = .ok (.getfield 50, 3) := by decide +kernel
theorem dX9_nextTold_96 : decode cX9_nextTold 96 = .ok (.istore_n 3, 1) := by decide +kernel
theorem dX9_nextTold_97 : decode cX9_nextTold 97 = .ok (.aload 4, 2) := by decide +kernel
theorem dX9_nextTold_99 : decode cX9_nextTold 99 = .ok (.getfield 53, 3) := by decide +kernel
theorem dX9_nextTold_102 : decode cX9_nextTold 102 = .ok (.astore 4, 2) := by decide +kernel
theorem dX9_nextTold_104 : decode cX9_nextTold 104 = .ok (.goto (-45), 3) := by decide +kernel
theorem dX9_nextTold_107 : decode cX9_nextTold 107 = .ok (.iload_n 3, 1) := by decide +kernel
theorem dX9_nextTold_108 : decode cX9_nextTold 108 = .ok (.ireturn, 1) := by decide +kernel
theorem in_wsX9_lastHeard_X9 : ∀ w ∈ wsX90, w ∈ wsX9_lastHeard := fun w h => List.mem_cons_of_mem _ (List.mem_append_left _ (List.mem_append_right _ h))
theorem in_wsX9_lastHeard_X3 : ∀ w ∈ wsX30, w ∈ wsX9_lastHeard := fun w h => List.mem_cons_of_mem _ (List.mem_append_right _ h)
theorem in_wsX9_nextTold_X9 : ∀ w ∈ wsX90, w ∈ wsX9_nextTold := fun w h => List.mem_cons_of_mem _ (List.mem_append_left _ (List.mem_append_right _ h))
theorem in_wsX9_nextTold_X3 : ∀ w ∈ wsX30, w ∈ wsX9_nextTold := fun w h => List.mem_cons_of_mem _ (List.mem_append_right _ h)
theorem in_wsX1_diedBy_X1 : ∀ w ∈ wsX10, w ∈ wsX1_diedBy := fun w h => List.mem_cons_of_mem _ (List.mem_append_left _ (List.mem_append_right _ h))
theorem in_wsX1_diedBy_X3 : ∀ w ∈ wsX30, w ∈ wsX1_diedBy := fun w h => List.mem_cons_of_mem _ (List.mem_append_right _ h)
theorem in_wsX1_lastMove_X1 : ∀ w ∈ wsX10, w ∈ wsX1_lastMove := fun w h => List.mem_cons_of_mem _ (List.mem_append_left _ (List.mem_append_right _ h))
theorem in_wsX1_lastMove_X3 : ∀ w ∈ wsX30, w ∈ wsX1_lastMove := fun w h => List.mem_cons_of_mem _ (List.mem_append_right _ h)
theorem in_wsX5_inForce_X5 : ∀ w ∈ wsX50, w ∈ wsX5_inForce := fun w h => List.mem_cons_of_mem _ (List.mem_append_left _ (List.mem_append_right _ h))
theorem in_wsX5_inForce_X0 : ∀ w ∈ wsX00, w ∈ wsX5_inForce := fun w h => List.mem_cons_of_mem _ (List.mem_append_right _ h)
theorem in_wsX5_nextPresume_X5 : ∀ w ∈ wsX50, w ∈ wsX5_nextPresume := fun w h => List.mem_cons_of_mem _ (List.mem_append_left _ (List.mem_append_right _ h))
theorem in_wsX5_nextPresume_X0 : ∀ w ∈ wsX00, w ∈ wsX5_nextPresume := fun w h => List.mem_cons_of_mem _ (List.mem_append_right _ h)
theorem in_wsX1_stateOn_X1 : ∀ w ∈ wsX10, w ∈ wsX1_stateOn := fun w h => List.mem_cons_of_mem _ (List.mem_append_left _ (List.mem_append_left _ (List.mem_append_left _ (List.mem_append_left _ (List.mem_append_right _ h)))))
theorem in_wsX1_stateOn_X0 : ∀ w ∈ wsX00, w ∈ wsX1_stateOn := fun w h => List.mem_cons_of_mem _ (List.mem_append_left _ (List.mem_append_left _ (List.mem_append_right _ h)))
theorem in_wsX1_stateOn_X3 : ∀ w ∈ wsX30, w ∈ wsX1_stateOn := fun w h => List.mem_cons_of_mem _ (List.mem_append_left _ (List.mem_append_left _ (List.mem_append_left _ (List.mem_append_right _ h))))

set_option maxHeartbeats 4000000 in
set_option maxRecDepth 100000 in
theorem c_X9_lastHeard (l : Launch) (dC : Nat → ClassId) (dI : Nat → Nat → Nat) (sz : Nat) (cq : Nat → ClassId) (Z : oS) (gI : oInv Z) (o : Nat) (to : oty Z o 9) (x1 : Int32) (x2 : Int32) : Met l yX9_lastHeard wsX9_lastHeard ({ frames := 0, cells := 0, slots := 0, locals := 0 }) (va_Pc [.ref o, .int x1, .int x2] (pcW (dC, dI) (oT cq) (oW cq Z) sz)) (va_Qi (fun (r : Int32) (u : Unit) => True) (fun _ _ => True) (va_A [] sz)) 0 0 (va_A [] sz) := by
  refine Met.ofW (cc := cX9_lastHeard) (maxL := 5) (ret := (some .int)) (by decide +kernel) rfl ?_
  intro p e s m args below meth c s₁ B hml hv
  obtain ⟨rfl, hsz, hP, hK, hD0⟩ := hv
  have hx := B.exec
  have hb := B.bytes
  have hr := B.returns
  have hts := atoms_spec (ws := wsX9_lastHeard) B.pre
  have hown : s.vm.findClass RX9 = some m.cls := findClass_of_methodNamed B.named
  have hlocks := B.notSynchronized
  subst hsz
  have hD := hD0
  generalize hAe : va_A [] s.heap.size = A at ⊢
  have hA : ∀ q : Nat, s.heap.size ≤ q → A q := fun q h => by rw [← hAe]; exact Or.inr h
  have hS : va_S A s.heap s.heap [] := va_S.rf
  have hP : va_P (dC, dI) vwCl (oW cq Z) s.heap := hP
  have hl := lv_entry ([.ref o, .int x1, .int x2]) (n := 5) (Nat.le_of_ble_eq_true rfl)
  rw [lg_entry_eq]
  generalize (lg_sl ([.ref o, .int x1, .int x2]) ++ List.replicate (5 - (lg_sl ([.ref o, .int x1, .int x2])).length) Slot.unset).toArray = ls at hl ⊢
  have hl : lv_has ls 5 [(0, .ref o), (1, .int x1), (2, .int x2)] := hl
  refine lv_aload_n hx hb dX9_lastHeard_0 rfl (lv_at hl 0 rfl) ?_
  obtain ⟨q_1, hq_1⟩ := og (cq := cq) to.1 (oE_9 to.2)
  refine va_get (D := (dC, dI)) (ci := 9) (v := .int (oI Z o 6)) (C := RX9) (T := TX9) (N := 10) hx hb hts in_wsX9_lastHeard_X9 hown hK hP q_1 hq_1 rfl 6 (by decide +kernel) (hts (.fieldLink RX9 16 "ShipOffice$Voyage" "sailedTold" "I") iw_X9_lastHeard_1) (fun _ h9 => h9) rfl dX9_lastHeard_1 ?_
  refine lv_topi (fun x_2 ex_2 => ?_)
  clear ex_2
  refine lv_iload_n hx hb dX9_lastHeard_4 rfl (lv_at hl 2 rfl) ?_
  refine lv_icmp_gt (tgt := 23) hx hb dX9_lastHeard_5 (by decide +kernel) (fun c_3 => ?_) (fun c_3 => ?_)
  · have dc_3 := c_lt (a := x2.toInt) (b := x_2.toInt) rfl rfl c_3
    refine lv_iconst (v := (-1)) hx hb dX9_lastHeard_23 (by decide +kernel) ?_
    refine lv_istore_n (lv' := [(3, .int (-1)), (0, .ref o), (1, .int x1), (2, .int x2)]) hx hb dX9_lastHeard_24 rfl hl (by decide +kernel) rfl (fun ls hl => ?_)
    refine lv_aload_n hx hb dX9_lastHeard_25 rfl (lv_at hl 1 rfl) ?_
    rcases hb_5 : oP Z o 9 with _ | b_4
    · refine va_get (D := (dC, dI)) (ci := 9) (v := .null) (C := RX9) (T := TX9) (N := 10) hx hb hts in_wsX9_lastHeard_X9 hown hK hP q_1 hq_1 rfl 9 (by decide +kernel) (hts (.fieldLink RX9 41 "ShipOffice$Voyage" "heardOf" "LShipOffice$Happening;") iw_X9_lastHeard_2) (fun _ h9 => h9) (o_rd hb_5) dX9_lastHeard_26 ?_
      refine lv_astoreN (lv' := [(4, .null), (3, .int (-1)), (0, .ref o), (1, .int x1), (2, .int x2)]) hx hb dX9_lastHeard_29 hl (by decide +kernel) rfl (fun ls hl => ?_)
      have cut_6 : ∀ (n : Nat) (y_7 : Option Nat) (y_8 : Int32) (H : Heap) (locs : List Loc) (ls : Array Slot), (oR Z y_7 : Int) ≤ (n : Int) → (∀ b, y_7 = some b → oty Z b 3) → va_P (dC, dI) vwCl (oW cq Z) H → va_S A s.heap H locs → lv_has ls 5 [(4, va_rf y_7), (3, .int y_8), (0, .ref o), (1, .int x1), (2, .int x2)] → W p l e (headSpec wsX9_lastHeard { frames := 0, cells := 0, slots := 0, locals := 0 }).room s m #[Value.ref o, Value.int x1, Value.int x2] below meth c H locs 0 0 (MQ below (va_Qi (fun (r : Int32) (u : Unit) => True) (fun _ _ => True) A) #[Value.ref o, Value.int x1, Value.int x2] s 0 0 A) (F0 m 31 ls []) := by
        intro n
        induction n using Nat.strongRecOn with
        | ind n ih =>
          intro y_7 y_8 H locs ls hm ty_7 hP hS hl
          rcases y_7 with _ | b_9
          · have hl : lv_has ls 5 [(4, .null), (3, .int y_8), (0, .ref o), (1, .int x1), (2, .int x2)] := hl
            refine lv_aloadN hx hb dX9_lastHeard_31 (lv_at hl 0 rfl) ?_
            refine lv_ifnullN (tgt := 79) hx hb dX9_lastHeard_33 (by decide +kernel) ?_
            refine lv_iload_n hx hb dX9_lastHeard_79 rfl (lv_at hl 1 rfl) ?_
            exact W.iret (v := y_8) hx hb hr (fun t ht hW => ⟨⟨y_8, (), rfl, trivial, trivial⟩, hS.F ht⟩) hS.2.2 dX9_lastHeard_80
          · have hl : lv_has ls 5 [(4, .ref b_9), (3, .int y_8), (0, .ref o), (1, .int x1), (2, .int x2)] := hl
            have tb_9 : oty Z b_9 3 := ty_7 b_9 rfl
            have rb_9 : oR Z (some b_9) = oG Z b_9 + 1 := rfl
            refine lv_aload hx hb dX9_lastHeard_31 (lv_at hl 0 rfl) ?_
            refine lv_ifnull hx hb dX9_lastHeard_33 ?_
            refine lv_aload hx hb dX9_lastHeard_36 (lv_at hl 0 rfl) ?_
            obtain ⟨q_10, hq_10⟩ := og (cq := cq) tb_9.1 (oE_3 tb_9.2)
            refine va_get (D := (dC, dI)) (ci := 3) (v := .int (oI Z b_9 2)) (C := RX3) (T := TX3) (N := 6) hx hb hts in_wsX9_lastHeard_X3 hown hK hP q_10 hq_10 rfl 2 (by decide +kernel) (hts (.fieldLink RX9 45 "ShipOffice$Happening" "told" "I") iw_X9_lastHeard_3) (fun _ h9 => h9) rfl dX9_lastHeard_38 ?_
            refine lv_topi (fun x_11 ex_11 => ?_)
            clear ex_11
            refine lv_iload_n hx hb dX9_lastHeard_41 rfl (lv_at hl 4 rfl) ?_
            refine lv_icmp_gt (tgt := 69) hx hb dX9_lastHeard_42 (by decide +kernel) (fun c_12 => ?_) (fun c_12 => ?_)
            · have dc_12 := c_lt (a := x2.toInt) (b := x_11.toInt) rfl rfl c_12
              refine lv_aload hx hb dX9_lastHeard_69 (lv_at hl 0 rfl) ?_
              rcases hb_14 : oP Z b_9 5 with _ | b_13
              · refine va_get (D := (dC, dI)) (ci := 3) (v := .null) (C := RX3) (T := TX3) (N := 6) hx hb hts in_wsX9_lastHeard_X3 hown hK hP q_10 hq_10 rfl 5 (by decide +kernel) (hts (.fieldLink RX9 53 "ShipOffice$Happening" "before" "LShipOffice$Happening;") iw_X9_lastHeard_4) (fun _ h9 => h9) (o_rd hb_14) dX9_lastHeard_71 ?_
                have r_15 : oR Z none = 0 := rfl
                refine lv_astoreN (lv' := [(4, .null), (3, .int y_8), (0, .ref o), (1, .int x1), (2, .int x2)]) hx hb dX9_lastHeard_74 hl (by decide +kernel) rfl (fun ls hl => ?_)
                refine lv_goto (tgt := 31) hx hb dX9_lastHeard_76 (by decide +kernel) ?_
                exact ih (n - 1) (by omega) none y_8 _ _ ls (by omega) (fun b h => by cases h) hP hS (lv_sub hl [0, 1, 2, 3, 4] rfl)
              · refine va_get (D := (dC, dI)) (ci := 3) (v := .ref b_13) (C := RX3) (T := TX3) (N := 6) hx hb hts in_wsX9_lastHeard_X3 hown hK hP q_10 hq_10 rfl 5 (by decide +kernel) (hts (.fieldLink RX9 53 "ShipOffice$Happening" "before" "LShipOffice$Happening;") iw_X9_lastHeard_4) (fun _ h9 => h9) (o_rd hb_14) dX9_lastHeard_71 ?_
                have tb_13 : oty Z b_13 3 := oInv.rd gI tb_9.2 hb_14 rfl rfl
                have hGb_13 : oG Z b_13 < oG Z b_9 := gI.2.2.2.2.2.1 b_9 b_13 tb_9.2 hb_14
                have rb_13 : oR Z (some b_13) = oG Z b_13 + 1 := rfl
                refine lv_astore (lv' := [(4, .ref b_13), (3, .int y_8), (0, .ref o), (1, .int x1), (2, .int x2)]) hx hb dX9_lastHeard_74 hl (by decide +kernel) rfl (fun ls hl => ?_)
                refine lv_goto (tgt := 31) hx hb dX9_lastHeard_76 (by decide +kernel) ?_
                exact ih (n - 1) (by omega) (some b_13) y_8 _ _ ls (by omega) (fun b h => by cases h; exact tb_13) hP hS (lv_sub hl [0, 1, 2, 3, 4] rfl)
            · have dc_12 := c_nlt (a := x2.toInt) (b := x_11.toInt) rfl rfl c_12
              refine lv_aload hx hb dX9_lastHeard_45 (lv_at hl 0 rfl) ?_
              refine va_get (D := (dC, dI)) (ci := 3) (v := .int (oI Z b_9 1)) (C := RX3) (T := TX3) (N := 6) hx hb hts in_wsX9_lastHeard_X3 hown hK hP q_10 hq_10 rfl 1 (by decide +kernel) (hts (.fieldLink RX9 50 "ShipOffice$Happening" "day" "I") iw_X9_lastHeard_5) (fun _ h9 => h9) rfl dX9_lastHeard_47 ?_
              refine lv_topi (fun x_16 ex_16 => ?_)
              clear ex_16
              refine lv_iload_n hx hb dX9_lastHeard_50 rfl (lv_at hl 3 rfl) ?_
              refine lv_icmp_gt (tgt := 69) hx hb dX9_lastHeard_51 (by decide +kernel) (fun c_17 => ?_) (fun c_17 => ?_)
              · have dc_17 := c_lt (a := x1.toInt) (b := x_16.toInt) rfl rfl c_17
                refine lv_aload hx hb dX9_lastHeard_69 (lv_at hl 0 rfl) ?_
                rcases hb_19 : oP Z b_9 5 with _ | b_18
                · refine va_get (D := (dC, dI)) (ci := 3) (v := .null) (C := RX3) (T := TX3) (N := 6) hx hb hts in_wsX9_lastHeard_X3 hown hK hP q_10 hq_10 rfl 5 (by decide +kernel) (hts (.fieldLink RX9 53 "ShipOffice$Happening" "before" "LShipOffice$Happening;") iw_X9_lastHeard_4) (fun _ h9 => h9) (o_rd hb_19) dX9_lastHeard_71 ?_
                  have r_20 : oR Z none = 0 := rfl
                  refine lv_astoreN (lv' := [(4, .null), (3, .int y_8), (0, .ref o), (1, .int x1), (2, .int x2)]) hx hb dX9_lastHeard_74 hl (by decide +kernel) rfl (fun ls hl => ?_)
                  refine lv_goto (tgt := 31) hx hb dX9_lastHeard_76 (by decide +kernel) ?_
                  exact ih (n - 1) (by omega) none y_8 _ _ ls (by omega) (fun b h => by cases h) hP hS (lv_sub hl [0, 1, 2, 3, 4] rfl)
                · refine va_get (D := (dC, dI)) (ci := 3) (v := .ref b_18) (C := RX3) (T := TX3) (N := 6) hx hb hts in_wsX9_lastHeard_X3 hown hK hP q_10 hq_10 rfl 5 (by decide +kernel) (hts (.fieldLink RX9 53 "ShipOffice$Happening" "before" "LShipOffice$Happening;") iw_X9_lastHeard_4) (fun _ h9 => h9) (o_rd hb_19) dX9_lastHeard_71 ?_
                  have tb_18 : oty Z b_18 3 := oInv.rd gI tb_9.2 hb_19 rfl rfl
                  have hGb_18 : oG Z b_18 < oG Z b_9 := gI.2.2.2.2.2.1 b_9 b_18 tb_9.2 hb_19
                  have rb_18 : oR Z (some b_18) = oG Z b_18 + 1 := rfl
                  refine lv_astore (lv' := [(4, .ref b_18), (3, .int y_8), (0, .ref o), (1, .int x1), (2, .int x2)]) hx hb dX9_lastHeard_74 hl (by decide +kernel) rfl (fun ls hl => ?_)
                  refine lv_goto (tgt := 31) hx hb dX9_lastHeard_76 (by decide +kernel) ?_
                  exact ih (n - 1) (by omega) (some b_18) y_8 _ _ ls (by omega) (fun b h => by cases h; exact tb_18) hP hS (lv_sub hl [0, 1, 2, 3, 4] rfl)
              · have dc_17 := c_nlt (a := x1.toInt) (b := x_16.toInt) rfl rfl c_17
                refine lv_aload hx hb dX9_lastHeard_54 (lv_at hl 0 rfl) ?_
                refine va_get (D := (dC, dI)) (ci := 3) (v := .int (oI Z b_9 1)) (C := RX3) (T := TX3) (N := 6) hx hb hts in_wsX9_lastHeard_X3 hown hK hP q_10 hq_10 rfl 1 (by decide +kernel) (hts (.fieldLink RX9 50 "ShipOffice$Happening" "day" "I") iw_X9_lastHeard_5) (fun _ h9 => h9) rfl dX9_lastHeard_56 ?_
                refine lv_topi (fun x_21 ex_21 => ?_)
                clear ex_21
                refine lv_iload_n hx hb dX9_lastHeard_59 rfl (lv_at hl 1 rfl) ?_
                refine lv_icmp_le (tgt := 69) hx hb dX9_lastHeard_60 (by decide +kernel) (fun c_22 => ?_) (fun c_22 => ?_)
                · have dc_22 := c_le (a := x_21.toInt) (b := y_8.toInt) rfl rfl c_22
                  refine lv_aload hx hb dX9_lastHeard_69 (lv_at hl 0 rfl) ?_
                  rcases hb_24 : oP Z b_9 5 with _ | b_23
                  · refine va_get (D := (dC, dI)) (ci := 3) (v := .null) (C := RX3) (T := TX3) (N := 6) hx hb hts in_wsX9_lastHeard_X3 hown hK hP q_10 hq_10 rfl 5 (by decide +kernel) (hts (.fieldLink RX9 53 "ShipOffice$Happening" "before" "LShipOffice$Happening;") iw_X9_lastHeard_4) (fun _ h9 => h9) (o_rd hb_24) dX9_lastHeard_71 ?_
                    have r_25 : oR Z none = 0 := rfl
                    refine lv_astoreN (lv' := [(4, .null), (3, .int y_8), (0, .ref o), (1, .int x1), (2, .int x2)]) hx hb dX9_lastHeard_74 hl (by decide +kernel) rfl (fun ls hl => ?_)
                    refine lv_goto (tgt := 31) hx hb dX9_lastHeard_76 (by decide +kernel) ?_
                    exact ih (n - 1) (by omega) none y_8 _ _ ls (by omega) (fun b h => by cases h) hP hS (lv_sub hl [0, 1, 2, 3, 4] rfl)
                  · refine va_get (D := (dC, dI)) (ci := 3) (v := .ref b_23) (C := RX3) (T := TX3) (N := 6) hx hb hts in_wsX9_lastHeard_X3 hown hK hP q_10 hq_10 rfl 5 (by decide +kernel) (hts (.fieldLink RX9 53 "ShipOffice$Happening" "before" "LShipOffice$Happening;") iw_X9_lastHeard_4) (fun _ h9 => h9) (o_rd hb_24) dX9_lastHeard_71 ?_
                    have tb_23 : oty Z b_23 3 := oInv.rd gI tb_9.2 hb_24 rfl rfl
                    have hGb_23 : oG Z b_23 < oG Z b_9 := gI.2.2.2.2.2.1 b_9 b_23 tb_9.2 hb_24
                    have rb_23 : oR Z (some b_23) = oG Z b_23 + 1 := rfl
                    refine lv_astore (lv' := [(4, .ref b_23), (3, .int y_8), (0, .ref o), (1, .int x1), (2, .int x2)]) hx hb dX9_lastHeard_74 hl (by decide +kernel) rfl (fun ls hl => ?_)
                    refine lv_goto (tgt := 31) hx hb dX9_lastHeard_76 (by decide +kernel) ?_
                    exact ih (n - 1) (by omega) (some b_23) y_8 _ _ ls (by omega) (fun b h => by cases h; exact tb_23) hP hS (lv_sub hl [0, 1, 2, 3, 4] rfl)
                · have dc_22 := c_nle (a := x_21.toInt) (b := y_8.toInt) rfl rfl c_22
                  refine lv_aload hx hb dX9_lastHeard_63 (lv_at hl 0 rfl) ?_
                  refine va_get (D := (dC, dI)) (ci := 3) (v := .int (oI Z b_9 1)) (C := RX3) (T := TX3) (N := 6) hx hb hts in_wsX9_lastHeard_X3 hown hK hP q_10 hq_10 rfl 1 (by decide +kernel) (hts (.fieldLink RX9 50 "ShipOffice$Happening" "day" "I") iw_X9_lastHeard_5) (fun _ h9 => h9) rfl dX9_lastHeard_65 ?_
                  refine lv_topi (fun x_26 ex_26 => ?_)
                  clear ex_26
                  refine lv_istore_n (lv' := [(3, .int x_26), (4, .ref b_9), (0, .ref o), (1, .int x1), (2, .int x2)]) hx hb dX9_lastHeard_68 rfl hl (by decide +kernel) rfl (fun ls hl => ?_)
                  refine lv_aload hx hb dX9_lastHeard_69 (lv_at hl 1 rfl) ?_
                  rcases hb_28 : oP Z b_9 5 with _ | b_27
                  · refine va_get (D := (dC, dI)) (ci := 3) (v := .null) (C := RX3) (T := TX3) (N := 6) hx hb hts in_wsX9_lastHeard_X3 hown hK hP q_10 hq_10 rfl 5 (by decide +kernel) (hts (.fieldLink RX9 53 "ShipOffice$Happening" "before" "LShipOffice$Happening;") iw_X9_lastHeard_4) (fun _ h9 => h9) (o_rd hb_28) dX9_lastHeard_71 ?_
                    have r_29 : oR Z none = 0 := rfl
                    refine lv_astoreN (lv' := [(4, .null), (3, .int x_26), (0, .ref o), (1, .int x1), (2, .int x2)]) hx hb dX9_lastHeard_74 hl (by decide +kernel) rfl (fun ls hl => ?_)
                    refine lv_goto (tgt := 31) hx hb dX9_lastHeard_76 (by decide +kernel) ?_
                    exact ih (n - 1) (by omega) none x_26 _ _ ls (by omega) (fun b h => by cases h) hP hS (lv_sub hl [0, 1, 2, 3, 4] rfl)
                  · refine va_get (D := (dC, dI)) (ci := 3) (v := .ref b_27) (C := RX3) (T := TX3) (N := 6) hx hb hts in_wsX9_lastHeard_X3 hown hK hP q_10 hq_10 rfl 5 (by decide +kernel) (hts (.fieldLink RX9 53 "ShipOffice$Happening" "before" "LShipOffice$Happening;") iw_X9_lastHeard_4) (fun _ h9 => h9) (o_rd hb_28) dX9_lastHeard_71 ?_
                    have tb_27 : oty Z b_27 3 := oInv.rd gI tb_9.2 hb_28 rfl rfl
                    have hGb_27 : oG Z b_27 < oG Z b_9 := gI.2.2.2.2.2.1 b_9 b_27 tb_9.2 hb_28
                    have rb_27 : oR Z (some b_27) = oG Z b_27 + 1 := rfl
                    refine lv_astore (lv' := [(4, .ref b_27), (3, .int x_26), (0, .ref o), (1, .int x1), (2, .int x2)]) hx hb dX9_lastHeard_74 hl (by decide +kernel) rfl (fun ls hl => ?_)
                    refine lv_goto (tgt := 31) hx hb dX9_lastHeard_76 (by decide +kernel) ?_
                    exact ih (n - 1) (by omega) (some b_27) x_26 _ _ ls (by omega) (fun b h => by cases h; exact tb_27) hP hS (lv_sub hl [0, 1, 2, 3, 4] rfl)
      have kc_30 : ((-1) : Int32).toInt = -1 := by decide
      exact cut_6 (oR Z none) none (-1) _ _ ls (by omega) (fun b h => by cases h) hP hS (lv_sub hl [0, 1, 2, 3, 4] rfl)
    · refine va_get (D := (dC, dI)) (ci := 9) (v := .ref b_4) (C := RX9) (T := TX9) (N := 10) hx hb hts in_wsX9_lastHeard_X9 hown hK hP q_1 hq_1 rfl 9 (by decide +kernel) (hts (.fieldLink RX9 41 "ShipOffice$Voyage" "heardOf" "LShipOffice$Happening;") iw_X9_lastHeard_2) (fun _ h9 => h9) (o_rd hb_5) dX9_lastHeard_26 ?_
      have tb_4 : oty Z b_4 3 := oInv.rd gI to.2 hb_5 rfl rfl
      refine lv_astore (lv' := [(4, .ref b_4), (3, .int (-1)), (0, .ref o), (1, .int x1), (2, .int x2)]) hx hb dX9_lastHeard_29 hl (by decide +kernel) rfl (fun ls hl => ?_)
      have cut_31 : ∀ (n : Nat) (y_32 : Option Nat) (y_33 : Int32) (H : Heap) (locs : List Loc) (ls : Array Slot), (oR Z y_32 : Int) ≤ (n : Int) → (∀ b, y_32 = some b → oty Z b 3) → va_P (dC, dI) vwCl (oW cq Z) H → va_S A s.heap H locs → lv_has ls 5 [(4, va_rf y_32), (3, .int y_33), (0, .ref o), (1, .int x1), (2, .int x2)] → W p l e (headSpec wsX9_lastHeard { frames := 0, cells := 0, slots := 0, locals := 0 }).room s m #[Value.ref o, Value.int x1, Value.int x2] below meth c H locs 0 0 (MQ below (va_Qi (fun (r : Int32) (u : Unit) => True) (fun _ _ => True) A) #[Value.ref o, Value.int x1, Value.int x2] s 0 0 A) (F0 m 31 ls []) := by
        intro n
        induction n using Nat.strongRecOn with
        | ind n ih =>
          intro y_32 y_33 H locs ls hm ty_32 hP hS hl
          rcases y_32 with _ | b_34
          · have hl : lv_has ls 5 [(4, .null), (3, .int y_33), (0, .ref o), (1, .int x1), (2, .int x2)] := hl
            refine lv_aloadN hx hb dX9_lastHeard_31 (lv_at hl 0 rfl) ?_
            refine lv_ifnullN (tgt := 79) hx hb dX9_lastHeard_33 (by decide +kernel) ?_
            refine lv_iload_n hx hb dX9_lastHeard_79 rfl (lv_at hl 1 rfl) ?_
            exact W.iret (v := y_33) hx hb hr (fun t ht hW => ⟨⟨y_33, (), rfl, trivial, trivial⟩, hS.F ht⟩) hS.2.2 dX9_lastHeard_80
          · have hl : lv_has ls 5 [(4, .ref b_34), (3, .int y_33), (0, .ref o), (1, .int x1), (2, .int x2)] := hl
            have tb_34 : oty Z b_34 3 := ty_32 b_34 rfl
            have rb_34 : oR Z (some b_34) = oG Z b_34 + 1 := rfl
            refine lv_aload hx hb dX9_lastHeard_31 (lv_at hl 0 rfl) ?_
            refine lv_ifnull hx hb dX9_lastHeard_33 ?_
            refine lv_aload hx hb dX9_lastHeard_36 (lv_at hl 0 rfl) ?_
            obtain ⟨q_35, hq_35⟩ := og (cq := cq) tb_34.1 (oE_3 tb_34.2)
            refine va_get (D := (dC, dI)) (ci := 3) (v := .int (oI Z b_34 2)) (C := RX3) (T := TX3) (N := 6) hx hb hts in_wsX9_lastHeard_X3 hown hK hP q_35 hq_35 rfl 2 (by decide +kernel) (hts (.fieldLink RX9 45 "ShipOffice$Happening" "told" "I") iw_X9_lastHeard_3) (fun _ h9 => h9) rfl dX9_lastHeard_38 ?_
            refine lv_topi (fun x_36 ex_36 => ?_)
            clear ex_36
            refine lv_iload_n hx hb dX9_lastHeard_41 rfl (lv_at hl 4 rfl) ?_
            refine lv_icmp_gt (tgt := 69) hx hb dX9_lastHeard_42 (by decide +kernel) (fun c_37 => ?_) (fun c_37 => ?_)
            · have dc_37 := c_lt (a := x2.toInt) (b := x_36.toInt) rfl rfl c_37
              refine lv_aload hx hb dX9_lastHeard_69 (lv_at hl 0 rfl) ?_
              rcases hb_39 : oP Z b_34 5 with _ | b_38
              · refine va_get (D := (dC, dI)) (ci := 3) (v := .null) (C := RX3) (T := TX3) (N := 6) hx hb hts in_wsX9_lastHeard_X3 hown hK hP q_35 hq_35 rfl 5 (by decide +kernel) (hts (.fieldLink RX9 53 "ShipOffice$Happening" "before" "LShipOffice$Happening;") iw_X9_lastHeard_4) (fun _ h9 => h9) (o_rd hb_39) dX9_lastHeard_71 ?_
                have r_40 : oR Z none = 0 := rfl
                refine lv_astoreN (lv' := [(4, .null), (3, .int y_33), (0, .ref o), (1, .int x1), (2, .int x2)]) hx hb dX9_lastHeard_74 hl (by decide +kernel) rfl (fun ls hl => ?_)
                refine lv_goto (tgt := 31) hx hb dX9_lastHeard_76 (by decide +kernel) ?_
                exact ih (n - 1) (by omega) none y_33 _ _ ls (by omega) (fun b h => by cases h) hP hS (lv_sub hl [0, 1, 2, 3, 4] rfl)
              · refine va_get (D := (dC, dI)) (ci := 3) (v := .ref b_38) (C := RX3) (T := TX3) (N := 6) hx hb hts in_wsX9_lastHeard_X3 hown hK hP q_35 hq_35 rfl 5 (by decide +kernel) (hts (.fieldLink RX9 53 "ShipOffice$Happening" "before" "LShipOffice$Happening;") iw_X9_lastHeard_4) (fun _ h9 => h9) (o_rd hb_39) dX9_lastHeard_71 ?_
                have tb_38 : oty Z b_38 3 := oInv.rd gI tb_34.2 hb_39 rfl rfl
                have hGb_38 : oG Z b_38 < oG Z b_34 := gI.2.2.2.2.2.1 b_34 b_38 tb_34.2 hb_39
                have rb_38 : oR Z (some b_38) = oG Z b_38 + 1 := rfl
                refine lv_astore (lv' := [(4, .ref b_38), (3, .int y_33), (0, .ref o), (1, .int x1), (2, .int x2)]) hx hb dX9_lastHeard_74 hl (by decide +kernel) rfl (fun ls hl => ?_)
                refine lv_goto (tgt := 31) hx hb dX9_lastHeard_76 (by decide +kernel) ?_
                exact ih (n - 1) (by omega) (some b_38) y_33 _ _ ls (by omega) (fun b h => by cases h; exact tb_38) hP hS (lv_sub hl [0, 1, 2, 3, 4] rfl)
            · have dc_37 := c_nlt (a := x2.toInt) (b := x_36.toInt) rfl rfl c_37
              refine lv_aload hx hb dX9_lastHeard_45 (lv_at hl 0 rfl) ?_
              refine va_get (D := (dC, dI)) (ci := 3) (v := .int (oI Z b_34 1)) (C := RX3) (T := TX3) (N := 6) hx hb hts in_wsX9_lastHeard_X3 hown hK hP q_35 hq_35 rfl 1 (by decide +kernel) (hts (.fieldLink RX9 50 "ShipOffice$Happening" "day" "I") iw_X9_lastHeard_5) (fun _ h9 => h9) rfl dX9_lastHeard_47 ?_
              refine lv_topi (fun x_41 ex_41 => ?_)
              clear ex_41
              refine lv_iload_n hx hb dX9_lastHeard_50 rfl (lv_at hl 3 rfl) ?_
              refine lv_icmp_gt (tgt := 69) hx hb dX9_lastHeard_51 (by decide +kernel) (fun c_42 => ?_) (fun c_42 => ?_)
              · have dc_42 := c_lt (a := x1.toInt) (b := x_41.toInt) rfl rfl c_42
                refine lv_aload hx hb dX9_lastHeard_69 (lv_at hl 0 rfl) ?_
                rcases hb_44 : oP Z b_34 5 with _ | b_43
                · refine va_get (D := (dC, dI)) (ci := 3) (v := .null) (C := RX3) (T := TX3) (N := 6) hx hb hts in_wsX9_lastHeard_X3 hown hK hP q_35 hq_35 rfl 5 (by decide +kernel) (hts (.fieldLink RX9 53 "ShipOffice$Happening" "before" "LShipOffice$Happening;") iw_X9_lastHeard_4) (fun _ h9 => h9) (o_rd hb_44) dX9_lastHeard_71 ?_
                  have r_45 : oR Z none = 0 := rfl
                  refine lv_astoreN (lv' := [(4, .null), (3, .int y_33), (0, .ref o), (1, .int x1), (2, .int x2)]) hx hb dX9_lastHeard_74 hl (by decide +kernel) rfl (fun ls hl => ?_)
                  refine lv_goto (tgt := 31) hx hb dX9_lastHeard_76 (by decide +kernel) ?_
                  exact ih (n - 1) (by omega) none y_33 _ _ ls (by omega) (fun b h => by cases h) hP hS (lv_sub hl [0, 1, 2, 3, 4] rfl)
                · refine va_get (D := (dC, dI)) (ci := 3) (v := .ref b_43) (C := RX3) (T := TX3) (N := 6) hx hb hts in_wsX9_lastHeard_X3 hown hK hP q_35 hq_35 rfl 5 (by decide +kernel) (hts (.fieldLink RX9 53 "ShipOffice$Happening" "before" "LShipOffice$Happening;") iw_X9_lastHeard_4) (fun _ h9 => h9) (o_rd hb_44) dX9_lastHeard_71 ?_
                  have tb_43 : oty Z b_43 3 := oInv.rd gI tb_34.2 hb_44 rfl rfl
                  have hGb_43 : oG Z b_43 < oG Z b_34 := gI.2.2.2.2.2.1 b_34 b_43 tb_34.2 hb_44
                  have rb_43 : oR Z (some b_43) = oG Z b_43 + 1 := rfl
                  refine lv_astore (lv' := [(4, .ref b_43), (3, .int y_33), (0, .ref o), (1, .int x1), (2, .int x2)]) hx hb dX9_lastHeard_74 hl (by decide +kernel) rfl (fun ls hl => ?_)
                  refine lv_goto (tgt := 31) hx hb dX9_lastHeard_76 (by decide +kernel) ?_
                  exact ih (n - 1) (by omega) (some b_43) y_33 _ _ ls (by omega) (fun b h => by cases h; exact tb_43) hP hS (lv_sub hl [0, 1, 2, 3, 4] rfl)
              · have dc_42 := c_nlt (a := x1.toInt) (b := x_41.toInt) rfl rfl c_42
                refine lv_aload hx hb dX9_lastHeard_54 (lv_at hl 0 rfl) ?_
                refine va_get (D := (dC, dI)) (ci := 3) (v := .int (oI Z b_34 1)) (C := RX3) (T := TX3) (N := 6) hx hb hts in_wsX9_lastHeard_X3 hown hK hP q_35 hq_35 rfl 1 (by decide +kernel) (hts (.fieldLink RX9 50 "ShipOffice$Happening" "day" "I") iw_X9_lastHeard_5) (fun _ h9 => h9) rfl dX9_lastHeard_56 ?_
                refine lv_topi (fun x_46 ex_46 => ?_)
                clear ex_46
                refine lv_iload_n hx hb dX9_lastHeard_59 rfl (lv_at hl 1 rfl) ?_
                refine lv_icmp_le (tgt := 69) hx hb dX9_lastHeard_60 (by decide +kernel) (fun c_47 => ?_) (fun c_47 => ?_)
                · have dc_47 := c_le (a := x_46.toInt) (b := y_33.toInt) rfl rfl c_47
                  refine lv_aload hx hb dX9_lastHeard_69 (lv_at hl 0 rfl) ?_
                  rcases hb_49 : oP Z b_34 5 with _ | b_48
                  · refine va_get (D := (dC, dI)) (ci := 3) (v := .null) (C := RX3) (T := TX3) (N := 6) hx hb hts in_wsX9_lastHeard_X3 hown hK hP q_35 hq_35 rfl 5 (by decide +kernel) (hts (.fieldLink RX9 53 "ShipOffice$Happening" "before" "LShipOffice$Happening;") iw_X9_lastHeard_4) (fun _ h9 => h9) (o_rd hb_49) dX9_lastHeard_71 ?_
                    have r_50 : oR Z none = 0 := rfl
                    refine lv_astoreN (lv' := [(4, .null), (3, .int y_33), (0, .ref o), (1, .int x1), (2, .int x2)]) hx hb dX9_lastHeard_74 hl (by decide +kernel) rfl (fun ls hl => ?_)
                    refine lv_goto (tgt := 31) hx hb dX9_lastHeard_76 (by decide +kernel) ?_
                    exact ih (n - 1) (by omega) none y_33 _ _ ls (by omega) (fun b h => by cases h) hP hS (lv_sub hl [0, 1, 2, 3, 4] rfl)
                  · refine va_get (D := (dC, dI)) (ci := 3) (v := .ref b_48) (C := RX3) (T := TX3) (N := 6) hx hb hts in_wsX9_lastHeard_X3 hown hK hP q_35 hq_35 rfl 5 (by decide +kernel) (hts (.fieldLink RX9 53 "ShipOffice$Happening" "before" "LShipOffice$Happening;") iw_X9_lastHeard_4) (fun _ h9 => h9) (o_rd hb_49) dX9_lastHeard_71 ?_
                    have tb_48 : oty Z b_48 3 := oInv.rd gI tb_34.2 hb_49 rfl rfl
                    have hGb_48 : oG Z b_48 < oG Z b_34 := gI.2.2.2.2.2.1 b_34 b_48 tb_34.2 hb_49
                    have rb_48 : oR Z (some b_48) = oG Z b_48 + 1 := rfl
                    refine lv_astore (lv' := [(4, .ref b_48), (3, .int y_33), (0, .ref o), (1, .int x1), (2, .int x2)]) hx hb dX9_lastHeard_74 hl (by decide +kernel) rfl (fun ls hl => ?_)
                    refine lv_goto (tgt := 31) hx hb dX9_lastHeard_76 (by decide +kernel) ?_
                    exact ih (n - 1) (by omega) (some b_48) y_33 _ _ ls (by omega) (fun b h => by cases h; exact tb_48) hP hS (lv_sub hl [0, 1, 2, 3, 4] rfl)
                · have dc_47 := c_nle (a := x_46.toInt) (b := y_33.toInt) rfl rfl c_47
                  refine lv_aload hx hb dX9_lastHeard_63 (lv_at hl 0 rfl) ?_
                  refine va_get (D := (dC, dI)) (ci := 3) (v := .int (oI Z b_34 1)) (C := RX3) (T := TX3) (N := 6) hx hb hts in_wsX9_lastHeard_X3 hown hK hP q_35 hq_35 rfl 1 (by decide +kernel) (hts (.fieldLink RX9 50 "ShipOffice$Happening" "day" "I") iw_X9_lastHeard_5) (fun _ h9 => h9) rfl dX9_lastHeard_65 ?_
                  refine lv_topi (fun x_51 ex_51 => ?_)
                  clear ex_51
                  refine lv_istore_n (lv' := [(3, .int x_51), (4, .ref b_34), (0, .ref o), (1, .int x1), (2, .int x2)]) hx hb dX9_lastHeard_68 rfl hl (by decide +kernel) rfl (fun ls hl => ?_)
                  refine lv_aload hx hb dX9_lastHeard_69 (lv_at hl 1 rfl) ?_
                  rcases hb_53 : oP Z b_34 5 with _ | b_52
                  · refine va_get (D := (dC, dI)) (ci := 3) (v := .null) (C := RX3) (T := TX3) (N := 6) hx hb hts in_wsX9_lastHeard_X3 hown hK hP q_35 hq_35 rfl 5 (by decide +kernel) (hts (.fieldLink RX9 53 "ShipOffice$Happening" "before" "LShipOffice$Happening;") iw_X9_lastHeard_4) (fun _ h9 => h9) (o_rd hb_53) dX9_lastHeard_71 ?_
                    have r_54 : oR Z none = 0 := rfl
                    refine lv_astoreN (lv' := [(4, .null), (3, .int x_51), (0, .ref o), (1, .int x1), (2, .int x2)]) hx hb dX9_lastHeard_74 hl (by decide +kernel) rfl (fun ls hl => ?_)
                    refine lv_goto (tgt := 31) hx hb dX9_lastHeard_76 (by decide +kernel) ?_
                    exact ih (n - 1) (by omega) none x_51 _ _ ls (by omega) (fun b h => by cases h) hP hS (lv_sub hl [0, 1, 2, 3, 4] rfl)
                  · refine va_get (D := (dC, dI)) (ci := 3) (v := .ref b_52) (C := RX3) (T := TX3) (N := 6) hx hb hts in_wsX9_lastHeard_X3 hown hK hP q_35 hq_35 rfl 5 (by decide +kernel) (hts (.fieldLink RX9 53 "ShipOffice$Happening" "before" "LShipOffice$Happening;") iw_X9_lastHeard_4) (fun _ h9 => h9) (o_rd hb_53) dX9_lastHeard_71 ?_
                    have tb_52 : oty Z b_52 3 := oInv.rd gI tb_34.2 hb_53 rfl rfl
                    have hGb_52 : oG Z b_52 < oG Z b_34 := gI.2.2.2.2.2.1 b_34 b_52 tb_34.2 hb_53
                    have rb_52 : oR Z (some b_52) = oG Z b_52 + 1 := rfl
                    refine lv_astore (lv' := [(4, .ref b_52), (3, .int x_51), (0, .ref o), (1, .int x1), (2, .int x2)]) hx hb dX9_lastHeard_74 hl (by decide +kernel) rfl (fun ls hl => ?_)
                    refine lv_goto (tgt := 31) hx hb dX9_lastHeard_76 (by decide +kernel) ?_
                    exact ih (n - 1) (by omega) (some b_52) x_51 _ _ ls (by omega) (fun b h => by cases h; exact tb_52) hP hS (lv_sub hl [0, 1, 2, 3, 4] rfl)
      have kc_55 : ((-1) : Int32).toInt = -1 := by decide
      exact cut_31 (oR Z (some b_4)) (some b_4) (-1) _ _ ls (by omega) (fun b h => by cases h; exact tb_4) hP hS (lv_sub hl [0, 1, 2, 3, 4] rfl)
  · have dc_3 := c_nlt (a := x2.toInt) (b := x_2.toInt) rfl rfl c_3
    refine lv_aload_n hx hb dX9_lastHeard_8 rfl (lv_at hl 0 rfl) ?_
    refine va_get (D := (dC, dI)) (ci := 9) (v := .int (oI Z o 5)) (C := RX9) (T := TX9) (N := 10) hx hb hts in_wsX9_lastHeard_X9 hown hK hP q_1 hq_1 rfl 5 (by decide +kernel) (hts (.fieldLink RX9 10 "ShipOffice$Voyage" "sailedDay" "I") iw_X9_lastHeard_6) (fun _ h9 => h9) rfl dX9_lastHeard_9 ?_
    refine lv_topi (fun x_56 ex_56 => ?_)
    have hx_56 : 0 ≤ x_56.toInt ∧ x_56.toInt ≤ 1000000 := iv_of ex_56 (oInv.iv gI to.2 rfl rfl)
    have gx_56 : x_56.toInt = (oI Z o 5).toInt := iv_to ex_56
    clear ex_56
    refine lv_iload_n hx hb dX9_lastHeard_12 rfl (lv_at hl 1 rfl) ?_
    refine lv_icmp_gt (tgt := 23) hx hb dX9_lastHeard_13 (by decide +kernel) (fun c_57 => ?_) (fun c_57 => ?_)
    · have dc_57 := c_lt (a := x1.toInt) (b := x_56.toInt) rfl rfl c_57
      refine lv_iconst (v := (-1)) hx hb dX9_lastHeard_23 (by decide +kernel) ?_
      refine lv_istore_n (lv' := [(3, .int (-1)), (0, .ref o), (1, .int x1), (2, .int x2)]) hx hb dX9_lastHeard_24 rfl hl (by decide +kernel) rfl (fun ls hl => ?_)
      refine lv_aload_n hx hb dX9_lastHeard_25 rfl (lv_at hl 1 rfl) ?_
      rcases hb_59 : oP Z o 9 with _ | b_58
      · refine va_get (D := (dC, dI)) (ci := 9) (v := .null) (C := RX9) (T := TX9) (N := 10) hx hb hts in_wsX9_lastHeard_X9 hown hK hP q_1 hq_1 rfl 9 (by decide +kernel) (hts (.fieldLink RX9 41 "ShipOffice$Voyage" "heardOf" "LShipOffice$Happening;") iw_X9_lastHeard_2) (fun _ h9 => h9) (o_rd hb_59) dX9_lastHeard_26 ?_
        refine lv_astoreN (lv' := [(4, .null), (3, .int (-1)), (0, .ref o), (1, .int x1), (2, .int x2)]) hx hb dX9_lastHeard_29 hl (by decide +kernel) rfl (fun ls hl => ?_)
        have cut_60 : ∀ (n : Nat) (y_61 : Option Nat) (y_62 : Int32) (H : Heap) (locs : List Loc) (ls : Array Slot), (oR Z y_61 : Int) ≤ (n : Int) → (∀ b, y_61 = some b → oty Z b 3) → va_P (dC, dI) vwCl (oW cq Z) H → va_S A s.heap H locs → lv_has ls 5 [(4, va_rf y_61), (3, .int y_62), (0, .ref o), (1, .int x1), (2, .int x2)] → W p l e (headSpec wsX9_lastHeard { frames := 0, cells := 0, slots := 0, locals := 0 }).room s m #[Value.ref o, Value.int x1, Value.int x2] below meth c H locs 0 0 (MQ below (va_Qi (fun (r : Int32) (u : Unit) => True) (fun _ _ => True) A) #[Value.ref o, Value.int x1, Value.int x2] s 0 0 A) (F0 m 31 ls []) := by
          intro n
          induction n using Nat.strongRecOn with
          | ind n ih =>
            intro y_61 y_62 H locs ls hm ty_61 hP hS hl
            rcases y_61 with _ | b_63
            · have hl : lv_has ls 5 [(4, .null), (3, .int y_62), (0, .ref o), (1, .int x1), (2, .int x2)] := hl
              refine lv_aloadN hx hb dX9_lastHeard_31 (lv_at hl 0 rfl) ?_
              refine lv_ifnullN (tgt := 79) hx hb dX9_lastHeard_33 (by decide +kernel) ?_
              refine lv_iload_n hx hb dX9_lastHeard_79 rfl (lv_at hl 1 rfl) ?_
              exact W.iret (v := y_62) hx hb hr (fun t ht hW => ⟨⟨y_62, (), rfl, trivial, trivial⟩, hS.F ht⟩) hS.2.2 dX9_lastHeard_80
            · have hl : lv_has ls 5 [(4, .ref b_63), (3, .int y_62), (0, .ref o), (1, .int x1), (2, .int x2)] := hl
              have tb_63 : oty Z b_63 3 := ty_61 b_63 rfl
              have rb_63 : oR Z (some b_63) = oG Z b_63 + 1 := rfl
              refine lv_aload hx hb dX9_lastHeard_31 (lv_at hl 0 rfl) ?_
              refine lv_ifnull hx hb dX9_lastHeard_33 ?_
              refine lv_aload hx hb dX9_lastHeard_36 (lv_at hl 0 rfl) ?_
              obtain ⟨q_64, hq_64⟩ := og (cq := cq) tb_63.1 (oE_3 tb_63.2)
              refine va_get (D := (dC, dI)) (ci := 3) (v := .int (oI Z b_63 2)) (C := RX3) (T := TX3) (N := 6) hx hb hts in_wsX9_lastHeard_X3 hown hK hP q_64 hq_64 rfl 2 (by decide +kernel) (hts (.fieldLink RX9 45 "ShipOffice$Happening" "told" "I") iw_X9_lastHeard_3) (fun _ h9 => h9) rfl dX9_lastHeard_38 ?_
              refine lv_topi (fun x_65 ex_65 => ?_)
              clear ex_65
              refine lv_iload_n hx hb dX9_lastHeard_41 rfl (lv_at hl 4 rfl) ?_
              refine lv_icmp_gt (tgt := 69) hx hb dX9_lastHeard_42 (by decide +kernel) (fun c_66 => ?_) (fun c_66 => ?_)
              · have dc_66 := c_lt (a := x2.toInt) (b := x_65.toInt) rfl rfl c_66
                refine lv_aload hx hb dX9_lastHeard_69 (lv_at hl 0 rfl) ?_
                rcases hb_68 : oP Z b_63 5 with _ | b_67
                · refine va_get (D := (dC, dI)) (ci := 3) (v := .null) (C := RX3) (T := TX3) (N := 6) hx hb hts in_wsX9_lastHeard_X3 hown hK hP q_64 hq_64 rfl 5 (by decide +kernel) (hts (.fieldLink RX9 53 "ShipOffice$Happening" "before" "LShipOffice$Happening;") iw_X9_lastHeard_4) (fun _ h9 => h9) (o_rd hb_68) dX9_lastHeard_71 ?_
                  have r_69 : oR Z none = 0 := rfl
                  refine lv_astoreN (lv' := [(4, .null), (3, .int y_62), (0, .ref o), (1, .int x1), (2, .int x2)]) hx hb dX9_lastHeard_74 hl (by decide +kernel) rfl (fun ls hl => ?_)
                  refine lv_goto (tgt := 31) hx hb dX9_lastHeard_76 (by decide +kernel) ?_
                  exact ih (n - 1) (by omega) none y_62 _ _ ls (by omega) (fun b h => by cases h) hP hS (lv_sub hl [0, 1, 2, 3, 4] rfl)
                · refine va_get (D := (dC, dI)) (ci := 3) (v := .ref b_67) (C := RX3) (T := TX3) (N := 6) hx hb hts in_wsX9_lastHeard_X3 hown hK hP q_64 hq_64 rfl 5 (by decide +kernel) (hts (.fieldLink RX9 53 "ShipOffice$Happening" "before" "LShipOffice$Happening;") iw_X9_lastHeard_4) (fun _ h9 => h9) (o_rd hb_68) dX9_lastHeard_71 ?_
                  have tb_67 : oty Z b_67 3 := oInv.rd gI tb_63.2 hb_68 rfl rfl
                  have hGb_67 : oG Z b_67 < oG Z b_63 := gI.2.2.2.2.2.1 b_63 b_67 tb_63.2 hb_68
                  have rb_67 : oR Z (some b_67) = oG Z b_67 + 1 := rfl
                  refine lv_astore (lv' := [(4, .ref b_67), (3, .int y_62), (0, .ref o), (1, .int x1), (2, .int x2)]) hx hb dX9_lastHeard_74 hl (by decide +kernel) rfl (fun ls hl => ?_)
                  refine lv_goto (tgt := 31) hx hb dX9_lastHeard_76 (by decide +kernel) ?_
                  exact ih (n - 1) (by omega) (some b_67) y_62 _ _ ls (by omega) (fun b h => by cases h; exact tb_67) hP hS (lv_sub hl [0, 1, 2, 3, 4] rfl)
              · have dc_66 := c_nlt (a := x2.toInt) (b := x_65.toInt) rfl rfl c_66
                refine lv_aload hx hb dX9_lastHeard_45 (lv_at hl 0 rfl) ?_
                refine va_get (D := (dC, dI)) (ci := 3) (v := .int (oI Z b_63 1)) (C := RX3) (T := TX3) (N := 6) hx hb hts in_wsX9_lastHeard_X3 hown hK hP q_64 hq_64 rfl 1 (by decide +kernel) (hts (.fieldLink RX9 50 "ShipOffice$Happening" "day" "I") iw_X9_lastHeard_5) (fun _ h9 => h9) rfl dX9_lastHeard_47 ?_
                refine lv_topi (fun x_70 ex_70 => ?_)
                clear ex_70
                refine lv_iload_n hx hb dX9_lastHeard_50 rfl (lv_at hl 3 rfl) ?_
                refine lv_icmp_gt (tgt := 69) hx hb dX9_lastHeard_51 (by decide +kernel) (fun c_71 => ?_) (fun c_71 => ?_)
                · have dc_71 := c_lt (a := x1.toInt) (b := x_70.toInt) rfl rfl c_71
                  refine lv_aload hx hb dX9_lastHeard_69 (lv_at hl 0 rfl) ?_
                  rcases hb_73 : oP Z b_63 5 with _ | b_72
                  · refine va_get (D := (dC, dI)) (ci := 3) (v := .null) (C := RX3) (T := TX3) (N := 6) hx hb hts in_wsX9_lastHeard_X3 hown hK hP q_64 hq_64 rfl 5 (by decide +kernel) (hts (.fieldLink RX9 53 "ShipOffice$Happening" "before" "LShipOffice$Happening;") iw_X9_lastHeard_4) (fun _ h9 => h9) (o_rd hb_73) dX9_lastHeard_71 ?_
                    have r_74 : oR Z none = 0 := rfl
                    refine lv_astoreN (lv' := [(4, .null), (3, .int y_62), (0, .ref o), (1, .int x1), (2, .int x2)]) hx hb dX9_lastHeard_74 hl (by decide +kernel) rfl (fun ls hl => ?_)
                    refine lv_goto (tgt := 31) hx hb dX9_lastHeard_76 (by decide +kernel) ?_
                    exact ih (n - 1) (by omega) none y_62 _ _ ls (by omega) (fun b h => by cases h) hP hS (lv_sub hl [0, 1, 2, 3, 4] rfl)
                  · refine va_get (D := (dC, dI)) (ci := 3) (v := .ref b_72) (C := RX3) (T := TX3) (N := 6) hx hb hts in_wsX9_lastHeard_X3 hown hK hP q_64 hq_64 rfl 5 (by decide +kernel) (hts (.fieldLink RX9 53 "ShipOffice$Happening" "before" "LShipOffice$Happening;") iw_X9_lastHeard_4) (fun _ h9 => h9) (o_rd hb_73) dX9_lastHeard_71 ?_
                    have tb_72 : oty Z b_72 3 := oInv.rd gI tb_63.2 hb_73 rfl rfl
                    have hGb_72 : oG Z b_72 < oG Z b_63 := gI.2.2.2.2.2.1 b_63 b_72 tb_63.2 hb_73
                    have rb_72 : oR Z (some b_72) = oG Z b_72 + 1 := rfl
                    refine lv_astore (lv' := [(4, .ref b_72), (3, .int y_62), (0, .ref o), (1, .int x1), (2, .int x2)]) hx hb dX9_lastHeard_74 hl (by decide +kernel) rfl (fun ls hl => ?_)
                    refine lv_goto (tgt := 31) hx hb dX9_lastHeard_76 (by decide +kernel) ?_
                    exact ih (n - 1) (by omega) (some b_72) y_62 _ _ ls (by omega) (fun b h => by cases h; exact tb_72) hP hS (lv_sub hl [0, 1, 2, 3, 4] rfl)
                · have dc_71 := c_nlt (a := x1.toInt) (b := x_70.toInt) rfl rfl c_71
                  refine lv_aload hx hb dX9_lastHeard_54 (lv_at hl 0 rfl) ?_
                  refine va_get (D := (dC, dI)) (ci := 3) (v := .int (oI Z b_63 1)) (C := RX3) (T := TX3) (N := 6) hx hb hts in_wsX9_lastHeard_X3 hown hK hP q_64 hq_64 rfl 1 (by decide +kernel) (hts (.fieldLink RX9 50 "ShipOffice$Happening" "day" "I") iw_X9_lastHeard_5) (fun _ h9 => h9) rfl dX9_lastHeard_56 ?_
                  refine lv_topi (fun x_75 ex_75 => ?_)
                  clear ex_75
                  refine lv_iload_n hx hb dX9_lastHeard_59 rfl (lv_at hl 1 rfl) ?_
                  refine lv_icmp_le (tgt := 69) hx hb dX9_lastHeard_60 (by decide +kernel) (fun c_76 => ?_) (fun c_76 => ?_)
                  · have dc_76 := c_le (a := x_75.toInt) (b := y_62.toInt) rfl rfl c_76
                    refine lv_aload hx hb dX9_lastHeard_69 (lv_at hl 0 rfl) ?_
                    rcases hb_78 : oP Z b_63 5 with _ | b_77
                    · refine va_get (D := (dC, dI)) (ci := 3) (v := .null) (C := RX3) (T := TX3) (N := 6) hx hb hts in_wsX9_lastHeard_X3 hown hK hP q_64 hq_64 rfl 5 (by decide +kernel) (hts (.fieldLink RX9 53 "ShipOffice$Happening" "before" "LShipOffice$Happening;") iw_X9_lastHeard_4) (fun _ h9 => h9) (o_rd hb_78) dX9_lastHeard_71 ?_
                      have r_79 : oR Z none = 0 := rfl
                      refine lv_astoreN (lv' := [(4, .null), (3, .int y_62), (0, .ref o), (1, .int x1), (2, .int x2)]) hx hb dX9_lastHeard_74 hl (by decide +kernel) rfl (fun ls hl => ?_)
                      refine lv_goto (tgt := 31) hx hb dX9_lastHeard_76 (by decide +kernel) ?_
                      exact ih (n - 1) (by omega) none y_62 _ _ ls (by omega) (fun b h => by cases h) hP hS (lv_sub hl [0, 1, 2, 3, 4] rfl)
                    · refine va_get (D := (dC, dI)) (ci := 3) (v := .ref b_77) (C := RX3) (T := TX3) (N := 6) hx hb hts in_wsX9_lastHeard_X3 hown hK hP q_64 hq_64 rfl 5 (by decide +kernel) (hts (.fieldLink RX9 53 "ShipOffice$Happening" "before" "LShipOffice$Happening;") iw_X9_lastHeard_4) (fun _ h9 => h9) (o_rd hb_78) dX9_lastHeard_71 ?_
                      have tb_77 : oty Z b_77 3 := oInv.rd gI tb_63.2 hb_78 rfl rfl
                      have hGb_77 : oG Z b_77 < oG Z b_63 := gI.2.2.2.2.2.1 b_63 b_77 tb_63.2 hb_78
                      have rb_77 : oR Z (some b_77) = oG Z b_77 + 1 := rfl
                      refine lv_astore (lv' := [(4, .ref b_77), (3, .int y_62), (0, .ref o), (1, .int x1), (2, .int x2)]) hx hb dX9_lastHeard_74 hl (by decide +kernel) rfl (fun ls hl => ?_)
                      refine lv_goto (tgt := 31) hx hb dX9_lastHeard_76 (by decide +kernel) ?_
                      exact ih (n - 1) (by omega) (some b_77) y_62 _ _ ls (by omega) (fun b h => by cases h; exact tb_77) hP hS (lv_sub hl [0, 1, 2, 3, 4] rfl)
                  · have dc_76 := c_nle (a := x_75.toInt) (b := y_62.toInt) rfl rfl c_76
                    refine lv_aload hx hb dX9_lastHeard_63 (lv_at hl 0 rfl) ?_
                    refine va_get (D := (dC, dI)) (ci := 3) (v := .int (oI Z b_63 1)) (C := RX3) (T := TX3) (N := 6) hx hb hts in_wsX9_lastHeard_X3 hown hK hP q_64 hq_64 rfl 1 (by decide +kernel) (hts (.fieldLink RX9 50 "ShipOffice$Happening" "day" "I") iw_X9_lastHeard_5) (fun _ h9 => h9) rfl dX9_lastHeard_65 ?_
                    refine lv_topi (fun x_80 ex_80 => ?_)
                    clear ex_80
                    refine lv_istore_n (lv' := [(3, .int x_80), (4, .ref b_63), (0, .ref o), (1, .int x1), (2, .int x2)]) hx hb dX9_lastHeard_68 rfl hl (by decide +kernel) rfl (fun ls hl => ?_)
                    refine lv_aload hx hb dX9_lastHeard_69 (lv_at hl 1 rfl) ?_
                    rcases hb_82 : oP Z b_63 5 with _ | b_81
                    · refine va_get (D := (dC, dI)) (ci := 3) (v := .null) (C := RX3) (T := TX3) (N := 6) hx hb hts in_wsX9_lastHeard_X3 hown hK hP q_64 hq_64 rfl 5 (by decide +kernel) (hts (.fieldLink RX9 53 "ShipOffice$Happening" "before" "LShipOffice$Happening;") iw_X9_lastHeard_4) (fun _ h9 => h9) (o_rd hb_82) dX9_lastHeard_71 ?_
                      have r_83 : oR Z none = 0 := rfl
                      refine lv_astoreN (lv' := [(4, .null), (3, .int x_80), (0, .ref o), (1, .int x1), (2, .int x2)]) hx hb dX9_lastHeard_74 hl (by decide +kernel) rfl (fun ls hl => ?_)
                      refine lv_goto (tgt := 31) hx hb dX9_lastHeard_76 (by decide +kernel) ?_
                      exact ih (n - 1) (by omega) none x_80 _ _ ls (by omega) (fun b h => by cases h) hP hS (lv_sub hl [0, 1, 2, 3, 4] rfl)
                    · refine va_get (D := (dC, dI)) (ci := 3) (v := .ref b_81) (C := RX3) (T := TX3) (N := 6) hx hb hts in_wsX9_lastHeard_X3 hown hK hP q_64 hq_64 rfl 5 (by decide +kernel) (hts (.fieldLink RX9 53 "ShipOffice$Happening" "before" "LShipOffice$Happening;") iw_X9_lastHeard_4) (fun _ h9 => h9) (o_rd hb_82) dX9_lastHeard_71 ?_
                      have tb_81 : oty Z b_81 3 := oInv.rd gI tb_63.2 hb_82 rfl rfl
                      have hGb_81 : oG Z b_81 < oG Z b_63 := gI.2.2.2.2.2.1 b_63 b_81 tb_63.2 hb_82
                      have rb_81 : oR Z (some b_81) = oG Z b_81 + 1 := rfl
                      refine lv_astore (lv' := [(4, .ref b_81), (3, .int x_80), (0, .ref o), (1, .int x1), (2, .int x2)]) hx hb dX9_lastHeard_74 hl (by decide +kernel) rfl (fun ls hl => ?_)
                      refine lv_goto (tgt := 31) hx hb dX9_lastHeard_76 (by decide +kernel) ?_
                      exact ih (n - 1) (by omega) (some b_81) x_80 _ _ ls (by omega) (fun b h => by cases h; exact tb_81) hP hS (lv_sub hl [0, 1, 2, 3, 4] rfl)
        have kc_84 : ((-1) : Int32).toInt = -1 := by decide
        exact cut_60 (oR Z none) none (-1) _ _ ls (by omega) (fun b h => by cases h) hP hS (lv_sub hl [0, 1, 2, 3, 4] rfl)
      · refine va_get (D := (dC, dI)) (ci := 9) (v := .ref b_58) (C := RX9) (T := TX9) (N := 10) hx hb hts in_wsX9_lastHeard_X9 hown hK hP q_1 hq_1 rfl 9 (by decide +kernel) (hts (.fieldLink RX9 41 "ShipOffice$Voyage" "heardOf" "LShipOffice$Happening;") iw_X9_lastHeard_2) (fun _ h9 => h9) (o_rd hb_59) dX9_lastHeard_26 ?_
        have tb_58 : oty Z b_58 3 := oInv.rd gI to.2 hb_59 rfl rfl
        refine lv_astore (lv' := [(4, .ref b_58), (3, .int (-1)), (0, .ref o), (1, .int x1), (2, .int x2)]) hx hb dX9_lastHeard_29 hl (by decide +kernel) rfl (fun ls hl => ?_)
        have cut_85 : ∀ (n : Nat) (y_86 : Option Nat) (y_87 : Int32) (H : Heap) (locs : List Loc) (ls : Array Slot), (oR Z y_86 : Int) ≤ (n : Int) → (∀ b, y_86 = some b → oty Z b 3) → va_P (dC, dI) vwCl (oW cq Z) H → va_S A s.heap H locs → lv_has ls 5 [(4, va_rf y_86), (3, .int y_87), (0, .ref o), (1, .int x1), (2, .int x2)] → W p l e (headSpec wsX9_lastHeard { frames := 0, cells := 0, slots := 0, locals := 0 }).room s m #[Value.ref o, Value.int x1, Value.int x2] below meth c H locs 0 0 (MQ below (va_Qi (fun (r : Int32) (u : Unit) => True) (fun _ _ => True) A) #[Value.ref o, Value.int x1, Value.int x2] s 0 0 A) (F0 m 31 ls []) := by
          intro n
          induction n using Nat.strongRecOn with
          | ind n ih =>
            intro y_86 y_87 H locs ls hm ty_86 hP hS hl
            rcases y_86 with _ | b_88
            · have hl : lv_has ls 5 [(4, .null), (3, .int y_87), (0, .ref o), (1, .int x1), (2, .int x2)] := hl
              refine lv_aloadN hx hb dX9_lastHeard_31 (lv_at hl 0 rfl) ?_
              refine lv_ifnullN (tgt := 79) hx hb dX9_lastHeard_33 (by decide +kernel) ?_
              refine lv_iload_n hx hb dX9_lastHeard_79 rfl (lv_at hl 1 rfl) ?_
              exact W.iret (v := y_87) hx hb hr (fun t ht hW => ⟨⟨y_87, (), rfl, trivial, trivial⟩, hS.F ht⟩) hS.2.2 dX9_lastHeard_80
            · have hl : lv_has ls 5 [(4, .ref b_88), (3, .int y_87), (0, .ref o), (1, .int x1), (2, .int x2)] := hl
              have tb_88 : oty Z b_88 3 := ty_86 b_88 rfl
              have rb_88 : oR Z (some b_88) = oG Z b_88 + 1 := rfl
              refine lv_aload hx hb dX9_lastHeard_31 (lv_at hl 0 rfl) ?_
              refine lv_ifnull hx hb dX9_lastHeard_33 ?_
              refine lv_aload hx hb dX9_lastHeard_36 (lv_at hl 0 rfl) ?_
              obtain ⟨q_89, hq_89⟩ := og (cq := cq) tb_88.1 (oE_3 tb_88.2)
              refine va_get (D := (dC, dI)) (ci := 3) (v := .int (oI Z b_88 2)) (C := RX3) (T := TX3) (N := 6) hx hb hts in_wsX9_lastHeard_X3 hown hK hP q_89 hq_89 rfl 2 (by decide +kernel) (hts (.fieldLink RX9 45 "ShipOffice$Happening" "told" "I") iw_X9_lastHeard_3) (fun _ h9 => h9) rfl dX9_lastHeard_38 ?_
              refine lv_topi (fun x_90 ex_90 => ?_)
              clear ex_90
              refine lv_iload_n hx hb dX9_lastHeard_41 rfl (lv_at hl 4 rfl) ?_
              refine lv_icmp_gt (tgt := 69) hx hb dX9_lastHeard_42 (by decide +kernel) (fun c_91 => ?_) (fun c_91 => ?_)
              · have dc_91 := c_lt (a := x2.toInt) (b := x_90.toInt) rfl rfl c_91
                refine lv_aload hx hb dX9_lastHeard_69 (lv_at hl 0 rfl) ?_
                rcases hb_93 : oP Z b_88 5 with _ | b_92
                · refine va_get (D := (dC, dI)) (ci := 3) (v := .null) (C := RX3) (T := TX3) (N := 6) hx hb hts in_wsX9_lastHeard_X3 hown hK hP q_89 hq_89 rfl 5 (by decide +kernel) (hts (.fieldLink RX9 53 "ShipOffice$Happening" "before" "LShipOffice$Happening;") iw_X9_lastHeard_4) (fun _ h9 => h9) (o_rd hb_93) dX9_lastHeard_71 ?_
                  have r_94 : oR Z none = 0 := rfl
                  refine lv_astoreN (lv' := [(4, .null), (3, .int y_87), (0, .ref o), (1, .int x1), (2, .int x2)]) hx hb dX9_lastHeard_74 hl (by decide +kernel) rfl (fun ls hl => ?_)
                  refine lv_goto (tgt := 31) hx hb dX9_lastHeard_76 (by decide +kernel) ?_
                  exact ih (n - 1) (by omega) none y_87 _ _ ls (by omega) (fun b h => by cases h) hP hS (lv_sub hl [0, 1, 2, 3, 4] rfl)
                · refine va_get (D := (dC, dI)) (ci := 3) (v := .ref b_92) (C := RX3) (T := TX3) (N := 6) hx hb hts in_wsX9_lastHeard_X3 hown hK hP q_89 hq_89 rfl 5 (by decide +kernel) (hts (.fieldLink RX9 53 "ShipOffice$Happening" "before" "LShipOffice$Happening;") iw_X9_lastHeard_4) (fun _ h9 => h9) (o_rd hb_93) dX9_lastHeard_71 ?_
                  have tb_92 : oty Z b_92 3 := oInv.rd gI tb_88.2 hb_93 rfl rfl
                  have hGb_92 : oG Z b_92 < oG Z b_88 := gI.2.2.2.2.2.1 b_88 b_92 tb_88.2 hb_93
                  have rb_92 : oR Z (some b_92) = oG Z b_92 + 1 := rfl
                  refine lv_astore (lv' := [(4, .ref b_92), (3, .int y_87), (0, .ref o), (1, .int x1), (2, .int x2)]) hx hb dX9_lastHeard_74 hl (by decide +kernel) rfl (fun ls hl => ?_)
                  refine lv_goto (tgt := 31) hx hb dX9_lastHeard_76 (by decide +kernel) ?_
                  exact ih (n - 1) (by omega) (some b_92) y_87 _ _ ls (by omega) (fun b h => by cases h; exact tb_92) hP hS (lv_sub hl [0, 1, 2, 3, 4] rfl)
              · have dc_91 := c_nlt (a := x2.toInt) (b := x_90.toInt) rfl rfl c_91
                refine lv_aload hx hb dX9_lastHeard_45 (lv_at hl 0 rfl) ?_
                refine va_get (D := (dC, dI)) (ci := 3) (v := .int (oI Z b_88 1)) (C := RX3) (T := TX3) (N := 6) hx hb hts in_wsX9_lastHeard_X3 hown hK hP q_89 hq_89 rfl 1 (by decide +kernel) (hts (.fieldLink RX9 50 "ShipOffice$Happening" "day" "I") iw_X9_lastHeard_5) (fun _ h9 => h9) rfl dX9_lastHeard_47 ?_
                refine lv_topi (fun x_95 ex_95 => ?_)
                clear ex_95
                refine lv_iload_n hx hb dX9_lastHeard_50 rfl (lv_at hl 3 rfl) ?_
                refine lv_icmp_gt (tgt := 69) hx hb dX9_lastHeard_51 (by decide +kernel) (fun c_96 => ?_) (fun c_96 => ?_)
                · have dc_96 := c_lt (a := x1.toInt) (b := x_95.toInt) rfl rfl c_96
                  refine lv_aload hx hb dX9_lastHeard_69 (lv_at hl 0 rfl) ?_
                  rcases hb_98 : oP Z b_88 5 with _ | b_97
                  · refine va_get (D := (dC, dI)) (ci := 3) (v := .null) (C := RX3) (T := TX3) (N := 6) hx hb hts in_wsX9_lastHeard_X3 hown hK hP q_89 hq_89 rfl 5 (by decide +kernel) (hts (.fieldLink RX9 53 "ShipOffice$Happening" "before" "LShipOffice$Happening;") iw_X9_lastHeard_4) (fun _ h9 => h9) (o_rd hb_98) dX9_lastHeard_71 ?_
                    have r_99 : oR Z none = 0 := rfl
                    refine lv_astoreN (lv' := [(4, .null), (3, .int y_87), (0, .ref o), (1, .int x1), (2, .int x2)]) hx hb dX9_lastHeard_74 hl (by decide +kernel) rfl (fun ls hl => ?_)
                    refine lv_goto (tgt := 31) hx hb dX9_lastHeard_76 (by decide +kernel) ?_
                    exact ih (n - 1) (by omega) none y_87 _ _ ls (by omega) (fun b h => by cases h) hP hS (lv_sub hl [0, 1, 2, 3, 4] rfl)
                  · refine va_get (D := (dC, dI)) (ci := 3) (v := .ref b_97) (C := RX3) (T := TX3) (N := 6) hx hb hts in_wsX9_lastHeard_X3 hown hK hP q_89 hq_89 rfl 5 (by decide +kernel) (hts (.fieldLink RX9 53 "ShipOffice$Happening" "before" "LShipOffice$Happening;") iw_X9_lastHeard_4) (fun _ h9 => h9) (o_rd hb_98) dX9_lastHeard_71 ?_
                    have tb_97 : oty Z b_97 3 := oInv.rd gI tb_88.2 hb_98 rfl rfl
                    have hGb_97 : oG Z b_97 < oG Z b_88 := gI.2.2.2.2.2.1 b_88 b_97 tb_88.2 hb_98
                    have rb_97 : oR Z (some b_97) = oG Z b_97 + 1 := rfl
                    refine lv_astore (lv' := [(4, .ref b_97), (3, .int y_87), (0, .ref o), (1, .int x1), (2, .int x2)]) hx hb dX9_lastHeard_74 hl (by decide +kernel) rfl (fun ls hl => ?_)
                    refine lv_goto (tgt := 31) hx hb dX9_lastHeard_76 (by decide +kernel) ?_
                    exact ih (n - 1) (by omega) (some b_97) y_87 _ _ ls (by omega) (fun b h => by cases h; exact tb_97) hP hS (lv_sub hl [0, 1, 2, 3, 4] rfl)
                · have dc_96 := c_nlt (a := x1.toInt) (b := x_95.toInt) rfl rfl c_96
                  refine lv_aload hx hb dX9_lastHeard_54 (lv_at hl 0 rfl) ?_
                  refine va_get (D := (dC, dI)) (ci := 3) (v := .int (oI Z b_88 1)) (C := RX3) (T := TX3) (N := 6) hx hb hts in_wsX9_lastHeard_X3 hown hK hP q_89 hq_89 rfl 1 (by decide +kernel) (hts (.fieldLink RX9 50 "ShipOffice$Happening" "day" "I") iw_X9_lastHeard_5) (fun _ h9 => h9) rfl dX9_lastHeard_56 ?_
                  refine lv_topi (fun x_100 ex_100 => ?_)
                  clear ex_100
                  refine lv_iload_n hx hb dX9_lastHeard_59 rfl (lv_at hl 1 rfl) ?_
                  refine lv_icmp_le (tgt := 69) hx hb dX9_lastHeard_60 (by decide +kernel) (fun c_101 => ?_) (fun c_101 => ?_)
                  · have dc_101 := c_le (a := x_100.toInt) (b := y_87.toInt) rfl rfl c_101
                    refine lv_aload hx hb dX9_lastHeard_69 (lv_at hl 0 rfl) ?_
                    rcases hb_103 : oP Z b_88 5 with _ | b_102
                    · refine va_get (D := (dC, dI)) (ci := 3) (v := .null) (C := RX3) (T := TX3) (N := 6) hx hb hts in_wsX9_lastHeard_X3 hown hK hP q_89 hq_89 rfl 5 (by decide +kernel) (hts (.fieldLink RX9 53 "ShipOffice$Happening" "before" "LShipOffice$Happening;") iw_X9_lastHeard_4) (fun _ h9 => h9) (o_rd hb_103) dX9_lastHeard_71 ?_
                      have r_104 : oR Z none = 0 := rfl
                      refine lv_astoreN (lv' := [(4, .null), (3, .int y_87), (0, .ref o), (1, .int x1), (2, .int x2)]) hx hb dX9_lastHeard_74 hl (by decide +kernel) rfl (fun ls hl => ?_)
                      refine lv_goto (tgt := 31) hx hb dX9_lastHeard_76 (by decide +kernel) ?_
                      exact ih (n - 1) (by omega) none y_87 _ _ ls (by omega) (fun b h => by cases h) hP hS (lv_sub hl [0, 1, 2, 3, 4] rfl)
                    · refine va_get (D := (dC, dI)) (ci := 3) (v := .ref b_102) (C := RX3) (T := TX3) (N := 6) hx hb hts in_wsX9_lastHeard_X3 hown hK hP q_89 hq_89 rfl 5 (by decide +kernel) (hts (.fieldLink RX9 53 "ShipOffice$Happening" "before" "LShipOffice$Happening;") iw_X9_lastHeard_4) (fun _ h9 => h9) (o_rd hb_103) dX9_lastHeard_71 ?_
                      have tb_102 : oty Z b_102 3 := oInv.rd gI tb_88.2 hb_103 rfl rfl
                      have hGb_102 : oG Z b_102 < oG Z b_88 := gI.2.2.2.2.2.1 b_88 b_102 tb_88.2 hb_103
                      have rb_102 : oR Z (some b_102) = oG Z b_102 + 1 := rfl
                      refine lv_astore (lv' := [(4, .ref b_102), (3, .int y_87), (0, .ref o), (1, .int x1), (2, .int x2)]) hx hb dX9_lastHeard_74 hl (by decide +kernel) rfl (fun ls hl => ?_)
                      refine lv_goto (tgt := 31) hx hb dX9_lastHeard_76 (by decide +kernel) ?_
                      exact ih (n - 1) (by omega) (some b_102) y_87 _ _ ls (by omega) (fun b h => by cases h; exact tb_102) hP hS (lv_sub hl [0, 1, 2, 3, 4] rfl)
                  · have dc_101 := c_nle (a := x_100.toInt) (b := y_87.toInt) rfl rfl c_101
                    refine lv_aload hx hb dX9_lastHeard_63 (lv_at hl 0 rfl) ?_
                    refine va_get (D := (dC, dI)) (ci := 3) (v := .int (oI Z b_88 1)) (C := RX3) (T := TX3) (N := 6) hx hb hts in_wsX9_lastHeard_X3 hown hK hP q_89 hq_89 rfl 1 (by decide +kernel) (hts (.fieldLink RX9 50 "ShipOffice$Happening" "day" "I") iw_X9_lastHeard_5) (fun _ h9 => h9) rfl dX9_lastHeard_65 ?_
                    refine lv_topi (fun x_105 ex_105 => ?_)
                    clear ex_105
                    refine lv_istore_n (lv' := [(3, .int x_105), (4, .ref b_88), (0, .ref o), (1, .int x1), (2, .int x2)]) hx hb dX9_lastHeard_68 rfl hl (by decide +kernel) rfl (fun ls hl => ?_)
                    refine lv_aload hx hb dX9_lastHeard_69 (lv_at hl 1 rfl) ?_
                    rcases hb_107 : oP Z b_88 5 with _ | b_106
                    · refine va_get (D := (dC, dI)) (ci := 3) (v := .null) (C := RX3) (T := TX3) (N := 6) hx hb hts in_wsX9_lastHeard_X3 hown hK hP q_89 hq_89 rfl 5 (by decide +kernel) (hts (.fieldLink RX9 53 "ShipOffice$Happening" "before" "LShipOffice$Happening;") iw_X9_lastHeard_4) (fun _ h9 => h9) (o_rd hb_107) dX9_lastHeard_71 ?_
                      have r_108 : oR Z none = 0 := rfl
                      refine lv_astoreN (lv' := [(4, .null), (3, .int x_105), (0, .ref o), (1, .int x1), (2, .int x2)]) hx hb dX9_lastHeard_74 hl (by decide +kernel) rfl (fun ls hl => ?_)
                      refine lv_goto (tgt := 31) hx hb dX9_lastHeard_76 (by decide +kernel) ?_
                      exact ih (n - 1) (by omega) none x_105 _ _ ls (by omega) (fun b h => by cases h) hP hS (lv_sub hl [0, 1, 2, 3, 4] rfl)
                    · refine va_get (D := (dC, dI)) (ci := 3) (v := .ref b_106) (C := RX3) (T := TX3) (N := 6) hx hb hts in_wsX9_lastHeard_X3 hown hK hP q_89 hq_89 rfl 5 (by decide +kernel) (hts (.fieldLink RX9 53 "ShipOffice$Happening" "before" "LShipOffice$Happening;") iw_X9_lastHeard_4) (fun _ h9 => h9) (o_rd hb_107) dX9_lastHeard_71 ?_
                      have tb_106 : oty Z b_106 3 := oInv.rd gI tb_88.2 hb_107 rfl rfl
                      have hGb_106 : oG Z b_106 < oG Z b_88 := gI.2.2.2.2.2.1 b_88 b_106 tb_88.2 hb_107
                      have rb_106 : oR Z (some b_106) = oG Z b_106 + 1 := rfl
                      refine lv_astore (lv' := [(4, .ref b_106), (3, .int x_105), (0, .ref o), (1, .int x1), (2, .int x2)]) hx hb dX9_lastHeard_74 hl (by decide +kernel) rfl (fun ls hl => ?_)
                      refine lv_goto (tgt := 31) hx hb dX9_lastHeard_76 (by decide +kernel) ?_
                      exact ih (n - 1) (by omega) (some b_106) x_105 _ _ ls (by omega) (fun b h => by cases h; exact tb_106) hP hS (lv_sub hl [0, 1, 2, 3, 4] rfl)
        have kc_109 : ((-1) : Int32).toInt = -1 := by decide
        exact cut_85 (oR Z (some b_58)) (some b_58) (-1) _ _ ls (by omega) (fun b h => by cases h; exact tb_58) hP hS (lv_sub hl [0, 1, 2, 3, 4] rfl)
    · have dc_57 := c_nlt (a := x1.toInt) (b := x_56.toInt) rfl rfl c_57
      refine lv_aload_n hx hb dX9_lastHeard_16 rfl (lv_at hl 0 rfl) ?_
      refine va_get (D := (dC, dI)) (ci := 9) (v := .int (oI Z o 5)) (C := RX9) (T := TX9) (N := 10) hx hb hts in_wsX9_lastHeard_X9 hown hK hP q_1 hq_1 rfl 5 (by decide +kernel) (hts (.fieldLink RX9 10 "ShipOffice$Voyage" "sailedDay" "I") iw_X9_lastHeard_6) (fun _ h9 => h9) rfl dX9_lastHeard_17 ?_
      refine lv_topi (fun x_110 ex_110 => ?_)
      have hx_110 : 0 ≤ x_110.toInt ∧ x_110.toInt ≤ 1000000 := iv_of ex_110 (oInv.iv gI to.2 rfl rfl)
      have gx_110 : x_110.toInt = (oI Z o 5).toInt := iv_to ex_110
      clear ex_110
      refine lv_goto (tgt := 24) hx hb dX9_lastHeard_20 (by decide +kernel) ?_
      refine lv_istore_n (lv' := [(3, .int x_110), (0, .ref o), (1, .int x1), (2, .int x2)]) hx hb dX9_lastHeard_24 rfl hl (by decide +kernel) rfl (fun ls hl => ?_)
      refine lv_aload_n hx hb dX9_lastHeard_25 rfl (lv_at hl 1 rfl) ?_
      rcases hb_112 : oP Z o 9 with _ | b_111
      · refine va_get (D := (dC, dI)) (ci := 9) (v := .null) (C := RX9) (T := TX9) (N := 10) hx hb hts in_wsX9_lastHeard_X9 hown hK hP q_1 hq_1 rfl 9 (by decide +kernel) (hts (.fieldLink RX9 41 "ShipOffice$Voyage" "heardOf" "LShipOffice$Happening;") iw_X9_lastHeard_2) (fun _ h9 => h9) (o_rd hb_112) dX9_lastHeard_26 ?_
        refine lv_astoreN (lv' := [(4, .null), (3, .int x_110), (0, .ref o), (1, .int x1), (2, .int x2)]) hx hb dX9_lastHeard_29 hl (by decide +kernel) rfl (fun ls hl => ?_)
        have cut_113 : ∀ (n : Nat) (y_114 : Option Nat) (y_115 : Int32) (H : Heap) (locs : List Loc) (ls : Array Slot), (oR Z y_114 : Int) ≤ (n : Int) → (∀ b, y_114 = some b → oty Z b 3) → va_P (dC, dI) vwCl (oW cq Z) H → va_S A s.heap H locs → lv_has ls 5 [(4, va_rf y_114), (3, .int y_115), (0, .ref o), (1, .int x1), (2, .int x2)] → W p l e (headSpec wsX9_lastHeard { frames := 0, cells := 0, slots := 0, locals := 0 }).room s m #[Value.ref o, Value.int x1, Value.int x2] below meth c H locs 0 0 (MQ below (va_Qi (fun (r : Int32) (u : Unit) => True) (fun _ _ => True) A) #[Value.ref o, Value.int x1, Value.int x2] s 0 0 A) (F0 m 31 ls []) := by
          intro n
          induction n using Nat.strongRecOn with
          | ind n ih =>
            intro y_114 y_115 H locs ls hm ty_114 hP hS hl
            rcases y_114 with _ | b_116
            · have hl : lv_has ls 5 [(4, .null), (3, .int y_115), (0, .ref o), (1, .int x1), (2, .int x2)] := hl
              refine lv_aloadN hx hb dX9_lastHeard_31 (lv_at hl 0 rfl) ?_
              refine lv_ifnullN (tgt := 79) hx hb dX9_lastHeard_33 (by decide +kernel) ?_
              refine lv_iload_n hx hb dX9_lastHeard_79 rfl (lv_at hl 1 rfl) ?_
              exact W.iret (v := y_115) hx hb hr (fun t ht hW => ⟨⟨y_115, (), rfl, trivial, trivial⟩, hS.F ht⟩) hS.2.2 dX9_lastHeard_80
            · have hl : lv_has ls 5 [(4, .ref b_116), (3, .int y_115), (0, .ref o), (1, .int x1), (2, .int x2)] := hl
              have tb_116 : oty Z b_116 3 := ty_114 b_116 rfl
              have rb_116 : oR Z (some b_116) = oG Z b_116 + 1 := rfl
              refine lv_aload hx hb dX9_lastHeard_31 (lv_at hl 0 rfl) ?_
              refine lv_ifnull hx hb dX9_lastHeard_33 ?_
              refine lv_aload hx hb dX9_lastHeard_36 (lv_at hl 0 rfl) ?_
              obtain ⟨q_117, hq_117⟩ := og (cq := cq) tb_116.1 (oE_3 tb_116.2)
              refine va_get (D := (dC, dI)) (ci := 3) (v := .int (oI Z b_116 2)) (C := RX3) (T := TX3) (N := 6) hx hb hts in_wsX9_lastHeard_X3 hown hK hP q_117 hq_117 rfl 2 (by decide +kernel) (hts (.fieldLink RX9 45 "ShipOffice$Happening" "told" "I") iw_X9_lastHeard_3) (fun _ h9 => h9) rfl dX9_lastHeard_38 ?_
              refine lv_topi (fun x_118 ex_118 => ?_)
              clear ex_118
              refine lv_iload_n hx hb dX9_lastHeard_41 rfl (lv_at hl 4 rfl) ?_
              refine lv_icmp_gt (tgt := 69) hx hb dX9_lastHeard_42 (by decide +kernel) (fun c_119 => ?_) (fun c_119 => ?_)
              · have dc_119 := c_lt (a := x2.toInt) (b := x_118.toInt) rfl rfl c_119
                refine lv_aload hx hb dX9_lastHeard_69 (lv_at hl 0 rfl) ?_
                rcases hb_121 : oP Z b_116 5 with _ | b_120
                · refine va_get (D := (dC, dI)) (ci := 3) (v := .null) (C := RX3) (T := TX3) (N := 6) hx hb hts in_wsX9_lastHeard_X3 hown hK hP q_117 hq_117 rfl 5 (by decide +kernel) (hts (.fieldLink RX9 53 "ShipOffice$Happening" "before" "LShipOffice$Happening;") iw_X9_lastHeard_4) (fun _ h9 => h9) (o_rd hb_121) dX9_lastHeard_71 ?_
                  have r_122 : oR Z none = 0 := rfl
                  refine lv_astoreN (lv' := [(4, .null), (3, .int y_115), (0, .ref o), (1, .int x1), (2, .int x2)]) hx hb dX9_lastHeard_74 hl (by decide +kernel) rfl (fun ls hl => ?_)
                  refine lv_goto (tgt := 31) hx hb dX9_lastHeard_76 (by decide +kernel) ?_
                  exact ih (n - 1) (by omega) none y_115 _ _ ls (by omega) (fun b h => by cases h) hP hS (lv_sub hl [0, 1, 2, 3, 4] rfl)
                · refine va_get (D := (dC, dI)) (ci := 3) (v := .ref b_120) (C := RX3) (T := TX3) (N := 6) hx hb hts in_wsX9_lastHeard_X3 hown hK hP q_117 hq_117 rfl 5 (by decide +kernel) (hts (.fieldLink RX9 53 "ShipOffice$Happening" "before" "LShipOffice$Happening;") iw_X9_lastHeard_4) (fun _ h9 => h9) (o_rd hb_121) dX9_lastHeard_71 ?_
                  have tb_120 : oty Z b_120 3 := oInv.rd gI tb_116.2 hb_121 rfl rfl
                  have hGb_120 : oG Z b_120 < oG Z b_116 := gI.2.2.2.2.2.1 b_116 b_120 tb_116.2 hb_121
                  have rb_120 : oR Z (some b_120) = oG Z b_120 + 1 := rfl
                  refine lv_astore (lv' := [(4, .ref b_120), (3, .int y_115), (0, .ref o), (1, .int x1), (2, .int x2)]) hx hb dX9_lastHeard_74 hl (by decide +kernel) rfl (fun ls hl => ?_)
                  refine lv_goto (tgt := 31) hx hb dX9_lastHeard_76 (by decide +kernel) ?_
                  exact ih (n - 1) (by omega) (some b_120) y_115 _ _ ls (by omega) (fun b h => by cases h; exact tb_120) hP hS (lv_sub hl [0, 1, 2, 3, 4] rfl)
              · have dc_119 := c_nlt (a := x2.toInt) (b := x_118.toInt) rfl rfl c_119
                refine lv_aload hx hb dX9_lastHeard_45 (lv_at hl 0 rfl) ?_
                refine va_get (D := (dC, dI)) (ci := 3) (v := .int (oI Z b_116 1)) (C := RX3) (T := TX3) (N := 6) hx hb hts in_wsX9_lastHeard_X3 hown hK hP q_117 hq_117 rfl 1 (by decide +kernel) (hts (.fieldLink RX9 50 "ShipOffice$Happening" "day" "I") iw_X9_lastHeard_5) (fun _ h9 => h9) rfl dX9_lastHeard_47 ?_
                refine lv_topi (fun x_123 ex_123 => ?_)
                clear ex_123
                refine lv_iload_n hx hb dX9_lastHeard_50 rfl (lv_at hl 3 rfl) ?_
                refine lv_icmp_gt (tgt := 69) hx hb dX9_lastHeard_51 (by decide +kernel) (fun c_124 => ?_) (fun c_124 => ?_)
                · have dc_124 := c_lt (a := x1.toInt) (b := x_123.toInt) rfl rfl c_124
                  refine lv_aload hx hb dX9_lastHeard_69 (lv_at hl 0 rfl) ?_
                  rcases hb_126 : oP Z b_116 5 with _ | b_125
                  · refine va_get (D := (dC, dI)) (ci := 3) (v := .null) (C := RX3) (T := TX3) (N := 6) hx hb hts in_wsX9_lastHeard_X3 hown hK hP q_117 hq_117 rfl 5 (by decide +kernel) (hts (.fieldLink RX9 53 "ShipOffice$Happening" "before" "LShipOffice$Happening;") iw_X9_lastHeard_4) (fun _ h9 => h9) (o_rd hb_126) dX9_lastHeard_71 ?_
                    have r_127 : oR Z none = 0 := rfl
                    refine lv_astoreN (lv' := [(4, .null), (3, .int y_115), (0, .ref o), (1, .int x1), (2, .int x2)]) hx hb dX9_lastHeard_74 hl (by decide +kernel) rfl (fun ls hl => ?_)
                    refine lv_goto (tgt := 31) hx hb dX9_lastHeard_76 (by decide +kernel) ?_
                    exact ih (n - 1) (by omega) none y_115 _ _ ls (by omega) (fun b h => by cases h) hP hS (lv_sub hl [0, 1, 2, 3, 4] rfl)
                  · refine va_get (D := (dC, dI)) (ci := 3) (v := .ref b_125) (C := RX3) (T := TX3) (N := 6) hx hb hts in_wsX9_lastHeard_X3 hown hK hP q_117 hq_117 rfl 5 (by decide +kernel) (hts (.fieldLink RX9 53 "ShipOffice$Happening" "before" "LShipOffice$Happening;") iw_X9_lastHeard_4) (fun _ h9 => h9) (o_rd hb_126) dX9_lastHeard_71 ?_
                    have tb_125 : oty Z b_125 3 := oInv.rd gI tb_116.2 hb_126 rfl rfl
                    have hGb_125 : oG Z b_125 < oG Z b_116 := gI.2.2.2.2.2.1 b_116 b_125 tb_116.2 hb_126
                    have rb_125 : oR Z (some b_125) = oG Z b_125 + 1 := rfl
                    refine lv_astore (lv' := [(4, .ref b_125), (3, .int y_115), (0, .ref o), (1, .int x1), (2, .int x2)]) hx hb dX9_lastHeard_74 hl (by decide +kernel) rfl (fun ls hl => ?_)
                    refine lv_goto (tgt := 31) hx hb dX9_lastHeard_76 (by decide +kernel) ?_
                    exact ih (n - 1) (by omega) (some b_125) y_115 _ _ ls (by omega) (fun b h => by cases h; exact tb_125) hP hS (lv_sub hl [0, 1, 2, 3, 4] rfl)
                · have dc_124 := c_nlt (a := x1.toInt) (b := x_123.toInt) rfl rfl c_124
                  refine lv_aload hx hb dX9_lastHeard_54 (lv_at hl 0 rfl) ?_
                  refine va_get (D := (dC, dI)) (ci := 3) (v := .int (oI Z b_116 1)) (C := RX3) (T := TX3) (N := 6) hx hb hts in_wsX9_lastHeard_X3 hown hK hP q_117 hq_117 rfl 1 (by decide +kernel) (hts (.fieldLink RX9 50 "ShipOffice$Happening" "day" "I") iw_X9_lastHeard_5) (fun _ h9 => h9) rfl dX9_lastHeard_56 ?_
                  refine lv_topi (fun x_128 ex_128 => ?_)
                  clear ex_128
                  refine lv_iload_n hx hb dX9_lastHeard_59 rfl (lv_at hl 1 rfl) ?_
                  refine lv_icmp_le (tgt := 69) hx hb dX9_lastHeard_60 (by decide +kernel) (fun c_129 => ?_) (fun c_129 => ?_)
                  · have dc_129 := c_le (a := x_128.toInt) (b := y_115.toInt) rfl rfl c_129
                    refine lv_aload hx hb dX9_lastHeard_69 (lv_at hl 0 rfl) ?_
                    rcases hb_131 : oP Z b_116 5 with _ | b_130
                    · refine va_get (D := (dC, dI)) (ci := 3) (v := .null) (C := RX3) (T := TX3) (N := 6) hx hb hts in_wsX9_lastHeard_X3 hown hK hP q_117 hq_117 rfl 5 (by decide +kernel) (hts (.fieldLink RX9 53 "ShipOffice$Happening" "before" "LShipOffice$Happening;") iw_X9_lastHeard_4) (fun _ h9 => h9) (o_rd hb_131) dX9_lastHeard_71 ?_
                      have r_132 : oR Z none = 0 := rfl
                      refine lv_astoreN (lv' := [(4, .null), (3, .int y_115), (0, .ref o), (1, .int x1), (2, .int x2)]) hx hb dX9_lastHeard_74 hl (by decide +kernel) rfl (fun ls hl => ?_)
                      refine lv_goto (tgt := 31) hx hb dX9_lastHeard_76 (by decide +kernel) ?_
                      exact ih (n - 1) (by omega) none y_115 _ _ ls (by omega) (fun b h => by cases h) hP hS (lv_sub hl [0, 1, 2, 3, 4] rfl)
                    · refine va_get (D := (dC, dI)) (ci := 3) (v := .ref b_130) (C := RX3) (T := TX3) (N := 6) hx hb hts in_wsX9_lastHeard_X3 hown hK hP q_117 hq_117 rfl 5 (by decide +kernel) (hts (.fieldLink RX9 53 "ShipOffice$Happening" "before" "LShipOffice$Happening;") iw_X9_lastHeard_4) (fun _ h9 => h9) (o_rd hb_131) dX9_lastHeard_71 ?_
                      have tb_130 : oty Z b_130 3 := oInv.rd gI tb_116.2 hb_131 rfl rfl
                      have hGb_130 : oG Z b_130 < oG Z b_116 := gI.2.2.2.2.2.1 b_116 b_130 tb_116.2 hb_131
                      have rb_130 : oR Z (some b_130) = oG Z b_130 + 1 := rfl
                      refine lv_astore (lv' := [(4, .ref b_130), (3, .int y_115), (0, .ref o), (1, .int x1), (2, .int x2)]) hx hb dX9_lastHeard_74 hl (by decide +kernel) rfl (fun ls hl => ?_)
                      refine lv_goto (tgt := 31) hx hb dX9_lastHeard_76 (by decide +kernel) ?_
                      exact ih (n - 1) (by omega) (some b_130) y_115 _ _ ls (by omega) (fun b h => by cases h; exact tb_130) hP hS (lv_sub hl [0, 1, 2, 3, 4] rfl)
                  · have dc_129 := c_nle (a := x_128.toInt) (b := y_115.toInt) rfl rfl c_129
                    refine lv_aload hx hb dX9_lastHeard_63 (lv_at hl 0 rfl) ?_
                    refine va_get (D := (dC, dI)) (ci := 3) (v := .int (oI Z b_116 1)) (C := RX3) (T := TX3) (N := 6) hx hb hts in_wsX9_lastHeard_X3 hown hK hP q_117 hq_117 rfl 1 (by decide +kernel) (hts (.fieldLink RX9 50 "ShipOffice$Happening" "day" "I") iw_X9_lastHeard_5) (fun _ h9 => h9) rfl dX9_lastHeard_65 ?_
                    refine lv_topi (fun x_133 ex_133 => ?_)
                    clear ex_133
                    refine lv_istore_n (lv' := [(3, .int x_133), (4, .ref b_116), (0, .ref o), (1, .int x1), (2, .int x2)]) hx hb dX9_lastHeard_68 rfl hl (by decide +kernel) rfl (fun ls hl => ?_)
                    refine lv_aload hx hb dX9_lastHeard_69 (lv_at hl 1 rfl) ?_
                    rcases hb_135 : oP Z b_116 5 with _ | b_134
                    · refine va_get (D := (dC, dI)) (ci := 3) (v := .null) (C := RX3) (T := TX3) (N := 6) hx hb hts in_wsX9_lastHeard_X3 hown hK hP q_117 hq_117 rfl 5 (by decide +kernel) (hts (.fieldLink RX9 53 "ShipOffice$Happening" "before" "LShipOffice$Happening;") iw_X9_lastHeard_4) (fun _ h9 => h9) (o_rd hb_135) dX9_lastHeard_71 ?_
                      have r_136 : oR Z none = 0 := rfl
                      refine lv_astoreN (lv' := [(4, .null), (3, .int x_133), (0, .ref o), (1, .int x1), (2, .int x2)]) hx hb dX9_lastHeard_74 hl (by decide +kernel) rfl (fun ls hl => ?_)
                      refine lv_goto (tgt := 31) hx hb dX9_lastHeard_76 (by decide +kernel) ?_
                      exact ih (n - 1) (by omega) none x_133 _ _ ls (by omega) (fun b h => by cases h) hP hS (lv_sub hl [0, 1, 2, 3, 4] rfl)
                    · refine va_get (D := (dC, dI)) (ci := 3) (v := .ref b_134) (C := RX3) (T := TX3) (N := 6) hx hb hts in_wsX9_lastHeard_X3 hown hK hP q_117 hq_117 rfl 5 (by decide +kernel) (hts (.fieldLink RX9 53 "ShipOffice$Happening" "before" "LShipOffice$Happening;") iw_X9_lastHeard_4) (fun _ h9 => h9) (o_rd hb_135) dX9_lastHeard_71 ?_
                      have tb_134 : oty Z b_134 3 := oInv.rd gI tb_116.2 hb_135 rfl rfl
                      have hGb_134 : oG Z b_134 < oG Z b_116 := gI.2.2.2.2.2.1 b_116 b_134 tb_116.2 hb_135
                      have rb_134 : oR Z (some b_134) = oG Z b_134 + 1 := rfl
                      refine lv_astore (lv' := [(4, .ref b_134), (3, .int x_133), (0, .ref o), (1, .int x1), (2, .int x2)]) hx hb dX9_lastHeard_74 hl (by decide +kernel) rfl (fun ls hl => ?_)
                      refine lv_goto (tgt := 31) hx hb dX9_lastHeard_76 (by decide +kernel) ?_
                      exact ih (n - 1) (by omega) (some b_134) x_133 _ _ ls (by omega) (fun b h => by cases h; exact tb_134) hP hS (lv_sub hl [0, 1, 2, 3, 4] rfl)
        exact cut_113 (oR Z none) none x_110 _ _ ls (by omega) (fun b h => by cases h) hP hS (lv_sub hl [0, 1, 2, 3, 4] rfl)
      · refine va_get (D := (dC, dI)) (ci := 9) (v := .ref b_111) (C := RX9) (T := TX9) (N := 10) hx hb hts in_wsX9_lastHeard_X9 hown hK hP q_1 hq_1 rfl 9 (by decide +kernel) (hts (.fieldLink RX9 41 "ShipOffice$Voyage" "heardOf" "LShipOffice$Happening;") iw_X9_lastHeard_2) (fun _ h9 => h9) (o_rd hb_112) dX9_lastHeard_26 ?_
        have tb_111 : oty Z b_111 3 := oInv.rd gI to.2 hb_112 rfl rfl
        refine lv_astore (lv' := [(4, .ref b_111), (3, .int x_110), (0, .ref o), (1, .int x1), (2, .int x2)]) hx hb dX9_lastHeard_29 hl (by decide +kernel) rfl (fun ls hl => ?_)
        have cut_137 : ∀ (n : Nat) (y_138 : Option Nat) (y_139 : Int32) (H : Heap) (locs : List Loc) (ls : Array Slot), (oR Z y_138 : Int) ≤ (n : Int) → (∀ b, y_138 = some b → oty Z b 3) → va_P (dC, dI) vwCl (oW cq Z) H → va_S A s.heap H locs → lv_has ls 5 [(4, va_rf y_138), (3, .int y_139), (0, .ref o), (1, .int x1), (2, .int x2)] → W p l e (headSpec wsX9_lastHeard { frames := 0, cells := 0, slots := 0, locals := 0 }).room s m #[Value.ref o, Value.int x1, Value.int x2] below meth c H locs 0 0 (MQ below (va_Qi (fun (r : Int32) (u : Unit) => True) (fun _ _ => True) A) #[Value.ref o, Value.int x1, Value.int x2] s 0 0 A) (F0 m 31 ls []) := by
          intro n
          induction n using Nat.strongRecOn with
          | ind n ih =>
            intro y_138 y_139 H locs ls hm ty_138 hP hS hl
            rcases y_138 with _ | b_140
            · have hl : lv_has ls 5 [(4, .null), (3, .int y_139), (0, .ref o), (1, .int x1), (2, .int x2)] := hl
              refine lv_aloadN hx hb dX9_lastHeard_31 (lv_at hl 0 rfl) ?_
              refine lv_ifnullN (tgt := 79) hx hb dX9_lastHeard_33 (by decide +kernel) ?_
              refine lv_iload_n hx hb dX9_lastHeard_79 rfl (lv_at hl 1 rfl) ?_
              exact W.iret (v := y_139) hx hb hr (fun t ht hW => ⟨⟨y_139, (), rfl, trivial, trivial⟩, hS.F ht⟩) hS.2.2 dX9_lastHeard_80
            · have hl : lv_has ls 5 [(4, .ref b_140), (3, .int y_139), (0, .ref o), (1, .int x1), (2, .int x2)] := hl
              have tb_140 : oty Z b_140 3 := ty_138 b_140 rfl
              have rb_140 : oR Z (some b_140) = oG Z b_140 + 1 := rfl
              refine lv_aload hx hb dX9_lastHeard_31 (lv_at hl 0 rfl) ?_
              refine lv_ifnull hx hb dX9_lastHeard_33 ?_
              refine lv_aload hx hb dX9_lastHeard_36 (lv_at hl 0 rfl) ?_
              obtain ⟨q_141, hq_141⟩ := og (cq := cq) tb_140.1 (oE_3 tb_140.2)
              refine va_get (D := (dC, dI)) (ci := 3) (v := .int (oI Z b_140 2)) (C := RX3) (T := TX3) (N := 6) hx hb hts in_wsX9_lastHeard_X3 hown hK hP q_141 hq_141 rfl 2 (by decide +kernel) (hts (.fieldLink RX9 45 "ShipOffice$Happening" "told" "I") iw_X9_lastHeard_3) (fun _ h9 => h9) rfl dX9_lastHeard_38 ?_
              refine lv_topi (fun x_142 ex_142 => ?_)
              clear ex_142
              refine lv_iload_n hx hb dX9_lastHeard_41 rfl (lv_at hl 4 rfl) ?_
              refine lv_icmp_gt (tgt := 69) hx hb dX9_lastHeard_42 (by decide +kernel) (fun c_143 => ?_) (fun c_143 => ?_)
              · have dc_143 := c_lt (a := x2.toInt) (b := x_142.toInt) rfl rfl c_143
                refine lv_aload hx hb dX9_lastHeard_69 (lv_at hl 0 rfl) ?_
                rcases hb_145 : oP Z b_140 5 with _ | b_144
                · refine va_get (D := (dC, dI)) (ci := 3) (v := .null) (C := RX3) (T := TX3) (N := 6) hx hb hts in_wsX9_lastHeard_X3 hown hK hP q_141 hq_141 rfl 5 (by decide +kernel) (hts (.fieldLink RX9 53 "ShipOffice$Happening" "before" "LShipOffice$Happening;") iw_X9_lastHeard_4) (fun _ h9 => h9) (o_rd hb_145) dX9_lastHeard_71 ?_
                  have r_146 : oR Z none = 0 := rfl
                  refine lv_astoreN (lv' := [(4, .null), (3, .int y_139), (0, .ref o), (1, .int x1), (2, .int x2)]) hx hb dX9_lastHeard_74 hl (by decide +kernel) rfl (fun ls hl => ?_)
                  refine lv_goto (tgt := 31) hx hb dX9_lastHeard_76 (by decide +kernel) ?_
                  exact ih (n - 1) (by omega) none y_139 _ _ ls (by omega) (fun b h => by cases h) hP hS (lv_sub hl [0, 1, 2, 3, 4] rfl)
                · refine va_get (D := (dC, dI)) (ci := 3) (v := .ref b_144) (C := RX3) (T := TX3) (N := 6) hx hb hts in_wsX9_lastHeard_X3 hown hK hP q_141 hq_141 rfl 5 (by decide +kernel) (hts (.fieldLink RX9 53 "ShipOffice$Happening" "before" "LShipOffice$Happening;") iw_X9_lastHeard_4) (fun _ h9 => h9) (o_rd hb_145) dX9_lastHeard_71 ?_
                  have tb_144 : oty Z b_144 3 := oInv.rd gI tb_140.2 hb_145 rfl rfl
                  have hGb_144 : oG Z b_144 < oG Z b_140 := gI.2.2.2.2.2.1 b_140 b_144 tb_140.2 hb_145
                  have rb_144 : oR Z (some b_144) = oG Z b_144 + 1 := rfl
                  refine lv_astore (lv' := [(4, .ref b_144), (3, .int y_139), (0, .ref o), (1, .int x1), (2, .int x2)]) hx hb dX9_lastHeard_74 hl (by decide +kernel) rfl (fun ls hl => ?_)
                  refine lv_goto (tgt := 31) hx hb dX9_lastHeard_76 (by decide +kernel) ?_
                  exact ih (n - 1) (by omega) (some b_144) y_139 _ _ ls (by omega) (fun b h => by cases h; exact tb_144) hP hS (lv_sub hl [0, 1, 2, 3, 4] rfl)
              · have dc_143 := c_nlt (a := x2.toInt) (b := x_142.toInt) rfl rfl c_143
                refine lv_aload hx hb dX9_lastHeard_45 (lv_at hl 0 rfl) ?_
                refine va_get (D := (dC, dI)) (ci := 3) (v := .int (oI Z b_140 1)) (C := RX3) (T := TX3) (N := 6) hx hb hts in_wsX9_lastHeard_X3 hown hK hP q_141 hq_141 rfl 1 (by decide +kernel) (hts (.fieldLink RX9 50 "ShipOffice$Happening" "day" "I") iw_X9_lastHeard_5) (fun _ h9 => h9) rfl dX9_lastHeard_47 ?_
                refine lv_topi (fun x_147 ex_147 => ?_)
                clear ex_147
                refine lv_iload_n hx hb dX9_lastHeard_50 rfl (lv_at hl 3 rfl) ?_
                refine lv_icmp_gt (tgt := 69) hx hb dX9_lastHeard_51 (by decide +kernel) (fun c_148 => ?_) (fun c_148 => ?_)
                · have dc_148 := c_lt (a := x1.toInt) (b := x_147.toInt) rfl rfl c_148
                  refine lv_aload hx hb dX9_lastHeard_69 (lv_at hl 0 rfl) ?_
                  rcases hb_150 : oP Z b_140 5 with _ | b_149
                  · refine va_get (D := (dC, dI)) (ci := 3) (v := .null) (C := RX3) (T := TX3) (N := 6) hx hb hts in_wsX9_lastHeard_X3 hown hK hP q_141 hq_141 rfl 5 (by decide +kernel) (hts (.fieldLink RX9 53 "ShipOffice$Happening" "before" "LShipOffice$Happening;") iw_X9_lastHeard_4) (fun _ h9 => h9) (o_rd hb_150) dX9_lastHeard_71 ?_
                    have r_151 : oR Z none = 0 := rfl
                    refine lv_astoreN (lv' := [(4, .null), (3, .int y_139), (0, .ref o), (1, .int x1), (2, .int x2)]) hx hb dX9_lastHeard_74 hl (by decide +kernel) rfl (fun ls hl => ?_)
                    refine lv_goto (tgt := 31) hx hb dX9_lastHeard_76 (by decide +kernel) ?_
                    exact ih (n - 1) (by omega) none y_139 _ _ ls (by omega) (fun b h => by cases h) hP hS (lv_sub hl [0, 1, 2, 3, 4] rfl)
                  · refine va_get (D := (dC, dI)) (ci := 3) (v := .ref b_149) (C := RX3) (T := TX3) (N := 6) hx hb hts in_wsX9_lastHeard_X3 hown hK hP q_141 hq_141 rfl 5 (by decide +kernel) (hts (.fieldLink RX9 53 "ShipOffice$Happening" "before" "LShipOffice$Happening;") iw_X9_lastHeard_4) (fun _ h9 => h9) (o_rd hb_150) dX9_lastHeard_71 ?_
                    have tb_149 : oty Z b_149 3 := oInv.rd gI tb_140.2 hb_150 rfl rfl
                    have hGb_149 : oG Z b_149 < oG Z b_140 := gI.2.2.2.2.2.1 b_140 b_149 tb_140.2 hb_150
                    have rb_149 : oR Z (some b_149) = oG Z b_149 + 1 := rfl
                    refine lv_astore (lv' := [(4, .ref b_149), (3, .int y_139), (0, .ref o), (1, .int x1), (2, .int x2)]) hx hb dX9_lastHeard_74 hl (by decide +kernel) rfl (fun ls hl => ?_)
                    refine lv_goto (tgt := 31) hx hb dX9_lastHeard_76 (by decide +kernel) ?_
                    exact ih (n - 1) (by omega) (some b_149) y_139 _ _ ls (by omega) (fun b h => by cases h; exact tb_149) hP hS (lv_sub hl [0, 1, 2, 3, 4] rfl)
                · have dc_148 := c_nlt (a := x1.toInt) (b := x_147.toInt) rfl rfl c_148
                  refine lv_aload hx hb dX9_lastHeard_54 (lv_at hl 0 rfl) ?_
                  refine va_get (D := (dC, dI)) (ci := 3) (v := .int (oI Z b_140 1)) (C := RX3) (T := TX3) (N := 6) hx hb hts in_wsX9_lastHeard_X3 hown hK hP q_141 hq_141 rfl 1 (by decide +kernel) (hts (.fieldLink RX9 50 "ShipOffice$Happening" "day" "I") iw_X9_lastHeard_5) (fun _ h9 => h9) rfl dX9_lastHeard_56 ?_
                  refine lv_topi (fun x_152 ex_152 => ?_)
                  clear ex_152
                  refine lv_iload_n hx hb dX9_lastHeard_59 rfl (lv_at hl 1 rfl) ?_
                  refine lv_icmp_le (tgt := 69) hx hb dX9_lastHeard_60 (by decide +kernel) (fun c_153 => ?_) (fun c_153 => ?_)
                  · have dc_153 := c_le (a := x_152.toInt) (b := y_139.toInt) rfl rfl c_153
                    refine lv_aload hx hb dX9_lastHeard_69 (lv_at hl 0 rfl) ?_
                    rcases hb_155 : oP Z b_140 5 with _ | b_154
                    · refine va_get (D := (dC, dI)) (ci := 3) (v := .null) (C := RX3) (T := TX3) (N := 6) hx hb hts in_wsX9_lastHeard_X3 hown hK hP q_141 hq_141 rfl 5 (by decide +kernel) (hts (.fieldLink RX9 53 "ShipOffice$Happening" "before" "LShipOffice$Happening;") iw_X9_lastHeard_4) (fun _ h9 => h9) (o_rd hb_155) dX9_lastHeard_71 ?_
                      have r_156 : oR Z none = 0 := rfl
                      refine lv_astoreN (lv' := [(4, .null), (3, .int y_139), (0, .ref o), (1, .int x1), (2, .int x2)]) hx hb dX9_lastHeard_74 hl (by decide +kernel) rfl (fun ls hl => ?_)
                      refine lv_goto (tgt := 31) hx hb dX9_lastHeard_76 (by decide +kernel) ?_
                      exact ih (n - 1) (by omega) none y_139 _ _ ls (by omega) (fun b h => by cases h) hP hS (lv_sub hl [0, 1, 2, 3, 4] rfl)
                    · refine va_get (D := (dC, dI)) (ci := 3) (v := .ref b_154) (C := RX3) (T := TX3) (N := 6) hx hb hts in_wsX9_lastHeard_X3 hown hK hP q_141 hq_141 rfl 5 (by decide +kernel) (hts (.fieldLink RX9 53 "ShipOffice$Happening" "before" "LShipOffice$Happening;") iw_X9_lastHeard_4) (fun _ h9 => h9) (o_rd hb_155) dX9_lastHeard_71 ?_
                      have tb_154 : oty Z b_154 3 := oInv.rd gI tb_140.2 hb_155 rfl rfl
                      have hGb_154 : oG Z b_154 < oG Z b_140 := gI.2.2.2.2.2.1 b_140 b_154 tb_140.2 hb_155
                      have rb_154 : oR Z (some b_154) = oG Z b_154 + 1 := rfl
                      refine lv_astore (lv' := [(4, .ref b_154), (3, .int y_139), (0, .ref o), (1, .int x1), (2, .int x2)]) hx hb dX9_lastHeard_74 hl (by decide +kernel) rfl (fun ls hl => ?_)
                      refine lv_goto (tgt := 31) hx hb dX9_lastHeard_76 (by decide +kernel) ?_
                      exact ih (n - 1) (by omega) (some b_154) y_139 _ _ ls (by omega) (fun b h => by cases h; exact tb_154) hP hS (lv_sub hl [0, 1, 2, 3, 4] rfl)
                  · have dc_153 := c_nle (a := x_152.toInt) (b := y_139.toInt) rfl rfl c_153
                    refine lv_aload hx hb dX9_lastHeard_63 (lv_at hl 0 rfl) ?_
                    refine va_get (D := (dC, dI)) (ci := 3) (v := .int (oI Z b_140 1)) (C := RX3) (T := TX3) (N := 6) hx hb hts in_wsX9_lastHeard_X3 hown hK hP q_141 hq_141 rfl 1 (by decide +kernel) (hts (.fieldLink RX9 50 "ShipOffice$Happening" "day" "I") iw_X9_lastHeard_5) (fun _ h9 => h9) rfl dX9_lastHeard_65 ?_
                    refine lv_topi (fun x_157 ex_157 => ?_)
                    clear ex_157
                    refine lv_istore_n (lv' := [(3, .int x_157), (4, .ref b_140), (0, .ref o), (1, .int x1), (2, .int x2)]) hx hb dX9_lastHeard_68 rfl hl (by decide +kernel) rfl (fun ls hl => ?_)
                    refine lv_aload hx hb dX9_lastHeard_69 (lv_at hl 1 rfl) ?_
                    rcases hb_159 : oP Z b_140 5 with _ | b_158
                    · refine va_get (D := (dC, dI)) (ci := 3) (v := .null) (C := RX3) (T := TX3) (N := 6) hx hb hts in_wsX9_lastHeard_X3 hown hK hP q_141 hq_141 rfl 5 (by decide +kernel) (hts (.fieldLink RX9 53 "ShipOffice$Happening" "before" "LShipOffice$Happening;") iw_X9_lastHeard_4) (fun _ h9 => h9) (o_rd hb_159) dX9_lastHeard_71 ?_
                      have r_160 : oR Z none = 0 := rfl
                      refine lv_astoreN (lv' := [(4, .null), (3, .int x_157), (0, .ref o), (1, .int x1), (2, .int x2)]) hx hb dX9_lastHeard_74 hl (by decide +kernel) rfl (fun ls hl => ?_)
                      refine lv_goto (tgt := 31) hx hb dX9_lastHeard_76 (by decide +kernel) ?_
                      exact ih (n - 1) (by omega) none x_157 _ _ ls (by omega) (fun b h => by cases h) hP hS (lv_sub hl [0, 1, 2, 3, 4] rfl)
                    · refine va_get (D := (dC, dI)) (ci := 3) (v := .ref b_158) (C := RX3) (T := TX3) (N := 6) hx hb hts in_wsX9_lastHeard_X3 hown hK hP q_141 hq_141 rfl 5 (by decide +kernel) (hts (.fieldLink RX9 53 "ShipOffice$Happening" "before" "LShipOffice$Happening;") iw_X9_lastHeard_4) (fun _ h9 => h9) (o_rd hb_159) dX9_lastHeard_71 ?_
                      have tb_158 : oty Z b_158 3 := oInv.rd gI tb_140.2 hb_159 rfl rfl
                      have hGb_158 : oG Z b_158 < oG Z b_140 := gI.2.2.2.2.2.1 b_140 b_158 tb_140.2 hb_159
                      have rb_158 : oR Z (some b_158) = oG Z b_158 + 1 := rfl
                      refine lv_astore (lv' := [(4, .ref b_158), (3, .int x_157), (0, .ref o), (1, .int x1), (2, .int x2)]) hx hb dX9_lastHeard_74 hl (by decide +kernel) rfl (fun ls hl => ?_)
                      refine lv_goto (tgt := 31) hx hb dX9_lastHeard_76 (by decide +kernel) ?_
                      exact ih (n - 1) (by omega) (some b_158) x_157 _ _ ls (by omega) (fun b h => by cases h; exact tb_158) hP hS (lv_sub hl [0, 1, 2, 3, 4] rfl)
        exact cut_137 (oR Z (some b_111)) (some b_111) x_110 _ _ ls (by omega) (fun b h => by cases h; exact tb_111) hP hS (lv_sub hl [0, 1, 2, 3, 4] rfl)
set_option maxHeartbeats 4000000 in
set_option maxRecDepth 100000 in
theorem c_X9_daysUnheard (l : Launch) (dC : Nat → ClassId) (dI : Nat → Nat → Nat) (sz : Nat) (cq : Nat → ClassId) (Z : oS) (gI : oInv Z) (o : Nat) (to : oty Z o 9) (x1 : Int32) (x2 : Int32) : Met l yX9_daysUnheard wsX9_daysUnheard ({ frames := 1, cells := 0, slots := 0, locals := 24 }) (va_Pc [.ref o, .int x1, .int x2] (pcW (dC, dI) (oT cq) (oW cq Z) sz)) (va_Qi (fun (r : Int32) (u : Unit) => True) (fun _ _ => True) (va_A [] sz)) 0 0 (va_A [] sz) := by
  refine Met.ofW (cc := cX9_daysUnheard) (maxL := 4) (ret := (some .int)) (by decide +kernel) rfl ?_
  intro p e s m args below meth c s₁ B hml hv
  obtain ⟨rfl, hsz, hP, hK, hD0⟩ := hv
  have hx := B.exec
  have hb := B.bytes
  have hr := B.returns
  have hts := atoms_spec (ws := wsX9_daysUnheard) B.pre
  have hown : s.vm.findClass RX9 = some m.cls := findClass_of_methodNamed B.named
  have hlocks := B.notSynchronized
  subst hsz
  have hD := hD0
  generalize hAe : va_A [] s.heap.size = A at ⊢
  have hA : ∀ q : Nat, s.heap.size ≤ q → A q := fun q h => by rw [← hAe]; exact Or.inr h
  have hS : va_S A s.heap s.heap [] := va_S.rf
  have hP : va_P (dC, dI) vwCl (oW cq Z) s.heap := hP
  have hl := lv_entry ([.ref o, .int x1, .int x2]) (n := 4) (Nat.le_of_ble_eq_true rfl)
  rw [lg_entry_eq]
  generalize (lg_sl ([.ref o, .int x1, .int x2]) ++ List.replicate (4 - (lg_sl ([.ref o, .int x1, .int x2])).length) Slot.unset).toArray = ls at hl ⊢
  have hl : lv_has ls 4 [(0, .ref o), (1, .int x1), (2, .int x2)] := hl
  refine lv_aload_n hx hb dX9_daysUnheard_0 rfl (lv_at hl 0 rfl) ?_
  refine lv_iload_n hx hb dX9_daysUnheard_1 rfl (lv_at hl 1 rfl) ?_
  refine lv_iload_n hx hb dX9_daysUnheard_2 rfl (lv_at hl 2 rfl) ?_
  have hFc : ∀ q, va_A [] s.heap.size q → A q := pu_free hS hA
  obtain ⟨q_1, hq_1⟩ := og (cq := cq) to.1 (oE_9 to.2)
  refine va_calli (va_runV (As := [.int x1, .int x2]) (rest := []) ⟨hx, hb, hml, hown, hts⟩ (c_X9_lastHeard l dC dI s.heap.size cq Z gI o to x1 x2) (cwV 2 hts gX9_daysUnheard_X9_lastHeard rfl rfl rfl (by decide +kernel) ⟨(Nat.le_of_ble_eq_true rfl), (Nat.le_of_ble_eq_true rfl)⟩) (pr_V (r := (RX9, TX9, 10)) hP hK hD q_1 9 rfl hq_1) rfl rfl hl.1 rfl (lv_room (Nat.le_of_ble_eq_true rfl)) dX9_daysUnheard_3 ⟨(Nat.le_of_ble_eq_true rfl), (Nat.le_of_ble_eq_true rfl)⟩) hS (fun q _ h => hFc q h) hFc (fun r_3 u t H locs ht hvm w_2 hB hz1 hk1 hS => ?_)
  have hP := pu_keep hP hk1
  clear hk1 hz1 hvm hB ht hFc
  refine lv_istore_n (lv' := [(3, .int r_3), (0, .ref o), (1, .int x1), (2, .int x2)]) hx hb dX9_daysUnheard_6 rfl hl (by decide +kernel) rfl (fun ls hl => ?_)
  refine lv_iload_n hx hb dX9_daysUnheard_7 rfl (lv_at hl 0 rfl) ?_
  refine lv_if_ge (tgt := 15) hx hb dX9_daysUnheard_8 (by decide +kernel) (fun c_4 => ?_) (fun c_4 => ?_)
  · have dc_4 := c_le (a := 0) (b := r_3.toInt) (by decide +kernel) rfl c_4
    refine lv_iload_n hx hb dX9_daysUnheard_15 rfl (lv_at hl 2 rfl) ?_
    refine lv_iload_n hx hb dX9_daysUnheard_16 rfl (lv_at hl 0 rfl) ?_
    refine lv_isub hx hb dX9_daysUnheard_17 ?_
    refine lv_topi (fun x_5 ex_5 => ?_)
    clear ex_5
    exact W.iret (v := x_5) hx hb hr (fun t ht hW => ⟨⟨x_5, (), rfl, trivial, trivial⟩, hS.F ht⟩) hS.2.2 dX9_daysUnheard_18
  · have dc_4 := c_nle (a := 0) (b := r_3.toInt) (by decide +kernel) rfl c_4
    refine lv_iconst (v := 0) hx hb dX9_daysUnheard_11 (by decide +kernel) ?_
    refine lv_goto (tgt := 18) hx hb dX9_daysUnheard_12 (by decide +kernel) ?_
    exact W.iret (v := 0) hx hb hr (fun t ht hW => ⟨⟨0, (), rfl, trivial, trivial⟩, hS.F ht⟩) hS.2.2 dX9_daysUnheard_18
set_option maxHeartbeats 4000000 in
set_option maxRecDepth 100000 in
theorem c_X9_nextTold (l : Launch) (dC : Nat → ClassId) (dI : Nat → Nat → Nat) (sz : Nat) (cq : Nat → ClassId) (Z : oS) (gI : oInv Z) (o : Nat) (to : oty Z o 9) (x1 : Int32) (x2 : Int32) : Met l yX9_nextTold wsX9_nextTold ({ frames := 0, cells := 0, slots := 0, locals := 0 }) (va_Pc [.ref o, .int x1, .int x2] (pcW (dC, dI) (oT cq) (oW cq Z) sz)) (va_Qi (fun (r : Int32) (u : Unit) => True) (fun _ _ => True) (va_A [] sz)) 0 0 (va_A [] sz) := by
  refine Met.ofW (cc := cX9_nextTold) (maxL := 5) (ret := (some .int)) (by decide +kernel) rfl ?_
  intro p e s m args below meth c s₁ B hml hv
  obtain ⟨rfl, hsz, hP, hK, hD0⟩ := hv
  have hx := B.exec
  have hb := B.bytes
  have hr := B.returns
  have hts := atoms_spec (ws := wsX9_nextTold) B.pre
  have hown : s.vm.findClass RX9 = some m.cls := findClass_of_methodNamed B.named
  have hlocks := B.notSynchronized
  subst hsz
  have hD := hD0
  generalize hAe : va_A [] s.heap.size = A at ⊢
  have hA : ∀ q : Nat, s.heap.size ≤ q → A q := fun q h => by rw [← hAe]; exact Or.inr h
  have hS : va_S A s.heap s.heap [] := va_S.rf
  have hP : va_P (dC, dI) vwCl (oW cq Z) s.heap := hP
  have hl := lv_entry ([.ref o, .int x1, .int x2]) (n := 5) (Nat.le_of_ble_eq_true rfl)
  rw [lg_entry_eq]
  generalize (lg_sl ([.ref o, .int x1, .int x2]) ++ List.replicate (5 - (lg_sl ([.ref o, .int x1, .int x2])).length) Slot.unset).toArray = ls at hl ⊢
  have hl : lv_has ls 5 [(0, .ref o), (1, .int x1), (2, .int x2)] := hl
  refine lv_ldc (v := 1000000) hx hb hown (hts (.constant RX9 9 (1000000)) (by decide +kernel)) dX9_nextTold_0 ?_
  refine lv_istore_n (lv' := [(3, .int 1000000), (0, .ref o), (1, .int x1), (2, .int x2)]) hx hb dX9_nextTold_2 rfl hl (by decide +kernel) rfl (fun ls hl => ?_)
  have cut_1 : ∀ (y_2 : Int32) (H : Heap) (locs : List Loc) (ls : Array Slot), va_P (dC, dI) vwCl (oW cq Z) H → va_S A s.heap H locs → lv_has ls 5 [(3, .int y_2), (0, .ref o), (1, .int x1), (2, .int x2)] → W p l e (headSpec wsX9_nextTold { frames := 0, cells := 0, slots := 0, locals := 0 }).room s m #[Value.ref o, Value.int x1, Value.int x2] below meth c H locs 0 0 (MQ below (va_Qi (fun (r : Int32) (u : Unit) => True) (fun _ _ => True) A) #[Value.ref o, Value.int x1, Value.int x2] s 0 0 A) (F0 m 53 ls []) := by
    intro y_2 H locs ls hP hS hl
    refine lv_aload_n hx hb dX9_nextTold_53 rfl (lv_at hl 1 rfl) ?_
    obtain ⟨q_3, hq_3⟩ := og (cq := cq) to.1 (oE_9 to.2)
    rcases hb_5 : oP Z o 9 with _ | b_4
    · refine va_get (D := (dC, dI)) (ci := 9) (v := .null) (C := RX9) (T := TX9) (N := 10) hx hb hts in_wsX9_nextTold_X9 hown hK hP q_3 hq_3 rfl 9 (by decide +kernel) (hts (.fieldLink RX9 41 "ShipOffice$Voyage" "heardOf" "LShipOffice$Happening;") iw_X9_nextTold_1) (fun _ h9 => h9) (o_rd hb_5) dX9_nextTold_54 ?_
      refine lv_astoreN (lv' := [(4, .null), (3, .int y_2), (0, .ref o), (1, .int x1), (2, .int x2)]) hx hb dX9_nextTold_57 hl (by decide +kernel) rfl (fun ls hl => ?_)
      have cut_6 : ∀ (n : Nat) (y_7 : Option Nat) (y_8 : Int32) (H : Heap) (locs : List Loc) (ls : Array Slot), (oR Z y_7 : Int) ≤ (n : Int) → (∀ b, y_7 = some b → oty Z b 3) → va_P (dC, dI) vwCl (oW cq Z) H → va_S A s.heap H locs → lv_has ls 5 [(4, va_rf y_7), (3, .int y_8), (0, .ref o), (1, .int x1), (2, .int x2)] → W p l e (headSpec wsX9_nextTold { frames := 0, cells := 0, slots := 0, locals := 0 }).room s m #[Value.ref o, Value.int x1, Value.int x2] below meth c H locs 0 0 (MQ below (va_Qi (fun (r : Int32) (u : Unit) => True) (fun _ _ => True) A) #[Value.ref o, Value.int x1, Value.int x2] s 0 0 A) (F0 m 59 ls []) := by
        intro n
        induction n using Nat.strongRecOn with
        | ind n ih =>
          intro y_7 y_8 H locs ls hm ty_7 hP hS hl
          rcases y_7 with _ | b_9
          · have hl : lv_has ls 5 [(4, .null), (3, .int y_8), (0, .ref o), (1, .int x1), (2, .int x2)] := hl
            refine lv_aloadN hx hb dX9_nextTold_59 (lv_at hl 0 rfl) ?_
            refine lv_ifnullN (tgt := 107) hx hb dX9_nextTold_61 (by decide +kernel) ?_
            refine lv_iload_n hx hb dX9_nextTold_107 rfl (lv_at hl 1 rfl) ?_
            exact W.iret (v := y_8) hx hb hr (fun t ht hW => ⟨⟨y_8, (), rfl, trivial, trivial⟩, hS.F ht⟩) hS.2.2 dX9_nextTold_108
          · have hl : lv_has ls 5 [(4, .ref b_9), (3, .int y_8), (0, .ref o), (1, .int x1), (2, .int x2)] := hl
            have tb_9 : oty Z b_9 3 := ty_7 b_9 rfl
            have rb_9 : oR Z (some b_9) = oG Z b_9 + 1 := rfl
            refine lv_aload hx hb dX9_nextTold_59 (lv_at hl 0 rfl) ?_
            refine lv_ifnull hx hb dX9_nextTold_61 ?_
            refine lv_aload hx hb dX9_nextTold_64 (lv_at hl 0 rfl) ?_
            obtain ⟨q_10, hq_10⟩ := og (cq := cq) tb_9.1 (oE_3 tb_9.2)
            refine va_get (D := (dC, dI)) (ci := 3) (v := .int (oI Z b_9 2)) (C := RX3) (T := TX3) (N := 6) hx hb hts in_wsX9_nextTold_X3 hown hK hP q_10 hq_10 rfl 2 (by decide +kernel) (hts (.fieldLink RX9 45 "ShipOffice$Happening" "told" "I") iw_X9_nextTold_2) (fun _ h9 => h9) rfl dX9_nextTold_66 ?_
            refine lv_topi (fun x_11 ex_11 => ?_)
            clear ex_11
            refine lv_iload_n hx hb dX9_nextTold_69 rfl (lv_at hl 4 rfl) ?_
            refine lv_icmp_gt (tgt := 97) hx hb dX9_nextTold_70 (by decide +kernel) (fun c_12 => ?_) (fun c_12 => ?_)
            · have dc_12 := c_lt (a := x2.toInt) (b := x_11.toInt) rfl rfl c_12
              refine lv_aload hx hb dX9_nextTold_97 (lv_at hl 0 rfl) ?_
              rcases hb_14 : oP Z b_9 5 with _ | b_13
              · refine va_get (D := (dC, dI)) (ci := 3) (v := .null) (C := RX3) (T := TX3) (N := 6) hx hb hts in_wsX9_nextTold_X3 hown hK hP q_10 hq_10 rfl 5 (by decide +kernel) (hts (.fieldLink RX9 53 "ShipOffice$Happening" "before" "LShipOffice$Happening;") iw_X9_nextTold_3) (fun _ h9 => h9) (o_rd hb_14) dX9_nextTold_99 ?_
                have r_15 : oR Z none = 0 := rfl
                refine lv_astoreN (lv' := [(4, .null), (3, .int y_8), (0, .ref o), (1, .int x1), (2, .int x2)]) hx hb dX9_nextTold_102 hl (by decide +kernel) rfl (fun ls hl => ?_)
                refine lv_goto (tgt := 59) hx hb dX9_nextTold_104 (by decide +kernel) ?_
                exact ih (n - 1) (by omega) none y_8 _ _ ls (by omega) (fun b h => by cases h) hP hS (lv_sub hl [0, 1, 2, 3, 4] rfl)
              · refine va_get (D := (dC, dI)) (ci := 3) (v := .ref b_13) (C := RX3) (T := TX3) (N := 6) hx hb hts in_wsX9_nextTold_X3 hown hK hP q_10 hq_10 rfl 5 (by decide +kernel) (hts (.fieldLink RX9 53 "ShipOffice$Happening" "before" "LShipOffice$Happening;") iw_X9_nextTold_3) (fun _ h9 => h9) (o_rd hb_14) dX9_nextTold_99 ?_
                have tb_13 : oty Z b_13 3 := oInv.rd gI tb_9.2 hb_14 rfl rfl
                have hGb_13 : oG Z b_13 < oG Z b_9 := gI.2.2.2.2.2.1 b_9 b_13 tb_9.2 hb_14
                have rb_13 : oR Z (some b_13) = oG Z b_13 + 1 := rfl
                refine lv_astore (lv' := [(4, .ref b_13), (3, .int y_8), (0, .ref o), (1, .int x1), (2, .int x2)]) hx hb dX9_nextTold_102 hl (by decide +kernel) rfl (fun ls hl => ?_)
                refine lv_goto (tgt := 59) hx hb dX9_nextTold_104 (by decide +kernel) ?_
                exact ih (n - 1) (by omega) (some b_13) y_8 _ _ ls (by omega) (fun b h => by cases h; exact tb_13) hP hS (lv_sub hl [0, 1, 2, 3, 4] rfl)
            · have dc_12 := c_nlt (a := x2.toInt) (b := x_11.toInt) rfl rfl c_12
              refine lv_aload hx hb dX9_nextTold_73 (lv_at hl 0 rfl) ?_
              refine va_get (D := (dC, dI)) (ci := 3) (v := .int (oI Z b_9 1)) (C := RX3) (T := TX3) (N := 6) hx hb hts in_wsX9_nextTold_X3 hown hK hP q_10 hq_10 rfl 1 (by decide +kernel) (hts (.fieldLink RX9 50 "ShipOffice$Happening" "day" "I") iw_X9_nextTold_4) (fun _ h9 => h9) rfl dX9_nextTold_75 ?_
              refine lv_topi (fun x_16 ex_16 => ?_)
              clear ex_16
              refine lv_iload_n hx hb dX9_nextTold_78 rfl (lv_at hl 3 rfl) ?_
              refine lv_icmp_le (tgt := 97) hx hb dX9_nextTold_79 (by decide +kernel) (fun c_17 => ?_) (fun c_17 => ?_)
              · have dc_17 := c_le (a := x_16.toInt) (b := x1.toInt) rfl rfl c_17
                refine lv_aload hx hb dX9_nextTold_97 (lv_at hl 0 rfl) ?_
                rcases hb_19 : oP Z b_9 5 with _ | b_18
                · refine va_get (D := (dC, dI)) (ci := 3) (v := .null) (C := RX3) (T := TX3) (N := 6) hx hb hts in_wsX9_nextTold_X3 hown hK hP q_10 hq_10 rfl 5 (by decide +kernel) (hts (.fieldLink RX9 53 "ShipOffice$Happening" "before" "LShipOffice$Happening;") iw_X9_nextTold_3) (fun _ h9 => h9) (o_rd hb_19) dX9_nextTold_99 ?_
                  have r_20 : oR Z none = 0 := rfl
                  refine lv_astoreN (lv' := [(4, .null), (3, .int y_8), (0, .ref o), (1, .int x1), (2, .int x2)]) hx hb dX9_nextTold_102 hl (by decide +kernel) rfl (fun ls hl => ?_)
                  refine lv_goto (tgt := 59) hx hb dX9_nextTold_104 (by decide +kernel) ?_
                  exact ih (n - 1) (by omega) none y_8 _ _ ls (by omega) (fun b h => by cases h) hP hS (lv_sub hl [0, 1, 2, 3, 4] rfl)
                · refine va_get (D := (dC, dI)) (ci := 3) (v := .ref b_18) (C := RX3) (T := TX3) (N := 6) hx hb hts in_wsX9_nextTold_X3 hown hK hP q_10 hq_10 rfl 5 (by decide +kernel) (hts (.fieldLink RX9 53 "ShipOffice$Happening" "before" "LShipOffice$Happening;") iw_X9_nextTold_3) (fun _ h9 => h9) (o_rd hb_19) dX9_nextTold_99 ?_
                  have tb_18 : oty Z b_18 3 := oInv.rd gI tb_9.2 hb_19 rfl rfl
                  have hGb_18 : oG Z b_18 < oG Z b_9 := gI.2.2.2.2.2.1 b_9 b_18 tb_9.2 hb_19
                  have rb_18 : oR Z (some b_18) = oG Z b_18 + 1 := rfl
                  refine lv_astore (lv' := [(4, .ref b_18), (3, .int y_8), (0, .ref o), (1, .int x1), (2, .int x2)]) hx hb dX9_nextTold_102 hl (by decide +kernel) rfl (fun ls hl => ?_)
                  refine lv_goto (tgt := 59) hx hb dX9_nextTold_104 (by decide +kernel) ?_
                  exact ih (n - 1) (by omega) (some b_18) y_8 _ _ ls (by omega) (fun b h => by cases h; exact tb_18) hP hS (lv_sub hl [0, 1, 2, 3, 4] rfl)
              · have dc_17 := c_nle (a := x_16.toInt) (b := x1.toInt) rfl rfl c_17
                refine lv_aload hx hb dX9_nextTold_82 (lv_at hl 0 rfl) ?_
                refine va_get (D := (dC, dI)) (ci := 3) (v := .int (oI Z b_9 1)) (C := RX3) (T := TX3) (N := 6) hx hb hts in_wsX9_nextTold_X3 hown hK hP q_10 hq_10 rfl 1 (by decide +kernel) (hts (.fieldLink RX9 50 "ShipOffice$Happening" "day" "I") iw_X9_nextTold_4) (fun _ h9 => h9) rfl dX9_nextTold_84 ?_
                refine lv_topi (fun x_21 ex_21 => ?_)
                clear ex_21
                refine lv_iload_n hx hb dX9_nextTold_87 rfl (lv_at hl 1 rfl) ?_
                refine lv_icmp_ge (tgt := 97) hx hb dX9_nextTold_88 (by decide +kernel) (fun c_22 => ?_) (fun c_22 => ?_)
                · have dc_22 := c_le (a := y_8.toInt) (b := x_21.toInt) rfl rfl c_22
                  refine lv_aload hx hb dX9_nextTold_97 (lv_at hl 0 rfl) ?_
                  rcases hb_24 : oP Z b_9 5 with _ | b_23
                  · refine va_get (D := (dC, dI)) (ci := 3) (v := .null) (C := RX3) (T := TX3) (N := 6) hx hb hts in_wsX9_nextTold_X3 hown hK hP q_10 hq_10 rfl 5 (by decide +kernel) (hts (.fieldLink RX9 53 "ShipOffice$Happening" "before" "LShipOffice$Happening;") iw_X9_nextTold_3) (fun _ h9 => h9) (o_rd hb_24) dX9_nextTold_99 ?_
                    have r_25 : oR Z none = 0 := rfl
                    refine lv_astoreN (lv' := [(4, .null), (3, .int y_8), (0, .ref o), (1, .int x1), (2, .int x2)]) hx hb dX9_nextTold_102 hl (by decide +kernel) rfl (fun ls hl => ?_)
                    refine lv_goto (tgt := 59) hx hb dX9_nextTold_104 (by decide +kernel) ?_
                    exact ih (n - 1) (by omega) none y_8 _ _ ls (by omega) (fun b h => by cases h) hP hS (lv_sub hl [0, 1, 2, 3, 4] rfl)
                  · refine va_get (D := (dC, dI)) (ci := 3) (v := .ref b_23) (C := RX3) (T := TX3) (N := 6) hx hb hts in_wsX9_nextTold_X3 hown hK hP q_10 hq_10 rfl 5 (by decide +kernel) (hts (.fieldLink RX9 53 "ShipOffice$Happening" "before" "LShipOffice$Happening;") iw_X9_nextTold_3) (fun _ h9 => h9) (o_rd hb_24) dX9_nextTold_99 ?_
                    have tb_23 : oty Z b_23 3 := oInv.rd gI tb_9.2 hb_24 rfl rfl
                    have hGb_23 : oG Z b_23 < oG Z b_9 := gI.2.2.2.2.2.1 b_9 b_23 tb_9.2 hb_24
                    have rb_23 : oR Z (some b_23) = oG Z b_23 + 1 := rfl
                    refine lv_astore (lv' := [(4, .ref b_23), (3, .int y_8), (0, .ref o), (1, .int x1), (2, .int x2)]) hx hb dX9_nextTold_102 hl (by decide +kernel) rfl (fun ls hl => ?_)
                    refine lv_goto (tgt := 59) hx hb dX9_nextTold_104 (by decide +kernel) ?_
                    exact ih (n - 1) (by omega) (some b_23) y_8 _ _ ls (by omega) (fun b h => by cases h; exact tb_23) hP hS (lv_sub hl [0, 1, 2, 3, 4] rfl)
                · have dc_22 := c_nle (a := y_8.toInt) (b := x_21.toInt) rfl rfl c_22
                  refine lv_aload hx hb dX9_nextTold_91 (lv_at hl 0 rfl) ?_
                  refine va_get (D := (dC, dI)) (ci := 3) (v := .int (oI Z b_9 1)) (C := RX3) (T := TX3) (N := 6) hx hb hts in_wsX9_nextTold_X3 hown hK hP q_10 hq_10 rfl 1 (by decide +kernel) (hts (.fieldLink RX9 50 "ShipOffice$Happening" "day" "I") iw_X9_nextTold_4) (fun _ h9 => h9) rfl dX9_nextTold_93 ?_
                  refine lv_topi (fun x_26 ex_26 => ?_)
                  clear ex_26
                  refine lv_istore_n (lv' := [(3, .int x_26), (4, .ref b_9), (0, .ref o), (1, .int x1), (2, .int x2)]) hx hb dX9_nextTold_96 rfl hl (by decide +kernel) rfl (fun ls hl => ?_)
                  refine lv_aload hx hb dX9_nextTold_97 (lv_at hl 1 rfl) ?_
                  rcases hb_28 : oP Z b_9 5 with _ | b_27
                  · refine va_get (D := (dC, dI)) (ci := 3) (v := .null) (C := RX3) (T := TX3) (N := 6) hx hb hts in_wsX9_nextTold_X3 hown hK hP q_10 hq_10 rfl 5 (by decide +kernel) (hts (.fieldLink RX9 53 "ShipOffice$Happening" "before" "LShipOffice$Happening;") iw_X9_nextTold_3) (fun _ h9 => h9) (o_rd hb_28) dX9_nextTold_99 ?_
                    have r_29 : oR Z none = 0 := rfl
                    refine lv_astoreN (lv' := [(4, .null), (3, .int x_26), (0, .ref o), (1, .int x1), (2, .int x2)]) hx hb dX9_nextTold_102 hl (by decide +kernel) rfl (fun ls hl => ?_)
                    refine lv_goto (tgt := 59) hx hb dX9_nextTold_104 (by decide +kernel) ?_
                    exact ih (n - 1) (by omega) none x_26 _ _ ls (by omega) (fun b h => by cases h) hP hS (lv_sub hl [0, 1, 2, 3, 4] rfl)
                  · refine va_get (D := (dC, dI)) (ci := 3) (v := .ref b_27) (C := RX3) (T := TX3) (N := 6) hx hb hts in_wsX9_nextTold_X3 hown hK hP q_10 hq_10 rfl 5 (by decide +kernel) (hts (.fieldLink RX9 53 "ShipOffice$Happening" "before" "LShipOffice$Happening;") iw_X9_nextTold_3) (fun _ h9 => h9) (o_rd hb_28) dX9_nextTold_99 ?_
                    have tb_27 : oty Z b_27 3 := oInv.rd gI tb_9.2 hb_28 rfl rfl
                    have hGb_27 : oG Z b_27 < oG Z b_9 := gI.2.2.2.2.2.1 b_9 b_27 tb_9.2 hb_28
                    have rb_27 : oR Z (some b_27) = oG Z b_27 + 1 := rfl
                    refine lv_astore (lv' := [(4, .ref b_27), (3, .int x_26), (0, .ref o), (1, .int x1), (2, .int x2)]) hx hb dX9_nextTold_102 hl (by decide +kernel) rfl (fun ls hl => ?_)
                    refine lv_goto (tgt := 59) hx hb dX9_nextTold_104 (by decide +kernel) ?_
                    exact ih (n - 1) (by omega) (some b_27) x_26 _ _ ls (by omega) (fun b h => by cases h; exact tb_27) hP hS (lv_sub hl [0, 1, 2, 3, 4] rfl)
      exact cut_6 (oR Z none) none y_2 _ _ ls (by omega) (fun b h => by cases h) hP hS (lv_sub hl [0, 1, 2, 3, 4] rfl)
    · refine va_get (D := (dC, dI)) (ci := 9) (v := .ref b_4) (C := RX9) (T := TX9) (N := 10) hx hb hts in_wsX9_nextTold_X9 hown hK hP q_3 hq_3 rfl 9 (by decide +kernel) (hts (.fieldLink RX9 41 "ShipOffice$Voyage" "heardOf" "LShipOffice$Happening;") iw_X9_nextTold_1) (fun _ h9 => h9) (o_rd hb_5) dX9_nextTold_54 ?_
      have tb_4 : oty Z b_4 3 := oInv.rd gI to.2 hb_5 rfl rfl
      refine lv_astore (lv' := [(4, .ref b_4), (3, .int y_2), (0, .ref o), (1, .int x1), (2, .int x2)]) hx hb dX9_nextTold_57 hl (by decide +kernel) rfl (fun ls hl => ?_)
      have cut_30 : ∀ (n : Nat) (y_31 : Option Nat) (y_32 : Int32) (H : Heap) (locs : List Loc) (ls : Array Slot), (oR Z y_31 : Int) ≤ (n : Int) → (∀ b, y_31 = some b → oty Z b 3) → va_P (dC, dI) vwCl (oW cq Z) H → va_S A s.heap H locs → lv_has ls 5 [(4, va_rf y_31), (3, .int y_32), (0, .ref o), (1, .int x1), (2, .int x2)] → W p l e (headSpec wsX9_nextTold { frames := 0, cells := 0, slots := 0, locals := 0 }).room s m #[Value.ref o, Value.int x1, Value.int x2] below meth c H locs 0 0 (MQ below (va_Qi (fun (r : Int32) (u : Unit) => True) (fun _ _ => True) A) #[Value.ref o, Value.int x1, Value.int x2] s 0 0 A) (F0 m 59 ls []) := by
        intro n
        induction n using Nat.strongRecOn with
        | ind n ih =>
          intro y_31 y_32 H locs ls hm ty_31 hP hS hl
          rcases y_31 with _ | b_33
          · have hl : lv_has ls 5 [(4, .null), (3, .int y_32), (0, .ref o), (1, .int x1), (2, .int x2)] := hl
            refine lv_aloadN hx hb dX9_nextTold_59 (lv_at hl 0 rfl) ?_
            refine lv_ifnullN (tgt := 107) hx hb dX9_nextTold_61 (by decide +kernel) ?_
            refine lv_iload_n hx hb dX9_nextTold_107 rfl (lv_at hl 1 rfl) ?_
            exact W.iret (v := y_32) hx hb hr (fun t ht hW => ⟨⟨y_32, (), rfl, trivial, trivial⟩, hS.F ht⟩) hS.2.2 dX9_nextTold_108
          · have hl : lv_has ls 5 [(4, .ref b_33), (3, .int y_32), (0, .ref o), (1, .int x1), (2, .int x2)] := hl
            have tb_33 : oty Z b_33 3 := ty_31 b_33 rfl
            have rb_33 : oR Z (some b_33) = oG Z b_33 + 1 := rfl
            refine lv_aload hx hb dX9_nextTold_59 (lv_at hl 0 rfl) ?_
            refine lv_ifnull hx hb dX9_nextTold_61 ?_
            refine lv_aload hx hb dX9_nextTold_64 (lv_at hl 0 rfl) ?_
            obtain ⟨q_34, hq_34⟩ := og (cq := cq) tb_33.1 (oE_3 tb_33.2)
            refine va_get (D := (dC, dI)) (ci := 3) (v := .int (oI Z b_33 2)) (C := RX3) (T := TX3) (N := 6) hx hb hts in_wsX9_nextTold_X3 hown hK hP q_34 hq_34 rfl 2 (by decide +kernel) (hts (.fieldLink RX9 45 "ShipOffice$Happening" "told" "I") iw_X9_nextTold_2) (fun _ h9 => h9) rfl dX9_nextTold_66 ?_
            refine lv_topi (fun x_35 ex_35 => ?_)
            clear ex_35
            refine lv_iload_n hx hb dX9_nextTold_69 rfl (lv_at hl 4 rfl) ?_
            refine lv_icmp_gt (tgt := 97) hx hb dX9_nextTold_70 (by decide +kernel) (fun c_36 => ?_) (fun c_36 => ?_)
            · have dc_36 := c_lt (a := x2.toInt) (b := x_35.toInt) rfl rfl c_36
              refine lv_aload hx hb dX9_nextTold_97 (lv_at hl 0 rfl) ?_
              rcases hb_38 : oP Z b_33 5 with _ | b_37
              · refine va_get (D := (dC, dI)) (ci := 3) (v := .null) (C := RX3) (T := TX3) (N := 6) hx hb hts in_wsX9_nextTold_X3 hown hK hP q_34 hq_34 rfl 5 (by decide +kernel) (hts (.fieldLink RX9 53 "ShipOffice$Happening" "before" "LShipOffice$Happening;") iw_X9_nextTold_3) (fun _ h9 => h9) (o_rd hb_38) dX9_nextTold_99 ?_
                have r_39 : oR Z none = 0 := rfl
                refine lv_astoreN (lv' := [(4, .null), (3, .int y_32), (0, .ref o), (1, .int x1), (2, .int x2)]) hx hb dX9_nextTold_102 hl (by decide +kernel) rfl (fun ls hl => ?_)
                refine lv_goto (tgt := 59) hx hb dX9_nextTold_104 (by decide +kernel) ?_
                exact ih (n - 1) (by omega) none y_32 _ _ ls (by omega) (fun b h => by cases h) hP hS (lv_sub hl [0, 1, 2, 3, 4] rfl)
              · refine va_get (D := (dC, dI)) (ci := 3) (v := .ref b_37) (C := RX3) (T := TX3) (N := 6) hx hb hts in_wsX9_nextTold_X3 hown hK hP q_34 hq_34 rfl 5 (by decide +kernel) (hts (.fieldLink RX9 53 "ShipOffice$Happening" "before" "LShipOffice$Happening;") iw_X9_nextTold_3) (fun _ h9 => h9) (o_rd hb_38) dX9_nextTold_99 ?_
                have tb_37 : oty Z b_37 3 := oInv.rd gI tb_33.2 hb_38 rfl rfl
                have hGb_37 : oG Z b_37 < oG Z b_33 := gI.2.2.2.2.2.1 b_33 b_37 tb_33.2 hb_38
                have rb_37 : oR Z (some b_37) = oG Z b_37 + 1 := rfl
                refine lv_astore (lv' := [(4, .ref b_37), (3, .int y_32), (0, .ref o), (1, .int x1), (2, .int x2)]) hx hb dX9_nextTold_102 hl (by decide +kernel) rfl (fun ls hl => ?_)
                refine lv_goto (tgt := 59) hx hb dX9_nextTold_104 (by decide +kernel) ?_
                exact ih (n - 1) (by omega) (some b_37) y_32 _ _ ls (by omega) (fun b h => by cases h; exact tb_37) hP hS (lv_sub hl [0, 1, 2, 3, 4] rfl)
            · have dc_36 := c_nlt (a := x2.toInt) (b := x_35.toInt) rfl rfl c_36
              refine lv_aload hx hb dX9_nextTold_73 (lv_at hl 0 rfl) ?_
              refine va_get (D := (dC, dI)) (ci := 3) (v := .int (oI Z b_33 1)) (C := RX3) (T := TX3) (N := 6) hx hb hts in_wsX9_nextTold_X3 hown hK hP q_34 hq_34 rfl 1 (by decide +kernel) (hts (.fieldLink RX9 50 "ShipOffice$Happening" "day" "I") iw_X9_nextTold_4) (fun _ h9 => h9) rfl dX9_nextTold_75 ?_
              refine lv_topi (fun x_40 ex_40 => ?_)
              clear ex_40
              refine lv_iload_n hx hb dX9_nextTold_78 rfl (lv_at hl 3 rfl) ?_
              refine lv_icmp_le (tgt := 97) hx hb dX9_nextTold_79 (by decide +kernel) (fun c_41 => ?_) (fun c_41 => ?_)
              · have dc_41 := c_le (a := x_40.toInt) (b := x1.toInt) rfl rfl c_41
                refine lv_aload hx hb dX9_nextTold_97 (lv_at hl 0 rfl) ?_
                rcases hb_43 : oP Z b_33 5 with _ | b_42
                · refine va_get (D := (dC, dI)) (ci := 3) (v := .null) (C := RX3) (T := TX3) (N := 6) hx hb hts in_wsX9_nextTold_X3 hown hK hP q_34 hq_34 rfl 5 (by decide +kernel) (hts (.fieldLink RX9 53 "ShipOffice$Happening" "before" "LShipOffice$Happening;") iw_X9_nextTold_3) (fun _ h9 => h9) (o_rd hb_43) dX9_nextTold_99 ?_
                  have r_44 : oR Z none = 0 := rfl
                  refine lv_astoreN (lv' := [(4, .null), (3, .int y_32), (0, .ref o), (1, .int x1), (2, .int x2)]) hx hb dX9_nextTold_102 hl (by decide +kernel) rfl (fun ls hl => ?_)
                  refine lv_goto (tgt := 59) hx hb dX9_nextTold_104 (by decide +kernel) ?_
                  exact ih (n - 1) (by omega) none y_32 _ _ ls (by omega) (fun b h => by cases h) hP hS (lv_sub hl [0, 1, 2, 3, 4] rfl)
                · refine va_get (D := (dC, dI)) (ci := 3) (v := .ref b_42) (C := RX3) (T := TX3) (N := 6) hx hb hts in_wsX9_nextTold_X3 hown hK hP q_34 hq_34 rfl 5 (by decide +kernel) (hts (.fieldLink RX9 53 "ShipOffice$Happening" "before" "LShipOffice$Happening;") iw_X9_nextTold_3) (fun _ h9 => h9) (o_rd hb_43) dX9_nextTold_99 ?_
                  have tb_42 : oty Z b_42 3 := oInv.rd gI tb_33.2 hb_43 rfl rfl
                  have hGb_42 : oG Z b_42 < oG Z b_33 := gI.2.2.2.2.2.1 b_33 b_42 tb_33.2 hb_43
                  have rb_42 : oR Z (some b_42) = oG Z b_42 + 1 := rfl
                  refine lv_astore (lv' := [(4, .ref b_42), (3, .int y_32), (0, .ref o), (1, .int x1), (2, .int x2)]) hx hb dX9_nextTold_102 hl (by decide +kernel) rfl (fun ls hl => ?_)
                  refine lv_goto (tgt := 59) hx hb dX9_nextTold_104 (by decide +kernel) ?_
                  exact ih (n - 1) (by omega) (some b_42) y_32 _ _ ls (by omega) (fun b h => by cases h; exact tb_42) hP hS (lv_sub hl [0, 1, 2, 3, 4] rfl)
              · have dc_41 := c_nle (a := x_40.toInt) (b := x1.toInt) rfl rfl c_41
                refine lv_aload hx hb dX9_nextTold_82 (lv_at hl 0 rfl) ?_
                refine va_get (D := (dC, dI)) (ci := 3) (v := .int (oI Z b_33 1)) (C := RX3) (T := TX3) (N := 6) hx hb hts in_wsX9_nextTold_X3 hown hK hP q_34 hq_34 rfl 1 (by decide +kernel) (hts (.fieldLink RX9 50 "ShipOffice$Happening" "day" "I") iw_X9_nextTold_4) (fun _ h9 => h9) rfl dX9_nextTold_84 ?_
                refine lv_topi (fun x_45 ex_45 => ?_)
                clear ex_45
                refine lv_iload_n hx hb dX9_nextTold_87 rfl (lv_at hl 1 rfl) ?_
                refine lv_icmp_ge (tgt := 97) hx hb dX9_nextTold_88 (by decide +kernel) (fun c_46 => ?_) (fun c_46 => ?_)
                · have dc_46 := c_le (a := y_32.toInt) (b := x_45.toInt) rfl rfl c_46
                  refine lv_aload hx hb dX9_nextTold_97 (lv_at hl 0 rfl) ?_
                  rcases hb_48 : oP Z b_33 5 with _ | b_47
                  · refine va_get (D := (dC, dI)) (ci := 3) (v := .null) (C := RX3) (T := TX3) (N := 6) hx hb hts in_wsX9_nextTold_X3 hown hK hP q_34 hq_34 rfl 5 (by decide +kernel) (hts (.fieldLink RX9 53 "ShipOffice$Happening" "before" "LShipOffice$Happening;") iw_X9_nextTold_3) (fun _ h9 => h9) (o_rd hb_48) dX9_nextTold_99 ?_
                    have r_49 : oR Z none = 0 := rfl
                    refine lv_astoreN (lv' := [(4, .null), (3, .int y_32), (0, .ref o), (1, .int x1), (2, .int x2)]) hx hb dX9_nextTold_102 hl (by decide +kernel) rfl (fun ls hl => ?_)
                    refine lv_goto (tgt := 59) hx hb dX9_nextTold_104 (by decide +kernel) ?_
                    exact ih (n - 1) (by omega) none y_32 _ _ ls (by omega) (fun b h => by cases h) hP hS (lv_sub hl [0, 1, 2, 3, 4] rfl)
                  · refine va_get (D := (dC, dI)) (ci := 3) (v := .ref b_47) (C := RX3) (T := TX3) (N := 6) hx hb hts in_wsX9_nextTold_X3 hown hK hP q_34 hq_34 rfl 5 (by decide +kernel) (hts (.fieldLink RX9 53 "ShipOffice$Happening" "before" "LShipOffice$Happening;") iw_X9_nextTold_3) (fun _ h9 => h9) (o_rd hb_48) dX9_nextTold_99 ?_
                    have tb_47 : oty Z b_47 3 := oInv.rd gI tb_33.2 hb_48 rfl rfl
                    have hGb_47 : oG Z b_47 < oG Z b_33 := gI.2.2.2.2.2.1 b_33 b_47 tb_33.2 hb_48
                    have rb_47 : oR Z (some b_47) = oG Z b_47 + 1 := rfl
                    refine lv_astore (lv' := [(4, .ref b_47), (3, .int y_32), (0, .ref o), (1, .int x1), (2, .int x2)]) hx hb dX9_nextTold_102 hl (by decide +kernel) rfl (fun ls hl => ?_)
                    refine lv_goto (tgt := 59) hx hb dX9_nextTold_104 (by decide +kernel) ?_
                    exact ih (n - 1) (by omega) (some b_47) y_32 _ _ ls (by omega) (fun b h => by cases h; exact tb_47) hP hS (lv_sub hl [0, 1, 2, 3, 4] rfl)
                · have dc_46 := c_nle (a := y_32.toInt) (b := x_45.toInt) rfl rfl c_46
                  refine lv_aload hx hb dX9_nextTold_91 (lv_at hl 0 rfl) ?_
                  refine va_get (D := (dC, dI)) (ci := 3) (v := .int (oI Z b_33 1)) (C := RX3) (T := TX3) (N := 6) hx hb hts in_wsX9_nextTold_X3 hown hK hP q_34 hq_34 rfl 1 (by decide +kernel) (hts (.fieldLink RX9 50 "ShipOffice$Happening" "day" "I") iw_X9_nextTold_4) (fun _ h9 => h9) rfl dX9_nextTold_93 ?_
                  refine lv_topi (fun x_50 ex_50 => ?_)
                  clear ex_50
                  refine lv_istore_n (lv' := [(3, .int x_50), (4, .ref b_33), (0, .ref o), (1, .int x1), (2, .int x2)]) hx hb dX9_nextTold_96 rfl hl (by decide +kernel) rfl (fun ls hl => ?_)
                  refine lv_aload hx hb dX9_nextTold_97 (lv_at hl 1 rfl) ?_
                  rcases hb_52 : oP Z b_33 5 with _ | b_51
                  · refine va_get (D := (dC, dI)) (ci := 3) (v := .null) (C := RX3) (T := TX3) (N := 6) hx hb hts in_wsX9_nextTold_X3 hown hK hP q_34 hq_34 rfl 5 (by decide +kernel) (hts (.fieldLink RX9 53 "ShipOffice$Happening" "before" "LShipOffice$Happening;") iw_X9_nextTold_3) (fun _ h9 => h9) (o_rd hb_52) dX9_nextTold_99 ?_
                    have r_53 : oR Z none = 0 := rfl
                    refine lv_astoreN (lv' := [(4, .null), (3, .int x_50), (0, .ref o), (1, .int x1), (2, .int x2)]) hx hb dX9_nextTold_102 hl (by decide +kernel) rfl (fun ls hl => ?_)
                    refine lv_goto (tgt := 59) hx hb dX9_nextTold_104 (by decide +kernel) ?_
                    exact ih (n - 1) (by omega) none x_50 _ _ ls (by omega) (fun b h => by cases h) hP hS (lv_sub hl [0, 1, 2, 3, 4] rfl)
                  · refine va_get (D := (dC, dI)) (ci := 3) (v := .ref b_51) (C := RX3) (T := TX3) (N := 6) hx hb hts in_wsX9_nextTold_X3 hown hK hP q_34 hq_34 rfl 5 (by decide +kernel) (hts (.fieldLink RX9 53 "ShipOffice$Happening" "before" "LShipOffice$Happening;") iw_X9_nextTold_3) (fun _ h9 => h9) (o_rd hb_52) dX9_nextTold_99 ?_
                    have tb_51 : oty Z b_51 3 := oInv.rd gI tb_33.2 hb_52 rfl rfl
                    have hGb_51 : oG Z b_51 < oG Z b_33 := gI.2.2.2.2.2.1 b_33 b_51 tb_33.2 hb_52
                    have rb_51 : oR Z (some b_51) = oG Z b_51 + 1 := rfl
                    refine lv_astore (lv' := [(4, .ref b_51), (3, .int x_50), (0, .ref o), (1, .int x1), (2, .int x2)]) hx hb dX9_nextTold_102 hl (by decide +kernel) rfl (fun ls hl => ?_)
                    refine lv_goto (tgt := 59) hx hb dX9_nextTold_104 (by decide +kernel) ?_
                    exact ih (n - 1) (by omega) (some b_51) x_50 _ _ ls (by omega) (fun b h => by cases h; exact tb_51) hP hS (lv_sub hl [0, 1, 2, 3, 4] rfl)
      exact cut_30 (oR Z (some b_4)) (some b_4) y_2 _ _ ls (by omega) (fun b h => by cases h; exact tb_4) hP hS (lv_sub hl [0, 1, 2, 3, 4] rfl)
  have cut_54 : ∀ (y_55 : Int32) (H : Heap) (locs : List Loc) (ls : Array Slot), va_P (dC, dI) vwCl (oW cq Z) H → va_S A s.heap H locs → lv_has ls 5 [(3, .int y_55), (0, .ref o), (1, .int x1), (2, .int x2)] → W p l e (headSpec wsX9_nextTold { frames := 0, cells := 0, slots := 0, locals := 0 }).room s m #[Value.ref o, Value.int x1, Value.int x2] below meth c H locs 0 0 (MQ below (va_Qi (fun (r : Int32) (u : Unit) => True) (fun _ _ => True) A) #[Value.ref o, Value.int x1, Value.int x2] s 0 0 A) (F0 m 24 ls []) := by
    intro y_55 H locs ls hP hS hl
    refine lv_aload_n hx hb dX9_nextTold_24 rfl (lv_at hl 1 rfl) ?_
    obtain ⟨q_56, hq_56⟩ := og (cq := cq) to.1 (oE_9 to.2)
    refine va_get (D := (dC, dI)) (ci := 9) (v := .int (oI Z o 8)) (C := RX9) (T := TX9) (N := 10) hx hb hts in_wsX9_nextTold_X9 hown hK hP q_56 hq_56 rfl 8 (by decide +kernel) (hts (.fieldLink RX9 22 "ShipOffice$Voyage" "lostTold" "I") iw_X9_nextTold_5) (fun _ h9 => h9) rfl dX9_nextTold_25 ?_
    refine lv_topi (fun x_57 ex_57 => ?_)
    clear ex_57
    refine lv_iload_n hx hb dX9_nextTold_28 rfl (lv_at hl 3 rfl) ?_
    refine lv_icmp_gt (tgt := 53) hx hb dX9_nextTold_29 (by decide +kernel) (fun c_58 => ?_) (fun c_58 => ?_)
    · have dc_58 := c_lt (a := x2.toInt) (b := x_57.toInt) rfl rfl c_58
      exact cut_1 y_55 _ _ ls  hP hS (lv_sub hl [0, 1, 2, 3] rfl)
    · have dc_58 := c_nlt (a := x2.toInt) (b := x_57.toInt) rfl rfl c_58
      refine lv_aload_n hx hb dX9_nextTold_32 rfl (lv_at hl 1 rfl) ?_
      refine va_get (D := (dC, dI)) (ci := 9) (v := .int (oI Z o 7)) (C := RX9) (T := TX9) (N := 10) hx hb hts in_wsX9_nextTold_X9 hown hK hP q_56 hq_56 rfl 7 (by decide +kernel) (hts (.fieldLink RX9 19 "ShipOffice$Voyage" "lostDay" "I") iw_X9_nextTold_6) (fun _ h9 => h9) rfl dX9_nextTold_33 ?_
      refine lv_topi (fun x_59 ex_59 => ?_)
      clear ex_59
      refine lv_iload_n hx hb dX9_nextTold_36 rfl (lv_at hl 2 rfl) ?_
      refine lv_icmp_le (tgt := 53) hx hb dX9_nextTold_37 (by decide +kernel) (fun c_60 => ?_) (fun c_60 => ?_)
      · have dc_60 := c_le (a := x_59.toInt) (b := x1.toInt) rfl rfl c_60
        exact cut_1 y_55 _ _ ls  hP hS (lv_sub hl [0, 1, 2, 3] rfl)
      · have dc_60 := c_nle (a := x_59.toInt) (b := x1.toInt) rfl rfl c_60
        refine lv_aload_n hx hb dX9_nextTold_40 rfl (lv_at hl 1 rfl) ?_
        refine va_get (D := (dC, dI)) (ci := 9) (v := .int (oI Z o 7)) (C := RX9) (T := TX9) (N := 10) hx hb hts in_wsX9_nextTold_X9 hown hK hP q_56 hq_56 rfl 7 (by decide +kernel) (hts (.fieldLink RX9 19 "ShipOffice$Voyage" "lostDay" "I") iw_X9_nextTold_6) (fun _ h9 => h9) rfl dX9_nextTold_41 ?_
        refine lv_topi (fun x_61 ex_61 => ?_)
        clear ex_61
        refine lv_iload_n hx hb dX9_nextTold_44 rfl (lv_at hl 0 rfl) ?_
        refine lv_icmp_ge (tgt := 53) hx hb dX9_nextTold_45 (by decide +kernel) (fun c_62 => ?_) (fun c_62 => ?_)
        · have dc_62 := c_le (a := y_55.toInt) (b := x_61.toInt) rfl rfl c_62
          exact cut_1 y_55 _ _ ls  hP hS (lv_sub hl [0, 1, 2, 3] rfl)
        · have dc_62 := c_nle (a := y_55.toInt) (b := x_61.toInt) rfl rfl c_62
          refine lv_aload_n hx hb dX9_nextTold_48 rfl (lv_at hl 1 rfl) ?_
          refine va_get (D := (dC, dI)) (ci := 9) (v := .int (oI Z o 7)) (C := RX9) (T := TX9) (N := 10) hx hb hts in_wsX9_nextTold_X9 hown hK hP q_56 hq_56 rfl 7 (by decide +kernel) (hts (.fieldLink RX9 19 "ShipOffice$Voyage" "lostDay" "I") iw_X9_nextTold_6) (fun _ h9 => h9) rfl dX9_nextTold_49 ?_
          refine lv_topi (fun x_63 ex_63 => ?_)
          clear ex_63
          refine lv_istore_n (lv' := [(3, .int x_63), (0, .ref o), (1, .int x1), (2, .int x2)]) hx hb dX9_nextTold_52 rfl hl (by decide +kernel) rfl (fun ls hl => ?_)
          exact cut_1 x_63 _ _ ls  hP hS (lv_sub hl [0, 1, 2, 3] rfl)
  refine lv_aload_n hx hb dX9_nextTold_3 rfl (lv_at hl 1 rfl) ?_
  obtain ⟨q_64, hq_64⟩ := og (cq := cq) to.1 (oE_9 to.2)
  refine va_get (D := (dC, dI)) (ci := 9) (v := .int (oI Z o 6)) (C := RX9) (T := TX9) (N := 10) hx hb hts in_wsX9_nextTold_X9 hown hK hP q_64 hq_64 rfl 6 (by decide +kernel) (hts (.fieldLink RX9 16 "ShipOffice$Voyage" "sailedTold" "I") iw_X9_nextTold_7) (fun _ h9 => h9) rfl dX9_nextTold_4 ?_
  refine lv_topi (fun x_65 ex_65 => ?_)
  clear ex_65
  refine lv_iload_n hx hb dX9_nextTold_7 rfl (lv_at hl 3 rfl) ?_
  refine lv_icmp_gt (tgt := 24) hx hb dX9_nextTold_8 (by decide +kernel) (fun c_66 => ?_) (fun c_66 => ?_)
  · have dc_66 := c_lt (a := x2.toInt) (b := x_65.toInt) rfl rfl c_66
    have kc_67 : (1000000 : Int32).toInt = 1000000 := by decide
    exact cut_54 1000000 _ _ ls  hP hS (lv_sub hl [0, 1, 2, 3] rfl)
  · have dc_66 := c_nlt (a := x2.toInt) (b := x_65.toInt) rfl rfl c_66
    refine lv_aload_n hx hb dX9_nextTold_11 rfl (lv_at hl 1 rfl) ?_
    refine va_get (D := (dC, dI)) (ci := 9) (v := .int (oI Z o 5)) (C := RX9) (T := TX9) (N := 10) hx hb hts in_wsX9_nextTold_X9 hown hK hP q_64 hq_64 rfl 5 (by decide +kernel) (hts (.fieldLink RX9 10 "ShipOffice$Voyage" "sailedDay" "I") iw_X9_nextTold_8) (fun _ h9 => h9) rfl dX9_nextTold_12 ?_
    refine lv_topi (fun x_68 ex_68 => ?_)
    have hx_68 : 0 ≤ x_68.toInt ∧ x_68.toInt ≤ 1000000 := iv_of ex_68 (oInv.iv gI to.2 rfl rfl)
    have gx_68 : x_68.toInt = (oI Z o 5).toInt := iv_to ex_68
    clear ex_68
    refine lv_iload_n hx hb dX9_nextTold_15 rfl (lv_at hl 2 rfl) ?_
    refine lv_icmp_le (tgt := 24) hx hb dX9_nextTold_16 (by decide +kernel) (fun c_69 => ?_) (fun c_69 => ?_)
    · have dc_69 := c_le (a := x_68.toInt) (b := x1.toInt) rfl rfl c_69
      have kc_70 : (1000000 : Int32).toInt = 1000000 := by decide
      exact cut_54 1000000 _ _ ls  hP hS (lv_sub hl [0, 1, 2, 3] rfl)
    · have dc_69 := c_nle (a := x_68.toInt) (b := x1.toInt) rfl rfl c_69
      refine lv_aload_n hx hb dX9_nextTold_19 rfl (lv_at hl 1 rfl) ?_
      refine va_get (D := (dC, dI)) (ci := 9) (v := .int (oI Z o 5)) (C := RX9) (T := TX9) (N := 10) hx hb hts in_wsX9_nextTold_X9 hown hK hP q_64 hq_64 rfl 5 (by decide +kernel) (hts (.fieldLink RX9 10 "ShipOffice$Voyage" "sailedDay" "I") iw_X9_nextTold_8) (fun _ h9 => h9) rfl dX9_nextTold_20 ?_
      refine lv_topi (fun x_71 ex_71 => ?_)
      have hx_71 : 0 ≤ x_71.toInt ∧ x_71.toInt ≤ 1000000 := iv_of ex_71 (oInv.iv gI to.2 rfl rfl)
      have gx_71 : x_71.toInt = (oI Z o 5).toInt := iv_to ex_71
      clear ex_71
      refine lv_istore_n (lv' := [(3, .int x_71), (0, .ref o), (1, .int x1), (2, .int x2)]) hx hb dX9_nextTold_23 rfl hl (by decide +kernel) rfl (fun ls hl => ?_)
      exact cut_54 x_71 _ _ ls  hP hS (lv_sub hl [0, 1, 2, 3] rfl)
set_option maxHeartbeats 4000000 in
set_option maxRecDepth 100000 in
theorem c_X1_diedBy (l : Launch) (dC : Nat → ClassId) (dI : Nat → Nat → Nat) (sz : Nat) (cq : Nat → ClassId) (Z : oS) (gI : oInv Z) (o : Nat) (to : oty Z o 1) (x1 : Int32) (x2 : Int32) : Met l yX1_diedBy wsX1_diedBy ({ frames := 0, cells := 0, slots := 0, locals := 0 }) (va_Pc [.ref o, .int x1, .int x2] (pcW (dC, dI) (oT cq) (oW cq Z) sz)) (va_Qi (fun (r : Int32) (u : Unit) => (0 ≤ r.toInt ∧ r.toInt ≤ 1)) (fun _ _ => True) (va_A [] sz)) 0 0 (va_A [] sz) := by
  refine Met.ofW (cc := cX1_diedBy) (maxL := 4) (ret := (some .boolean)) (by decide +kernel) rfl ?_
  intro p e s m args below meth c s₁ B hml hv
  obtain ⟨rfl, hsz, hP, hK, hD0⟩ := hv
  have hx := B.exec
  have hb := B.bytes
  have hr := B.returns
  have hts := atoms_spec (ws := wsX1_diedBy) B.pre
  have hown : s.vm.findClass RX1 = some m.cls := findClass_of_methodNamed B.named
  have hlocks := B.notSynchronized
  subst hsz
  have hD := hD0
  generalize hAe : va_A [] s.heap.size = A at ⊢
  have hA : ∀ q : Nat, s.heap.size ≤ q → A q := fun q h => by rw [← hAe]; exact Or.inr h
  have hS : va_S A s.heap s.heap [] := va_S.rf
  have hP : va_P (dC, dI) vwCl (oW cq Z) s.heap := hP
  have hl := lv_entry ([.ref o, .int x1, .int x2]) (n := 4) (Nat.le_of_ble_eq_true rfl)
  rw [lg_entry_eq]
  generalize (lg_sl ([.ref o, .int x1, .int x2]) ++ List.replicate (4 - (lg_sl ([.ref o, .int x1, .int x2])).length) Slot.unset).toArray = ls at hl ⊢
  have hl : lv_has ls 4 [(0, .ref o), (1, .int x1), (2, .int x2)] := hl
  refine lv_aload_n hx hb dX1_diedBy_0 rfl (lv_at hl 0 rfl) ?_
  obtain ⟨q_1, hq_1⟩ := og (cq := cq) to.1 (oE_1 to.2)
  rcases hb_3 : oP Z o 8 with _ | b_2
  · refine va_get (D := (dC, dI)) (ci := 1) (v := .null) (C := RX1) (T := TX1) (N := 18) hx hb hts in_wsX1_diedBy_X1 hown hK hP q_1 hq_1 rfl 8 (by decide +kernel) (hts (.fieldLink RX1 87 "ShipOffice$Agreement" "tidings" "LShipOffice$Happening;") iw_X1_diedBy_1) (fun _ h9 => h9) (o_rd hb_3) dX1_diedBy_1 ?_
    refine lv_astore_nN (lv' := [(3, .null), (0, .ref o), (1, .int x1), (2, .int x2)]) hx hb dX1_diedBy_4 rfl hl (by decide +kernel) rfl (fun ls hl => ?_)
    have cut_4 : ∀ (n : Nat) (y_5 : Option Nat) (H : Heap) (locs : List Loc) (ls : Array Slot), (oR Z y_5 : Int) ≤ (n : Int) → (∀ b, y_5 = some b → oty Z b 3) → va_P (dC, dI) vwCl (oW cq Z) H → va_S A s.heap H locs → lv_has ls 4 [(3, va_rf y_5), (0, .ref o), (1, .int x1), (2, .int x2)] → W p l e (headSpec wsX1_diedBy { frames := 0, cells := 0, slots := 0, locals := 0 }).room s m #[Value.ref o, Value.int x1, Value.int x2] below meth c H locs 0 0 (MQ below (va_Qi (fun (r : Int32) (u : Unit) => (0 ≤ r.toInt ∧ r.toInt ≤ 1)) (fun _ _ => True) A) #[Value.ref o, Value.int x1, Value.int x2] s 0 0 A) (F0 m 5 ls []) := by
      intro n
      induction n using Nat.strongRecOn with
      | ind n ih =>
        intro y_5 H locs ls hm ty_5 hP hS hl
        rcases y_5 with _ | b_6
        · have hl : lv_has ls 4 [(3, .null), (0, .ref o), (1, .int x1), (2, .int x2)] := hl
          refine lv_aload_nN hx hb dX1_diedBy_5 rfl (lv_at hl 0 rfl) ?_
          refine lv_ifnullN (tgt := 43) hx hb dX1_diedBy_6 (by decide +kernel) ?_
          refine lv_iconst (v := 0) hx hb dX1_diedBy_43 (by decide +kernel) ?_
          exact W.zret (v := 0) hx hb hr rfl (fun t ht hW => ⟨⟨0, (), rfl, (by decide +kernel), trivial⟩, hS.F ht⟩) hS.2.2 dX1_diedBy_44
        · have hl : lv_has ls 4 [(3, .ref b_6), (0, .ref o), (1, .int x1), (2, .int x2)] := hl
          have tb_6 : oty Z b_6 3 := ty_5 b_6 rfl
          have rb_6 : oR Z (some b_6) = oG Z b_6 + 1 := rfl
          refine lv_aload_n hx hb dX1_diedBy_5 rfl (lv_at hl 0 rfl) ?_
          refine lv_ifnull hx hb dX1_diedBy_6 ?_
          refine lv_aload_n hx hb dX1_diedBy_9 rfl (lv_at hl 0 rfl) ?_
          obtain ⟨q_7, hq_7⟩ := og (cq := cq) tb_6.1 (oE_3 tb_6.2)
          refine va_get (D := (dC, dI)) (ci := 3) (v := .int (oI Z b_6 0)) (C := RX3) (T := TX3) (N := 6) hx hb hts in_wsX1_diedBy_X3 hown hK hP q_7 hq_7 rfl 0 (by decide +kernel) (hts (.fieldLink RX1 64 "ShipOffice$Happening" "kind" "I") iw_X1_diedBy_2) (fun _ h9 => h9) rfl dX1_diedBy_10 ?_
          refine lv_topi (fun x_8 ex_8 => ?_)
          clear ex_8
          refine lv_iconst (v := 2) hx hb dX1_diedBy_13 (by decide +kernel) ?_
          refine lv_icmp_ne (tgt := 35) hx hb dX1_diedBy_14 (by decide +kernel) (fun c_9 => ?_) (fun c_9 => ?_)
          · have dc_9 := c_ne (a := x_8.toInt) (b := 2) rfl (by decide +kernel) c_9
            refine lv_aload_n hx hb dX1_diedBy_35 rfl (lv_at hl 0 rfl) ?_
            rcases hb_11 : oP Z b_6 5 with _ | b_10
            · refine va_get (D := (dC, dI)) (ci := 3) (v := .null) (C := RX3) (T := TX3) (N := 6) hx hb hts in_wsX1_diedBy_X3 hown hK hP q_7 hq_7 rfl 5 (by decide +kernel) (hts (.fieldLink RX1 97 "ShipOffice$Happening" "before" "LShipOffice$Happening;") iw_X1_diedBy_3) (fun _ h9 => h9) (o_rd hb_11) dX1_diedBy_36 ?_
              have r_12 : oR Z none = 0 := rfl
              refine lv_astore_nN (lv' := [(3, .null), (0, .ref o), (1, .int x1), (2, .int x2)]) hx hb dX1_diedBy_39 rfl hl (by decide +kernel) rfl (fun ls hl => ?_)
              refine lv_goto (tgt := 5) hx hb dX1_diedBy_40 (by decide +kernel) ?_
              exact ih (n - 1) (by omega) none _ _ ls (by omega) (fun b h => by cases h) hP hS (lv_sub hl [0, 1, 2, 3] rfl)
            · refine va_get (D := (dC, dI)) (ci := 3) (v := .ref b_10) (C := RX3) (T := TX3) (N := 6) hx hb hts in_wsX1_diedBy_X3 hown hK hP q_7 hq_7 rfl 5 (by decide +kernel) (hts (.fieldLink RX1 97 "ShipOffice$Happening" "before" "LShipOffice$Happening;") iw_X1_diedBy_3) (fun _ h9 => h9) (o_rd hb_11) dX1_diedBy_36 ?_
              have tb_10 : oty Z b_10 3 := oInv.rd gI tb_6.2 hb_11 rfl rfl
              have hGb_10 : oG Z b_10 < oG Z b_6 := gI.2.2.2.2.2.1 b_6 b_10 tb_6.2 hb_11
              have rb_10 : oR Z (some b_10) = oG Z b_10 + 1 := rfl
              refine lv_astore_n (lv' := [(3, .ref b_10), (0, .ref o), (1, .int x1), (2, .int x2)]) hx hb dX1_diedBy_39 rfl hl (by decide +kernel) rfl (fun ls hl => ?_)
              refine lv_goto (tgt := 5) hx hb dX1_diedBy_40 (by decide +kernel) ?_
              exact ih (n - 1) (by omega) (some b_10) _ _ ls (by omega) (fun b h => by cases h; exact tb_10) hP hS (lv_sub hl [0, 1, 2, 3] rfl)
          · have dc_9 := c_eq (a := x_8.toInt) (b := 2) rfl (by decide +kernel) c_9
            refine lv_aload_n hx hb dX1_diedBy_17 rfl (lv_at hl 0 rfl) ?_
            refine va_get (D := (dC, dI)) (ci := 3) (v := .int (oI Z b_6 2)) (C := RX3) (T := TX3) (N := 6) hx hb hts in_wsX1_diedBy_X3 hown hK hP q_7 hq_7 rfl 2 (by decide +kernel) (hts (.fieldLink RX1 91 "ShipOffice$Happening" "told" "I") iw_X1_diedBy_4) (fun _ h9 => h9) rfl dX1_diedBy_18 ?_
            refine lv_topi (fun x_13 ex_13 => ?_)
            clear ex_13
            refine lv_iload_n hx hb dX1_diedBy_21 rfl (lv_at hl 3 rfl) ?_
            refine lv_icmp_gt (tgt := 35) hx hb dX1_diedBy_22 (by decide +kernel) (fun c_14 => ?_) (fun c_14 => ?_)
            · have dc_14 := c_lt (a := x2.toInt) (b := x_13.toInt) rfl rfl c_14
              refine lv_aload_n hx hb dX1_diedBy_35 rfl (lv_at hl 0 rfl) ?_
              rcases hb_16 : oP Z b_6 5 with _ | b_15
              · refine va_get (D := (dC, dI)) (ci := 3) (v := .null) (C := RX3) (T := TX3) (N := 6) hx hb hts in_wsX1_diedBy_X3 hown hK hP q_7 hq_7 rfl 5 (by decide +kernel) (hts (.fieldLink RX1 97 "ShipOffice$Happening" "before" "LShipOffice$Happening;") iw_X1_diedBy_3) (fun _ h9 => h9) (o_rd hb_16) dX1_diedBy_36 ?_
                have r_17 : oR Z none = 0 := rfl
                refine lv_astore_nN (lv' := [(3, .null), (0, .ref o), (1, .int x1), (2, .int x2)]) hx hb dX1_diedBy_39 rfl hl (by decide +kernel) rfl (fun ls hl => ?_)
                refine lv_goto (tgt := 5) hx hb dX1_diedBy_40 (by decide +kernel) ?_
                exact ih (n - 1) (by omega) none _ _ ls (by omega) (fun b h => by cases h) hP hS (lv_sub hl [0, 1, 2, 3] rfl)
              · refine va_get (D := (dC, dI)) (ci := 3) (v := .ref b_15) (C := RX3) (T := TX3) (N := 6) hx hb hts in_wsX1_diedBy_X3 hown hK hP q_7 hq_7 rfl 5 (by decide +kernel) (hts (.fieldLink RX1 97 "ShipOffice$Happening" "before" "LShipOffice$Happening;") iw_X1_diedBy_3) (fun _ h9 => h9) (o_rd hb_16) dX1_diedBy_36 ?_
                have tb_15 : oty Z b_15 3 := oInv.rd gI tb_6.2 hb_16 rfl rfl
                have hGb_15 : oG Z b_15 < oG Z b_6 := gI.2.2.2.2.2.1 b_6 b_15 tb_6.2 hb_16
                have rb_15 : oR Z (some b_15) = oG Z b_15 + 1 := rfl
                refine lv_astore_n (lv' := [(3, .ref b_15), (0, .ref o), (1, .int x1), (2, .int x2)]) hx hb dX1_diedBy_39 rfl hl (by decide +kernel) rfl (fun ls hl => ?_)
                refine lv_goto (tgt := 5) hx hb dX1_diedBy_40 (by decide +kernel) ?_
                exact ih (n - 1) (by omega) (some b_15) _ _ ls (by omega) (fun b h => by cases h; exact tb_15) hP hS (lv_sub hl [0, 1, 2, 3] rfl)
            · have dc_14 := c_nlt (a := x2.toInt) (b := x_13.toInt) rfl rfl c_14
              refine lv_aload_n hx hb dX1_diedBy_25 rfl (lv_at hl 0 rfl) ?_
              refine va_get (D := (dC, dI)) (ci := 3) (v := .int (oI Z b_6 1)) (C := RX3) (T := TX3) (N := 6) hx hb hts in_wsX1_diedBy_X3 hown hK hP q_7 hq_7 rfl 1 (by decide +kernel) (hts (.fieldLink RX1 94 "ShipOffice$Happening" "day" "I") iw_X1_diedBy_5) (fun _ h9 => h9) rfl dX1_diedBy_26 ?_
              refine lv_topi (fun x_18 ex_18 => ?_)
              clear ex_18
              refine lv_iload_n hx hb dX1_diedBy_29 rfl (lv_at hl 2 rfl) ?_
              refine lv_icmp_gt (tgt := 35) hx hb dX1_diedBy_30 (by decide +kernel) (fun c_19 => ?_) (fun c_19 => ?_)
              · have dc_19 := c_lt (a := x1.toInt) (b := x_18.toInt) rfl rfl c_19
                refine lv_aload_n hx hb dX1_diedBy_35 rfl (lv_at hl 0 rfl) ?_
                rcases hb_21 : oP Z b_6 5 with _ | b_20
                · refine va_get (D := (dC, dI)) (ci := 3) (v := .null) (C := RX3) (T := TX3) (N := 6) hx hb hts in_wsX1_diedBy_X3 hown hK hP q_7 hq_7 rfl 5 (by decide +kernel) (hts (.fieldLink RX1 97 "ShipOffice$Happening" "before" "LShipOffice$Happening;") iw_X1_diedBy_3) (fun _ h9 => h9) (o_rd hb_21) dX1_diedBy_36 ?_
                  have r_22 : oR Z none = 0 := rfl
                  refine lv_astore_nN (lv' := [(3, .null), (0, .ref o), (1, .int x1), (2, .int x2)]) hx hb dX1_diedBy_39 rfl hl (by decide +kernel) rfl (fun ls hl => ?_)
                  refine lv_goto (tgt := 5) hx hb dX1_diedBy_40 (by decide +kernel) ?_
                  exact ih (n - 1) (by omega) none _ _ ls (by omega) (fun b h => by cases h) hP hS (lv_sub hl [0, 1, 2, 3] rfl)
                · refine va_get (D := (dC, dI)) (ci := 3) (v := .ref b_20) (C := RX3) (T := TX3) (N := 6) hx hb hts in_wsX1_diedBy_X3 hown hK hP q_7 hq_7 rfl 5 (by decide +kernel) (hts (.fieldLink RX1 97 "ShipOffice$Happening" "before" "LShipOffice$Happening;") iw_X1_diedBy_3) (fun _ h9 => h9) (o_rd hb_21) dX1_diedBy_36 ?_
                  have tb_20 : oty Z b_20 3 := oInv.rd gI tb_6.2 hb_21 rfl rfl
                  have hGb_20 : oG Z b_20 < oG Z b_6 := gI.2.2.2.2.2.1 b_6 b_20 tb_6.2 hb_21
                  have rb_20 : oR Z (some b_20) = oG Z b_20 + 1 := rfl
                  refine lv_astore_n (lv' := [(3, .ref b_20), (0, .ref o), (1, .int x1), (2, .int x2)]) hx hb dX1_diedBy_39 rfl hl (by decide +kernel) rfl (fun ls hl => ?_)
                  refine lv_goto (tgt := 5) hx hb dX1_diedBy_40 (by decide +kernel) ?_
                  exact ih (n - 1) (by omega) (some b_20) _ _ ls (by omega) (fun b h => by cases h; exact tb_20) hP hS (lv_sub hl [0, 1, 2, 3] rfl)
              · have dc_19 := c_nlt (a := x1.toInt) (b := x_18.toInt) rfl rfl c_19
                refine lv_iconst (v := 1) hx hb dX1_diedBy_33 (by decide +kernel) ?_
                exact W.zret (v := 1) hx hb hr rfl (fun t ht hW => ⟨⟨1, (), rfl, (by decide +kernel), trivial⟩, hS.F ht⟩) hS.2.2 dX1_diedBy_34
    exact cut_4 (oR Z none) none _ _ ls (by omega) (fun b h => by cases h) hP hS (lv_sub hl [0, 1, 2, 3] rfl)
  · refine va_get (D := (dC, dI)) (ci := 1) (v := .ref b_2) (C := RX1) (T := TX1) (N := 18) hx hb hts in_wsX1_diedBy_X1 hown hK hP q_1 hq_1 rfl 8 (by decide +kernel) (hts (.fieldLink RX1 87 "ShipOffice$Agreement" "tidings" "LShipOffice$Happening;") iw_X1_diedBy_1) (fun _ h9 => h9) (o_rd hb_3) dX1_diedBy_1 ?_
    have tb_2 : oty Z b_2 3 := oInv.rd gI to.2 hb_3 rfl rfl
    refine lv_astore_n (lv' := [(3, .ref b_2), (0, .ref o), (1, .int x1), (2, .int x2)]) hx hb dX1_diedBy_4 rfl hl (by decide +kernel) rfl (fun ls hl => ?_)
    have cut_23 : ∀ (n : Nat) (y_24 : Option Nat) (H : Heap) (locs : List Loc) (ls : Array Slot), (oR Z y_24 : Int) ≤ (n : Int) → (∀ b, y_24 = some b → oty Z b 3) → va_P (dC, dI) vwCl (oW cq Z) H → va_S A s.heap H locs → lv_has ls 4 [(3, va_rf y_24), (0, .ref o), (1, .int x1), (2, .int x2)] → W p l e (headSpec wsX1_diedBy { frames := 0, cells := 0, slots := 0, locals := 0 }).room s m #[Value.ref o, Value.int x1, Value.int x2] below meth c H locs 0 0 (MQ below (va_Qi (fun (r : Int32) (u : Unit) => (0 ≤ r.toInt ∧ r.toInt ≤ 1)) (fun _ _ => True) A) #[Value.ref o, Value.int x1, Value.int x2] s 0 0 A) (F0 m 5 ls []) := by
      intro n
      induction n using Nat.strongRecOn with
      | ind n ih =>
        intro y_24 H locs ls hm ty_24 hP hS hl
        rcases y_24 with _ | b_25
        · have hl : lv_has ls 4 [(3, .null), (0, .ref o), (1, .int x1), (2, .int x2)] := hl
          refine lv_aload_nN hx hb dX1_diedBy_5 rfl (lv_at hl 0 rfl) ?_
          refine lv_ifnullN (tgt := 43) hx hb dX1_diedBy_6 (by decide +kernel) ?_
          refine lv_iconst (v := 0) hx hb dX1_diedBy_43 (by decide +kernel) ?_
          exact W.zret (v := 0) hx hb hr rfl (fun t ht hW => ⟨⟨0, (), rfl, (by decide +kernel), trivial⟩, hS.F ht⟩) hS.2.2 dX1_diedBy_44
        · have hl : lv_has ls 4 [(3, .ref b_25), (0, .ref o), (1, .int x1), (2, .int x2)] := hl
          have tb_25 : oty Z b_25 3 := ty_24 b_25 rfl
          have rb_25 : oR Z (some b_25) = oG Z b_25 + 1 := rfl
          refine lv_aload_n hx hb dX1_diedBy_5 rfl (lv_at hl 0 rfl) ?_
          refine lv_ifnull hx hb dX1_diedBy_6 ?_
          refine lv_aload_n hx hb dX1_diedBy_9 rfl (lv_at hl 0 rfl) ?_
          obtain ⟨q_26, hq_26⟩ := og (cq := cq) tb_25.1 (oE_3 tb_25.2)
          refine va_get (D := (dC, dI)) (ci := 3) (v := .int (oI Z b_25 0)) (C := RX3) (T := TX3) (N := 6) hx hb hts in_wsX1_diedBy_X3 hown hK hP q_26 hq_26 rfl 0 (by decide +kernel) (hts (.fieldLink RX1 64 "ShipOffice$Happening" "kind" "I") iw_X1_diedBy_2) (fun _ h9 => h9) rfl dX1_diedBy_10 ?_
          refine lv_topi (fun x_27 ex_27 => ?_)
          clear ex_27
          refine lv_iconst (v := 2) hx hb dX1_diedBy_13 (by decide +kernel) ?_
          refine lv_icmp_ne (tgt := 35) hx hb dX1_diedBy_14 (by decide +kernel) (fun c_28 => ?_) (fun c_28 => ?_)
          · have dc_28 := c_ne (a := x_27.toInt) (b := 2) rfl (by decide +kernel) c_28
            refine lv_aload_n hx hb dX1_diedBy_35 rfl (lv_at hl 0 rfl) ?_
            rcases hb_30 : oP Z b_25 5 with _ | b_29
            · refine va_get (D := (dC, dI)) (ci := 3) (v := .null) (C := RX3) (T := TX3) (N := 6) hx hb hts in_wsX1_diedBy_X3 hown hK hP q_26 hq_26 rfl 5 (by decide +kernel) (hts (.fieldLink RX1 97 "ShipOffice$Happening" "before" "LShipOffice$Happening;") iw_X1_diedBy_3) (fun _ h9 => h9) (o_rd hb_30) dX1_diedBy_36 ?_
              have r_31 : oR Z none = 0 := rfl
              refine lv_astore_nN (lv' := [(3, .null), (0, .ref o), (1, .int x1), (2, .int x2)]) hx hb dX1_diedBy_39 rfl hl (by decide +kernel) rfl (fun ls hl => ?_)
              refine lv_goto (tgt := 5) hx hb dX1_diedBy_40 (by decide +kernel) ?_
              exact ih (n - 1) (by omega) none _ _ ls (by omega) (fun b h => by cases h) hP hS (lv_sub hl [0, 1, 2, 3] rfl)
            · refine va_get (D := (dC, dI)) (ci := 3) (v := .ref b_29) (C := RX3) (T := TX3) (N := 6) hx hb hts in_wsX1_diedBy_X3 hown hK hP q_26 hq_26 rfl 5 (by decide +kernel) (hts (.fieldLink RX1 97 "ShipOffice$Happening" "before" "LShipOffice$Happening;") iw_X1_diedBy_3) (fun _ h9 => h9) (o_rd hb_30) dX1_diedBy_36 ?_
              have tb_29 : oty Z b_29 3 := oInv.rd gI tb_25.2 hb_30 rfl rfl
              have hGb_29 : oG Z b_29 < oG Z b_25 := gI.2.2.2.2.2.1 b_25 b_29 tb_25.2 hb_30
              have rb_29 : oR Z (some b_29) = oG Z b_29 + 1 := rfl
              refine lv_astore_n (lv' := [(3, .ref b_29), (0, .ref o), (1, .int x1), (2, .int x2)]) hx hb dX1_diedBy_39 rfl hl (by decide +kernel) rfl (fun ls hl => ?_)
              refine lv_goto (tgt := 5) hx hb dX1_diedBy_40 (by decide +kernel) ?_
              exact ih (n - 1) (by omega) (some b_29) _ _ ls (by omega) (fun b h => by cases h; exact tb_29) hP hS (lv_sub hl [0, 1, 2, 3] rfl)
          · have dc_28 := c_eq (a := x_27.toInt) (b := 2) rfl (by decide +kernel) c_28
            refine lv_aload_n hx hb dX1_diedBy_17 rfl (lv_at hl 0 rfl) ?_
            refine va_get (D := (dC, dI)) (ci := 3) (v := .int (oI Z b_25 2)) (C := RX3) (T := TX3) (N := 6) hx hb hts in_wsX1_diedBy_X3 hown hK hP q_26 hq_26 rfl 2 (by decide +kernel) (hts (.fieldLink RX1 91 "ShipOffice$Happening" "told" "I") iw_X1_diedBy_4) (fun _ h9 => h9) rfl dX1_diedBy_18 ?_
            refine lv_topi (fun x_32 ex_32 => ?_)
            clear ex_32
            refine lv_iload_n hx hb dX1_diedBy_21 rfl (lv_at hl 3 rfl) ?_
            refine lv_icmp_gt (tgt := 35) hx hb dX1_diedBy_22 (by decide +kernel) (fun c_33 => ?_) (fun c_33 => ?_)
            · have dc_33 := c_lt (a := x2.toInt) (b := x_32.toInt) rfl rfl c_33
              refine lv_aload_n hx hb dX1_diedBy_35 rfl (lv_at hl 0 rfl) ?_
              rcases hb_35 : oP Z b_25 5 with _ | b_34
              · refine va_get (D := (dC, dI)) (ci := 3) (v := .null) (C := RX3) (T := TX3) (N := 6) hx hb hts in_wsX1_diedBy_X3 hown hK hP q_26 hq_26 rfl 5 (by decide +kernel) (hts (.fieldLink RX1 97 "ShipOffice$Happening" "before" "LShipOffice$Happening;") iw_X1_diedBy_3) (fun _ h9 => h9) (o_rd hb_35) dX1_diedBy_36 ?_
                have r_36 : oR Z none = 0 := rfl
                refine lv_astore_nN (lv' := [(3, .null), (0, .ref o), (1, .int x1), (2, .int x2)]) hx hb dX1_diedBy_39 rfl hl (by decide +kernel) rfl (fun ls hl => ?_)
                refine lv_goto (tgt := 5) hx hb dX1_diedBy_40 (by decide +kernel) ?_
                exact ih (n - 1) (by omega) none _ _ ls (by omega) (fun b h => by cases h) hP hS (lv_sub hl [0, 1, 2, 3] rfl)
              · refine va_get (D := (dC, dI)) (ci := 3) (v := .ref b_34) (C := RX3) (T := TX3) (N := 6) hx hb hts in_wsX1_diedBy_X3 hown hK hP q_26 hq_26 rfl 5 (by decide +kernel) (hts (.fieldLink RX1 97 "ShipOffice$Happening" "before" "LShipOffice$Happening;") iw_X1_diedBy_3) (fun _ h9 => h9) (o_rd hb_35) dX1_diedBy_36 ?_
                have tb_34 : oty Z b_34 3 := oInv.rd gI tb_25.2 hb_35 rfl rfl
                have hGb_34 : oG Z b_34 < oG Z b_25 := gI.2.2.2.2.2.1 b_25 b_34 tb_25.2 hb_35
                have rb_34 : oR Z (some b_34) = oG Z b_34 + 1 := rfl
                refine lv_astore_n (lv' := [(3, .ref b_34), (0, .ref o), (1, .int x1), (2, .int x2)]) hx hb dX1_diedBy_39 rfl hl (by decide +kernel) rfl (fun ls hl => ?_)
                refine lv_goto (tgt := 5) hx hb dX1_diedBy_40 (by decide +kernel) ?_
                exact ih (n - 1) (by omega) (some b_34) _ _ ls (by omega) (fun b h => by cases h; exact tb_34) hP hS (lv_sub hl [0, 1, 2, 3] rfl)
            · have dc_33 := c_nlt (a := x2.toInt) (b := x_32.toInt) rfl rfl c_33
              refine lv_aload_n hx hb dX1_diedBy_25 rfl (lv_at hl 0 rfl) ?_
              refine va_get (D := (dC, dI)) (ci := 3) (v := .int (oI Z b_25 1)) (C := RX3) (T := TX3) (N := 6) hx hb hts in_wsX1_diedBy_X3 hown hK hP q_26 hq_26 rfl 1 (by decide +kernel) (hts (.fieldLink RX1 94 "ShipOffice$Happening" "day" "I") iw_X1_diedBy_5) (fun _ h9 => h9) rfl dX1_diedBy_26 ?_
              refine lv_topi (fun x_37 ex_37 => ?_)
              clear ex_37
              refine lv_iload_n hx hb dX1_diedBy_29 rfl (lv_at hl 2 rfl) ?_
              refine lv_icmp_gt (tgt := 35) hx hb dX1_diedBy_30 (by decide +kernel) (fun c_38 => ?_) (fun c_38 => ?_)
              · have dc_38 := c_lt (a := x1.toInt) (b := x_37.toInt) rfl rfl c_38
                refine lv_aload_n hx hb dX1_diedBy_35 rfl (lv_at hl 0 rfl) ?_
                rcases hb_40 : oP Z b_25 5 with _ | b_39
                · refine va_get (D := (dC, dI)) (ci := 3) (v := .null) (C := RX3) (T := TX3) (N := 6) hx hb hts in_wsX1_diedBy_X3 hown hK hP q_26 hq_26 rfl 5 (by decide +kernel) (hts (.fieldLink RX1 97 "ShipOffice$Happening" "before" "LShipOffice$Happening;") iw_X1_diedBy_3) (fun _ h9 => h9) (o_rd hb_40) dX1_diedBy_36 ?_
                  have r_41 : oR Z none = 0 := rfl
                  refine lv_astore_nN (lv' := [(3, .null), (0, .ref o), (1, .int x1), (2, .int x2)]) hx hb dX1_diedBy_39 rfl hl (by decide +kernel) rfl (fun ls hl => ?_)
                  refine lv_goto (tgt := 5) hx hb dX1_diedBy_40 (by decide +kernel) ?_
                  exact ih (n - 1) (by omega) none _ _ ls (by omega) (fun b h => by cases h) hP hS (lv_sub hl [0, 1, 2, 3] rfl)
                · refine va_get (D := (dC, dI)) (ci := 3) (v := .ref b_39) (C := RX3) (T := TX3) (N := 6) hx hb hts in_wsX1_diedBy_X3 hown hK hP q_26 hq_26 rfl 5 (by decide +kernel) (hts (.fieldLink RX1 97 "ShipOffice$Happening" "before" "LShipOffice$Happening;") iw_X1_diedBy_3) (fun _ h9 => h9) (o_rd hb_40) dX1_diedBy_36 ?_
                  have tb_39 : oty Z b_39 3 := oInv.rd gI tb_25.2 hb_40 rfl rfl
                  have hGb_39 : oG Z b_39 < oG Z b_25 := gI.2.2.2.2.2.1 b_25 b_39 tb_25.2 hb_40
                  have rb_39 : oR Z (some b_39) = oG Z b_39 + 1 := rfl
                  refine lv_astore_n (lv' := [(3, .ref b_39), (0, .ref o), (1, .int x1), (2, .int x2)]) hx hb dX1_diedBy_39 rfl hl (by decide +kernel) rfl (fun ls hl => ?_)
                  refine lv_goto (tgt := 5) hx hb dX1_diedBy_40 (by decide +kernel) ?_
                  exact ih (n - 1) (by omega) (some b_39) _ _ ls (by omega) (fun b h => by cases h; exact tb_39) hP hS (lv_sub hl [0, 1, 2, 3] rfl)
              · have dc_38 := c_nlt (a := x1.toInt) (b := x_37.toInt) rfl rfl c_38
                refine lv_iconst (v := 1) hx hb dX1_diedBy_33 (by decide +kernel) ?_
                exact W.zret (v := 1) hx hb hr rfl (fun t ht hW => ⟨⟨1, (), rfl, (by decide +kernel), trivial⟩, hS.F ht⟩) hS.2.2 dX1_diedBy_34
    exact cut_23 (oR Z (some b_2)) (some b_2) _ _ ls (by omega) (fun b h => by cases h; exact tb_2) hP hS (lv_sub hl [0, 1, 2, 3] rfl)
set_option maxHeartbeats 4000000 in
set_option maxRecDepth 100000 in
theorem c_X1_lastMove (l : Launch) (dC : Nat → ClassId) (dI : Nat → Nat → Nat) (sz : Nat) (cq : Nat → ClassId) (Z : oS) (gI : oInv Z) (o : Nat) (to : oty Z o 1) (x1 : Int32) (x2 : Int32) : Met l yX1_lastMove wsX1_lastMove ({ frames := 0, cells := 0, slots := 0, locals := 0 }) (va_Pc [.ref o, .int x1, .int x2] (pcW (dC, dI) (oT cq) (oW cq Z) sz)) (va_Qq (fun (r : Option Nat) (u : Unit) => (∀ b, r = some b → oty Z b 3)) (fun _ _ => True) (va_A [] sz)) 0 0 (va_A [] sz) := by
  refine Met.ofW (cc := cX1_lastMove) (maxL := 6) (ret := (some (.object "ShipOffice$Happening"))) (by decide +kernel) rfl ?_
  intro p e s m args below meth c s₁ B hml hv
  obtain ⟨rfl, hsz, hP, hK, hD0⟩ := hv
  have hx := B.exec
  have hb := B.bytes
  have hr := B.returns
  have hts := atoms_spec (ws := wsX1_lastMove) B.pre
  have hown : s.vm.findClass RX1 = some m.cls := findClass_of_methodNamed B.named
  have hlocks := B.notSynchronized
  subst hsz
  have hD := hD0
  generalize hAe : va_A [] s.heap.size = A at ⊢
  have hA : ∀ q : Nat, s.heap.size ≤ q → A q := fun q h => by rw [← hAe]; exact Or.inr h
  have hS : va_S A s.heap s.heap [] := va_S.rf
  have hP : va_P (dC, dI) vwCl (oW cq Z) s.heap := hP
  have hl := lv_entry ([.ref o, .int x1, .int x2]) (n := 6) (Nat.le_of_ble_eq_true rfl)
  rw [lg_entry_eq]
  generalize (lg_sl ([.ref o, .int x1, .int x2]) ++ List.replicate (6 - (lg_sl ([.ref o, .int x1, .int x2])).length) Slot.unset).toArray = ls at hl ⊢
  have hl : lv_has ls 6 [(0, .ref o), (1, .int x1), (2, .int x2)] := hl
  refine lv_null hx hb dX1_lastMove_0 ?_
  refine lv_astore_nN (lv' := [(3, .null), (0, .ref o), (1, .int x1), (2, .int x2)]) hx hb dX1_lastMove_1 rfl hl (by decide +kernel) rfl (fun ls hl => ?_)
  refine lv_aload_n hx hb dX1_lastMove_2 rfl (lv_at hl 1 rfl) ?_
  obtain ⟨q_1, hq_1⟩ := og (cq := cq) to.1 (oE_1 to.2)
  rcases hb_3 : oP Z o 8 with _ | b_2
  · refine va_get (D := (dC, dI)) (ci := 1) (v := .null) (C := RX1) (T := TX1) (N := 18) hx hb hts in_wsX1_lastMove_X1 hown hK hP q_1 hq_1 rfl 8 (by decide +kernel) (hts (.fieldLink RX1 87 "ShipOffice$Agreement" "tidings" "LShipOffice$Happening;") iw_X1_lastMove_1) (fun _ h9 => h9) (o_rd hb_3) dX1_lastMove_3 ?_
    refine lv_astoreN (lv' := [(4, .null), (3, .null), (0, .ref o), (1, .int x1), (2, .int x2)]) hx hb dX1_lastMove_6 hl (by decide +kernel) rfl (fun ls hl => ?_)
    have cut_4 : ∀ (n : Nat) (y_5 : Option Nat) (y_6 : Option Nat) (H : Heap) (locs : List Loc) (ls : Array Slot), (oR Z y_5 : Int) ≤ (n : Int) → (∀ b, y_5 = some b → oty Z b 3) → (∀ b, y_6 = some b → oty Z b 3) → va_P (dC, dI) vwCl (oW cq Z) H → va_S A s.heap H locs → lv_has ls 6 [(4, va_rf y_5), (3, va_rf y_6), (0, .ref o), (1, .int x1), (2, .int x2)] → W p l e (headSpec wsX1_lastMove { frames := 0, cells := 0, slots := 0, locals := 0 }).room s m #[Value.ref o, Value.int x1, Value.int x2] below meth c H locs 0 0 (MQ below (va_Qq (fun (r : Option Nat) (u : Unit) => (∀ b, r = some b → oty Z b 3)) (fun _ _ => True) A) #[Value.ref o, Value.int x1, Value.int x2] s 0 0 A) (F0 m 8 ls []) := by
      intro n
      induction n using Nat.strongRecOn with
      | ind n ih =>
        intro y_5 y_6 H locs ls hm ty_5 ty_6 hP hS hl
        rcases y_5 with _ | b_7
        · have hl : lv_has ls 6 [(4, .null), (3, va_rf y_6), (0, .ref o), (1, .int x1), (2, .int x2)] := hl
          rcases y_6 with _ | b_8
          · have hl : lv_has ls 6 [(4, .null), (3, .null), (0, .ref o), (1, .int x1), (2, .int x2)] := hl
            refine lv_aloadN hx hb dX1_lastMove_8 (lv_at hl 0 rfl) ?_
            refine lv_ifnullN (tgt := 81) hx hb dX1_lastMove_10 (by decide +kernel) ?_
            refine lv_aload_nN hx hb dX1_lastMove_81 rfl (lv_at hl 1 rfl) ?_
            exact W.aret (v := .null) hx hb hr (Or.inl ⟨_, rfl⟩) (Or.inl rfl) (fun t ht hW => ⟨⟨none, (), rfl, (fun b h => by cases h), trivial⟩, hS.F ht⟩) hS.2.2 dX1_lastMove_82
          · have hl : lv_has ls 6 [(4, .null), (3, .ref b_8), (0, .ref o), (1, .int x1), (2, .int x2)] := hl
            have tb_8 : oty Z b_8 3 := ty_6 b_8 rfl
            have rb_8 : oR Z (some b_8) = oG Z b_8 + 1 := rfl
            refine lv_aloadN hx hb dX1_lastMove_8 (lv_at hl 0 rfl) ?_
            refine lv_ifnullN (tgt := 81) hx hb dX1_lastMove_10 (by decide +kernel) ?_
            refine lv_aload_n hx hb dX1_lastMove_81 rfl (lv_at hl 1 rfl) ?_
            exact W.aret (v := .ref b_8) hx hb hr (Or.inl ⟨_, rfl⟩) (Or.inr ⟨_, rfl⟩) (fun t ht hW => ⟨⟨(some b_8), (), rfl, (fun b h => by cases h; exact tb_8), trivial⟩, hS.F ht⟩) hS.2.2 dX1_lastMove_82
        · have hl : lv_has ls 6 [(4, .ref b_7), (3, va_rf y_6), (0, .ref o), (1, .int x1), (2, .int x2)] := hl
          have tb_7 : oty Z b_7 3 := ty_5 b_7 rfl
          have rb_7 : oR Z (some b_7) = oG Z b_7 + 1 := rfl
          rcases y_6 with _ | b_9
          · have hl : lv_has ls 6 [(4, .ref b_7), (3, .null), (0, .ref o), (1, .int x1), (2, .int x2)] := hl
            refine lv_aload hx hb dX1_lastMove_8 (lv_at hl 0 rfl) ?_
            refine lv_ifnull hx hb dX1_lastMove_10 ?_
            refine lv_aload hx hb dX1_lastMove_13 (lv_at hl 0 rfl) ?_
            obtain ⟨q_10, hq_10⟩ := og (cq := cq) tb_7.1 (oE_3 tb_7.2)
            refine va_get (D := (dC, dI)) (ci := 3) (v := .int (oI Z b_7 0)) (C := RX3) (T := TX3) (N := 6) hx hb hts in_wsX1_lastMove_X3 hown hK hP q_10 hq_10 rfl 0 (by decide +kernel) (hts (.fieldLink RX1 64 "ShipOffice$Happening" "kind" "I") iw_X1_lastMove_2) (fun _ h9 => h9) rfl dX1_lastMove_15 ?_
            refine lv_topi (fun x_11 ex_11 => ?_)
            clear ex_11
            refine lv_iconst (v := 2) hx hb dX1_lastMove_18 (by decide +kernel) ?_
            refine lv_icmp_eq (tgt := 44) hx hb dX1_lastMove_19 (by decide +kernel) (fun c_12 => ?_) (fun c_12 => ?_)
            · have dc_12 := c_eq (a := x_11.toInt) (b := 2) rfl (by decide +kernel) c_12
              refine lv_iconst (v := 0) hx hb dX1_lastMove_44 (by decide +kernel) ?_
              refine lv_istore (lv' := [(5, .int 0), (4, .ref b_7), (3, .null), (0, .ref o), (1, .int x1), (2, .int x2)]) hx hb dX1_lastMove_45 hl (by decide +kernel) rfl (fun ls hl => ?_)
              refine lv_iload hx hb dX1_lastMove_47 (lv_at hl 0 rfl) ?_
              refine lv_if_eq (tgt := 71) hx hb dX1_lastMove_49 (by decide +kernel) (fun _ => ?_) (fun c_13 => absurd c_13 (by decide +kernel))
              refine lv_aload hx hb dX1_lastMove_71 (lv_at hl 1 rfl) ?_
              rcases hb_15 : oP Z b_7 5 with _ | b_14
              · refine va_get (D := (dC, dI)) (ci := 3) (v := .null) (C := RX3) (T := TX3) (N := 6) hx hb hts in_wsX1_lastMove_X3 hown hK hP q_10 hq_10 rfl 5 (by decide +kernel) (hts (.fieldLink RX1 97 "ShipOffice$Happening" "before" "LShipOffice$Happening;") iw_X1_lastMove_3) (fun _ h9 => h9) (o_rd hb_15) dX1_lastMove_73 ?_
                have r_16 : oR Z none = 0 := rfl
                refine lv_astoreN (lv' := [(4, .null), (5, .int 0), (3, .null), (0, .ref o), (1, .int x1), (2, .int x2)]) hx hb dX1_lastMove_76 hl (by decide +kernel) rfl (fun ls hl => ?_)
                refine lv_goto (tgt := 8) hx hb dX1_lastMove_78 (by decide +kernel) ?_
                exact ih (n - 1) (by omega) none none _ _ ls (by omega) (fun b h => by cases h) (fun b h => by cases h) hP hS (lv_sub hl [0, 2, 3, 4, 5] rfl)
              · refine va_get (D := (dC, dI)) (ci := 3) (v := .ref b_14) (C := RX3) (T := TX3) (N := 6) hx hb hts in_wsX1_lastMove_X3 hown hK hP q_10 hq_10 rfl 5 (by decide +kernel) (hts (.fieldLink RX1 97 "ShipOffice$Happening" "before" "LShipOffice$Happening;") iw_X1_lastMove_3) (fun _ h9 => h9) (o_rd hb_15) dX1_lastMove_73 ?_
                have tb_14 : oty Z b_14 3 := oInv.rd gI tb_7.2 hb_15 rfl rfl
                have hGb_14 : oG Z b_14 < oG Z b_7 := gI.2.2.2.2.2.1 b_7 b_14 tb_7.2 hb_15
                have rb_14 : oR Z (some b_14) = oG Z b_14 + 1 := rfl
                refine lv_astore (lv' := [(4, .ref b_14), (5, .int 0), (3, .null), (0, .ref o), (1, .int x1), (2, .int x2)]) hx hb dX1_lastMove_76 hl (by decide +kernel) rfl (fun ls hl => ?_)
                refine lv_goto (tgt := 8) hx hb dX1_lastMove_78 (by decide +kernel) ?_
                exact ih (n - 1) (by omega) (some b_14) none _ _ ls (by omega) (fun b h => by cases h; exact tb_14) (fun b h => by cases h) hP hS (lv_sub hl [0, 2, 3, 4, 5] rfl)
            · have dc_12 := c_ne (a := x_11.toInt) (b := 2) rfl (by decide +kernel) c_12
              refine lv_aload hx hb dX1_lastMove_22 (lv_at hl 0 rfl) ?_
              refine va_get (D := (dC, dI)) (ci := 3) (v := .int (oI Z b_7 2)) (C := RX3) (T := TX3) (N := 6) hx hb hts in_wsX1_lastMove_X3 hown hK hP q_10 hq_10 rfl 2 (by decide +kernel) (hts (.fieldLink RX1 91 "ShipOffice$Happening" "told" "I") iw_X1_lastMove_4) (fun _ h9 => h9) rfl dX1_lastMove_24 ?_
              refine lv_topi (fun x_17 ex_17 => ?_)
              clear ex_17
              refine lv_iload_n hx hb dX1_lastMove_27 rfl (lv_at hl 4 rfl) ?_
              refine lv_icmp_gt (tgt := 44) hx hb dX1_lastMove_28 (by decide +kernel) (fun c_18 => ?_) (fun c_18 => ?_)
              · have dc_18 := c_lt (a := x2.toInt) (b := x_17.toInt) rfl rfl c_18
                refine lv_iconst (v := 0) hx hb dX1_lastMove_44 (by decide +kernel) ?_
                refine lv_istore (lv' := [(5, .int 0), (4, .ref b_7), (3, .null), (0, .ref o), (1, .int x1), (2, .int x2)]) hx hb dX1_lastMove_45 hl (by decide +kernel) rfl (fun ls hl => ?_)
                refine lv_iload hx hb dX1_lastMove_47 (lv_at hl 0 rfl) ?_
                refine lv_if_eq (tgt := 71) hx hb dX1_lastMove_49 (by decide +kernel) (fun _ => ?_) (fun c_19 => absurd c_19 (by decide +kernel))
                refine lv_aload hx hb dX1_lastMove_71 (lv_at hl 1 rfl) ?_
                rcases hb_21 : oP Z b_7 5 with _ | b_20
                · refine va_get (D := (dC, dI)) (ci := 3) (v := .null) (C := RX3) (T := TX3) (N := 6) hx hb hts in_wsX1_lastMove_X3 hown hK hP q_10 hq_10 rfl 5 (by decide +kernel) (hts (.fieldLink RX1 97 "ShipOffice$Happening" "before" "LShipOffice$Happening;") iw_X1_lastMove_3) (fun _ h9 => h9) (o_rd hb_21) dX1_lastMove_73 ?_
                  have r_22 : oR Z none = 0 := rfl
                  refine lv_astoreN (lv' := [(4, .null), (5, .int 0), (3, .null), (0, .ref o), (1, .int x1), (2, .int x2)]) hx hb dX1_lastMove_76 hl (by decide +kernel) rfl (fun ls hl => ?_)
                  refine lv_goto (tgt := 8) hx hb dX1_lastMove_78 (by decide +kernel) ?_
                  exact ih (n - 1) (by omega) none none _ _ ls (by omega) (fun b h => by cases h) (fun b h => by cases h) hP hS (lv_sub hl [0, 2, 3, 4, 5] rfl)
                · refine va_get (D := (dC, dI)) (ci := 3) (v := .ref b_20) (C := RX3) (T := TX3) (N := 6) hx hb hts in_wsX1_lastMove_X3 hown hK hP q_10 hq_10 rfl 5 (by decide +kernel) (hts (.fieldLink RX1 97 "ShipOffice$Happening" "before" "LShipOffice$Happening;") iw_X1_lastMove_3) (fun _ h9 => h9) (o_rd hb_21) dX1_lastMove_73 ?_
                  have tb_20 : oty Z b_20 3 := oInv.rd gI tb_7.2 hb_21 rfl rfl
                  have hGb_20 : oG Z b_20 < oG Z b_7 := gI.2.2.2.2.2.1 b_7 b_20 tb_7.2 hb_21
                  have rb_20 : oR Z (some b_20) = oG Z b_20 + 1 := rfl
                  refine lv_astore (lv' := [(4, .ref b_20), (5, .int 0), (3, .null), (0, .ref o), (1, .int x1), (2, .int x2)]) hx hb dX1_lastMove_76 hl (by decide +kernel) rfl (fun ls hl => ?_)
                  refine lv_goto (tgt := 8) hx hb dX1_lastMove_78 (by decide +kernel) ?_
                  exact ih (n - 1) (by omega) (some b_20) none _ _ ls (by omega) (fun b h => by cases h; exact tb_20) (fun b h => by cases h) hP hS (lv_sub hl [0, 2, 3, 4, 5] rfl)
              · have dc_18 := c_nlt (a := x2.toInt) (b := x_17.toInt) rfl rfl c_18
                refine lv_aload hx hb dX1_lastMove_31 (lv_at hl 0 rfl) ?_
                refine va_get (D := (dC, dI)) (ci := 3) (v := .int (oI Z b_7 1)) (C := RX3) (T := TX3) (N := 6) hx hb hts in_wsX1_lastMove_X3 hown hK hP q_10 hq_10 rfl 1 (by decide +kernel) (hts (.fieldLink RX1 94 "ShipOffice$Happening" "day" "I") iw_X1_lastMove_5) (fun _ h9 => h9) rfl dX1_lastMove_33 ?_
                refine lv_topi (fun x_23 ex_23 => ?_)
                clear ex_23
                refine lv_iload_n hx hb dX1_lastMove_36 rfl (lv_at hl 3 rfl) ?_
                refine lv_icmp_gt (tgt := 44) hx hb dX1_lastMove_37 (by decide +kernel) (fun c_24 => ?_) (fun c_24 => ?_)
                · have dc_24 := c_lt (a := x1.toInt) (b := x_23.toInt) rfl rfl c_24
                  refine lv_iconst (v := 0) hx hb dX1_lastMove_44 (by decide +kernel) ?_
                  refine lv_istore (lv' := [(5, .int 0), (4, .ref b_7), (3, .null), (0, .ref o), (1, .int x1), (2, .int x2)]) hx hb dX1_lastMove_45 hl (by decide +kernel) rfl (fun ls hl => ?_)
                  refine lv_iload hx hb dX1_lastMove_47 (lv_at hl 0 rfl) ?_
                  refine lv_if_eq (tgt := 71) hx hb dX1_lastMove_49 (by decide +kernel) (fun _ => ?_) (fun c_25 => absurd c_25 (by decide +kernel))
                  refine lv_aload hx hb dX1_lastMove_71 (lv_at hl 1 rfl) ?_
                  rcases hb_27 : oP Z b_7 5 with _ | b_26
                  · refine va_get (D := (dC, dI)) (ci := 3) (v := .null) (C := RX3) (T := TX3) (N := 6) hx hb hts in_wsX1_lastMove_X3 hown hK hP q_10 hq_10 rfl 5 (by decide +kernel) (hts (.fieldLink RX1 97 "ShipOffice$Happening" "before" "LShipOffice$Happening;") iw_X1_lastMove_3) (fun _ h9 => h9) (o_rd hb_27) dX1_lastMove_73 ?_
                    have r_28 : oR Z none = 0 := rfl
                    refine lv_astoreN (lv' := [(4, .null), (5, .int 0), (3, .null), (0, .ref o), (1, .int x1), (2, .int x2)]) hx hb dX1_lastMove_76 hl (by decide +kernel) rfl (fun ls hl => ?_)
                    refine lv_goto (tgt := 8) hx hb dX1_lastMove_78 (by decide +kernel) ?_
                    exact ih (n - 1) (by omega) none none _ _ ls (by omega) (fun b h => by cases h) (fun b h => by cases h) hP hS (lv_sub hl [0, 2, 3, 4, 5] rfl)
                  · refine va_get (D := (dC, dI)) (ci := 3) (v := .ref b_26) (C := RX3) (T := TX3) (N := 6) hx hb hts in_wsX1_lastMove_X3 hown hK hP q_10 hq_10 rfl 5 (by decide +kernel) (hts (.fieldLink RX1 97 "ShipOffice$Happening" "before" "LShipOffice$Happening;") iw_X1_lastMove_3) (fun _ h9 => h9) (o_rd hb_27) dX1_lastMove_73 ?_
                    have tb_26 : oty Z b_26 3 := oInv.rd gI tb_7.2 hb_27 rfl rfl
                    have hGb_26 : oG Z b_26 < oG Z b_7 := gI.2.2.2.2.2.1 b_7 b_26 tb_7.2 hb_27
                    have rb_26 : oR Z (some b_26) = oG Z b_26 + 1 := rfl
                    refine lv_astore (lv' := [(4, .ref b_26), (5, .int 0), (3, .null), (0, .ref o), (1, .int x1), (2, .int x2)]) hx hb dX1_lastMove_76 hl (by decide +kernel) rfl (fun ls hl => ?_)
                    refine lv_goto (tgt := 8) hx hb dX1_lastMove_78 (by decide +kernel) ?_
                    exact ih (n - 1) (by omega) (some b_26) none _ _ ls (by omega) (fun b h => by cases h; exact tb_26) (fun b h => by cases h) hP hS (lv_sub hl [0, 2, 3, 4, 5] rfl)
                · have dc_24 := c_nlt (a := x1.toInt) (b := x_23.toInt) rfl rfl c_24
                  refine lv_iconst (v := 1) hx hb dX1_lastMove_40 (by decide +kernel) ?_
                  refine lv_goto (tgt := 45) hx hb dX1_lastMove_41 (by decide +kernel) ?_
                  refine lv_istore (lv' := [(5, .int 1), (4, .ref b_7), (3, .null), (0, .ref o), (1, .int x1), (2, .int x2)]) hx hb dX1_lastMove_45 hl (by decide +kernel) rfl (fun ls hl => ?_)
                  refine lv_iload hx hb dX1_lastMove_47 (lv_at hl 0 rfl) ?_
                  refine lv_if_eq (tgt := 71) hx hb dX1_lastMove_49 (by decide +kernel) (fun c_29 => absurd c_29 (by decide +kernel)) (fun _ => ?_)
                  refine lv_aload_nN hx hb dX1_lastMove_52 rfl (lv_at hl 2 rfl) ?_
                  refine lv_ifnullN (tgt := 68) hx hb dX1_lastMove_53 (by decide +kernel) ?_
                  refine lv_aload hx hb dX1_lastMove_68 (lv_at hl 1 rfl) ?_
                  refine lv_astore_n (lv' := [(3, .ref b_7), (5, .int 1), (4, .ref b_7), (0, .ref o), (1, .int x1), (2, .int x2)]) hx hb dX1_lastMove_70 rfl hl (by decide +kernel) rfl (fun ls hl => ?_)
                  refine lv_aload hx hb dX1_lastMove_71 (lv_at hl 2 rfl) ?_
                  rcases hb_31 : oP Z b_7 5 with _ | b_30
                  · refine va_get (D := (dC, dI)) (ci := 3) (v := .null) (C := RX3) (T := TX3) (N := 6) hx hb hts in_wsX1_lastMove_X3 hown hK hP q_10 hq_10 rfl 5 (by decide +kernel) (hts (.fieldLink RX1 97 "ShipOffice$Happening" "before" "LShipOffice$Happening;") iw_X1_lastMove_3) (fun _ h9 => h9) (o_rd hb_31) dX1_lastMove_73 ?_
                    have r_32 : oR Z none = 0 := rfl
                    refine lv_astoreN (lv' := [(4, .null), (3, .ref b_7), (5, .int 1), (0, .ref o), (1, .int x1), (2, .int x2)]) hx hb dX1_lastMove_76 hl (by decide +kernel) rfl (fun ls hl => ?_)
                    refine lv_goto (tgt := 8) hx hb dX1_lastMove_78 (by decide +kernel) ?_
                    exact ih (n - 1) (by omega) none (some b_7) _ _ ls (by omega) (fun b h => by cases h) (fun b h => by cases h; exact tb_7) hP hS (lv_sub hl [0, 1, 3, 4, 5] rfl)
                  · refine va_get (D := (dC, dI)) (ci := 3) (v := .ref b_30) (C := RX3) (T := TX3) (N := 6) hx hb hts in_wsX1_lastMove_X3 hown hK hP q_10 hq_10 rfl 5 (by decide +kernel) (hts (.fieldLink RX1 97 "ShipOffice$Happening" "before" "LShipOffice$Happening;") iw_X1_lastMove_3) (fun _ h9 => h9) (o_rd hb_31) dX1_lastMove_73 ?_
                    have tb_30 : oty Z b_30 3 := oInv.rd gI tb_7.2 hb_31 rfl rfl
                    have hGb_30 : oG Z b_30 < oG Z b_7 := gI.2.2.2.2.2.1 b_7 b_30 tb_7.2 hb_31
                    have rb_30 : oR Z (some b_30) = oG Z b_30 + 1 := rfl
                    refine lv_astore (lv' := [(4, .ref b_30), (3, .ref b_7), (5, .int 1), (0, .ref o), (1, .int x1), (2, .int x2)]) hx hb dX1_lastMove_76 hl (by decide +kernel) rfl (fun ls hl => ?_)
                    refine lv_goto (tgt := 8) hx hb dX1_lastMove_78 (by decide +kernel) ?_
                    exact ih (n - 1) (by omega) (some b_30) (some b_7) _ _ ls (by omega) (fun b h => by cases h; exact tb_30) (fun b h => by cases h; exact tb_7) hP hS (lv_sub hl [0, 1, 3, 4, 5] rfl)
          · have hl : lv_has ls 6 [(4, .ref b_7), (3, .ref b_9), (0, .ref o), (1, .int x1), (2, .int x2)] := hl
            have tb_9 : oty Z b_9 3 := ty_6 b_9 rfl
            have rb_9 : oR Z (some b_9) = oG Z b_9 + 1 := rfl
            refine lv_aload hx hb dX1_lastMove_8 (lv_at hl 0 rfl) ?_
            refine lv_ifnull hx hb dX1_lastMove_10 ?_
            refine lv_aload hx hb dX1_lastMove_13 (lv_at hl 0 rfl) ?_
            obtain ⟨q_33, hq_33⟩ := og (cq := cq) tb_7.1 (oE_3 tb_7.2)
            refine va_get (D := (dC, dI)) (ci := 3) (v := .int (oI Z b_7 0)) (C := RX3) (T := TX3) (N := 6) hx hb hts in_wsX1_lastMove_X3 hown hK hP q_33 hq_33 rfl 0 (by decide +kernel) (hts (.fieldLink RX1 64 "ShipOffice$Happening" "kind" "I") iw_X1_lastMove_2) (fun _ h9 => h9) rfl dX1_lastMove_15 ?_
            refine lv_topi (fun x_34 ex_34 => ?_)
            clear ex_34
            refine lv_iconst (v := 2) hx hb dX1_lastMove_18 (by decide +kernel) ?_
            refine lv_icmp_eq (tgt := 44) hx hb dX1_lastMove_19 (by decide +kernel) (fun c_35 => ?_) (fun c_35 => ?_)
            · have dc_35 := c_eq (a := x_34.toInt) (b := 2) rfl (by decide +kernel) c_35
              refine lv_iconst (v := 0) hx hb dX1_lastMove_44 (by decide +kernel) ?_
              refine lv_istore (lv' := [(5, .int 0), (4, .ref b_7), (3, .ref b_9), (0, .ref o), (1, .int x1), (2, .int x2)]) hx hb dX1_lastMove_45 hl (by decide +kernel) rfl (fun ls hl => ?_)
              refine lv_iload hx hb dX1_lastMove_47 (lv_at hl 0 rfl) ?_
              refine lv_if_eq (tgt := 71) hx hb dX1_lastMove_49 (by decide +kernel) (fun _ => ?_) (fun c_36 => absurd c_36 (by decide +kernel))
              refine lv_aload hx hb dX1_lastMove_71 (lv_at hl 1 rfl) ?_
              rcases hb_38 : oP Z b_7 5 with _ | b_37
              · refine va_get (D := (dC, dI)) (ci := 3) (v := .null) (C := RX3) (T := TX3) (N := 6) hx hb hts in_wsX1_lastMove_X3 hown hK hP q_33 hq_33 rfl 5 (by decide +kernel) (hts (.fieldLink RX1 97 "ShipOffice$Happening" "before" "LShipOffice$Happening;") iw_X1_lastMove_3) (fun _ h9 => h9) (o_rd hb_38) dX1_lastMove_73 ?_
                have r_39 : oR Z none = 0 := rfl
                refine lv_astoreN (lv' := [(4, .null), (5, .int 0), (3, .ref b_9), (0, .ref o), (1, .int x1), (2, .int x2)]) hx hb dX1_lastMove_76 hl (by decide +kernel) rfl (fun ls hl => ?_)
                refine lv_goto (tgt := 8) hx hb dX1_lastMove_78 (by decide +kernel) ?_
                exact ih (n - 1) (by omega) none (some b_9) _ _ ls (by omega) (fun b h => by cases h) (fun b h => by cases h; exact tb_9) hP hS (lv_sub hl [0, 2, 3, 4, 5] rfl)
              · refine va_get (D := (dC, dI)) (ci := 3) (v := .ref b_37) (C := RX3) (T := TX3) (N := 6) hx hb hts in_wsX1_lastMove_X3 hown hK hP q_33 hq_33 rfl 5 (by decide +kernel) (hts (.fieldLink RX1 97 "ShipOffice$Happening" "before" "LShipOffice$Happening;") iw_X1_lastMove_3) (fun _ h9 => h9) (o_rd hb_38) dX1_lastMove_73 ?_
                have tb_37 : oty Z b_37 3 := oInv.rd gI tb_7.2 hb_38 rfl rfl
                have hGb_37 : oG Z b_37 < oG Z b_7 := gI.2.2.2.2.2.1 b_7 b_37 tb_7.2 hb_38
                have rb_37 : oR Z (some b_37) = oG Z b_37 + 1 := rfl
                refine lv_astore (lv' := [(4, .ref b_37), (5, .int 0), (3, .ref b_9), (0, .ref o), (1, .int x1), (2, .int x2)]) hx hb dX1_lastMove_76 hl (by decide +kernel) rfl (fun ls hl => ?_)
                refine lv_goto (tgt := 8) hx hb dX1_lastMove_78 (by decide +kernel) ?_
                exact ih (n - 1) (by omega) (some b_37) (some b_9) _ _ ls (by omega) (fun b h => by cases h; exact tb_37) (fun b h => by cases h; exact tb_9) hP hS (lv_sub hl [0, 2, 3, 4, 5] rfl)
            · have dc_35 := c_ne (a := x_34.toInt) (b := 2) rfl (by decide +kernel) c_35
              refine lv_aload hx hb dX1_lastMove_22 (lv_at hl 0 rfl) ?_
              refine va_get (D := (dC, dI)) (ci := 3) (v := .int (oI Z b_7 2)) (C := RX3) (T := TX3) (N := 6) hx hb hts in_wsX1_lastMove_X3 hown hK hP q_33 hq_33 rfl 2 (by decide +kernel) (hts (.fieldLink RX1 91 "ShipOffice$Happening" "told" "I") iw_X1_lastMove_4) (fun _ h9 => h9) rfl dX1_lastMove_24 ?_
              refine lv_topi (fun x_40 ex_40 => ?_)
              clear ex_40
              refine lv_iload_n hx hb dX1_lastMove_27 rfl (lv_at hl 4 rfl) ?_
              refine lv_icmp_gt (tgt := 44) hx hb dX1_lastMove_28 (by decide +kernel) (fun c_41 => ?_) (fun c_41 => ?_)
              · have dc_41 := c_lt (a := x2.toInt) (b := x_40.toInt) rfl rfl c_41
                refine lv_iconst (v := 0) hx hb dX1_lastMove_44 (by decide +kernel) ?_
                refine lv_istore (lv' := [(5, .int 0), (4, .ref b_7), (3, .ref b_9), (0, .ref o), (1, .int x1), (2, .int x2)]) hx hb dX1_lastMove_45 hl (by decide +kernel) rfl (fun ls hl => ?_)
                refine lv_iload hx hb dX1_lastMove_47 (lv_at hl 0 rfl) ?_
                refine lv_if_eq (tgt := 71) hx hb dX1_lastMove_49 (by decide +kernel) (fun _ => ?_) (fun c_42 => absurd c_42 (by decide +kernel))
                refine lv_aload hx hb dX1_lastMove_71 (lv_at hl 1 rfl) ?_
                rcases hb_44 : oP Z b_7 5 with _ | b_43
                · refine va_get (D := (dC, dI)) (ci := 3) (v := .null) (C := RX3) (T := TX3) (N := 6) hx hb hts in_wsX1_lastMove_X3 hown hK hP q_33 hq_33 rfl 5 (by decide +kernel) (hts (.fieldLink RX1 97 "ShipOffice$Happening" "before" "LShipOffice$Happening;") iw_X1_lastMove_3) (fun _ h9 => h9) (o_rd hb_44) dX1_lastMove_73 ?_
                  have r_45 : oR Z none = 0 := rfl
                  refine lv_astoreN (lv' := [(4, .null), (5, .int 0), (3, .ref b_9), (0, .ref o), (1, .int x1), (2, .int x2)]) hx hb dX1_lastMove_76 hl (by decide +kernel) rfl (fun ls hl => ?_)
                  refine lv_goto (tgt := 8) hx hb dX1_lastMove_78 (by decide +kernel) ?_
                  exact ih (n - 1) (by omega) none (some b_9) _ _ ls (by omega) (fun b h => by cases h) (fun b h => by cases h; exact tb_9) hP hS (lv_sub hl [0, 2, 3, 4, 5] rfl)
                · refine va_get (D := (dC, dI)) (ci := 3) (v := .ref b_43) (C := RX3) (T := TX3) (N := 6) hx hb hts in_wsX1_lastMove_X3 hown hK hP q_33 hq_33 rfl 5 (by decide +kernel) (hts (.fieldLink RX1 97 "ShipOffice$Happening" "before" "LShipOffice$Happening;") iw_X1_lastMove_3) (fun _ h9 => h9) (o_rd hb_44) dX1_lastMove_73 ?_
                  have tb_43 : oty Z b_43 3 := oInv.rd gI tb_7.2 hb_44 rfl rfl
                  have hGb_43 : oG Z b_43 < oG Z b_7 := gI.2.2.2.2.2.1 b_7 b_43 tb_7.2 hb_44
                  have rb_43 : oR Z (some b_43) = oG Z b_43 + 1 := rfl
                  refine lv_astore (lv' := [(4, .ref b_43), (5, .int 0), (3, .ref b_9), (0, .ref o), (1, .int x1), (2, .int x2)]) hx hb dX1_lastMove_76 hl (by decide +kernel) rfl (fun ls hl => ?_)
                  refine lv_goto (tgt := 8) hx hb dX1_lastMove_78 (by decide +kernel) ?_
                  exact ih (n - 1) (by omega) (some b_43) (some b_9) _ _ ls (by omega) (fun b h => by cases h; exact tb_43) (fun b h => by cases h; exact tb_9) hP hS (lv_sub hl [0, 2, 3, 4, 5] rfl)
              · have dc_41 := c_nlt (a := x2.toInt) (b := x_40.toInt) rfl rfl c_41
                refine lv_aload hx hb dX1_lastMove_31 (lv_at hl 0 rfl) ?_
                refine va_get (D := (dC, dI)) (ci := 3) (v := .int (oI Z b_7 1)) (C := RX3) (T := TX3) (N := 6) hx hb hts in_wsX1_lastMove_X3 hown hK hP q_33 hq_33 rfl 1 (by decide +kernel) (hts (.fieldLink RX1 94 "ShipOffice$Happening" "day" "I") iw_X1_lastMove_5) (fun _ h9 => h9) rfl dX1_lastMove_33 ?_
                refine lv_topi (fun x_46 ex_46 => ?_)
                clear ex_46
                refine lv_iload_n hx hb dX1_lastMove_36 rfl (lv_at hl 3 rfl) ?_
                refine lv_icmp_gt (tgt := 44) hx hb dX1_lastMove_37 (by decide +kernel) (fun c_47 => ?_) (fun c_47 => ?_)
                · have dc_47 := c_lt (a := x1.toInt) (b := x_46.toInt) rfl rfl c_47
                  refine lv_iconst (v := 0) hx hb dX1_lastMove_44 (by decide +kernel) ?_
                  refine lv_istore (lv' := [(5, .int 0), (4, .ref b_7), (3, .ref b_9), (0, .ref o), (1, .int x1), (2, .int x2)]) hx hb dX1_lastMove_45 hl (by decide +kernel) rfl (fun ls hl => ?_)
                  refine lv_iload hx hb dX1_lastMove_47 (lv_at hl 0 rfl) ?_
                  refine lv_if_eq (tgt := 71) hx hb dX1_lastMove_49 (by decide +kernel) (fun _ => ?_) (fun c_48 => absurd c_48 (by decide +kernel))
                  refine lv_aload hx hb dX1_lastMove_71 (lv_at hl 1 rfl) ?_
                  rcases hb_50 : oP Z b_7 5 with _ | b_49
                  · refine va_get (D := (dC, dI)) (ci := 3) (v := .null) (C := RX3) (T := TX3) (N := 6) hx hb hts in_wsX1_lastMove_X3 hown hK hP q_33 hq_33 rfl 5 (by decide +kernel) (hts (.fieldLink RX1 97 "ShipOffice$Happening" "before" "LShipOffice$Happening;") iw_X1_lastMove_3) (fun _ h9 => h9) (o_rd hb_50) dX1_lastMove_73 ?_
                    have r_51 : oR Z none = 0 := rfl
                    refine lv_astoreN (lv' := [(4, .null), (5, .int 0), (3, .ref b_9), (0, .ref o), (1, .int x1), (2, .int x2)]) hx hb dX1_lastMove_76 hl (by decide +kernel) rfl (fun ls hl => ?_)
                    refine lv_goto (tgt := 8) hx hb dX1_lastMove_78 (by decide +kernel) ?_
                    exact ih (n - 1) (by omega) none (some b_9) _ _ ls (by omega) (fun b h => by cases h) (fun b h => by cases h; exact tb_9) hP hS (lv_sub hl [0, 2, 3, 4, 5] rfl)
                  · refine va_get (D := (dC, dI)) (ci := 3) (v := .ref b_49) (C := RX3) (T := TX3) (N := 6) hx hb hts in_wsX1_lastMove_X3 hown hK hP q_33 hq_33 rfl 5 (by decide +kernel) (hts (.fieldLink RX1 97 "ShipOffice$Happening" "before" "LShipOffice$Happening;") iw_X1_lastMove_3) (fun _ h9 => h9) (o_rd hb_50) dX1_lastMove_73 ?_
                    have tb_49 : oty Z b_49 3 := oInv.rd gI tb_7.2 hb_50 rfl rfl
                    have hGb_49 : oG Z b_49 < oG Z b_7 := gI.2.2.2.2.2.1 b_7 b_49 tb_7.2 hb_50
                    have rb_49 : oR Z (some b_49) = oG Z b_49 + 1 := rfl
                    refine lv_astore (lv' := [(4, .ref b_49), (5, .int 0), (3, .ref b_9), (0, .ref o), (1, .int x1), (2, .int x2)]) hx hb dX1_lastMove_76 hl (by decide +kernel) rfl (fun ls hl => ?_)
                    refine lv_goto (tgt := 8) hx hb dX1_lastMove_78 (by decide +kernel) ?_
                    exact ih (n - 1) (by omega) (some b_49) (some b_9) _ _ ls (by omega) (fun b h => by cases h; exact tb_49) (fun b h => by cases h; exact tb_9) hP hS (lv_sub hl [0, 2, 3, 4, 5] rfl)
                · have dc_47 := c_nlt (a := x1.toInt) (b := x_46.toInt) rfl rfl c_47
                  refine lv_iconst (v := 1) hx hb dX1_lastMove_40 (by decide +kernel) ?_
                  refine lv_goto (tgt := 45) hx hb dX1_lastMove_41 (by decide +kernel) ?_
                  refine lv_istore (lv' := [(5, .int 1), (4, .ref b_7), (3, .ref b_9), (0, .ref o), (1, .int x1), (2, .int x2)]) hx hb dX1_lastMove_45 hl (by decide +kernel) rfl (fun ls hl => ?_)
                  refine lv_iload hx hb dX1_lastMove_47 (lv_at hl 0 rfl) ?_
                  refine lv_if_eq (tgt := 71) hx hb dX1_lastMove_49 (by decide +kernel) (fun c_52 => absurd c_52 (by decide +kernel)) (fun _ => ?_)
                  refine lv_aload_n hx hb dX1_lastMove_52 rfl (lv_at hl 2 rfl) ?_
                  refine lv_ifnull hx hb dX1_lastMove_53 ?_
                  refine lv_aload hx hb dX1_lastMove_56 (lv_at hl 1 rfl) ?_
                  refine va_get (D := (dC, dI)) (ci := 3) (v := .int (oI Z b_7 1)) (C := RX3) (T := TX3) (N := 6) hx hb hts in_wsX1_lastMove_X3 hown hK hP q_33 hq_33 rfl 1 (by decide +kernel) (hts (.fieldLink RX1 94 "ShipOffice$Happening" "day" "I") iw_X1_lastMove_5) (fun _ h9 => h9) rfl dX1_lastMove_58 ?_
                  refine lv_topi (fun x_53 ex_53 => ?_)
                  clear ex_53
                  refine lv_aload_n hx hb dX1_lastMove_61 rfl (lv_at hl 2 rfl) ?_
                  obtain ⟨q_54, hq_54⟩ := og (cq := cq) tb_9.1 (oE_3 tb_9.2)
                  refine va_get (D := (dC, dI)) (ci := 3) (v := .int (oI Z b_9 1)) (C := RX3) (T := TX3) (N := 6) hx hb hts in_wsX1_lastMove_X3 hown hK hP q_54 hq_54 rfl 1 (by decide +kernel) (hts (.fieldLink RX1 94 "ShipOffice$Happening" "day" "I") iw_X1_lastMove_5) (fun _ h9 => h9) rfl dX1_lastMove_62 ?_
                  refine lv_topi (fun x_55 ex_55 => ?_)
                  clear ex_55
                  refine lv_icmp_le (tgt := 71) hx hb dX1_lastMove_65 (by decide +kernel) (fun c_56 => ?_) (fun c_56 => ?_)
                  · have dc_56 := c_le (a := x_53.toInt) (b := x_55.toInt) rfl rfl c_56
                    refine lv_aload hx hb dX1_lastMove_71 (lv_at hl 1 rfl) ?_
                    rcases hb_58 : oP Z b_7 5 with _ | b_57
                    · refine va_get (D := (dC, dI)) (ci := 3) (v := .null) (C := RX3) (T := TX3) (N := 6) hx hb hts in_wsX1_lastMove_X3 hown hK hP q_33 hq_33 rfl 5 (by decide +kernel) (hts (.fieldLink RX1 97 "ShipOffice$Happening" "before" "LShipOffice$Happening;") iw_X1_lastMove_3) (fun _ h9 => h9) (o_rd hb_58) dX1_lastMove_73 ?_
                      have r_59 : oR Z none = 0 := rfl
                      refine lv_astoreN (lv' := [(4, .null), (5, .int 1), (3, .ref b_9), (0, .ref o), (1, .int x1), (2, .int x2)]) hx hb dX1_lastMove_76 hl (by decide +kernel) rfl (fun ls hl => ?_)
                      refine lv_goto (tgt := 8) hx hb dX1_lastMove_78 (by decide +kernel) ?_
                      exact ih (n - 1) (by omega) none (some b_9) _ _ ls (by omega) (fun b h => by cases h) (fun b h => by cases h; exact tb_9) hP hS (lv_sub hl [0, 2, 3, 4, 5] rfl)
                    · refine va_get (D := (dC, dI)) (ci := 3) (v := .ref b_57) (C := RX3) (T := TX3) (N := 6) hx hb hts in_wsX1_lastMove_X3 hown hK hP q_33 hq_33 rfl 5 (by decide +kernel) (hts (.fieldLink RX1 97 "ShipOffice$Happening" "before" "LShipOffice$Happening;") iw_X1_lastMove_3) (fun _ h9 => h9) (o_rd hb_58) dX1_lastMove_73 ?_
                      have tb_57 : oty Z b_57 3 := oInv.rd gI tb_7.2 hb_58 rfl rfl
                      have hGb_57 : oG Z b_57 < oG Z b_7 := gI.2.2.2.2.2.1 b_7 b_57 tb_7.2 hb_58
                      have rb_57 : oR Z (some b_57) = oG Z b_57 + 1 := rfl
                      refine lv_astore (lv' := [(4, .ref b_57), (5, .int 1), (3, .ref b_9), (0, .ref o), (1, .int x1), (2, .int x2)]) hx hb dX1_lastMove_76 hl (by decide +kernel) rfl (fun ls hl => ?_)
                      refine lv_goto (tgt := 8) hx hb dX1_lastMove_78 (by decide +kernel) ?_
                      exact ih (n - 1) (by omega) (some b_57) (some b_9) _ _ ls (by omega) (fun b h => by cases h; exact tb_57) (fun b h => by cases h; exact tb_9) hP hS (lv_sub hl [0, 2, 3, 4, 5] rfl)
                  · have dc_56 := c_nle (a := x_53.toInt) (b := x_55.toInt) rfl rfl c_56
                    refine lv_aload hx hb dX1_lastMove_68 (lv_at hl 1 rfl) ?_
                    refine lv_astore_n (lv' := [(3, .ref b_7), (5, .int 1), (4, .ref b_7), (0, .ref o), (1, .int x1), (2, .int x2)]) hx hb dX1_lastMove_70 rfl hl (by decide +kernel) rfl (fun ls hl => ?_)
                    refine lv_aload hx hb dX1_lastMove_71 (lv_at hl 2 rfl) ?_
                    rcases hb_61 : oP Z b_7 5 with _ | b_60
                    · refine va_get (D := (dC, dI)) (ci := 3) (v := .null) (C := RX3) (T := TX3) (N := 6) hx hb hts in_wsX1_lastMove_X3 hown hK hP q_33 hq_33 rfl 5 (by decide +kernel) (hts (.fieldLink RX1 97 "ShipOffice$Happening" "before" "LShipOffice$Happening;") iw_X1_lastMove_3) (fun _ h9 => h9) (o_rd hb_61) dX1_lastMove_73 ?_
                      have r_62 : oR Z none = 0 := rfl
                      refine lv_astoreN (lv' := [(4, .null), (3, .ref b_7), (5, .int 1), (0, .ref o), (1, .int x1), (2, .int x2)]) hx hb dX1_lastMove_76 hl (by decide +kernel) rfl (fun ls hl => ?_)
                      refine lv_goto (tgt := 8) hx hb dX1_lastMove_78 (by decide +kernel) ?_
                      exact ih (n - 1) (by omega) none (some b_7) _ _ ls (by omega) (fun b h => by cases h) (fun b h => by cases h; exact tb_7) hP hS (lv_sub hl [0, 1, 3, 4, 5] rfl)
                    · refine va_get (D := (dC, dI)) (ci := 3) (v := .ref b_60) (C := RX3) (T := TX3) (N := 6) hx hb hts in_wsX1_lastMove_X3 hown hK hP q_33 hq_33 rfl 5 (by decide +kernel) (hts (.fieldLink RX1 97 "ShipOffice$Happening" "before" "LShipOffice$Happening;") iw_X1_lastMove_3) (fun _ h9 => h9) (o_rd hb_61) dX1_lastMove_73 ?_
                      have tb_60 : oty Z b_60 3 := oInv.rd gI tb_7.2 hb_61 rfl rfl
                      have hGb_60 : oG Z b_60 < oG Z b_7 := gI.2.2.2.2.2.1 b_7 b_60 tb_7.2 hb_61
                      have rb_60 : oR Z (some b_60) = oG Z b_60 + 1 := rfl
                      refine lv_astore (lv' := [(4, .ref b_60), (3, .ref b_7), (5, .int 1), (0, .ref o), (1, .int x1), (2, .int x2)]) hx hb dX1_lastMove_76 hl (by decide +kernel) rfl (fun ls hl => ?_)
                      refine lv_goto (tgt := 8) hx hb dX1_lastMove_78 (by decide +kernel) ?_
                      exact ih (n - 1) (by omega) (some b_60) (some b_7) _ _ ls (by omega) (fun b h => by cases h; exact tb_60) (fun b h => by cases h; exact tb_7) hP hS (lv_sub hl [0, 1, 3, 4, 5] rfl)
    exact cut_4 (oR Z none) none none _ _ ls (by omega) (fun b h => by cases h) (fun b h => by cases h) hP hS (lv_sub hl [0, 1, 2, 3, 4] rfl)
  · refine va_get (D := (dC, dI)) (ci := 1) (v := .ref b_2) (C := RX1) (T := TX1) (N := 18) hx hb hts in_wsX1_lastMove_X1 hown hK hP q_1 hq_1 rfl 8 (by decide +kernel) (hts (.fieldLink RX1 87 "ShipOffice$Agreement" "tidings" "LShipOffice$Happening;") iw_X1_lastMove_1) (fun _ h9 => h9) (o_rd hb_3) dX1_lastMove_3 ?_
    have tb_2 : oty Z b_2 3 := oInv.rd gI to.2 hb_3 rfl rfl
    refine lv_astore (lv' := [(4, .ref b_2), (3, .null), (0, .ref o), (1, .int x1), (2, .int x2)]) hx hb dX1_lastMove_6 hl (by decide +kernel) rfl (fun ls hl => ?_)
    have cut_63 : ∀ (n : Nat) (y_64 : Option Nat) (y_65 : Option Nat) (H : Heap) (locs : List Loc) (ls : Array Slot), (oR Z y_64 : Int) ≤ (n : Int) → (∀ b, y_64 = some b → oty Z b 3) → (∀ b, y_65 = some b → oty Z b 3) → va_P (dC, dI) vwCl (oW cq Z) H → va_S A s.heap H locs → lv_has ls 6 [(4, va_rf y_64), (3, va_rf y_65), (0, .ref o), (1, .int x1), (2, .int x2)] → W p l e (headSpec wsX1_lastMove { frames := 0, cells := 0, slots := 0, locals := 0 }).room s m #[Value.ref o, Value.int x1, Value.int x2] below meth c H locs 0 0 (MQ below (va_Qq (fun (r : Option Nat) (u : Unit) => (∀ b, r = some b → oty Z b 3)) (fun _ _ => True) A) #[Value.ref o, Value.int x1, Value.int x2] s 0 0 A) (F0 m 8 ls []) := by
      intro n
      induction n using Nat.strongRecOn with
      | ind n ih =>
        intro y_64 y_65 H locs ls hm ty_64 ty_65 hP hS hl
        rcases y_64 with _ | b_66
        · have hl : lv_has ls 6 [(4, .null), (3, va_rf y_65), (0, .ref o), (1, .int x1), (2, .int x2)] := hl
          rcases y_65 with _ | b_67
          · have hl : lv_has ls 6 [(4, .null), (3, .null), (0, .ref o), (1, .int x1), (2, .int x2)] := hl
            refine lv_aloadN hx hb dX1_lastMove_8 (lv_at hl 0 rfl) ?_
            refine lv_ifnullN (tgt := 81) hx hb dX1_lastMove_10 (by decide +kernel) ?_
            refine lv_aload_nN hx hb dX1_lastMove_81 rfl (lv_at hl 1 rfl) ?_
            exact W.aret (v := .null) hx hb hr (Or.inl ⟨_, rfl⟩) (Or.inl rfl) (fun t ht hW => ⟨⟨none, (), rfl, (fun b h => by cases h), trivial⟩, hS.F ht⟩) hS.2.2 dX1_lastMove_82
          · have hl : lv_has ls 6 [(4, .null), (3, .ref b_67), (0, .ref o), (1, .int x1), (2, .int x2)] := hl
            have tb_67 : oty Z b_67 3 := ty_65 b_67 rfl
            have rb_67 : oR Z (some b_67) = oG Z b_67 + 1 := rfl
            refine lv_aloadN hx hb dX1_lastMove_8 (lv_at hl 0 rfl) ?_
            refine lv_ifnullN (tgt := 81) hx hb dX1_lastMove_10 (by decide +kernel) ?_
            refine lv_aload_n hx hb dX1_lastMove_81 rfl (lv_at hl 1 rfl) ?_
            exact W.aret (v := .ref b_67) hx hb hr (Or.inl ⟨_, rfl⟩) (Or.inr ⟨_, rfl⟩) (fun t ht hW => ⟨⟨(some b_67), (), rfl, (fun b h => by cases h; exact tb_67), trivial⟩, hS.F ht⟩) hS.2.2 dX1_lastMove_82
        · have hl : lv_has ls 6 [(4, .ref b_66), (3, va_rf y_65), (0, .ref o), (1, .int x1), (2, .int x2)] := hl
          have tb_66 : oty Z b_66 3 := ty_64 b_66 rfl
          have rb_66 : oR Z (some b_66) = oG Z b_66 + 1 := rfl
          rcases y_65 with _ | b_68
          · have hl : lv_has ls 6 [(4, .ref b_66), (3, .null), (0, .ref o), (1, .int x1), (2, .int x2)] := hl
            refine lv_aload hx hb dX1_lastMove_8 (lv_at hl 0 rfl) ?_
            refine lv_ifnull hx hb dX1_lastMove_10 ?_
            refine lv_aload hx hb dX1_lastMove_13 (lv_at hl 0 rfl) ?_
            obtain ⟨q_69, hq_69⟩ := og (cq := cq) tb_66.1 (oE_3 tb_66.2)
            refine va_get (D := (dC, dI)) (ci := 3) (v := .int (oI Z b_66 0)) (C := RX3) (T := TX3) (N := 6) hx hb hts in_wsX1_lastMove_X3 hown hK hP q_69 hq_69 rfl 0 (by decide +kernel) (hts (.fieldLink RX1 64 "ShipOffice$Happening" "kind" "I") iw_X1_lastMove_2) (fun _ h9 => h9) rfl dX1_lastMove_15 ?_
            refine lv_topi (fun x_70 ex_70 => ?_)
            clear ex_70
            refine lv_iconst (v := 2) hx hb dX1_lastMove_18 (by decide +kernel) ?_
            refine lv_icmp_eq (tgt := 44) hx hb dX1_lastMove_19 (by decide +kernel) (fun c_71 => ?_) (fun c_71 => ?_)
            · have dc_71 := c_eq (a := x_70.toInt) (b := 2) rfl (by decide +kernel) c_71
              refine lv_iconst (v := 0) hx hb dX1_lastMove_44 (by decide +kernel) ?_
              refine lv_istore (lv' := [(5, .int 0), (4, .ref b_66), (3, .null), (0, .ref o), (1, .int x1), (2, .int x2)]) hx hb dX1_lastMove_45 hl (by decide +kernel) rfl (fun ls hl => ?_)
              refine lv_iload hx hb dX1_lastMove_47 (lv_at hl 0 rfl) ?_
              refine lv_if_eq (tgt := 71) hx hb dX1_lastMove_49 (by decide +kernel) (fun _ => ?_) (fun c_72 => absurd c_72 (by decide +kernel))
              refine lv_aload hx hb dX1_lastMove_71 (lv_at hl 1 rfl) ?_
              rcases hb_74 : oP Z b_66 5 with _ | b_73
              · refine va_get (D := (dC, dI)) (ci := 3) (v := .null) (C := RX3) (T := TX3) (N := 6) hx hb hts in_wsX1_lastMove_X3 hown hK hP q_69 hq_69 rfl 5 (by decide +kernel) (hts (.fieldLink RX1 97 "ShipOffice$Happening" "before" "LShipOffice$Happening;") iw_X1_lastMove_3) (fun _ h9 => h9) (o_rd hb_74) dX1_lastMove_73 ?_
                have r_75 : oR Z none = 0 := rfl
                refine lv_astoreN (lv' := [(4, .null), (5, .int 0), (3, .null), (0, .ref o), (1, .int x1), (2, .int x2)]) hx hb dX1_lastMove_76 hl (by decide +kernel) rfl (fun ls hl => ?_)
                refine lv_goto (tgt := 8) hx hb dX1_lastMove_78 (by decide +kernel) ?_
                exact ih (n - 1) (by omega) none none _ _ ls (by omega) (fun b h => by cases h) (fun b h => by cases h) hP hS (lv_sub hl [0, 2, 3, 4, 5] rfl)
              · refine va_get (D := (dC, dI)) (ci := 3) (v := .ref b_73) (C := RX3) (T := TX3) (N := 6) hx hb hts in_wsX1_lastMove_X3 hown hK hP q_69 hq_69 rfl 5 (by decide +kernel) (hts (.fieldLink RX1 97 "ShipOffice$Happening" "before" "LShipOffice$Happening;") iw_X1_lastMove_3) (fun _ h9 => h9) (o_rd hb_74) dX1_lastMove_73 ?_
                have tb_73 : oty Z b_73 3 := oInv.rd gI tb_66.2 hb_74 rfl rfl
                have hGb_73 : oG Z b_73 < oG Z b_66 := gI.2.2.2.2.2.1 b_66 b_73 tb_66.2 hb_74
                have rb_73 : oR Z (some b_73) = oG Z b_73 + 1 := rfl
                refine lv_astore (lv' := [(4, .ref b_73), (5, .int 0), (3, .null), (0, .ref o), (1, .int x1), (2, .int x2)]) hx hb dX1_lastMove_76 hl (by decide +kernel) rfl (fun ls hl => ?_)
                refine lv_goto (tgt := 8) hx hb dX1_lastMove_78 (by decide +kernel) ?_
                exact ih (n - 1) (by omega) (some b_73) none _ _ ls (by omega) (fun b h => by cases h; exact tb_73) (fun b h => by cases h) hP hS (lv_sub hl [0, 2, 3, 4, 5] rfl)
            · have dc_71 := c_ne (a := x_70.toInt) (b := 2) rfl (by decide +kernel) c_71
              refine lv_aload hx hb dX1_lastMove_22 (lv_at hl 0 rfl) ?_
              refine va_get (D := (dC, dI)) (ci := 3) (v := .int (oI Z b_66 2)) (C := RX3) (T := TX3) (N := 6) hx hb hts in_wsX1_lastMove_X3 hown hK hP q_69 hq_69 rfl 2 (by decide +kernel) (hts (.fieldLink RX1 91 "ShipOffice$Happening" "told" "I") iw_X1_lastMove_4) (fun _ h9 => h9) rfl dX1_lastMove_24 ?_
              refine lv_topi (fun x_76 ex_76 => ?_)
              clear ex_76
              refine lv_iload_n hx hb dX1_lastMove_27 rfl (lv_at hl 4 rfl) ?_
              refine lv_icmp_gt (tgt := 44) hx hb dX1_lastMove_28 (by decide +kernel) (fun c_77 => ?_) (fun c_77 => ?_)
              · have dc_77 := c_lt (a := x2.toInt) (b := x_76.toInt) rfl rfl c_77
                refine lv_iconst (v := 0) hx hb dX1_lastMove_44 (by decide +kernel) ?_
                refine lv_istore (lv' := [(5, .int 0), (4, .ref b_66), (3, .null), (0, .ref o), (1, .int x1), (2, .int x2)]) hx hb dX1_lastMove_45 hl (by decide +kernel) rfl (fun ls hl => ?_)
                refine lv_iload hx hb dX1_lastMove_47 (lv_at hl 0 rfl) ?_
                refine lv_if_eq (tgt := 71) hx hb dX1_lastMove_49 (by decide +kernel) (fun _ => ?_) (fun c_78 => absurd c_78 (by decide +kernel))
                refine lv_aload hx hb dX1_lastMove_71 (lv_at hl 1 rfl) ?_
                rcases hb_80 : oP Z b_66 5 with _ | b_79
                · refine va_get (D := (dC, dI)) (ci := 3) (v := .null) (C := RX3) (T := TX3) (N := 6) hx hb hts in_wsX1_lastMove_X3 hown hK hP q_69 hq_69 rfl 5 (by decide +kernel) (hts (.fieldLink RX1 97 "ShipOffice$Happening" "before" "LShipOffice$Happening;") iw_X1_lastMove_3) (fun _ h9 => h9) (o_rd hb_80) dX1_lastMove_73 ?_
                  have r_81 : oR Z none = 0 := rfl
                  refine lv_astoreN (lv' := [(4, .null), (5, .int 0), (3, .null), (0, .ref o), (1, .int x1), (2, .int x2)]) hx hb dX1_lastMove_76 hl (by decide +kernel) rfl (fun ls hl => ?_)
                  refine lv_goto (tgt := 8) hx hb dX1_lastMove_78 (by decide +kernel) ?_
                  exact ih (n - 1) (by omega) none none _ _ ls (by omega) (fun b h => by cases h) (fun b h => by cases h) hP hS (lv_sub hl [0, 2, 3, 4, 5] rfl)
                · refine va_get (D := (dC, dI)) (ci := 3) (v := .ref b_79) (C := RX3) (T := TX3) (N := 6) hx hb hts in_wsX1_lastMove_X3 hown hK hP q_69 hq_69 rfl 5 (by decide +kernel) (hts (.fieldLink RX1 97 "ShipOffice$Happening" "before" "LShipOffice$Happening;") iw_X1_lastMove_3) (fun _ h9 => h9) (o_rd hb_80) dX1_lastMove_73 ?_
                  have tb_79 : oty Z b_79 3 := oInv.rd gI tb_66.2 hb_80 rfl rfl
                  have hGb_79 : oG Z b_79 < oG Z b_66 := gI.2.2.2.2.2.1 b_66 b_79 tb_66.2 hb_80
                  have rb_79 : oR Z (some b_79) = oG Z b_79 + 1 := rfl
                  refine lv_astore (lv' := [(4, .ref b_79), (5, .int 0), (3, .null), (0, .ref o), (1, .int x1), (2, .int x2)]) hx hb dX1_lastMove_76 hl (by decide +kernel) rfl (fun ls hl => ?_)
                  refine lv_goto (tgt := 8) hx hb dX1_lastMove_78 (by decide +kernel) ?_
                  exact ih (n - 1) (by omega) (some b_79) none _ _ ls (by omega) (fun b h => by cases h; exact tb_79) (fun b h => by cases h) hP hS (lv_sub hl [0, 2, 3, 4, 5] rfl)
              · have dc_77 := c_nlt (a := x2.toInt) (b := x_76.toInt) rfl rfl c_77
                refine lv_aload hx hb dX1_lastMove_31 (lv_at hl 0 rfl) ?_
                refine va_get (D := (dC, dI)) (ci := 3) (v := .int (oI Z b_66 1)) (C := RX3) (T := TX3) (N := 6) hx hb hts in_wsX1_lastMove_X3 hown hK hP q_69 hq_69 rfl 1 (by decide +kernel) (hts (.fieldLink RX1 94 "ShipOffice$Happening" "day" "I") iw_X1_lastMove_5) (fun _ h9 => h9) rfl dX1_lastMove_33 ?_
                refine lv_topi (fun x_82 ex_82 => ?_)
                clear ex_82
                refine lv_iload_n hx hb dX1_lastMove_36 rfl (lv_at hl 3 rfl) ?_
                refine lv_icmp_gt (tgt := 44) hx hb dX1_lastMove_37 (by decide +kernel) (fun c_83 => ?_) (fun c_83 => ?_)
                · have dc_83 := c_lt (a := x1.toInt) (b := x_82.toInt) rfl rfl c_83
                  refine lv_iconst (v := 0) hx hb dX1_lastMove_44 (by decide +kernel) ?_
                  refine lv_istore (lv' := [(5, .int 0), (4, .ref b_66), (3, .null), (0, .ref o), (1, .int x1), (2, .int x2)]) hx hb dX1_lastMove_45 hl (by decide +kernel) rfl (fun ls hl => ?_)
                  refine lv_iload hx hb dX1_lastMove_47 (lv_at hl 0 rfl) ?_
                  refine lv_if_eq (tgt := 71) hx hb dX1_lastMove_49 (by decide +kernel) (fun _ => ?_) (fun c_84 => absurd c_84 (by decide +kernel))
                  refine lv_aload hx hb dX1_lastMove_71 (lv_at hl 1 rfl) ?_
                  rcases hb_86 : oP Z b_66 5 with _ | b_85
                  · refine va_get (D := (dC, dI)) (ci := 3) (v := .null) (C := RX3) (T := TX3) (N := 6) hx hb hts in_wsX1_lastMove_X3 hown hK hP q_69 hq_69 rfl 5 (by decide +kernel) (hts (.fieldLink RX1 97 "ShipOffice$Happening" "before" "LShipOffice$Happening;") iw_X1_lastMove_3) (fun _ h9 => h9) (o_rd hb_86) dX1_lastMove_73 ?_
                    have r_87 : oR Z none = 0 := rfl
                    refine lv_astoreN (lv' := [(4, .null), (5, .int 0), (3, .null), (0, .ref o), (1, .int x1), (2, .int x2)]) hx hb dX1_lastMove_76 hl (by decide +kernel) rfl (fun ls hl => ?_)
                    refine lv_goto (tgt := 8) hx hb dX1_lastMove_78 (by decide +kernel) ?_
                    exact ih (n - 1) (by omega) none none _ _ ls (by omega) (fun b h => by cases h) (fun b h => by cases h) hP hS (lv_sub hl [0, 2, 3, 4, 5] rfl)
                  · refine va_get (D := (dC, dI)) (ci := 3) (v := .ref b_85) (C := RX3) (T := TX3) (N := 6) hx hb hts in_wsX1_lastMove_X3 hown hK hP q_69 hq_69 rfl 5 (by decide +kernel) (hts (.fieldLink RX1 97 "ShipOffice$Happening" "before" "LShipOffice$Happening;") iw_X1_lastMove_3) (fun _ h9 => h9) (o_rd hb_86) dX1_lastMove_73 ?_
                    have tb_85 : oty Z b_85 3 := oInv.rd gI tb_66.2 hb_86 rfl rfl
                    have hGb_85 : oG Z b_85 < oG Z b_66 := gI.2.2.2.2.2.1 b_66 b_85 tb_66.2 hb_86
                    have rb_85 : oR Z (some b_85) = oG Z b_85 + 1 := rfl
                    refine lv_astore (lv' := [(4, .ref b_85), (5, .int 0), (3, .null), (0, .ref o), (1, .int x1), (2, .int x2)]) hx hb dX1_lastMove_76 hl (by decide +kernel) rfl (fun ls hl => ?_)
                    refine lv_goto (tgt := 8) hx hb dX1_lastMove_78 (by decide +kernel) ?_
                    exact ih (n - 1) (by omega) (some b_85) none _ _ ls (by omega) (fun b h => by cases h; exact tb_85) (fun b h => by cases h) hP hS (lv_sub hl [0, 2, 3, 4, 5] rfl)
                · have dc_83 := c_nlt (a := x1.toInt) (b := x_82.toInt) rfl rfl c_83
                  refine lv_iconst (v := 1) hx hb dX1_lastMove_40 (by decide +kernel) ?_
                  refine lv_goto (tgt := 45) hx hb dX1_lastMove_41 (by decide +kernel) ?_
                  refine lv_istore (lv' := [(5, .int 1), (4, .ref b_66), (3, .null), (0, .ref o), (1, .int x1), (2, .int x2)]) hx hb dX1_lastMove_45 hl (by decide +kernel) rfl (fun ls hl => ?_)
                  refine lv_iload hx hb dX1_lastMove_47 (lv_at hl 0 rfl) ?_
                  refine lv_if_eq (tgt := 71) hx hb dX1_lastMove_49 (by decide +kernel) (fun c_88 => absurd c_88 (by decide +kernel)) (fun _ => ?_)
                  refine lv_aload_nN hx hb dX1_lastMove_52 rfl (lv_at hl 2 rfl) ?_
                  refine lv_ifnullN (tgt := 68) hx hb dX1_lastMove_53 (by decide +kernel) ?_
                  refine lv_aload hx hb dX1_lastMove_68 (lv_at hl 1 rfl) ?_
                  refine lv_astore_n (lv' := [(3, .ref b_66), (5, .int 1), (4, .ref b_66), (0, .ref o), (1, .int x1), (2, .int x2)]) hx hb dX1_lastMove_70 rfl hl (by decide +kernel) rfl (fun ls hl => ?_)
                  refine lv_aload hx hb dX1_lastMove_71 (lv_at hl 2 rfl) ?_
                  rcases hb_90 : oP Z b_66 5 with _ | b_89
                  · refine va_get (D := (dC, dI)) (ci := 3) (v := .null) (C := RX3) (T := TX3) (N := 6) hx hb hts in_wsX1_lastMove_X3 hown hK hP q_69 hq_69 rfl 5 (by decide +kernel) (hts (.fieldLink RX1 97 "ShipOffice$Happening" "before" "LShipOffice$Happening;") iw_X1_lastMove_3) (fun _ h9 => h9) (o_rd hb_90) dX1_lastMove_73 ?_
                    have r_91 : oR Z none = 0 := rfl
                    refine lv_astoreN (lv' := [(4, .null), (3, .ref b_66), (5, .int 1), (0, .ref o), (1, .int x1), (2, .int x2)]) hx hb dX1_lastMove_76 hl (by decide +kernel) rfl (fun ls hl => ?_)
                    refine lv_goto (tgt := 8) hx hb dX1_lastMove_78 (by decide +kernel) ?_
                    exact ih (n - 1) (by omega) none (some b_66) _ _ ls (by omega) (fun b h => by cases h) (fun b h => by cases h; exact tb_66) hP hS (lv_sub hl [0, 1, 3, 4, 5] rfl)
                  · refine va_get (D := (dC, dI)) (ci := 3) (v := .ref b_89) (C := RX3) (T := TX3) (N := 6) hx hb hts in_wsX1_lastMove_X3 hown hK hP q_69 hq_69 rfl 5 (by decide +kernel) (hts (.fieldLink RX1 97 "ShipOffice$Happening" "before" "LShipOffice$Happening;") iw_X1_lastMove_3) (fun _ h9 => h9) (o_rd hb_90) dX1_lastMove_73 ?_
                    have tb_89 : oty Z b_89 3 := oInv.rd gI tb_66.2 hb_90 rfl rfl
                    have hGb_89 : oG Z b_89 < oG Z b_66 := gI.2.2.2.2.2.1 b_66 b_89 tb_66.2 hb_90
                    have rb_89 : oR Z (some b_89) = oG Z b_89 + 1 := rfl
                    refine lv_astore (lv' := [(4, .ref b_89), (3, .ref b_66), (5, .int 1), (0, .ref o), (1, .int x1), (2, .int x2)]) hx hb dX1_lastMove_76 hl (by decide +kernel) rfl (fun ls hl => ?_)
                    refine lv_goto (tgt := 8) hx hb dX1_lastMove_78 (by decide +kernel) ?_
                    exact ih (n - 1) (by omega) (some b_89) (some b_66) _ _ ls (by omega) (fun b h => by cases h; exact tb_89) (fun b h => by cases h; exact tb_66) hP hS (lv_sub hl [0, 1, 3, 4, 5] rfl)
          · have hl : lv_has ls 6 [(4, .ref b_66), (3, .ref b_68), (0, .ref o), (1, .int x1), (2, .int x2)] := hl
            have tb_68 : oty Z b_68 3 := ty_65 b_68 rfl
            have rb_68 : oR Z (some b_68) = oG Z b_68 + 1 := rfl
            refine lv_aload hx hb dX1_lastMove_8 (lv_at hl 0 rfl) ?_
            refine lv_ifnull hx hb dX1_lastMove_10 ?_
            refine lv_aload hx hb dX1_lastMove_13 (lv_at hl 0 rfl) ?_
            obtain ⟨q_92, hq_92⟩ := og (cq := cq) tb_66.1 (oE_3 tb_66.2)
            refine va_get (D := (dC, dI)) (ci := 3) (v := .int (oI Z b_66 0)) (C := RX3) (T := TX3) (N := 6) hx hb hts in_wsX1_lastMove_X3 hown hK hP q_92 hq_92 rfl 0 (by decide +kernel) (hts (.fieldLink RX1 64 "ShipOffice$Happening" "kind" "I") iw_X1_lastMove_2) (fun _ h9 => h9) rfl dX1_lastMove_15 ?_
            refine lv_topi (fun x_93 ex_93 => ?_)
            clear ex_93
            refine lv_iconst (v := 2) hx hb dX1_lastMove_18 (by decide +kernel) ?_
            refine lv_icmp_eq (tgt := 44) hx hb dX1_lastMove_19 (by decide +kernel) (fun c_94 => ?_) (fun c_94 => ?_)
            · have dc_94 := c_eq (a := x_93.toInt) (b := 2) rfl (by decide +kernel) c_94
              refine lv_iconst (v := 0) hx hb dX1_lastMove_44 (by decide +kernel) ?_
              refine lv_istore (lv' := [(5, .int 0), (4, .ref b_66), (3, .ref b_68), (0, .ref o), (1, .int x1), (2, .int x2)]) hx hb dX1_lastMove_45 hl (by decide +kernel) rfl (fun ls hl => ?_)
              refine lv_iload hx hb dX1_lastMove_47 (lv_at hl 0 rfl) ?_
              refine lv_if_eq (tgt := 71) hx hb dX1_lastMove_49 (by decide +kernel) (fun _ => ?_) (fun c_95 => absurd c_95 (by decide +kernel))
              refine lv_aload hx hb dX1_lastMove_71 (lv_at hl 1 rfl) ?_
              rcases hb_97 : oP Z b_66 5 with _ | b_96
              · refine va_get (D := (dC, dI)) (ci := 3) (v := .null) (C := RX3) (T := TX3) (N := 6) hx hb hts in_wsX1_lastMove_X3 hown hK hP q_92 hq_92 rfl 5 (by decide +kernel) (hts (.fieldLink RX1 97 "ShipOffice$Happening" "before" "LShipOffice$Happening;") iw_X1_lastMove_3) (fun _ h9 => h9) (o_rd hb_97) dX1_lastMove_73 ?_
                have r_98 : oR Z none = 0 := rfl
                refine lv_astoreN (lv' := [(4, .null), (5, .int 0), (3, .ref b_68), (0, .ref o), (1, .int x1), (2, .int x2)]) hx hb dX1_lastMove_76 hl (by decide +kernel) rfl (fun ls hl => ?_)
                refine lv_goto (tgt := 8) hx hb dX1_lastMove_78 (by decide +kernel) ?_
                exact ih (n - 1) (by omega) none (some b_68) _ _ ls (by omega) (fun b h => by cases h) (fun b h => by cases h; exact tb_68) hP hS (lv_sub hl [0, 2, 3, 4, 5] rfl)
              · refine va_get (D := (dC, dI)) (ci := 3) (v := .ref b_96) (C := RX3) (T := TX3) (N := 6) hx hb hts in_wsX1_lastMove_X3 hown hK hP q_92 hq_92 rfl 5 (by decide +kernel) (hts (.fieldLink RX1 97 "ShipOffice$Happening" "before" "LShipOffice$Happening;") iw_X1_lastMove_3) (fun _ h9 => h9) (o_rd hb_97) dX1_lastMove_73 ?_
                have tb_96 : oty Z b_96 3 := oInv.rd gI tb_66.2 hb_97 rfl rfl
                have hGb_96 : oG Z b_96 < oG Z b_66 := gI.2.2.2.2.2.1 b_66 b_96 tb_66.2 hb_97
                have rb_96 : oR Z (some b_96) = oG Z b_96 + 1 := rfl
                refine lv_astore (lv' := [(4, .ref b_96), (5, .int 0), (3, .ref b_68), (0, .ref o), (1, .int x1), (2, .int x2)]) hx hb dX1_lastMove_76 hl (by decide +kernel) rfl (fun ls hl => ?_)
                refine lv_goto (tgt := 8) hx hb dX1_lastMove_78 (by decide +kernel) ?_
                exact ih (n - 1) (by omega) (some b_96) (some b_68) _ _ ls (by omega) (fun b h => by cases h; exact tb_96) (fun b h => by cases h; exact tb_68) hP hS (lv_sub hl [0, 2, 3, 4, 5] rfl)
            · have dc_94 := c_ne (a := x_93.toInt) (b := 2) rfl (by decide +kernel) c_94
              refine lv_aload hx hb dX1_lastMove_22 (lv_at hl 0 rfl) ?_
              refine va_get (D := (dC, dI)) (ci := 3) (v := .int (oI Z b_66 2)) (C := RX3) (T := TX3) (N := 6) hx hb hts in_wsX1_lastMove_X3 hown hK hP q_92 hq_92 rfl 2 (by decide +kernel) (hts (.fieldLink RX1 91 "ShipOffice$Happening" "told" "I") iw_X1_lastMove_4) (fun _ h9 => h9) rfl dX1_lastMove_24 ?_
              refine lv_topi (fun x_99 ex_99 => ?_)
              clear ex_99
              refine lv_iload_n hx hb dX1_lastMove_27 rfl (lv_at hl 4 rfl) ?_
              refine lv_icmp_gt (tgt := 44) hx hb dX1_lastMove_28 (by decide +kernel) (fun c_100 => ?_) (fun c_100 => ?_)
              · have dc_100 := c_lt (a := x2.toInt) (b := x_99.toInt) rfl rfl c_100
                refine lv_iconst (v := 0) hx hb dX1_lastMove_44 (by decide +kernel) ?_
                refine lv_istore (lv' := [(5, .int 0), (4, .ref b_66), (3, .ref b_68), (0, .ref o), (1, .int x1), (2, .int x2)]) hx hb dX1_lastMove_45 hl (by decide +kernel) rfl (fun ls hl => ?_)
                refine lv_iload hx hb dX1_lastMove_47 (lv_at hl 0 rfl) ?_
                refine lv_if_eq (tgt := 71) hx hb dX1_lastMove_49 (by decide +kernel) (fun _ => ?_) (fun c_101 => absurd c_101 (by decide +kernel))
                refine lv_aload hx hb dX1_lastMove_71 (lv_at hl 1 rfl) ?_
                rcases hb_103 : oP Z b_66 5 with _ | b_102
                · refine va_get (D := (dC, dI)) (ci := 3) (v := .null) (C := RX3) (T := TX3) (N := 6) hx hb hts in_wsX1_lastMove_X3 hown hK hP q_92 hq_92 rfl 5 (by decide +kernel) (hts (.fieldLink RX1 97 "ShipOffice$Happening" "before" "LShipOffice$Happening;") iw_X1_lastMove_3) (fun _ h9 => h9) (o_rd hb_103) dX1_lastMove_73 ?_
                  have r_104 : oR Z none = 0 := rfl
                  refine lv_astoreN (lv' := [(4, .null), (5, .int 0), (3, .ref b_68), (0, .ref o), (1, .int x1), (2, .int x2)]) hx hb dX1_lastMove_76 hl (by decide +kernel) rfl (fun ls hl => ?_)
                  refine lv_goto (tgt := 8) hx hb dX1_lastMove_78 (by decide +kernel) ?_
                  exact ih (n - 1) (by omega) none (some b_68) _ _ ls (by omega) (fun b h => by cases h) (fun b h => by cases h; exact tb_68) hP hS (lv_sub hl [0, 2, 3, 4, 5] rfl)
                · refine va_get (D := (dC, dI)) (ci := 3) (v := .ref b_102) (C := RX3) (T := TX3) (N := 6) hx hb hts in_wsX1_lastMove_X3 hown hK hP q_92 hq_92 rfl 5 (by decide +kernel) (hts (.fieldLink RX1 97 "ShipOffice$Happening" "before" "LShipOffice$Happening;") iw_X1_lastMove_3) (fun _ h9 => h9) (o_rd hb_103) dX1_lastMove_73 ?_
                  have tb_102 : oty Z b_102 3 := oInv.rd gI tb_66.2 hb_103 rfl rfl
                  have hGb_102 : oG Z b_102 < oG Z b_66 := gI.2.2.2.2.2.1 b_66 b_102 tb_66.2 hb_103
                  have rb_102 : oR Z (some b_102) = oG Z b_102 + 1 := rfl
                  refine lv_astore (lv' := [(4, .ref b_102), (5, .int 0), (3, .ref b_68), (0, .ref o), (1, .int x1), (2, .int x2)]) hx hb dX1_lastMove_76 hl (by decide +kernel) rfl (fun ls hl => ?_)
                  refine lv_goto (tgt := 8) hx hb dX1_lastMove_78 (by decide +kernel) ?_
                  exact ih (n - 1) (by omega) (some b_102) (some b_68) _ _ ls (by omega) (fun b h => by cases h; exact tb_102) (fun b h => by cases h; exact tb_68) hP hS (lv_sub hl [0, 2, 3, 4, 5] rfl)
              · have dc_100 := c_nlt (a := x2.toInt) (b := x_99.toInt) rfl rfl c_100
                refine lv_aload hx hb dX1_lastMove_31 (lv_at hl 0 rfl) ?_
                refine va_get (D := (dC, dI)) (ci := 3) (v := .int (oI Z b_66 1)) (C := RX3) (T := TX3) (N := 6) hx hb hts in_wsX1_lastMove_X3 hown hK hP q_92 hq_92 rfl 1 (by decide +kernel) (hts (.fieldLink RX1 94 "ShipOffice$Happening" "day" "I") iw_X1_lastMove_5) (fun _ h9 => h9) rfl dX1_lastMove_33 ?_
                refine lv_topi (fun x_105 ex_105 => ?_)
                clear ex_105
                refine lv_iload_n hx hb dX1_lastMove_36 rfl (lv_at hl 3 rfl) ?_
                refine lv_icmp_gt (tgt := 44) hx hb dX1_lastMove_37 (by decide +kernel) (fun c_106 => ?_) (fun c_106 => ?_)
                · have dc_106 := c_lt (a := x1.toInt) (b := x_105.toInt) rfl rfl c_106
                  refine lv_iconst (v := 0) hx hb dX1_lastMove_44 (by decide +kernel) ?_
                  refine lv_istore (lv' := [(5, .int 0), (4, .ref b_66), (3, .ref b_68), (0, .ref o), (1, .int x1), (2, .int x2)]) hx hb dX1_lastMove_45 hl (by decide +kernel) rfl (fun ls hl => ?_)
                  refine lv_iload hx hb dX1_lastMove_47 (lv_at hl 0 rfl) ?_
                  refine lv_if_eq (tgt := 71) hx hb dX1_lastMove_49 (by decide +kernel) (fun _ => ?_) (fun c_107 => absurd c_107 (by decide +kernel))
                  refine lv_aload hx hb dX1_lastMove_71 (lv_at hl 1 rfl) ?_
                  rcases hb_109 : oP Z b_66 5 with _ | b_108
                  · refine va_get (D := (dC, dI)) (ci := 3) (v := .null) (C := RX3) (T := TX3) (N := 6) hx hb hts in_wsX1_lastMove_X3 hown hK hP q_92 hq_92 rfl 5 (by decide +kernel) (hts (.fieldLink RX1 97 "ShipOffice$Happening" "before" "LShipOffice$Happening;") iw_X1_lastMove_3) (fun _ h9 => h9) (o_rd hb_109) dX1_lastMove_73 ?_
                    have r_110 : oR Z none = 0 := rfl
                    refine lv_astoreN (lv' := [(4, .null), (5, .int 0), (3, .ref b_68), (0, .ref o), (1, .int x1), (2, .int x2)]) hx hb dX1_lastMove_76 hl (by decide +kernel) rfl (fun ls hl => ?_)
                    refine lv_goto (tgt := 8) hx hb dX1_lastMove_78 (by decide +kernel) ?_
                    exact ih (n - 1) (by omega) none (some b_68) _ _ ls (by omega) (fun b h => by cases h) (fun b h => by cases h; exact tb_68) hP hS (lv_sub hl [0, 2, 3, 4, 5] rfl)
                  · refine va_get (D := (dC, dI)) (ci := 3) (v := .ref b_108) (C := RX3) (T := TX3) (N := 6) hx hb hts in_wsX1_lastMove_X3 hown hK hP q_92 hq_92 rfl 5 (by decide +kernel) (hts (.fieldLink RX1 97 "ShipOffice$Happening" "before" "LShipOffice$Happening;") iw_X1_lastMove_3) (fun _ h9 => h9) (o_rd hb_109) dX1_lastMove_73 ?_
                    have tb_108 : oty Z b_108 3 := oInv.rd gI tb_66.2 hb_109 rfl rfl
                    have hGb_108 : oG Z b_108 < oG Z b_66 := gI.2.2.2.2.2.1 b_66 b_108 tb_66.2 hb_109
                    have rb_108 : oR Z (some b_108) = oG Z b_108 + 1 := rfl
                    refine lv_astore (lv' := [(4, .ref b_108), (5, .int 0), (3, .ref b_68), (0, .ref o), (1, .int x1), (2, .int x2)]) hx hb dX1_lastMove_76 hl (by decide +kernel) rfl (fun ls hl => ?_)
                    refine lv_goto (tgt := 8) hx hb dX1_lastMove_78 (by decide +kernel) ?_
                    exact ih (n - 1) (by omega) (some b_108) (some b_68) _ _ ls (by omega) (fun b h => by cases h; exact tb_108) (fun b h => by cases h; exact tb_68) hP hS (lv_sub hl [0, 2, 3, 4, 5] rfl)
                · have dc_106 := c_nlt (a := x1.toInt) (b := x_105.toInt) rfl rfl c_106
                  refine lv_iconst (v := 1) hx hb dX1_lastMove_40 (by decide +kernel) ?_
                  refine lv_goto (tgt := 45) hx hb dX1_lastMove_41 (by decide +kernel) ?_
                  refine lv_istore (lv' := [(5, .int 1), (4, .ref b_66), (3, .ref b_68), (0, .ref o), (1, .int x1), (2, .int x2)]) hx hb dX1_lastMove_45 hl (by decide +kernel) rfl (fun ls hl => ?_)
                  refine lv_iload hx hb dX1_lastMove_47 (lv_at hl 0 rfl) ?_
                  refine lv_if_eq (tgt := 71) hx hb dX1_lastMove_49 (by decide +kernel) (fun c_111 => absurd c_111 (by decide +kernel)) (fun _ => ?_)
                  refine lv_aload_n hx hb dX1_lastMove_52 rfl (lv_at hl 2 rfl) ?_
                  refine lv_ifnull hx hb dX1_lastMove_53 ?_
                  refine lv_aload hx hb dX1_lastMove_56 (lv_at hl 1 rfl) ?_
                  refine va_get (D := (dC, dI)) (ci := 3) (v := .int (oI Z b_66 1)) (C := RX3) (T := TX3) (N := 6) hx hb hts in_wsX1_lastMove_X3 hown hK hP q_92 hq_92 rfl 1 (by decide +kernel) (hts (.fieldLink RX1 94 "ShipOffice$Happening" "day" "I") iw_X1_lastMove_5) (fun _ h9 => h9) rfl dX1_lastMove_58 ?_
                  refine lv_topi (fun x_112 ex_112 => ?_)
                  clear ex_112
                  refine lv_aload_n hx hb dX1_lastMove_61 rfl (lv_at hl 2 rfl) ?_
                  obtain ⟨q_113, hq_113⟩ := og (cq := cq) tb_68.1 (oE_3 tb_68.2)
                  refine va_get (D := (dC, dI)) (ci := 3) (v := .int (oI Z b_68 1)) (C := RX3) (T := TX3) (N := 6) hx hb hts in_wsX1_lastMove_X3 hown hK hP q_113 hq_113 rfl 1 (by decide +kernel) (hts (.fieldLink RX1 94 "ShipOffice$Happening" "day" "I") iw_X1_lastMove_5) (fun _ h9 => h9) rfl dX1_lastMove_62 ?_
                  refine lv_topi (fun x_114 ex_114 => ?_)
                  clear ex_114
                  refine lv_icmp_le (tgt := 71) hx hb dX1_lastMove_65 (by decide +kernel) (fun c_115 => ?_) (fun c_115 => ?_)
                  · have dc_115 := c_le (a := x_112.toInt) (b := x_114.toInt) rfl rfl c_115
                    refine lv_aload hx hb dX1_lastMove_71 (lv_at hl 1 rfl) ?_
                    rcases hb_117 : oP Z b_66 5 with _ | b_116
                    · refine va_get (D := (dC, dI)) (ci := 3) (v := .null) (C := RX3) (T := TX3) (N := 6) hx hb hts in_wsX1_lastMove_X3 hown hK hP q_92 hq_92 rfl 5 (by decide +kernel) (hts (.fieldLink RX1 97 "ShipOffice$Happening" "before" "LShipOffice$Happening;") iw_X1_lastMove_3) (fun _ h9 => h9) (o_rd hb_117) dX1_lastMove_73 ?_
                      have r_118 : oR Z none = 0 := rfl
                      refine lv_astoreN (lv' := [(4, .null), (5, .int 1), (3, .ref b_68), (0, .ref o), (1, .int x1), (2, .int x2)]) hx hb dX1_lastMove_76 hl (by decide +kernel) rfl (fun ls hl => ?_)
                      refine lv_goto (tgt := 8) hx hb dX1_lastMove_78 (by decide +kernel) ?_
                      exact ih (n - 1) (by omega) none (some b_68) _ _ ls (by omega) (fun b h => by cases h) (fun b h => by cases h; exact tb_68) hP hS (lv_sub hl [0, 2, 3, 4, 5] rfl)
                    · refine va_get (D := (dC, dI)) (ci := 3) (v := .ref b_116) (C := RX3) (T := TX3) (N := 6) hx hb hts in_wsX1_lastMove_X3 hown hK hP q_92 hq_92 rfl 5 (by decide +kernel) (hts (.fieldLink RX1 97 "ShipOffice$Happening" "before" "LShipOffice$Happening;") iw_X1_lastMove_3) (fun _ h9 => h9) (o_rd hb_117) dX1_lastMove_73 ?_
                      have tb_116 : oty Z b_116 3 := oInv.rd gI tb_66.2 hb_117 rfl rfl
                      have hGb_116 : oG Z b_116 < oG Z b_66 := gI.2.2.2.2.2.1 b_66 b_116 tb_66.2 hb_117
                      have rb_116 : oR Z (some b_116) = oG Z b_116 + 1 := rfl
                      refine lv_astore (lv' := [(4, .ref b_116), (5, .int 1), (3, .ref b_68), (0, .ref o), (1, .int x1), (2, .int x2)]) hx hb dX1_lastMove_76 hl (by decide +kernel) rfl (fun ls hl => ?_)
                      refine lv_goto (tgt := 8) hx hb dX1_lastMove_78 (by decide +kernel) ?_
                      exact ih (n - 1) (by omega) (some b_116) (some b_68) _ _ ls (by omega) (fun b h => by cases h; exact tb_116) (fun b h => by cases h; exact tb_68) hP hS (lv_sub hl [0, 2, 3, 4, 5] rfl)
                  · have dc_115 := c_nle (a := x_112.toInt) (b := x_114.toInt) rfl rfl c_115
                    refine lv_aload hx hb dX1_lastMove_68 (lv_at hl 1 rfl) ?_
                    refine lv_astore_n (lv' := [(3, .ref b_66), (5, .int 1), (4, .ref b_66), (0, .ref o), (1, .int x1), (2, .int x2)]) hx hb dX1_lastMove_70 rfl hl (by decide +kernel) rfl (fun ls hl => ?_)
                    refine lv_aload hx hb dX1_lastMove_71 (lv_at hl 2 rfl) ?_
                    rcases hb_120 : oP Z b_66 5 with _ | b_119
                    · refine va_get (D := (dC, dI)) (ci := 3) (v := .null) (C := RX3) (T := TX3) (N := 6) hx hb hts in_wsX1_lastMove_X3 hown hK hP q_92 hq_92 rfl 5 (by decide +kernel) (hts (.fieldLink RX1 97 "ShipOffice$Happening" "before" "LShipOffice$Happening;") iw_X1_lastMove_3) (fun _ h9 => h9) (o_rd hb_120) dX1_lastMove_73 ?_
                      have r_121 : oR Z none = 0 := rfl
                      refine lv_astoreN (lv' := [(4, .null), (3, .ref b_66), (5, .int 1), (0, .ref o), (1, .int x1), (2, .int x2)]) hx hb dX1_lastMove_76 hl (by decide +kernel) rfl (fun ls hl => ?_)
                      refine lv_goto (tgt := 8) hx hb dX1_lastMove_78 (by decide +kernel) ?_
                      exact ih (n - 1) (by omega) none (some b_66) _ _ ls (by omega) (fun b h => by cases h) (fun b h => by cases h; exact tb_66) hP hS (lv_sub hl [0, 1, 3, 4, 5] rfl)
                    · refine va_get (D := (dC, dI)) (ci := 3) (v := .ref b_119) (C := RX3) (T := TX3) (N := 6) hx hb hts in_wsX1_lastMove_X3 hown hK hP q_92 hq_92 rfl 5 (by decide +kernel) (hts (.fieldLink RX1 97 "ShipOffice$Happening" "before" "LShipOffice$Happening;") iw_X1_lastMove_3) (fun _ h9 => h9) (o_rd hb_120) dX1_lastMove_73 ?_
                      have tb_119 : oty Z b_119 3 := oInv.rd gI tb_66.2 hb_120 rfl rfl
                      have hGb_119 : oG Z b_119 < oG Z b_66 := gI.2.2.2.2.2.1 b_66 b_119 tb_66.2 hb_120
                      have rb_119 : oR Z (some b_119) = oG Z b_119 + 1 := rfl
                      refine lv_astore (lv' := [(4, .ref b_119), (3, .ref b_66), (5, .int 1), (0, .ref o), (1, .int x1), (2, .int x2)]) hx hb dX1_lastMove_76 hl (by decide +kernel) rfl (fun ls hl => ?_)
                      refine lv_goto (tgt := 8) hx hb dX1_lastMove_78 (by decide +kernel) ?_
                      exact ih (n - 1) (by omega) (some b_119) (some b_66) _ _ ls (by omega) (fun b h => by cases h; exact tb_119) (fun b h => by cases h; exact tb_66) hP hS (lv_sub hl [0, 1, 3, 4, 5] rfl)
    exact cut_63 (oR Z (some b_2)) (some b_2) none _ _ ls (by omega) (fun b h => by cases h; exact tb_2) (fun b h => by cases h) hP hS (lv_sub hl [0, 1, 2, 3, 4] rfl)
set_option maxHeartbeats 4000000 in
set_option maxRecDepth 100000 in
theorem c_X5_inForce (l : Launch) (dC : Nat → ClassId) (dI : Nat → Nat → Nat) (sz : Nat) (cq : Nat → ClassId) (Z : oS) (gI : oInv Z) (o : Nat) (to : oty Z o 5) (x1 : Int32) (hx1 : 0 ≤ x1.toInt ∧ x1.toInt ≤ 4) (x2 : Int32) : Met l yX5_inForce wsX5_inForce ({ frames := 0, cells := 0, slots := 0, locals := 0 }) (va_Pc [.ref o, .int x1, .int x2] (pcW (dC, dI) (oT cq) (oW cq Z) sz)) (va_Qq (fun (r : Option Nat) (u : Unit) => (∃ b, r = some b ∧ oty Z b 0)) (fun _ _ => True) (va_A [] sz)) 0 0 (va_A [] sz) := by
  refine Met.ofW (cc := cX5_inForce) (maxL := 6) (ret := (some (.object "ShipOffice$Act"))) (by decide +kernel) rfl ?_
  intro p e s m args below meth c s₁ B hml hv
  obtain ⟨rfl, hsz, hP, hK, hD0⟩ := hv
  have hx := B.exec
  have hb := B.bytes
  have hr := B.returns
  have hts := atoms_spec (ws := wsX5_inForce) B.pre
  have hown : s.vm.findClass RX5 = some m.cls := findClass_of_methodNamed B.named
  have hlocks := B.notSynchronized
  subst hsz
  have hD := hD0
  generalize hAe : va_A [] s.heap.size = A at ⊢
  have hA : ∀ q : Nat, s.heap.size ≤ q → A q := fun q h => by rw [← hAe]; exact Or.inr h
  have hS : va_S A s.heap s.heap [] := va_S.rf
  have hP : va_P (dC, dI) vwCl (oW cq Z) s.heap := hP
  have hl := lv_entry ([.ref o, .int x1, .int x2]) (n := 6) (Nat.le_of_ble_eq_true rfl)
  rw [lg_entry_eq]
  generalize (lg_sl ([.ref o, .int x1, .int x2]) ++ List.replicate (6 - (lg_sl ([.ref o, .int x1, .int x2])).length) Slot.unset).toArray = ls at hl ⊢
  have hl : lv_has ls 6 [(0, .ref o), (1, .int x1), (2, .int x2)] := hl
  refine lv_aload_n hx hb dX5_inForce_0 rfl (lv_at hl 0 rfl) ?_
  obtain ⟨q_1, hq_1⟩ := og (cq := cq) to.1 (oE_5 to.2)
  obtain ⟨b_2, hb_2⟩ := oInv.nn (i := 1) gI to rfl
  refine va_get (D := (dC, dI)) (ci := 5) (v := .ref b_2) (C := RX5) (T := TX5) (N := 3) hx hb hts in_wsX5_inForce_X5 hown hK hP q_1 hq_1 rfl 1 (by decide +kernel) (hts (.fieldLink RX5 17 "ShipOffice$Law" "customs" "[LShipOffice$Act;") iw_X5_inForce_1) (fun _ h9 => h9) (o_rd hb_2) dX5_inForce_1 ?_
  have tb_2 : oty Z b_2 13 := oInv.rd gI to.2 hb_2 rfl rfl
  refine lv_iload_n hx hb dX5_inForce_4 rfl (lv_at hl 1 rfl) ?_
  obtain ⟨q_3, hq_3⟩ := og (cq := cq) tb_2.1 (oE_13 tb_2.2)
  refine va_aldq hx hb hK hP q_3 2 hq_3 rfl (vp_in_iff.mpr (by omega)) dX5_inForce_5 ?_
  obtain ⟨b_4, hb_4⟩ := oInv.cu (x := x1) gI to hb_2 (by omega)
  refine W.eq (g2 := F0 m 6 ls [.ref b_4]) (congrArg (fun z => F0 m 6 ls [va_rf z]) hb_4) ?_
  have tb_4 : oty Z b_4 0 := oInv.rd gI tb_2.2 hb_4 rfl rfl
  refine lv_astore_n (lv' := [(3, .ref b_4), (0, .ref o), (1, .int x1), (2, .int x2)]) hx hb dX5_inForce_6 rfl hl (by decide +kernel) rfl (fun ls hl => ?_)
  refine lv_iconst (v := 0) hx hb dX5_inForce_7 (by decide +kernel) ?_
  refine lv_istore (lv' := [(4, .int 0), (3, .ref b_4), (0, .ref o), (1, .int x1), (2, .int x2)]) hx hb dX5_inForce_8 hl (by decide +kernel) rfl (fun ls hl => ?_)
  have cut_5 : ∀ (n : Nat) (y_6 : Nat) (y_7 : Int32) (H : Heap) (locs : List Loc) (ls : Array Slot), 30 - y_7.toInt ≤ (n : Int) → oty Z y_6 0 → (0 ≤ y_7.toInt ∧ y_7.toInt ≤ 30) → va_P (dC, dI) vwCl (oW cq Z) H → va_S A s.heap H locs → lv_has ls 6 [(3, .ref y_6), (4, .int y_7), (0, .ref o), (1, .int x1), (2, .int x2)] → W p l e (headSpec wsX5_inForce { frames := 0, cells := 0, slots := 0, locals := 0 }).room s m #[Value.ref o, Value.int x1, Value.int x2] below meth c H locs 0 0 (MQ below (va_Qq (fun (r : Option Nat) (u : Unit) => (∃ b, r = some b ∧ oty Z b 0)) (fun _ _ => True) A) #[Value.ref o, Value.int x1, Value.int x2] s 0 0 A) (F0 m 10 ls []) := by
    intro n
    induction n using Nat.strongRecOn with
    | ind n ih =>
      intro y_6 y_7 H locs ls hm ty_6 hy_7 hP hS hl
      refine lv_iload hx hb dX5_inForce_10 (lv_at hl 1 rfl) ?_
      refine lv_aload_n hx hb dX5_inForce_12 rfl (lv_at hl 2 rfl) ?_
      obtain ⟨q_8, hq_8⟩ := og (cq := cq) to.1 (oE_5 to.2)
      refine va_get (D := (dC, dI)) (ci := 5) (v := .int (oI Z o 2)) (C := RX5) (T := TX5) (N := 3) hx hb hts in_wsX5_inForce_X5 hown hK hP q_8 hq_8 rfl 2 (by decide +kernel) (hts (.fieldLink RX5 23 "ShipOffice$Law" "actCount" "I") iw_X5_inForce_2) (fun _ h9 => h9) rfl dX5_inForce_13 ?_
      refine lv_topi (fun x_9 ex_9 => ?_)
      have hx_9 : 0 ≤ x_9.toInt ∧ x_9.toInt ≤ 30 := iv_of ex_9 (oInv.iv gI to.2 rfl rfl)
      have gx_9 : x_9.toInt = (oI Z o 2).toInt := iv_to ex_9
      clear ex_9
      refine lv_icmp_ge (tgt := 67) hx hb dX5_inForce_16 (by decide +kernel) (fun c_10 => ?_) (fun c_10 => ?_)
      · have dc_10 := c_le (a := x_9.toInt) (b := y_7.toInt) rfl rfl c_10
        refine lv_aload_n hx hb dX5_inForce_67 rfl (lv_at hl 0 rfl) ?_
        exact W.aret (v := .ref y_6) hx hb hr (Or.inl ⟨_, rfl⟩) (Or.inr ⟨_, rfl⟩) (fun t ht hW => ⟨⟨(some y_6), (), rfl, ⟨_, rfl, ty_6⟩, trivial⟩, hS.F ht⟩) hS.2.2 dX5_inForce_68
      · have dc_10 := c_nle (a := x_9.toInt) (b := y_7.toInt) rfl rfl c_10
        refine lv_aload_n hx hb dX5_inForce_19 rfl (lv_at hl 2 rfl) ?_
        obtain ⟨b_11, hb_11⟩ := oInv.nn (i := 0) gI to rfl
        refine va_get (D := (dC, dI)) (ci := 5) (v := .ref b_11) (C := RX5) (T := TX5) (N := 3) hx hb hts in_wsX5_inForce_X5 hown hK hP q_8 hq_8 rfl 0 (by decide +kernel) (hts (.fieldLink RX5 11 "ShipOffice$Law" "acts" "[LShipOffice$Act;") iw_X5_inForce_3) (fun _ h9 => h9) (o_rd hb_11) dX5_inForce_20 ?_
        have tb_11 : oty Z b_11 12 := oInv.rd gI to.2 hb_11 rfl rfl
        refine lv_iload hx hb dX5_inForce_23 (lv_at hl 1 rfl) ?_
        obtain ⟨q_12, hq_12⟩ := og (cq := cq) tb_11.1 (oE_12 tb_11.2)
        refine va_aldq hx hb hK hP q_12 2 hq_12 rfl (vp_in_iff.mpr (by omega)) dX5_inForce_25 ?_
        obtain ⟨b_13, hb_13⟩ := oInv.el (i := 2) (x := y_7) gI to rfl hb_11 (by omega) (by omega)
        refine W.eq (g2 := F0 m 26 ls [.ref b_13]) (congrArg (fun z => F0 m 26 ls [va_rf z]) hb_13) ?_
        have tb_13 : oty Z b_13 0 := oInv.rd gI tb_11.2 hb_13 rfl rfl
        refine lv_astore (lv' := [(5, .ref b_13), (3, .ref y_6), (4, .int y_7), (0, .ref o), (1, .int x1), (2, .int x2)]) hx hb dX5_inForce_26 hl (by decide +kernel) rfl (fun ls hl => ?_)
        refine lv_aload hx hb dX5_inForce_28 (lv_at hl 0 rfl) ?_
        obtain ⟨q_14, hq_14⟩ := og (cq := cq) tb_13.1 (oE_0 tb_13.2)
        refine va_get (D := (dC, dI)) (ci := 0) (v := .int (oI Z b_13 0)) (C := RX0) (T := TX0) (N := 5) hx hb hts in_wsX5_inForce_X0 hown hK hP q_14 hq_14 rfl 0 (by decide +kernel) (hts (.fieldLink RX5 27 "ShipOffice$Act" "purpose" "I") iw_X5_inForce_4) (fun _ h9 => h9) rfl dX5_inForce_30 ?_
        refine lv_topi (fun x_15 ex_15 => ?_)
        clear ex_15
        refine lv_iload_n hx hb dX5_inForce_33 rfl (lv_at hl 4 rfl) ?_
        refine lv_icmp_ne (tgt := 61) hx hb dX5_inForce_34 (by decide +kernel) (fun c_16 => ?_) (fun c_16 => ?_)
        · have dc_16 := c_ne (a := x_15.toInt) (b := x1.toInt) rfl rfl c_16
          obtain ⟨x_17, ex_17⟩ : ∃ zq : Int32, y_7 + 1 = zq := ⟨_, rfl⟩
          have hx_17 : x_17.toInt = y_7.toInt + 1 := (iv_to ex_17).symm.trans (ad_i rfl (by decide +kernel) (by omega) (by omega))
          refine lv_iinc (v := x_17) (lv' := [(4, .int x_17), (5, .ref b_13), (3, .ref y_6), (0, .ref o), (1, .int x1), (2, .int x2)]) hx hb dX5_inForce_61 hl (k := 2) rfl ex_17 (by decide +kernel) rfl (fun ls hl => ?_)
          clear ex_17
          refine lv_goto (tgt := 10) hx hb dX5_inForce_64 (by decide +kernel) ?_
          exact ih (n - 1) (by omega) y_6 x_17 _ _ ls (by omega) ty_6 (by omega) hP hS (lv_sub hl [2, 0, 3, 4, 5] rfl)
        · have dc_16 := c_eq (a := x_15.toInt) (b := x1.toInt) rfl rfl c_16
          refine lv_aload hx hb dX5_inForce_37 (lv_at hl 0 rfl) ?_
          refine va_get (D := (dC, dI)) (ci := 0) (v := .int (oI Z b_13 1)) (C := RX0) (T := TX0) (N := 5) hx hb hts in_wsX5_inForce_X0 hown hK hP q_14 hq_14 rfl 1 (by decide +kernel) (hts (.fieldLink RX5 30 "ShipOffice$Act" "day" "I") iw_X5_inForce_5) (fun _ h9 => h9) rfl dX5_inForce_39 ?_
          refine lv_topi (fun x_18 ex_18 => ?_)
          clear ex_18
          refine lv_iload_n hx hb dX5_inForce_42 rfl (lv_at hl 5 rfl) ?_
          refine lv_icmp_gt (tgt := 61) hx hb dX5_inForce_43 (by decide +kernel) (fun c_19 => ?_) (fun c_19 => ?_)
          · have dc_19 := c_lt (a := x2.toInt) (b := x_18.toInt) rfl rfl c_19
            obtain ⟨x_20, ex_20⟩ : ∃ zq : Int32, y_7 + 1 = zq := ⟨_, rfl⟩
            have hx_20 : x_20.toInt = y_7.toInt + 1 := (iv_to ex_20).symm.trans (ad_i rfl (by decide +kernel) (by omega) (by omega))
            refine lv_iinc (v := x_20) (lv' := [(4, .int x_20), (5, .ref b_13), (3, .ref y_6), (0, .ref o), (1, .int x1), (2, .int x2)]) hx hb dX5_inForce_61 hl (k := 2) rfl ex_20 (by decide +kernel) rfl (fun ls hl => ?_)
            clear ex_20
            refine lv_goto (tgt := 10) hx hb dX5_inForce_64 (by decide +kernel) ?_
            exact ih (n - 1) (by omega) y_6 x_20 _ _ ls (by omega) ty_6 (by omega) hP hS (lv_sub hl [2, 0, 3, 4, 5] rfl)
          · have dc_19 := c_nlt (a := x2.toInt) (b := x_18.toInt) rfl rfl c_19
            refine lv_aload hx hb dX5_inForce_46 (lv_at hl 0 rfl) ?_
            refine va_get (D := (dC, dI)) (ci := 0) (v := .int (oI Z b_13 1)) (C := RX0) (T := TX0) (N := 5) hx hb hts in_wsX5_inForce_X0 hown hK hP q_14 hq_14 rfl 1 (by decide +kernel) (hts (.fieldLink RX5 30 "ShipOffice$Act" "day" "I") iw_X5_inForce_5) (fun _ h9 => h9) rfl dX5_inForce_48 ?_
            refine lv_topi (fun x_21 ex_21 => ?_)
            clear ex_21
            refine lv_aload_n hx hb dX5_inForce_51 rfl (lv_at hl 1 rfl) ?_
            obtain ⟨q_22, hq_22⟩ := og (cq := cq) ty_6.1 (oE_0 ty_6.2)
            refine va_get (D := (dC, dI)) (ci := 0) (v := .int (oI Z y_6 1)) (C := RX0) (T := TX0) (N := 5) hx hb hts in_wsX5_inForce_X0 hown hK hP q_22 hq_22 rfl 1 (by decide +kernel) (hts (.fieldLink RX5 30 "ShipOffice$Act" "day" "I") iw_X5_inForce_5) (fun _ h9 => h9) rfl dX5_inForce_52 ?_
            refine lv_topi (fun x_23 ex_23 => ?_)
            clear ex_23
            refine lv_icmp_lt (tgt := 61) hx hb dX5_inForce_55 (by decide +kernel) (fun c_24 => ?_) (fun c_24 => ?_)
            · have dc_24 := c_lt (a := x_21.toInt) (b := x_23.toInt) rfl rfl c_24
              obtain ⟨x_25, ex_25⟩ : ∃ zq : Int32, y_7 + 1 = zq := ⟨_, rfl⟩
              have hx_25 : x_25.toInt = y_7.toInt + 1 := (iv_to ex_25).symm.trans (ad_i rfl (by decide +kernel) (by omega) (by omega))
              refine lv_iinc (v := x_25) (lv' := [(4, .int x_25), (5, .ref b_13), (3, .ref y_6), (0, .ref o), (1, .int x1), (2, .int x2)]) hx hb dX5_inForce_61 hl (k := 2) rfl ex_25 (by decide +kernel) rfl (fun ls hl => ?_)
              clear ex_25
              refine lv_goto (tgt := 10) hx hb dX5_inForce_64 (by decide +kernel) ?_
              exact ih (n - 1) (by omega) y_6 x_25 _ _ ls (by omega) ty_6 (by omega) hP hS (lv_sub hl [2, 0, 3, 4, 5] rfl)
            · have dc_24 := c_nlt (a := x_21.toInt) (b := x_23.toInt) rfl rfl c_24
              refine lv_aload hx hb dX5_inForce_58 (lv_at hl 0 rfl) ?_
              refine lv_astore_n (lv' := [(3, .ref b_13), (5, .ref b_13), (4, .int y_7), (0, .ref o), (1, .int x1), (2, .int x2)]) hx hb dX5_inForce_60 rfl hl (by decide +kernel) rfl (fun ls hl => ?_)
              obtain ⟨x_26, ex_26⟩ : ∃ zq : Int32, y_7 + 1 = zq := ⟨_, rfl⟩
              have hx_26 : x_26.toInt = y_7.toInt + 1 := (iv_to ex_26).symm.trans (ad_i rfl (by decide +kernel) (by omega) (by omega))
              refine lv_iinc (v := x_26) (lv' := [(4, .int x_26), (3, .ref b_13), (5, .ref b_13), (0, .ref o), (1, .int x1), (2, .int x2)]) hx hb dX5_inForce_61 hl (k := 2) rfl ex_26 (by decide +kernel) rfl (fun ls hl => ?_)
              clear ex_26
              refine lv_goto (tgt := 10) hx hb dX5_inForce_64 (by decide +kernel) ?_
              exact ih (n - 1) (by omega) b_13 x_26 _ _ ls (by omega) tb_13 (by omega) hP hS (lv_sub hl [1, 0, 3, 4, 5] rfl)
  have kc_27 : (0 : Int32).toInt = 0 := by decide
  exact cut_5 31 b_4 0 _ _ ls (by omega) tb_4 (by decide +kernel) hP hS (lv_sub hl [1, 0, 2, 3, 4] rfl)
set_option maxHeartbeats 4000000 in
set_option maxRecDepth 100000 in
theorem c_X5_nextPresume (l : Launch) (dC : Nat → ClassId) (dI : Nat → Nat → Nat) (sz : Nat) (cq : Nat → ClassId) (Z : oS) (gI : oInv Z) (o : Nat) (to : oty Z o 5) (x1 : Int32) : Met l yX5_nextPresume wsX5_nextPresume ({ frames := 0, cells := 0, slots := 0, locals := 0 }) (va_Pc [.ref o, .int x1] (pcW (dC, dI) (oT cq) (oW cq Z) sz)) (va_Qi (fun (r : Int32) (u : Unit) => True) (fun _ _ => True) (va_A [] sz)) 0 0 (va_A [] sz) := by
  refine Met.ofW (cc := cX5_nextPresume) (maxL := 4) (ret := (some .int)) (by decide +kernel) rfl ?_
  intro p e s m args below meth c s₁ B hml hv
  obtain ⟨rfl, hsz, hP, hK, hD0⟩ := hv
  have hx := B.exec
  have hb := B.bytes
  have hr := B.returns
  have hts := atoms_spec (ws := wsX5_nextPresume) B.pre
  have hown : s.vm.findClass RX5 = some m.cls := findClass_of_methodNamed B.named
  have hlocks := B.notSynchronized
  subst hsz
  have hD := hD0
  generalize hAe : va_A [] s.heap.size = A at ⊢
  have hA : ∀ q : Nat, s.heap.size ≤ q → A q := fun q h => by rw [← hAe]; exact Or.inr h
  have hS : va_S A s.heap s.heap [] := va_S.rf
  have hP : va_P (dC, dI) vwCl (oW cq Z) s.heap := hP
  have hl := lv_entry ([.ref o, .int x1]) (n := 4) (Nat.le_of_ble_eq_true rfl)
  rw [lg_entry_eq]
  generalize (lg_sl ([.ref o, .int x1]) ++ List.replicate (4 - (lg_sl ([.ref o, .int x1])).length) Slot.unset).toArray = ls at hl ⊢
  have hl : lv_has ls 4 [(0, .ref o), (1, .int x1)] := hl
  refine lv_ldc (v := 1000000) hx hb hown (hts (.constant RX5 33 (1000000)) (by decide +kernel)) dX5_nextPresume_0 ?_
  refine lv_istore_n (lv' := [(2, .int 1000000), (0, .ref o), (1, .int x1)]) hx hb dX5_nextPresume_2 rfl hl (by decide +kernel) rfl (fun ls hl => ?_)
  refine lv_iconst (v := 0) hx hb dX5_nextPresume_3 (by decide +kernel) ?_
  refine lv_istore_n (lv' := [(3, .int 0), (2, .int 1000000), (0, .ref o), (1, .int x1)]) hx hb dX5_nextPresume_4 rfl hl (by decide +kernel) rfl (fun ls hl => ?_)
  have cut_1 : ∀ (n : Nat) (y_2 : Int32) (y_3 : Int32) (H : Heap) (locs : List Loc) (ls : Array Slot), 30 - y_2.toInt ≤ (n : Int) → (0 ≤ y_2.toInt ∧ y_2.toInt ≤ 30) → va_P (dC, dI) vwCl (oW cq Z) H → va_S A s.heap H locs → lv_has ls 4 [(3, .int y_2), (2, .int y_3), (0, .ref o), (1, .int x1)] → W p l e (headSpec wsX5_nextPresume { frames := 0, cells := 0, slots := 0, locals := 0 }).room s m #[Value.ref o, Value.int x1] below meth c H locs 0 0 (MQ below (va_Qi (fun (r : Int32) (u : Unit) => True) (fun _ _ => True) A) #[Value.ref o, Value.int x1] s 0 0 A) (F0 m 5 ls []) := by
    intro n
    induction n using Nat.strongRecOn with
    | ind n ih =>
      intro y_2 y_3 H locs ls hm hy_2 hP hS hl
      refine lv_iload_n hx hb dX5_nextPresume_5 rfl (lv_at hl 0 rfl) ?_
      refine lv_aload_n hx hb dX5_nextPresume_6 rfl (lv_at hl 2 rfl) ?_
      obtain ⟨q_4, hq_4⟩ := og (cq := cq) to.1 (oE_5 to.2)
      refine va_get (D := (dC, dI)) (ci := 5) (v := .int (oI Z o 2)) (C := RX5) (T := TX5) (N := 3) hx hb hts in_wsX5_nextPresume_X5 hown hK hP q_4 hq_4 rfl 2 (by decide +kernel) (hts (.fieldLink RX5 23 "ShipOffice$Law" "actCount" "I") iw_X5_nextPresume_1) (fun _ h9 => h9) rfl dX5_nextPresume_7 ?_
      refine lv_topi (fun x_5 ex_5 => ?_)
      have hx_5 : 0 ≤ x_5.toInt ∧ x_5.toInt ≤ 30 := iv_of ex_5 (oInv.iv gI to.2 rfl rfl)
      have gx_5 : x_5.toInt = (oI Z o 2).toInt := iv_to ex_5
      clear ex_5
      refine lv_icmp_ge (tgt := 68) hx hb dX5_nextPresume_10 (by decide +kernel) (fun c_6 => ?_) (fun c_6 => ?_)
      · have dc_6 := c_le (a := x_5.toInt) (b := y_2.toInt) rfl rfl c_6
        refine lv_iload_n hx hb dX5_nextPresume_68 rfl (lv_at hl 1 rfl) ?_
        exact W.iret (v := y_3) hx hb hr (fun t ht hW => ⟨⟨y_3, (), rfl, trivial, trivial⟩, hS.F ht⟩) hS.2.2 dX5_nextPresume_69
      · have dc_6 := c_nle (a := x_5.toInt) (b := y_2.toInt) rfl rfl c_6
        refine lv_aload_n hx hb dX5_nextPresume_13 rfl (lv_at hl 2 rfl) ?_
        obtain ⟨b_7, hb_7⟩ := oInv.nn (i := 0) gI to rfl
        refine va_get (D := (dC, dI)) (ci := 5) (v := .ref b_7) (C := RX5) (T := TX5) (N := 3) hx hb hts in_wsX5_nextPresume_X5 hown hK hP q_4 hq_4 rfl 0 (by decide +kernel) (hts (.fieldLink RX5 11 "ShipOffice$Law" "acts" "[LShipOffice$Act;") iw_X5_nextPresume_2) (fun _ h9 => h9) (o_rd hb_7) dX5_nextPresume_14 ?_
        have tb_7 : oty Z b_7 12 := oInv.rd gI to.2 hb_7 rfl rfl
        refine lv_iload_n hx hb dX5_nextPresume_17 rfl (lv_at hl 0 rfl) ?_
        obtain ⟨q_8, hq_8⟩ := og (cq := cq) tb_7.1 (oE_12 tb_7.2)
        refine va_aldq hx hb hK hP q_8 2 hq_8 rfl (vp_in_iff.mpr (by omega)) dX5_nextPresume_18 ?_
        obtain ⟨b_9, hb_9⟩ := oInv.el (i := 2) (x := y_2) gI to rfl hb_7 (by omega) (by omega)
        refine W.eq (g2 := F0 m 19 ls [.ref b_9]) (congrArg (fun z => F0 m 19 ls [va_rf z]) hb_9) ?_
        have tb_9 : oty Z b_9 0 := oInv.rd gI tb_7.2 hb_9 rfl rfl
        obtain ⟨q_10, hq_10⟩ := og (cq := cq) tb_9.1 (oE_0 tb_9.2)
        refine va_get (D := (dC, dI)) (ci := 0) (v := .int (oI Z b_9 0)) (C := RX0) (T := TX0) (N := 5) hx hb hts in_wsX5_nextPresume_X0 hown hK hP q_10 hq_10 rfl 0 (by decide +kernel) (hts (.fieldLink RX5 27 "ShipOffice$Act" "purpose" "I") iw_X5_nextPresume_3) (fun _ h9 => h9) rfl dX5_nextPresume_19 ?_
        refine lv_topi (fun x_11 ex_11 => ?_)
        clear ex_11
        refine lv_iconst (v := 4) hx hb dX5_nextPresume_22 (by decide +kernel) ?_
        refine lv_icmp_ne (tgt := 62) hx hb dX5_nextPresume_23 (by decide +kernel) (fun c_12 => ?_) (fun c_12 => ?_)
        · have dc_12 := c_ne (a := x_11.toInt) (b := 4) rfl (by decide +kernel) c_12
          obtain ⟨x_13, ex_13⟩ : ∃ zq : Int32, y_2 + 1 = zq := ⟨_, rfl⟩
          have hx_13 : x_13.toInt = y_2.toInt + 1 := (iv_to ex_13).symm.trans (ad_i rfl (by decide +kernel) (by omega) (by omega))
          refine lv_iinc (v := x_13) (lv' := [(3, .int x_13), (2, .int y_3), (0, .ref o), (1, .int x1)]) hx hb dX5_nextPresume_62 hl (k := 0) rfl ex_13 (by decide +kernel) rfl (fun ls hl => ?_)
          clear ex_13
          refine lv_goto (tgt := 5) hx hb dX5_nextPresume_65 (by decide +kernel) ?_
          exact ih (n - 1) (by omega) x_13 y_3 _ _ ls (by omega) (by omega) hP hS (lv_sub hl [0, 1, 2, 3] rfl)
        · have dc_12 := c_eq (a := x_11.toInt) (b := 4) rfl (by decide +kernel) c_12
          refine lv_aload_n hx hb dX5_nextPresume_26 rfl (lv_at hl 2 rfl) ?_
          refine va_get (D := (dC, dI)) (ci := 5) (v := .ref b_7) (C := RX5) (T := TX5) (N := 3) hx hb hts in_wsX5_nextPresume_X5 hown hK hP q_4 hq_4 rfl 0 (by decide +kernel) (hts (.fieldLink RX5 11 "ShipOffice$Law" "acts" "[LShipOffice$Act;") iw_X5_nextPresume_2) (fun _ h9 => h9) (o_rd hb_7) dX5_nextPresume_27 ?_
          refine lv_iload_n hx hb dX5_nextPresume_30 rfl (lv_at hl 0 rfl) ?_
          refine va_aldq hx hb hK hP q_8 2 hq_8 rfl (vp_in_iff.mpr (by omega)) dX5_nextPresume_31 ?_
          obtain ⟨b_14, hb_14⟩ := oInv.el (i := 2) (x := y_2) gI to rfl hb_7 (by omega) (by omega)
          refine W.eq (g2 := F0 m 32 ls [.ref b_14]) (congrArg (fun z => F0 m 32 ls [va_rf z]) hb_14) ?_
          have tb_14 : oty Z b_14 0 := oInv.rd gI tb_7.2 hb_14 rfl rfl
          obtain ⟨q_15, hq_15⟩ := og (cq := cq) tb_14.1 (oE_0 tb_14.2)
          refine va_get (D := (dC, dI)) (ci := 0) (v := .int (oI Z b_14 1)) (C := RX0) (T := TX0) (N := 5) hx hb hts in_wsX5_nextPresume_X0 hown hK hP q_15 hq_15 rfl 1 (by decide +kernel) (hts (.fieldLink RX5 30 "ShipOffice$Act" "day" "I") iw_X5_nextPresume_4) (fun _ h9 => h9) rfl dX5_nextPresume_32 ?_
          refine lv_topi (fun x_16 ex_16 => ?_)
          clear ex_16
          refine lv_iload_n hx hb dX5_nextPresume_35 rfl (lv_at hl 3 rfl) ?_
          refine lv_icmp_le (tgt := 62) hx hb dX5_nextPresume_36 (by decide +kernel) (fun c_17 => ?_) (fun c_17 => ?_)
          · have dc_17 := c_le (a := x_16.toInt) (b := x1.toInt) rfl rfl c_17
            obtain ⟨x_18, ex_18⟩ : ∃ zq : Int32, y_2 + 1 = zq := ⟨_, rfl⟩
            have hx_18 : x_18.toInt = y_2.toInt + 1 := (iv_to ex_18).symm.trans (ad_i rfl (by decide +kernel) (by omega) (by omega))
            refine lv_iinc (v := x_18) (lv' := [(3, .int x_18), (2, .int y_3), (0, .ref o), (1, .int x1)]) hx hb dX5_nextPresume_62 hl (k := 0) rfl ex_18 (by decide +kernel) rfl (fun ls hl => ?_)
            clear ex_18
            refine lv_goto (tgt := 5) hx hb dX5_nextPresume_65 (by decide +kernel) ?_
            exact ih (n - 1) (by omega) x_18 y_3 _ _ ls (by omega) (by omega) hP hS (lv_sub hl [0, 1, 2, 3] rfl)
          · have dc_17 := c_nle (a := x_16.toInt) (b := x1.toInt) rfl rfl c_17
            refine lv_aload_n hx hb dX5_nextPresume_39 rfl (lv_at hl 2 rfl) ?_
            refine va_get (D := (dC, dI)) (ci := 5) (v := .ref b_7) (C := RX5) (T := TX5) (N := 3) hx hb hts in_wsX5_nextPresume_X5 hown hK hP q_4 hq_4 rfl 0 (by decide +kernel) (hts (.fieldLink RX5 11 "ShipOffice$Law" "acts" "[LShipOffice$Act;") iw_X5_nextPresume_2) (fun _ h9 => h9) (o_rd hb_7) dX5_nextPresume_40 ?_
            refine lv_iload_n hx hb dX5_nextPresume_43 rfl (lv_at hl 0 rfl) ?_
            refine va_aldq hx hb hK hP q_8 2 hq_8 rfl (vp_in_iff.mpr (by omega)) dX5_nextPresume_44 ?_
            obtain ⟨b_19, hb_19⟩ := oInv.el (i := 2) (x := y_2) gI to rfl hb_7 (by omega) (by omega)
            refine W.eq (g2 := F0 m 45 ls [.ref b_19]) (congrArg (fun z => F0 m 45 ls [va_rf z]) hb_19) ?_
            have tb_19 : oty Z b_19 0 := oInv.rd gI tb_7.2 hb_19 rfl rfl
            obtain ⟨q_20, hq_20⟩ := og (cq := cq) tb_19.1 (oE_0 tb_19.2)
            refine va_get (D := (dC, dI)) (ci := 0) (v := .int (oI Z b_19 1)) (C := RX0) (T := TX0) (N := 5) hx hb hts in_wsX5_nextPresume_X0 hown hK hP q_20 hq_20 rfl 1 (by decide +kernel) (hts (.fieldLink RX5 30 "ShipOffice$Act" "day" "I") iw_X5_nextPresume_4) (fun _ h9 => h9) rfl dX5_nextPresume_45 ?_
            refine lv_topi (fun x_21 ex_21 => ?_)
            clear ex_21
            refine lv_iload_n hx hb dX5_nextPresume_48 rfl (lv_at hl 1 rfl) ?_
            refine lv_icmp_ge (tgt := 62) hx hb dX5_nextPresume_49 (by decide +kernel) (fun c_22 => ?_) (fun c_22 => ?_)
            · have dc_22 := c_le (a := y_3.toInt) (b := x_21.toInt) rfl rfl c_22
              obtain ⟨x_23, ex_23⟩ : ∃ zq : Int32, y_2 + 1 = zq := ⟨_, rfl⟩
              have hx_23 : x_23.toInt = y_2.toInt + 1 := (iv_to ex_23).symm.trans (ad_i rfl (by decide +kernel) (by omega) (by omega))
              refine lv_iinc (v := x_23) (lv' := [(3, .int x_23), (2, .int y_3), (0, .ref o), (1, .int x1)]) hx hb dX5_nextPresume_62 hl (k := 0) rfl ex_23 (by decide +kernel) rfl (fun ls hl => ?_)
              clear ex_23
              refine lv_goto (tgt := 5) hx hb dX5_nextPresume_65 (by decide +kernel) ?_
              exact ih (n - 1) (by omega) x_23 y_3 _ _ ls (by omega) (by omega) hP hS (lv_sub hl [0, 1, 2, 3] rfl)
            · have dc_22 := c_nle (a := y_3.toInt) (b := x_21.toInt) rfl rfl c_22
              refine lv_aload_n hx hb dX5_nextPresume_52 rfl (lv_at hl 2 rfl) ?_
              refine va_get (D := (dC, dI)) (ci := 5) (v := .ref b_7) (C := RX5) (T := TX5) (N := 3) hx hb hts in_wsX5_nextPresume_X5 hown hK hP q_4 hq_4 rfl 0 (by decide +kernel) (hts (.fieldLink RX5 11 "ShipOffice$Law" "acts" "[LShipOffice$Act;") iw_X5_nextPresume_2) (fun _ h9 => h9) (o_rd hb_7) dX5_nextPresume_53 ?_
              refine lv_iload_n hx hb dX5_nextPresume_56 rfl (lv_at hl 0 rfl) ?_
              refine va_aldq hx hb hK hP q_8 2 hq_8 rfl (vp_in_iff.mpr (by omega)) dX5_nextPresume_57 ?_
              obtain ⟨b_24, hb_24⟩ := oInv.el (i := 2) (x := y_2) gI to rfl hb_7 (by omega) (by omega)
              refine W.eq (g2 := F0 m 58 ls [.ref b_24]) (congrArg (fun z => F0 m 58 ls [va_rf z]) hb_24) ?_
              have tb_24 : oty Z b_24 0 := oInv.rd gI tb_7.2 hb_24 rfl rfl
              obtain ⟨q_25, hq_25⟩ := og (cq := cq) tb_24.1 (oE_0 tb_24.2)
              refine va_get (D := (dC, dI)) (ci := 0) (v := .int (oI Z b_24 1)) (C := RX0) (T := TX0) (N := 5) hx hb hts in_wsX5_nextPresume_X0 hown hK hP q_25 hq_25 rfl 1 (by decide +kernel) (hts (.fieldLink RX5 30 "ShipOffice$Act" "day" "I") iw_X5_nextPresume_4) (fun _ h9 => h9) rfl dX5_nextPresume_58 ?_
              refine lv_topi (fun x_26 ex_26 => ?_)
              clear ex_26
              refine lv_istore_n (lv' := [(2, .int x_26), (3, .int y_2), (0, .ref o), (1, .int x1)]) hx hb dX5_nextPresume_61 rfl hl (by decide +kernel) rfl (fun ls hl => ?_)
              obtain ⟨x_27, ex_27⟩ : ∃ zq : Int32, y_2 + 1 = zq := ⟨_, rfl⟩
              have hx_27 : x_27.toInt = y_2.toInt + 1 := (iv_to ex_27).symm.trans (ad_i rfl (by decide +kernel) (by omega) (by omega))
              refine lv_iinc (v := x_27) (lv' := [(3, .int x_27), (2, .int x_26), (0, .ref o), (1, .int x1)]) hx hb dX5_nextPresume_62 hl (k := 1) rfl ex_27 (by decide +kernel) rfl (fun ls hl => ?_)
              clear ex_27
              refine lv_goto (tgt := 5) hx hb dX5_nextPresume_65 (by decide +kernel) ?_
              exact ih (n - 1) (by omega) x_27 x_26 _ _ ls (by omega) (by omega) hP hS (lv_sub hl [0, 1, 2, 3] rfl)
  have kc_28 : (0 : Int32).toInt = 0 := by decide
  have kc_29 : (1000000 : Int32).toInt = 1000000 := by decide
  exact cut_1 31 0 1000000 _ _ ls (by omega) (by decide +kernel) hP hS (lv_sub hl [0, 1, 2, 3] rfl)
set_option maxHeartbeats 4000000 in
set_option maxRecDepth 100000 in
theorem c_X1_nearer (l : Launch) (dC : Nat → ClassId) (dI : Nat → Nat → Nat) (sz : Nat) (x1 : Int32) (x2 : Int32) (x3 : Int32) : Met l yX1_nearer wsX1_nearer ({ frames := 0, cells := 0, slots := 0, locals := 0 }) (va_Pc [.int x1, .int x2, .int x3] (pcW (dC, dI) [] [] sz)) (va_Qi (fun (r : Int32) (u : Unit) => True) (fun _ _ => True) (va_A [] sz)) 0 0 (va_A [] sz) := by
  refine Met.ofW (cc := cX1_nearer) (maxL := 3) (ret := (some .int)) (by decide +kernel) rfl ?_
  intro p e s m args below meth c s₁ B hml hv
  obtain ⟨rfl, hsz, hP, hK, hD0⟩ := hv
  have hx := B.exec
  have hb := B.bytes
  have hr := B.returns
  have hts := atoms_spec (ws := wsX1_nearer) B.pre
  have hown : s.vm.findClass RX1 = some m.cls := findClass_of_methodNamed B.named
  have hlocks := B.notSynchronized
  subst hsz
  have hD := hD0
  generalize hAe : va_A [] s.heap.size = A at ⊢
  have hA : ∀ q : Nat, s.heap.size ≤ q → A q := fun q h => by rw [← hAe]; exact Or.inr h
  have hS : va_S A s.heap s.heap [] := va_S.rf
  have hP : va_P (dC, dI) vwCl [] s.heap := hP
  have hl := lv_entry ([.int x1, .int x2, .int x3]) (n := 3) (Nat.le_of_ble_eq_true rfl)
  rw [lg_entry_eq]
  generalize (lg_sl ([.int x1, .int x2, .int x3]) ++ List.replicate (3 - (lg_sl ([.int x1, .int x2, .int x3])).length) Slot.unset).toArray = ls at hl ⊢
  have hl : lv_has ls 3 [(0, .int x1), (1, .int x2), (2, .int x3)] := hl
  refine lv_iload_n hx hb dX1_nearer_0 rfl (lv_at hl 1 rfl) ?_
  refine lv_iload_n hx hb dX1_nearer_1 rfl (lv_at hl 0 rfl) ?_
  refine lv_icmp_le (tgt := 14) hx hb dX1_nearer_2 (by decide +kernel) (fun c_1 => ?_) (fun c_1 => ?_)
  · have dc_1 := c_le (a := x2.toInt) (b := x1.toInt) rfl rfl c_1
    refine lv_iload_n hx hb dX1_nearer_14 rfl (lv_at hl 2 rfl) ?_
    exact W.iret (v := x3) hx hb hr (fun t ht hW => ⟨⟨x3, (), rfl, trivial, trivial⟩, hS.F ht⟩) hS.2.2 dX1_nearer_15
  · have dc_1 := c_nle (a := x2.toInt) (b := x1.toInt) rfl rfl c_1
    refine lv_iload_n hx hb dX1_nearer_5 rfl (lv_at hl 1 rfl) ?_
    refine lv_iload_n hx hb dX1_nearer_6 rfl (lv_at hl 2 rfl) ?_
    refine lv_icmp_ge (tgt := 14) hx hb dX1_nearer_7 (by decide +kernel) (fun c_2 => ?_) (fun c_2 => ?_)
    · have dc_2 := c_le (a := x3.toInt) (b := x2.toInt) rfl rfl c_2
      refine lv_iload_n hx hb dX1_nearer_14 rfl (lv_at hl 2 rfl) ?_
      exact W.iret (v := x3) hx hb hr (fun t ht hW => ⟨⟨x3, (), rfl, trivial, trivial⟩, hS.F ht⟩) hS.2.2 dX1_nearer_15
    · have dc_2 := c_nle (a := x3.toInt) (b := x2.toInt) rfl rfl c_2
      refine lv_iload_n hx hb dX1_nearer_10 rfl (lv_at hl 1 rfl) ?_
      refine lv_goto (tgt := 15) hx hb dX1_nearer_11 (by decide +kernel) ?_
      exact W.iret (v := x2) hx hb hr (fun t ht hW => ⟨⟨x2, (), rfl, trivial, trivial⟩, hS.F ht⟩) hS.2.2 dX1_nearer_15
set_option maxHeartbeats 4000000 in
set_option maxRecDepth 100000 in
theorem c_X1_stateOn (l : Launch) (dC : Nat → ClassId) (dI : Nat → Nat → Nat) (sz : Nat) (cq : Nat → ClassId) (Z : oS) (gI : oInv Z) (o : Nat) (to : oty Z o 1) (x1 : Int32) (x2 : Int32) (a3 : Nat) (ta3 : oty Z a3 5) : Met l yX1_stateOn wsX1_stateOn ({ frames := 1, cells := 0, slots := 0, locals := 25 }) (va_Pc [.ref o, .int x1, .int x2, .ref a3] (pcW (dC, dI) (oT cq) (oW cq Z) sz)) (va_Qi (fun (r : Int32) (u : Unit) => (-9 ≤ r.toInt ∧ r.toInt ≤ 5)) (fun _ _ => True) (va_A [] sz)) 0 0 (va_A [] sz) := by
  refine Met.ofW (cc := cX1_stateOn) (maxL := 5) (ret := (some .int)) (by decide +kernel) rfl ?_
  intro p e s m args below meth c s₁ B hml hv
  obtain ⟨rfl, hsz, hP, hK, hD0⟩ := hv
  have hx := B.exec
  have hb := B.bytes
  have hr := B.returns
  have hts := atoms_spec (ws := wsX1_stateOn) B.pre
  have hown : s.vm.findClass RX1 = some m.cls := findClass_of_methodNamed B.named
  have hlocks := B.notSynchronized
  subst hsz
  have hD := hD0
  generalize hAe : va_A [] s.heap.size = A at ⊢
  have hA : ∀ q : Nat, s.heap.size ≤ q → A q := fun q h => by rw [← hAe]; exact Or.inr h
  have hS : va_S A s.heap s.heap [] := va_S.rf
  have hP : va_P (dC, dI) vwCl (oW cq Z) s.heap := hP
  have hl := lv_entry ([.ref o, .int x1, .int x2, .ref a3]) (n := 5) (Nat.le_of_ble_eq_true rfl)
  rw [lg_entry_eq]
  generalize (lg_sl ([.ref o, .int x1, .int x2, .ref a3]) ++ List.replicate (5 - (lg_sl ([.ref o, .int x1, .int x2, .ref a3])).length) Slot.unset).toArray = ls at hl ⊢
  have hl : lv_has ls 5 [(0, .ref o), (1, .int x1), (2, .int x2), (3, .ref a3)] := hl
  refine lv_iload_n hx hb dX1_stateOn_0 rfl (lv_at hl 1 rfl) ?_
  refine lv_aload_n hx hb dX1_stateOn_1 rfl (lv_at hl 0 rfl) ?_
  obtain ⟨q_1, hq_1⟩ := og (cq := cq) to.1 (oE_1 to.2)
  refine va_get (D := (dC, dI)) (ci := 1) (v := .int (oI Z o 2)) (C := RX1) (T := TX1) (N := 18) hx hb hts in_wsX1_stateOn_X1 hown hK hP q_1 hq_1 rfl 2 (by decide +kernel) (hts (.fieldLink RX1 37 "ShipOffice$Agreement" "signedOn" "I") iw_X1_stateOn_1) (fun _ h9 => h9) rfl dX1_stateOn_2 ?_
  refine lv_topi (fun x_2 ex_2 => ?_)
  clear ex_2
  refine lv_icmp_ge (tgt := 11) hx hb dX1_stateOn_5 (by decide +kernel) (fun c_3 => ?_) (fun c_3 => ?_)
  · have dc_3 := c_le (a := x_2.toInt) (b := x1.toInt) rfl rfl c_3
    refine lv_aload_n hx hb dX1_stateOn_11 rfl (lv_at hl 0 rfl) ?_
    obtain ⟨b_4, hb_4⟩ := oInv.nn (i := 1) gI to rfl
    refine va_get (D := (dC, dI)) (ci := 1) (v := .ref b_4) (C := RX1) (T := TX1) (N := 18) hx hb hts in_wsX1_stateOn_X1 hown hK hP q_1 hq_1 rfl 1 (by decide +kernel) (hts (.fieldLink RX1 33 "ShipOffice$Agreement" "voyage" "LShipOffice$Voyage;") iw_X1_stateOn_2) (fun _ h9 => h9) (o_rd hb_4) dX1_stateOn_12 ?_
    have tb_4 : oty Z b_4 9 := oInv.rd gI to.2 hb_4 rfl rfl
    refine lv_iload_n hx hb dX1_stateOn_15 rfl (lv_at hl 1 rfl) ?_
    refine lv_iload_n hx hb dX1_stateOn_16 rfl (lv_at hl 2 rfl) ?_
    have hFc : ∀ q, va_A [] s.heap.size q → A q := pu_free hS hA
    obtain ⟨q_5, hq_5⟩ := og (cq := cq) tb_4.1 (oE_9 tb_4.2)
    refine va_calli (va_runV (As := [.int x1, .int x2]) (rest := []) ⟨hx, hb, hml, hown, hts⟩ (c_X9_lostBy l dC dI s.heap.size cq Z gI b_4 tb_4 x1 x2) (cwV 2 hts gX1_stateOn_X9_lostBy rfl rfl rfl (by decide +kernel) ⟨(Nat.le_of_ble_eq_true rfl), (Nat.le_of_ble_eq_true rfl)⟩) (pr_V (r := (RX9, TX9, 10)) hP hK hD q_5 9 rfl hq_5) rfl rfl hl.1 rfl (lv_room (Nat.le_of_ble_eq_true rfl)) dX1_stateOn_17 ⟨(Nat.le_of_ble_eq_true rfl), (Nat.le_of_ble_eq_true rfl)⟩) hS (fun q _ h => hFc q h) hFc (fun r_7 u t H locs ht hvm w_6 hB hz1 hk1 hS => ?_)
    have hP := pu_keep hP hk1
    clear hk1 hz1 hvm hB ht hFc
    have hb_8 := w_6
    refine lv_if_ne (tgt := 39) hx hb dX1_stateOn_20 (by decide +kernel) (fun c_9 => ?_) (fun c_9 => ?_)
    · have dc_9 := c_ne (a := r_7.toInt) (b := 0) rfl (by decide +kernel) c_9
      refine lv_iconst (v := 4) hx hb dX1_stateOn_39 (by decide +kernel) ?_
      exact W.iret (v := 4) hx hb hr (fun t ht hW => ⟨⟨4, (), rfl, (by decide +kernel), trivial⟩, hS.F ht⟩) hS.2.2 dX1_stateOn_40
    · have dc_9 := c_eq (a := r_7.toInt) (b := 0) rfl (by decide +kernel) c_9
      refine lv_aload_n hx hb dX1_stateOn_23 rfl (lv_at hl 0 rfl) ?_
      refine va_get (D := (dC, dI)) (ci := 1) (v := .int (oI Z o 7)) (C := RX1) (T := TX1) (N := 18) hx hb hts in_wsX1_stateOn_X1 hown hK hP q_1 hq_1 rfl 7 (by decide +kernel) (hts (.fieldLink RX1 44 "ShipOffice$Agreement" "isDead" "Z") iw_X1_stateOn_3) (fun _ h9 => h9) rfl dX1_stateOn_24 ?_
      refine lv_topi (fun x_10 ex_10 => ?_)
      clear ex_10
      refine lv_if_eq (tgt := 41) hx hb dX1_stateOn_27 (by decide +kernel) (fun c_11 => ?_) (fun c_11 => ?_)
      · have dc_11 := c_eq (a := x_10.toInt) (b := 0) rfl (by decide +kernel) c_11
        refine lv_aload_n hx hb dX1_stateOn_41 rfl (lv_at hl 0 rfl) ?_
        refine va_get (D := (dC, dI)) (ci := 1) (v := .int (oI Z o 6)) (C := RX1) (T := TX1) (N := 18) hx hb hts in_wsX1_stateOn_X1 hown hK hP q_1 hq_1 rfl 6 (by decide +kernel) (hts (.fieldLink RX1 10 "ShipOffice$Agreement" "offDay" "I") iw_X1_stateOn_4) (fun _ h9 => h9) rfl dX1_stateOn_42 ?_
        refine lv_topi (fun x_12 ex_12 => ?_)
        have gx_12 : x_12.toInt = (oI Z o 6).toInt := iv_to ex_12
        clear ex_12
        refine lv_iload_n hx hb dX1_stateOn_45 rfl (lv_at hl 1 rfl) ?_
        refine lv_icmp_gt (tgt := 59) hx hb dX1_stateOn_46 (by decide +kernel) (fun c_13 => ?_) (fun c_13 => ?_)
        · have dc_13 := c_lt (a := x1.toInt) (b := x_12.toInt) rfl rfl c_13
          refine lv_aload_n hx hb dX1_stateOn_59 rfl (lv_at hl 0 rfl) ?_
          refine lv_iload_n hx hb dX1_stateOn_60 rfl (lv_at hl 1 rfl) ?_
          refine lv_iload_n hx hb dX1_stateOn_61 rfl (lv_at hl 2 rfl) ?_
          have hFc : ∀ q, va_A [] H.size q → A q := pu_free hS hA
          refine va_callq (va_runV (As := [.int x1, .int x2]) (rest := []) ⟨hx, hb, hml, hown, hts⟩ (c_X1_lastMove l dC dI H.size cq Z gI o to x1 x2) (cwV 2 hts gX1_stateOn_X1_lastMove rfl rfl rfl (by decide +kernel) ⟨(Nat.le_of_ble_eq_true rfl), (Nat.le_of_ble_eq_true rfl)⟩) (pr_V (r := (RX1, TX1, 18)) hP hK hD q_1 1 rfl hq_1) rfl rfl hl.1 rfl (lv_room (Nat.le_of_ble_eq_true rfl)) dX1_stateOn_62 ⟨(Nat.le_of_ble_eq_true rfl), (Nat.le_of_ble_eq_true rfl)⟩) hS (fun q _ h => hFc q h) hFc (fun r_15 u t H locs ht hvm w_14 hB hz1 hk1 hS => ?_)
          have hP := pu_keep hP hk1
          clear hk1 hz1 hvm hB ht hFc
          have hk_16 := w_14
          rcases r_15 with _ | b_17
          · refine W.eq (g2 := F0 m 65 ls [.null]) rfl ?_
            refine lv_astoreN (lv' := [(4, .null), (0, .ref o), (1, .int x1), (2, .int x2), (3, .ref a3)]) hx hb dX1_stateOn_65 hl (by decide +kernel) rfl (fun ls hl => ?_)
            refine lv_aloadN hx hb dX1_stateOn_67 (lv_at hl 0 rfl) ?_
            refine lv_ifnullN (tgt := 82) hx hb dX1_stateOn_69 (by decide +kernel) ?_
            refine lv_aload_n hx hb dX1_stateOn_82 rfl (lv_at hl 1 rfl) ?_
            refine va_get (D := (dC, dI)) (ci := 1) (v := .ref b_4) (C := RX1) (T := TX1) (N := 18) hx hb hts in_wsX1_stateOn_X1 hown hK hP q_1 hq_1 rfl 1 (by decide +kernel) (hts (.fieldLink RX1 33 "ShipOffice$Agreement" "voyage" "LShipOffice$Voyage;") iw_X1_stateOn_2) (fun _ h9 => h9) (o_rd hb_4) dX1_stateOn_83 ?_
            refine lv_iload_n hx hb dX1_stateOn_86 rfl (lv_at hl 2 rfl) ?_
            refine lv_iload_n hx hb dX1_stateOn_87 rfl (lv_at hl 3 rfl) ?_
            have hFc : ∀ q, va_A [] H.size q → A q := pu_free hS hA
            refine va_calli (va_runV (As := [.int x1, .int x2]) (rest := []) ⟨hx, hb, hml, hown, hts⟩ (c_X9_sailedBy l dC dI H.size cq Z gI b_4 tb_4 x1 x2) (cwV 2 hts gX1_stateOn_X9_sailedBy rfl rfl rfl (by decide +kernel) ⟨(Nat.le_of_ble_eq_true rfl), (Nat.le_of_ble_eq_true rfl)⟩) (pr_V (r := (RX9, TX9, 10)) hP hK hD q_5 9 rfl hq_5) rfl rfl hl.1 rfl (lv_room (Nat.le_of_ble_eq_true rfl)) dX1_stateOn_88 ⟨(Nat.le_of_ble_eq_true rfl), (Nat.le_of_ble_eq_true rfl)⟩) hS (fun q _ h => hFc q h) hFc (fun r_19 u t H locs ht hvm w_18 hB hz1 hk1 hS => ?_)
            have hP := pu_keep hP hk1
            clear hk1 hz1 hvm hB ht hFc
            have hb_20 := w_18
            refine lv_if_ne (tgt := 96) hx hb dX1_stateOn_91 (by decide +kernel) (fun c_21 => ?_) (fun c_21 => ?_)
            · have dc_21 := c_ne (a := r_19.toInt) (b := 0) rfl (by decide +kernel) c_21
              refine lv_aload_n hx hb dX1_stateOn_96 rfl (lv_at hl 1 rfl) ?_
              refine va_get (D := (dC, dI)) (ci := 1) (v := .ref b_4) (C := RX1) (T := TX1) (N := 18) hx hb hts in_wsX1_stateOn_X1 hown hK hP q_1 hq_1 rfl 1 (by decide +kernel) (hts (.fieldLink RX1 33 "ShipOffice$Agreement" "voyage" "LShipOffice$Voyage;") iw_X1_stateOn_2) (fun _ h9 => h9) (o_rd hb_4) dX1_stateOn_97 ?_
              refine lv_iload_n hx hb dX1_stateOn_100 rfl (lv_at hl 2 rfl) ?_
              refine lv_iload_n hx hb dX1_stateOn_101 rfl (lv_at hl 3 rfl) ?_
              have hFc : ∀ q, va_A [] H.size q → A q := pu_free hS hA
              refine va_calli (va_runV (As := [.int x1, .int x2]) (rest := []) ⟨hx, hb, hml, hown, hts⟩ (c_X9_lastHeard l dC dI H.size cq Z gI b_4 tb_4 x1 x2) (cwV 2 hts gX1_stateOn_X9_lastHeard rfl rfl rfl (by decide +kernel) ⟨(Nat.le_of_ble_eq_true rfl), (Nat.le_of_ble_eq_true rfl)⟩) (pr_V (r := (RX9, TX9, 10)) hP hK hD q_5 9 rfl hq_5) rfl rfl hl.1 rfl (lv_room (Nat.le_of_ble_eq_true rfl)) dX1_stateOn_102 ⟨(Nat.le_of_ble_eq_true rfl), (Nat.le_of_ble_eq_true rfl)⟩) hS (fun q _ h => hFc q h) hFc (fun r_23 u t H locs ht hvm w_22 hB hz1 hk1 hS => ?_)
              have hP := pu_keep hP hk1
              clear hk1 hz1 hvm hB ht hFc
              refine lv_iload_n hx hb dX1_stateOn_105 rfl (lv_at hl 2 rfl) ?_
              refine lv_aload_n hx hb dX1_stateOn_106 rfl (lv_at hl 4 rfl) ?_
              refine lv_iconst (v := 4) hx hb dX1_stateOn_107 (by decide +kernel) ?_
              refine lv_iload_n hx hb dX1_stateOn_108 rfl (lv_at hl 2 rfl) ?_
              have hFc : ∀ q, va_A [] H.size q → A q := pu_free hS hA
              obtain ⟨q_24, hq_24⟩ := og (cq := cq) ta3.1 (oE_5 ta3.2)
              refine va_callq (va_runV (As := [.int 4, .int x1]) (rest := [.int x1, .int r_23]) ⟨hx, hb, hml, hown, hts⟩ (c_X5_inForce l dC dI H.size cq Z gI a3 ta3 4 (by decide +kernel) x1) (cwV 2 hts gX1_stateOn_X5_inForce rfl rfl rfl (by decide +kernel) ⟨(Nat.le_of_ble_eq_true rfl), (Nat.le_of_ble_eq_true rfl)⟩) (pr_V (r := (RX5, TX5, 3)) hP hK hD q_24 5 rfl hq_24) rfl rfl hl.1 rfl (lv_room (Nat.le_of_ble_eq_true rfl)) dX1_stateOn_109 ⟨(Nat.le_of_ble_eq_true rfl), (Nat.le_of_ble_eq_true rfl)⟩) hS (fun q _ h => hFc q h) hFc (fun r_26 u t H locs ht hvm w_25 hB hz1 hk1 hS => ?_)
              have hP := pu_keep hP hk1
              clear hk1 hz1 hvm hB ht hFc
              have hk_27 := w_25
              obtain ⟨b_28, rfl, tb_28⟩ := hk_27
              refine W.eq (g2 := F0 m 112 ls [.ref b_28, .int x1, .int r_23]) rfl ?_
              obtain ⟨q_29, hq_29⟩ := og (cq := cq) tb_28.1 (oE_0 tb_28.2)
              refine va_get (D := (dC, dI)) (ci := 0) (v := .int (oI Z b_28 2)) (C := RX0) (T := TX0) (N := 5) hx hb hts in_wsX1_stateOn_X0 hown hK hP q_29 hq_29 rfl 2 (by decide +kernel) (hts (.fieldLink RX1 82 "ShipOffice$Act" "plainWorth" "I") iw_X1_stateOn_5) (fun _ h9 => h9) rfl dX1_stateOn_112 ?_
              refine lv_topi (fun x_30 ex_30 => ?_)
              clear ex_30
              refine lv_isub hx hb dX1_stateOn_115 ?_
              refine lv_topi (fun x_31 ex_31 => ?_)
              clear ex_31
              refine lv_icmp_ge (tgt := 123) hx hb dX1_stateOn_116 (by decide +kernel) (fun c_32 => ?_) (fun c_32 => ?_)
              · have dc_32 := c_le (a := x_31.toInt) (b := r_23.toInt) rfl rfl c_32
                refine lv_iconst (v := 1) hx hb dX1_stateOn_123 (by decide +kernel) ?_
                exact W.iret (v := 1) hx hb hr (fun t ht hW => ⟨⟨1, (), rfl, (by decide +kernel), trivial⟩, hS.F ht⟩) hS.2.2 dX1_stateOn_124
              · have dc_32 := c_nle (a := x_31.toInt) (b := r_23.toInt) rfl rfl c_32
                refine lv_iconst (v := 2) hx hb dX1_stateOn_119 (by decide +kernel) ?_
                refine lv_goto (tgt := 124) hx hb dX1_stateOn_120 (by decide +kernel) ?_
                exact W.iret (v := 2) hx hb hr (fun t ht hW => ⟨⟨2, (), rfl, (by decide +kernel), trivial⟩, hS.F ht⟩) hS.2.2 dX1_stateOn_124
            · have dc_21 := c_eq (a := r_19.toInt) (b := 0) rfl (by decide +kernel) c_21
              refine lv_iconst (v := 0) hx hb dX1_stateOn_94 (by decide +kernel) ?_
              exact W.iret (v := 0) hx hb hr (fun t ht hW => ⟨⟨0, (), rfl, (by decide +kernel), trivial⟩, hS.F ht⟩) hS.2.2 dX1_stateOn_95
          · refine W.eq (g2 := F0 m 65 ls [.ref b_17]) rfl ?_
            have tb_17 : oty Z b_17 3 := hk_16 b_17 rfl
            refine lv_astore (lv' := [(4, .ref b_17), (0, .ref o), (1, .int x1), (2, .int x2), (3, .ref a3)]) hx hb dX1_stateOn_65 hl (by decide +kernel) rfl (fun ls hl => ?_)
            refine lv_aload hx hb dX1_stateOn_67 (lv_at hl 0 rfl) ?_
            refine lv_ifnull hx hb dX1_stateOn_69 ?_
            refine lv_aload hx hb dX1_stateOn_72 (lv_at hl 0 rfl) ?_
            obtain ⟨q_33, hq_33⟩ := og (cq := cq) tb_17.1 (oE_3 tb_17.2)
            refine va_get (D := (dC, dI)) (ci := 3) (v := .int (oI Z b_17 0)) (C := RX3) (T := TX3) (N := 6) hx hb hts in_wsX1_stateOn_X3 hown hK hP q_33 hq_33 rfl 0 (by decide +kernel) (hts (.fieldLink RX1 64 "ShipOffice$Happening" "kind" "I") iw_X1_stateOn_6) (fun _ h9 => h9) rfl dX1_stateOn_74 ?_
            refine lv_topi (fun x_34 ex_34 => ?_)
            clear ex_34
            refine lv_if_ne (tgt := 82) hx hb dX1_stateOn_77 (by decide +kernel) (fun c_35 => ?_) (fun c_35 => ?_)
            · have dc_35 := c_ne (a := x_34.toInt) (b := 0) rfl (by decide +kernel) c_35
              refine lv_aload_n hx hb dX1_stateOn_82 rfl (lv_at hl 1 rfl) ?_
              refine va_get (D := (dC, dI)) (ci := 1) (v := .ref b_4) (C := RX1) (T := TX1) (N := 18) hx hb hts in_wsX1_stateOn_X1 hown hK hP q_1 hq_1 rfl 1 (by decide +kernel) (hts (.fieldLink RX1 33 "ShipOffice$Agreement" "voyage" "LShipOffice$Voyage;") iw_X1_stateOn_2) (fun _ h9 => h9) (o_rd hb_4) dX1_stateOn_83 ?_
              refine lv_iload_n hx hb dX1_stateOn_86 rfl (lv_at hl 2 rfl) ?_
              refine lv_iload_n hx hb dX1_stateOn_87 rfl (lv_at hl 3 rfl) ?_
              have hFc : ∀ q, va_A [] H.size q → A q := pu_free hS hA
              refine va_calli (va_runV (As := [.int x1, .int x2]) (rest := []) ⟨hx, hb, hml, hown, hts⟩ (c_X9_sailedBy l dC dI H.size cq Z gI b_4 tb_4 x1 x2) (cwV 2 hts gX1_stateOn_X9_sailedBy rfl rfl rfl (by decide +kernel) ⟨(Nat.le_of_ble_eq_true rfl), (Nat.le_of_ble_eq_true rfl)⟩) (pr_V (r := (RX9, TX9, 10)) hP hK hD q_5 9 rfl hq_5) rfl rfl hl.1 rfl (lv_room (Nat.le_of_ble_eq_true rfl)) dX1_stateOn_88 ⟨(Nat.le_of_ble_eq_true rfl), (Nat.le_of_ble_eq_true rfl)⟩) hS (fun q _ h => hFc q h) hFc (fun r_37 u t H locs ht hvm w_36 hB hz1 hk1 hS => ?_)
              have hP := pu_keep hP hk1
              clear hk1 hz1 hvm hB ht hFc
              have hb_38 := w_36
              refine lv_if_ne (tgt := 96) hx hb dX1_stateOn_91 (by decide +kernel) (fun c_39 => ?_) (fun c_39 => ?_)
              · have dc_39 := c_ne (a := r_37.toInt) (b := 0) rfl (by decide +kernel) c_39
                refine lv_aload_n hx hb dX1_stateOn_96 rfl (lv_at hl 1 rfl) ?_
                refine va_get (D := (dC, dI)) (ci := 1) (v := .ref b_4) (C := RX1) (T := TX1) (N := 18) hx hb hts in_wsX1_stateOn_X1 hown hK hP q_1 hq_1 rfl 1 (by decide +kernel) (hts (.fieldLink RX1 33 "ShipOffice$Agreement" "voyage" "LShipOffice$Voyage;") iw_X1_stateOn_2) (fun _ h9 => h9) (o_rd hb_4) dX1_stateOn_97 ?_
                refine lv_iload_n hx hb dX1_stateOn_100 rfl (lv_at hl 2 rfl) ?_
                refine lv_iload_n hx hb dX1_stateOn_101 rfl (lv_at hl 3 rfl) ?_
                have hFc : ∀ q, va_A [] H.size q → A q := pu_free hS hA
                refine va_calli (va_runV (As := [.int x1, .int x2]) (rest := []) ⟨hx, hb, hml, hown, hts⟩ (c_X9_lastHeard l dC dI H.size cq Z gI b_4 tb_4 x1 x2) (cwV 2 hts gX1_stateOn_X9_lastHeard rfl rfl rfl (by decide +kernel) ⟨(Nat.le_of_ble_eq_true rfl), (Nat.le_of_ble_eq_true rfl)⟩) (pr_V (r := (RX9, TX9, 10)) hP hK hD q_5 9 rfl hq_5) rfl rfl hl.1 rfl (lv_room (Nat.le_of_ble_eq_true rfl)) dX1_stateOn_102 ⟨(Nat.le_of_ble_eq_true rfl), (Nat.le_of_ble_eq_true rfl)⟩) hS (fun q _ h => hFc q h) hFc (fun r_41 u t H locs ht hvm w_40 hB hz1 hk1 hS => ?_)
                have hP := pu_keep hP hk1
                clear hk1 hz1 hvm hB ht hFc
                refine lv_iload_n hx hb dX1_stateOn_105 rfl (lv_at hl 2 rfl) ?_
                refine lv_aload_n hx hb dX1_stateOn_106 rfl (lv_at hl 4 rfl) ?_
                refine lv_iconst (v := 4) hx hb dX1_stateOn_107 (by decide +kernel) ?_
                refine lv_iload_n hx hb dX1_stateOn_108 rfl (lv_at hl 2 rfl) ?_
                have hFc : ∀ q, va_A [] H.size q → A q := pu_free hS hA
                obtain ⟨q_42, hq_42⟩ := og (cq := cq) ta3.1 (oE_5 ta3.2)
                refine va_callq (va_runV (As := [.int 4, .int x1]) (rest := [.int x1, .int r_41]) ⟨hx, hb, hml, hown, hts⟩ (c_X5_inForce l dC dI H.size cq Z gI a3 ta3 4 (by decide +kernel) x1) (cwV 2 hts gX1_stateOn_X5_inForce rfl rfl rfl (by decide +kernel) ⟨(Nat.le_of_ble_eq_true rfl), (Nat.le_of_ble_eq_true rfl)⟩) (pr_V (r := (RX5, TX5, 3)) hP hK hD q_42 5 rfl hq_42) rfl rfl hl.1 rfl (lv_room (Nat.le_of_ble_eq_true rfl)) dX1_stateOn_109 ⟨(Nat.le_of_ble_eq_true rfl), (Nat.le_of_ble_eq_true rfl)⟩) hS (fun q _ h => hFc q h) hFc (fun r_44 u t H locs ht hvm w_43 hB hz1 hk1 hS => ?_)
                have hP := pu_keep hP hk1
                clear hk1 hz1 hvm hB ht hFc
                have hk_45 := w_43
                obtain ⟨b_46, rfl, tb_46⟩ := hk_45
                refine W.eq (g2 := F0 m 112 ls [.ref b_46, .int x1, .int r_41]) rfl ?_
                obtain ⟨q_47, hq_47⟩ := og (cq := cq) tb_46.1 (oE_0 tb_46.2)
                refine va_get (D := (dC, dI)) (ci := 0) (v := .int (oI Z b_46 2)) (C := RX0) (T := TX0) (N := 5) hx hb hts in_wsX1_stateOn_X0 hown hK hP q_47 hq_47 rfl 2 (by decide +kernel) (hts (.fieldLink RX1 82 "ShipOffice$Act" "plainWorth" "I") iw_X1_stateOn_5) (fun _ h9 => h9) rfl dX1_stateOn_112 ?_
                refine lv_topi (fun x_48 ex_48 => ?_)
                clear ex_48
                refine lv_isub hx hb dX1_stateOn_115 ?_
                refine lv_topi (fun x_49 ex_49 => ?_)
                clear ex_49
                refine lv_icmp_ge (tgt := 123) hx hb dX1_stateOn_116 (by decide +kernel) (fun c_50 => ?_) (fun c_50 => ?_)
                · have dc_50 := c_le (a := x_49.toInt) (b := r_41.toInt) rfl rfl c_50
                  refine lv_iconst (v := 1) hx hb dX1_stateOn_123 (by decide +kernel) ?_
                  exact W.iret (v := 1) hx hb hr (fun t ht hW => ⟨⟨1, (), rfl, (by decide +kernel), trivial⟩, hS.F ht⟩) hS.2.2 dX1_stateOn_124
                · have dc_50 := c_nle (a := x_49.toInt) (b := r_41.toInt) rfl rfl c_50
                  refine lv_iconst (v := 2) hx hb dX1_stateOn_119 (by decide +kernel) ?_
                  refine lv_goto (tgt := 124) hx hb dX1_stateOn_120 (by decide +kernel) ?_
                  exact W.iret (v := 2) hx hb hr (fun t ht hW => ⟨⟨2, (), rfl, (by decide +kernel), trivial⟩, hS.F ht⟩) hS.2.2 dX1_stateOn_124
              · have dc_39 := c_eq (a := r_37.toInt) (b := 0) rfl (by decide +kernel) c_39
                refine lv_iconst (v := 0) hx hb dX1_stateOn_94 (by decide +kernel) ?_
                exact W.iret (v := 0) hx hb hr (fun t ht hW => ⟨⟨0, (), rfl, (by decide +kernel), trivial⟩, hS.F ht⟩) hS.2.2 dX1_stateOn_95
            · have dc_35 := c_eq (a := x_34.toInt) (b := 0) rfl (by decide +kernel) c_35
              refine lv_iconst (v := 3) hx hb dX1_stateOn_80 (by decide +kernel) ?_
              exact W.iret (v := 3) hx hb hr (fun t ht hW => ⟨⟨3, (), rfl, (by decide +kernel), trivial⟩, hS.F ht⟩) hS.2.2 dX1_stateOn_81
        · have dc_13 := c_nlt (a := x1.toInt) (b := x_12.toInt) rfl rfl c_13
          refine lv_aload_n hx hb dX1_stateOn_49 rfl (lv_at hl 0 rfl) ?_
          refine va_get (D := (dC, dI)) (ci := 1) (v := .int (oI Z o 6)) (C := RX1) (T := TX1) (N := 18) hx hb hts in_wsX1_stateOn_X1 hown hK hP q_1 hq_1 rfl 6 (by decide +kernel) (hts (.fieldLink RX1 10 "ShipOffice$Agreement" "offDay" "I") iw_X1_stateOn_4) (fun _ h9 => h9) rfl dX1_stateOn_50 ?_
          refine lv_topi (fun x_51 ex_51 => ?_)
          have gx_51 : x_51.toInt = (oI Z o 6).toInt := iv_to ex_51
          clear ex_51
          refine lv_iload_n hx hb dX1_stateOn_53 rfl (lv_at hl 2 rfl) ?_
          refine lv_icmp_gt (tgt := 59) hx hb dX1_stateOn_54 (by decide +kernel) (fun c_52 => ?_) (fun c_52 => ?_)
          · have dc_52 := c_lt (a := x2.toInt) (b := x_51.toInt) rfl rfl c_52
            refine lv_aload_n hx hb dX1_stateOn_59 rfl (lv_at hl 0 rfl) ?_
            refine lv_iload_n hx hb dX1_stateOn_60 rfl (lv_at hl 1 rfl) ?_
            refine lv_iload_n hx hb dX1_stateOn_61 rfl (lv_at hl 2 rfl) ?_
            have hFc : ∀ q, va_A [] H.size q → A q := pu_free hS hA
            refine va_callq (va_runV (As := [.int x1, .int x2]) (rest := []) ⟨hx, hb, hml, hown, hts⟩ (c_X1_lastMove l dC dI H.size cq Z gI o to x1 x2) (cwV 2 hts gX1_stateOn_X1_lastMove rfl rfl rfl (by decide +kernel) ⟨(Nat.le_of_ble_eq_true rfl), (Nat.le_of_ble_eq_true rfl)⟩) (pr_V (r := (RX1, TX1, 18)) hP hK hD q_1 1 rfl hq_1) rfl rfl hl.1 rfl (lv_room (Nat.le_of_ble_eq_true rfl)) dX1_stateOn_62 ⟨(Nat.le_of_ble_eq_true rfl), (Nat.le_of_ble_eq_true rfl)⟩) hS (fun q _ h => hFc q h) hFc (fun r_54 u t H locs ht hvm w_53 hB hz1 hk1 hS => ?_)
            have hP := pu_keep hP hk1
            clear hk1 hz1 hvm hB ht hFc
            have hk_55 := w_53
            rcases r_54 with _ | b_56
            · refine W.eq (g2 := F0 m 65 ls [.null]) rfl ?_
              refine lv_astoreN (lv' := [(4, .null), (0, .ref o), (1, .int x1), (2, .int x2), (3, .ref a3)]) hx hb dX1_stateOn_65 hl (by decide +kernel) rfl (fun ls hl => ?_)
              refine lv_aloadN hx hb dX1_stateOn_67 (lv_at hl 0 rfl) ?_
              refine lv_ifnullN (tgt := 82) hx hb dX1_stateOn_69 (by decide +kernel) ?_
              refine lv_aload_n hx hb dX1_stateOn_82 rfl (lv_at hl 1 rfl) ?_
              refine va_get (D := (dC, dI)) (ci := 1) (v := .ref b_4) (C := RX1) (T := TX1) (N := 18) hx hb hts in_wsX1_stateOn_X1 hown hK hP q_1 hq_1 rfl 1 (by decide +kernel) (hts (.fieldLink RX1 33 "ShipOffice$Agreement" "voyage" "LShipOffice$Voyage;") iw_X1_stateOn_2) (fun _ h9 => h9) (o_rd hb_4) dX1_stateOn_83 ?_
              refine lv_iload_n hx hb dX1_stateOn_86 rfl (lv_at hl 2 rfl) ?_
              refine lv_iload_n hx hb dX1_stateOn_87 rfl (lv_at hl 3 rfl) ?_
              have hFc : ∀ q, va_A [] H.size q → A q := pu_free hS hA
              refine va_calli (va_runV (As := [.int x1, .int x2]) (rest := []) ⟨hx, hb, hml, hown, hts⟩ (c_X9_sailedBy l dC dI H.size cq Z gI b_4 tb_4 x1 x2) (cwV 2 hts gX1_stateOn_X9_sailedBy rfl rfl rfl (by decide +kernel) ⟨(Nat.le_of_ble_eq_true rfl), (Nat.le_of_ble_eq_true rfl)⟩) (pr_V (r := (RX9, TX9, 10)) hP hK hD q_5 9 rfl hq_5) rfl rfl hl.1 rfl (lv_room (Nat.le_of_ble_eq_true rfl)) dX1_stateOn_88 ⟨(Nat.le_of_ble_eq_true rfl), (Nat.le_of_ble_eq_true rfl)⟩) hS (fun q _ h => hFc q h) hFc (fun r_58 u t H locs ht hvm w_57 hB hz1 hk1 hS => ?_)
              have hP := pu_keep hP hk1
              clear hk1 hz1 hvm hB ht hFc
              have hb_59 := w_57
              refine lv_if_ne (tgt := 96) hx hb dX1_stateOn_91 (by decide +kernel) (fun c_60 => ?_) (fun c_60 => ?_)
              · have dc_60 := c_ne (a := r_58.toInt) (b := 0) rfl (by decide +kernel) c_60
                refine lv_aload_n hx hb dX1_stateOn_96 rfl (lv_at hl 1 rfl) ?_
                refine va_get (D := (dC, dI)) (ci := 1) (v := .ref b_4) (C := RX1) (T := TX1) (N := 18) hx hb hts in_wsX1_stateOn_X1 hown hK hP q_1 hq_1 rfl 1 (by decide +kernel) (hts (.fieldLink RX1 33 "ShipOffice$Agreement" "voyage" "LShipOffice$Voyage;") iw_X1_stateOn_2) (fun _ h9 => h9) (o_rd hb_4) dX1_stateOn_97 ?_
                refine lv_iload_n hx hb dX1_stateOn_100 rfl (lv_at hl 2 rfl) ?_
                refine lv_iload_n hx hb dX1_stateOn_101 rfl (lv_at hl 3 rfl) ?_
                have hFc : ∀ q, va_A [] H.size q → A q := pu_free hS hA
                refine va_calli (va_runV (As := [.int x1, .int x2]) (rest := []) ⟨hx, hb, hml, hown, hts⟩ (c_X9_lastHeard l dC dI H.size cq Z gI b_4 tb_4 x1 x2) (cwV 2 hts gX1_stateOn_X9_lastHeard rfl rfl rfl (by decide +kernel) ⟨(Nat.le_of_ble_eq_true rfl), (Nat.le_of_ble_eq_true rfl)⟩) (pr_V (r := (RX9, TX9, 10)) hP hK hD q_5 9 rfl hq_5) rfl rfl hl.1 rfl (lv_room (Nat.le_of_ble_eq_true rfl)) dX1_stateOn_102 ⟨(Nat.le_of_ble_eq_true rfl), (Nat.le_of_ble_eq_true rfl)⟩) hS (fun q _ h => hFc q h) hFc (fun r_62 u t H locs ht hvm w_61 hB hz1 hk1 hS => ?_)
                have hP := pu_keep hP hk1
                clear hk1 hz1 hvm hB ht hFc
                refine lv_iload_n hx hb dX1_stateOn_105 rfl (lv_at hl 2 rfl) ?_
                refine lv_aload_n hx hb dX1_stateOn_106 rfl (lv_at hl 4 rfl) ?_
                refine lv_iconst (v := 4) hx hb dX1_stateOn_107 (by decide +kernel) ?_
                refine lv_iload_n hx hb dX1_stateOn_108 rfl (lv_at hl 2 rfl) ?_
                have hFc : ∀ q, va_A [] H.size q → A q := pu_free hS hA
                obtain ⟨q_63, hq_63⟩ := og (cq := cq) ta3.1 (oE_5 ta3.2)
                refine va_callq (va_runV (As := [.int 4, .int x1]) (rest := [.int x1, .int r_62]) ⟨hx, hb, hml, hown, hts⟩ (c_X5_inForce l dC dI H.size cq Z gI a3 ta3 4 (by decide +kernel) x1) (cwV 2 hts gX1_stateOn_X5_inForce rfl rfl rfl (by decide +kernel) ⟨(Nat.le_of_ble_eq_true rfl), (Nat.le_of_ble_eq_true rfl)⟩) (pr_V (r := (RX5, TX5, 3)) hP hK hD q_63 5 rfl hq_63) rfl rfl hl.1 rfl (lv_room (Nat.le_of_ble_eq_true rfl)) dX1_stateOn_109 ⟨(Nat.le_of_ble_eq_true rfl), (Nat.le_of_ble_eq_true rfl)⟩) hS (fun q _ h => hFc q h) hFc (fun r_65 u t H locs ht hvm w_64 hB hz1 hk1 hS => ?_)
                have hP := pu_keep hP hk1
                clear hk1 hz1 hvm hB ht hFc
                have hk_66 := w_64
                obtain ⟨b_67, rfl, tb_67⟩ := hk_66
                refine W.eq (g2 := F0 m 112 ls [.ref b_67, .int x1, .int r_62]) rfl ?_
                obtain ⟨q_68, hq_68⟩ := og (cq := cq) tb_67.1 (oE_0 tb_67.2)
                refine va_get (D := (dC, dI)) (ci := 0) (v := .int (oI Z b_67 2)) (C := RX0) (T := TX0) (N := 5) hx hb hts in_wsX1_stateOn_X0 hown hK hP q_68 hq_68 rfl 2 (by decide +kernel) (hts (.fieldLink RX1 82 "ShipOffice$Act" "plainWorth" "I") iw_X1_stateOn_5) (fun _ h9 => h9) rfl dX1_stateOn_112 ?_
                refine lv_topi (fun x_69 ex_69 => ?_)
                clear ex_69
                refine lv_isub hx hb dX1_stateOn_115 ?_
                refine lv_topi (fun x_70 ex_70 => ?_)
                clear ex_70
                refine lv_icmp_ge (tgt := 123) hx hb dX1_stateOn_116 (by decide +kernel) (fun c_71 => ?_) (fun c_71 => ?_)
                · have dc_71 := c_le (a := x_70.toInt) (b := r_62.toInt) rfl rfl c_71
                  refine lv_iconst (v := 1) hx hb dX1_stateOn_123 (by decide +kernel) ?_
                  exact W.iret (v := 1) hx hb hr (fun t ht hW => ⟨⟨1, (), rfl, (by decide +kernel), trivial⟩, hS.F ht⟩) hS.2.2 dX1_stateOn_124
                · have dc_71 := c_nle (a := x_70.toInt) (b := r_62.toInt) rfl rfl c_71
                  refine lv_iconst (v := 2) hx hb dX1_stateOn_119 (by decide +kernel) ?_
                  refine lv_goto (tgt := 124) hx hb dX1_stateOn_120 (by decide +kernel) ?_
                  exact W.iret (v := 2) hx hb hr (fun t ht hW => ⟨⟨2, (), rfl, (by decide +kernel), trivial⟩, hS.F ht⟩) hS.2.2 dX1_stateOn_124
              · have dc_60 := c_eq (a := r_58.toInt) (b := 0) rfl (by decide +kernel) c_60
                refine lv_iconst (v := 0) hx hb dX1_stateOn_94 (by decide +kernel) ?_
                exact W.iret (v := 0) hx hb hr (fun t ht hW => ⟨⟨0, (), rfl, (by decide +kernel), trivial⟩, hS.F ht⟩) hS.2.2 dX1_stateOn_95
            · refine W.eq (g2 := F0 m 65 ls [.ref b_56]) rfl ?_
              have tb_56 : oty Z b_56 3 := hk_55 b_56 rfl
              refine lv_astore (lv' := [(4, .ref b_56), (0, .ref o), (1, .int x1), (2, .int x2), (3, .ref a3)]) hx hb dX1_stateOn_65 hl (by decide +kernel) rfl (fun ls hl => ?_)
              refine lv_aload hx hb dX1_stateOn_67 (lv_at hl 0 rfl) ?_
              refine lv_ifnull hx hb dX1_stateOn_69 ?_
              refine lv_aload hx hb dX1_stateOn_72 (lv_at hl 0 rfl) ?_
              obtain ⟨q_72, hq_72⟩ := og (cq := cq) tb_56.1 (oE_3 tb_56.2)
              refine va_get (D := (dC, dI)) (ci := 3) (v := .int (oI Z b_56 0)) (C := RX3) (T := TX3) (N := 6) hx hb hts in_wsX1_stateOn_X3 hown hK hP q_72 hq_72 rfl 0 (by decide +kernel) (hts (.fieldLink RX1 64 "ShipOffice$Happening" "kind" "I") iw_X1_stateOn_6) (fun _ h9 => h9) rfl dX1_stateOn_74 ?_
              refine lv_topi (fun x_73 ex_73 => ?_)
              clear ex_73
              refine lv_if_ne (tgt := 82) hx hb dX1_stateOn_77 (by decide +kernel) (fun c_74 => ?_) (fun c_74 => ?_)
              · have dc_74 := c_ne (a := x_73.toInt) (b := 0) rfl (by decide +kernel) c_74
                refine lv_aload_n hx hb dX1_stateOn_82 rfl (lv_at hl 1 rfl) ?_
                refine va_get (D := (dC, dI)) (ci := 1) (v := .ref b_4) (C := RX1) (T := TX1) (N := 18) hx hb hts in_wsX1_stateOn_X1 hown hK hP q_1 hq_1 rfl 1 (by decide +kernel) (hts (.fieldLink RX1 33 "ShipOffice$Agreement" "voyage" "LShipOffice$Voyage;") iw_X1_stateOn_2) (fun _ h9 => h9) (o_rd hb_4) dX1_stateOn_83 ?_
                refine lv_iload_n hx hb dX1_stateOn_86 rfl (lv_at hl 2 rfl) ?_
                refine lv_iload_n hx hb dX1_stateOn_87 rfl (lv_at hl 3 rfl) ?_
                have hFc : ∀ q, va_A [] H.size q → A q := pu_free hS hA
                refine va_calli (va_runV (As := [.int x1, .int x2]) (rest := []) ⟨hx, hb, hml, hown, hts⟩ (c_X9_sailedBy l dC dI H.size cq Z gI b_4 tb_4 x1 x2) (cwV 2 hts gX1_stateOn_X9_sailedBy rfl rfl rfl (by decide +kernel) ⟨(Nat.le_of_ble_eq_true rfl), (Nat.le_of_ble_eq_true rfl)⟩) (pr_V (r := (RX9, TX9, 10)) hP hK hD q_5 9 rfl hq_5) rfl rfl hl.1 rfl (lv_room (Nat.le_of_ble_eq_true rfl)) dX1_stateOn_88 ⟨(Nat.le_of_ble_eq_true rfl), (Nat.le_of_ble_eq_true rfl)⟩) hS (fun q _ h => hFc q h) hFc (fun r_76 u t H locs ht hvm w_75 hB hz1 hk1 hS => ?_)
                have hP := pu_keep hP hk1
                clear hk1 hz1 hvm hB ht hFc
                have hb_77 := w_75
                refine lv_if_ne (tgt := 96) hx hb dX1_stateOn_91 (by decide +kernel) (fun c_78 => ?_) (fun c_78 => ?_)
                · have dc_78 := c_ne (a := r_76.toInt) (b := 0) rfl (by decide +kernel) c_78
                  refine lv_aload_n hx hb dX1_stateOn_96 rfl (lv_at hl 1 rfl) ?_
                  refine va_get (D := (dC, dI)) (ci := 1) (v := .ref b_4) (C := RX1) (T := TX1) (N := 18) hx hb hts in_wsX1_stateOn_X1 hown hK hP q_1 hq_1 rfl 1 (by decide +kernel) (hts (.fieldLink RX1 33 "ShipOffice$Agreement" "voyage" "LShipOffice$Voyage;") iw_X1_stateOn_2) (fun _ h9 => h9) (o_rd hb_4) dX1_stateOn_97 ?_
                  refine lv_iload_n hx hb dX1_stateOn_100 rfl (lv_at hl 2 rfl) ?_
                  refine lv_iload_n hx hb dX1_stateOn_101 rfl (lv_at hl 3 rfl) ?_
                  have hFc : ∀ q, va_A [] H.size q → A q := pu_free hS hA
                  refine va_calli (va_runV (As := [.int x1, .int x2]) (rest := []) ⟨hx, hb, hml, hown, hts⟩ (c_X9_lastHeard l dC dI H.size cq Z gI b_4 tb_4 x1 x2) (cwV 2 hts gX1_stateOn_X9_lastHeard rfl rfl rfl (by decide +kernel) ⟨(Nat.le_of_ble_eq_true rfl), (Nat.le_of_ble_eq_true rfl)⟩) (pr_V (r := (RX9, TX9, 10)) hP hK hD q_5 9 rfl hq_5) rfl rfl hl.1 rfl (lv_room (Nat.le_of_ble_eq_true rfl)) dX1_stateOn_102 ⟨(Nat.le_of_ble_eq_true rfl), (Nat.le_of_ble_eq_true rfl)⟩) hS (fun q _ h => hFc q h) hFc (fun r_80 u t H locs ht hvm w_79 hB hz1 hk1 hS => ?_)
                  have hP := pu_keep hP hk1
                  clear hk1 hz1 hvm hB ht hFc
                  refine lv_iload_n hx hb dX1_stateOn_105 rfl (lv_at hl 2 rfl) ?_
                  refine lv_aload_n hx hb dX1_stateOn_106 rfl (lv_at hl 4 rfl) ?_
                  refine lv_iconst (v := 4) hx hb dX1_stateOn_107 (by decide +kernel) ?_
                  refine lv_iload_n hx hb dX1_stateOn_108 rfl (lv_at hl 2 rfl) ?_
                  have hFc : ∀ q, va_A [] H.size q → A q := pu_free hS hA
                  obtain ⟨q_81, hq_81⟩ := og (cq := cq) ta3.1 (oE_5 ta3.2)
                  refine va_callq (va_runV (As := [.int 4, .int x1]) (rest := [.int x1, .int r_80]) ⟨hx, hb, hml, hown, hts⟩ (c_X5_inForce l dC dI H.size cq Z gI a3 ta3 4 (by decide +kernel) x1) (cwV 2 hts gX1_stateOn_X5_inForce rfl rfl rfl (by decide +kernel) ⟨(Nat.le_of_ble_eq_true rfl), (Nat.le_of_ble_eq_true rfl)⟩) (pr_V (r := (RX5, TX5, 3)) hP hK hD q_81 5 rfl hq_81) rfl rfl hl.1 rfl (lv_room (Nat.le_of_ble_eq_true rfl)) dX1_stateOn_109 ⟨(Nat.le_of_ble_eq_true rfl), (Nat.le_of_ble_eq_true rfl)⟩) hS (fun q _ h => hFc q h) hFc (fun r_83 u t H locs ht hvm w_82 hB hz1 hk1 hS => ?_)
                  have hP := pu_keep hP hk1
                  clear hk1 hz1 hvm hB ht hFc
                  have hk_84 := w_82
                  obtain ⟨b_85, rfl, tb_85⟩ := hk_84
                  refine W.eq (g2 := F0 m 112 ls [.ref b_85, .int x1, .int r_80]) rfl ?_
                  obtain ⟨q_86, hq_86⟩ := og (cq := cq) tb_85.1 (oE_0 tb_85.2)
                  refine va_get (D := (dC, dI)) (ci := 0) (v := .int (oI Z b_85 2)) (C := RX0) (T := TX0) (N := 5) hx hb hts in_wsX1_stateOn_X0 hown hK hP q_86 hq_86 rfl 2 (by decide +kernel) (hts (.fieldLink RX1 82 "ShipOffice$Act" "plainWorth" "I") iw_X1_stateOn_5) (fun _ h9 => h9) rfl dX1_stateOn_112 ?_
                  refine lv_topi (fun x_87 ex_87 => ?_)
                  clear ex_87
                  refine lv_isub hx hb dX1_stateOn_115 ?_
                  refine lv_topi (fun x_88 ex_88 => ?_)
                  clear ex_88
                  refine lv_icmp_ge (tgt := 123) hx hb dX1_stateOn_116 (by decide +kernel) (fun c_89 => ?_) (fun c_89 => ?_)
                  · have dc_89 := c_le (a := x_88.toInt) (b := r_80.toInt) rfl rfl c_89
                    refine lv_iconst (v := 1) hx hb dX1_stateOn_123 (by decide +kernel) ?_
                    exact W.iret (v := 1) hx hb hr (fun t ht hW => ⟨⟨1, (), rfl, (by decide +kernel), trivial⟩, hS.F ht⟩) hS.2.2 dX1_stateOn_124
                  · have dc_89 := c_nle (a := x_88.toInt) (b := r_80.toInt) rfl rfl c_89
                    refine lv_iconst (v := 2) hx hb dX1_stateOn_119 (by decide +kernel) ?_
                    refine lv_goto (tgt := 124) hx hb dX1_stateOn_120 (by decide +kernel) ?_
                    exact W.iret (v := 2) hx hb hr (fun t ht hW => ⟨⟨2, (), rfl, (by decide +kernel), trivial⟩, hS.F ht⟩) hS.2.2 dX1_stateOn_124
                · have dc_78 := c_eq (a := r_76.toInt) (b := 0) rfl (by decide +kernel) c_78
                  refine lv_iconst (v := 0) hx hb dX1_stateOn_94 (by decide +kernel) ?_
                  exact W.iret (v := 0) hx hb hr (fun t ht hW => ⟨⟨0, (), rfl, (by decide +kernel), trivial⟩, hS.F ht⟩) hS.2.2 dX1_stateOn_95
              · have dc_74 := c_eq (a := x_73.toInt) (b := 0) rfl (by decide +kernel) c_74
                refine lv_iconst (v := 3) hx hb dX1_stateOn_80 (by decide +kernel) ?_
                exact W.iret (v := 3) hx hb hr (fun t ht hW => ⟨⟨3, (), rfl, (by decide +kernel), trivial⟩, hS.F ht⟩) hS.2.2 dX1_stateOn_81
          · have dc_52 := c_nlt (a := x2.toInt) (b := x_51.toInt) rfl rfl c_52
            refine lv_iconst (v := 5) hx hb dX1_stateOn_57 (by decide +kernel) ?_
            exact W.iret (v := 5) hx hb hr (fun t ht hW => ⟨⟨5, (), rfl, (by decide +kernel), trivial⟩, hS.F ht⟩) hS.2.2 dX1_stateOn_58
      · have dc_11 := c_ne (a := x_10.toInt) (b := 0) rfl (by decide +kernel) c_11
        refine lv_aload_n hx hb dX1_stateOn_30 rfl (lv_at hl 0 rfl) ?_
        refine lv_iload_n hx hb dX1_stateOn_31 rfl (lv_at hl 1 rfl) ?_
        refine lv_iload_n hx hb dX1_stateOn_32 rfl (lv_at hl 2 rfl) ?_
        have hFc : ∀ q, va_A [] H.size q → A q := pu_free hS hA
        refine va_calli (va_runV (As := [.int x1, .int x2]) (rest := []) ⟨hx, hb, hml, hown, hts⟩ (c_X1_diedBy l dC dI H.size cq Z gI o to x1 x2) (cwV 2 hts gX1_stateOn_X1_diedBy rfl rfl rfl (by decide +kernel) ⟨(Nat.le_of_ble_eq_true rfl), (Nat.le_of_ble_eq_true rfl)⟩) (pr_V (r := (RX1, TX1, 18)) hP hK hD q_1 1 rfl hq_1) rfl rfl hl.1 rfl (lv_room (Nat.le_of_ble_eq_true rfl)) dX1_stateOn_33 ⟨(Nat.le_of_ble_eq_true rfl), (Nat.le_of_ble_eq_true rfl)⟩) hS (fun q _ h => hFc q h) hFc (fun r_91 u t H locs ht hvm w_90 hB hz1 hk1 hS => ?_)
        have hP := pu_keep hP hk1
        clear hk1 hz1 hvm hB ht hFc
        have hb_92 := w_90
        refine lv_if_eq (tgt := 41) hx hb dX1_stateOn_36 (by decide +kernel) (fun c_93 => ?_) (fun c_93 => ?_)
        · have dc_93 := c_eq (a := r_91.toInt) (b := 0) rfl (by decide +kernel) c_93
          refine lv_aload_n hx hb dX1_stateOn_41 rfl (lv_at hl 0 rfl) ?_
          refine va_get (D := (dC, dI)) (ci := 1) (v := .int (oI Z o 6)) (C := RX1) (T := TX1) (N := 18) hx hb hts in_wsX1_stateOn_X1 hown hK hP q_1 hq_1 rfl 6 (by decide +kernel) (hts (.fieldLink RX1 10 "ShipOffice$Agreement" "offDay" "I") iw_X1_stateOn_4) (fun _ h9 => h9) rfl dX1_stateOn_42 ?_
          refine lv_topi (fun x_94 ex_94 => ?_)
          have gx_94 : x_94.toInt = (oI Z o 6).toInt := iv_to ex_94
          clear ex_94
          refine lv_iload_n hx hb dX1_stateOn_45 rfl (lv_at hl 1 rfl) ?_
          refine lv_icmp_gt (tgt := 59) hx hb dX1_stateOn_46 (by decide +kernel) (fun c_95 => ?_) (fun c_95 => ?_)
          · have dc_95 := c_lt (a := x1.toInt) (b := x_94.toInt) rfl rfl c_95
            refine lv_aload_n hx hb dX1_stateOn_59 rfl (lv_at hl 0 rfl) ?_
            refine lv_iload_n hx hb dX1_stateOn_60 rfl (lv_at hl 1 rfl) ?_
            refine lv_iload_n hx hb dX1_stateOn_61 rfl (lv_at hl 2 rfl) ?_
            have hFc : ∀ q, va_A [] H.size q → A q := pu_free hS hA
            refine va_callq (va_runV (As := [.int x1, .int x2]) (rest := []) ⟨hx, hb, hml, hown, hts⟩ (c_X1_lastMove l dC dI H.size cq Z gI o to x1 x2) (cwV 2 hts gX1_stateOn_X1_lastMove rfl rfl rfl (by decide +kernel) ⟨(Nat.le_of_ble_eq_true rfl), (Nat.le_of_ble_eq_true rfl)⟩) (pr_V (r := (RX1, TX1, 18)) hP hK hD q_1 1 rfl hq_1) rfl rfl hl.1 rfl (lv_room (Nat.le_of_ble_eq_true rfl)) dX1_stateOn_62 ⟨(Nat.le_of_ble_eq_true rfl), (Nat.le_of_ble_eq_true rfl)⟩) hS (fun q _ h => hFc q h) hFc (fun r_97 u t H locs ht hvm w_96 hB hz1 hk1 hS => ?_)
            have hP := pu_keep hP hk1
            clear hk1 hz1 hvm hB ht hFc
            have hk_98 := w_96
            rcases r_97 with _ | b_99
            · refine W.eq (g2 := F0 m 65 ls [.null]) rfl ?_
              refine lv_astoreN (lv' := [(4, .null), (0, .ref o), (1, .int x1), (2, .int x2), (3, .ref a3)]) hx hb dX1_stateOn_65 hl (by decide +kernel) rfl (fun ls hl => ?_)
              refine lv_aloadN hx hb dX1_stateOn_67 (lv_at hl 0 rfl) ?_
              refine lv_ifnullN (tgt := 82) hx hb dX1_stateOn_69 (by decide +kernel) ?_
              refine lv_aload_n hx hb dX1_stateOn_82 rfl (lv_at hl 1 rfl) ?_
              refine va_get (D := (dC, dI)) (ci := 1) (v := .ref b_4) (C := RX1) (T := TX1) (N := 18) hx hb hts in_wsX1_stateOn_X1 hown hK hP q_1 hq_1 rfl 1 (by decide +kernel) (hts (.fieldLink RX1 33 "ShipOffice$Agreement" "voyage" "LShipOffice$Voyage;") iw_X1_stateOn_2) (fun _ h9 => h9) (o_rd hb_4) dX1_stateOn_83 ?_
              refine lv_iload_n hx hb dX1_stateOn_86 rfl (lv_at hl 2 rfl) ?_
              refine lv_iload_n hx hb dX1_stateOn_87 rfl (lv_at hl 3 rfl) ?_
              have hFc : ∀ q, va_A [] H.size q → A q := pu_free hS hA
              refine va_calli (va_runV (As := [.int x1, .int x2]) (rest := []) ⟨hx, hb, hml, hown, hts⟩ (c_X9_sailedBy l dC dI H.size cq Z gI b_4 tb_4 x1 x2) (cwV 2 hts gX1_stateOn_X9_sailedBy rfl rfl rfl (by decide +kernel) ⟨(Nat.le_of_ble_eq_true rfl), (Nat.le_of_ble_eq_true rfl)⟩) (pr_V (r := (RX9, TX9, 10)) hP hK hD q_5 9 rfl hq_5) rfl rfl hl.1 rfl (lv_room (Nat.le_of_ble_eq_true rfl)) dX1_stateOn_88 ⟨(Nat.le_of_ble_eq_true rfl), (Nat.le_of_ble_eq_true rfl)⟩) hS (fun q _ h => hFc q h) hFc (fun r_101 u t H locs ht hvm w_100 hB hz1 hk1 hS => ?_)
              have hP := pu_keep hP hk1
              clear hk1 hz1 hvm hB ht hFc
              have hb_102 := w_100
              refine lv_if_ne (tgt := 96) hx hb dX1_stateOn_91 (by decide +kernel) (fun c_103 => ?_) (fun c_103 => ?_)
              · have dc_103 := c_ne (a := r_101.toInt) (b := 0) rfl (by decide +kernel) c_103
                refine lv_aload_n hx hb dX1_stateOn_96 rfl (lv_at hl 1 rfl) ?_
                refine va_get (D := (dC, dI)) (ci := 1) (v := .ref b_4) (C := RX1) (T := TX1) (N := 18) hx hb hts in_wsX1_stateOn_X1 hown hK hP q_1 hq_1 rfl 1 (by decide +kernel) (hts (.fieldLink RX1 33 "ShipOffice$Agreement" "voyage" "LShipOffice$Voyage;") iw_X1_stateOn_2) (fun _ h9 => h9) (o_rd hb_4) dX1_stateOn_97 ?_
                refine lv_iload_n hx hb dX1_stateOn_100 rfl (lv_at hl 2 rfl) ?_
                refine lv_iload_n hx hb dX1_stateOn_101 rfl (lv_at hl 3 rfl) ?_
                have hFc : ∀ q, va_A [] H.size q → A q := pu_free hS hA
                refine va_calli (va_runV (As := [.int x1, .int x2]) (rest := []) ⟨hx, hb, hml, hown, hts⟩ (c_X9_lastHeard l dC dI H.size cq Z gI b_4 tb_4 x1 x2) (cwV 2 hts gX1_stateOn_X9_lastHeard rfl rfl rfl (by decide +kernel) ⟨(Nat.le_of_ble_eq_true rfl), (Nat.le_of_ble_eq_true rfl)⟩) (pr_V (r := (RX9, TX9, 10)) hP hK hD q_5 9 rfl hq_5) rfl rfl hl.1 rfl (lv_room (Nat.le_of_ble_eq_true rfl)) dX1_stateOn_102 ⟨(Nat.le_of_ble_eq_true rfl), (Nat.le_of_ble_eq_true rfl)⟩) hS (fun q _ h => hFc q h) hFc (fun r_105 u t H locs ht hvm w_104 hB hz1 hk1 hS => ?_)
                have hP := pu_keep hP hk1
                clear hk1 hz1 hvm hB ht hFc
                refine lv_iload_n hx hb dX1_stateOn_105 rfl (lv_at hl 2 rfl) ?_
                refine lv_aload_n hx hb dX1_stateOn_106 rfl (lv_at hl 4 rfl) ?_
                refine lv_iconst (v := 4) hx hb dX1_stateOn_107 (by decide +kernel) ?_
                refine lv_iload_n hx hb dX1_stateOn_108 rfl (lv_at hl 2 rfl) ?_
                have hFc : ∀ q, va_A [] H.size q → A q := pu_free hS hA
                obtain ⟨q_106, hq_106⟩ := og (cq := cq) ta3.1 (oE_5 ta3.2)
                refine va_callq (va_runV (As := [.int 4, .int x1]) (rest := [.int x1, .int r_105]) ⟨hx, hb, hml, hown, hts⟩ (c_X5_inForce l dC dI H.size cq Z gI a3 ta3 4 (by decide +kernel) x1) (cwV 2 hts gX1_stateOn_X5_inForce rfl rfl rfl (by decide +kernel) ⟨(Nat.le_of_ble_eq_true rfl), (Nat.le_of_ble_eq_true rfl)⟩) (pr_V (r := (RX5, TX5, 3)) hP hK hD q_106 5 rfl hq_106) rfl rfl hl.1 rfl (lv_room (Nat.le_of_ble_eq_true rfl)) dX1_stateOn_109 ⟨(Nat.le_of_ble_eq_true rfl), (Nat.le_of_ble_eq_true rfl)⟩) hS (fun q _ h => hFc q h) hFc (fun r_108 u t H locs ht hvm w_107 hB hz1 hk1 hS => ?_)
                have hP := pu_keep hP hk1
                clear hk1 hz1 hvm hB ht hFc
                have hk_109 := w_107
                obtain ⟨b_110, rfl, tb_110⟩ := hk_109
                refine W.eq (g2 := F0 m 112 ls [.ref b_110, .int x1, .int r_105]) rfl ?_
                obtain ⟨q_111, hq_111⟩ := og (cq := cq) tb_110.1 (oE_0 tb_110.2)
                refine va_get (D := (dC, dI)) (ci := 0) (v := .int (oI Z b_110 2)) (C := RX0) (T := TX0) (N := 5) hx hb hts in_wsX1_stateOn_X0 hown hK hP q_111 hq_111 rfl 2 (by decide +kernel) (hts (.fieldLink RX1 82 "ShipOffice$Act" "plainWorth" "I") iw_X1_stateOn_5) (fun _ h9 => h9) rfl dX1_stateOn_112 ?_
                refine lv_topi (fun x_112 ex_112 => ?_)
                clear ex_112
                refine lv_isub hx hb dX1_stateOn_115 ?_
                refine lv_topi (fun x_113 ex_113 => ?_)
                clear ex_113
                refine lv_icmp_ge (tgt := 123) hx hb dX1_stateOn_116 (by decide +kernel) (fun c_114 => ?_) (fun c_114 => ?_)
                · have dc_114 := c_le (a := x_113.toInt) (b := r_105.toInt) rfl rfl c_114
                  refine lv_iconst (v := 1) hx hb dX1_stateOn_123 (by decide +kernel) ?_
                  exact W.iret (v := 1) hx hb hr (fun t ht hW => ⟨⟨1, (), rfl, (by decide +kernel), trivial⟩, hS.F ht⟩) hS.2.2 dX1_stateOn_124
                · have dc_114 := c_nle (a := x_113.toInt) (b := r_105.toInt) rfl rfl c_114
                  refine lv_iconst (v := 2) hx hb dX1_stateOn_119 (by decide +kernel) ?_
                  refine lv_goto (tgt := 124) hx hb dX1_stateOn_120 (by decide +kernel) ?_
                  exact W.iret (v := 2) hx hb hr (fun t ht hW => ⟨⟨2, (), rfl, (by decide +kernel), trivial⟩, hS.F ht⟩) hS.2.2 dX1_stateOn_124
              · have dc_103 := c_eq (a := r_101.toInt) (b := 0) rfl (by decide +kernel) c_103
                refine lv_iconst (v := 0) hx hb dX1_stateOn_94 (by decide +kernel) ?_
                exact W.iret (v := 0) hx hb hr (fun t ht hW => ⟨⟨0, (), rfl, (by decide +kernel), trivial⟩, hS.F ht⟩) hS.2.2 dX1_stateOn_95
            · refine W.eq (g2 := F0 m 65 ls [.ref b_99]) rfl ?_
              have tb_99 : oty Z b_99 3 := hk_98 b_99 rfl
              refine lv_astore (lv' := [(4, .ref b_99), (0, .ref o), (1, .int x1), (2, .int x2), (3, .ref a3)]) hx hb dX1_stateOn_65 hl (by decide +kernel) rfl (fun ls hl => ?_)
              refine lv_aload hx hb dX1_stateOn_67 (lv_at hl 0 rfl) ?_
              refine lv_ifnull hx hb dX1_stateOn_69 ?_
              refine lv_aload hx hb dX1_stateOn_72 (lv_at hl 0 rfl) ?_
              obtain ⟨q_115, hq_115⟩ := og (cq := cq) tb_99.1 (oE_3 tb_99.2)
              refine va_get (D := (dC, dI)) (ci := 3) (v := .int (oI Z b_99 0)) (C := RX3) (T := TX3) (N := 6) hx hb hts in_wsX1_stateOn_X3 hown hK hP q_115 hq_115 rfl 0 (by decide +kernel) (hts (.fieldLink RX1 64 "ShipOffice$Happening" "kind" "I") iw_X1_stateOn_6) (fun _ h9 => h9) rfl dX1_stateOn_74 ?_
              refine lv_topi (fun x_116 ex_116 => ?_)
              clear ex_116
              refine lv_if_ne (tgt := 82) hx hb dX1_stateOn_77 (by decide +kernel) (fun c_117 => ?_) (fun c_117 => ?_)
              · have dc_117 := c_ne (a := x_116.toInt) (b := 0) rfl (by decide +kernel) c_117
                refine lv_aload_n hx hb dX1_stateOn_82 rfl (lv_at hl 1 rfl) ?_
                refine va_get (D := (dC, dI)) (ci := 1) (v := .ref b_4) (C := RX1) (T := TX1) (N := 18) hx hb hts in_wsX1_stateOn_X1 hown hK hP q_1 hq_1 rfl 1 (by decide +kernel) (hts (.fieldLink RX1 33 "ShipOffice$Agreement" "voyage" "LShipOffice$Voyage;") iw_X1_stateOn_2) (fun _ h9 => h9) (o_rd hb_4) dX1_stateOn_83 ?_
                refine lv_iload_n hx hb dX1_stateOn_86 rfl (lv_at hl 2 rfl) ?_
                refine lv_iload_n hx hb dX1_stateOn_87 rfl (lv_at hl 3 rfl) ?_
                have hFc : ∀ q, va_A [] H.size q → A q := pu_free hS hA
                refine va_calli (va_runV (As := [.int x1, .int x2]) (rest := []) ⟨hx, hb, hml, hown, hts⟩ (c_X9_sailedBy l dC dI H.size cq Z gI b_4 tb_4 x1 x2) (cwV 2 hts gX1_stateOn_X9_sailedBy rfl rfl rfl (by decide +kernel) ⟨(Nat.le_of_ble_eq_true rfl), (Nat.le_of_ble_eq_true rfl)⟩) (pr_V (r := (RX9, TX9, 10)) hP hK hD q_5 9 rfl hq_5) rfl rfl hl.1 rfl (lv_room (Nat.le_of_ble_eq_true rfl)) dX1_stateOn_88 ⟨(Nat.le_of_ble_eq_true rfl), (Nat.le_of_ble_eq_true rfl)⟩) hS (fun q _ h => hFc q h) hFc (fun r_119 u t H locs ht hvm w_118 hB hz1 hk1 hS => ?_)
                have hP := pu_keep hP hk1
                clear hk1 hz1 hvm hB ht hFc
                have hb_120 := w_118
                refine lv_if_ne (tgt := 96) hx hb dX1_stateOn_91 (by decide +kernel) (fun c_121 => ?_) (fun c_121 => ?_)
                · have dc_121 := c_ne (a := r_119.toInt) (b := 0) rfl (by decide +kernel) c_121
                  refine lv_aload_n hx hb dX1_stateOn_96 rfl (lv_at hl 1 rfl) ?_
                  refine va_get (D := (dC, dI)) (ci := 1) (v := .ref b_4) (C := RX1) (T := TX1) (N := 18) hx hb hts in_wsX1_stateOn_X1 hown hK hP q_1 hq_1 rfl 1 (by decide +kernel) (hts (.fieldLink RX1 33 "ShipOffice$Agreement" "voyage" "LShipOffice$Voyage;") iw_X1_stateOn_2) (fun _ h9 => h9) (o_rd hb_4) dX1_stateOn_97 ?_
                  refine lv_iload_n hx hb dX1_stateOn_100 rfl (lv_at hl 2 rfl) ?_
                  refine lv_iload_n hx hb dX1_stateOn_101 rfl (lv_at hl 3 rfl) ?_
                  have hFc : ∀ q, va_A [] H.size q → A q := pu_free hS hA
                  refine va_calli (va_runV (As := [.int x1, .int x2]) (rest := []) ⟨hx, hb, hml, hown, hts⟩ (c_X9_lastHeard l dC dI H.size cq Z gI b_4 tb_4 x1 x2) (cwV 2 hts gX1_stateOn_X9_lastHeard rfl rfl rfl (by decide +kernel) ⟨(Nat.le_of_ble_eq_true rfl), (Nat.le_of_ble_eq_true rfl)⟩) (pr_V (r := (RX9, TX9, 10)) hP hK hD q_5 9 rfl hq_5) rfl rfl hl.1 rfl (lv_room (Nat.le_of_ble_eq_true rfl)) dX1_stateOn_102 ⟨(Nat.le_of_ble_eq_true rfl), (Nat.le_of_ble_eq_true rfl)⟩) hS (fun q _ h => hFc q h) hFc (fun r_123 u t H locs ht hvm w_122 hB hz1 hk1 hS => ?_)
                  have hP := pu_keep hP hk1
                  clear hk1 hz1 hvm hB ht hFc
                  refine lv_iload_n hx hb dX1_stateOn_105 rfl (lv_at hl 2 rfl) ?_
                  refine lv_aload_n hx hb dX1_stateOn_106 rfl (lv_at hl 4 rfl) ?_
                  refine lv_iconst (v := 4) hx hb dX1_stateOn_107 (by decide +kernel) ?_
                  refine lv_iload_n hx hb dX1_stateOn_108 rfl (lv_at hl 2 rfl) ?_
                  have hFc : ∀ q, va_A [] H.size q → A q := pu_free hS hA
                  obtain ⟨q_124, hq_124⟩ := og (cq := cq) ta3.1 (oE_5 ta3.2)
                  refine va_callq (va_runV (As := [.int 4, .int x1]) (rest := [.int x1, .int r_123]) ⟨hx, hb, hml, hown, hts⟩ (c_X5_inForce l dC dI H.size cq Z gI a3 ta3 4 (by decide +kernel) x1) (cwV 2 hts gX1_stateOn_X5_inForce rfl rfl rfl (by decide +kernel) ⟨(Nat.le_of_ble_eq_true rfl), (Nat.le_of_ble_eq_true rfl)⟩) (pr_V (r := (RX5, TX5, 3)) hP hK hD q_124 5 rfl hq_124) rfl rfl hl.1 rfl (lv_room (Nat.le_of_ble_eq_true rfl)) dX1_stateOn_109 ⟨(Nat.le_of_ble_eq_true rfl), (Nat.le_of_ble_eq_true rfl)⟩) hS (fun q _ h => hFc q h) hFc (fun r_126 u t H locs ht hvm w_125 hB hz1 hk1 hS => ?_)
                  have hP := pu_keep hP hk1
                  clear hk1 hz1 hvm hB ht hFc
                  have hk_127 := w_125
                  obtain ⟨b_128, rfl, tb_128⟩ := hk_127
                  refine W.eq (g2 := F0 m 112 ls [.ref b_128, .int x1, .int r_123]) rfl ?_
                  obtain ⟨q_129, hq_129⟩ := og (cq := cq) tb_128.1 (oE_0 tb_128.2)
                  refine va_get (D := (dC, dI)) (ci := 0) (v := .int (oI Z b_128 2)) (C := RX0) (T := TX0) (N := 5) hx hb hts in_wsX1_stateOn_X0 hown hK hP q_129 hq_129 rfl 2 (by decide +kernel) (hts (.fieldLink RX1 82 "ShipOffice$Act" "plainWorth" "I") iw_X1_stateOn_5) (fun _ h9 => h9) rfl dX1_stateOn_112 ?_
                  refine lv_topi (fun x_130 ex_130 => ?_)
                  clear ex_130
                  refine lv_isub hx hb dX1_stateOn_115 ?_
                  refine lv_topi (fun x_131 ex_131 => ?_)
                  clear ex_131
                  refine lv_icmp_ge (tgt := 123) hx hb dX1_stateOn_116 (by decide +kernel) (fun c_132 => ?_) (fun c_132 => ?_)
                  · have dc_132 := c_le (a := x_131.toInt) (b := r_123.toInt) rfl rfl c_132
                    refine lv_iconst (v := 1) hx hb dX1_stateOn_123 (by decide +kernel) ?_
                    exact W.iret (v := 1) hx hb hr (fun t ht hW => ⟨⟨1, (), rfl, (by decide +kernel), trivial⟩, hS.F ht⟩) hS.2.2 dX1_stateOn_124
                  · have dc_132 := c_nle (a := x_131.toInt) (b := r_123.toInt) rfl rfl c_132
                    refine lv_iconst (v := 2) hx hb dX1_stateOn_119 (by decide +kernel) ?_
                    refine lv_goto (tgt := 124) hx hb dX1_stateOn_120 (by decide +kernel) ?_
                    exact W.iret (v := 2) hx hb hr (fun t ht hW => ⟨⟨2, (), rfl, (by decide +kernel), trivial⟩, hS.F ht⟩) hS.2.2 dX1_stateOn_124
                · have dc_121 := c_eq (a := r_119.toInt) (b := 0) rfl (by decide +kernel) c_121
                  refine lv_iconst (v := 0) hx hb dX1_stateOn_94 (by decide +kernel) ?_
                  exact W.iret (v := 0) hx hb hr (fun t ht hW => ⟨⟨0, (), rfl, (by decide +kernel), trivial⟩, hS.F ht⟩) hS.2.2 dX1_stateOn_95
              · have dc_117 := c_eq (a := x_116.toInt) (b := 0) rfl (by decide +kernel) c_117
                refine lv_iconst (v := 3) hx hb dX1_stateOn_80 (by decide +kernel) ?_
                exact W.iret (v := 3) hx hb hr (fun t ht hW => ⟨⟨3, (), rfl, (by decide +kernel), trivial⟩, hS.F ht⟩) hS.2.2 dX1_stateOn_81
          · have dc_95 := c_nlt (a := x1.toInt) (b := x_94.toInt) rfl rfl c_95
            refine lv_aload_n hx hb dX1_stateOn_49 rfl (lv_at hl 0 rfl) ?_
            refine va_get (D := (dC, dI)) (ci := 1) (v := .int (oI Z o 6)) (C := RX1) (T := TX1) (N := 18) hx hb hts in_wsX1_stateOn_X1 hown hK hP q_1 hq_1 rfl 6 (by decide +kernel) (hts (.fieldLink RX1 10 "ShipOffice$Agreement" "offDay" "I") iw_X1_stateOn_4) (fun _ h9 => h9) rfl dX1_stateOn_50 ?_
            refine lv_topi (fun x_133 ex_133 => ?_)
            have gx_133 : x_133.toInt = (oI Z o 6).toInt := iv_to ex_133
            clear ex_133
            refine lv_iload_n hx hb dX1_stateOn_53 rfl (lv_at hl 2 rfl) ?_
            refine lv_icmp_gt (tgt := 59) hx hb dX1_stateOn_54 (by decide +kernel) (fun c_134 => ?_) (fun c_134 => ?_)
            · have dc_134 := c_lt (a := x2.toInt) (b := x_133.toInt) rfl rfl c_134
              refine lv_aload_n hx hb dX1_stateOn_59 rfl (lv_at hl 0 rfl) ?_
              refine lv_iload_n hx hb dX1_stateOn_60 rfl (lv_at hl 1 rfl) ?_
              refine lv_iload_n hx hb dX1_stateOn_61 rfl (lv_at hl 2 rfl) ?_
              have hFc : ∀ q, va_A [] H.size q → A q := pu_free hS hA
              refine va_callq (va_runV (As := [.int x1, .int x2]) (rest := []) ⟨hx, hb, hml, hown, hts⟩ (c_X1_lastMove l dC dI H.size cq Z gI o to x1 x2) (cwV 2 hts gX1_stateOn_X1_lastMove rfl rfl rfl (by decide +kernel) ⟨(Nat.le_of_ble_eq_true rfl), (Nat.le_of_ble_eq_true rfl)⟩) (pr_V (r := (RX1, TX1, 18)) hP hK hD q_1 1 rfl hq_1) rfl rfl hl.1 rfl (lv_room (Nat.le_of_ble_eq_true rfl)) dX1_stateOn_62 ⟨(Nat.le_of_ble_eq_true rfl), (Nat.le_of_ble_eq_true rfl)⟩) hS (fun q _ h => hFc q h) hFc (fun r_136 u t H locs ht hvm w_135 hB hz1 hk1 hS => ?_)
              have hP := pu_keep hP hk1
              clear hk1 hz1 hvm hB ht hFc
              have hk_137 := w_135
              rcases r_136 with _ | b_138
              · refine W.eq (g2 := F0 m 65 ls [.null]) rfl ?_
                refine lv_astoreN (lv' := [(4, .null), (0, .ref o), (1, .int x1), (2, .int x2), (3, .ref a3)]) hx hb dX1_stateOn_65 hl (by decide +kernel) rfl (fun ls hl => ?_)
                refine lv_aloadN hx hb dX1_stateOn_67 (lv_at hl 0 rfl) ?_
                refine lv_ifnullN (tgt := 82) hx hb dX1_stateOn_69 (by decide +kernel) ?_
                refine lv_aload_n hx hb dX1_stateOn_82 rfl (lv_at hl 1 rfl) ?_
                refine va_get (D := (dC, dI)) (ci := 1) (v := .ref b_4) (C := RX1) (T := TX1) (N := 18) hx hb hts in_wsX1_stateOn_X1 hown hK hP q_1 hq_1 rfl 1 (by decide +kernel) (hts (.fieldLink RX1 33 "ShipOffice$Agreement" "voyage" "LShipOffice$Voyage;") iw_X1_stateOn_2) (fun _ h9 => h9) (o_rd hb_4) dX1_stateOn_83 ?_
                refine lv_iload_n hx hb dX1_stateOn_86 rfl (lv_at hl 2 rfl) ?_
                refine lv_iload_n hx hb dX1_stateOn_87 rfl (lv_at hl 3 rfl) ?_
                have hFc : ∀ q, va_A [] H.size q → A q := pu_free hS hA
                refine va_calli (va_runV (As := [.int x1, .int x2]) (rest := []) ⟨hx, hb, hml, hown, hts⟩ (c_X9_sailedBy l dC dI H.size cq Z gI b_4 tb_4 x1 x2) (cwV 2 hts gX1_stateOn_X9_sailedBy rfl rfl rfl (by decide +kernel) ⟨(Nat.le_of_ble_eq_true rfl), (Nat.le_of_ble_eq_true rfl)⟩) (pr_V (r := (RX9, TX9, 10)) hP hK hD q_5 9 rfl hq_5) rfl rfl hl.1 rfl (lv_room (Nat.le_of_ble_eq_true rfl)) dX1_stateOn_88 ⟨(Nat.le_of_ble_eq_true rfl), (Nat.le_of_ble_eq_true rfl)⟩) hS (fun q _ h => hFc q h) hFc (fun r_140 u t H locs ht hvm w_139 hB hz1 hk1 hS => ?_)
                have hP := pu_keep hP hk1
                clear hk1 hz1 hvm hB ht hFc
                have hb_141 := w_139
                refine lv_if_ne (tgt := 96) hx hb dX1_stateOn_91 (by decide +kernel) (fun c_142 => ?_) (fun c_142 => ?_)
                · have dc_142 := c_ne (a := r_140.toInt) (b := 0) rfl (by decide +kernel) c_142
                  refine lv_aload_n hx hb dX1_stateOn_96 rfl (lv_at hl 1 rfl) ?_
                  refine va_get (D := (dC, dI)) (ci := 1) (v := .ref b_4) (C := RX1) (T := TX1) (N := 18) hx hb hts in_wsX1_stateOn_X1 hown hK hP q_1 hq_1 rfl 1 (by decide +kernel) (hts (.fieldLink RX1 33 "ShipOffice$Agreement" "voyage" "LShipOffice$Voyage;") iw_X1_stateOn_2) (fun _ h9 => h9) (o_rd hb_4) dX1_stateOn_97 ?_
                  refine lv_iload_n hx hb dX1_stateOn_100 rfl (lv_at hl 2 rfl) ?_
                  refine lv_iload_n hx hb dX1_stateOn_101 rfl (lv_at hl 3 rfl) ?_
                  have hFc : ∀ q, va_A [] H.size q → A q := pu_free hS hA
                  refine va_calli (va_runV (As := [.int x1, .int x2]) (rest := []) ⟨hx, hb, hml, hown, hts⟩ (c_X9_lastHeard l dC dI H.size cq Z gI b_4 tb_4 x1 x2) (cwV 2 hts gX1_stateOn_X9_lastHeard rfl rfl rfl (by decide +kernel) ⟨(Nat.le_of_ble_eq_true rfl), (Nat.le_of_ble_eq_true rfl)⟩) (pr_V (r := (RX9, TX9, 10)) hP hK hD q_5 9 rfl hq_5) rfl rfl hl.1 rfl (lv_room (Nat.le_of_ble_eq_true rfl)) dX1_stateOn_102 ⟨(Nat.le_of_ble_eq_true rfl), (Nat.le_of_ble_eq_true rfl)⟩) hS (fun q _ h => hFc q h) hFc (fun r_144 u t H locs ht hvm w_143 hB hz1 hk1 hS => ?_)
                  have hP := pu_keep hP hk1
                  clear hk1 hz1 hvm hB ht hFc
                  refine lv_iload_n hx hb dX1_stateOn_105 rfl (lv_at hl 2 rfl) ?_
                  refine lv_aload_n hx hb dX1_stateOn_106 rfl (lv_at hl 4 rfl) ?_
                  refine lv_iconst (v := 4) hx hb dX1_stateOn_107 (by decide +kernel) ?_
                  refine lv_iload_n hx hb dX1_stateOn_108 rfl (lv_at hl 2 rfl) ?_
                  have hFc : ∀ q, va_A [] H.size q → A q := pu_free hS hA
                  obtain ⟨q_145, hq_145⟩ := og (cq := cq) ta3.1 (oE_5 ta3.2)
                  refine va_callq (va_runV (As := [.int 4, .int x1]) (rest := [.int x1, .int r_144]) ⟨hx, hb, hml, hown, hts⟩ (c_X5_inForce l dC dI H.size cq Z gI a3 ta3 4 (by decide +kernel) x1) (cwV 2 hts gX1_stateOn_X5_inForce rfl rfl rfl (by decide +kernel) ⟨(Nat.le_of_ble_eq_true rfl), (Nat.le_of_ble_eq_true rfl)⟩) (pr_V (r := (RX5, TX5, 3)) hP hK hD q_145 5 rfl hq_145) rfl rfl hl.1 rfl (lv_room (Nat.le_of_ble_eq_true rfl)) dX1_stateOn_109 ⟨(Nat.le_of_ble_eq_true rfl), (Nat.le_of_ble_eq_true rfl)⟩) hS (fun q _ h => hFc q h) hFc (fun r_147 u t H locs ht hvm w_146 hB hz1 hk1 hS => ?_)
                  have hP := pu_keep hP hk1
                  clear hk1 hz1 hvm hB ht hFc
                  have hk_148 := w_146
                  obtain ⟨b_149, rfl, tb_149⟩ := hk_148
                  refine W.eq (g2 := F0 m 112 ls [.ref b_149, .int x1, .int r_144]) rfl ?_
                  obtain ⟨q_150, hq_150⟩ := og (cq := cq) tb_149.1 (oE_0 tb_149.2)
                  refine va_get (D := (dC, dI)) (ci := 0) (v := .int (oI Z b_149 2)) (C := RX0) (T := TX0) (N := 5) hx hb hts in_wsX1_stateOn_X0 hown hK hP q_150 hq_150 rfl 2 (by decide +kernel) (hts (.fieldLink RX1 82 "ShipOffice$Act" "plainWorth" "I") iw_X1_stateOn_5) (fun _ h9 => h9) rfl dX1_stateOn_112 ?_
                  refine lv_topi (fun x_151 ex_151 => ?_)
                  clear ex_151
                  refine lv_isub hx hb dX1_stateOn_115 ?_
                  refine lv_topi (fun x_152 ex_152 => ?_)
                  clear ex_152
                  refine lv_icmp_ge (tgt := 123) hx hb dX1_stateOn_116 (by decide +kernel) (fun c_153 => ?_) (fun c_153 => ?_)
                  · have dc_153 := c_le (a := x_152.toInt) (b := r_144.toInt) rfl rfl c_153
                    refine lv_iconst (v := 1) hx hb dX1_stateOn_123 (by decide +kernel) ?_
                    exact W.iret (v := 1) hx hb hr (fun t ht hW => ⟨⟨1, (), rfl, (by decide +kernel), trivial⟩, hS.F ht⟩) hS.2.2 dX1_stateOn_124
                  · have dc_153 := c_nle (a := x_152.toInt) (b := r_144.toInt) rfl rfl c_153
                    refine lv_iconst (v := 2) hx hb dX1_stateOn_119 (by decide +kernel) ?_
                    refine lv_goto (tgt := 124) hx hb dX1_stateOn_120 (by decide +kernel) ?_
                    exact W.iret (v := 2) hx hb hr (fun t ht hW => ⟨⟨2, (), rfl, (by decide +kernel), trivial⟩, hS.F ht⟩) hS.2.2 dX1_stateOn_124
                · have dc_142 := c_eq (a := r_140.toInt) (b := 0) rfl (by decide +kernel) c_142
                  refine lv_iconst (v := 0) hx hb dX1_stateOn_94 (by decide +kernel) ?_
                  exact W.iret (v := 0) hx hb hr (fun t ht hW => ⟨⟨0, (), rfl, (by decide +kernel), trivial⟩, hS.F ht⟩) hS.2.2 dX1_stateOn_95
              · refine W.eq (g2 := F0 m 65 ls [.ref b_138]) rfl ?_
                have tb_138 : oty Z b_138 3 := hk_137 b_138 rfl
                refine lv_astore (lv' := [(4, .ref b_138), (0, .ref o), (1, .int x1), (2, .int x2), (3, .ref a3)]) hx hb dX1_stateOn_65 hl (by decide +kernel) rfl (fun ls hl => ?_)
                refine lv_aload hx hb dX1_stateOn_67 (lv_at hl 0 rfl) ?_
                refine lv_ifnull hx hb dX1_stateOn_69 ?_
                refine lv_aload hx hb dX1_stateOn_72 (lv_at hl 0 rfl) ?_
                obtain ⟨q_154, hq_154⟩ := og (cq := cq) tb_138.1 (oE_3 tb_138.2)
                refine va_get (D := (dC, dI)) (ci := 3) (v := .int (oI Z b_138 0)) (C := RX3) (T := TX3) (N := 6) hx hb hts in_wsX1_stateOn_X3 hown hK hP q_154 hq_154 rfl 0 (by decide +kernel) (hts (.fieldLink RX1 64 "ShipOffice$Happening" "kind" "I") iw_X1_stateOn_6) (fun _ h9 => h9) rfl dX1_stateOn_74 ?_
                refine lv_topi (fun x_155 ex_155 => ?_)
                clear ex_155
                refine lv_if_ne (tgt := 82) hx hb dX1_stateOn_77 (by decide +kernel) (fun c_156 => ?_) (fun c_156 => ?_)
                · have dc_156 := c_ne (a := x_155.toInt) (b := 0) rfl (by decide +kernel) c_156
                  refine lv_aload_n hx hb dX1_stateOn_82 rfl (lv_at hl 1 rfl) ?_
                  refine va_get (D := (dC, dI)) (ci := 1) (v := .ref b_4) (C := RX1) (T := TX1) (N := 18) hx hb hts in_wsX1_stateOn_X1 hown hK hP q_1 hq_1 rfl 1 (by decide +kernel) (hts (.fieldLink RX1 33 "ShipOffice$Agreement" "voyage" "LShipOffice$Voyage;") iw_X1_stateOn_2) (fun _ h9 => h9) (o_rd hb_4) dX1_stateOn_83 ?_
                  refine lv_iload_n hx hb dX1_stateOn_86 rfl (lv_at hl 2 rfl) ?_
                  refine lv_iload_n hx hb dX1_stateOn_87 rfl (lv_at hl 3 rfl) ?_
                  have hFc : ∀ q, va_A [] H.size q → A q := pu_free hS hA
                  refine va_calli (va_runV (As := [.int x1, .int x2]) (rest := []) ⟨hx, hb, hml, hown, hts⟩ (c_X9_sailedBy l dC dI H.size cq Z gI b_4 tb_4 x1 x2) (cwV 2 hts gX1_stateOn_X9_sailedBy rfl rfl rfl (by decide +kernel) ⟨(Nat.le_of_ble_eq_true rfl), (Nat.le_of_ble_eq_true rfl)⟩) (pr_V (r := (RX9, TX9, 10)) hP hK hD q_5 9 rfl hq_5) rfl rfl hl.1 rfl (lv_room (Nat.le_of_ble_eq_true rfl)) dX1_stateOn_88 ⟨(Nat.le_of_ble_eq_true rfl), (Nat.le_of_ble_eq_true rfl)⟩) hS (fun q _ h => hFc q h) hFc (fun r_158 u t H locs ht hvm w_157 hB hz1 hk1 hS => ?_)
                  have hP := pu_keep hP hk1
                  clear hk1 hz1 hvm hB ht hFc
                  have hb_159 := w_157
                  refine lv_if_ne (tgt := 96) hx hb dX1_stateOn_91 (by decide +kernel) (fun c_160 => ?_) (fun c_160 => ?_)
                  · have dc_160 := c_ne (a := r_158.toInt) (b := 0) rfl (by decide +kernel) c_160
                    refine lv_aload_n hx hb dX1_stateOn_96 rfl (lv_at hl 1 rfl) ?_
                    refine va_get (D := (dC, dI)) (ci := 1) (v := .ref b_4) (C := RX1) (T := TX1) (N := 18) hx hb hts in_wsX1_stateOn_X1 hown hK hP q_1 hq_1 rfl 1 (by decide +kernel) (hts (.fieldLink RX1 33 "ShipOffice$Agreement" "voyage" "LShipOffice$Voyage;") iw_X1_stateOn_2) (fun _ h9 => h9) (o_rd hb_4) dX1_stateOn_97 ?_
                    refine lv_iload_n hx hb dX1_stateOn_100 rfl (lv_at hl 2 rfl) ?_
                    refine lv_iload_n hx hb dX1_stateOn_101 rfl (lv_at hl 3 rfl) ?_
                    have hFc : ∀ q, va_A [] H.size q → A q := pu_free hS hA
                    refine va_calli (va_runV (As := [.int x1, .int x2]) (rest := []) ⟨hx, hb, hml, hown, hts⟩ (c_X9_lastHeard l dC dI H.size cq Z gI b_4 tb_4 x1 x2) (cwV 2 hts gX1_stateOn_X9_lastHeard rfl rfl rfl (by decide +kernel) ⟨(Nat.le_of_ble_eq_true rfl), (Nat.le_of_ble_eq_true rfl)⟩) (pr_V (r := (RX9, TX9, 10)) hP hK hD q_5 9 rfl hq_5) rfl rfl hl.1 rfl (lv_room (Nat.le_of_ble_eq_true rfl)) dX1_stateOn_102 ⟨(Nat.le_of_ble_eq_true rfl), (Nat.le_of_ble_eq_true rfl)⟩) hS (fun q _ h => hFc q h) hFc (fun r_162 u t H locs ht hvm w_161 hB hz1 hk1 hS => ?_)
                    have hP := pu_keep hP hk1
                    clear hk1 hz1 hvm hB ht hFc
                    refine lv_iload_n hx hb dX1_stateOn_105 rfl (lv_at hl 2 rfl) ?_
                    refine lv_aload_n hx hb dX1_stateOn_106 rfl (lv_at hl 4 rfl) ?_
                    refine lv_iconst (v := 4) hx hb dX1_stateOn_107 (by decide +kernel) ?_
                    refine lv_iload_n hx hb dX1_stateOn_108 rfl (lv_at hl 2 rfl) ?_
                    have hFc : ∀ q, va_A [] H.size q → A q := pu_free hS hA
                    obtain ⟨q_163, hq_163⟩ := og (cq := cq) ta3.1 (oE_5 ta3.2)
                    refine va_callq (va_runV (As := [.int 4, .int x1]) (rest := [.int x1, .int r_162]) ⟨hx, hb, hml, hown, hts⟩ (c_X5_inForce l dC dI H.size cq Z gI a3 ta3 4 (by decide +kernel) x1) (cwV 2 hts gX1_stateOn_X5_inForce rfl rfl rfl (by decide +kernel) ⟨(Nat.le_of_ble_eq_true rfl), (Nat.le_of_ble_eq_true rfl)⟩) (pr_V (r := (RX5, TX5, 3)) hP hK hD q_163 5 rfl hq_163) rfl rfl hl.1 rfl (lv_room (Nat.le_of_ble_eq_true rfl)) dX1_stateOn_109 ⟨(Nat.le_of_ble_eq_true rfl), (Nat.le_of_ble_eq_true rfl)⟩) hS (fun q _ h => hFc q h) hFc (fun r_165 u t H locs ht hvm w_164 hB hz1 hk1 hS => ?_)
                    have hP := pu_keep hP hk1
                    clear hk1 hz1 hvm hB ht hFc
                    have hk_166 := w_164
                    obtain ⟨b_167, rfl, tb_167⟩ := hk_166
                    refine W.eq (g2 := F0 m 112 ls [.ref b_167, .int x1, .int r_162]) rfl ?_
                    obtain ⟨q_168, hq_168⟩ := og (cq := cq) tb_167.1 (oE_0 tb_167.2)
                    refine va_get (D := (dC, dI)) (ci := 0) (v := .int (oI Z b_167 2)) (C := RX0) (T := TX0) (N := 5) hx hb hts in_wsX1_stateOn_X0 hown hK hP q_168 hq_168 rfl 2 (by decide +kernel) (hts (.fieldLink RX1 82 "ShipOffice$Act" "plainWorth" "I") iw_X1_stateOn_5) (fun _ h9 => h9) rfl dX1_stateOn_112 ?_
                    refine lv_topi (fun x_169 ex_169 => ?_)
                    clear ex_169
                    refine lv_isub hx hb dX1_stateOn_115 ?_
                    refine lv_topi (fun x_170 ex_170 => ?_)
                    clear ex_170
                    refine lv_icmp_ge (tgt := 123) hx hb dX1_stateOn_116 (by decide +kernel) (fun c_171 => ?_) (fun c_171 => ?_)
                    · have dc_171 := c_le (a := x_170.toInt) (b := r_162.toInt) rfl rfl c_171
                      refine lv_iconst (v := 1) hx hb dX1_stateOn_123 (by decide +kernel) ?_
                      exact W.iret (v := 1) hx hb hr (fun t ht hW => ⟨⟨1, (), rfl, (by decide +kernel), trivial⟩, hS.F ht⟩) hS.2.2 dX1_stateOn_124
                    · have dc_171 := c_nle (a := x_170.toInt) (b := r_162.toInt) rfl rfl c_171
                      refine lv_iconst (v := 2) hx hb dX1_stateOn_119 (by decide +kernel) ?_
                      refine lv_goto (tgt := 124) hx hb dX1_stateOn_120 (by decide +kernel) ?_
                      exact W.iret (v := 2) hx hb hr (fun t ht hW => ⟨⟨2, (), rfl, (by decide +kernel), trivial⟩, hS.F ht⟩) hS.2.2 dX1_stateOn_124
                  · have dc_160 := c_eq (a := r_158.toInt) (b := 0) rfl (by decide +kernel) c_160
                    refine lv_iconst (v := 0) hx hb dX1_stateOn_94 (by decide +kernel) ?_
                    exact W.iret (v := 0) hx hb hr (fun t ht hW => ⟨⟨0, (), rfl, (by decide +kernel), trivial⟩, hS.F ht⟩) hS.2.2 dX1_stateOn_95
                · have dc_156 := c_eq (a := x_155.toInt) (b := 0) rfl (by decide +kernel) c_156
                  refine lv_iconst (v := 3) hx hb dX1_stateOn_80 (by decide +kernel) ?_
                  exact W.iret (v := 3) hx hb hr (fun t ht hW => ⟨⟨3, (), rfl, (by decide +kernel), trivial⟩, hS.F ht⟩) hS.2.2 dX1_stateOn_81
            · have dc_134 := c_nlt (a := x2.toInt) (b := x_133.toInt) rfl rfl c_134
              refine lv_iconst (v := 5) hx hb dX1_stateOn_57 (by decide +kernel) ?_
              exact W.iret (v := 5) hx hb hr (fun t ht hW => ⟨⟨5, (), rfl, (by decide +kernel), trivial⟩, hS.F ht⟩) hS.2.2 dX1_stateOn_58
        · have dc_93 := c_ne (a := r_91.toInt) (b := 0) rfl (by decide +kernel) c_93
          refine lv_iconst (v := 4) hx hb dX1_stateOn_39 (by decide +kernel) ?_
          exact W.iret (v := 4) hx hb hr (fun t ht hW => ⟨⟨4, (), rfl, (by decide +kernel), trivial⟩, hS.F ht⟩) hS.2.2 dX1_stateOn_40
  · have dc_3 := c_nle (a := x_2.toInt) (b := x1.toInt) rfl rfl c_3
    refine lv_bipush (v := (-9)) hx hb dX1_stateOn_8 (by decide +kernel) ?_
    exact W.iret (v := (-9)) hx hb hr (fun t ht hW => ⟨⟨(-9), (), rfl, (by decide +kernel), trivial⟩, hS.F ht⟩) hS.2.2 dX1_stateOn_10
