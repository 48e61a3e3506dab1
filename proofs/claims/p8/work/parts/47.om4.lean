abbrev cX1_leavingOn : ByteArray := prog_3_method_6_code
def yX1_leavingOn : MethodName := ⟨RX1, "leavingOn", "(IILShipOffice$Law;)LShipOffice$Happening;"⟩
abbrev cX1_earningDays : ByteArray := prog_3_method_7_code
def yX1_earningDays : MethodName := ⟨RX1, "earningDays", "(IILShipOffice$Law;)I"⟩
abbrev cX1_daysIn : ByteArray := prog_3_method_8_code
def yX1_daysIn : MethodName := ⟨RX1, "daysIn", "(IIILShipOffice$Law;)I"⟩
abbrev cX1_nextChange : ByteArray := prog_3_method_9_code
def yX1_nextChange : MethodName := ⟨RX1, "nextChange", "(IILShipOffice$Law;)I"⟩
abbrev cX1_notePaid : ByteArray := prog_3_method_11_code
def yX1_notePaid : MethodName := ⟨RX1, "notePaid", "(IILShipOffice$Law;)I"⟩
abbrev cX1_allotmentsPaid : ByteArray := prog_3_method_12_code
def yX1_allotmentsPaid : MethodName := ⟨RX1, "allotmentsPaid", "(IILShipOffice$Law;)I"⟩
abbrev cX1_shortPence : ByteArray := prog_3_method_14_code
def yX1_shortPence : MethodName := ⟨RX1, "shortPence", "(I)I"⟩
theorem gw_X1_stateOn : wsX1_stateOn.all goodWord = true := by decide +kernel
def wsX1_leavingOn_r1 : List Cond := [Cond.methodLink RX1 100 yX1_stateOn, Cond.instanceMethod yX1_stateOn, Cond.selects RX1 yX1_stateOn yX1_stateOn, Cond.initialized RX1, Cond.code yX1_stateOn cX1_stateOn 5 (some .int), Cond.fieldLink RX1 37 "ShipOffice$Agreement" "signedOn" "I", Cond.fieldLink RX1 33 "ShipOffice$Agreement" "voyage" "LShipOffice$Voyage;", Cond.fieldLink RX1 44 "ShipOffice$Agreement" "isDead" "Z", Cond.fieldLink RX1 10 "ShipOffice$Agreement" "offDay" "I", Cond.fieldLink RX1 64 "ShipOffice$Happening" "kind" "I", Cond.fieldLink RX1 82 "ShipOffice$Act" "plainWorth" "I", Cond.methodLink RX1 53 yX9_lostBy, Cond.instanceMethod yX9_lostBy, Cond.selects RX9 yX9_lostBy yX9_lostBy, Cond.initialized RX9, Cond.code yX9_lostBy cX9_lostBy 3 (some .boolean), Cond.fieldLink RX9 22 "ShipOffice$Voyage" "lostTold" "I", Cond.fieldLink RX9 19 "ShipOffice$Voyage" "lostDay" "I", Cond.methodLink RX1 57 yX1_diedBy, Cond.instanceMethod yX1_diedBy, Cond.selects RX1 yX1_diedBy yX1_diedBy, Cond.code yX1_diedBy cX1_diedBy 4 (some .boolean), Cond.fieldLink RX1 87 "ShipOffice$Agreement" "tidings" "LShipOffice$Happening;", Cond.fieldLink RX1 91 "ShipOffice$Happening" "told" "I"]
def wsX1_leavingOn_r2 : List Cond := [Cond.fieldLink RX1 94 "ShipOffice$Happening" "day" "I", Cond.fieldLink RX1 97 "ShipOffice$Happening" "before" "LShipOffice$Happening;", Cond.methodLink RX1 60 yX1_lastMove, Cond.instanceMethod yX1_lastMove, Cond.selects RX1 yX1_lastMove yX1_lastMove, Cond.code yX1_lastMove cX1_lastMove 6 (some (.object "ShipOffice$Happening")), Cond.methodLink RX1 69 yX9_sailedBy, Cond.instanceMethod yX9_sailedBy, Cond.selects RX9 yX9_sailedBy yX9_sailedBy, Cond.code yX9_sailedBy cX9_sailedBy 3 (some .boolean), Cond.fieldLink RX9 16 "ShipOffice$Voyage" "sailedTold" "I", Cond.fieldLink RX9 10 "ShipOffice$Voyage" "sailedDay" "I", Cond.methodLink RX1 72 yX9_lastHeard, Cond.instanceMethod yX9_lastHeard, Cond.selects RX9 yX9_lastHeard yX9_lastHeard, Cond.code yX9_lastHeard cX9_lastHeard 5 (some .int), Cond.fieldLink RX9 41 "ShipOffice$Voyage" "heardOf" "LShipOffice$Happening;", Cond.fieldLink RX9 45 "ShipOffice$Happening" "told" "I", Cond.fieldLink RX9 50 "ShipOffice$Happening" "day" "I", Cond.fieldLink RX9 53 "ShipOffice$Happening" "before" "LShipOffice$Happening;", Cond.methodLink RX1 76 yX5_inForce, Cond.instanceMethod yX5_inForce, Cond.selects RX5 yX5_inForce yX5_inForce, Cond.initialized RX5]
def wsX1_leavingOn_r3 : List Cond := [Cond.code yX5_inForce cX5_inForce 6 (some (.object "ShipOffice$Act")), Cond.fieldLink RX5 17 "ShipOffice$Law" "customs" "[LShipOffice$Act;", Cond.fieldLink RX5 23 "ShipOffice$Law" "actCount" "I", Cond.fieldLink RX5 11 "ShipOffice$Law" "acts" "[LShipOffice$Act;", Cond.fieldLink RX5 27 "ShipOffice$Act" "purpose" "I", Cond.fieldLink RX5 30 "ShipOffice$Act" "day" "I"]
def wsX1_leavingOn : List Cond := .code yX1_leavingOn cX1_leavingOn 4 (some (.object "ShipOffice$Happening")) :: ((wsX1_leavingOn_r1 ++ (wsX1_leavingOn_r2 ++ wsX1_leavingOn_r3)) ++ wsX10 ++ wsX30 ++ wsX00 ++ wsX90 ++ wsX50)
theorem il_X1_leavingOn_1 : ∀ w ∈ wsX1_leavingOn_r1, w ∈ wsX1_leavingOn := fun w h => (List.mem_cons_of_mem _ (List.mem_append_left _ (List.mem_append_left _ (List.mem_append_left _ (List.mem_append_left _ (List.mem_append_left _ (List.mem_append_left _ h)))))))
theorem il_X1_leavingOn_2 : ∀ w ∈ wsX1_leavingOn_r2, w ∈ wsX1_leavingOn := fun w h => (List.mem_cons_of_mem _ (List.mem_append_left _ (List.mem_append_left _ (List.mem_append_left _ (List.mem_append_left _ (List.mem_append_left _ (List.mem_append_right _ (List.mem_append_left _ h))))))))
theorem il_X1_leavingOn_3 : ∀ w ∈ wsX1_leavingOn_r3, w ∈ wsX1_leavingOn := fun w h => (List.mem_cons_of_mem _ (List.mem_append_left _ (List.mem_append_left _ (List.mem_append_left _ (List.mem_append_left _ (List.mem_append_left _ (List.mem_append_right _ (List.mem_append_right _ h))))))))
theorem il_X1_leavingOn_4 : ∀ w ∈ wsX10, w ∈ wsX1_leavingOn := fun w h => (List.mem_cons_of_mem _ (List.mem_append_left _ (List.mem_append_left _ (List.mem_append_left _ (List.mem_append_left _ (List.mem_append_right _ h))))))
theorem il_X1_leavingOn_5 : ∀ w ∈ wsX30, w ∈ wsX1_leavingOn := fun w h => (List.mem_cons_of_mem _ (List.mem_append_left _ (List.mem_append_left _ (List.mem_append_left _ (List.mem_append_right _ h)))))
theorem il_X1_leavingOn_6 : ∀ w ∈ wsX00, w ∈ wsX1_leavingOn := fun w h => (List.mem_cons_of_mem _ (List.mem_append_left _ (List.mem_append_left _ (List.mem_append_right _ h))))
theorem il_X1_leavingOn_7 : ∀ w ∈ wsX90, w ∈ wsX1_leavingOn := fun w h => (List.mem_cons_of_mem _ (List.mem_append_left _ (List.mem_append_right _ h)))
theorem il_X1_leavingOn_8 : ∀ w ∈ wsX50, w ∈ wsX1_leavingOn := fun w h => (List.mem_cons_of_mem _ (List.mem_append_right _ h))
theorem gw_X1_nearer : wsX1_nearer.all goodWord = true := by decide +kernel
theorem gw_X9_nextTold : wsX9_nextTold.all goodWord = true := by decide +kernel
theorem gw_X5_nextPresume : wsX5_nextPresume.all goodWord = true := by decide +kernel
def wsX1_nextChange_r1 : List Cond := [Cond.fieldLink RX1 10 "ShipOffice$Agreement" "offDay" "I", Cond.constant RX1 9 (1000000), Cond.fieldLink RX1 33 "ShipOffice$Agreement" "voyage" "LShipOffice$Voyage;", Cond.fieldLink RX1 82 "ShipOffice$Act" "plainWorth" "I", Cond.fieldLink RX1 87 "ShipOffice$Agreement" "tidings" "LShipOffice$Happening;", Cond.fieldLink RX1 91 "ShipOffice$Happening" "told" "I", Cond.fieldLink RX1 94 "ShipOffice$Happening" "day" "I", Cond.fieldLink RX1 97 "ShipOffice$Happening" "before" "LShipOffice$Happening;", Cond.methodLink RX1 116 yX1_nearer, Cond.static yX1_nearer, Cond.initialized RX1, Cond.code yX1_nearer cX1_nearer 3 (some .int), Cond.methodLink RX1 120 yX9_nextTold, Cond.instanceMethod yX9_nextTold, Cond.selects RX9 yX9_nextTold yX9_nextTold, Cond.initialized RX9, Cond.code yX9_nextTold cX9_nextTold 5 (some .int), Cond.constant RX9 9 (1000000), Cond.fieldLink RX9 16 "ShipOffice$Voyage" "sailedTold" "I", Cond.fieldLink RX9 10 "ShipOffice$Voyage" "sailedDay" "I", Cond.fieldLink RX9 22 "ShipOffice$Voyage" "lostTold" "I", Cond.fieldLink RX9 19 "ShipOffice$Voyage" "lostDay" "I", Cond.fieldLink RX9 41 "ShipOffice$Voyage" "heardOf" "LShipOffice$Happening;", Cond.fieldLink RX9 45 "ShipOffice$Happening" "told" "I"]
def wsX1_nextChange_r2 : List Cond := [Cond.fieldLink RX9 50 "ShipOffice$Happening" "day" "I", Cond.fieldLink RX9 53 "ShipOffice$Happening" "before" "LShipOffice$Happening;", Cond.methodLink RX1 123 yX5_nextPresume, Cond.instanceMethod yX5_nextPresume, Cond.selects RX5 yX5_nextPresume yX5_nextPresume, Cond.initialized RX5, Cond.code yX5_nextPresume cX5_nextPresume 4 (some .int), Cond.constant RX5 33 (1000000), Cond.fieldLink RX5 23 "ShipOffice$Law" "actCount" "I", Cond.fieldLink RX5 11 "ShipOffice$Law" "acts" "[LShipOffice$Act;", Cond.fieldLink RX5 27 "ShipOffice$Act" "purpose" "I", Cond.fieldLink RX5 30 "ShipOffice$Act" "day" "I", Cond.methodLink RX1 72 yX9_lastHeard, Cond.instanceMethod yX9_lastHeard, Cond.selects RX9 yX9_lastHeard yX9_lastHeard, Cond.code yX9_lastHeard cX9_lastHeard 5 (some .int), Cond.methodLink RX1 76 yX5_inForce, Cond.instanceMethod yX5_inForce, Cond.selects RX5 yX5_inForce yX5_inForce, Cond.code yX5_inForce cX5_inForce 6 (some (.object "ShipOffice$Act")), Cond.fieldLink RX5 17 "ShipOffice$Law" "customs" "[LShipOffice$Act;"]
def wsX1_nextChange : List Cond := .code yX1_nextChange cX1_nextChange 6 (some .int) :: ((wsX1_nextChange_r1 ++ wsX1_nextChange_r2) ++ wsX10 ++ wsX00 ++ wsX30 ++ wsX90 ++ wsX50)
theorem gw_X1_nextChange : wsX1_nextChange.all goodWord = true := by decide +kernel
theorem il_X1_nextChange_1 : ∀ w ∈ wsX1_nextChange_r1, w ∈ wsX1_nextChange := fun w h => (List.mem_cons_of_mem _ (List.mem_append_left _ (List.mem_append_left _ (List.mem_append_left _ (List.mem_append_left _ (List.mem_append_left _ (List.mem_append_left _ h)))))))
theorem il_X1_nextChange_2 : ∀ w ∈ wsX1_nextChange_r2, w ∈ wsX1_nextChange := fun w h => (List.mem_cons_of_mem _ (List.mem_append_left _ (List.mem_append_left _ (List.mem_append_left _ (List.mem_append_left _ (List.mem_append_left _ (List.mem_append_right _ h)))))))
theorem il_X1_nextChange_4 : ∀ w ∈ wsX00, w ∈ wsX1_nextChange := fun w h => (List.mem_cons_of_mem _ (List.mem_append_left _ (List.mem_append_left _ (List.mem_append_left _ (List.mem_append_right _ h)))))
theorem il_X1_nextChange_5 : ∀ w ∈ wsX30, w ∈ wsX1_nextChange := fun w h => (List.mem_cons_of_mem _ (List.mem_append_left _ (List.mem_append_left _ (List.mem_append_right _ h))))
theorem il_X1_nextChange_6 : ∀ w ∈ wsX90, w ∈ wsX1_nextChange := fun w h => (List.mem_cons_of_mem _ (List.mem_append_left _ (List.mem_append_right _ h)))
theorem il_X1_nextChange_7 : ∀ w ∈ wsX50, w ∈ wsX1_nextChange := fun w h => (List.mem_cons_of_mem _ (List.mem_append_right _ h))
theorem iw_X1_nextChange_1 : Cond.fieldLink RX1 10 "ShipOffice$Agreement" "offDay" "I" ∈ wsX1_nextChange := (mmI il_X1_nextChange_1 0 rfl)
theorem iw_X1_nextChange_2 : Cond.fieldLink RX1 33 "ShipOffice$Agreement" "voyage" "LShipOffice$Voyage;" ∈ wsX1_nextChange := (mmI il_X1_nextChange_1 2 rfl)
theorem iw_X1_nextChange_3 : Cond.fieldLink RX1 82 "ShipOffice$Act" "plainWorth" "I" ∈ wsX1_nextChange := (mmI il_X1_nextChange_1 3 rfl)
theorem iw_X1_nextChange_4 : Cond.fieldLink RX1 87 "ShipOffice$Agreement" "tidings" "LShipOffice$Happening;" ∈ wsX1_nextChange := (mmI il_X1_nextChange_1 4 rfl)
theorem iw_X1_nextChange_5 : Cond.fieldLink RX1 91 "ShipOffice$Happening" "told" "I" ∈ wsX1_nextChange := (mmI il_X1_nextChange_1 5 rfl)
theorem iw_X1_nextChange_6 : Cond.fieldLink RX1 97 "ShipOffice$Happening" "before" "LShipOffice$Happening;" ∈ wsX1_nextChange := (mmI il_X1_nextChange_1 7 rfl)
theorem iw_X1_nextChange_7 : Cond.fieldLink RX1 94 "ShipOffice$Happening" "day" "I" ∈ wsX1_nextChange := (mmI il_X1_nextChange_1 6 rfl)
def wsX1_daysIn_r1 : List Cond := [Cond.fieldLink RX1 37 "ShipOffice$Agreement" "signedOn" "I", Cond.methodLink RX1 111 Lib.Math.min.name, Cond.static Lib.Math.min.name, Cond.initialized "java/lang/Math", Cond.code Lib.Math.min.name Lib.Math.min.code 2 (some .int), Cond.methodLink RX1 100 yX1_stateOn, Cond.instanceMethod yX1_stateOn, Cond.selects RX1 yX1_stateOn yX1_stateOn, Cond.initialized RX1, Cond.code yX1_stateOn cX1_stateOn 5 (some .int), Cond.fieldLink RX1 33 "ShipOffice$Agreement" "voyage" "LShipOffice$Voyage;", Cond.fieldLink RX1 44 "ShipOffice$Agreement" "isDead" "Z", Cond.fieldLink RX1 10 "ShipOffice$Agreement" "offDay" "I", Cond.fieldLink RX1 64 "ShipOffice$Happening" "kind" "I", Cond.fieldLink RX1 82 "ShipOffice$Act" "plainWorth" "I", Cond.methodLink RX1 53 yX9_lostBy, Cond.instanceMethod yX9_lostBy, Cond.selects RX9 yX9_lostBy yX9_lostBy, Cond.initialized RX9, Cond.code yX9_lostBy cX9_lostBy 3 (some .boolean), Cond.fieldLink RX9 22 "ShipOffice$Voyage" "lostTold" "I", Cond.fieldLink RX9 19 "ShipOffice$Voyage" "lostDay" "I", Cond.methodLink RX1 57 yX1_diedBy, Cond.instanceMethod yX1_diedBy]
def wsX1_daysIn_r2 : List Cond := [Cond.selects RX1 yX1_diedBy yX1_diedBy, Cond.code yX1_diedBy cX1_diedBy 4 (some .boolean), Cond.fieldLink RX1 87 "ShipOffice$Agreement" "tidings" "LShipOffice$Happening;", Cond.fieldLink RX1 91 "ShipOffice$Happening" "told" "I", Cond.fieldLink RX1 94 "ShipOffice$Happening" "day" "I", Cond.fieldLink RX1 97 "ShipOffice$Happening" "before" "LShipOffice$Happening;", Cond.methodLink RX1 60 yX1_lastMove, Cond.instanceMethod yX1_lastMove, Cond.selects RX1 yX1_lastMove yX1_lastMove, Cond.code yX1_lastMove cX1_lastMove 6 (some (.object "ShipOffice$Happening")), Cond.methodLink RX1 69 yX9_sailedBy, Cond.instanceMethod yX9_sailedBy, Cond.selects RX9 yX9_sailedBy yX9_sailedBy, Cond.code yX9_sailedBy cX9_sailedBy 3 (some .boolean), Cond.fieldLink RX9 16 "ShipOffice$Voyage" "sailedTold" "I", Cond.fieldLink RX9 10 "ShipOffice$Voyage" "sailedDay" "I", Cond.methodLink RX1 72 yX9_lastHeard, Cond.instanceMethod yX9_lastHeard, Cond.selects RX9 yX9_lastHeard yX9_lastHeard, Cond.code yX9_lastHeard cX9_lastHeard 5 (some .int), Cond.fieldLink RX9 41 "ShipOffice$Voyage" "heardOf" "LShipOffice$Happening;", Cond.fieldLink RX9 45 "ShipOffice$Happening" "told" "I", Cond.fieldLink RX9 50 "ShipOffice$Happening" "day" "I", Cond.fieldLink RX9 53 "ShipOffice$Happening" "before" "LShipOffice$Happening;"]
def wsX1_daysIn_r3 : List Cond := [Cond.methodLink RX1 76 yX5_inForce, Cond.instanceMethod yX5_inForce, Cond.selects RX5 yX5_inForce yX5_inForce, Cond.initialized RX5, Cond.code yX5_inForce cX5_inForce 6 (some (.object "ShipOffice$Act")), Cond.fieldLink RX5 17 "ShipOffice$Law" "customs" "[LShipOffice$Act;", Cond.fieldLink RX5 23 "ShipOffice$Law" "actCount" "I", Cond.fieldLink RX5 11 "ShipOffice$Law" "acts" "[LShipOffice$Act;", Cond.fieldLink RX5 27 "ShipOffice$Act" "purpose" "I", Cond.fieldLink RX5 30 "ShipOffice$Act" "day" "I", Cond.methodLink RX1 108 yX1_nextChange, Cond.instanceMethod yX1_nextChange, Cond.selects RX1 yX1_nextChange yX1_nextChange, Cond.code yX1_nextChange cX1_nextChange 6 (some .int), Cond.constant RX1 9 (1000000), Cond.methodLink RX1 116 yX1_nearer, Cond.static yX1_nearer, Cond.code yX1_nearer cX1_nearer 3 (some .int), Cond.methodLink RX1 120 yX9_nextTold, Cond.instanceMethod yX9_nextTold, Cond.selects RX9 yX9_nextTold yX9_nextTold, Cond.code yX9_nextTold cX9_nextTold 5 (some .int), Cond.constant RX9 9 (1000000), Cond.methodLink RX1 123 yX5_nextPresume]
def wsX1_daysIn_r4 : List Cond := [Cond.instanceMethod yX5_nextPresume, Cond.selects RX5 yX5_nextPresume yX5_nextPresume, Cond.code yX5_nextPresume cX5_nextPresume 4 (some .int), Cond.constant RX5 33 (1000000)]
def wsX1_daysIn : List Cond := .code yX1_daysIn cX1_daysIn 10 (some .int) :: ((wsX1_daysIn_r1 ++ (wsX1_daysIn_r2 ++ (wsX1_daysIn_r3 ++ wsX1_daysIn_r4))) ++ wsX10 ++ wsX30 ++ wsX00 ++ wsX90 ++ wsX50)
theorem gw_X1_daysIn : wsX1_daysIn.all goodWord = true := by decide +kernel
theorem il_X1_daysIn_1 : ∀ w ∈ wsX1_daysIn_r1, w ∈ wsX1_daysIn := fun w h => (List.mem_cons_of_mem _ (List.mem_append_left _ (List.mem_append_left _ (List.mem_append_left _ (List.mem_append_left _ (List.mem_append_left _ (List.mem_append_left _ h)))))))
theorem il_X1_daysIn_2 : ∀ w ∈ wsX1_daysIn_r2, w ∈ wsX1_daysIn := fun w h => (List.mem_cons_of_mem _ (List.mem_append_left _ (List.mem_append_left _ (List.mem_append_left _ (List.mem_append_left _ (List.mem_append_left _ (List.mem_append_right _ (List.mem_append_left _ h))))))))
theorem il_X1_daysIn_3 : ∀ w ∈ wsX1_daysIn_r3, w ∈ wsX1_daysIn := fun w h => (List.mem_cons_of_mem _ (List.mem_append_left _ (List.mem_append_left _ (List.mem_append_left _ (List.mem_append_left _ (List.mem_append_left _ (List.mem_append_right _ (List.mem_append_right _ (List.mem_append_left _ h)))))))))
theorem il_X1_daysIn_4 : ∀ w ∈ wsX1_daysIn_r4, w ∈ wsX1_daysIn := fun w h => (List.mem_cons_of_mem _ (List.mem_append_left _ (List.mem_append_left _ (List.mem_append_left _ (List.mem_append_left _ (List.mem_append_left _ (List.mem_append_right _ (List.mem_append_right _ (List.mem_append_right _ h)))))))))
theorem il_X1_daysIn_5 : ∀ w ∈ wsX10, w ∈ wsX1_daysIn := fun w h => (List.mem_cons_of_mem _ (List.mem_append_left _ (List.mem_append_left _ (List.mem_append_left _ (List.mem_append_left _ (List.mem_append_right _ h))))))
theorem il_X1_daysIn_6 : ∀ w ∈ wsX30, w ∈ wsX1_daysIn := fun w h => (List.mem_cons_of_mem _ (List.mem_append_left _ (List.mem_append_left _ (List.mem_append_left _ (List.mem_append_right _ h)))))
theorem il_X1_daysIn_7 : ∀ w ∈ wsX00, w ∈ wsX1_daysIn := fun w h => (List.mem_cons_of_mem _ (List.mem_append_left _ (List.mem_append_left _ (List.mem_append_right _ h))))
theorem il_X1_daysIn_8 : ∀ w ∈ wsX90, w ∈ wsX1_daysIn := fun w h => (List.mem_cons_of_mem _ (List.mem_append_left _ (List.mem_append_right _ h)))
theorem il_X1_daysIn_9 : ∀ w ∈ wsX50, w ∈ wsX1_daysIn := fun w h => (List.mem_cons_of_mem _ (List.mem_append_right _ h))
theorem iw_X1_daysIn_1 : Cond.fieldLink RX1 37 "ShipOffice$Agreement" "signedOn" "I" ∈ wsX1_daysIn := (mmI il_X1_daysIn_1 0 rfl)
theorem iw_X1_daysIn_2 : Cond.methodLink RX1 111 Lib.Math.min.name ∈ wsX1_daysIn := (mmI il_X1_daysIn_1 1 rfl)
theorem iw_X1_daysIn_3 : Cond.static Lib.Math.min.name ∈ wsX1_daysIn := (mmI il_X1_daysIn_1 2 rfl)
theorem iw_X1_daysIn_4 : Cond.initialized "java/lang/Math" ∈ wsX1_daysIn := (mmI il_X1_daysIn_1 3 rfl)
def wsX1_earningDays_r1 : List Cond := [Cond.fieldLink RX1 33 "ShipOffice$Agreement" "voyage" "LShipOffice$Voyage;", Cond.methodLink RX1 100 yX1_stateOn, Cond.instanceMethod yX1_stateOn, Cond.selects RX1 yX1_stateOn yX1_stateOn, Cond.initialized RX1, Cond.code yX1_stateOn cX1_stateOn 5 (some .int), Cond.fieldLink RX1 37 "ShipOffice$Agreement" "signedOn" "I", Cond.fieldLink RX1 44 "ShipOffice$Agreement" "isDead" "Z", Cond.fieldLink RX1 10 "ShipOffice$Agreement" "offDay" "I", Cond.fieldLink RX1 64 "ShipOffice$Happening" "kind" "I", Cond.fieldLink RX1 82 "ShipOffice$Act" "plainWorth" "I", Cond.methodLink RX1 53 yX9_lostBy, Cond.instanceMethod yX9_lostBy, Cond.selects RX9 yX9_lostBy yX9_lostBy, Cond.initialized RX9, Cond.code yX9_lostBy cX9_lostBy 3 (some .boolean), Cond.fieldLink RX9 22 "ShipOffice$Voyage" "lostTold" "I", Cond.fieldLink RX9 19 "ShipOffice$Voyage" "lostDay" "I", Cond.methodLink RX1 57 yX1_diedBy, Cond.instanceMethod yX1_diedBy, Cond.selects RX1 yX1_diedBy yX1_diedBy, Cond.code yX1_diedBy cX1_diedBy 4 (some .boolean), Cond.fieldLink RX1 87 "ShipOffice$Agreement" "tidings" "LShipOffice$Happening;", Cond.fieldLink RX1 91 "ShipOffice$Happening" "told" "I"]
def wsX1_earningDays_r2 : List Cond := [Cond.fieldLink RX1 94 "ShipOffice$Happening" "day" "I", Cond.fieldLink RX1 97 "ShipOffice$Happening" "before" "LShipOffice$Happening;", Cond.methodLink RX1 60 yX1_lastMove, Cond.instanceMethod yX1_lastMove, Cond.selects RX1 yX1_lastMove yX1_lastMove, Cond.code yX1_lastMove cX1_lastMove 6 (some (.object "ShipOffice$Happening")), Cond.methodLink RX1 69 yX9_sailedBy, Cond.instanceMethod yX9_sailedBy, Cond.selects RX9 yX9_sailedBy yX9_sailedBy, Cond.code yX9_sailedBy cX9_sailedBy 3 (some .boolean), Cond.fieldLink RX9 16 "ShipOffice$Voyage" "sailedTold" "I", Cond.fieldLink RX9 10 "ShipOffice$Voyage" "sailedDay" "I", Cond.methodLink RX1 72 yX9_lastHeard, Cond.instanceMethod yX9_lastHeard, Cond.selects RX9 yX9_lastHeard yX9_lastHeard, Cond.code yX9_lastHeard cX9_lastHeard 5 (some .int), Cond.fieldLink RX9 41 "ShipOffice$Voyage" "heardOf" "LShipOffice$Happening;", Cond.fieldLink RX9 45 "ShipOffice$Happening" "told" "I", Cond.fieldLink RX9 50 "ShipOffice$Happening" "day" "I", Cond.fieldLink RX9 53 "ShipOffice$Happening" "before" "LShipOffice$Happening;", Cond.methodLink RX1 76 yX5_inForce, Cond.instanceMethod yX5_inForce, Cond.selects RX5 yX5_inForce yX5_inForce, Cond.initialized RX5]
def wsX1_earningDays_r3 : List Cond := [Cond.code yX5_inForce cX5_inForce 6 (some (.object "ShipOffice$Act")), Cond.fieldLink RX5 17 "ShipOffice$Law" "customs" "[LShipOffice$Act;", Cond.fieldLink RX5 23 "ShipOffice$Law" "actCount" "I", Cond.fieldLink RX5 11 "ShipOffice$Law" "acts" "[LShipOffice$Act;", Cond.fieldLink RX5 27 "ShipOffice$Act" "purpose" "I", Cond.fieldLink RX5 30 "ShipOffice$Act" "day" "I", Cond.methodLink RX1 104 yX1_daysIn, Cond.instanceMethod yX1_daysIn, Cond.selects RX1 yX1_daysIn yX1_daysIn, Cond.code yX1_daysIn cX1_daysIn 10 (some .int), Cond.methodLink RX1 111 Lib.Math.min.name, Cond.static Lib.Math.min.name, Cond.initialized "java/lang/Math", Cond.code Lib.Math.min.name Lib.Math.min.code 2 (some .int), Cond.methodLink RX1 108 yX1_nextChange, Cond.instanceMethod yX1_nextChange, Cond.selects RX1 yX1_nextChange yX1_nextChange, Cond.code yX1_nextChange cX1_nextChange 6 (some .int), Cond.constant RX1 9 (1000000), Cond.methodLink RX1 116 yX1_nearer, Cond.static yX1_nearer, Cond.code yX1_nearer cX1_nearer 3 (some .int), Cond.methodLink RX1 120 yX9_nextTold, Cond.instanceMethod yX9_nextTold]
def wsX1_earningDays_r4 : List Cond := [Cond.selects RX9 yX9_nextTold yX9_nextTold, Cond.code yX9_nextTold cX9_nextTold 5 (some .int), Cond.constant RX9 9 (1000000), Cond.methodLink RX1 123 yX5_nextPresume, Cond.instanceMethod yX5_nextPresume, Cond.selects RX5 yX5_nextPresume yX5_nextPresume, Cond.code yX5_nextPresume cX5_nextPresume 4 (some .int), Cond.constant RX5 33 (1000000)]
def wsX1_earningDays : List Cond := .code yX1_earningDays cX1_earningDays 5 (some .int) :: ((wsX1_earningDays_r1 ++ (wsX1_earningDays_r2 ++ (wsX1_earningDays_r3 ++ wsX1_earningDays_r4))) ++ wsX10 ++ wsX30 ++ wsX00 ++ wsX90 ++ wsX50)
theorem il_X1_earningDays_1 : ∀ w ∈ wsX1_earningDays_r1, w ∈ wsX1_earningDays := fun w h => (List.mem_cons_of_mem _ (List.mem_append_left _ (List.mem_append_left _ (List.mem_append_left _ (List.mem_append_left _ (List.mem_append_left _ (List.mem_append_left _ h)))))))
theorem il_X1_earningDays_2 : ∀ w ∈ wsX1_earningDays_r2, w ∈ wsX1_earningDays := fun w h => (List.mem_cons_of_mem _ (List.mem_append_left _ (List.mem_append_left _ (List.mem_append_left _ (List.mem_append_left _ (List.mem_append_left _ (List.mem_append_right _ (List.mem_append_left _ h))))))))
theorem il_X1_earningDays_3 : ∀ w ∈ wsX1_earningDays_r3, w ∈ wsX1_earningDays := fun w h => (List.mem_cons_of_mem _ (List.mem_append_left _ (List.mem_append_left _ (List.mem_append_left _ (List.mem_append_left _ (List.mem_append_left _ (List.mem_append_right _ (List.mem_append_right _ (List.mem_append_left _ h)))))))))
theorem il_X1_earningDays_4 : ∀ w ∈ wsX1_earningDays_r4, w ∈ wsX1_earningDays := fun w h => (List.mem_cons_of_mem _ (List.mem_append_left _ (List.mem_append_left _ (List.mem_append_left _ (List.mem_append_left _ (List.mem_append_left _ (List.mem_append_right _ (List.mem_append_right _ (List.mem_append_right _ h)))))))))
theorem il_X1_earningDays_5 : ∀ w ∈ wsX10, w ∈ wsX1_earningDays := fun w h => (List.mem_cons_of_mem _ (List.mem_append_left _ (List.mem_append_left _ (List.mem_append_left _ (List.mem_append_left _ (List.mem_append_right _ h))))))
theorem il_X1_earningDays_6 : ∀ w ∈ wsX30, w ∈ wsX1_earningDays := fun w h => (List.mem_cons_of_mem _ (List.mem_append_left _ (List.mem_append_left _ (List.mem_append_left _ (List.mem_append_right _ h)))))
theorem il_X1_earningDays_7 : ∀ w ∈ wsX00, w ∈ wsX1_earningDays := fun w h => (List.mem_cons_of_mem _ (List.mem_append_left _ (List.mem_append_left _ (List.mem_append_right _ h))))
theorem il_X1_earningDays_8 : ∀ w ∈ wsX90, w ∈ wsX1_earningDays := fun w h => (List.mem_cons_of_mem _ (List.mem_append_left _ (List.mem_append_right _ h)))
theorem il_X1_earningDays_9 : ∀ w ∈ wsX50, w ∈ wsX1_earningDays := fun w h => (List.mem_cons_of_mem _ (List.mem_append_right _ h))
theorem iw_X1_earningDays_1 : Cond.fieldLink RX1 33 "ShipOffice$Agreement" "voyage" "LShipOffice$Voyage;" ∈ wsX1_earningDays := (mmI il_X1_earningDays_1 0 rfl)
def wsX1_notePaid_r1 : List Cond := [Cond.fieldLink RX1 127 "ShipOffice$Agreement" "note" "I", Cond.fieldLink RX1 33 "ShipOffice$Agreement" "voyage" "LShipOffice$Voyage;", Cond.fieldLink RX1 130 "ShipOffice$Voyage" "sailedDay" "I", Cond.methodLink RX1 69 yX9_sailedBy, Cond.instanceMethod yX9_sailedBy, Cond.selects RX9 yX9_sailedBy yX9_sailedBy, Cond.initialized RX9, Cond.code yX9_sailedBy cX9_sailedBy 3 (some .boolean), Cond.fieldLink RX9 16 "ShipOffice$Voyage" "sailedTold" "I", Cond.fieldLink RX9 10 "ShipOffice$Voyage" "sailedDay" "I", Cond.methodLink RX1 100 yX1_stateOn, Cond.instanceMethod yX1_stateOn, Cond.selects RX1 yX1_stateOn yX1_stateOn, Cond.initialized RX1, Cond.code yX1_stateOn cX1_stateOn 5 (some .int), Cond.fieldLink RX1 37 "ShipOffice$Agreement" "signedOn" "I", Cond.fieldLink RX1 44 "ShipOffice$Agreement" "isDead" "Z", Cond.fieldLink RX1 10 "ShipOffice$Agreement" "offDay" "I", Cond.fieldLink RX1 64 "ShipOffice$Happening" "kind" "I", Cond.fieldLink RX1 82 "ShipOffice$Act" "plainWorth" "I", Cond.methodLink RX1 53 yX9_lostBy, Cond.instanceMethod yX9_lostBy, Cond.selects RX9 yX9_lostBy yX9_lostBy, Cond.code yX9_lostBy cX9_lostBy 3 (some .boolean)]
def wsX1_notePaid_r2 : List Cond := [Cond.fieldLink RX9 22 "ShipOffice$Voyage" "lostTold" "I", Cond.fieldLink RX9 19 "ShipOffice$Voyage" "lostDay" "I", Cond.methodLink RX1 57 yX1_diedBy, Cond.instanceMethod yX1_diedBy, Cond.selects RX1 yX1_diedBy yX1_diedBy, Cond.code yX1_diedBy cX1_diedBy 4 (some .boolean), Cond.fieldLink RX1 87 "ShipOffice$Agreement" "tidings" "LShipOffice$Happening;", Cond.fieldLink RX1 91 "ShipOffice$Happening" "told" "I", Cond.fieldLink RX1 94 "ShipOffice$Happening" "day" "I", Cond.fieldLink RX1 97 "ShipOffice$Happening" "before" "LShipOffice$Happening;", Cond.methodLink RX1 60 yX1_lastMove, Cond.instanceMethod yX1_lastMove, Cond.selects RX1 yX1_lastMove yX1_lastMove, Cond.code yX1_lastMove cX1_lastMove 6 (some (.object "ShipOffice$Happening")), Cond.methodLink RX1 72 yX9_lastHeard, Cond.instanceMethod yX9_lastHeard, Cond.selects RX9 yX9_lastHeard yX9_lastHeard, Cond.code yX9_lastHeard cX9_lastHeard 5 (some .int), Cond.fieldLink RX9 41 "ShipOffice$Voyage" "heardOf" "LShipOffice$Happening;", Cond.fieldLink RX9 45 "ShipOffice$Happening" "told" "I", Cond.fieldLink RX9 50 "ShipOffice$Happening" "day" "I", Cond.fieldLink RX9 53 "ShipOffice$Happening" "before" "LShipOffice$Happening;", Cond.methodLink RX1 76 yX5_inForce, Cond.instanceMethod yX5_inForce]
def wsX1_notePaid_r3 : List Cond := [Cond.selects RX5 yX5_inForce yX5_inForce, Cond.initialized RX5, Cond.code yX5_inForce cX5_inForce 6 (some (.object "ShipOffice$Act")), Cond.fieldLink RX5 17 "ShipOffice$Law" "customs" "[LShipOffice$Act;", Cond.fieldLink RX5 23 "ShipOffice$Law" "actCount" "I", Cond.fieldLink RX5 11 "ShipOffice$Law" "acts" "[LShipOffice$Act;", Cond.fieldLink RX5 27 "ShipOffice$Act" "purpose" "I", Cond.fieldLink RX5 30 "ShipOffice$Act" "day" "I"]
def wsX1_notePaid : List Cond := .code yX1_notePaid cX1_notePaid 4 (some .int) :: ((wsX1_notePaid_r1 ++ (wsX1_notePaid_r2 ++ wsX1_notePaid_r3)) ++ wsX10 ++ wsX90 ++ wsX30 ++ wsX00 ++ wsX50)
theorem il_X1_notePaid_1 : ∀ w ∈ wsX1_notePaid_r1, w ∈ wsX1_notePaid := fun w h => (List.mem_cons_of_mem _ (List.mem_append_left _ (List.mem_append_left _ (List.mem_append_left _ (List.mem_append_left _ (List.mem_append_left _ (List.mem_append_left _ h)))))))
theorem il_X1_notePaid_2 : ∀ w ∈ wsX1_notePaid_r2, w ∈ wsX1_notePaid := fun w h => (List.mem_cons_of_mem _ (List.mem_append_left _ (List.mem_append_left _ (List.mem_append_left _ (List.mem_append_left _ (List.mem_append_left _ (List.mem_append_right _ (List.mem_append_left _ h))))))))
theorem il_X1_notePaid_3 : ∀ w ∈ wsX1_notePaid_r3, w ∈ wsX1_notePaid := fun w h => (List.mem_cons_of_mem _ (List.mem_append_left _ (List.mem_append_left _ (List.mem_append_left _ (List.mem_append_left _ (List.mem_append_left _ (List.mem_append_right _ (List.mem_append_right _ h))))))))
theorem il_X1_notePaid_4 : ∀ w ∈ wsX10, w ∈ wsX1_notePaid := fun w h => (List.mem_cons_of_mem _ (List.mem_append_left _ (List.mem_append_left _ (List.mem_append_left _ (List.mem_append_left _ (List.mem_append_right _ h))))))
theorem il_X1_notePaid_5 : ∀ w ∈ wsX90, w ∈ wsX1_notePaid := fun w h => (List.mem_cons_of_mem _ (List.mem_append_left _ (List.mem_append_left _ (List.mem_append_left _ (List.mem_append_right _ h)))))
theorem il_X1_notePaid_6 : ∀ w ∈ wsX30, w ∈ wsX1_notePaid := fun w h => (List.mem_cons_of_mem _ (List.mem_append_left _ (List.mem_append_left _ (List.mem_append_right _ h))))
theorem il_X1_notePaid_7 : ∀ w ∈ wsX00, w ∈ wsX1_notePaid := fun w h => (List.mem_cons_of_mem _ (List.mem_append_left _ (List.mem_append_right _ h)))
theorem il_X1_notePaid_8 : ∀ w ∈ wsX50, w ∈ wsX1_notePaid := fun w h => (List.mem_cons_of_mem _ (List.mem_append_right _ h))
theorem iw_X1_notePaid_1 : Cond.fieldLink RX1 127 "ShipOffice$Agreement" "note" "I" ∈ wsX1_notePaid := (mmI il_X1_notePaid_1 0 rfl)
theorem iw_X1_notePaid_2 : Cond.fieldLink RX1 33 "ShipOffice$Agreement" "voyage" "LShipOffice$Voyage;" ∈ wsX1_notePaid := (mmI il_X1_notePaid_1 1 rfl)
theorem iw_X1_notePaid_3 : Cond.fieldLink RX1 130 "ShipOffice$Voyage" "sailedDay" "I" ∈ wsX1_notePaid := (mmI il_X1_notePaid_1 2 rfl)
def wsX1_allotmentsPaid_r1 : List Cond := [Cond.fieldLink RX1 133 "ShipOffice$Agreement" "allotment" "I", Cond.fieldLink RX1 33 "ShipOffice$Agreement" "voyage" "LShipOffice$Voyage;", Cond.fieldLink RX1 130 "ShipOffice$Voyage" "sailedDay" "I", Cond.methodLink RX1 69 yX9_sailedBy, Cond.instanceMethod yX9_sailedBy, Cond.selects RX9 yX9_sailedBy yX9_sailedBy, Cond.initialized RX9, Cond.code yX9_sailedBy cX9_sailedBy 3 (some .boolean), Cond.fieldLink RX9 16 "ShipOffice$Voyage" "sailedTold" "I", Cond.fieldLink RX9 10 "ShipOffice$Voyage" "sailedDay" "I", Cond.methodLink RX1 100 yX1_stateOn, Cond.instanceMethod yX1_stateOn, Cond.selects RX1 yX1_stateOn yX1_stateOn, Cond.initialized RX1, Cond.code yX1_stateOn cX1_stateOn 5 (some .int), Cond.fieldLink RX1 37 "ShipOffice$Agreement" "signedOn" "I", Cond.fieldLink RX1 44 "ShipOffice$Agreement" "isDead" "Z", Cond.fieldLink RX1 10 "ShipOffice$Agreement" "offDay" "I", Cond.fieldLink RX1 64 "ShipOffice$Happening" "kind" "I", Cond.fieldLink RX1 82 "ShipOffice$Act" "plainWorth" "I", Cond.methodLink RX1 53 yX9_lostBy, Cond.instanceMethod yX9_lostBy, Cond.selects RX9 yX9_lostBy yX9_lostBy, Cond.code yX9_lostBy cX9_lostBy 3 (some .boolean)]
def wsX1_allotmentsPaid_r2 : List Cond := [Cond.fieldLink RX9 22 "ShipOffice$Voyage" "lostTold" "I", Cond.fieldLink RX9 19 "ShipOffice$Voyage" "lostDay" "I", Cond.methodLink RX1 57 yX1_diedBy, Cond.instanceMethod yX1_diedBy, Cond.selects RX1 yX1_diedBy yX1_diedBy, Cond.code yX1_diedBy cX1_diedBy 4 (some .boolean), Cond.fieldLink RX1 87 "ShipOffice$Agreement" "tidings" "LShipOffice$Happening;", Cond.fieldLink RX1 91 "ShipOffice$Happening" "told" "I", Cond.fieldLink RX1 94 "ShipOffice$Happening" "day" "I", Cond.fieldLink RX1 97 "ShipOffice$Happening" "before" "LShipOffice$Happening;", Cond.methodLink RX1 60 yX1_lastMove, Cond.instanceMethod yX1_lastMove, Cond.selects RX1 yX1_lastMove yX1_lastMove, Cond.code yX1_lastMove cX1_lastMove 6 (some (.object "ShipOffice$Happening")), Cond.methodLink RX1 72 yX9_lastHeard, Cond.instanceMethod yX9_lastHeard, Cond.selects RX9 yX9_lastHeard yX9_lastHeard, Cond.code yX9_lastHeard cX9_lastHeard 5 (some .int), Cond.fieldLink RX9 41 "ShipOffice$Voyage" "heardOf" "LShipOffice$Happening;", Cond.fieldLink RX9 45 "ShipOffice$Happening" "told" "I", Cond.fieldLink RX9 50 "ShipOffice$Happening" "day" "I", Cond.fieldLink RX9 53 "ShipOffice$Happening" "before" "LShipOffice$Happening;", Cond.methodLink RX1 76 yX5_inForce, Cond.instanceMethod yX5_inForce]
def wsX1_allotmentsPaid_r3 : List Cond := [Cond.selects RX5 yX5_inForce yX5_inForce, Cond.initialized RX5, Cond.code yX5_inForce cX5_inForce 6 (some (.object "ShipOffice$Act")), Cond.fieldLink RX5 17 "ShipOffice$Law" "customs" "[LShipOffice$Act;", Cond.fieldLink RX5 23 "ShipOffice$Law" "actCount" "I", Cond.fieldLink RX5 11 "ShipOffice$Law" "acts" "[LShipOffice$Act;", Cond.fieldLink RX5 27 "ShipOffice$Act" "purpose" "I", Cond.fieldLink RX5 30 "ShipOffice$Act" "day" "I"]
def wsX1_allotmentsPaid : List Cond := .code yX1_allotmentsPaid cX1_allotmentsPaid 6 (some .int) :: ((wsX1_allotmentsPaid_r1 ++ (wsX1_allotmentsPaid_r2 ++ wsX1_allotmentsPaid_r3)) ++ wsX10 ++ wsX90 ++ wsX30 ++ wsX00 ++ wsX50)
theorem il_X1_allotmentsPaid_1 : ∀ w ∈ wsX1_allotmentsPaid_r1, w ∈ wsX1_allotmentsPaid := fun w h => (List.mem_cons_of_mem _ (List.mem_append_left _ (List.mem_append_left _ (List.mem_append_left _ (List.mem_append_left _ (List.mem_append_left _ (List.mem_append_left _ h)))))))
theorem il_X1_allotmentsPaid_2 : ∀ w ∈ wsX1_allotmentsPaid_r2, w ∈ wsX1_allotmentsPaid := fun w h => (List.mem_cons_of_mem _ (List.mem_append_left _ (List.mem_append_left _ (List.mem_append_left _ (List.mem_append_left _ (List.mem_append_left _ (List.mem_append_right _ (List.mem_append_left _ h))))))))
theorem il_X1_allotmentsPaid_3 : ∀ w ∈ wsX1_allotmentsPaid_r3, w ∈ wsX1_allotmentsPaid := fun w h => (List.mem_cons_of_mem _ (List.mem_append_left _ (List.mem_append_left _ (List.mem_append_left _ (List.mem_append_left _ (List.mem_append_left _ (List.mem_append_right _ (List.mem_append_right _ h))))))))
theorem il_X1_allotmentsPaid_4 : ∀ w ∈ wsX10, w ∈ wsX1_allotmentsPaid := fun w h => (List.mem_cons_of_mem _ (List.mem_append_left _ (List.mem_append_left _ (List.mem_append_left _ (List.mem_append_left _ (List.mem_append_right _ h))))))
theorem il_X1_allotmentsPaid_5 : ∀ w ∈ wsX90, w ∈ wsX1_allotmentsPaid := fun w h => (List.mem_cons_of_mem _ (List.mem_append_left _ (List.mem_append_left _ (List.mem_append_left _ (List.mem_append_right _ h)))))
theorem il_X1_allotmentsPaid_6 : ∀ w ∈ wsX30, w ∈ wsX1_allotmentsPaid := fun w h => (List.mem_cons_of_mem _ (List.mem_append_left _ (List.mem_append_left _ (List.mem_append_right _ h))))
theorem il_X1_allotmentsPaid_7 : ∀ w ∈ wsX00, w ∈ wsX1_allotmentsPaid := fun w h => (List.mem_cons_of_mem _ (List.mem_append_left _ (List.mem_append_right _ h)))
theorem il_X1_allotmentsPaid_8 : ∀ w ∈ wsX50, w ∈ wsX1_allotmentsPaid := fun w h => (List.mem_cons_of_mem _ (List.mem_append_right _ h))
theorem iw_X1_allotmentsPaid_1 : Cond.fieldLink RX1 133 "ShipOffice$Agreement" "allotment" "I" ∈ wsX1_allotmentsPaid := (mmI il_X1_allotmentsPaid_1 0 rfl)
theorem iw_X1_allotmentsPaid_2 : Cond.fieldLink RX1 33 "ShipOffice$Agreement" "voyage" "LShipOffice$Voyage;" ∈ wsX1_allotmentsPaid := (mmI il_X1_allotmentsPaid_1 1 rfl)
theorem iw_X1_allotmentsPaid_3 : Cond.fieldLink RX1 130 "ShipOffice$Voyage" "sailedDay" "I" ∈ wsX1_allotmentsPaid := (mmI il_X1_allotmentsPaid_1 2 rfl)
def wsX1_shortPence : List Cond := .code yX1_shortPence cX1_shortPence 4 (some .int) :: ([.fieldLink RX1 136 "ShipOffice$Agreement" "shortCount" "I", .fieldLink RX1 22 "ShipOffice$Agreement" "shortTold" "[I", .fieldLink RX1 26 "ShipOffice$Agreement" "shortSum" "[I"] ++ wsX10)
theorem il_X1_shortPence_1 : ∀ w ∈ ([.fieldLink RX1 136 "ShipOffice$Agreement" "shortCount" "I", .fieldLink RX1 22 "ShipOffice$Agreement" "shortTold" "[I", .fieldLink RX1 26 "ShipOffice$Agreement" "shortSum" "[I"] : List Cond), w ∈ wsX1_shortPence := fun w h => (List.mem_cons_of_mem _ (List.mem_append_left _ h))
theorem iw_X1_shortPence_1 : Cond.fieldLink RX1 136 "ShipOffice$Agreement" "shortCount" "I" ∈ wsX1_shortPence := (mmI il_X1_shortPence_1 0 rfl)
theorem iw_X1_shortPence_2 : Cond.fieldLink RX1 22 "ShipOffice$Agreement" "shortTold" "[I" ∈ wsX1_shortPence := (mmI il_X1_shortPence_1 1 rfl)
theorem iw_X1_shortPence_3 : Cond.fieldLink RX1 26 "ShipOffice$Agreement" "shortSum" "[I" ∈ wsX1_shortPence := (mmI il_X1_shortPence_1 2 rfl)
set_option maxRecDepth 100000 in
theorem ggX1_leavingOn_X1_stateOn : GoodIn wsX1_leavingOn wsX1_stateOn := goodIn_sub (mmC (mmI il_X1_leavingOn_1 4 rfl) (mmA (mmA (mmA (mmA (mmA (mmA (mmC (mmI il_X1_leavingOn_1 5 rfl) (mmC (mmI il_X1_leavingOn_1 6 rfl) (mmC (mmI il_X1_leavingOn_1 7 rfl) (mmC (mmI il_X1_leavingOn_1 8 rfl) (mmC (mmI il_X1_leavingOn_1 9 rfl) (mmC (mmI il_X1_leavingOn_1 10 rfl) (mmC (mmI il_X1_leavingOn_1 11 rfl) (mmC (mmI il_X1_leavingOn_1 12 rfl) (mmC (mmI il_X1_leavingOn_1 13 rfl) (mmC (mmI il_X1_leavingOn_1 14 rfl) (mmC (mmI il_X1_leavingOn_1 15 rfl) (mmC (mmI il_X1_leavingOn_1 16 rfl) (mmC (mmI il_X1_leavingOn_1 17 rfl) (mmC (mmI il_X1_leavingOn_1 18 rfl) (mmC (mmI il_X1_leavingOn_1 19 rfl) (mmC (mmI il_X1_leavingOn_1 20 rfl) (mmC (mmI il_X1_leavingOn_1 3 rfl) (mmC (mmI il_X1_leavingOn_1 21 rfl) (mmC (mmI il_X1_leavingOn_1 22 rfl) (mmC (mmI il_X1_leavingOn_1 23 rfl) (mmC (mmI il_X1_leavingOn_2 0 rfl) (mmC (mmI il_X1_leavingOn_2 1 rfl) (mmC (mmI il_X1_leavingOn_2 2 rfl) (mmC (mmI il_X1_leavingOn_2 3 rfl) mmN)))))))))))))))))))))))) (mmA (mmC (mmI il_X1_leavingOn_2 4 rfl) (mmC (mmI il_X1_leavingOn_2 5 rfl) (mmC (mmI il_X1_leavingOn_2 6 rfl) (mmC (mmI il_X1_leavingOn_2 7 rfl) (mmC (mmI il_X1_leavingOn_2 8 rfl) (mmC (mmI il_X1_leavingOn_2 9 rfl) (mmC (mmI il_X1_leavingOn_2 10 rfl) (mmC (mmI il_X1_leavingOn_2 11 rfl) (mmC (mmI il_X1_leavingOn_2 12 rfl) (mmC (mmI il_X1_leavingOn_2 13 rfl) (mmC (mmI il_X1_leavingOn_2 14 rfl) (mmC (mmI il_X1_leavingOn_2 15 rfl) (mmC (mmI il_X1_leavingOn_2 16 rfl) (mmC (mmI il_X1_leavingOn_2 17 rfl) (mmC (mmI il_X1_leavingOn_2 18 rfl) (mmC (mmI il_X1_leavingOn_2 19 rfl) (mmC (mmI il_X1_leavingOn_2 20 rfl) (mmC (mmI il_X1_leavingOn_2 21 rfl) (mmC (mmI il_X1_leavingOn_2 22 rfl) (mmC (mmI il_X1_leavingOn_2 23 rfl) (mmC (mmI il_X1_leavingOn_3 0 rfl) (mmC (mmI il_X1_leavingOn_3 1 rfl) (mmC (mmI il_X1_leavingOn_3 2 rfl) (mmC (mmI il_X1_leavingOn_3 3 rfl) mmN)))))))))))))))))))))))) (mmC (mmI il_X1_leavingOn_3 4 rfl) (mmC (mmI il_X1_leavingOn_3 5 rfl) mmN)))) il_X1_leavingOn_4) il_X1_leavingOn_5) il_X1_leavingOn_6) il_X1_leavingOn_7) il_X1_leavingOn_8)) gw_X1_stateOn
theorem gX1_leavingOn_X1_stateOn : GoodIn wsX1_leavingOn (wsV RX1 100 RX1 yX1_stateOn wsX1_stateOn) := goodIn_app (goodIn_sub (mmC (mmI il_X1_leavingOn_1 0 rfl) (mmC (mmI il_X1_leavingOn_1 1 rfl) (mmC (mmI il_X1_leavingOn_1 2 rfl) (mmC (mmI il_X1_leavingOn_1 3 rfl) mmN)))) (by decide +kernel)) ggX1_leavingOn_X1_stateOn
set_option maxRecDepth 100000 in
theorem ggX1_leavingOn_X1_lastMove : GoodIn wsX1_leavingOn wsX1_lastMove := goodIn_sub (mmC (mmI il_X1_leavingOn_2 5 rfl) (mmA (mmA (mmC (mmI il_X1_leavingOn_1 22 rfl) (mmC (mmI il_X1_leavingOn_1 9 rfl) (mmC (mmI il_X1_leavingOn_1 23 rfl) (mmC (mmI il_X1_leavingOn_2 0 rfl) (mmC (mmI il_X1_leavingOn_2 1 rfl) mmN))))) il_X1_leavingOn_4) il_X1_leavingOn_5)) gw_X1_lastMove
theorem gX1_leavingOn_X1_lastMove : GoodIn wsX1_leavingOn (wsV RX1 60 RX1 yX1_lastMove wsX1_lastMove) := goodIn_app (goodIn_sub (mmC (mmI il_X1_leavingOn_2 2 rfl) (mmC (mmI il_X1_leavingOn_2 3 rfl) (mmC (mmI il_X1_leavingOn_2 4 rfl) (mmC (mmI il_X1_leavingOn_1 3 rfl) mmN)))) (by decide +kernel)) ggX1_leavingOn_X1_lastMove
theorem dX1_leavingOn_0 : decode cX1_leavingOn 0 = .ok (.aload_n 0, 1) := by decide +kernel
theorem dX1_leavingOn_1 : decode cX1_leavingOn 1 = .ok (.iload_n 1, 1) := by decide +kernel
theorem dX1_leavingOn_2 : decode cX1_leavingOn 2 = .ok (.iload_n 2, 1) := by decide +kernel
theorem dX1_leavingOn_3 : decode cX1_leavingOn 3 = .ok (.aload_n 3, 1) := by decide +kernel
theorem dX1_leavingOn_4 : decode cX1_leavingOn 4 = .ok (.invokevirtual 100, 3) := by decide +kernel
theorem dX1_leavingOn_7 : decode cX1_leavingOn 7 = .ok (.iconst 3, 1) := by decide +kernel
theorem dX1_leavingOn_8 : decode cX1_leavingOn 8 = .ok (.if_icmp .ne 12, 3) := by decide +kernel
theorem dX1_leavingOn_11 : decode cX1_leavingOn 11 = .ok (.aload_n 0, 1) := by decide +kernel
theorem dX1_leavingOn_12 : decode cX1_leavingOn 12 = .ok (.iload_n 1, 1) := by decide +kernel
theorem dX1_leavingOn_13 : decode cX1_leavingOn 13 = .ok (.iload_n 2, 1) := by decide +kernel
theorem dX1_leavingOn_14 : decode cX1_leavingOn 14 = .ok (.invokevirtual 60, 3) := by decide +kernel
theorem dX1_leavingOn_17 : decode cX1_leavingOn 17 = .ok (.goto 4, 3) := by decide +kernel
theorem dX1_leavingOn_20 : decode cX1_leavingOn 20 = .ok (.aconst_null, 1) := by decide +kernel
theorem dX1_leavingOn_21 : decode cX1_leavingOn 21 = .ok (.areturn, 1) := by decide +kernel
set_option maxRecDepth 100000 in
theorem ggX1_earningDays_X1_stateOn : GoodIn wsX1_earningDays wsX1_stateOn := goodIn_sub (mmC (mmI il_X1_earningDays_1 5 rfl) (mmA (mmA (mmA (mmA (mmA (mmA (mmC (mmI il_X1_earningDays_1 6 rfl) (mmC (mmI il_X1_earningDays_1 0 rfl) (mmC (mmI il_X1_earningDays_1 7 rfl) (mmC (mmI il_X1_earningDays_1 8 rfl) (mmC (mmI il_X1_earningDays_1 9 rfl) (mmC (mmI il_X1_earningDays_1 10 rfl) (mmC (mmI il_X1_earningDays_1 11 rfl) (mmC (mmI il_X1_earningDays_1 12 rfl) (mmC (mmI il_X1_earningDays_1 13 rfl) (mmC (mmI il_X1_earningDays_1 14 rfl) (mmC (mmI il_X1_earningDays_1 15 rfl) (mmC (mmI il_X1_earningDays_1 16 rfl) (mmC (mmI il_X1_earningDays_1 17 rfl) (mmC (mmI il_X1_earningDays_1 18 rfl) (mmC (mmI il_X1_earningDays_1 19 rfl) (mmC (mmI il_X1_earningDays_1 20 rfl) (mmC (mmI il_X1_earningDays_1 4 rfl) (mmC (mmI il_X1_earningDays_1 21 rfl) (mmC (mmI il_X1_earningDays_1 22 rfl) (mmC (mmI il_X1_earningDays_1 23 rfl) (mmC (mmI il_X1_earningDays_2 0 rfl) (mmC (mmI il_X1_earningDays_2 1 rfl) (mmC (mmI il_X1_earningDays_2 2 rfl) (mmC (mmI il_X1_earningDays_2 3 rfl) mmN)))))))))))))))))))))))) (mmA (mmC (mmI il_X1_earningDays_2 4 rfl) (mmC (mmI il_X1_earningDays_2 5 rfl) (mmC (mmI il_X1_earningDays_2 6 rfl) (mmC (mmI il_X1_earningDays_2 7 rfl) (mmC (mmI il_X1_earningDays_2 8 rfl) (mmC (mmI il_X1_earningDays_2 9 rfl) (mmC (mmI il_X1_earningDays_2 10 rfl) (mmC (mmI il_X1_earningDays_2 11 rfl) (mmC (mmI il_X1_earningDays_2 12 rfl) (mmC (mmI il_X1_earningDays_2 13 rfl) (mmC (mmI il_X1_earningDays_2 14 rfl) (mmC (mmI il_X1_earningDays_2 15 rfl) (mmC (mmI il_X1_earningDays_2 16 rfl) (mmC (mmI il_X1_earningDays_2 17 rfl) (mmC (mmI il_X1_earningDays_2 18 rfl) (mmC (mmI il_X1_earningDays_2 19 rfl) (mmC (mmI il_X1_earningDays_2 20 rfl) (mmC (mmI il_X1_earningDays_2 21 rfl) (mmC (mmI il_X1_earningDays_2 22 rfl) (mmC (mmI il_X1_earningDays_2 23 rfl) (mmC (mmI il_X1_earningDays_3 0 rfl) (mmC (mmI il_X1_earningDays_3 1 rfl) (mmC (mmI il_X1_earningDays_3 2 rfl) (mmC (mmI il_X1_earningDays_3 3 rfl) mmN)))))))))))))))))))))))) (mmC (mmI il_X1_earningDays_3 4 rfl) (mmC (mmI il_X1_earningDays_3 5 rfl) mmN)))) il_X1_earningDays_5) il_X1_earningDays_6) il_X1_earningDays_7) il_X1_earningDays_8) il_X1_earningDays_9)) gw_X1_stateOn
theorem gX1_earningDays_X1_stateOn : GoodIn wsX1_earningDays (wsV RX1 100 RX1 yX1_stateOn wsX1_stateOn) := goodIn_app (goodIn_sub (mmC (mmI il_X1_earningDays_1 1 rfl) (mmC (mmI il_X1_earningDays_1 2 rfl) (mmC (mmI il_X1_earningDays_1 3 rfl) (mmC (mmI il_X1_earningDays_1 4 rfl) mmN)))) (by decide +kernel)) ggX1_earningDays_X1_stateOn
set_option maxRecDepth 100000 in
theorem ggX1_earningDays_X9_lastHeard : GoodIn wsX1_earningDays wsX9_lastHeard := goodIn_sub (mmC (mmI il_X1_earningDays_2 15 rfl) (mmA (mmA (mmC (mmI il_X1_earningDays_2 10 rfl) (mmC (mmI il_X1_earningDays_2 11 rfl) (mmC (mmI il_X1_earningDays_2 16 rfl) (mmC (mmI il_X1_earningDays_2 17 rfl) (mmC (mmI il_X1_earningDays_2 18 rfl) (mmC (mmI il_X1_earningDays_2 19 rfl) mmN)))))) il_X1_earningDays_8) il_X1_earningDays_6)) gw_X9_lastHeard
theorem gX1_earningDays_X9_lastHeard : GoodIn wsX1_earningDays (wsV RX1 72 RX9 yX9_lastHeard wsX9_lastHeard) := goodIn_app (goodIn_sub (mmC (mmI il_X1_earningDays_2 12 rfl) (mmC (mmI il_X1_earningDays_2 13 rfl) (mmC (mmI il_X1_earningDays_2 14 rfl) (mmC (mmI il_X1_earningDays_1 14 rfl) mmN)))) (by decide +kernel)) ggX1_earningDays_X9_lastHeard
set_option maxRecDepth 100000 in
theorem ggX1_earningDays_X1_daysIn : GoodIn wsX1_earningDays wsX1_daysIn := goodIn_sub (mmC (mmI il_X1_earningDays_3 9 rfl) (mmA (mmA (mmA (mmA (mmA (mmA (mmC (mmI il_X1_earningDays_1 6 rfl) (mmC (mmI il_X1_earningDays_3 10 rfl) (mmC (mmI il_X1_earningDays_3 11 rfl) (mmC (mmI il_X1_earningDays_3 12 rfl) (mmC (mmI il_X1_earningDays_3 13 rfl) (mmC (mmI il_X1_earningDays_1 1 rfl) (mmC (mmI il_X1_earningDays_1 2 rfl) (mmC (mmI il_X1_earningDays_1 3 rfl) (mmC (mmI il_X1_earningDays_1 4 rfl) (mmC (mmI il_X1_earningDays_1 5 rfl) (mmC (mmI il_X1_earningDays_1 0 rfl) (mmC (mmI il_X1_earningDays_1 7 rfl) (mmC (mmI il_X1_earningDays_1 8 rfl) (mmC (mmI il_X1_earningDays_1 9 rfl) (mmC (mmI il_X1_earningDays_1 10 rfl) (mmC (mmI il_X1_earningDays_1 11 rfl) (mmC (mmI il_X1_earningDays_1 12 rfl) (mmC (mmI il_X1_earningDays_1 13 rfl) (mmC (mmI il_X1_earningDays_1 14 rfl) (mmC (mmI il_X1_earningDays_1 15 rfl) (mmC (mmI il_X1_earningDays_1 16 rfl) (mmC (mmI il_X1_earningDays_1 17 rfl) (mmC (mmI il_X1_earningDays_1 18 rfl) (mmC (mmI il_X1_earningDays_1 19 rfl) mmN)))))))))))))))))))))))) (mmA (mmC (mmI il_X1_earningDays_1 20 rfl) (mmC (mmI il_X1_earningDays_1 21 rfl) (mmC (mmI il_X1_earningDays_1 22 rfl) (mmC (mmI il_X1_earningDays_1 23 rfl) (mmC (mmI il_X1_earningDays_2 0 rfl) (mmC (mmI il_X1_earningDays_2 1 rfl) (mmC (mmI il_X1_earningDays_2 2 rfl) (mmC (mmI il_X1_earningDays_2 3 rfl) (mmC (mmI il_X1_earningDays_2 4 rfl) (mmC (mmI il_X1_earningDays_2 5 rfl) (mmC (mmI il_X1_earningDays_2 6 rfl) (mmC (mmI il_X1_earningDays_2 7 rfl) (mmC (mmI il_X1_earningDays_2 8 rfl) (mmC (mmI il_X1_earningDays_2 9 rfl) (mmC (mmI il_X1_earningDays_2 10 rfl) (mmC (mmI il_X1_earningDays_2 11 rfl) (mmC (mmI il_X1_earningDays_2 12 rfl) (mmC (mmI il_X1_earningDays_2 13 rfl) (mmC (mmI il_X1_earningDays_2 14 rfl) (mmC (mmI il_X1_earningDays_2 15 rfl) (mmC (mmI il_X1_earningDays_2 16 rfl) (mmC (mmI il_X1_earningDays_2 17 rfl) (mmC (mmI il_X1_earningDays_2 18 rfl) (mmC (mmI il_X1_earningDays_2 19 rfl) mmN)))))))))))))))))))))))) (mmA (mmC (mmI il_X1_earningDays_2 20 rfl) (mmC (mmI il_X1_earningDays_2 21 rfl) (mmC (mmI il_X1_earningDays_2 22 rfl) (mmC (mmI il_X1_earningDays_2 23 rfl) (mmC (mmI il_X1_earningDays_3 0 rfl) (mmC (mmI il_X1_earningDays_3 1 rfl) (mmC (mmI il_X1_earningDays_3 2 rfl) (mmC (mmI il_X1_earningDays_3 3 rfl) (mmC (mmI il_X1_earningDays_3 4 rfl) (mmC (mmI il_X1_earningDays_3 5 rfl) (mmC (mmI il_X1_earningDays_3 14 rfl) (mmC (mmI il_X1_earningDays_3 15 rfl) (mmC (mmI il_X1_earningDays_3 16 rfl) (mmC (mmI il_X1_earningDays_3 17 rfl) (mmC (mmI il_X1_earningDays_3 18 rfl) (mmC (mmI il_X1_earningDays_3 19 rfl) (mmC (mmI il_X1_earningDays_3 20 rfl) (mmC (mmI il_X1_earningDays_3 21 rfl) (mmC (mmI il_X1_earningDays_3 22 rfl) (mmC (mmI il_X1_earningDays_3 23 rfl) (mmC (mmI il_X1_earningDays_4 0 rfl) (mmC (mmI il_X1_earningDays_4 1 rfl) (mmC (mmI il_X1_earningDays_4 2 rfl) (mmC (mmI il_X1_earningDays_4 3 rfl) mmN)))))))))))))))))))))))) (mmC (mmI il_X1_earningDays_4 4 rfl) (mmC (mmI il_X1_earningDays_4 5 rfl) (mmC (mmI il_X1_earningDays_4 6 rfl) (mmC (mmI il_X1_earningDays_4 7 rfl) mmN))))))) il_X1_earningDays_5) il_X1_earningDays_6) il_X1_earningDays_7) il_X1_earningDays_8) il_X1_earningDays_9)) gw_X1_daysIn
theorem gX1_earningDays_X1_daysIn : GoodIn wsX1_earningDays (wsV RX1 104 RX1 yX1_daysIn wsX1_daysIn) := goodIn_app (goodIn_sub (mmC (mmI il_X1_earningDays_3 6 rfl) (mmC (mmI il_X1_earningDays_3 7 rfl) (mmC (mmI il_X1_earningDays_3 8 rfl) (mmC (mmI il_X1_earningDays_1 4 rfl) mmN)))) (by decide +kernel)) ggX1_earningDays_X1_daysIn
theorem dX1_earningDays_0 : decode cX1_earningDays 0 = .ok (.iload_n 1, 1) := by decide +kernel
theorem dX1_earningDays_1 : decode cX1_earningDays 1 = .ok (.istore 4, 2) := by decide +kernel
theorem dX1_earningDays_3 : decode cX1_earningDays 3 = .ok (.aload_n 0, 1) := by decide +kernel
theorem dX1_earningDays_4 : decode cX1_earningDays 4 = .ok (.iload_n 1, 1) := by decide +kernel
theorem dX1_earningDays_5 : decode cX1_earningDays 5 = .ok (.iload_n 2, 1) := by decide +kernel
theorem dX1_earningDays_6 : decode cX1_earningDays 6 = .ok (.aload_n 3, 1) := by decide +kernel
theorem dX1_earningDays_7 : decode cX1_earningDays 7 = .ok (.invokevirtual 100, 3) := by decide +kernel
theorem dX1_earningDays_10 : decode cX1_earningDays 10 = .ok (.iconst 2, 1) := by decide +kernel
theorem dX1_earningDays_11 : decode cX1_earningDays 11 = .ok (.if_icmp .ne 14, 3) := by decide +kernel
theorem dX1_earningDays_14 : decode cX1_earningDays 14 = .ok (.aload_n 0, 1) := by decide +kernel
theorem dX1_earningDays_15 : decode cX1_earningDays 15 = .ok (.getfield 33, 3) := by decide +kernel
theorem dX1_earningDays_18 : decode cX1_earningDays 18 = .ok (.iload_n 1, 1) := by decide +kernel
theorem dX1_earningDays_19 : decode cX1_earningDays 19 = .ok (.iload_n 2, 1) := by decide +kernel
theorem dX1_earningDays_20 : decode cX1_earningDays 20 = .ok (.invokevirtual 72, 3) := by decide +kernel
theorem dX1_earningDays_23 : decode cX1_earningDays 23 = .ok (.istore 4, 2) := by decide +kernel
theorem dX1_earningDays_25 : decode cX1_earningDays 25 = .ok (.aload_n 0, 1) := by decide +kernel
theorem dX1_earningDays_26 : decode cX1_earningDays 26 = .ok (.bipush 7, 2) := by decide +kernel
theorem dX1_earningDays_28 : decode cX1_earningDays 28 = .ok (.iload 4, 2) := by decide +kernel
theorem dX1_earningDays_30 : decode cX1_earningDays 30 = .ok (.iload_n 2, 1) := by decide +kernel
theorem dX1_earningDays_31 : decode cX1_earningDays 31 = .ok (.aload_n 3, 1) := by decide +kernel
theorem dX1_earningDays_32 : decode cX1_earningDays 32 = .ok (.invokevirtual 104, 3) := by decide +kernel
theorem dX1_earningDays_35 : decode cX1_earningDays 35 = .ok (.ireturn, 1) := by decide +kernel
set_option maxRecDepth 100000 in
theorem ggX1_daysIn_X1_stateOn : GoodIn wsX1_daysIn wsX1_stateOn := goodIn_sub (mmC (mmI il_X1_daysIn_1 9 rfl) (mmA (mmA (mmA (mmA (mmA (mmA (mmC (mmI il_X1_daysIn_1 0 rfl) (mmC (mmI il_X1_daysIn_1 10 rfl) (mmC (mmI il_X1_daysIn_1 11 rfl) (mmC (mmI il_X1_daysIn_1 12 rfl) (mmC (mmI il_X1_daysIn_1 13 rfl) (mmC (mmI il_X1_daysIn_1 14 rfl) (mmC (mmI il_X1_daysIn_1 15 rfl) (mmC (mmI il_X1_daysIn_1 16 rfl) (mmC (mmI il_X1_daysIn_1 17 rfl) (mmC (mmI il_X1_daysIn_1 18 rfl) (mmC (mmI il_X1_daysIn_1 19 rfl) (mmC (mmI il_X1_daysIn_1 20 rfl) (mmC (mmI il_X1_daysIn_1 21 rfl) (mmC (mmI il_X1_daysIn_1 22 rfl) (mmC (mmI il_X1_daysIn_1 23 rfl) (mmC (mmI il_X1_daysIn_2 0 rfl) (mmC (mmI il_X1_daysIn_1 8 rfl) (mmC (mmI il_X1_daysIn_2 1 rfl) (mmC (mmI il_X1_daysIn_2 2 rfl) (mmC (mmI il_X1_daysIn_2 3 rfl) (mmC (mmI il_X1_daysIn_2 4 rfl) (mmC (mmI il_X1_daysIn_2 5 rfl) (mmC (mmI il_X1_daysIn_2 6 rfl) (mmC (mmI il_X1_daysIn_2 7 rfl) mmN)))))))))))))))))))))))) (mmA (mmC (mmI il_X1_daysIn_2 8 rfl) (mmC (mmI il_X1_daysIn_2 9 rfl) (mmC (mmI il_X1_daysIn_2 10 rfl) (mmC (mmI il_X1_daysIn_2 11 rfl) (mmC (mmI il_X1_daysIn_2 12 rfl) (mmC (mmI il_X1_daysIn_2 13 rfl) (mmC (mmI il_X1_daysIn_2 14 rfl) (mmC (mmI il_X1_daysIn_2 15 rfl) (mmC (mmI il_X1_daysIn_2 16 rfl) (mmC (mmI il_X1_daysIn_2 17 rfl) (mmC (mmI il_X1_daysIn_2 18 rfl) (mmC (mmI il_X1_daysIn_2 19 rfl) (mmC (mmI il_X1_daysIn_2 20 rfl) (mmC (mmI il_X1_daysIn_2 21 rfl) (mmC (mmI il_X1_daysIn_2 22 rfl) (mmC (mmI il_X1_daysIn_2 23 rfl) (mmC (mmI il_X1_daysIn_3 0 rfl) (mmC (mmI il_X1_daysIn_3 1 rfl) (mmC (mmI il_X1_daysIn_3 2 rfl) (mmC (mmI il_X1_daysIn_3 3 rfl) (mmC (mmI il_X1_daysIn_3 4 rfl) (mmC (mmI il_X1_daysIn_3 5 rfl) (mmC (mmI il_X1_daysIn_3 6 rfl) (mmC (mmI il_X1_daysIn_3 7 rfl) mmN)))))))))))))))))))))))) (mmC (mmI il_X1_daysIn_3 8 rfl) (mmC (mmI il_X1_daysIn_3 9 rfl) mmN)))) il_X1_daysIn_5) il_X1_daysIn_6) il_X1_daysIn_7) il_X1_daysIn_8) il_X1_daysIn_9)) gw_X1_stateOn
theorem gX1_daysIn_X1_stateOn : GoodIn wsX1_daysIn (wsV RX1 100 RX1 yX1_stateOn wsX1_stateOn) := goodIn_app (goodIn_sub (mmC (mmI il_X1_daysIn_1 5 rfl) (mmC (mmI il_X1_daysIn_1 6 rfl) (mmC (mmI il_X1_daysIn_1 7 rfl) (mmC (mmI il_X1_daysIn_1 8 rfl) mmN)))) (by decide +kernel)) ggX1_daysIn_X1_stateOn
set_option maxRecDepth 100000 in
theorem ggX1_daysIn_X1_nextChange : GoodIn wsX1_daysIn wsX1_nextChange := goodIn_sub (mmC (mmI il_X1_daysIn_3 13 rfl) (mmA (mmA (mmA (mmA (mmA (mmA (mmC (mmI il_X1_daysIn_1 12 rfl) (mmC (mmI il_X1_daysIn_3 14 rfl) (mmC (mmI il_X1_daysIn_1 10 rfl) (mmC (mmI il_X1_daysIn_1 14 rfl) (mmC (mmI il_X1_daysIn_2 2 rfl) (mmC (mmI il_X1_daysIn_2 3 rfl) (mmC (mmI il_X1_daysIn_2 4 rfl) (mmC (mmI il_X1_daysIn_2 5 rfl) (mmC (mmI il_X1_daysIn_3 15 rfl) (mmC (mmI il_X1_daysIn_3 16 rfl) (mmC (mmI il_X1_daysIn_1 8 rfl) (mmC (mmI il_X1_daysIn_3 17 rfl) (mmC (mmI il_X1_daysIn_3 18 rfl) (mmC (mmI il_X1_daysIn_3 19 rfl) (mmC (mmI il_X1_daysIn_3 20 rfl) (mmC (mmI il_X1_daysIn_1 18 rfl) (mmC (mmI il_X1_daysIn_3 21 rfl) (mmC (mmI il_X1_daysIn_3 22 rfl) (mmC (mmI il_X1_daysIn_2 14 rfl) (mmC (mmI il_X1_daysIn_2 15 rfl) (mmC (mmI il_X1_daysIn_1 20 rfl) (mmC (mmI il_X1_daysIn_1 21 rfl) (mmC (mmI il_X1_daysIn_2 20 rfl) (mmC (mmI il_X1_daysIn_2 21 rfl) mmN)))))))))))))))))))))))) (mmC (mmI il_X1_daysIn_2 22 rfl) (mmC (mmI il_X1_daysIn_2 23 rfl) (mmC (mmI il_X1_daysIn_3 23 rfl) (mmC (mmI il_X1_daysIn_4 0 rfl) (mmC (mmI il_X1_daysIn_4 1 rfl) (mmC (mmI il_X1_daysIn_3 3 rfl) (mmC (mmI il_X1_daysIn_4 2 rfl) (mmC (mmI il_X1_daysIn_4 3 rfl) (mmC (mmI il_X1_daysIn_3 6 rfl) (mmC (mmI il_X1_daysIn_3 7 rfl) (mmC (mmI il_X1_daysIn_3 8 rfl) (mmC (mmI il_X1_daysIn_3 9 rfl) (mmC (mmI il_X1_daysIn_2 16 rfl) (mmC (mmI il_X1_daysIn_2 17 rfl) (mmC (mmI il_X1_daysIn_2 18 rfl) (mmC (mmI il_X1_daysIn_2 19 rfl) (mmC (mmI il_X1_daysIn_3 0 rfl) (mmC (mmI il_X1_daysIn_3 1 rfl) (mmC (mmI il_X1_daysIn_3 2 rfl) (mmC (mmI il_X1_daysIn_3 4 rfl) (mmC (mmI il_X1_daysIn_3 5 rfl) mmN)))))))))))))))))))))) il_X1_daysIn_5) il_X1_daysIn_7) il_X1_daysIn_6) il_X1_daysIn_8) il_X1_daysIn_9)) gw_X1_nextChange
theorem gX1_daysIn_X1_nextChange : GoodIn wsX1_daysIn (wsV RX1 108 RX1 yX1_nextChange wsX1_nextChange) := goodIn_app (goodIn_sub (mmC (mmI il_X1_daysIn_3 10 rfl) (mmC (mmI il_X1_daysIn_3 11 rfl) (mmC (mmI il_X1_daysIn_3 12 rfl) (mmC (mmI il_X1_daysIn_1 8 rfl) mmN)))) (by decide +kernel)) ggX1_daysIn_X1_nextChange
theorem dX1_daysIn_0 : decode cX1_daysIn 0 = .ok (.iconst 0, 1) := by decide +kernel
theorem dX1_daysIn_1 : decode cX1_daysIn 1 = .ok (.istore 5, 2) := by decide +kernel
theorem dX1_daysIn_3 : decode cX1_daysIn 3 = .ok (.aload_n 0, 1) := by decide +kernel
theorem dX1_daysIn_4 : decode cX1_daysIn 4 = .ok (.getfield 37, 3) := by decide +kernel
theorem dX1_daysIn_7 : decode cX1_daysIn 7 = .ok (.istore 6, 2) := by decide +kernel
theorem dX1_daysIn_9 : decode cX1_daysIn 9 = .ok (.iconst 0, 1) := by decide +kernel
theorem dX1_daysIn_10 : decode cX1_daysIn 10 = .ok (.istore 7, 2) := by decide +kernel
theorem dX1_daysIn_12 : decode cX1_daysIn 12 = .ok (.iload 7, 2) := by decide +kernel
theorem dX1_daysIn_14 : decode cX1_daysIn 14 = .ok (.sipush 3000, 3) := by decide +kernel
theorem dX1_daysIn_17 : decode cX1_daysIn 17 = .ok (.if_icmp .gt 72, 3) := by decide +kernel
theorem dX1_daysIn_20 : decode cX1_daysIn 20 = .ok (.iload 6, 2) := by decide +kernel
theorem dX1_daysIn_22 : decode cX1_daysIn 22 = .ok (.iload_n 2, 1) := by decide +kernel
theorem dX1_daysIn_23 : decode cX1_daysIn 23 = .ok (.if_icmp .gt 66, 3) := by decide +kernel
theorem dX1_daysIn_26 : decode cX1_daysIn 26 = .ok (.aload_n 0, 1) := by decide +kernel
theorem dX1_daysIn_27 : decode cX1_daysIn 27 = .ok (.iload 6, 2) := by decide +kernel
theorem dX1_daysIn_29 : decode cX1_daysIn 29 = .ok (.iload_n 3, 1) := by decide +kernel
theorem dX1_daysIn_30 : decode cX1_daysIn 30 = .ok (.aload 4, 2) := by decide +kernel
theorem dX1_daysIn_32 : decode cX1_daysIn 32 = .ok (.invokevirtual 100, 3) := by decide +kernel
theorem dX1_daysIn_35 : decode cX1_daysIn 35 = .ok (.istore 8, 2) := by decide +kernel
theorem dX1_daysIn_37 : decode cX1_daysIn 37 = .ok (.aload_n 0, 1) := by decide +kernel
theorem dX1_daysIn_38 : decode cX1_daysIn 38 = .ok (.iload 6, 2) := by decide +kernel
theorem dX1_daysIn_40 : decode cX1_daysIn 40 = .ok (.iload_n 3, 1) := by decide +kernel
theorem dX1_daysIn_41 : decode cX1_daysIn 41 = .ok (.aload 4, 2) := by decide +kernel
theorem dX1_daysIn_43 : decode cX1_daysIn 43 = .ok (.invokevirtual 108, 3) := by decide +kernel
theorem dX1_daysIn_46 : decode cX1_daysIn 46 = .ok (.iload_n 2, 1) := by decide +kernel
theorem dX1_daysIn_47 : decode cX1_daysIn 47 = .ok (.iconst 1, 1) := by decide +kernel
theorem dX1_daysIn_48 : decode cX1_daysIn 48 = .ok (.iadd, 1) := by decide +kernel
theorem dX1_daysIn_49 : decode cX1_daysIn 49 = .ok (.invokestatic 111, 3) := by decide +kernel
theorem dX1_daysIn_52 : decode cX1_daysIn 52 = .ok (.istore 9, 2) := by decide +kernel
theorem dX1_daysIn_54 : decode cX1_daysIn 54 = .ok (.iload 8, 2) := by decide +kernel
theorem dX1_daysIn_56 : decode cX1_daysIn 56 = .ok (.ifCond .lt 23, 3) := by decide +kernel
theorem dX1_daysIn_59 : decode cX1_daysIn 59 = .ok (.iload_n 1, 1) := by decide +kernel
theorem dX1_daysIn_60 : decode cX1_daysIn 60 = .ok (.iload 8, 2) := by decide +kernel
theorem dX1_daysIn_62 : decode cX1_daysIn 62 = .ok (.ishr, 1) := by decide +kernel
theorem dX1_daysIn_63 : decode cX1_daysIn 63 = .ok (.iconst 1, 1) := by decide +kernel
theorem dX1_daysIn_64 : decode cX1_daysIn 64 = .ok (.iand, 1) := by decide +kernel
theorem dX1_daysIn_65 : decode cX1_daysIn 65 = .ok (.iconst 1, 1) := by decide +kernel
theorem dX1_daysIn_66 : decode cX1_daysIn 66 = .ok (.if_icmp .ne 13, 3) := by decide +kernel
theorem dX1_daysIn_69 : decode cX1_daysIn 69 = .ok (.iload 5, 2) := by decide +kernel
theorem dX1_daysIn_71 : decode cX1_daysIn 71 = .ok (.iload 9, 2) := by decide +kernel
theorem dX1_daysIn_73 : decode cX1_daysIn 73 = .ok (.iload 6, 2) := by decide +kernel
theorem dX1_daysIn_75 : decode cX1_daysIn 75 = .ok (.isub, 1) := by decide +kernel
theorem dX1_daysIn_76 : decode cX1_daysIn 76 = .ok (.iadd, 1) := by decide +kernel
theorem dX1_daysIn_77 : decode cX1_daysIn 77 = .ok (.istore 5, 2) := by decide +kernel
theorem dX1_daysIn_79 : decode cX1_daysIn 79 = .ok (.iload 9, 2) := by decide +kernel
theorem dX1_daysIn_81 : decode cX1_daysIn 81 = .ok (.istore 6, 2) := by decide +kernel
theorem dX1_daysIn_83 : decode cX1_daysIn 83 = .ok (.iinc 7 1, 3) := by decide +kernel
theorem dX1_daysIn_86 : decode cX1_daysIn 86 = .ok (.goto (-74), 3) := by decide +kernel
theorem dX1_daysIn_89 : decode cX1_daysIn 89 = .ok (.iload 5, 2) := by decide +kernel
theorem dX1_daysIn_91 : decode cX1_daysIn 91 = .ok (.ireturn, 1) := by decide +kernel
set_option maxRecDepth 100000 in
theorem ggX1_nextChange_X1_nearer : GoodIn wsX1_nextChange wsX1_nearer := goodIn_sub (mmC (mmI il_X1_nextChange_1 11 rfl) mmN) gw_X1_nearer
set_option maxRecDepth 20000 in
theorem gX1_nextChange_X1_nearer : GoodIn wsX1_nextChange (va_wsS RX1 116 yX1_nearer wsX1_nearer) := goodIn_app (goodIn_of _ (by decide +kernel)) ggX1_nextChange_X1_nearer
set_option maxRecDepth 100000 in
theorem ggX1_nextChange_X9_nextTold : GoodIn wsX1_nextChange wsX9_nextTold := goodIn_sub (mmC (mmI il_X1_nextChange_1 16 rfl) (mmA (mmA (mmC (mmI il_X1_nextChange_1 17 rfl) (mmC (mmI il_X1_nextChange_1 18 rfl) (mmC (mmI il_X1_nextChange_1 19 rfl) (mmC (mmI il_X1_nextChange_1 20 rfl) (mmC (mmI il_X1_nextChange_1 21 rfl) (mmC (mmI il_X1_nextChange_1 22 rfl) (mmC (mmI il_X1_nextChange_1 23 rfl) (mmC (mmI il_X1_nextChange_2 0 rfl) (mmC (mmI il_X1_nextChange_2 1 rfl) mmN))))))))) il_X1_nextChange_6) il_X1_nextChange_5)) gw_X9_nextTold
theorem gX1_nextChange_X9_nextTold : GoodIn wsX1_nextChange (wsV RX1 120 RX9 yX9_nextTold wsX9_nextTold) := goodIn_app (goodIn_sub (mmC (mmI il_X1_nextChange_1 12 rfl) (mmC (mmI il_X1_nextChange_1 13 rfl) (mmC (mmI il_X1_nextChange_1 14 rfl) (mmC (mmI il_X1_nextChange_1 15 rfl) mmN)))) (by decide +kernel)) ggX1_nextChange_X9_nextTold
set_option maxRecDepth 100000 in
theorem ggX1_nextChange_X5_nextPresume : GoodIn wsX1_nextChange wsX5_nextPresume := goodIn_sub (mmC (mmI il_X1_nextChange_2 6 rfl) (mmA (mmA (mmC (mmI il_X1_nextChange_2 7 rfl) (mmC (mmI il_X1_nextChange_2 8 rfl) (mmC (mmI il_X1_nextChange_2 9 rfl) (mmC (mmI il_X1_nextChange_2 10 rfl) (mmC (mmI il_X1_nextChange_2 11 rfl) mmN))))) il_X1_nextChange_7) il_X1_nextChange_4)) gw_X5_nextPresume
theorem gX1_nextChange_X5_nextPresume : GoodIn wsX1_nextChange (wsV RX1 123 RX5 yX5_nextPresume wsX5_nextPresume) := goodIn_app (goodIn_sub (mmC (mmI il_X1_nextChange_2 2 rfl) (mmC (mmI il_X1_nextChange_2 3 rfl) (mmC (mmI il_X1_nextChange_2 4 rfl) (mmC (mmI il_X1_nextChange_2 5 rfl) mmN)))) (by decide +kernel)) ggX1_nextChange_X5_nextPresume
set_option maxRecDepth 100000 in
theorem ggX1_nextChange_X9_lastHeard : GoodIn wsX1_nextChange wsX9_lastHeard := goodIn_sub (mmC (mmI il_X1_nextChange_2 15 rfl) (mmA (mmA (mmC (mmI il_X1_nextChange_1 18 rfl) (mmC (mmI il_X1_nextChange_1 19 rfl) (mmC (mmI il_X1_nextChange_1 22 rfl) (mmC (mmI il_X1_nextChange_1 23 rfl) (mmC (mmI il_X1_nextChange_2 0 rfl) (mmC (mmI il_X1_nextChange_2 1 rfl) mmN)))))) il_X1_nextChange_6) il_X1_nextChange_5)) gw_X9_lastHeard
theorem gX1_nextChange_X9_lastHeard : GoodIn wsX1_nextChange (wsV RX1 72 RX9 yX9_lastHeard wsX9_lastHeard) := goodIn_app (goodIn_sub (mmC (mmI il_X1_nextChange_2 12 rfl) (mmC (mmI il_X1_nextChange_2 13 rfl) (mmC (mmI il_X1_nextChange_2 14 rfl) (mmC (mmI il_X1_nextChange_1 15 rfl) mmN)))) (by decide +kernel)) ggX1_nextChange_X9_lastHeard
set_option maxRecDepth 100000 in
theorem ggX1_nextChange_X5_inForce : GoodIn wsX1_nextChange wsX5_inForce := goodIn_sub (mmC (mmI il_X1_nextChange_2 19 rfl) (mmA (mmA (mmC (mmI il_X1_nextChange_2 20 rfl) (mmC (mmI il_X1_nextChange_2 8 rfl) (mmC (mmI il_X1_nextChange_2 9 rfl) (mmC (mmI il_X1_nextChange_2 10 rfl) (mmC (mmI il_X1_nextChange_2 11 rfl) mmN))))) il_X1_nextChange_7) il_X1_nextChange_4)) gw_X5_inForce
theorem gX1_nextChange_X5_inForce : GoodIn wsX1_nextChange (wsV RX1 76 RX5 yX5_inForce wsX5_inForce) := goodIn_app (goodIn_sub (mmC (mmI il_X1_nextChange_2 16 rfl) (mmC (mmI il_X1_nextChange_2 17 rfl) (mmC (mmI il_X1_nextChange_2 18 rfl) (mmC (mmI il_X1_nextChange_2 5 rfl) mmN)))) (by decide +kernel)) ggX1_nextChange_X5_inForce
theorem dX1_nextChange_0 : decode cX1_nextChange 0 = .ok (.iload_n 1, 1) := by decide +kernel
theorem dX1_nextChange_1 : decode cX1_nextChange 1 = .ok (.aload_n 0, 1) := by decide +kernel
theorem dX1_nextChange_2 : decode cX1_nextChange 2 = .ok (.getfield 10, 3) := by decide +kernel
theorem dX1_nextChange_5 : decode cX1_nextChange 5 = .ok (.ldc 9, 2) := by decide +kernel
theorem dX1_nextChange_7 : decode cX1_nextChange 7 = .ok (.invokestatic 116, 3) := by decide +kernel
theorem dX1_nextChange_10 : decode cX1_nextChange 10 = .ok (.istore 4, 2) := by decide +kernel
theorem dX1_nextChange_12 : decode cX1_nextChange 12 = .ok (.iload_n 1, 1) := by decide +kernel
theorem dX1_nextChange_13 : decode cX1_nextChange 13 = .ok (.aload_n 0, 1) := by decide +kernel
theorem dX1_nextChange_14 : decode cX1_nextChange 14 = .ok (.getfield 33, 3) := by decide +kernel
theorem dX1_nextChange_17 : decode cX1_nextChange 17 = .ok (.iload_n 1, 1) := by decide +kernel
theorem dX1_nextChange_18 : decode cX1_nextChange 18 = .ok (.iload_n 2, 1) := by decide +kernel
theorem dX1_nextChange_19 : decode cX1_nextChange 19 = .ok (.invokevirtual 120, 3) := by decide +kernel
theorem dX1_nextChange_22 : decode cX1_nextChange 22 = .ok (.iload 4, 2) := by decide +kernel
theorem dX1_nextChange_24 : decode cX1_nextChange 24 = .ok (.invokestatic 116, 3) := by decide +kernel
theorem dX1_nextChange_27 : decode cX1_nextChange 27 = .ok (.istore 4, 2) := by decide +kernel
theorem dX1_nextChange_29 : decode cX1_nextChange 29 = .ok (.iload_n 1, 1) := by decide +kernel
theorem dX1_nextChange_30 : decode cX1_nextChange 30 = .ok (.aload_n 3, 1) := by decide +kernel
theorem dX1_nextChange_31 : decode cX1_nextChange 31 = .ok (.iload_n 1, 1) := by decide +kernel
theorem dX1_nextChange_32 : decode cX1_nextChange 32 = .ok (.invokevirtual 123, 3) := by decide +kernel
theorem dX1_nextChange_35 : decode cX1_nextChange 35 = .ok (.iload 4, 2) := by decide +kernel
theorem dX1_nextChange_37 : decode cX1_nextChange 37 = .ok (.invokestatic 116, 3) := by decide +kernel
theorem dX1_nextChange_40 : decode cX1_nextChange 40 = .ok (.istore 4, 2) := by decide +kernel
theorem dX1_nextChange_42 : decode cX1_nextChange 42 = .ok (.iload_n 1, 1) := by decide +kernel
theorem dX1_nextChange_43 : decode cX1_nextChange 43 = .ok (.aload_n 0, 1) := by decide +kernel
theorem dX1_nextChange_44 : decode cX1_nextChange 44 = .ok (.getfield 33, 3) := by decide +kernel
theorem dX1_nextChange_47 : decode cX1_nextChange 47 = .ok (.iload_n 1, 1) := by decide +kernel
theorem dX1_nextChange_48 : decode cX1_nextChange 48 = .ok (.iload_n 2, 1) := by decide +kernel
theorem dX1_nextChange_49 : decode cX1_nextChange 49 = .ok (.invokevirtual 72, 3) := by decide +kernel
theorem dX1_nextChange_52 : decode cX1_nextChange 52 = .ok (.aload_n 3, 1) := by decide +kernel
theorem dX1_nextChange_53 : decode cX1_nextChange 53 = .ok (.iconst 4, 1) := by decide +kernel
theorem dX1_nextChange_54 : decode cX1_nextChange 54 = .ok (.iload_n 1, 1) := by decide +kernel
theorem dX1_nextChange_55 : decode cX1_nextChange 55 = .ok (.invokevirtual 76, 3) := by decide +kernel
theorem dX1_nextChange_58 : decode cX1_nextChange 58 = .ok (.getfield 82, 3) := by decide +kernel
theorem dX1_nextChange_61 : decode cX1_nextChange 61 = .ok (.iadd, 1) := by decide +kernel
theorem dX1_nextChange_62 : decode cX1_nextChange 62 = .ok (.iconst 1, 1) := by decide +kernel
theorem dX1_nextChange_63 : decode cX1_nextChange 63 = .ok (.iadd, 1) := by decide +kernel
theorem dX1_nextChange_64 : decode cX1_nextChange 64 = .ok (.iload 4, 2) := by decide +kernel
theorem dX1_nextChange_66 : decode cX1_nextChange 66 = .ok (.invokestatic 116, 3) := by decide +kernel
theorem dX1_nextChange_69 : decode cX1_nextChange 69 = .ok (.istore 4, 2) := by decide +kernel
theorem dX1_nextChange_71 : decode cX1_nextChange 71 = .ok (.aload_n 0, 1) := by decide +kernel
theorem dX1_nextChange_72 : decode cX1_nextChange 72 = .ok (.getfield 87, 3) := by decide +kernel
theorem dX1_nextChange_75 : decode cX1_nextChange 75 = .ok (.astore 5, 2) := by decide +kernel
theorem dX1_nextChange_77 : decode cX1_nextChange 77 = .ok (.aload 5, 2) := by decide +kernel
theorem dX1_nextChange_79 : decode cX1_nextChange 79 = .ok (.ifnull 35, 3) := by decide +kernel
theorem dX1_nextChange_82 : decode cX1_nextChange 82 = .ok (.aload 5, 2) := by decide +kernel
theorem dX1_nextChange_84 : decode cX1_nextChange 84 = .ok (.getfield 91, 3) := by decide +kernel
theorem dX1_nextChange_87 : decode cX1_nextChange 87 = .ok (.iload_n 2, 1) := by decide +kernel
theorem dX1_nextChange_88 : decode cX1_nextChange 88 = .ok (.if_icmp .gt 16, 3) := by decide +kernel
theorem dX1_nextChange_91 : decode cX1_nextChange 91 = .ok (.iload_n 1, 1) := by decide +kernel
theorem dX1_nextChange_92 : decode cX1_nextChange 92 = .ok (.aload 5, 2) := by decide +kernel
theorem dX1_nextChange_94 : decode cX1_nextChange 94 = .ok (.getfield 94, 3) := by decide +kernel
theorem dX1_nextChange_97 : decode cX1_nextChange 97 = .ok (.iload 4, 2) := by decide +kernel
theorem dX1_nextChange_99 : decode cX1_nextChange 99 = .ok (.invokestatic 116, 3) := by decide +kernel
theorem dX1_nextChange_102 : decode cX1_nextChange 102 = .ok (.istore 4, 2) := by decide +kernel
theorem dX1_nextChange_104 : decode cX1_nextChange 104 = .ok (.aload 5, 2) := by decide +kernel
theorem dX1_nextChange_106 : decode cX1_nextChange 106 = .ok (.getfield 97, 3) := by decide +kernel
theorem dX1_nextChange_109 : decode cX1_nextChange 109 = .ok (.astore 5, 2) := by decide +kernel
theorem dX1_nextChange_111 : decode cX1_nextChange 111 = .ok (.goto (-34), 3) := by decide +kernel
theorem dX1_nextChange_114 : decode cX1_nextChange 114 = .ok (.iload 4, 2) := by decide +kernel
theorem dX1_nextChange_116 : decode cX1_nextChange 116 = .ok (.ireturn, 1) := by decide +kernel
set_option maxRecDepth 100000 in
theorem ggX1_notePaid_X9_sailedBy : GoodIn wsX1_notePaid wsX9_sailedBy := goodIn_sub (mmC (mmI il_X1_notePaid_1 7 rfl) (mmA (mmC (mmI il_X1_notePaid_1 8 rfl) (mmC (mmI il_X1_notePaid_1 9 rfl) mmN)) il_X1_notePaid_5)) gw_X9_sailedBy
theorem gX1_notePaid_X9_sailedBy : GoodIn wsX1_notePaid (wsV RX1 69 RX9 yX9_sailedBy wsX9_sailedBy) := goodIn_app (goodIn_sub (mmC (mmI il_X1_notePaid_1 3 rfl) (mmC (mmI il_X1_notePaid_1 4 rfl) (mmC (mmI il_X1_notePaid_1 5 rfl) (mmC (mmI il_X1_notePaid_1 6 rfl) mmN)))) (by decide +kernel)) ggX1_notePaid_X9_sailedBy
set_option maxRecDepth 100000 in
theorem ggX1_notePaid_X1_stateOn : GoodIn wsX1_notePaid wsX1_stateOn := goodIn_sub (mmC (mmI il_X1_notePaid_1 14 rfl) (mmA (mmA (mmA (mmA (mmA (mmA (mmC (mmI il_X1_notePaid_1 15 rfl) (mmC (mmI il_X1_notePaid_1 1 rfl) (mmC (mmI il_X1_notePaid_1 16 rfl) (mmC (mmI il_X1_notePaid_1 17 rfl) (mmC (mmI il_X1_notePaid_1 18 rfl) (mmC (mmI il_X1_notePaid_1 19 rfl) (mmC (mmI il_X1_notePaid_1 20 rfl) (mmC (mmI il_X1_notePaid_1 21 rfl) (mmC (mmI il_X1_notePaid_1 22 rfl) (mmC (mmI il_X1_notePaid_1 6 rfl) (mmC (mmI il_X1_notePaid_1 23 rfl) (mmC (mmI il_X1_notePaid_2 0 rfl) (mmC (mmI il_X1_notePaid_2 1 rfl) (mmC (mmI il_X1_notePaid_2 2 rfl) (mmC (mmI il_X1_notePaid_2 3 rfl) (mmC (mmI il_X1_notePaid_2 4 rfl) (mmC (mmI il_X1_notePaid_1 13 rfl) (mmC (mmI il_X1_notePaid_2 5 rfl) (mmC (mmI il_X1_notePaid_2 6 rfl) (mmC (mmI il_X1_notePaid_2 7 rfl) (mmC (mmI il_X1_notePaid_2 8 rfl) (mmC (mmI il_X1_notePaid_2 9 rfl) (mmC (mmI il_X1_notePaid_2 10 rfl) (mmC (mmI il_X1_notePaid_2 11 rfl) mmN)))))))))))))))))))))))) (mmA (mmC (mmI il_X1_notePaid_2 12 rfl) (mmC (mmI il_X1_notePaid_2 13 rfl) (mmC (mmI il_X1_notePaid_1 3 rfl) (mmC (mmI il_X1_notePaid_1 4 rfl) (mmC (mmI il_X1_notePaid_1 5 rfl) (mmC (mmI il_X1_notePaid_1 7 rfl) (mmC (mmI il_X1_notePaid_1 8 rfl) (mmC (mmI il_X1_notePaid_1 9 rfl) (mmC (mmI il_X1_notePaid_2 14 rfl) (mmC (mmI il_X1_notePaid_2 15 rfl) (mmC (mmI il_X1_notePaid_2 16 rfl) (mmC (mmI il_X1_notePaid_2 17 rfl) (mmC (mmI il_X1_notePaid_2 18 rfl) (mmC (mmI il_X1_notePaid_2 19 rfl) (mmC (mmI il_X1_notePaid_2 20 rfl) (mmC (mmI il_X1_notePaid_2 21 rfl) (mmC (mmI il_X1_notePaid_2 22 rfl) (mmC (mmI il_X1_notePaid_2 23 rfl) (mmC (mmI il_X1_notePaid_3 0 rfl) (mmC (mmI il_X1_notePaid_3 1 rfl) (mmC (mmI il_X1_notePaid_3 2 rfl) (mmC (mmI il_X1_notePaid_3 3 rfl) (mmC (mmI il_X1_notePaid_3 4 rfl) (mmC (mmI il_X1_notePaid_3 5 rfl) mmN)))))))))))))))))))))))) (mmC (mmI il_X1_notePaid_3 6 rfl) (mmC (mmI il_X1_notePaid_3 7 rfl) mmN)))) il_X1_notePaid_4) il_X1_notePaid_6) il_X1_notePaid_7) il_X1_notePaid_5) il_X1_notePaid_8)) gw_X1_stateOn
theorem gX1_notePaid_X1_stateOn : GoodIn wsX1_notePaid (wsV RX1 100 RX1 yX1_stateOn wsX1_stateOn) := goodIn_app (goodIn_sub (mmC (mmI il_X1_notePaid_1 10 rfl) (mmC (mmI il_X1_notePaid_1 11 rfl) (mmC (mmI il_X1_notePaid_1 12 rfl) (mmC (mmI il_X1_notePaid_1 13 rfl) mmN)))) (by decide +kernel)) ggX1_notePaid_X1_stateOn
theorem dX1_notePaid_0 : decode cX1_notePaid 0 = .ok (.aload_n 0, 1) := by decide +kernel
theorem dX1_notePaid_1 : decode cX1_notePaid 1 = .ok (.getfield 127, 3) := by decide +kernel
theorem dX1_notePaid_4 : decode cX1_notePaid 4 = .ok (.ifCond .eq 17, 3) := by decide +kernel
theorem dX1_notePaid_7 : decode cX1_notePaid 7 = .ok (.aload_n 0, 1) := by decide +kernel
theorem dX1_notePaid_8 : decode cX1_notePaid 8 = .ok (.getfield 33, 3) := by decide +kernel
theorem dX1_notePaid_11 : decode cX1_notePaid 11 = .ok (.iload_n 1, 1) := by decide +kernel
theorem dX1_notePaid_12 : decode cX1_notePaid 12 = .ok (.iconst 3, 1) := by decide +kernel
theorem dX1_notePaid_13 : decode cX1_notePaid 13 = .ok (.isub, 1) := by decide +kernel
theorem dX1_notePaid_14 : decode cX1_notePaid 14 = .ok (.iload_n 2, 1) := by decide +kernel
theorem dX1_notePaid_15 : decode cX1_notePaid 15 = .ok (.invokevirtual 69, 3) := by decide +kernel
theorem dX1_notePaid_18 : decode cX1_notePaid 18 = .ok (.ifCond .ne 5, 3) := by decide +kernel
theorem dX1_notePaid_21 : decode cX1_notePaid 21 = .ok (.iconst 0, 1) := by decide +kernel
theorem dX1_notePaid_22 : decode cX1_notePaid 22 = .ok (.ireturn, 1) := by decide +kernel
theorem dX1_notePaid_23 : decode cX1_notePaid 23 = .ok (.aload_n 0, 1) := by decide +kernel
theorem dX1_notePaid_24 : decode cX1_notePaid 24 = .ok (.aload_n 0, 1) := by decide +kernel
theorem dX1_notePaid_25 : decode cX1_notePaid 25 = .ok (.getfield 33, 3) := by decide +kernel
theorem dX1_notePaid_28 : decode cX1_notePaid 28 = .ok (.getfield 130, 3) := by decide +kernel
theorem dX1_notePaid_31 : decode cX1_notePaid 31 = .ok (.iconst 3, 1) := by decide +kernel
theorem dX1_notePaid_32 : decode cX1_notePaid 32 = .ok (.iadd, 1) := by decide +kernel
theorem dX1_notePaid_33 : decode cX1_notePaid 33 = .ok (.iload_n 2, 1) := by decide +kernel
theorem dX1_notePaid_34 : decode cX1_notePaid 34 = .ok (.aload_n 3, 1) := by decide +kernel
theorem dX1_notePaid_35 : decode cX1_notePaid 35 = .ok (.invokevirtual 100, 3) := by decide +kernel
theorem dX1_notePaid_38 : decode cX1_notePaid 38 = .ok (.iconst 1, 1) := by decide +kernel
theorem dX1_notePaid_39 : decode cX1_notePaid 39 = .ok (.if_icmp .ne 10, 3) := by decide +kernel
theorem dX1_notePaid_42 : decode cX1_notePaid 42 = .ok (.aload_n 0, 1) := by decide +kernel
theorem dX1_notePaid_43 : decode cX1_notePaid 43 = .ok (.getfield 127, 3) := by decide +kernel
theorem dX1_notePaid_46 : decode cX1_notePaid 46 = .ok (.goto 4, 3) := by decide +kernel
theorem dX1_notePaid_49 : decode cX1_notePaid 49 = .ok (.iconst 0, 1) := by decide +kernel
theorem dX1_notePaid_50 : decode cX1_notePaid 50 = .ok (.ireturn, 1) := by decide +kernel
set_option maxRecDepth 100000 in
theorem ggX1_allotmentsPaid_X9_sailedBy : GoodIn wsX1_allotmentsPaid wsX9_sailedBy := goodIn_sub (mmC (mmI il_X1_allotmentsPaid_1 7 rfl) (mmA (mmC (mmI il_X1_allotmentsPaid_1 8 rfl) (mmC (mmI il_X1_allotmentsPaid_1 9 rfl) mmN)) il_X1_allotmentsPaid_5)) gw_X9_sailedBy
theorem gX1_allotmentsPaid_X9_sailedBy : GoodIn wsX1_allotmentsPaid (wsV RX1 69 RX9 yX9_sailedBy wsX9_sailedBy) := goodIn_app (goodIn_sub (mmC (mmI il_X1_allotmentsPaid_1 3 rfl) (mmC (mmI il_X1_allotmentsPaid_1 4 rfl) (mmC (mmI il_X1_allotmentsPaid_1 5 rfl) (mmC (mmI il_X1_allotmentsPaid_1 6 rfl) mmN)))) (by decide +kernel)) ggX1_allotmentsPaid_X9_sailedBy
set_option maxRecDepth 100000 in
theorem ggX1_allotmentsPaid_X1_stateOn : GoodIn wsX1_allotmentsPaid wsX1_stateOn := goodIn_sub (mmC (mmI il_X1_allotmentsPaid_1 14 rfl) (mmA (mmA (mmA (mmA (mmA (mmA (mmC (mmI il_X1_allotmentsPaid_1 15 rfl) (mmC (mmI il_X1_allotmentsPaid_1 1 rfl) (mmC (mmI il_X1_allotmentsPaid_1 16 rfl) (mmC (mmI il_X1_allotmentsPaid_1 17 rfl) (mmC (mmI il_X1_allotmentsPaid_1 18 rfl) (mmC (mmI il_X1_allotmentsPaid_1 19 rfl) (mmC (mmI il_X1_allotmentsPaid_1 20 rfl) (mmC (mmI il_X1_allotmentsPaid_1 21 rfl) (mmC (mmI il_X1_allotmentsPaid_1 22 rfl) (mmC (mmI il_X1_allotmentsPaid_1 6 rfl) (mmC (mmI il_X1_allotmentsPaid_1 23 rfl) (mmC (mmI il_X1_allotmentsPaid_2 0 rfl) (mmC (mmI il_X1_allotmentsPaid_2 1 rfl) (mmC (mmI il_X1_allotmentsPaid_2 2 rfl) (mmC (mmI il_X1_allotmentsPaid_2 3 rfl) (mmC (mmI il_X1_allotmentsPaid_2 4 rfl) (mmC (mmI il_X1_allotmentsPaid_1 13 rfl) (mmC (mmI il_X1_allotmentsPaid_2 5 rfl) (mmC (mmI il_X1_allotmentsPaid_2 6 rfl) (mmC (mmI il_X1_allotmentsPaid_2 7 rfl) (mmC (mmI il_X1_allotmentsPaid_2 8 rfl) (mmC (mmI il_X1_allotmentsPaid_2 9 rfl) (mmC (mmI il_X1_allotmentsPaid_2 10 rfl) (mmC (mmI il_X1_allotmentsPaid_2 11 rfl) mmN)))))))))))))))))))))))) (mmA (mmC (mmI il_X1_allotmentsPaid_2 12 rfl) (mmC (mmI il_X1_allotmentsPaid_2 13 rfl) (mmC (mmI il_X1_allotmentsPaid_1 3 rfl) (mmC (mmI il_X1_allotmentsPaid_1 4 rfl) (mmC (mmI il_X1_allotmentsPaid_1 5 rfl) (mmC (mmI il_X1_allotmentsPaid_1 7 rfl) (mmC (mmI il_X1_allotmentsPaid_1 8 rfl) (mmC (mmI il_X1_allotmentsPaid_1 9 rfl) (mmC (mmI il_X1_allotmentsPaid_2 14 rfl) (mmC (mmI il_X1_allotmentsPaid_2 15 rfl) (mmC (mmI il_X1_allotmentsPaid_2 16 rfl) (mmC (mmI il_X1_allotmentsPaid_2 17 rfl) (mmC (mmI il_X1_allotmentsPaid_2 18 rfl) (mmC (mmI il_X1_allotmentsPaid_2 19 rfl) (mmC (mmI il_X1_allotmentsPaid_2 20 rfl) (mmC (mmI il_X1_allotmentsPaid_2 21 rfl) (mmC (mmI il_X1_allotmentsPaid_2 22 rfl) (mmC (mmI il_X1_allotmentsPaid_2 23 rfl) (mmC (mmI il_X1_allotmentsPaid_3 0 rfl) (mmC (mmI il_X1_allotmentsPaid_3 1 rfl) (mmC (mmI il_X1_allotmentsPaid_3 2 rfl) (mmC (mmI il_X1_allotmentsPaid_3 3 rfl) (mmC (mmI il_X1_allotmentsPaid_3 4 rfl) (mmC (mmI il_X1_allotmentsPaid_3 5 rfl) mmN)))))))))))))))))))))))) (mmC (mmI il_X1_allotmentsPaid_3 6 rfl) (mmC (mmI il_X1_allotmentsPaid_3 7 rfl) mmN)))) il_X1_allotmentsPaid_4) il_X1_allotmentsPaid_6) il_X1_allotmentsPaid_7) il_X1_allotmentsPaid_5) il_X1_allotmentsPaid_8)) gw_X1_stateOn
theorem gX1_allotmentsPaid_X1_stateOn : GoodIn wsX1_allotmentsPaid (wsV RX1 100 RX1 yX1_stateOn wsX1_stateOn) := goodIn_app (goodIn_sub (mmC (mmI il_X1_allotmentsPaid_1 10 rfl) (mmC (mmI il_X1_allotmentsPaid_1 11 rfl) (mmC (mmI il_X1_allotmentsPaid_1 12 rfl) (mmC (mmI il_X1_allotmentsPaid_1 13 rfl) mmN)))) (by decide +kernel)) ggX1_allotmentsPaid_X1_stateOn
theorem dX1_allotmentsPaid_0 : decode cX1_allotmentsPaid 0 = .ok (.aload_n 0, 1) := by decide +kernel
theorem dX1_allotmentsPaid_1 : decode cX1_allotmentsPaid 1 = .ok (.getfield 133, 3) := by decide +kernel
theorem dX1_allotmentsPaid_4 : decode cX1_allotmentsPaid 4 = .ok (.ifCond .eq 15, 3) := by decide +kernel
theorem dX1_allotmentsPaid_7 : decode cX1_allotmentsPaid 7 = .ok (.aload_n 0, 1) := by decide +kernel
theorem dX1_allotmentsPaid_8 : decode cX1_allotmentsPaid 8 = .ok (.getfield 33, 3) := by decide +kernel
theorem dX1_allotmentsPaid_11 : decode cX1_allotmentsPaid 11 = .ok (.iload_n 1, 1) := by decide +kernel
theorem dX1_allotmentsPaid_12 : decode cX1_allotmentsPaid 12 = .ok (.iload_n 2, 1) := by decide +kernel
theorem dX1_allotmentsPaid_13 : decode cX1_allotmentsPaid 13 = .ok (.invokevirtual 69, 3) := by decide +kernel
theorem dX1_allotmentsPaid_16 : decode cX1_allotmentsPaid 16 = .ok (.ifCond .ne 5, 3) := by decide +kernel
theorem dX1_allotmentsPaid_19 : decode cX1_allotmentsPaid 19 = .ok (.iconst 0, 1) := by decide +kernel
theorem dX1_allotmentsPaid_20 : decode cX1_allotmentsPaid 20 = .ok (.ireturn, 1) := by decide +kernel
theorem dX1_allotmentsPaid_21 : decode cX1_allotmentsPaid 21 = .ok (.iconst 0, 1) := by decide +kernel
theorem dX1_allotmentsPaid_22 : decode cX1_allotmentsPaid 22 = .ok (.istore 4, 2) := by decide +kernel
theorem dX1_allotmentsPaid_24 : decode cX1_allotmentsPaid 24 = .ok (.aload_n 0, 1) := by decide +kernel
theorem dX1_allotmentsPaid_25 : decode cX1_allotmentsPaid 25 = .ok (.getfield 33, 3) := by decide +kernel
theorem dX1_allotmentsPaid_28 : decode cX1_allotmentsPaid 28 = .ok (.getfield 130, 3) := by decide +kernel
theorem dX1_allotmentsPaid_31 : decode cX1_allotmentsPaid 31 = .ok (.bipush 30, 2) := by decide +kernel
theorem dX1_allotmentsPaid_33 : decode cX1_allotmentsPaid 33 = .ok (.iadd, 1) := by decide +kernel
theorem dX1_allotmentsPaid_34 : decode cX1_allotmentsPaid 34 = .ok (.istore 5, 2) := by decide +kernel
theorem dX1_allotmentsPaid_36 : decode cX1_allotmentsPaid 36 = .ok (.iload 5, 2) := by decide +kernel
theorem dX1_allotmentsPaid_38 : decode cX1_allotmentsPaid 38 = .ok (.iload_n 1, 1) := by decide +kernel
theorem dX1_allotmentsPaid_39 : decode cX1_allotmentsPaid 39 = .ok (.if_icmp .gt 30, 3) := by decide +kernel
theorem dX1_allotmentsPaid_42 : decode cX1_allotmentsPaid 42 = .ok (.aload_n 0, 1) := by decide +kernel
theorem dX1_allotmentsPaid_43 : decode cX1_allotmentsPaid 43 = .ok (.iload 5, 2) := by decide +kernel
theorem dX1_allotmentsPaid_45 : decode cX1_allotmentsPaid 45 = .ok (.iload_n 2, 1) := by decide +kernel
theorem dX1_allotmentsPaid_46 : decode cX1_allotmentsPaid 46 = .ok (.aload_n 3, 1) := by decide +kernel
theorem dX1_allotmentsPaid_47 : decode cX1_allotmentsPaid 47 = .ok (.invokevirtual 100, 3) := by decide +kernel
theorem dX1_allotmentsPaid_50 : decode cX1_allotmentsPaid 50 = .ok (.iconst 1, 1) := by decide +kernel
theorem dX1_allotmentsPaid_51 : decode cX1_allotmentsPaid 51 = .ok (.if_icmp .ne 12, 3) := by decide +kernel
theorem dX1_allotmentsPaid_54 : decode cX1_allotmentsPaid 54 = .ok (.iload 4, 2) := by decide +kernel
theorem dX1_allotmentsPaid_56 : decode cX1_allotmentsPaid 56 = .ok (.aload_n 0, 1) := by decide +kernel
theorem dX1_allotmentsPaid_57 : decode cX1_allotmentsPaid 57 = .ok (.getfield 133, 3) := by decide +kernel
theorem dX1_allotmentsPaid_60 : decode cX1_allotmentsPaid 60 = .ok (.iadd, 1) := by decide +kernel
theorem dX1_allotmentsPaid_61 : decode cX1_allotmentsPaid 61 = .ok (.istore 4, 2) := by decide +kernel
theorem dX1_allotmentsPaid_63 : decode cX1_allotmentsPaid 63 = .ok (.iinc 5 30, 3) := by decide +kernel
theorem dX1_allotmentsPaid_66 : decode cX1_allotmentsPaid 66 = .ok (.goto (-30), 3) := by decide +kernel
theorem dX1_allotmentsPaid_69 : decode cX1_allotmentsPaid 69 = .ok (.iload 4, 2) := by decide +kernel
theorem dX1_allotmentsPaid_71 : decode cX1_allotmentsPaid 71 = .ok (.ireturn, 1) := by decide +kernel
theorem dX1_shortPence_0 : decode cX1_shortPence 0 = .ok (.iconst 0, 1) := by decide +kernel
theorem dX1_shortPence_1 : decode cX1_shortPence 1 = .ok (.istore_n 2, 1) := by decide +kernel
theorem dX1_shortPence_2 : decode cX1_shortPence 2 = .ok (.iconst 0, 1) := by decide +kernel
theorem dX1_shortPence_3 : decode cX1_shortPence 3 = .ok (.istore_n 3, 1) := by decide +kernel
theorem dX1_shortPence_4 : decode cX1_shortPence 4 = .ok (.iload_n 3, 1) := by decide +kernel
theorem dX1_shortPence_5 : decode cX1_shortPence 5 = .ok (.aload_n 0, 1) := by decide +kernel
theorem dX1_shortPence_6 : decode cX1_shortPence 6 = .ok (.getfield 136, 3) := by decide +kernel
theorem dX1_shortPence_9 : decode cX1_shortPence 9 = .ok (.if_icmp .ge 28, 3) := by decide +kernel
theorem dX1_shortPence_12 : decode cX1_shortPence 12 = .ok (.aload_n 0, 1) := by decide +kernel
theorem dX1_shortPence_13 : decode cX1_shortPence 13 = .ok (.getfield 22, 3) := by decide +kernel
theorem dX1_shortPence_16 : decode cX1_shortPence 16 = .ok (.iload_n 3, 1) := by decide +kernel
theorem dX1_shortPence_17 : decode cX1_shortPence 17 = .ok (.iaload, 1) := by decide +kernel
theorem dX1_shortPence_18 : decode cX1_shortPence 18 = .ok (.iload_n 1, 1) := by decide +kernel
theorem dX1_shortPence_19 : decode cX1_shortPence 19 = .ok (.if_icmp .gt 12, 3) := by decide +kernel
theorem dX1_shortPence_22 : decode cX1_shortPence 22 = .ok (.iload_n 2, 1) := by decide +kernel
theorem dX1_shortPence_23 : decode cX1_shortPence 23 = .ok (.aload_n 0, 1) := by decide +kernel
theorem dX1_shortPence_24 : decode cX1_shortPence 24 = .ok (.getfield 26, 3) := by decide +kernel
theorem dX1_shortPence_27 : decode cX1_shortPence 27 = .ok (.iload_n 3, 1) := by decide +kernel
theorem dX1_shortPence_28 : decode cX1_shortPence 28 = .ok (.iaload, 1) := by decide +kernel
theorem dX1_shortPence_29 : decode cX1_shortPence 29 = .ok (.iadd, 1) := by decide +kernel
theorem dX1_shortPence_30 : decode cX1_shortPence 30 = .ok (.istore_n 2, 1) := by decide +kernel
theorem dX1_shortPence_31 : decode cX1_shortPence 31 = .ok (.iinc 3 1, 3) := by decide +kernel
theorem dX1_shortPence_34 : decode cX1_shortPence 34 = .ok (.goto (-30), 3) := by decide +kernel
theorem dX1_shortPence_37 : decode cX1_shortPence 37 = .ok (.iload_n 2, 1) := by decide +kernel
theorem dX1_shortPence_38 : decode cX1_shortPence 38 = .ok (.ireturn, 1) := by decide +kernel
theorem in_wsX1_nextChange_X1 : ∀ w ∈ wsX10, w ∈ wsX1_nextChange := fun w h => List.mem_cons_of_mem _ (List.mem_append_left _ (List.mem_append_left _ (List.mem_append_left _ (List.mem_append_left _ (List.mem_append_right _ h)))))
theorem in_wsX1_nextChange_X0 : ∀ w ∈ wsX00, w ∈ wsX1_nextChange := fun w h => List.mem_cons_of_mem _ (List.mem_append_left _ (List.mem_append_left _ (List.mem_append_left _ (List.mem_append_right _ h))))
theorem in_wsX1_nextChange_X3 : ∀ w ∈ wsX30, w ∈ wsX1_nextChange := fun w h => List.mem_cons_of_mem _ (List.mem_append_left _ (List.mem_append_left _ (List.mem_append_right _ h)))
theorem in_wsX1_daysIn_X1 : ∀ w ∈ wsX10, w ∈ wsX1_daysIn := fun w h => List.mem_cons_of_mem _ (List.mem_append_left _ (List.mem_append_left _ (List.mem_append_left _ (List.mem_append_left _ (List.mem_append_right _ h)))))
theorem in_wsX1_earningDays_X1 : ∀ w ∈ wsX10, w ∈ wsX1_earningDays := fun w h => List.mem_cons_of_mem _ (List.mem_append_left _ (List.mem_append_left _ (List.mem_append_left _ (List.mem_append_left _ (List.mem_append_right _ h)))))
theorem in_wsX1_notePaid_X1 : ∀ w ∈ wsX10, w ∈ wsX1_notePaid := fun w h => List.mem_cons_of_mem _ (List.mem_append_left _ (List.mem_append_left _ (List.mem_append_left _ (List.mem_append_left _ (List.mem_append_right _ h)))))
theorem in_wsX1_notePaid_X9 : ∀ w ∈ wsX90, w ∈ wsX1_notePaid := fun w h => List.mem_cons_of_mem _ (List.mem_append_left _ (List.mem_append_left _ (List.mem_append_left _ (List.mem_append_right _ h))))
theorem in_wsX1_allotmentsPaid_X1 : ∀ w ∈ wsX10, w ∈ wsX1_allotmentsPaid := fun w h => List.mem_cons_of_mem _ (List.mem_append_left _ (List.mem_append_left _ (List.mem_append_left _ (List.mem_append_left _ (List.mem_append_right _ h)))))
theorem in_wsX1_allotmentsPaid_X9 : ∀ w ∈ wsX90, w ∈ wsX1_allotmentsPaid := fun w h => List.mem_cons_of_mem _ (List.mem_append_left _ (List.mem_append_left _ (List.mem_append_left _ (List.mem_append_right _ h))))
theorem in_wsX1_shortPence_X1 : ∀ w ∈ wsX10, w ∈ wsX1_shortPence := fun w h => List.mem_cons_of_mem _ (List.mem_append_right _ h)

set_option maxHeartbeats 4000000 in
set_option maxRecDepth 100000 in
theorem c_X1_nextChange (l : Launch) (dC : Nat → ClassId) (dI : Nat → Nat → Nat) (sz : Nat) (cq : Nat → ClassId) (Z : oS) (gI : oInv Z) (o : Nat) (to : oty Z o 1) (x1 : Int32) (x2 : Int32) (a3 : Nat) (ta3 : oty Z a3 5) : Met l yX1_nextChange wsX1_nextChange ({ frames := 1, cells := 0, slots := 0, locals := 25 }) (va_Pc [.ref o, .int x1, .int x2, .ref a3] (pcW (dC, dI) (oT cq) (oW cq Z) sz)) (va_Qi (fun (r : Int32) (u : Unit) => True) (fun _ _ => True) (va_A [] sz)) 0 0 (va_A [] sz) := by
  refine Met.ofW (cc := cX1_nextChange) (maxL := 6) (ret := (some .int)) (by decide +kernel) rfl ?_
  intro p e s m args below meth c s₁ B hml hv
  obtain ⟨rfl, hsz, hP, hK, hD0⟩ := hv
  have hx := B.exec
  have hb := B.bytes
  have hr := B.returns
  have hts := atoms_spec (ws := wsX1_nextChange) B.pre
  have hown : s.vm.findClass RX1 = some m.cls := findClass_of_methodNamed B.named
  have hlocks := B.notSynchronized
  subst hsz
  have hD := hD0
  generalize hAe : va_A [] s.heap.size = A at ⊢
  have hA : ∀ q : Nat, s.heap.size ≤ q → A q := fun q h => by rw [← hAe]; exact Or.inr h
  have hS : va_S A s.heap s.heap [] := va_S.rf
  have hP : va_P (dC, dI) vwCl (oW cq Z) s.heap := hP
  have hl := lv_entry ([.ref o, .int x1, .int x2, .ref a3]) (n := 6) (Nat.le_of_ble_eq_true rfl)
  rw [lg_entry_eq]
  generalize (lg_sl ([.ref o, .int x1, .int x2, .ref a3]) ++ List.replicate (6 - (lg_sl ([.ref o, .int x1, .int x2, .ref a3])).length) Slot.unset).toArray = ls at hl ⊢
  have hl : lv_has ls 6 [(0, .ref o), (1, .int x1), (2, .int x2), (3, .ref a3)] := hl
  refine lv_iload_n hx hb dX1_nextChange_0 rfl (lv_at hl 1 rfl) ?_
  refine lv_aload_n hx hb dX1_nextChange_1 rfl (lv_at hl 0 rfl) ?_
  obtain ⟨q_1, hq_1⟩ := og (cq := cq) to.1 (oE_1 to.2)
  refine va_get (D := (dC, dI)) (ci := 1) (v := .int (oI Z o 6)) (C := RX1) (T := TX1) (N := 18) hx hb hts in_wsX1_nextChange_X1 hown hK hP q_1 hq_1 rfl 6 (by decide +kernel) (hts (.fieldLink RX1 10 "ShipOffice$Agreement" "offDay" "I") iw_X1_nextChange_1) (fun _ h9 => h9) rfl dX1_nextChange_2 ?_
  refine lv_topi (fun x_2 ex_2 => ?_)
  have gx_2 : x_2.toInt = (oI Z o 6).toInt := iv_to ex_2
  clear ex_2
  refine lv_ldc (v := 1000000) hx hb hown (hts (.constant RX1 9 (1000000)) (by decide +kernel)) dX1_nextChange_5 ?_
  have hFc : ∀ q, va_A [] s.heap.size q → A q := pu_free hS hA
  have hPc := hP.sub (ws' := []) [] rfl
  have hDc := hD.sub (ws' := []) [] (by decide +kernel) rfl
  have hKc := hK.sub (tys' := []) [] rfl
  refine va_calli (va_runS (As := [.int x1, .int x_2, .int 1000000]) (rest := []) ⟨hx, hb, hml, hown, hts⟩ (c_X1_nearer l dC dI s.heap.size  x1 x_2 1000000) (va_cwS 3 hts gX1_nextChange_X1_nearer rfl rfl rfl (by decide +kernel) ⟨(Nat.le_of_ble_eq_true rfl), (Nat.le_of_ble_eq_true rfl)⟩) (pr_S hPc hKc hDc) rfl rfl hl.1 rfl (lv_room (Nat.le_of_ble_eq_true rfl)) dX1_nextChange_7 ⟨(Nat.le_of_ble_eq_true rfl), (Nat.le_of_ble_eq_true rfl)⟩) hS (fun q _ h => hFc q h) hFc (fun r_4 u t H locs ht hvm w_3 hB hz1 hk1 hS => ?_)
  have hP := pu_keep hP hk1
  clear hk1 hz1 hvm hB ht hFc hPc hDc hKc
  refine lv_istore (lv' := [(4, .int r_4), (0, .ref o), (1, .int x1), (2, .int x2), (3, .ref a3)]) hx hb dX1_nextChange_10 hl (by decide +kernel) rfl (fun ls hl => ?_)
  refine lv_iload_n hx hb dX1_nextChange_12 rfl (lv_at hl 2 rfl) ?_
  refine lv_aload_n hx hb dX1_nextChange_13 rfl (lv_at hl 1 rfl) ?_
  obtain ⟨b_5, hb_5⟩ := oInv.nn (i := 1) gI to rfl
  refine va_get (D := (dC, dI)) (ci := 1) (v := .ref b_5) (C := RX1) (T := TX1) (N := 18) hx hb hts in_wsX1_nextChange_X1 hown hK hP q_1 hq_1 rfl 1 (by decide +kernel) (hts (.fieldLink RX1 33 "ShipOffice$Agreement" "voyage" "LShipOffice$Voyage;") iw_X1_nextChange_2) (fun _ h9 => h9) (o_rd hb_5) dX1_nextChange_14 ?_
  have tb_5 : oty Z b_5 9 := oInv.rd gI to.2 hb_5 rfl rfl
  refine lv_iload_n hx hb dX1_nextChange_17 rfl (lv_at hl 2 rfl) ?_
  refine lv_iload_n hx hb dX1_nextChange_18 rfl (lv_at hl 3 rfl) ?_
  have hFc : ∀ q, va_A [] H.size q → A q := pu_free hS hA
  obtain ⟨q_6, hq_6⟩ := og (cq := cq) tb_5.1 (oE_9 tb_5.2)
  refine va_calli (va_runV (As := [.int x1, .int x2]) (rest := [.int x1]) ⟨hx, hb, hml, hown, hts⟩ (c_X9_nextTold l dC dI H.size cq Z gI b_5 tb_5 x1 x2) (cwV 2 hts gX1_nextChange_X9_nextTold rfl rfl rfl (by decide +kernel) ⟨(Nat.le_of_ble_eq_true rfl), (Nat.le_of_ble_eq_true rfl)⟩) (pr_V (r := (RX9, TX9, 10)) hP hK hD q_6 9 rfl hq_6) rfl rfl hl.1 rfl (lv_room (Nat.le_of_ble_eq_true rfl)) dX1_nextChange_19 ⟨(Nat.le_of_ble_eq_true rfl), (Nat.le_of_ble_eq_true rfl)⟩) hS (fun q _ h => hFc q h) hFc (fun r_8 u t H locs ht hvm w_7 hB hz1 hk1 hS => ?_)
  have hP := pu_keep hP hk1
  clear hk1 hz1 hvm hB ht hFc
  refine lv_iload hx hb dX1_nextChange_22 (lv_at hl 0 rfl) ?_
  have hFc : ∀ q, va_A [] H.size q → A q := pu_free hS hA
  have hPc := hP.sub (ws' := []) [] rfl
  have hDc := hD.sub (ws' := []) [] (by decide +kernel) rfl
  have hKc := hK.sub (tys' := []) [] rfl
  refine va_calli (va_runS (As := [.int x1, .int r_8, .int r_4]) (rest := []) ⟨hx, hb, hml, hown, hts⟩ (c_X1_nearer l dC dI H.size  x1 r_8 r_4) (va_cwS 3 hts gX1_nextChange_X1_nearer rfl rfl rfl (by decide +kernel) ⟨(Nat.le_of_ble_eq_true rfl), (Nat.le_of_ble_eq_true rfl)⟩) (pr_S hPc hKc hDc) rfl rfl hl.1 rfl (lv_room (Nat.le_of_ble_eq_true rfl)) dX1_nextChange_24 ⟨(Nat.le_of_ble_eq_true rfl), (Nat.le_of_ble_eq_true rfl)⟩) hS (fun q _ h => hFc q h) hFc (fun r_10 u t H locs ht hvm w_9 hB hz1 hk1 hS => ?_)
  have hP := pu_keep hP hk1
  clear hk1 hz1 hvm hB ht hFc hPc hDc hKc
  refine lv_istore (lv' := [(4, .int r_10), (0, .ref o), (1, .int x1), (2, .int x2), (3, .ref a3)]) hx hb dX1_nextChange_27 hl (by decide +kernel) rfl (fun ls hl => ?_)
  refine lv_iload_n hx hb dX1_nextChange_29 rfl (lv_at hl 2 rfl) ?_
  refine lv_aload_n hx hb dX1_nextChange_30 rfl (lv_at hl 4 rfl) ?_
  refine lv_iload_n hx hb dX1_nextChange_31 rfl (lv_at hl 2 rfl) ?_
  have hFc : ∀ q, va_A [] H.size q → A q := pu_free hS hA
  obtain ⟨q_11, hq_11⟩ := og (cq := cq) ta3.1 (oE_5 ta3.2)
  refine va_calli (va_runV (As := [.int x1]) (rest := [.int x1]) ⟨hx, hb, hml, hown, hts⟩ (c_X5_nextPresume l dC dI H.size cq Z gI a3 ta3 x1) (cwV 1 hts gX1_nextChange_X5_nextPresume rfl rfl rfl (by decide +kernel) ⟨(Nat.le_of_ble_eq_true rfl), (Nat.le_of_ble_eq_true rfl)⟩) (pr_V (r := (RX5, TX5, 3)) hP hK hD q_11 5 rfl hq_11) rfl rfl hl.1 rfl (lv_room (Nat.le_of_ble_eq_true rfl)) dX1_nextChange_32 ⟨(Nat.le_of_ble_eq_true rfl), (Nat.le_of_ble_eq_true rfl)⟩) hS (fun q _ h => hFc q h) hFc (fun r_13 u t H locs ht hvm w_12 hB hz1 hk1 hS => ?_)
  have hP := pu_keep hP hk1
  clear hk1 hz1 hvm hB ht hFc
  refine lv_iload hx hb dX1_nextChange_35 (lv_at hl 0 rfl) ?_
  have hFc : ∀ q, va_A [] H.size q → A q := pu_free hS hA
  have hPc := hP.sub (ws' := []) [] rfl
  have hDc := hD.sub (ws' := []) [] (by decide +kernel) rfl
  have hKc := hK.sub (tys' := []) [] rfl
  refine va_calli (va_runS (As := [.int x1, .int r_13, .int r_10]) (rest := []) ⟨hx, hb, hml, hown, hts⟩ (c_X1_nearer l dC dI H.size  x1 r_13 r_10) (va_cwS 3 hts gX1_nextChange_X1_nearer rfl rfl rfl (by decide +kernel) ⟨(Nat.le_of_ble_eq_true rfl), (Nat.le_of_ble_eq_true rfl)⟩) (pr_S hPc hKc hDc) rfl rfl hl.1 rfl (lv_room (Nat.le_of_ble_eq_true rfl)) dX1_nextChange_37 ⟨(Nat.le_of_ble_eq_true rfl), (Nat.le_of_ble_eq_true rfl)⟩) hS (fun q _ h => hFc q h) hFc (fun r_15 u t H locs ht hvm w_14 hB hz1 hk1 hS => ?_)
  have hP := pu_keep hP hk1
  clear hk1 hz1 hvm hB ht hFc hPc hDc hKc
  refine lv_istore (lv' := [(4, .int r_15), (0, .ref o), (1, .int x1), (2, .int x2), (3, .ref a3)]) hx hb dX1_nextChange_40 hl (by decide +kernel) rfl (fun ls hl => ?_)
  refine lv_iload_n hx hb dX1_nextChange_42 rfl (lv_at hl 2 rfl) ?_
  refine lv_aload_n hx hb dX1_nextChange_43 rfl (lv_at hl 1 rfl) ?_
  refine va_get (D := (dC, dI)) (ci := 1) (v := .ref b_5) (C := RX1) (T := TX1) (N := 18) hx hb hts in_wsX1_nextChange_X1 hown hK hP q_1 hq_1 rfl 1 (by decide +kernel) (hts (.fieldLink RX1 33 "ShipOffice$Agreement" "voyage" "LShipOffice$Voyage;") iw_X1_nextChange_2) (fun _ h9 => h9) (o_rd hb_5) dX1_nextChange_44 ?_
  refine lv_iload_n hx hb dX1_nextChange_47 rfl (lv_at hl 2 rfl) ?_
  refine lv_iload_n hx hb dX1_nextChange_48 rfl (lv_at hl 3 rfl) ?_
  have hFc : ∀ q, va_A [] H.size q → A q := pu_free hS hA
  refine va_calli (va_runV (As := [.int x1, .int x2]) (rest := [.int x1]) ⟨hx, hb, hml, hown, hts⟩ (c_X9_lastHeard l dC dI H.size cq Z gI b_5 tb_5 x1 x2) (cwV 2 hts gX1_nextChange_X9_lastHeard rfl rfl rfl (by decide +kernel) ⟨(Nat.le_of_ble_eq_true rfl), (Nat.le_of_ble_eq_true rfl)⟩) (pr_V (r := (RX9, TX9, 10)) hP hK hD q_6 9 rfl hq_6) rfl rfl hl.1 rfl (lv_room (Nat.le_of_ble_eq_true rfl)) dX1_nextChange_49 ⟨(Nat.le_of_ble_eq_true rfl), (Nat.le_of_ble_eq_true rfl)⟩) hS (fun q _ h => hFc q h) hFc (fun r_17 u t H locs ht hvm w_16 hB hz1 hk1 hS => ?_)
  have hP := pu_keep hP hk1
  clear hk1 hz1 hvm hB ht hFc
  refine lv_aload_n hx hb dX1_nextChange_52 rfl (lv_at hl 4 rfl) ?_
  refine lv_iconst (v := 4) hx hb dX1_nextChange_53 (by decide +kernel) ?_
  refine lv_iload_n hx hb dX1_nextChange_54 rfl (lv_at hl 2 rfl) ?_
  have hFc : ∀ q, va_A [] H.size q → A q := pu_free hS hA
  refine va_callq (va_runV (As := [.int 4, .int x1]) (rest := [.int r_17, .int x1]) ⟨hx, hb, hml, hown, hts⟩ (c_X5_inForce l dC dI H.size cq Z gI a3 ta3 4 (by decide +kernel) x1) (cwV 2 hts gX1_nextChange_X5_inForce rfl rfl rfl (by decide +kernel) ⟨(Nat.le_of_ble_eq_true rfl), (Nat.le_of_ble_eq_true rfl)⟩) (pr_V (r := (RX5, TX5, 3)) hP hK hD q_11 5 rfl hq_11) rfl rfl hl.1 rfl (lv_room (Nat.le_of_ble_eq_true rfl)) dX1_nextChange_55 ⟨(Nat.le_of_ble_eq_true rfl), (Nat.le_of_ble_eq_true rfl)⟩) hS (fun q _ h => hFc q h) hFc (fun r_19 u t H locs ht hvm w_18 hB hz1 hk1 hS => ?_)
  have hP := pu_keep hP hk1
  clear hk1 hz1 hvm hB ht hFc
  have hk_20 := w_18
  obtain ⟨b_21, rfl, tb_21⟩ := hk_20
  refine W.eq (g2 := F0 m 58 ls [.ref b_21, .int r_17, .int x1]) rfl ?_
  obtain ⟨q_22, hq_22⟩ := og (cq := cq) tb_21.1 (oE_0 tb_21.2)
  refine va_get (D := (dC, dI)) (ci := 0) (v := .int (oI Z b_21 2)) (C := RX0) (T := TX0) (N := 5) hx hb hts in_wsX1_nextChange_X0 hown hK hP q_22 hq_22 rfl 2 (by decide +kernel) (hts (.fieldLink RX1 82 "ShipOffice$Act" "plainWorth" "I") iw_X1_nextChange_3) (fun _ h9 => h9) rfl dX1_nextChange_58 ?_
  refine lv_topi (fun x_23 ex_23 => ?_)
  clear ex_23
  refine lv_iadd hx hb dX1_nextChange_61 ?_
  refine lv_topi (fun x_24 ex_24 => ?_)
  clear ex_24
  refine lv_iconst (v := 1) hx hb dX1_nextChange_62 (by decide +kernel) ?_
  refine lv_iadd hx hb dX1_nextChange_63 ?_
  refine lv_topi (fun x_25 ex_25 => ?_)
  clear ex_25
  refine lv_iload hx hb dX1_nextChange_64 (lv_at hl 0 rfl) ?_
  have hFc : ∀ q, va_A [] H.size q → A q := pu_free hS hA
  have hPc := hP.sub (ws' := []) [] rfl
  have hDc := hD.sub (ws' := []) [] (by decide +kernel) rfl
  have hKc := hK.sub (tys' := []) [] rfl
  refine va_calli (va_runS (As := [.int x1, .int x_25, .int r_15]) (rest := []) ⟨hx, hb, hml, hown, hts⟩ (c_X1_nearer l dC dI H.size  x1 x_25 r_15) (va_cwS 3 hts gX1_nextChange_X1_nearer rfl rfl rfl (by decide +kernel) ⟨(Nat.le_of_ble_eq_true rfl), (Nat.le_of_ble_eq_true rfl)⟩) (pr_S hPc hKc hDc) rfl rfl hl.1 rfl (lv_room (Nat.le_of_ble_eq_true rfl)) dX1_nextChange_66 ⟨(Nat.le_of_ble_eq_true rfl), (Nat.le_of_ble_eq_true rfl)⟩) hS (fun q _ h => hFc q h) hFc (fun r_27 u t H locs ht hvm w_26 hB hz1 hk1 hS => ?_)
  have hP := pu_keep hP hk1
  clear hk1 hz1 hvm hB ht hFc hPc hDc hKc
  refine lv_istore (lv' := [(4, .int r_27), (0, .ref o), (1, .int x1), (2, .int x2), (3, .ref a3)]) hx hb dX1_nextChange_69 hl (by decide +kernel) rfl (fun ls hl => ?_)
  refine lv_aload_n hx hb dX1_nextChange_71 rfl (lv_at hl 1 rfl) ?_
  rcases hb_29 : oP Z o 8 with _ | b_28
  · refine va_get (D := (dC, dI)) (ci := 1) (v := .null) (C := RX1) (T := TX1) (N := 18) hx hb hts in_wsX1_nextChange_X1 hown hK hP q_1 hq_1 rfl 8 (by decide +kernel) (hts (.fieldLink RX1 87 "ShipOffice$Agreement" "tidings" "LShipOffice$Happening;") iw_X1_nextChange_4) (fun _ h9 => h9) (o_rd hb_29) dX1_nextChange_72 ?_
    refine lv_astoreN (lv' := [(5, .null), (4, .int r_27), (0, .ref o), (1, .int x1), (2, .int x2), (3, .ref a3)]) hx hb dX1_nextChange_75 hl (by decide +kernel) rfl (fun ls hl => ?_)
    have cut_30 : ∀ (n : Nat) (y_31 : Option Nat) (y_32 : Int32) (H : Heap) (locs : List Loc) (ls : Array Slot), (oR Z y_31 : Int) ≤ (n : Int) → (∀ b, y_31 = some b → oty Z b 3) → va_P (dC, dI) vwCl (oW cq Z) H → va_S A s.heap H locs → lv_has ls 6 [(5, va_rf y_31), (4, .int y_32), (0, .ref o), (1, .int x1), (2, .int x2), (3, .ref a3)] → W p l e (headSpec wsX1_nextChange { frames := 1, cells := 0, slots := 0, locals := 25 }).room s m #[Value.ref o, Value.int x1, Value.int x2, Value.ref a3] below meth c H locs 0 0 (MQ below (va_Qi (fun (r : Int32) (u : Unit) => True) (fun _ _ => True) A) #[Value.ref o, Value.int x1, Value.int x2, Value.ref a3] s 0 0 A) (F0 m 77 ls []) := by
      intro n
      induction n using Nat.strongRecOn with
      | ind n ih =>
        intro y_31 y_32 H locs ls hm ty_31 hP hS hl
        rcases y_31 with _ | b_33
        · have hl : lv_has ls 6 [(5, .null), (4, .int y_32), (0, .ref o), (1, .int x1), (2, .int x2), (3, .ref a3)] := hl
          refine lv_aloadN hx hb dX1_nextChange_77 (lv_at hl 0 rfl) ?_
          refine lv_ifnullN (tgt := 114) hx hb dX1_nextChange_79 (by decide +kernel) ?_
          refine lv_iload hx hb dX1_nextChange_114 (lv_at hl 1 rfl) ?_
          exact W.iret (v := y_32) hx hb hr (fun t ht hW => ⟨⟨y_32, (), rfl, trivial, trivial⟩, hS.F ht⟩) hS.2.2 dX1_nextChange_116
        · have hl : lv_has ls 6 [(5, .ref b_33), (4, .int y_32), (0, .ref o), (1, .int x1), (2, .int x2), (3, .ref a3)] := hl
          have tb_33 : oty Z b_33 3 := ty_31 b_33 rfl
          have rb_33 : oR Z (some b_33) = oG Z b_33 + 1 := rfl
          refine lv_aload hx hb dX1_nextChange_77 (lv_at hl 0 rfl) ?_
          refine lv_ifnull hx hb dX1_nextChange_79 ?_
          refine lv_aload hx hb dX1_nextChange_82 (lv_at hl 0 rfl) ?_
          obtain ⟨q_34, hq_34⟩ := og (cq := cq) tb_33.1 (oE_3 tb_33.2)
          refine va_get (D := (dC, dI)) (ci := 3) (v := .int (oI Z b_33 2)) (C := RX3) (T := TX3) (N := 6) hx hb hts in_wsX1_nextChange_X3 hown hK hP q_34 hq_34 rfl 2 (by decide +kernel) (hts (.fieldLink RX1 91 "ShipOffice$Happening" "told" "I") iw_X1_nextChange_5) (fun _ h9 => h9) rfl dX1_nextChange_84 ?_
          refine lv_topi (fun x_35 ex_35 => ?_)
          clear ex_35
          refine lv_iload_n hx hb dX1_nextChange_87 rfl (lv_at hl 4 rfl) ?_
          refine lv_icmp_gt (tgt := 104) hx hb dX1_nextChange_88 (by decide +kernel) (fun c_36 => ?_) (fun c_36 => ?_)
          · have dc_36 := c_lt (a := x2.toInt) (b := x_35.toInt) rfl rfl c_36
            refine lv_aload hx hb dX1_nextChange_104 (lv_at hl 0 rfl) ?_
            rcases hb_38 : oP Z b_33 5 with _ | b_37
            · refine va_get (D := (dC, dI)) (ci := 3) (v := .null) (C := RX3) (T := TX3) (N := 6) hx hb hts in_wsX1_nextChange_X3 hown hK hP q_34 hq_34 rfl 5 (by decide +kernel) (hts (.fieldLink RX1 97 "ShipOffice$Happening" "before" "LShipOffice$Happening;") iw_X1_nextChange_6) (fun _ h9 => h9) (o_rd hb_38) dX1_nextChange_106 ?_
              have r_39 : oR Z none = 0 := rfl
              refine lv_astoreN (lv' := [(5, .null), (4, .int y_32), (0, .ref o), (1, .int x1), (2, .int x2), (3, .ref a3)]) hx hb dX1_nextChange_109 hl (by decide +kernel) rfl (fun ls hl => ?_)
              refine lv_goto (tgt := 77) hx hb dX1_nextChange_111 (by decide +kernel) ?_
              exact ih (n - 1) (by omega) none y_32 _ _ ls (by omega) (fun b h => by cases h) hP hS (lv_sub hl [0, 1, 2, 3, 4, 5] rfl)
            · refine va_get (D := (dC, dI)) (ci := 3) (v := .ref b_37) (C := RX3) (T := TX3) (N := 6) hx hb hts in_wsX1_nextChange_X3 hown hK hP q_34 hq_34 rfl 5 (by decide +kernel) (hts (.fieldLink RX1 97 "ShipOffice$Happening" "before" "LShipOffice$Happening;") iw_X1_nextChange_6) (fun _ h9 => h9) (o_rd hb_38) dX1_nextChange_106 ?_
              have tb_37 : oty Z b_37 3 := oInv.rd gI tb_33.2 hb_38 rfl rfl
              have hGb_37 : oG Z b_37 < oG Z b_33 := gI.2.2.2.2.2.1 b_33 b_37 tb_33.2 hb_38
              have rb_37 : oR Z (some b_37) = oG Z b_37 + 1 := rfl
              refine lv_astore (lv' := [(5, .ref b_37), (4, .int y_32), (0, .ref o), (1, .int x1), (2, .int x2), (3, .ref a3)]) hx hb dX1_nextChange_109 hl (by decide +kernel) rfl (fun ls hl => ?_)
              refine lv_goto (tgt := 77) hx hb dX1_nextChange_111 (by decide +kernel) ?_
              exact ih (n - 1) (by omega) (some b_37) y_32 _ _ ls (by omega) (fun b h => by cases h; exact tb_37) hP hS (lv_sub hl [0, 1, 2, 3, 4, 5] rfl)
          · have dc_36 := c_nlt (a := x2.toInt) (b := x_35.toInt) rfl rfl c_36
            refine lv_iload_n hx hb dX1_nextChange_91 rfl (lv_at hl 3 rfl) ?_
            refine lv_aload hx hb dX1_nextChange_92 (lv_at hl 0 rfl) ?_
            refine va_get (D := (dC, dI)) (ci := 3) (v := .int (oI Z b_33 1)) (C := RX3) (T := TX3) (N := 6) hx hb hts in_wsX1_nextChange_X3 hown hK hP q_34 hq_34 rfl 1 (by decide +kernel) (hts (.fieldLink RX1 94 "ShipOffice$Happening" "day" "I") iw_X1_nextChange_7) (fun _ h9 => h9) rfl dX1_nextChange_94 ?_
            refine lv_topi (fun x_40 ex_40 => ?_)
            clear ex_40
            refine lv_iload hx hb dX1_nextChange_97 (lv_at hl 1 rfl) ?_
            have hFc : ∀ q, va_A [] H.size q → A q := pu_free hS hA
            have hPc := hP.sub (ws' := []) [] rfl
            have hDc := hD.sub (ws' := []) [] (by decide +kernel) rfl
            have hKc := hK.sub (tys' := []) [] rfl
            refine va_calli (va_runS (As := [.int x1, .int x_40, .int y_32]) (rest := []) ⟨hx, hb, hml, hown, hts⟩ (c_X1_nearer l dC dI H.size  x1 x_40 y_32) (va_cwS 3 hts gX1_nextChange_X1_nearer rfl rfl rfl (by decide +kernel) ⟨(Nat.le_of_ble_eq_true rfl), (Nat.le_of_ble_eq_true rfl)⟩) (pr_S hPc hKc hDc) rfl rfl hl.1 rfl (lv_room (Nat.le_of_ble_eq_true rfl)) dX1_nextChange_99 ⟨(Nat.le_of_ble_eq_true rfl), (Nat.le_of_ble_eq_true rfl)⟩) hS (fun q _ h => hFc q h) hFc (fun r_42 u t H locs ht hvm w_41 hB hz1 hk1 hS => ?_)
            have hP := pu_keep hP hk1
            clear hk1 hz1 hvm hB ht hFc hPc hDc hKc
            refine lv_istore (lv' := [(4, .int r_42), (5, .ref b_33), (0, .ref o), (1, .int x1), (2, .int x2), (3, .ref a3)]) hx hb dX1_nextChange_102 hl (by decide +kernel) rfl (fun ls hl => ?_)
            refine lv_aload hx hb dX1_nextChange_104 (lv_at hl 1 rfl) ?_
            rcases hb_44 : oP Z b_33 5 with _ | b_43
            · refine va_get (D := (dC, dI)) (ci := 3) (v := .null) (C := RX3) (T := TX3) (N := 6) hx hb hts in_wsX1_nextChange_X3 hown hK hP q_34 hq_34 rfl 5 (by decide +kernel) (hts (.fieldLink RX1 97 "ShipOffice$Happening" "before" "LShipOffice$Happening;") iw_X1_nextChange_6) (fun _ h9 => h9) (o_rd hb_44) dX1_nextChange_106 ?_
              have r_45 : oR Z none = 0 := rfl
              refine lv_astoreN (lv' := [(5, .null), (4, .int r_42), (0, .ref o), (1, .int x1), (2, .int x2), (3, .ref a3)]) hx hb dX1_nextChange_109 hl (by decide +kernel) rfl (fun ls hl => ?_)
              refine lv_goto (tgt := 77) hx hb dX1_nextChange_111 (by decide +kernel) ?_
              exact ih (n - 1) (by omega) none r_42 _ _ ls (by omega) (fun b h => by cases h) hP hS (lv_sub hl [0, 1, 2, 3, 4, 5] rfl)
            · refine va_get (D := (dC, dI)) (ci := 3) (v := .ref b_43) (C := RX3) (T := TX3) (N := 6) hx hb hts in_wsX1_nextChange_X3 hown hK hP q_34 hq_34 rfl 5 (by decide +kernel) (hts (.fieldLink RX1 97 "ShipOffice$Happening" "before" "LShipOffice$Happening;") iw_X1_nextChange_6) (fun _ h9 => h9) (o_rd hb_44) dX1_nextChange_106 ?_
              have tb_43 : oty Z b_43 3 := oInv.rd gI tb_33.2 hb_44 rfl rfl
              have hGb_43 : oG Z b_43 < oG Z b_33 := gI.2.2.2.2.2.1 b_33 b_43 tb_33.2 hb_44
              have rb_43 : oR Z (some b_43) = oG Z b_43 + 1 := rfl
              refine lv_astore (lv' := [(5, .ref b_43), (4, .int r_42), (0, .ref o), (1, .int x1), (2, .int x2), (3, .ref a3)]) hx hb dX1_nextChange_109 hl (by decide +kernel) rfl (fun ls hl => ?_)
              refine lv_goto (tgt := 77) hx hb dX1_nextChange_111 (by decide +kernel) ?_
              exact ih (n - 1) (by omega) (some b_43) r_42 _ _ ls (by omega) (fun b h => by cases h; exact tb_43) hP hS (lv_sub hl [0, 1, 2, 3, 4, 5] rfl)
    exact cut_30 (oR Z none) none r_27 _ _ ls (by omega) (fun b h => by cases h) hP hS (lv_sub hl [0, 1, 2, 3, 4, 5] rfl)
  · refine va_get (D := (dC, dI)) (ci := 1) (v := .ref b_28) (C := RX1) (T := TX1) (N := 18) hx hb hts in_wsX1_nextChange_X1 hown hK hP q_1 hq_1 rfl 8 (by decide +kernel) (hts (.fieldLink RX1 87 "ShipOffice$Agreement" "tidings" "LShipOffice$Happening;") iw_X1_nextChange_4) (fun _ h9 => h9) (o_rd hb_29) dX1_nextChange_72 ?_
    have tb_28 : oty Z b_28 3 := oInv.rd gI to.2 hb_29 rfl rfl
    refine lv_astore (lv' := [(5, .ref b_28), (4, .int r_27), (0, .ref o), (1, .int x1), (2, .int x2), (3, .ref a3)]) hx hb dX1_nextChange_75 hl (by decide +kernel) rfl (fun ls hl => ?_)
    have cut_46 : ∀ (n : Nat) (y_47 : Option Nat) (y_48 : Int32) (H : Heap) (locs : List Loc) (ls : Array Slot), (oR Z y_47 : Int) ≤ (n : Int) → (∀ b, y_47 = some b → oty Z b 3) → va_P (dC, dI) vwCl (oW cq Z) H → va_S A s.heap H locs → lv_has ls 6 [(5, va_rf y_47), (4, .int y_48), (0, .ref o), (1, .int x1), (2, .int x2), (3, .ref a3)] → W p l e (headSpec wsX1_nextChange { frames := 1, cells := 0, slots := 0, locals := 25 }).room s m #[Value.ref o, Value.int x1, Value.int x2, Value.ref a3] below meth c H locs 0 0 (MQ below (va_Qi (fun (r : Int32) (u : Unit) => True) (fun _ _ => True) A) #[Value.ref o, Value.int x1, Value.int x2, Value.ref a3] s 0 0 A) (F0 m 77 ls []) := by
      intro n
      induction n using Nat.strongRecOn with
      | ind n ih =>
        intro y_47 y_48 H locs ls hm ty_47 hP hS hl
        rcases y_47 with _ | b_49
        · have hl : lv_has ls 6 [(5, .null), (4, .int y_48), (0, .ref o), (1, .int x1), (2, .int x2), (3, .ref a3)] := hl
          refine lv_aloadN hx hb dX1_nextChange_77 (lv_at hl 0 rfl) ?_
          refine lv_ifnullN (tgt := 114) hx hb dX1_nextChange_79 (by decide +kernel) ?_
          refine lv_iload hx hb dX1_nextChange_114 (lv_at hl 1 rfl) ?_
          exact W.iret (v := y_48) hx hb hr (fun t ht hW => ⟨⟨y_48, (), rfl, trivial, trivial⟩, hS.F ht⟩) hS.2.2 dX1_nextChange_116
        · have hl : lv_has ls 6 [(5, .ref b_49), (4, .int y_48), (0, .ref o), (1, .int x1), (2, .int x2), (3, .ref a3)] := hl
          have tb_49 : oty Z b_49 3 := ty_47 b_49 rfl
          have rb_49 : oR Z (some b_49) = oG Z b_49 + 1 := rfl
          refine lv_aload hx hb dX1_nextChange_77 (lv_at hl 0 rfl) ?_
          refine lv_ifnull hx hb dX1_nextChange_79 ?_
          refine lv_aload hx hb dX1_nextChange_82 (lv_at hl 0 rfl) ?_
          obtain ⟨q_50, hq_50⟩ := og (cq := cq) tb_49.1 (oE_3 tb_49.2)
          refine va_get (D := (dC, dI)) (ci := 3) (v := .int (oI Z b_49 2)) (C := RX3) (T := TX3) (N := 6) hx hb hts in_wsX1_nextChange_X3 hown hK hP q_50 hq_50 rfl 2 (by decide +kernel) (hts (.fieldLink RX1 91 "ShipOffice$Happening" "told" "I") iw_X1_nextChange_5) (fun _ h9 => h9) rfl dX1_nextChange_84 ?_
          refine lv_topi (fun x_51 ex_51 => ?_)
          clear ex_51
          refine lv_iload_n hx hb dX1_nextChange_87 rfl (lv_at hl 4 rfl) ?_
          refine lv_icmp_gt (tgt := 104) hx hb dX1_nextChange_88 (by decide +kernel) (fun c_52 => ?_) (fun c_52 => ?_)
          · have dc_52 := c_lt (a := x2.toInt) (b := x_51.toInt) rfl rfl c_52
            refine lv_aload hx hb dX1_nextChange_104 (lv_at hl 0 rfl) ?_
            rcases hb_54 : oP Z b_49 5 with _ | b_53
            · refine va_get (D := (dC, dI)) (ci := 3) (v := .null) (C := RX3) (T := TX3) (N := 6) hx hb hts in_wsX1_nextChange_X3 hown hK hP q_50 hq_50 rfl 5 (by decide +kernel) (hts (.fieldLink RX1 97 "ShipOffice$Happening" "before" "LShipOffice$Happening;") iw_X1_nextChange_6) (fun _ h9 => h9) (o_rd hb_54) dX1_nextChange_106 ?_
              have r_55 : oR Z none = 0 := rfl
              refine lv_astoreN (lv' := [(5, .null), (4, .int y_48), (0, .ref o), (1, .int x1), (2, .int x2), (3, .ref a3)]) hx hb dX1_nextChange_109 hl (by decide +kernel) rfl (fun ls hl => ?_)
              refine lv_goto (tgt := 77) hx hb dX1_nextChange_111 (by decide +kernel) ?_
              exact ih (n - 1) (by omega) none y_48 _ _ ls (by omega) (fun b h => by cases h) hP hS (lv_sub hl [0, 1, 2, 3, 4, 5] rfl)
            · refine va_get (D := (dC, dI)) (ci := 3) (v := .ref b_53) (C := RX3) (T := TX3) (N := 6) hx hb hts in_wsX1_nextChange_X3 hown hK hP q_50 hq_50 rfl 5 (by decide +kernel) (hts (.fieldLink RX1 97 "ShipOffice$Happening" "before" "LShipOffice$Happening;") iw_X1_nextChange_6) (fun _ h9 => h9) (o_rd hb_54) dX1_nextChange_106 ?_
              have tb_53 : oty Z b_53 3 := oInv.rd gI tb_49.2 hb_54 rfl rfl
              have hGb_53 : oG Z b_53 < oG Z b_49 := gI.2.2.2.2.2.1 b_49 b_53 tb_49.2 hb_54
              have rb_53 : oR Z (some b_53) = oG Z b_53 + 1 := rfl
              refine lv_astore (lv' := [(5, .ref b_53), (4, .int y_48), (0, .ref o), (1, .int x1), (2, .int x2), (3, .ref a3)]) hx hb dX1_nextChange_109 hl (by decide +kernel) rfl (fun ls hl => ?_)
              refine lv_goto (tgt := 77) hx hb dX1_nextChange_111 (by decide +kernel) ?_
              exact ih (n - 1) (by omega) (some b_53) y_48 _ _ ls (by omega) (fun b h => by cases h; exact tb_53) hP hS (lv_sub hl [0, 1, 2, 3, 4, 5] rfl)
          · have dc_52 := c_nlt (a := x2.toInt) (b := x_51.toInt) rfl rfl c_52
            refine lv_iload_n hx hb dX1_nextChange_91 rfl (lv_at hl 3 rfl) ?_
            refine lv_aload hx hb dX1_nextChange_92 (lv_at hl 0 rfl) ?_
            refine va_get (D := (dC, dI)) (ci := 3) (v := .int (oI Z b_49 1)) (C := RX3) (T := TX3) (N := 6) hx hb hts in_wsX1_nextChange_X3 hown hK hP q_50 hq_50 rfl 1 (by decide +kernel) (hts (.fieldLink RX1 94 "ShipOffice$Happening" "day" "I") iw_X1_nextChange_7) (fun _ h9 => h9) rfl dX1_nextChange_94 ?_
            refine lv_topi (fun x_56 ex_56 => ?_)
            clear ex_56
            refine lv_iload hx hb dX1_nextChange_97 (lv_at hl 1 rfl) ?_
            have hFc : ∀ q, va_A [] H.size q → A q := pu_free hS hA
            have hPc := hP.sub (ws' := []) [] rfl
            have hDc := hD.sub (ws' := []) [] (by decide +kernel) rfl
            have hKc := hK.sub (tys' := []) [] rfl
            refine va_calli (va_runS (As := [.int x1, .int x_56, .int y_48]) (rest := []) ⟨hx, hb, hml, hown, hts⟩ (c_X1_nearer l dC dI H.size  x1 x_56 y_48) (va_cwS 3 hts gX1_nextChange_X1_nearer rfl rfl rfl (by decide +kernel) ⟨(Nat.le_of_ble_eq_true rfl), (Nat.le_of_ble_eq_true rfl)⟩) (pr_S hPc hKc hDc) rfl rfl hl.1 rfl (lv_room (Nat.le_of_ble_eq_true rfl)) dX1_nextChange_99 ⟨(Nat.le_of_ble_eq_true rfl), (Nat.le_of_ble_eq_true rfl)⟩) hS (fun q _ h => hFc q h) hFc (fun r_58 u t H locs ht hvm w_57 hB hz1 hk1 hS => ?_)
            have hP := pu_keep hP hk1
            clear hk1 hz1 hvm hB ht hFc hPc hDc hKc
            refine lv_istore (lv' := [(4, .int r_58), (5, .ref b_49), (0, .ref o), (1, .int x1), (2, .int x2), (3, .ref a3)]) hx hb dX1_nextChange_102 hl (by decide +kernel) rfl (fun ls hl => ?_)
            refine lv_aload hx hb dX1_nextChange_104 (lv_at hl 1 rfl) ?_
            rcases hb_60 : oP Z b_49 5 with _ | b_59
            · refine va_get (D := (dC, dI)) (ci := 3) (v := .null) (C := RX3) (T := TX3) (N := 6) hx hb hts in_wsX1_nextChange_X3 hown hK hP q_50 hq_50 rfl 5 (by decide +kernel) (hts (.fieldLink RX1 97 "ShipOffice$Happening" "before" "LShipOffice$Happening;") iw_X1_nextChange_6) (fun _ h9 => h9) (o_rd hb_60) dX1_nextChange_106 ?_
              have r_61 : oR Z none = 0 := rfl
              refine lv_astoreN (lv' := [(5, .null), (4, .int r_58), (0, .ref o), (1, .int x1), (2, .int x2), (3, .ref a3)]) hx hb dX1_nextChange_109 hl (by decide +kernel) rfl (fun ls hl => ?_)
              refine lv_goto (tgt := 77) hx hb dX1_nextChange_111 (by decide +kernel) ?_
              exact ih (n - 1) (by omega) none r_58 _ _ ls (by omega) (fun b h => by cases h) hP hS (lv_sub hl [0, 1, 2, 3, 4, 5] rfl)
            · refine va_get (D := (dC, dI)) (ci := 3) (v := .ref b_59) (C := RX3) (T := TX3) (N := 6) hx hb hts in_wsX1_nextChange_X3 hown hK hP q_50 hq_50 rfl 5 (by decide +kernel) (hts (.fieldLink RX1 97 "ShipOffice$Happening" "before" "LShipOffice$Happening;") iw_X1_nextChange_6) (fun _ h9 => h9) (o_rd hb_60) dX1_nextChange_106 ?_
              have tb_59 : oty Z b_59 3 := oInv.rd gI tb_49.2 hb_60 rfl rfl
              have hGb_59 : oG Z b_59 < oG Z b_49 := gI.2.2.2.2.2.1 b_49 b_59 tb_49.2 hb_60
              have rb_59 : oR Z (some b_59) = oG Z b_59 + 1 := rfl
              refine lv_astore (lv' := [(5, .ref b_59), (4, .int r_58), (0, .ref o), (1, .int x1), (2, .int x2), (3, .ref a3)]) hx hb dX1_nextChange_109 hl (by decide +kernel) rfl (fun ls hl => ?_)
              refine lv_goto (tgt := 77) hx hb dX1_nextChange_111 (by decide +kernel) ?_
              exact ih (n - 1) (by omega) (some b_59) r_58 _ _ ls (by omega) (fun b h => by cases h; exact tb_59) hP hS (lv_sub hl [0, 1, 2, 3, 4, 5] rfl)
    exact cut_46 (oR Z (some b_28)) (some b_28) r_27 _ _ ls (by omega) (fun b h => by cases h; exact tb_28) hP hS (lv_sub hl [0, 1, 2, 3, 4, 5] rfl)
set_option maxHeartbeats 4000000 in
set_option maxRecDepth 100000 in
theorem c_X1_daysIn (l : Launch) (dC : Nat → ClassId) (dI : Nat → Nat → Nat) (sz : Nat) (cq : Nat → ClassId) (Z : oS) (gI : oInv Z) (o : Nat) (to : oty Z o 1) (x1 : Int32) (x2 : Int32) (x3 : Int32) (a4 : Nat) (ta4 : oty Z a4 5) : Met l yX1_daysIn wsX1_daysIn ({ frames := 2, cells := 0, slots := 0, locals := 50 }) (va_Pc [.ref o, .int x1, .int x2, .int x3, .ref a4] (pcW (dC, dI) (oT cq) (oW cq Z) sz)) (va_Qi (fun (r : Int32) (u : Unit) => True) (fun _ _ => True) (va_A [] sz)) 0 0 (va_A [] sz) := by
  refine Met.ofW (cc := cX1_daysIn) (maxL := 10) (ret := (some .int)) (by decide +kernel) rfl ?_
  intro p e s m args below meth c s₁ B hml hv
  obtain ⟨rfl, hsz, hP, hK, hD0⟩ := hv
  have hx := B.exec
  have hb := B.bytes
  have hr := B.returns
  have hts := atoms_spec (ws := wsX1_daysIn) B.pre
  have hown : s.vm.findClass RX1 = some m.cls := findClass_of_methodNamed B.named
  have hlocks := B.notSynchronized
  subst hsz
  have hD := hD0
  generalize hAe : va_A [] s.heap.size = A at ⊢
  have hA : ∀ q : Nat, s.heap.size ≤ q → A q := fun q h => by rw [← hAe]; exact Or.inr h
  have hS : va_S A s.heap s.heap [] := va_S.rf
  have hP : va_P (dC, dI) vwCl (oW cq Z) s.heap := hP
  have hl := lv_entry ([.ref o, .int x1, .int x2, .int x3, .ref a4]) (n := 10) (Nat.le_of_ble_eq_true rfl)
  rw [lg_entry_eq]
  generalize (lg_sl ([.ref o, .int x1, .int x2, .int x3, .ref a4]) ++ List.replicate (10 - (lg_sl ([.ref o, .int x1, .int x2, .int x3, .ref a4])).length) Slot.unset).toArray = ls at hl ⊢
  have hl : lv_has ls 10 [(0, .ref o), (1, .int x1), (2, .int x2), (3, .int x3), (4, .ref a4)] := hl
  refine lv_iconst (v := 0) hx hb dX1_daysIn_0 (by decide +kernel) ?_
  refine lv_istore (lv' := [(5, .int 0), (0, .ref o), (1, .int x1), (2, .int x2), (3, .int x3), (4, .ref a4)]) hx hb dX1_daysIn_1 hl (by decide +kernel) rfl (fun ls hl => ?_)
  refine lv_aload_n hx hb dX1_daysIn_3 rfl (lv_at hl 1 rfl) ?_
  obtain ⟨q_1, hq_1⟩ := og (cq := cq) to.1 (oE_1 to.2)
  refine va_get (D := (dC, dI)) (ci := 1) (v := .int (oI Z o 2)) (C := RX1) (T := TX1) (N := 18) hx hb hts in_wsX1_daysIn_X1 hown hK hP q_1 hq_1 rfl 2 (by decide +kernel) (hts (.fieldLink RX1 37 "ShipOffice$Agreement" "signedOn" "I") iw_X1_daysIn_1) (fun _ h9 => h9) rfl dX1_daysIn_4 ?_
  refine lv_topi (fun x_2 ex_2 => ?_)
  clear ex_2
  refine lv_istore (lv' := [(6, .int x_2), (5, .int 0), (0, .ref o), (1, .int x1), (2, .int x2), (3, .int x3), (4, .ref a4)]) hx hb dX1_daysIn_7 hl (by decide +kernel) rfl (fun ls hl => ?_)
  refine lv_iconst (v := 0) hx hb dX1_daysIn_9 (by decide +kernel) ?_
  refine lv_istore (lv' := [(7, .int 0), (6, .int x_2), (5, .int 0), (0, .ref o), (1, .int x1), (2, .int x2), (3, .int x3), (4, .ref a4)]) hx hb dX1_daysIn_10 hl (by decide +kernel) rfl (fun ls hl => ?_)
  have cut_3 : ∀ (n : Nat) (y_4 : Int32) (y_5 : Int32) (y_6 : Int32) (H : Heap) (locs : List Loc) (ls : Array Slot), 3001 - y_4.toInt ≤ (n : Int) → (0 ≤ y_4.toInt ∧ y_4.toInt ≤ 3001) → va_P (dC, dI) vwCl (oW cq Z) H → va_S A s.heap H locs → lv_has ls 10 [(7, .int y_4), (5, .int y_5), (6, .int y_6), (0, .ref o), (1, .int x1), (2, .int x2), (3, .int x3), (4, .ref a4)] → W p l e (headSpec wsX1_daysIn { frames := 2, cells := 0, slots := 0, locals := 50 }).room s m #[Value.ref o, Value.int x1, Value.int x2, Value.int x3, Value.ref a4] below meth c H locs 0 0 (MQ below (va_Qi (fun (r : Int32) (u : Unit) => True) (fun _ _ => True) A) #[Value.ref o, Value.int x1, Value.int x2, Value.int x3, Value.ref a4] s 0 0 A) (F0 m 12 ls []) := by
    intro n
    induction n using Nat.strongRecOn with
    | ind n ih =>
      intro y_4 y_5 y_6 H locs ls hm hy_4 hP hS hl
      refine lv_iload hx hb dX1_daysIn_12 (lv_at hl 0 rfl) ?_
      refine lv_sipush (v := 3000) hx hb dX1_daysIn_14 (by decide +kernel) ?_
      refine lv_icmp_gt (tgt := 89) hx hb dX1_daysIn_17 (by decide +kernel) (fun c_7 => ?_) (fun c_7 => ?_)
      · have dc_7 := c_lt (a := 3000) (b := y_4.toInt) (by decide +kernel) rfl c_7
        refine lv_iload hx hb dX1_daysIn_89 (lv_at hl 1 rfl) ?_
        exact W.iret (v := y_5) hx hb hr (fun t ht hW => ⟨⟨y_5, (), rfl, trivial, trivial⟩, hS.F ht⟩) hS.2.2 dX1_daysIn_91
      · have dc_7 := c_nlt (a := 3000) (b := y_4.toInt) (by decide +kernel) rfl c_7
        refine lv_iload hx hb dX1_daysIn_20 (lv_at hl 2 rfl) ?_
        refine lv_iload_n hx hb dX1_daysIn_22 rfl (lv_at hl 5 rfl) ?_
        refine lv_icmp_gt (tgt := 89) hx hb dX1_daysIn_23 (by decide +kernel) (fun c_8 => ?_) (fun c_8 => ?_)
        · have dc_8 := c_lt (a := x2.toInt) (b := y_6.toInt) rfl rfl c_8
          refine lv_iload hx hb dX1_daysIn_89 (lv_at hl 1 rfl) ?_
          exact W.iret (v := y_5) hx hb hr (fun t ht hW => ⟨⟨y_5, (), rfl, trivial, trivial⟩, hS.F ht⟩) hS.2.2 dX1_daysIn_91
        · have dc_8 := c_nlt (a := x2.toInt) (b := y_6.toInt) rfl rfl c_8
          refine lv_aload_n hx hb dX1_daysIn_26 rfl (lv_at hl 3 rfl) ?_
          refine lv_iload hx hb dX1_daysIn_27 (lv_at hl 2 rfl) ?_
          refine lv_iload_n hx hb dX1_daysIn_29 rfl (lv_at hl 6 rfl) ?_
          refine lv_aload hx hb dX1_daysIn_30 (lv_at hl 7 rfl) ?_
          have hFc : ∀ q, va_A [] H.size q → A q := pu_free hS hA
          obtain ⟨q_9, hq_9⟩ := og (cq := cq) to.1 (oE_1 to.2)
          refine va_calli (va_runV (As := [.int y_6, .int x3, .ref a4]) (rest := []) ⟨hx, hb, hml, hown, hts⟩ (c_X1_stateOn l dC dI H.size cq Z gI o to y_6 x3 a4 ta4) (cwV 3 hts gX1_daysIn_X1_stateOn rfl rfl rfl (by decide +kernel) ⟨(Nat.le_of_ble_eq_true rfl), (Nat.le_of_ble_eq_true rfl)⟩) (pr_V (r := (RX1, TX1, 18)) hP hK hD q_9 1 rfl hq_9) rfl rfl hl.1 rfl (lv_room (Nat.le_of_ble_eq_true rfl)) dX1_daysIn_32 ⟨(Nat.le_of_ble_eq_true rfl), (Nat.le_of_ble_eq_true rfl)⟩) hS (fun q _ h => hFc q h) hFc (fun r_11 u t H locs ht hvm w_10 hB hz1 hk1 hS => ?_)
          have hP := pu_keep hP hk1
          clear hk1 hz1 hvm hB ht hFc
          have hb_12 := w_10
          refine lv_istore (lv' := [(8, .int r_11), (7, .int y_4), (5, .int y_5), (6, .int y_6), (0, .ref o), (1, .int x1), (2, .int x2), (3, .int x3), (4, .ref a4)]) hx hb dX1_daysIn_35 hl (by decide +kernel) rfl (fun ls hl => ?_)
          refine lv_aload_n hx hb dX1_daysIn_37 rfl (lv_at hl 4 rfl) ?_
          refine lv_iload hx hb dX1_daysIn_38 (lv_at hl 3 rfl) ?_
          refine lv_iload_n hx hb dX1_daysIn_40 rfl (lv_at hl 7 rfl) ?_
          refine lv_aload hx hb dX1_daysIn_41 (lv_at hl 8 rfl) ?_
          have hFc : ∀ q, va_A [] H.size q → A q := pu_free hS hA
          refine va_calli (va_runV (As := [.int y_6, .int x3, .ref a4]) (rest := []) ⟨hx, hb, hml, hown, hts⟩ (c_X1_nextChange l dC dI H.size cq Z gI o to y_6 x3 a4 ta4) (cwV 3 hts gX1_daysIn_X1_nextChange rfl rfl rfl (by decide +kernel) ⟨(Nat.le_of_ble_eq_true rfl), (Nat.le_of_ble_eq_true rfl)⟩) (pr_V (r := (RX1, TX1, 18)) hP hK hD q_9 1 rfl hq_9) rfl rfl hl.1 rfl (lv_room (Nat.le_of_ble_eq_true rfl)) dX1_daysIn_43 ⟨(Nat.le_of_ble_eq_true rfl), (Nat.le_of_ble_eq_true rfl)⟩) hS (fun q _ h => hFc q h) hFc (fun r_14 u t H locs ht hvm w_13 hB hz1 hk1 hS => ?_)
          have hP := pu_keep hP hk1
          clear hk1 hz1 hvm hB ht hFc
          refine lv_iload_n hx hb dX1_daysIn_46 rfl (lv_at hl 6 rfl) ?_
          refine lv_iconst (v := 1) hx hb dX1_daysIn_47 (by decide +kernel) ?_
          refine lv_iadd hx hb dX1_daysIn_48 ?_
          refine lv_topi (fun x_15 ex_15 => ?_)
          clear ex_15
          refine va_mmin hx hb (by rw [hml]; exact hl.1.symm) hown (hts (.methodLink RX1 111 Lib.Math.min.name) iw_X1_daysIn_2) (hts (.static Lib.Math.min.name) iw_X1_daysIn_3) (hts (.initialized "java/lang/Math") iw_X1_daysIn_4) (hts (.code Lib.Math.min.name Lib.Math.min.code 2 (some .int)) (by decide +kernel)) (Nat.le_of_ble_eq_true rfl) (Nat.le_of_ble_eq_true rfl) (Nat.le_of_ble_eq_true rfl) (Nat.le_of_ble_eq_true rfl) dX1_daysIn_49 ?_
          refine lv_topi (fun x_16 ex_16 => ?_)
          have hx_16 := mmin_i ex_16
          clear ex_16
          refine lv_istore (lv' := [(9, .int x_16), (8, .int r_11), (7, .int y_4), (5, .int y_5), (6, .int y_6), (0, .ref o), (1, .int x1), (2, .int x2), (3, .int x3), (4, .ref a4)]) hx hb dX1_daysIn_52 hl (by decide +kernel) rfl (fun ls hl => ?_)
          refine lv_iload hx hb dX1_daysIn_54 (lv_at hl 1 rfl) ?_
          refine lv_if_lt (tgt := 79) hx hb dX1_daysIn_56 (by decide +kernel) (fun c_17 => ?_) (fun c_17 => ?_)
          · have dc_17 := c_lt (a := r_11.toInt) (b := 0) rfl (by decide +kernel) c_17
            refine lv_iload hx hb dX1_daysIn_79 (lv_at hl 0 rfl) ?_
            refine lv_istore (lv' := [(6, .int x_16), (9, .int x_16), (8, .int r_11), (7, .int y_4), (5, .int y_5), (0, .ref o), (1, .int x1), (2, .int x2), (3, .int x3), (4, .ref a4)]) hx hb dX1_daysIn_81 hl (by decide +kernel) rfl (fun ls hl => ?_)
            obtain ⟨x_18, ex_18⟩ : ∃ zq : Int32, y_4 + 1 = zq := ⟨_, rfl⟩
            have hx_18 : x_18.toInt = y_4.toInt + 1 := (iv_to ex_18).symm.trans (ad_i rfl (by decide +kernel) (by omega) (by omega))
            refine lv_iinc (v := x_18) (lv' := [(7, .int x_18), (6, .int x_16), (9, .int x_16), (8, .int r_11), (5, .int y_5), (0, .ref o), (1, .int x1), (2, .int x2), (3, .int x3), (4, .ref a4)]) hx hb dX1_daysIn_83 hl (k := 3) rfl ex_18 (by decide +kernel) rfl (fun ls hl => ?_)
            clear ex_18
            refine lv_goto (tgt := 12) hx hb dX1_daysIn_86 (by decide +kernel) ?_
            exact ih (n - 1) (by omega) x_18 y_5 x_16 _ _ ls (by omega) (by omega) hP hS (lv_sub hl [0, 4, 1, 5, 6, 7, 8, 9] rfl)
          · have dc_17 := c_nlt (a := r_11.toInt) (b := 0) rfl (by decide +kernel) c_17
            refine lv_iload_n hx hb dX1_daysIn_59 rfl (lv_at hl 6 rfl) ?_
            refine lv_iload hx hb dX1_daysIn_60 (lv_at hl 1 rfl) ?_
            refine lv_ishr hx hb dX1_daysIn_62 ?_
            refine lv_topi (fun x_19 ex_19 => ?_)
            clear ex_19
            refine lv_iconst (v := 1) hx hb dX1_daysIn_63 (by decide +kernel) ?_
            refine lv_iand hx hb dX1_daysIn_64 ?_
            refine lv_topi (fun x_20 ex_20 => ?_)
            clear ex_20
            refine lv_iconst (v := 1) hx hb dX1_daysIn_65 (by decide +kernel) ?_
            refine lv_icmp_ne (tgt := 79) hx hb dX1_daysIn_66 (by decide +kernel) (fun c_21 => ?_) (fun c_21 => ?_)
            · have dc_21 := c_ne (a := x_20.toInt) (b := 1) rfl (by decide +kernel) c_21
              refine lv_iload hx hb dX1_daysIn_79 (lv_at hl 0 rfl) ?_
              refine lv_istore (lv' := [(6, .int x_16), (9, .int x_16), (8, .int r_11), (7, .int y_4), (5, .int y_5), (0, .ref o), (1, .int x1), (2, .int x2), (3, .int x3), (4, .ref a4)]) hx hb dX1_daysIn_81 hl (by decide +kernel) rfl (fun ls hl => ?_)
              obtain ⟨x_22, ex_22⟩ : ∃ zq : Int32, y_4 + 1 = zq := ⟨_, rfl⟩
              have hx_22 : x_22.toInt = y_4.toInt + 1 := (iv_to ex_22).symm.trans (ad_i rfl (by decide +kernel) (by omega) (by omega))
              refine lv_iinc (v := x_22) (lv' := [(7, .int x_22), (6, .int x_16), (9, .int x_16), (8, .int r_11), (5, .int y_5), (0, .ref o), (1, .int x1), (2, .int x2), (3, .int x3), (4, .ref a4)]) hx hb dX1_daysIn_83 hl (k := 3) rfl ex_22 (by decide +kernel) rfl (fun ls hl => ?_)
              clear ex_22
              refine lv_goto (tgt := 12) hx hb dX1_daysIn_86 (by decide +kernel) ?_
              exact ih (n - 1) (by omega) x_22 y_5 x_16 _ _ ls (by omega) (by omega) hP hS (lv_sub hl [0, 4, 1, 5, 6, 7, 8, 9] rfl)
            · have dc_21 := c_eq (a := x_20.toInt) (b := 1) rfl (by decide +kernel) c_21
              refine lv_iload hx hb dX1_daysIn_69 (lv_at hl 3 rfl) ?_
              refine lv_iload hx hb dX1_daysIn_71 (lv_at hl 0 rfl) ?_
              refine lv_iload hx hb dX1_daysIn_73 (lv_at hl 4 rfl) ?_
              refine lv_isub hx hb dX1_daysIn_75 ?_
              refine lv_topi (fun x_23 ex_23 => ?_)
              clear ex_23
              refine lv_iadd hx hb dX1_daysIn_76 ?_
              refine lv_topi (fun x_24 ex_24 => ?_)
              clear ex_24
              refine lv_istore (lv' := [(5, .int x_24), (9, .int x_16), (8, .int r_11), (7, .int y_4), (6, .int y_6), (0, .ref o), (1, .int x1), (2, .int x2), (3, .int x3), (4, .ref a4)]) hx hb dX1_daysIn_77 hl (by decide +kernel) rfl (fun ls hl => ?_)
              refine lv_iload hx hb dX1_daysIn_79 (lv_at hl 1 rfl) ?_
              refine lv_istore (lv' := [(6, .int x_16), (5, .int x_24), (9, .int x_16), (8, .int r_11), (7, .int y_4), (0, .ref o), (1, .int x1), (2, .int x2), (3, .int x3), (4, .ref a4)]) hx hb dX1_daysIn_81 hl (by decide +kernel) rfl (fun ls hl => ?_)
              obtain ⟨x_25, ex_25⟩ : ∃ zq : Int32, y_4 + 1 = zq := ⟨_, rfl⟩
              have hx_25 : x_25.toInt = y_4.toInt + 1 := (iv_to ex_25).symm.trans (ad_i rfl (by decide +kernel) (by omega) (by omega))
              refine lv_iinc (v := x_25) (lv' := [(7, .int x_25), (6, .int x_16), (5, .int x_24), (9, .int x_16), (8, .int r_11), (0, .ref o), (1, .int x1), (2, .int x2), (3, .int x3), (4, .ref a4)]) hx hb dX1_daysIn_83 hl (k := 4) rfl ex_25 (by decide +kernel) rfl (fun ls hl => ?_)
              clear ex_25
              refine lv_goto (tgt := 12) hx hb dX1_daysIn_86 (by decide +kernel) ?_
              exact ih (n - 1) (by omega) x_25 x_24 x_16 _ _ ls (by omega) (by omega) hP hS (lv_sub hl [0, 2, 1, 5, 6, 7, 8, 9] rfl)
  have kc_26 : (0 : Int32).toInt = 0 := by decide
  exact cut_3 3002 0 0 x_2 _ _ ls (by omega) (by decide +kernel) hP hS (lv_sub hl [0, 2, 1, 3, 4, 5, 6, 7] rfl)
set_option maxHeartbeats 4000000 in
set_option maxRecDepth 100000 in
theorem c_X1_earningDays (l : Launch) (dC : Nat → ClassId) (dI : Nat → Nat → Nat) (sz : Nat) (cq : Nat → ClassId) (Z : oS) (gI : oInv Z) (o : Nat) (to : oty Z o 1) (x1 : Int32) (x2 : Int32) (a3 : Nat) (ta3 : oty Z a3 5) : Met l yX1_earningDays wsX1_earningDays ({ frames := 3, cells := 0, slots := 0, locals := 79 }) (va_Pc [.ref o, .int x1, .int x2, .ref a3] (pcW (dC, dI) (oT cq) (oW cq Z) sz)) (va_Qi (fun (r : Int32) (u : Unit) => True) (fun _ _ => True) (va_A [] sz)) 0 0 (va_A [] sz) := by
  refine Met.ofW (cc := cX1_earningDays) (maxL := 5) (ret := (some .int)) (by decide +kernel) rfl ?_
  intro p e s m args below meth c s₁ B hml hv
  obtain ⟨rfl, hsz, hP, hK, hD0⟩ := hv
  have hx := B.exec
  have hb := B.bytes
  have hr := B.returns
  have hts := atoms_spec (ws := wsX1_earningDays) B.pre
  have hown : s.vm.findClass RX1 = some m.cls := findClass_of_methodNamed B.named
  have hlocks := B.notSynchronized
  subst hsz
  have hD := hD0
  generalize hAe : va_A [] s.heap.size = A at ⊢
  have hA : ∀ q : Nat, s.heap.size ≤ q → A q := fun q h => by rw [← hAe]; exact Or.inr h
  have hS : va_S A s.heap s.heap [] := va_S.rf
  have hP : va_P (dC, dI) vwCl (oW cq Z) s.heap := hP
  have hl := lv_entry ([.ref o, .int x1, .int x2, .ref a3]) (n := 5) (Nat.le_of_ble_eq_true rfl)
  rw [lg_entry_eq]
  generalize (lg_sl ([.ref o, .int x1, .int x2, .ref a3]) ++ List.replicate (5 - (lg_sl ([.ref o, .int x1, .int x2, .ref a3])).length) Slot.unset).toArray = ls at hl ⊢
  have hl : lv_has ls 5 [(0, .ref o), (1, .int x1), (2, .int x2), (3, .ref a3)] := hl
  refine lv_iload_n hx hb dX1_earningDays_0 rfl (lv_at hl 1 rfl) ?_
  refine lv_istore (lv' := [(4, .int x1), (0, .ref o), (1, .int x1), (2, .int x2), (3, .ref a3)]) hx hb dX1_earningDays_1 hl (by decide +kernel) rfl (fun ls hl => ?_)
  refine lv_aload_n hx hb dX1_earningDays_3 rfl (lv_at hl 1 rfl) ?_
  refine lv_iload_n hx hb dX1_earningDays_4 rfl (lv_at hl 2 rfl) ?_
  refine lv_iload_n hx hb dX1_earningDays_5 rfl (lv_at hl 3 rfl) ?_
  refine lv_aload_n hx hb dX1_earningDays_6 rfl (lv_at hl 4 rfl) ?_
  have hFc : ∀ q, va_A [] s.heap.size q → A q := pu_free hS hA
  obtain ⟨q_1, hq_1⟩ := og (cq := cq) to.1 (oE_1 to.2)
  refine va_calli (va_runV (As := [.int x1, .int x2, .ref a3]) (rest := []) ⟨hx, hb, hml, hown, hts⟩ (c_X1_stateOn l dC dI s.heap.size cq Z gI o to x1 x2 a3 ta3) (cwV 3 hts gX1_earningDays_X1_stateOn rfl rfl rfl (by decide +kernel) ⟨(Nat.le_of_ble_eq_true rfl), (Nat.le_of_ble_eq_true rfl)⟩) (pr_V (r := (RX1, TX1, 18)) hP hK hD q_1 1 rfl hq_1) rfl rfl hl.1 rfl (lv_room (Nat.le_of_ble_eq_true rfl)) dX1_earningDays_7 ⟨(Nat.le_of_ble_eq_true rfl), (Nat.le_of_ble_eq_true rfl)⟩) hS (fun q _ h => hFc q h) hFc (fun r_3 u t H locs ht hvm w_2 hB hz1 hk1 hS => ?_)
  have hP := pu_keep hP hk1
  clear hk1 hz1 hvm hB ht hFc
  have hb_4 := w_2
  refine lv_iconst (v := 2) hx hb dX1_earningDays_10 (by decide +kernel) ?_
  refine lv_icmp_ne (tgt := 25) hx hb dX1_earningDays_11 (by decide +kernel) (fun c_5 => ?_) (fun c_5 => ?_)
  · have dc_5 := c_ne (a := r_3.toInt) (b := 2) rfl (by decide +kernel) c_5
    refine lv_aload_n hx hb dX1_earningDays_25 rfl (lv_at hl 1 rfl) ?_
    refine lv_bipush (v := 7) hx hb dX1_earningDays_26 (by decide +kernel) ?_
    refine lv_iload hx hb dX1_earningDays_28 (lv_at hl 0 rfl) ?_
    refine lv_iload_n hx hb dX1_earningDays_30 rfl (lv_at hl 3 rfl) ?_
    refine lv_aload_n hx hb dX1_earningDays_31 rfl (lv_at hl 4 rfl) ?_
    have hFc : ∀ q, va_A [] H.size q → A q := pu_free hS hA
    refine va_calli (va_runV (As := [.int 7, .int x1, .int x2, .ref a3]) (rest := []) ⟨hx, hb, hml, hown, hts⟩ (c_X1_daysIn l dC dI H.size cq Z gI o to 7 x1 x2 a3 ta3) (cwV 4 hts gX1_earningDays_X1_daysIn rfl rfl rfl (by decide +kernel) ⟨(Nat.le_of_ble_eq_true rfl), (Nat.le_of_ble_eq_true rfl)⟩) (pr_V (r := (RX1, TX1, 18)) hP hK hD q_1 1 rfl hq_1) rfl rfl hl.1 rfl (lv_room (Nat.le_of_ble_eq_true rfl)) dX1_earningDays_32 ⟨(Nat.le_of_ble_eq_true rfl), (Nat.le_of_ble_eq_true rfl)⟩) hS (fun q _ h => hFc q h) hFc (fun r_7 u t H locs ht hvm w_6 hB hz1 hk1 hS => ?_)
    have hP := pu_keep hP hk1
    clear hk1 hz1 hvm hB ht hFc
    exact W.iret (v := r_7) hx hb hr (fun t ht hW => ⟨⟨r_7, (), rfl, trivial, trivial⟩, hS.F ht⟩) hS.2.2 dX1_earningDays_35
  · have dc_5 := c_eq (a := r_3.toInt) (b := 2) rfl (by decide +kernel) c_5
    refine lv_aload_n hx hb dX1_earningDays_14 rfl (lv_at hl 1 rfl) ?_
    obtain ⟨b_8, hb_8⟩ := oInv.nn (i := 1) gI to rfl
    refine va_get (D := (dC, dI)) (ci := 1) (v := .ref b_8) (C := RX1) (T := TX1) (N := 18) hx hb hts in_wsX1_earningDays_X1 hown hK hP q_1 hq_1 rfl 1 (by decide +kernel) (hts (.fieldLink RX1 33 "ShipOffice$Agreement" "voyage" "LShipOffice$Voyage;") iw_X1_earningDays_1) (fun _ h9 => h9) (o_rd hb_8) dX1_earningDays_15 ?_
    have tb_8 : oty Z b_8 9 := oInv.rd gI to.2 hb_8 rfl rfl
    refine lv_iload_n hx hb dX1_earningDays_18 rfl (lv_at hl 2 rfl) ?_
    refine lv_iload_n hx hb dX1_earningDays_19 rfl (lv_at hl 3 rfl) ?_
    have hFc : ∀ q, va_A [] H.size q → A q := pu_free hS hA
    obtain ⟨q_9, hq_9⟩ := og (cq := cq) tb_8.1 (oE_9 tb_8.2)
    refine va_calli (va_runV (As := [.int x1, .int x2]) (rest := []) ⟨hx, hb, hml, hown, hts⟩ (c_X9_lastHeard l dC dI H.size cq Z gI b_8 tb_8 x1 x2) (cwV 2 hts gX1_earningDays_X9_lastHeard rfl rfl rfl (by decide +kernel) ⟨(Nat.le_of_ble_eq_true rfl), (Nat.le_of_ble_eq_true rfl)⟩) (pr_V (r := (RX9, TX9, 10)) hP hK hD q_9 9 rfl hq_9) rfl rfl hl.1 rfl (lv_room (Nat.le_of_ble_eq_true rfl)) dX1_earningDays_20 ⟨(Nat.le_of_ble_eq_true rfl), (Nat.le_of_ble_eq_true rfl)⟩) hS (fun q _ h => hFc q h) hFc (fun r_11 u t H locs ht hvm w_10 hB hz1 hk1 hS => ?_)
    have hP := pu_keep hP hk1
    clear hk1 hz1 hvm hB ht hFc
    refine lv_istore (lv' := [(4, .int r_11), (0, .ref o), (1, .int x1), (2, .int x2), (3, .ref a3)]) hx hb dX1_earningDays_23 hl (by decide +kernel) rfl (fun ls hl => ?_)
    refine lv_aload_n hx hb dX1_earningDays_25 rfl (lv_at hl 1 rfl) ?_
    refine lv_bipush (v := 7) hx hb dX1_earningDays_26 (by decide +kernel) ?_
    refine lv_iload hx hb dX1_earningDays_28 (lv_at hl 0 rfl) ?_
    refine lv_iload_n hx hb dX1_earningDays_30 rfl (lv_at hl 3 rfl) ?_
    refine lv_aload_n hx hb dX1_earningDays_31 rfl (lv_at hl 4 rfl) ?_
    have hFc : ∀ q, va_A [] H.size q → A q := pu_free hS hA
    refine va_calli (va_runV (As := [.int 7, .int r_11, .int x2, .ref a3]) (rest := []) ⟨hx, hb, hml, hown, hts⟩ (c_X1_daysIn l dC dI H.size cq Z gI o to 7 r_11 x2 a3 ta3) (cwV 4 hts gX1_earningDays_X1_daysIn rfl rfl rfl (by decide +kernel) ⟨(Nat.le_of_ble_eq_true rfl), (Nat.le_of_ble_eq_true rfl)⟩) (pr_V (r := (RX1, TX1, 18)) hP hK hD q_1 1 rfl hq_1) rfl rfl hl.1 rfl (lv_room (Nat.le_of_ble_eq_true rfl)) dX1_earningDays_32 ⟨(Nat.le_of_ble_eq_true rfl), (Nat.le_of_ble_eq_true rfl)⟩) hS (fun q _ h => hFc q h) hFc (fun r_13 u t H locs ht hvm w_12 hB hz1 hk1 hS => ?_)
    have hP := pu_keep hP hk1
    clear hk1 hz1 hvm hB ht hFc
    exact W.iret (v := r_13) hx hb hr (fun t ht hW => ⟨⟨r_13, (), rfl, trivial, trivial⟩, hS.F ht⟩) hS.2.2 dX1_earningDays_35
set_option maxHeartbeats 4000000 in
set_option maxRecDepth 100000 in
theorem c_X1_leavingOn (l : Launch) (dC : Nat → ClassId) (dI : Nat → Nat → Nat) (sz : Nat) (cq : Nat → ClassId) (Z : oS) (gI : oInv Z) (o : Nat) (to : oty Z o 1) (x1 : Int32) (x2 : Int32) (a3 : Nat) (ta3 : oty Z a3 5) : Met l yX1_leavingOn wsX1_leavingOn ({ frames := 2, cells := 0, slots := 0, locals := 49 }) (va_Pc [.ref o, .int x1, .int x2, .ref a3] (pcW (dC, dI) (oT cq) (oW cq Z) sz)) (va_Qq (fun (r : Option Nat) (u : Unit) => (∀ b, r = some b → oty Z b 3)) (fun _ _ => True) (va_A [] sz)) 0 0 (va_A [] sz) := by
  refine Met.ofW (cc := cX1_leavingOn) (maxL := 4) (ret := (some (.object "ShipOffice$Happening"))) (by decide +kernel) rfl ?_
  intro p e s m args below meth c s₁ B hml hv
  obtain ⟨rfl, hsz, hP, hK, hD0⟩ := hv
  have hx := B.exec
  have hb := B.bytes
  have hr := B.returns
  have hts := atoms_spec (ws := wsX1_leavingOn) B.pre
  have hown : s.vm.findClass RX1 = some m.cls := findClass_of_methodNamed B.named
  have hlocks := B.notSynchronized
  subst hsz
  have hD := hD0
  generalize hAe : va_A [] s.heap.size = A at ⊢
  have hA : ∀ q : Nat, s.heap.size ≤ q → A q := fun q h => by rw [← hAe]; exact Or.inr h
  have hS : va_S A s.heap s.heap [] := va_S.rf
  have hP : va_P (dC, dI) vwCl (oW cq Z) s.heap := hP
  have hl := lv_entry ([.ref o, .int x1, .int x2, .ref a3]) (n := 4) (Nat.le_of_ble_eq_true rfl)
  rw [lg_entry_eq]
  generalize (lg_sl ([.ref o, .int x1, .int x2, .ref a3]) ++ List.replicate (4 - (lg_sl ([.ref o, .int x1, .int x2, .ref a3])).length) Slot.unset).toArray = ls at hl ⊢
  have hl : lv_has ls 4 [(0, .ref o), (1, .int x1), (2, .int x2), (3, .ref a3)] := hl
  refine lv_aload_n hx hb dX1_leavingOn_0 rfl (lv_at hl 0 rfl) ?_
  refine lv_iload_n hx hb dX1_leavingOn_1 rfl (lv_at hl 1 rfl) ?_
  refine lv_iload_n hx hb dX1_leavingOn_2 rfl (lv_at hl 2 rfl) ?_
  refine lv_aload_n hx hb dX1_leavingOn_3 rfl (lv_at hl 3 rfl) ?_
  have hFc : ∀ q, va_A [] s.heap.size q → A q := pu_free hS hA
  obtain ⟨q_1, hq_1⟩ := og (cq := cq) to.1 (oE_1 to.2)
  refine va_calli (va_runV (As := [.int x1, .int x2, .ref a3]) (rest := []) ⟨hx, hb, hml, hown, hts⟩ (c_X1_stateOn l dC dI s.heap.size cq Z gI o to x1 x2 a3 ta3) (cwV 3 hts gX1_leavingOn_X1_stateOn rfl rfl rfl (by decide +kernel) ⟨(Nat.le_of_ble_eq_true rfl), (Nat.le_of_ble_eq_true rfl)⟩) (pr_V (r := (RX1, TX1, 18)) hP hK hD q_1 1 rfl hq_1) rfl rfl hl.1 rfl (lv_room (Nat.le_of_ble_eq_true rfl)) dX1_leavingOn_4 ⟨(Nat.le_of_ble_eq_true rfl), (Nat.le_of_ble_eq_true rfl)⟩) hS (fun q _ h => hFc q h) hFc (fun r_3 u t H locs ht hvm w_2 hB hz1 hk1 hS => ?_)
  have hP := pu_keep hP hk1
  clear hk1 hz1 hvm hB ht hFc
  have hb_4 := w_2
  refine lv_iconst (v := 3) hx hb dX1_leavingOn_7 (by decide +kernel) ?_
  refine lv_icmp_ne (tgt := 20) hx hb dX1_leavingOn_8 (by decide +kernel) (fun c_5 => ?_) (fun c_5 => ?_)
  · have dc_5 := c_ne (a := r_3.toInt) (b := 3) rfl (by decide +kernel) c_5
    refine lv_null hx hb dX1_leavingOn_20 ?_
    exact W.aret (v := .null) hx hb hr (Or.inl ⟨_, rfl⟩) (Or.inl rfl) (fun t ht hW => ⟨⟨none, (), rfl, (fun b h => by cases h), trivial⟩, hS.F ht⟩) hS.2.2 dX1_leavingOn_21
  · have dc_5 := c_eq (a := r_3.toInt) (b := 3) rfl (by decide +kernel) c_5
    refine lv_aload_n hx hb dX1_leavingOn_11 rfl (lv_at hl 0 rfl) ?_
    refine lv_iload_n hx hb dX1_leavingOn_12 rfl (lv_at hl 1 rfl) ?_
    refine lv_iload_n hx hb dX1_leavingOn_13 rfl (lv_at hl 2 rfl) ?_
    have hFc : ∀ q, va_A [] H.size q → A q := pu_free hS hA
    refine va_callq (va_runV (As := [.int x1, .int x2]) (rest := []) ⟨hx, hb, hml, hown, hts⟩ (c_X1_lastMove l dC dI H.size cq Z gI o to x1 x2) (cwV 2 hts gX1_leavingOn_X1_lastMove rfl rfl rfl (by decide +kernel) ⟨(Nat.le_of_ble_eq_true rfl), (Nat.le_of_ble_eq_true rfl)⟩) (pr_V (r := (RX1, TX1, 18)) hP hK hD q_1 1 rfl hq_1) rfl rfl hl.1 rfl (lv_room (Nat.le_of_ble_eq_true rfl)) dX1_leavingOn_14 ⟨(Nat.le_of_ble_eq_true rfl), (Nat.le_of_ble_eq_true rfl)⟩) hS (fun q _ h => hFc q h) hFc (fun r_7 u t H locs ht hvm w_6 hB hz1 hk1 hS => ?_)
    have hP := pu_keep hP hk1
    clear hk1 hz1 hvm hB ht hFc
    have hk_8 := w_6
    rcases r_7 with _ | b_9
    · refine W.eq (g2 := F0 m 17 ls [.null]) rfl ?_
      refine lv_goto (tgt := 21) hx hb dX1_leavingOn_17 (by decide +kernel) ?_
      exact W.aret (v := .null) hx hb hr (Or.inl ⟨_, rfl⟩) (Or.inl rfl) (fun t ht hW => ⟨⟨none, (), rfl, (fun b h => by cases h), trivial⟩, hS.F ht⟩) hS.2.2 dX1_leavingOn_21
    · refine W.eq (g2 := F0 m 17 ls [.ref b_9]) rfl ?_
      have tb_9 : oty Z b_9 3 := hk_8 b_9 rfl
      refine lv_goto (tgt := 21) hx hb dX1_leavingOn_17 (by decide +kernel) ?_
      exact W.aret (v := .ref b_9) hx hb hr (Or.inl ⟨_, rfl⟩) (Or.inr ⟨_, rfl⟩) (fun t ht hW => ⟨⟨(some b_9), (), rfl, (fun b h => by cases h; exact tb_9), trivial⟩, hS.F ht⟩) hS.2.2 dX1_leavingOn_21
set_option maxHeartbeats 4000000 in
set_option maxRecDepth 100000 in
theorem c_X1_notePaid (l : Launch) (dC : Nat → ClassId) (dI : Nat → Nat → Nat) (sz : Nat) (cq : Nat → ClassId) (Z : oS) (gI : oInv Z) (o : Nat) (to : oty Z o 1) (x1 : Int32) (x2 : Int32) (a3 : Nat) (ta3 : oty Z a3 5) : Met l yX1_notePaid wsX1_notePaid ({ frames := 2, cells := 0, slots := 0, locals := 49 }) (va_Pc [.ref o, .int x1, .int x2, .ref a3] (pcW (dC, dI) (oT cq) (oW cq Z) sz)) (va_Qi (fun (r : Int32) (u : Unit) => True) (fun _ _ => True) (va_A [] sz)) 0 0 (va_A [] sz) := by
  refine Met.ofW (cc := cX1_notePaid) (maxL := 4) (ret := (some .int)) (by decide +kernel) rfl ?_
  intro p e s m args below meth c s₁ B hml hv
  obtain ⟨rfl, hsz, hP, hK, hD0⟩ := hv
  have hx := B.exec
  have hb := B.bytes
  have hr := B.returns
  have hts := atoms_spec (ws := wsX1_notePaid) B.pre
  have hown : s.vm.findClass RX1 = some m.cls := findClass_of_methodNamed B.named
  have hlocks := B.notSynchronized
  subst hsz
  have hD := hD0
  generalize hAe : va_A [] s.heap.size = A at ⊢
  have hA : ∀ q : Nat, s.heap.size ≤ q → A q := fun q h => by rw [← hAe]; exact Or.inr h
  have hS : va_S A s.heap s.heap [] := va_S.rf
  have hP : va_P (dC, dI) vwCl (oW cq Z) s.heap := hP
  have hl := lv_entry ([.ref o, .int x1, .int x2, .ref a3]) (n := 4) (Nat.le_of_ble_eq_true rfl)
  rw [lg_entry_eq]
  generalize (lg_sl ([.ref o, .int x1, .int x2, .ref a3]) ++ List.replicate (4 - (lg_sl ([.ref o, .int x1, .int x2, .ref a3])).length) Slot.unset).toArray = ls at hl ⊢
  have hl : lv_has ls 4 [(0, .ref o), (1, .int x1), (2, .int x2), (3, .ref a3)] := hl
  refine lv_aload_n hx hb dX1_notePaid_0 rfl (lv_at hl 0 rfl) ?_
  obtain ⟨q_1, hq_1⟩ := og (cq := cq) to.1 (oE_1 to.2)
  refine va_get (D := (dC, dI)) (ci := 1) (v := .int (oI Z o 9)) (C := RX1) (T := TX1) (N := 18) hx hb hts in_wsX1_notePaid_X1 hown hK hP q_1 hq_1 rfl 9 (by decide +kernel) (hts (.fieldLink RX1 127 "ShipOffice$Agreement" "note" "I") iw_X1_notePaid_1) (fun _ h9 => h9) rfl dX1_notePaid_1 ?_
  refine lv_topi (fun x_2 ex_2 => ?_)
  clear ex_2
  refine lv_if_eq (tgt := 21) hx hb dX1_notePaid_4 (by decide +kernel) (fun c_3 => ?_) (fun c_3 => ?_)
  · have dc_3 := c_eq (a := x_2.toInt) (b := 0) rfl (by decide +kernel) c_3
    refine lv_iconst (v := 0) hx hb dX1_notePaid_21 (by decide +kernel) ?_
    exact W.iret (v := 0) hx hb hr (fun t ht hW => ⟨⟨0, (), rfl, trivial, trivial⟩, hS.F ht⟩) hS.2.2 dX1_notePaid_22
  · have dc_3 := c_ne (a := x_2.toInt) (b := 0) rfl (by decide +kernel) c_3
    refine lv_aload_n hx hb dX1_notePaid_7 rfl (lv_at hl 0 rfl) ?_
    obtain ⟨b_4, hb_4⟩ := oInv.nn (i := 1) gI to rfl
    refine va_get (D := (dC, dI)) (ci := 1) (v := .ref b_4) (C := RX1) (T := TX1) (N := 18) hx hb hts in_wsX1_notePaid_X1 hown hK hP q_1 hq_1 rfl 1 (by decide +kernel) (hts (.fieldLink RX1 33 "ShipOffice$Agreement" "voyage" "LShipOffice$Voyage;") iw_X1_notePaid_2) (fun _ h9 => h9) (o_rd hb_4) dX1_notePaid_8 ?_
    have tb_4 : oty Z b_4 9 := oInv.rd gI to.2 hb_4 rfl rfl
    refine lv_iload_n hx hb dX1_notePaid_11 rfl (lv_at hl 1 rfl) ?_
    refine lv_iconst (v := 3) hx hb dX1_notePaid_12 (by decide +kernel) ?_
    refine lv_isub hx hb dX1_notePaid_13 ?_
    refine lv_topi (fun x_5 ex_5 => ?_)
    clear ex_5
    refine lv_iload_n hx hb dX1_notePaid_14 rfl (lv_at hl 2 rfl) ?_
    have hFc : ∀ q, va_A [] s.heap.size q → A q := pu_free hS hA
    obtain ⟨q_6, hq_6⟩ := og (cq := cq) tb_4.1 (oE_9 tb_4.2)
    refine va_calli (va_runV (As := [.int x_5, .int x2]) (rest := []) ⟨hx, hb, hml, hown, hts⟩ (c_X9_sailedBy l dC dI s.heap.size cq Z gI b_4 tb_4 x_5 x2) (cwV 2 hts gX1_notePaid_X9_sailedBy rfl rfl rfl (by decide +kernel) ⟨(Nat.le_of_ble_eq_true rfl), (Nat.le_of_ble_eq_true rfl)⟩) (pr_V (r := (RX9, TX9, 10)) hP hK hD q_6 9 rfl hq_6) rfl rfl hl.1 rfl (lv_room (Nat.le_of_ble_eq_true rfl)) dX1_notePaid_15 ⟨(Nat.le_of_ble_eq_true rfl), (Nat.le_of_ble_eq_true rfl)⟩) hS (fun q _ h => hFc q h) hFc (fun r_8 u t H locs ht hvm w_7 hB hz1 hk1 hS => ?_)
    have hP := pu_keep hP hk1
    clear hk1 hz1 hvm hB ht hFc
    have hb_9 := w_7
    refine lv_if_ne (tgt := 23) hx hb dX1_notePaid_18 (by decide +kernel) (fun c_10 => ?_) (fun c_10 => ?_)
    · have dc_10 := c_ne (a := r_8.toInt) (b := 0) rfl (by decide +kernel) c_10
      refine lv_aload_n hx hb dX1_notePaid_23 rfl (lv_at hl 0 rfl) ?_
      refine lv_aload_n hx hb dX1_notePaid_24 rfl (lv_at hl 0 rfl) ?_
      refine va_get (D := (dC, dI)) (ci := 1) (v := .ref b_4) (C := RX1) (T := TX1) (N := 18) hx hb hts in_wsX1_notePaid_X1 hown hK hP q_1 hq_1 rfl 1 (by decide +kernel) (hts (.fieldLink RX1 33 "ShipOffice$Agreement" "voyage" "LShipOffice$Voyage;") iw_X1_notePaid_2) (fun _ h9 => h9) (o_rd hb_4) dX1_notePaid_25 ?_
      refine va_get (D := (dC, dI)) (ci := 9) (v := .int (oI Z b_4 5)) (C := RX9) (T := TX9) (N := 10) hx hb hts in_wsX1_notePaid_X9 hown hK hP q_6 hq_6 rfl 5 (by decide +kernel) (hts (.fieldLink RX1 130 "ShipOffice$Voyage" "sailedDay" "I") iw_X1_notePaid_3) (fun _ h9 => h9) rfl dX1_notePaid_28 ?_
      refine lv_topi (fun x_11 ex_11 => ?_)
      have hx_11 : 0 ≤ x_11.toInt ∧ x_11.toInt ≤ 1000000 := iv_of ex_11 (oInv.iv gI tb_4.2 rfl rfl)
      have gx_11 : x_11.toInt = (oI Z b_4 5).toInt := iv_to ex_11
      clear ex_11
      refine lv_iconst (v := 3) hx hb dX1_notePaid_31 (by decide +kernel) ?_
      refine lv_iadd hx hb dX1_notePaid_32 ?_
      refine lv_topi (fun x_12 ex_12 => ?_)
      have hx_12 : x_12.toInt = x_11.toInt + 3 := (iv_to ex_12).trans (ad_i rfl (by decide +kernel) (by omega) (by omega))
      clear ex_12
      refine lv_iload_n hx hb dX1_notePaid_33 rfl (lv_at hl 2 rfl) ?_
      refine lv_aload_n hx hb dX1_notePaid_34 rfl (lv_at hl 3 rfl) ?_
      have hFc : ∀ q, va_A [] H.size q → A q := pu_free hS hA
      refine va_calli (va_runV (As := [.int x_12, .int x2, .ref a3]) (rest := []) ⟨hx, hb, hml, hown, hts⟩ (c_X1_stateOn l dC dI H.size cq Z gI o to x_12 x2 a3 ta3) (cwV 3 hts gX1_notePaid_X1_stateOn rfl rfl rfl (by decide +kernel) ⟨(Nat.le_of_ble_eq_true rfl), (Nat.le_of_ble_eq_true rfl)⟩) (pr_V (r := (RX1, TX1, 18)) hP hK hD q_1 1 rfl hq_1) rfl rfl hl.1 rfl (lv_room (Nat.le_of_ble_eq_true rfl)) dX1_notePaid_35 ⟨(Nat.le_of_ble_eq_true rfl), (Nat.le_of_ble_eq_true rfl)⟩) hS (fun q _ h => hFc q h) hFc (fun r_14 u t H locs ht hvm w_13 hB hz1 hk1 hS => ?_)
      have hP := pu_keep hP hk1
      clear hk1 hz1 hvm hB ht hFc
      have hb_15 := w_13
      refine lv_iconst (v := 1) hx hb dX1_notePaid_38 (by decide +kernel) ?_
      refine lv_icmp_ne (tgt := 49) hx hb dX1_notePaid_39 (by decide +kernel) (fun c_16 => ?_) (fun c_16 => ?_)
      · have dc_16 := c_ne (a := r_14.toInt) (b := 1) rfl (by decide +kernel) c_16
        refine lv_iconst (v := 0) hx hb dX1_notePaid_49 (by decide +kernel) ?_
        exact W.iret (v := 0) hx hb hr (fun t ht hW => ⟨⟨0, (), rfl, trivial, trivial⟩, hS.F ht⟩) hS.2.2 dX1_notePaid_50
      · have dc_16 := c_eq (a := r_14.toInt) (b := 1) rfl (by decide +kernel) c_16
        refine lv_aload_n hx hb dX1_notePaid_42 rfl (lv_at hl 0 rfl) ?_
        refine va_get (D := (dC, dI)) (ci := 1) (v := .int (oI Z o 9)) (C := RX1) (T := TX1) (N := 18) hx hb hts in_wsX1_notePaid_X1 hown hK hP q_1 hq_1 rfl 9 (by decide +kernel) (hts (.fieldLink RX1 127 "ShipOffice$Agreement" "note" "I") iw_X1_notePaid_1) (fun _ h9 => h9) rfl dX1_notePaid_43 ?_
        refine lv_topi (fun x_17 ex_17 => ?_)
        clear ex_17
        refine lv_goto (tgt := 50) hx hb dX1_notePaid_46 (by decide +kernel) ?_
        exact W.iret (v := x_17) hx hb hr (fun t ht hW => ⟨⟨x_17, (), rfl, trivial, trivial⟩, hS.F ht⟩) hS.2.2 dX1_notePaid_50
    · have dc_10 := c_eq (a := r_8.toInt) (b := 0) rfl (by decide +kernel) c_10
      refine lv_iconst (v := 0) hx hb dX1_notePaid_21 (by decide +kernel) ?_
      exact W.iret (v := 0) hx hb hr (fun t ht hW => ⟨⟨0, (), rfl, trivial, trivial⟩, hS.F ht⟩) hS.2.2 dX1_notePaid_22
set_option maxHeartbeats 4000000 in
set_option maxRecDepth 100000 in
theorem c_X1_allotmentsPaid (l : Launch) (dC : Nat → ClassId) (dI : Nat → Nat → Nat) (sz : Nat) (cq : Nat → ClassId) (Z : oS) (gI : oInv Z) (o : Nat) (to : oty Z o 1) (x1 : Int32) (hx1 : 0 ≤ x1.toInt ∧ x1.toInt ≤ 3000) (x2 : Int32) (a3 : Nat) (ta3 : oty Z a3 5) : Met l yX1_allotmentsPaid wsX1_allotmentsPaid ({ frames := 2, cells := 0, slots := 0, locals := 49 }) (va_Pc [.ref o, .int x1, .int x2, .ref a3] (pcW (dC, dI) (oT cq) (oW cq Z) sz)) (va_Qi (fun (r : Int32) (u : Unit) => True) (fun _ _ => True) (va_A [] sz)) 0 0 (va_A [] sz) := by
  refine Met.ofW (cc := cX1_allotmentsPaid) (maxL := 6) (ret := (some .int)) (by decide +kernel) rfl ?_
  intro p e s m args below meth c s₁ B hml hv
  obtain ⟨rfl, hsz, hP, hK, hD0⟩ := hv
  have hx := B.exec
  have hb := B.bytes
  have hr := B.returns
  have hts := atoms_spec (ws := wsX1_allotmentsPaid) B.pre
  have hown : s.vm.findClass RX1 = some m.cls := findClass_of_methodNamed B.named
  have hlocks := B.notSynchronized
  subst hsz
  have hD := hD0
  generalize hAe : va_A [] s.heap.size = A at ⊢
  have hA : ∀ q : Nat, s.heap.size ≤ q → A q := fun q h => by rw [← hAe]; exact Or.inr h
  have hS : va_S A s.heap s.heap [] := va_S.rf
  have hP : va_P (dC, dI) vwCl (oW cq Z) s.heap := hP
  have hl := lv_entry ([.ref o, .int x1, .int x2, .ref a3]) (n := 6) (Nat.le_of_ble_eq_true rfl)
  rw [lg_entry_eq]
  generalize (lg_sl ([.ref o, .int x1, .int x2, .ref a3]) ++ List.replicate (6 - (lg_sl ([.ref o, .int x1, .int x2, .ref a3])).length) Slot.unset).toArray = ls at hl ⊢
  have hl : lv_has ls 6 [(0, .ref o), (1, .int x1), (2, .int x2), (3, .ref a3)] := hl
  refine lv_aload_n hx hb dX1_allotmentsPaid_0 rfl (lv_at hl 0 rfl) ?_
  obtain ⟨q_1, hq_1⟩ := og (cq := cq) to.1 (oE_1 to.2)
  refine va_get (D := (dC, dI)) (ci := 1) (v := .int (oI Z o 11)) (C := RX1) (T := TX1) (N := 18) hx hb hts in_wsX1_allotmentsPaid_X1 hown hK hP q_1 hq_1 rfl 11 (by decide +kernel) (hts (.fieldLink RX1 133 "ShipOffice$Agreement" "allotment" "I") iw_X1_allotmentsPaid_1) (fun _ h9 => h9) rfl dX1_allotmentsPaid_1 ?_
  refine lv_topi (fun x_2 ex_2 => ?_)
  clear ex_2
  refine lv_if_eq (tgt := 19) hx hb dX1_allotmentsPaid_4 (by decide +kernel) (fun c_3 => ?_) (fun c_3 => ?_)
  · have dc_3 := c_eq (a := x_2.toInt) (b := 0) rfl (by decide +kernel) c_3
    refine lv_iconst (v := 0) hx hb dX1_allotmentsPaid_19 (by decide +kernel) ?_
    exact W.iret (v := 0) hx hb hr (fun t ht hW => ⟨⟨0, (), rfl, trivial, trivial⟩, hS.F ht⟩) hS.2.2 dX1_allotmentsPaid_20
  · have dc_3 := c_ne (a := x_2.toInt) (b := 0) rfl (by decide +kernel) c_3
    refine lv_aload_n hx hb dX1_allotmentsPaid_7 rfl (lv_at hl 0 rfl) ?_
    obtain ⟨b_4, hb_4⟩ := oInv.nn (i := 1) gI to rfl
    refine va_get (D := (dC, dI)) (ci := 1) (v := .ref b_4) (C := RX1) (T := TX1) (N := 18) hx hb hts in_wsX1_allotmentsPaid_X1 hown hK hP q_1 hq_1 rfl 1 (by decide +kernel) (hts (.fieldLink RX1 33 "ShipOffice$Agreement" "voyage" "LShipOffice$Voyage;") iw_X1_allotmentsPaid_2) (fun _ h9 => h9) (o_rd hb_4) dX1_allotmentsPaid_8 ?_
    have tb_4 : oty Z b_4 9 := oInv.rd gI to.2 hb_4 rfl rfl
    refine lv_iload_n hx hb dX1_allotmentsPaid_11 rfl (lv_at hl 1 rfl) ?_
    refine lv_iload_n hx hb dX1_allotmentsPaid_12 rfl (lv_at hl 2 rfl) ?_
    have hFc : ∀ q, va_A [] s.heap.size q → A q := pu_free hS hA
    obtain ⟨q_5, hq_5⟩ := og (cq := cq) tb_4.1 (oE_9 tb_4.2)
    refine va_calli (va_runV (As := [.int x1, .int x2]) (rest := []) ⟨hx, hb, hml, hown, hts⟩ (c_X9_sailedBy l dC dI s.heap.size cq Z gI b_4 tb_4 x1 x2) (cwV 2 hts gX1_allotmentsPaid_X9_sailedBy rfl rfl rfl (by decide +kernel) ⟨(Nat.le_of_ble_eq_true rfl), (Nat.le_of_ble_eq_true rfl)⟩) (pr_V (r := (RX9, TX9, 10)) hP hK hD q_5 9 rfl hq_5) rfl rfl hl.1 rfl (lv_room (Nat.le_of_ble_eq_true rfl)) dX1_allotmentsPaid_13 ⟨(Nat.le_of_ble_eq_true rfl), (Nat.le_of_ble_eq_true rfl)⟩) hS (fun q _ h => hFc q h) hFc (fun r_7 u t H locs ht hvm w_6 hB hz1 hk1 hS => ?_)
    have hP := pu_keep hP hk1
    clear hk1 hz1 hvm hB ht hFc
    have hb_8 := w_6
    refine lv_if_ne (tgt := 21) hx hb dX1_allotmentsPaid_16 (by decide +kernel) (fun c_9 => ?_) (fun c_9 => ?_)
    · have dc_9 := c_ne (a := r_7.toInt) (b := 0) rfl (by decide +kernel) c_9
      refine lv_iconst (v := 0) hx hb dX1_allotmentsPaid_21 (by decide +kernel) ?_
      refine lv_istore (lv' := [(4, .int 0), (0, .ref o), (1, .int x1), (2, .int x2), (3, .ref a3)]) hx hb dX1_allotmentsPaid_22 hl (by decide +kernel) rfl (fun ls hl => ?_)
      refine lv_aload_n hx hb dX1_allotmentsPaid_24 rfl (lv_at hl 1 rfl) ?_
      refine va_get (D := (dC, dI)) (ci := 1) (v := .ref b_4) (C := RX1) (T := TX1) (N := 18) hx hb hts in_wsX1_allotmentsPaid_X1 hown hK hP q_1 hq_1 rfl 1 (by decide +kernel) (hts (.fieldLink RX1 33 "ShipOffice$Agreement" "voyage" "LShipOffice$Voyage;") iw_X1_allotmentsPaid_2) (fun _ h9 => h9) (o_rd hb_4) dX1_allotmentsPaid_25 ?_
      refine va_get (D := (dC, dI)) (ci := 9) (v := .int (oI Z b_4 5)) (C := RX9) (T := TX9) (N := 10) hx hb hts in_wsX1_allotmentsPaid_X9 hown hK hP q_5 hq_5 rfl 5 (by decide +kernel) (hts (.fieldLink RX1 130 "ShipOffice$Voyage" "sailedDay" "I") iw_X1_allotmentsPaid_3) (fun _ h9 => h9) rfl dX1_allotmentsPaid_28 ?_
      refine lv_topi (fun x_10 ex_10 => ?_)
      have hx_10 : 0 ≤ x_10.toInt ∧ x_10.toInt ≤ 1000000 := iv_of ex_10 (oInv.iv gI tb_4.2 rfl rfl)
      have gx_10 : x_10.toInt = (oI Z b_4 5).toInt := iv_to ex_10
      clear ex_10
      refine lv_bipush (v := 30) hx hb dX1_allotmentsPaid_31 (by decide +kernel) ?_
      refine lv_iadd hx hb dX1_allotmentsPaid_33 ?_
      refine lv_topi (fun x_11 ex_11 => ?_)
      have hx_11 : x_11.toInt = x_10.toInt + 30 := (iv_to ex_11).trans (ad_i rfl (by decide +kernel) (by omega) (by omega))
      clear ex_11
      refine lv_istore (lv' := [(5, .int x_11), (4, .int 0), (0, .ref o), (1, .int x1), (2, .int x2), (3, .ref a3)]) hx hb dX1_allotmentsPaid_34 hl (by decide +kernel) rfl (fun ls hl => ?_)
      have cut_12 : ∀ (n : Nat) (y_13 : Int32) (y_14 : Int32) (H : Heap) (locs : List Loc) (ls : Array Slot), 1000030 - y_13.toInt ≤ (n : Int) → (30 ≤ y_13.toInt ∧ y_13.toInt ≤ 1000030) → va_P (dC, dI) vwCl (oW cq Z) H → va_S A s.heap H locs → lv_has ls 6 [(5, .int y_13), (4, .int y_14), (0, .ref o), (1, .int x1), (2, .int x2), (3, .ref a3)] → W p l e (headSpec wsX1_allotmentsPaid { frames := 2, cells := 0, slots := 0, locals := 49 }).room s m #[Value.ref o, Value.int x1, Value.int x2, Value.ref a3] below meth c H locs 0 0 (MQ below (va_Qi (fun (r : Int32) (u : Unit) => True) (fun _ _ => True) A) #[Value.ref o, Value.int x1, Value.int x2, Value.ref a3] s 0 0 A) (F0 m 36 ls []) := by
        intro n
        induction n using Nat.strongRecOn with
        | ind n ih =>
          intro y_13 y_14 H locs ls hm hy_13 hP hS hl
          refine lv_iload hx hb dX1_allotmentsPaid_36 (lv_at hl 0 rfl) ?_
          refine lv_iload_n hx hb dX1_allotmentsPaid_38 rfl (lv_at hl 3 rfl) ?_
          refine lv_icmp_gt (tgt := 69) hx hb dX1_allotmentsPaid_39 (by decide +kernel) (fun c_15 => ?_) (fun c_15 => ?_)
          · have dc_15 := c_lt (a := x1.toInt) (b := y_13.toInt) rfl rfl c_15
            refine lv_iload hx hb dX1_allotmentsPaid_69 (lv_at hl 1 rfl) ?_
            exact W.iret (v := y_14) hx hb hr (fun t ht hW => ⟨⟨y_14, (), rfl, trivial, trivial⟩, hS.F ht⟩) hS.2.2 dX1_allotmentsPaid_71
          · have dc_15 := c_nlt (a := x1.toInt) (b := y_13.toInt) rfl rfl c_15
            refine lv_aload_n hx hb dX1_allotmentsPaid_42 rfl (lv_at hl 2 rfl) ?_
            refine lv_iload hx hb dX1_allotmentsPaid_43 (lv_at hl 0 rfl) ?_
            refine lv_iload_n hx hb dX1_allotmentsPaid_45 rfl (lv_at hl 4 rfl) ?_
            refine lv_aload_n hx hb dX1_allotmentsPaid_46 rfl (lv_at hl 5 rfl) ?_
            have hFc : ∀ q, va_A [] H.size q → A q := pu_free hS hA
            obtain ⟨q_16, hq_16⟩ := og (cq := cq) to.1 (oE_1 to.2)
            refine va_calli (va_runV (As := [.int y_13, .int x2, .ref a3]) (rest := []) ⟨hx, hb, hml, hown, hts⟩ (c_X1_stateOn l dC dI H.size cq Z gI o to y_13 x2 a3 ta3) (cwV 3 hts gX1_allotmentsPaid_X1_stateOn rfl rfl rfl (by decide +kernel) ⟨(Nat.le_of_ble_eq_true rfl), (Nat.le_of_ble_eq_true rfl)⟩) (pr_V (r := (RX1, TX1, 18)) hP hK hD q_16 1 rfl hq_16) rfl rfl hl.1 rfl (lv_room (Nat.le_of_ble_eq_true rfl)) dX1_allotmentsPaid_47 ⟨(Nat.le_of_ble_eq_true rfl), (Nat.le_of_ble_eq_true rfl)⟩) hS (fun q _ h => hFc q h) hFc (fun r_18 u t H locs ht hvm w_17 hB hz1 hk1 hS => ?_)
            have hP := pu_keep hP hk1
            clear hk1 hz1 hvm hB ht hFc
            have hb_19 := w_17
            refine lv_iconst (v := 1) hx hb dX1_allotmentsPaid_50 (by decide +kernel) ?_
            refine lv_icmp_ne (tgt := 63) hx hb dX1_allotmentsPaid_51 (by decide +kernel) (fun c_20 => ?_) (fun c_20 => ?_)
            · have dc_20 := c_ne (a := r_18.toInt) (b := 1) rfl (by decide +kernel) c_20
              obtain ⟨x_21, ex_21⟩ : ∃ zq : Int32, y_13 + 30 = zq := ⟨_, rfl⟩
              have hx_21 : x_21.toInt = y_13.toInt + 30 := (iv_to ex_21).symm.trans (ad_i rfl (by decide +kernel) (by omega) (by omega))
              refine lv_iinc (v := x_21) (lv' := [(5, .int x_21), (4, .int y_14), (0, .ref o), (1, .int x1), (2, .int x2), (3, .ref a3)]) hx hb dX1_allotmentsPaid_63 hl (k := 0) rfl ex_21 (by decide +kernel) rfl (fun ls hl => ?_)
              clear ex_21
              refine lv_goto (tgt := 36) hx hb dX1_allotmentsPaid_66 (by decide +kernel) ?_
              exact ih (n - 1) (by omega) x_21 y_14 _ _ ls (by omega) (by omega) hP hS (lv_sub hl [0, 1, 2, 3, 4, 5] rfl)
            · have dc_20 := c_eq (a := r_18.toInt) (b := 1) rfl (by decide +kernel) c_20
              refine lv_iload hx hb dX1_allotmentsPaid_54 (lv_at hl 1 rfl) ?_
              refine lv_aload_n hx hb dX1_allotmentsPaid_56 rfl (lv_at hl 2 rfl) ?_
              refine va_get (D := (dC, dI)) (ci := 1) (v := .int (oI Z o 11)) (C := RX1) (T := TX1) (N := 18) hx hb hts in_wsX1_allotmentsPaid_X1 hown hK hP q_16 hq_16 rfl 11 (by decide +kernel) (hts (.fieldLink RX1 133 "ShipOffice$Agreement" "allotment" "I") iw_X1_allotmentsPaid_1) (fun _ h9 => h9) rfl dX1_allotmentsPaid_57 ?_
              refine lv_topi (fun x_22 ex_22 => ?_)
              clear ex_22
              refine lv_iadd hx hb dX1_allotmentsPaid_60 ?_
              refine lv_topi (fun x_23 ex_23 => ?_)
              clear ex_23
              refine lv_istore (lv' := [(4, .int x_23), (5, .int y_13), (0, .ref o), (1, .int x1), (2, .int x2), (3, .ref a3)]) hx hb dX1_allotmentsPaid_61 hl (by decide +kernel) rfl (fun ls hl => ?_)
              obtain ⟨x_24, ex_24⟩ : ∃ zq : Int32, y_13 + 30 = zq := ⟨_, rfl⟩
              have hx_24 : x_24.toInt = y_13.toInt + 30 := (iv_to ex_24).symm.trans (ad_i rfl (by decide +kernel) (by omega) (by omega))
              refine lv_iinc (v := x_24) (lv' := [(5, .int x_24), (4, .int x_23), (0, .ref o), (1, .int x1), (2, .int x2), (3, .ref a3)]) hx hb dX1_allotmentsPaid_63 hl (k := 1) rfl ex_24 (by decide +kernel) rfl (fun ls hl => ?_)
              clear ex_24
              refine lv_goto (tgt := 36) hx hb dX1_allotmentsPaid_66 (by decide +kernel) ?_
              exact ih (n - 1) (by omega) x_24 x_23 _ _ ls (by omega) (by omega) hP hS (lv_sub hl [0, 1, 2, 3, 4, 5] rfl)
      have kc_25 : (0 : Int32).toInt = 0 := by decide
      exact cut_12 1000031 x_11 0 _ _ ls (by omega) (by omega) hP hS (lv_sub hl [0, 1, 2, 3, 4, 5] rfl)
    · have dc_9 := c_eq (a := r_7.toInt) (b := 0) rfl (by decide +kernel) c_9
      refine lv_iconst (v := 0) hx hb dX1_allotmentsPaid_19 (by decide +kernel) ?_
      exact W.iret (v := 0) hx hb hr (fun t ht hW => ⟨⟨0, (), rfl, trivial, trivial⟩, hS.F ht⟩) hS.2.2 dX1_allotmentsPaid_20
set_option maxHeartbeats 4000000 in
set_option maxRecDepth 100000 in
theorem c_X1_shortPence (l : Launch) (dC : Nat → ClassId) (dI : Nat → Nat → Nat) (sz : Nat) (cq : Nat → ClassId) (Z : oS) (gI : oInv Z) (o : Nat) (to : oty Z o 1) (x1 : Int32) : Met l yX1_shortPence wsX1_shortPence ({ frames := 0, cells := 0, slots := 0, locals := 0 }) (va_Pc [.ref o, .int x1] (pcW (dC, dI) (oT cq) (oW cq Z) sz)) (va_Qi (fun (r : Int32) (u : Unit) => True) (fun _ _ => True) (va_A [] sz)) 0 0 (va_A [] sz) := by
  refine Met.ofW (cc := cX1_shortPence) (maxL := 4) (ret := (some .int)) (by decide +kernel) rfl ?_
  intro p e s m args below meth c s₁ B hml hv
  obtain ⟨rfl, hsz, hP, hK, hD0⟩ := hv
  have hx := B.exec
  have hb := B.bytes
  have hr := B.returns
  have hts := atoms_spec (ws := wsX1_shortPence) B.pre
  have hown : s.vm.findClass RX1 = some m.cls := findClass_of_methodNamed B.named
  have hlocks := B.notSynchronized
  subst hsz
  have hD := hD0
  generalize hAe : va_A [] s.heap.size = A at ⊢
  have hA : ∀ q : Nat, s.heap.size ≤ q → A q := fun q h => by rw [← hAe]; exact Or.inr h
  have hS : va_S A s.heap s.heap [] := va_S.rf
  have hP : va_P (dC, dI) vwCl (oW cq Z) s.heap := hP
  have hl := lv_entry ([.ref o, .int x1]) (n := 4) (Nat.le_of_ble_eq_true rfl)
  rw [lg_entry_eq]
  generalize (lg_sl ([.ref o, .int x1]) ++ List.replicate (4 - (lg_sl ([.ref o, .int x1])).length) Slot.unset).toArray = ls at hl ⊢
  have hl : lv_has ls 4 [(0, .ref o), (1, .int x1)] := hl
  refine lv_iconst (v := 0) hx hb dX1_shortPence_0 (by decide +kernel) ?_
  refine lv_istore_n (lv' := [(2, .int 0), (0, .ref o), (1, .int x1)]) hx hb dX1_shortPence_1 rfl hl (by decide +kernel) rfl (fun ls hl => ?_)
  refine lv_iconst (v := 0) hx hb dX1_shortPence_2 (by decide +kernel) ?_
  refine lv_istore_n (lv' := [(3, .int 0), (2, .int 0), (0, .ref o), (1, .int x1)]) hx hb dX1_shortPence_3 rfl hl (by decide +kernel) rfl (fun ls hl => ?_)
  have cut_1 : ∀ (n : Nat) (y_2 : Int32) (y_3 : Int32) (H : Heap) (locs : List Loc) (ls : Array Slot), 20 - y_2.toInt ≤ (n : Int) → (0 ≤ y_2.toInt ∧ y_2.toInt ≤ 20) → va_P (dC, dI) vwCl (oW cq Z) H → va_S A s.heap H locs → lv_has ls 4 [(3, .int y_2), (2, .int y_3), (0, .ref o), (1, .int x1)] → W p l e (headSpec wsX1_shortPence { frames := 0, cells := 0, slots := 0, locals := 0 }).room s m #[Value.ref o, Value.int x1] below meth c H locs 0 0 (MQ below (va_Qi (fun (r : Int32) (u : Unit) => True) (fun _ _ => True) A) #[Value.ref o, Value.int x1] s 0 0 A) (F0 m 4 ls []) := by
    intro n
    induction n using Nat.strongRecOn with
    | ind n ih =>
      intro y_2 y_3 H locs ls hm hy_2 hP hS hl
      refine lv_iload_n hx hb dX1_shortPence_4 rfl (lv_at hl 0 rfl) ?_
      refine lv_aload_n hx hb dX1_shortPence_5 rfl (lv_at hl 2 rfl) ?_
      obtain ⟨q_4, hq_4⟩ := og (cq := cq) to.1 (oE_1 to.2)
      refine va_get (D := (dC, dI)) (ci := 1) (v := .int (oI Z o 16)) (C := RX1) (T := TX1) (N := 18) hx hb hts in_wsX1_shortPence_X1 hown hK hP q_4 hq_4 rfl 16 (by decide +kernel) (hts (.fieldLink RX1 136 "ShipOffice$Agreement" "shortCount" "I") iw_X1_shortPence_1) (fun _ h9 => h9) rfl dX1_shortPence_6 ?_
      refine lv_topi (fun x_5 ex_5 => ?_)
      have hx_5 : 0 ≤ x_5.toInt ∧ x_5.toInt ≤ 20 := iv_of ex_5 (oInv.iv gI to.2 rfl rfl)
      have gx_5 : x_5.toInt = (oI Z o 16).toInt := iv_to ex_5
      clear ex_5
      refine lv_icmp_ge (tgt := 37) hx hb dX1_shortPence_9 (by decide +kernel) (fun c_6 => ?_) (fun c_6 => ?_)
      · have dc_6 := c_le (a := x_5.toInt) (b := y_2.toInt) rfl rfl c_6
        refine lv_iload_n hx hb dX1_shortPence_37 rfl (lv_at hl 1 rfl) ?_
        exact W.iret (v := y_3) hx hb hr (fun t ht hW => ⟨⟨y_3, (), rfl, trivial, trivial⟩, hS.F ht⟩) hS.2.2 dX1_shortPence_38
      · have dc_6 := c_nle (a := x_5.toInt) (b := y_2.toInt) rfl rfl c_6
        refine lv_aload_n hx hb dX1_shortPence_12 rfl (lv_at hl 2 rfl) ?_
        obtain ⟨b_7, hb_7⟩ := oInv.nn (i := 14) gI to rfl
        refine va_get (D := (dC, dI)) (ci := 1) (v := .ref b_7) (C := RX1) (T := TX1) (N := 18) hx hb hts in_wsX1_shortPence_X1 hown hK hP q_4 hq_4 rfl 14 (by decide +kernel) (hts (.fieldLink RX1 22 "ShipOffice$Agreement" "shortTold" "[I") iw_X1_shortPence_2) (fun _ h9 => h9) (o_rd hb_7) dX1_shortPence_13 ?_
        have tb_7 : oty Z b_7 120 := oInv.rd gI to.2 hb_7 rfl rfl
        refine lv_iload_n hx hb dX1_shortPence_16 rfl (lv_at hl 0 rfl) ?_
        obtain ⟨q_8, hq_8⟩ := og (cq := cq) tb_7.1 (oE_a1 (n := 20) tb_7.2 (by decide +kernel))
        refine va_iald hx hb hK hP q_8 0 hq_8 rfl (vp_in_iff.mpr (by omega)) dX1_shortPence_17 ?_
        refine lv_topi (fun x_9 ex_9 => ?_)
        clear ex_9
        refine lv_iload_n hx hb dX1_shortPence_18 rfl (lv_at hl 3 rfl) ?_
        refine lv_icmp_gt (tgt := 31) hx hb dX1_shortPence_19 (by decide +kernel) (fun c_10 => ?_) (fun c_10 => ?_)
        · have dc_10 := c_lt (a := x1.toInt) (b := x_9.toInt) rfl rfl c_10
          obtain ⟨x_11, ex_11⟩ : ∃ zq : Int32, y_2 + 1 = zq := ⟨_, rfl⟩
          have hx_11 : x_11.toInt = y_2.toInt + 1 := (iv_to ex_11).symm.trans (ad_i rfl (by decide +kernel) (by omega) (by omega))
          refine lv_iinc (v := x_11) (lv' := [(3, .int x_11), (2, .int y_3), (0, .ref o), (1, .int x1)]) hx hb dX1_shortPence_31 hl (k := 0) rfl ex_11 (by decide +kernel) rfl (fun ls hl => ?_)
          clear ex_11
          refine lv_goto (tgt := 4) hx hb dX1_shortPence_34 (by decide +kernel) ?_
          exact ih (n - 1) (by omega) x_11 y_3 _ _ ls (by omega) (by omega) hP hS (lv_sub hl [0, 1, 2, 3] rfl)
        · have dc_10 := c_nlt (a := x1.toInt) (b := x_9.toInt) rfl rfl c_10
          refine lv_iload_n hx hb dX1_shortPence_22 rfl (lv_at hl 1 rfl) ?_
          refine lv_aload_n hx hb dX1_shortPence_23 rfl (lv_at hl 2 rfl) ?_
          obtain ⟨b_12, hb_12⟩ := oInv.nn (i := 15) gI to rfl
          refine va_get (D := (dC, dI)) (ci := 1) (v := .ref b_12) (C := RX1) (T := TX1) (N := 18) hx hb hts in_wsX1_shortPence_X1 hown hK hP q_4 hq_4 rfl 15 (by decide +kernel) (hts (.fieldLink RX1 26 "ShipOffice$Agreement" "shortSum" "[I") iw_X1_shortPence_3) (fun _ h9 => h9) (o_rd hb_12) dX1_shortPence_24 ?_
          have tb_12 : oty Z b_12 64 := oInv.rd gI to.2 hb_12 rfl rfl
          refine lv_iload_n hx hb dX1_shortPence_27 rfl (lv_at hl 0 rfl) ?_
          obtain ⟨q_13, hq_13⟩ := og (cq := cq) tb_12.1 (oE_64 tb_12.2)
          refine va_iald hx hb hK hP q_13 0 hq_13 rfl (vp_in_iff.mpr (by omega)) dX1_shortPence_28 ?_
          refine lv_topi (fun x_14 ex_14 => ?_)
          clear ex_14
          refine lv_iadd hx hb dX1_shortPence_29 ?_
          refine lv_topi (fun x_15 ex_15 => ?_)
          clear ex_15
          refine lv_istore_n (lv' := [(2, .int x_15), (3, .int y_2), (0, .ref o), (1, .int x1)]) hx hb dX1_shortPence_30 rfl hl (by decide +kernel) rfl (fun ls hl => ?_)
          obtain ⟨x_16, ex_16⟩ : ∃ zq : Int32, y_2 + 1 = zq := ⟨_, rfl⟩
          have hx_16 : x_16.toInt = y_2.toInt + 1 := (iv_to ex_16).symm.trans (ad_i rfl (by decide +kernel) (by omega) (by omega))
          refine lv_iinc (v := x_16) (lv' := [(3, .int x_16), (2, .int x_15), (0, .ref o), (1, .int x1)]) hx hb dX1_shortPence_31 hl (k := 1) rfl ex_16 (by decide +kernel) rfl (fun ls hl => ?_)
          clear ex_16
          refine lv_goto (tgt := 4) hx hb dX1_shortPence_34 (by decide +kernel) ?_
          exact ih (n - 1) (by omega) x_16 x_15 _ _ ls (by omega) (by omega) hP hS (lv_sub hl [0, 1, 2, 3] rfl)
  have kc_17 : (0 : Int32).toInt = 0 := by decide
  exact cut_1 21 0 0 _ _ ls (by omega) (by decide +kernel) hP hS (lv_sub hl [0, 1, 2, 3] rfl)
