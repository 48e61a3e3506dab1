abbrev wsX10 : List Cond := u_ws RX1 TX1 18
abbrev cX1_goesOn : ByteArray := prog_3_method_2_code
def yX1_goesOn : MethodName := ⟨RX1, "goesOn", "()Z"⟩
abbrev wsX90 : List Cond := u_ws RX9 TX9 10
abbrev cX9_takesHands : ByteArray := prog_11_method_2_code
def yX9_takesHands : MethodName := ⟨RX9, "takesHands", "()Z"⟩
abbrev cX9_sailedBy : ByteArray := prog_11_method_3_code
def yX9_sailedBy : MethodName := ⟨RX9, "sailedBy", "(II)Z"⟩
abbrev cX9_lostBy : ByteArray := prog_11_method_4_code
def yX9_lostBy : MethodName := ⟨RX9, "lostBy", "(II)Z"⟩
abbrev cX10_fineAt : ByteArray := prog_1_method_42_code
def yX10_fineAt : MethodName := ⟨RX10, "fineAt", "(LShipOffice$Agreement;I)LShipOffice$Fine;"⟩
abbrev cX10_voyageRefusal : ByteArray := prog_1_method_43_code
def yX10_voyageRefusal : MethodName := ⟨RX10, "voyageRefusal", "(LShipOffice$Voyage;IZ)I"⟩
abbrev cX10_tidingRefusal : ByteArray := prog_1_method_44_code
def yX10_tidingRefusal : MethodName := ⟨RX10, "tidingRefusal", "(LShipOffice$Agreement;I)I"⟩
abbrev cX10_askRefusal : ByteArray := prog_1_method_45_code
def yX10_askRefusal : MethodName := ⟨RX10, "askRefusal", "(II)I"⟩
abbrev cX10_hasVoyage : ByteArray := prog_1_method_49_code
def yX10_hasVoyage : MethodName := ⟨RX10, "hasVoyage", "(I)Z"⟩
abbrev cX10_isFree : ByteArray := prog_1_method_50_code
def yX10_isFree : MethodName := ⟨RX10, "isFree", "(LShipOffice$Man;)Z"⟩
abbrev cX10_openVoyages : ByteArray := prog_1_method_51_code
def yX10_openVoyages : MethodName := ⟨RX10, "openVoyages", "()I"⟩
abbrev cX10_openAgreements : ByteArray := prog_1_method_52_code
def yX10_openAgreements : MethodName := ⟨RX10, "openAgreements", "()I"⟩
abbrev cX10_lastDay : ByteArray := prog_1_method_56_code
def yX10_lastDay : MethodName := ⟨RX10, "lastDay", "(LShipOffice$Agreement;)I"⟩
def wsX1_goesOn : List Cond := .code yX1_goesOn cX1_goesOn 1 (some .boolean) :: ([.fieldLink RX1 10 "ShipOffice$Agreement" "offDay" "I", .constant RX1 9 (1000000), .fieldLink RX1 44 "ShipOffice$Agreement" "isDead" "Z", .fieldLink RX1 33 "ShipOffice$Agreement" "voyage" "LShipOffice$Voyage;", .fieldLink RX1 48 "ShipOffice$Voyage" "lostTold" "I"] ++ wsX10 ++ wsX90)
theorem gw_X1_goesOn : wsX1_goesOn.all goodWord = true := by decide +kernel
theorem il_X1_goesOn_1 : ∀ w ∈ ([.fieldLink RX1 10 "ShipOffice$Agreement" "offDay" "I", .constant RX1 9 (1000000), .fieldLink RX1 44 "ShipOffice$Agreement" "isDead" "Z", .fieldLink RX1 33 "ShipOffice$Agreement" "voyage" "LShipOffice$Voyage;", .fieldLink RX1 48 "ShipOffice$Voyage" "lostTold" "I"] : List Cond), w ∈ wsX1_goesOn := fun w h => (List.mem_cons_of_mem _ (List.mem_append_left _ (List.mem_append_left _ h)))
theorem iw_X1_goesOn_1 : Cond.fieldLink RX1 10 "ShipOffice$Agreement" "offDay" "I" ∈ wsX1_goesOn := (mmI il_X1_goesOn_1 0 rfl)
theorem iw_X1_goesOn_2 : Cond.fieldLink RX1 44 "ShipOffice$Agreement" "isDead" "Z" ∈ wsX1_goesOn := (mmI il_X1_goesOn_1 2 rfl)
theorem iw_X1_goesOn_3 : Cond.fieldLink RX1 33 "ShipOffice$Agreement" "voyage" "LShipOffice$Voyage;" ∈ wsX1_goesOn := (mmI il_X1_goesOn_1 3 rfl)
theorem iw_X1_goesOn_4 : Cond.fieldLink RX1 48 "ShipOffice$Voyage" "lostTold" "I" ∈ wsX1_goesOn := (mmI il_X1_goesOn_1 4 rfl)
def wsX9_lostBy : List Cond := .code yX9_lostBy cX9_lostBy 3 (some .boolean) :: ([.fieldLink RX9 22 "ShipOffice$Voyage" "lostTold" "I", .fieldLink RX9 19 "ShipOffice$Voyage" "lostDay" "I"] ++ wsX90)
theorem il_X9_lostBy_1 : ∀ w ∈ ([.fieldLink RX9 22 "ShipOffice$Voyage" "lostTold" "I", .fieldLink RX9 19 "ShipOffice$Voyage" "lostDay" "I"] : List Cond), w ∈ wsX9_lostBy := fun w h => (List.mem_cons_of_mem _ (List.mem_append_left _ h))
theorem iw_X9_lostBy_1 : Cond.fieldLink RX9 22 "ShipOffice$Voyage" "lostTold" "I" ∈ wsX9_lostBy := (mmI il_X9_lostBy_1 0 rfl)
theorem iw_X9_lostBy_2 : Cond.fieldLink RX9 19 "ShipOffice$Voyage" "lostDay" "I" ∈ wsX9_lostBy := (mmI il_X9_lostBy_1 1 rfl)
def wsX9_sailedBy : List Cond := .code yX9_sailedBy cX9_sailedBy 3 (some .boolean) :: ([.fieldLink RX9 16 "ShipOffice$Voyage" "sailedTold" "I", .fieldLink RX9 10 "ShipOffice$Voyage" "sailedDay" "I"] ++ wsX90)
theorem il_X9_sailedBy_1 : ∀ w ∈ ([.fieldLink RX9 16 "ShipOffice$Voyage" "sailedTold" "I", .fieldLink RX9 10 "ShipOffice$Voyage" "sailedDay" "I"] : List Cond), w ∈ wsX9_sailedBy := fun w h => (List.mem_cons_of_mem _ (List.mem_append_left _ h))
theorem iw_X9_sailedBy_1 : Cond.fieldLink RX9 16 "ShipOffice$Voyage" "sailedTold" "I" ∈ wsX9_sailedBy := (mmI il_X9_sailedBy_1 0 rfl)
theorem iw_X9_sailedBy_2 : Cond.fieldLink RX9 10 "ShipOffice$Voyage" "sailedDay" "I" ∈ wsX9_sailedBy := (mmI il_X9_sailedBy_1 1 rfl)
def wsX9_takesHands : List Cond := .code yX9_takesHands cX9_takesHands 1 (some .boolean) :: ([.fieldLink RX9 37 "ShipOffice$Voyage" "isOver" "Z", .fieldLink RX9 16 "ShipOffice$Voyage" "sailedTold" "I", .constant RX9 9 (1000000), .fieldLink RX9 22 "ShipOffice$Voyage" "lostTold" "I"] ++ wsX90)
theorem il_X9_takesHands_1 : ∀ w ∈ ([.fieldLink RX9 37 "ShipOffice$Voyage" "isOver" "Z", .fieldLink RX9 16 "ShipOffice$Voyage" "sailedTold" "I", .constant RX9 9 (1000000), .fieldLink RX9 22 "ShipOffice$Voyage" "lostTold" "I"] : List Cond), w ∈ wsX9_takesHands := fun w h => (List.mem_cons_of_mem _ (List.mem_append_left _ h))
theorem iw_X9_takesHands_1 : Cond.fieldLink RX9 37 "ShipOffice$Voyage" "isOver" "Z" ∈ wsX9_takesHands := (mmI il_X9_takesHands_1 0 rfl)
theorem iw_X9_takesHands_2 : Cond.fieldLink RX9 16 "ShipOffice$Voyage" "sailedTold" "I" ∈ wsX9_takesHands := (mmI il_X9_takesHands_1 1 rfl)
theorem iw_X9_takesHands_3 : Cond.fieldLink RX9 22 "ShipOffice$Voyage" "lostTold" "I" ∈ wsX9_takesHands := (mmI il_X9_takesHands_1 3 rfl)
def wsX10_hasVoyage : List Cond := .code yX10_hasVoyage cX10_hasVoyage 3 (some .boolean) :: ([.fieldLink RX10 99 "ShipOffice" "voyageCount" "I", .fieldLink RX10 17 "ShipOffice" "voyages" "[LShipOffice$Voyage;", .fieldLink RX10 386 "ShipOffice$Voyage" "ship" "I", .fieldLink RX10 107 "ShipOffice$Voyage" "isOver" "Z"] ++ wsX100 ++ wsX90)
theorem il_X10_hasVoyage_1 : ∀ w ∈ ([.fieldLink RX10 99 "ShipOffice" "voyageCount" "I", .fieldLink RX10 17 "ShipOffice" "voyages" "[LShipOffice$Voyage;", .fieldLink RX10 386 "ShipOffice$Voyage" "ship" "I", .fieldLink RX10 107 "ShipOffice$Voyage" "isOver" "Z"] : List Cond), w ∈ wsX10_hasVoyage := fun w h => (List.mem_cons_of_mem _ (List.mem_append_left _ (List.mem_append_left _ h)))
theorem iw_X10_hasVoyage_1 : Cond.fieldLink RX10 99 "ShipOffice" "voyageCount" "I" ∈ wsX10_hasVoyage := (mmI il_X10_hasVoyage_1 0 rfl)
theorem iw_X10_hasVoyage_2 : Cond.fieldLink RX10 17 "ShipOffice" "voyages" "[LShipOffice$Voyage;" ∈ wsX10_hasVoyage := (mmI il_X10_hasVoyage_1 1 rfl)
theorem iw_X10_hasVoyage_3 : Cond.fieldLink RX10 386 "ShipOffice$Voyage" "ship" "I" ∈ wsX10_hasVoyage := (mmI il_X10_hasVoyage_1 2 rfl)
theorem iw_X10_hasVoyage_4 : Cond.fieldLink RX10 107 "ShipOffice$Voyage" "isOver" "Z" ∈ wsX10_hasVoyage := (mmI il_X10_hasVoyage_1 3 rfl)
def wsX10_voyageRefusal : List Cond := .code yX10_voyageRefusal cX10_voyageRefusal 4 (some .int) :: ([.fieldLink RX10 107 "ShipOffice$Voyage" "isOver" "Z", .fieldLink RX10 365 "ShipOffice$Voyage" "openedOn" "I", .fieldLink RX10 73 "ShipOffice" "now" "I", .fieldLink RX10 139 "ShipOffice" "happeningCount" "I"] ++ wsX90 ++ wsX100)
theorem il_X10_voyageRefusal_1 : ∀ w ∈ ([.fieldLink RX10 107 "ShipOffice$Voyage" "isOver" "Z", .fieldLink RX10 365 "ShipOffice$Voyage" "openedOn" "I", .fieldLink RX10 73 "ShipOffice" "now" "I", .fieldLink RX10 139 "ShipOffice" "happeningCount" "I"] : List Cond), w ∈ wsX10_voyageRefusal := fun w h => (List.mem_cons_of_mem _ (List.mem_append_left _ (List.mem_append_left _ h)))
theorem iw_X10_voyageRefusal_1 : Cond.fieldLink RX10 107 "ShipOffice$Voyage" "isOver" "Z" ∈ wsX10_voyageRefusal := (mmI il_X10_voyageRefusal_1 0 rfl)
theorem iw_X10_voyageRefusal_2 : Cond.fieldLink RX10 365 "ShipOffice$Voyage" "openedOn" "I" ∈ wsX10_voyageRefusal := (mmI il_X10_voyageRefusal_1 1 rfl)
theorem iw_X10_voyageRefusal_3 : Cond.fieldLink RX10 73 "ShipOffice" "now" "I" ∈ wsX10_voyageRefusal := (mmI il_X10_voyageRefusal_1 2 rfl)
theorem iw_X10_voyageRefusal_4 : Cond.fieldLink RX10 139 "ShipOffice" "happeningCount" "I" ∈ wsX10_voyageRefusal := (mmI il_X10_voyageRefusal_1 3 rfl)
def wsX10_tidingRefusal : List Cond := .code yX10_tidingRefusal cX10_tidingRefusal 3 (some .int) :: ([.fieldLink RX10 126 "ShipOffice$Agreement" "offDay" "I", .constant RX10 114 (1000000), .fieldLink RX10 255 "ShipOffice$Agreement" "signedOn" "I", .fieldLink RX10 73 "ShipOffice" "now" "I", .fieldLink RX10 139 "ShipOffice" "happeningCount" "I"] ++ wsX10 ++ wsX100)
theorem il_X10_tidingRefusal_1 : ∀ w ∈ ([.fieldLink RX10 126 "ShipOffice$Agreement" "offDay" "I", .constant RX10 114 (1000000), .fieldLink RX10 255 "ShipOffice$Agreement" "signedOn" "I", .fieldLink RX10 73 "ShipOffice" "now" "I", .fieldLink RX10 139 "ShipOffice" "happeningCount" "I"] : List Cond), w ∈ wsX10_tidingRefusal := fun w h => (List.mem_cons_of_mem _ (List.mem_append_left _ (List.mem_append_left _ h)))
theorem iw_X10_tidingRefusal_1 : Cond.fieldLink RX10 126 "ShipOffice$Agreement" "offDay" "I" ∈ wsX10_tidingRefusal := (mmI il_X10_tidingRefusal_1 0 rfl)
theorem iw_X10_tidingRefusal_2 : Cond.fieldLink RX10 255 "ShipOffice$Agreement" "signedOn" "I" ∈ wsX10_tidingRefusal := (mmI il_X10_tidingRefusal_1 2 rfl)
theorem iw_X10_tidingRefusal_3 : Cond.fieldLink RX10 73 "ShipOffice" "now" "I" ∈ wsX10_tidingRefusal := (mmI il_X10_tidingRefusal_1 3 rfl)
theorem iw_X10_tidingRefusal_4 : Cond.fieldLink RX10 139 "ShipOffice" "happeningCount" "I" ∈ wsX10_tidingRefusal := (mmI il_X10_tidingRefusal_1 4 rfl)
def wsX10_isFree : List Cond := .code yX10_isFree cX10_isFree 3 (some .boolean) :: ([.fieldLink RX10 115 "ShipOffice" "agreementCount" "I", .fieldLink RX10 23 "ShipOffice" "agreements" "[LShipOffice$Agreement;", .fieldLink RX10 299 "ShipOffice$Agreement" "man" "LShipOffice$Man;", .methodLink RX10 122 yX1_goesOn, .instanceMethod yX1_goesOn, .selects RX1 yX1_goesOn yX1_goesOn, .initialized RX1, .code yX1_goesOn cX1_goesOn 1 (some .boolean), .fieldLink RX1 10 "ShipOffice$Agreement" "offDay" "I", .constant RX1 9 (1000000), .fieldLink RX1 44 "ShipOffice$Agreement" "isDead" "Z", .fieldLink RX1 33 "ShipOffice$Agreement" "voyage" "LShipOffice$Voyage;", .fieldLink RX1 48 "ShipOffice$Voyage" "lostTold" "I"] ++ wsX100 ++ wsX10 ++ wsX90)
theorem il_X10_isFree_1 : ∀ w ∈ ([.fieldLink RX10 115 "ShipOffice" "agreementCount" "I", .fieldLink RX10 23 "ShipOffice" "agreements" "[LShipOffice$Agreement;", .fieldLink RX10 299 "ShipOffice$Agreement" "man" "LShipOffice$Man;", .methodLink RX10 122 yX1_goesOn, .instanceMethod yX1_goesOn, .selects RX1 yX1_goesOn yX1_goesOn, .initialized RX1, .code yX1_goesOn cX1_goesOn 1 (some .boolean), .fieldLink RX1 10 "ShipOffice$Agreement" "offDay" "I", .constant RX1 9 (1000000), .fieldLink RX1 44 "ShipOffice$Agreement" "isDead" "Z", .fieldLink RX1 33 "ShipOffice$Agreement" "voyage" "LShipOffice$Voyage;", .fieldLink RX1 48 "ShipOffice$Voyage" "lostTold" "I"] : List Cond), w ∈ wsX10_isFree := fun w h => (List.mem_cons_of_mem _ (List.mem_append_left _ (List.mem_append_left _ (List.mem_append_left _ h))))
theorem il_X10_isFree_3 : ∀ w ∈ wsX10, w ∈ wsX10_isFree := fun w h => (List.mem_cons_of_mem _ (List.mem_append_left _ (List.mem_append_right _ h)))
theorem il_X10_isFree_4 : ∀ w ∈ wsX90, w ∈ wsX10_isFree := fun w h => (List.mem_cons_of_mem _ (List.mem_append_right _ h))
theorem iw_X10_isFree_1 : Cond.fieldLink RX10 115 "ShipOffice" "agreementCount" "I" ∈ wsX10_isFree := (mmI il_X10_isFree_1 0 rfl)
theorem iw_X10_isFree_2 : Cond.fieldLink RX10 23 "ShipOffice" "agreements" "[LShipOffice$Agreement;" ∈ wsX10_isFree := (mmI il_X10_isFree_1 1 rfl)
theorem iw_X10_isFree_3 : Cond.fieldLink RX10 299 "ShipOffice$Agreement" "man" "LShipOffice$Man;" ∈ wsX10_isFree := (mmI il_X10_isFree_1 2 rfl)
def wsX10_askRefusal : List Cond := .code yX10_askRefusal cX10_askRefusal 3 (some .int) :: ([.fieldLink RX10 73 "ShipOffice" "now" "I"] ++ wsX100)
theorem il_X10_askRefusal_1 : ∀ w ∈ ([.fieldLink RX10 73 "ShipOffice" "now" "I"] : List Cond), w ∈ wsX10_askRefusal := fun w h => (List.mem_cons_of_mem _ (List.mem_append_left _ h))
theorem iw_X10_askRefusal_1 : Cond.fieldLink RX10 73 "ShipOffice" "now" "I" ∈ wsX10_askRefusal := (mmI il_X10_askRefusal_1 0 rfl)
def wsX10_fineAt : List Cond := .code yX10_fineAt cX10_fineAt 2 (some (.object "ShipOffice$Fine")) :: ([.fieldLink RX10 258 "ShipOffice$Agreement" "fineCount" "I", .fieldLink RX10 261 "ShipOffice$Agreement" "fines" "[LShipOffice$Fine;"] ++ wsX10)
theorem il_X10_fineAt_1 : ∀ w ∈ ([.fieldLink RX10 258 "ShipOffice$Agreement" "fineCount" "I", .fieldLink RX10 261 "ShipOffice$Agreement" "fines" "[LShipOffice$Fine;"] : List Cond), w ∈ wsX10_fineAt := fun w h => (List.mem_cons_of_mem _ (List.mem_append_left _ h))
theorem iw_X10_fineAt_1 : Cond.fieldLink RX10 258 "ShipOffice$Agreement" "fineCount" "I" ∈ wsX10_fineAt := (mmI il_X10_fineAt_1 0 rfl)
theorem iw_X10_fineAt_2 : Cond.fieldLink RX10 261 "ShipOffice$Agreement" "fines" "[LShipOffice$Fine;" ∈ wsX10_fineAt := (mmI il_X10_fineAt_1 1 rfl)
def wsX10_lastDay : List Cond := .code yX10_lastDay cX10_lastDay 2 (some .int) :: ([.fieldLink RX10 126 "ShipOffice$Agreement" "offDay" "I", .constant RX10 114 (1000000), .fieldLink RX10 73 "ShipOffice" "now" "I"] ++ wsX10 ++ wsX100)
theorem il_X10_lastDay_1 : ∀ w ∈ ([.fieldLink RX10 126 "ShipOffice$Agreement" "offDay" "I", .constant RX10 114 (1000000), .fieldLink RX10 73 "ShipOffice" "now" "I"] : List Cond), w ∈ wsX10_lastDay := fun w h => (List.mem_cons_of_mem _ (List.mem_append_left _ (List.mem_append_left _ h)))
theorem iw_X10_lastDay_1 : Cond.fieldLink RX10 126 "ShipOffice$Agreement" "offDay" "I" ∈ wsX10_lastDay := (mmI il_X10_lastDay_1 0 rfl)
theorem iw_X10_lastDay_2 : Cond.fieldLink RX10 73 "ShipOffice" "now" "I" ∈ wsX10_lastDay := (mmI il_X10_lastDay_1 2 rfl)
def wsX10_openVoyages : List Cond := .code yX10_openVoyages cX10_openVoyages 3 (some .int) :: ([.fieldLink RX10 99 "ShipOffice" "voyageCount" "I", .fieldLink RX10 17 "ShipOffice" "voyages" "[LShipOffice$Voyage;", .fieldLink RX10 107 "ShipOffice$Voyage" "isOver" "Z"] ++ wsX100 ++ wsX90)
theorem il_X10_openVoyages_1 : ∀ w ∈ ([.fieldLink RX10 99 "ShipOffice" "voyageCount" "I", .fieldLink RX10 17 "ShipOffice" "voyages" "[LShipOffice$Voyage;", .fieldLink RX10 107 "ShipOffice$Voyage" "isOver" "Z"] : List Cond), w ∈ wsX10_openVoyages := fun w h => (List.mem_cons_of_mem _ (List.mem_append_left _ (List.mem_append_left _ h)))
theorem iw_X10_openVoyages_1 : Cond.fieldLink RX10 99 "ShipOffice" "voyageCount" "I" ∈ wsX10_openVoyages := (mmI il_X10_openVoyages_1 0 rfl)
theorem iw_X10_openVoyages_2 : Cond.fieldLink RX10 17 "ShipOffice" "voyages" "[LShipOffice$Voyage;" ∈ wsX10_openVoyages := (mmI il_X10_openVoyages_1 1 rfl)
theorem iw_X10_openVoyages_3 : Cond.fieldLink RX10 107 "ShipOffice$Voyage" "isOver" "Z" ∈ wsX10_openVoyages := (mmI il_X10_openVoyages_1 2 rfl)
def wsX10_openAgreements : List Cond := .code yX10_openAgreements cX10_openAgreements 3 (some .int) :: ([.fieldLink RX10 115 "ShipOffice" "agreementCount" "I", .fieldLink RX10 23 "ShipOffice" "agreements" "[LShipOffice$Agreement;", .methodLink RX10 122 yX1_goesOn, .instanceMethod yX1_goesOn, .selects RX1 yX1_goesOn yX1_goesOn, .initialized RX1, .code yX1_goesOn cX1_goesOn 1 (some .boolean), .fieldLink RX1 10 "ShipOffice$Agreement" "offDay" "I", .constant RX1 9 (1000000), .fieldLink RX1 44 "ShipOffice$Agreement" "isDead" "Z", .fieldLink RX1 33 "ShipOffice$Agreement" "voyage" "LShipOffice$Voyage;", .fieldLink RX1 48 "ShipOffice$Voyage" "lostTold" "I"] ++ wsX100 ++ wsX10 ++ wsX90)
theorem il_X10_openAgreements_1 : ∀ w ∈ ([.fieldLink RX10 115 "ShipOffice" "agreementCount" "I", .fieldLink RX10 23 "ShipOffice" "agreements" "[LShipOffice$Agreement;", .methodLink RX10 122 yX1_goesOn, .instanceMethod yX1_goesOn, .selects RX1 yX1_goesOn yX1_goesOn, .initialized RX1, .code yX1_goesOn cX1_goesOn 1 (some .boolean), .fieldLink RX1 10 "ShipOffice$Agreement" "offDay" "I", .constant RX1 9 (1000000), .fieldLink RX1 44 "ShipOffice$Agreement" "isDead" "Z", .fieldLink RX1 33 "ShipOffice$Agreement" "voyage" "LShipOffice$Voyage;", .fieldLink RX1 48 "ShipOffice$Voyage" "lostTold" "I"] : List Cond), w ∈ wsX10_openAgreements := fun w h => (List.mem_cons_of_mem _ (List.mem_append_left _ (List.mem_append_left _ (List.mem_append_left _ h))))
theorem il_X10_openAgreements_3 : ∀ w ∈ wsX10, w ∈ wsX10_openAgreements := fun w h => (List.mem_cons_of_mem _ (List.mem_append_left _ (List.mem_append_right _ h)))
theorem il_X10_openAgreements_4 : ∀ w ∈ wsX90, w ∈ wsX10_openAgreements := fun w h => (List.mem_cons_of_mem _ (List.mem_append_right _ h))
theorem iw_X10_openAgreements_1 : Cond.fieldLink RX10 115 "ShipOffice" "agreementCount" "I" ∈ wsX10_openAgreements := (mmI il_X10_openAgreements_1 0 rfl)
theorem iw_X10_openAgreements_2 : Cond.fieldLink RX10 23 "ShipOffice" "agreements" "[LShipOffice$Agreement;" ∈ wsX10_openAgreements := (mmI il_X10_openAgreements_1 1 rfl)
theorem dX1_goesOn_0 : decode cX1_goesOn 0 = .ok (.aload_n 0, 1) := by decide +kernel
theorem dX1_goesOn_1 : decode cX1_goesOn 1 = .ok (.getfield 10, 3) := by decide +kernel
theorem dX1_goesOn_4 : decode cX1_goesOn 4 = .ok (.ldc 9, 2) := by decide +kernel
theorem dX1_goesOn_6 : decode cX1_goesOn 6 = .ok (.if_icmp .ne 26, 3) := by decide +kernel
theorem dX1_goesOn_9 : decode cX1_goesOn 9 = .ok (.aload_n 0, 1) := by decide +kernel
theorem dX1_goesOn_10 : decode cX1_goesOn 10 = .ok (.getfield 44, 3) := by decide +kernel
theorem dX1_goesOn_13 : decode cX1_goesOn 13 = .ok (.ifCond .ne 19, 3) := by decide +kernel
theorem dX1_goesOn_16 : decode cX1_goesOn 16 = .ok (.aload_n 0, 1) := by decide +kernel
theorem dX1_goesOn_17 : decode cX1_goesOn 17 = .ok (.getfield 33, 3) := by decide +kernel
theorem dX1_goesOn_20 : decode cX1_goesOn 20 = .ok (.getfield 48, 3) := by decide +kernel
theorem dX1_goesOn_23 : decode cX1_goesOn 23 = .ok (.ldc 9, 2) := by decide +kernel
theorem dX1_goesOn_25 : decode cX1_goesOn 25 = .ok (.if_icmp .ne 7, 3) := by decide +kernel
theorem dX1_goesOn_28 : decode cX1_goesOn 28 = .ok (.iconst 1, 1) := by decide +kernel
theorem dX1_goesOn_29 : decode cX1_goesOn 29 = .ok (.goto 4, 3) := by decide +kernel
theorem dX1_goesOn_32 : decode cX1_goesOn 32 = .ok (.iconst 0, 1) := by decide +kernel
theorem dX1_goesOn_33 : decode cX1_goesOn 33 = .ok (.ireturn, 1) := by decide +kernel
theorem dX9_takesHands_0 : decode cX9_takesHands 0 = .ok (.aload_n 0, 1) := by decide +kernel
theorem dX9_takesHands_1 : decode cX9_takesHands 1 = .ok (.getfield 37, 3) := by decide +kernel
theorem dX9_takesHands_4 : decode cX9_takesHands 4 = .ok (.ifCond .ne 25, 3) := by decide +kernel
theorem dX9_takesHands_7 : decode cX9_takesHands 7 = .ok (.aload_n 0, 1) := by decide +kernel
theorem dX9_takesHands_8 : decode cX9_takesHands 8 = .ok (.getfield 16, 3) := by decide +kernel
theorem dX9_takesHands_11 : decode cX9_takesHands 11 = .ok (.ldc 9, 2) := by decide +kernel
theorem dX9_takesHands_13 : decode cX9_takesHands 13 = .ok (.if_icmp .ne 16, 3) := by decide +kernel
theorem dX9_takesHands_16 : decode cX9_takesHands 16 = .ok (.aload_n 0, 1) := by decide +kernel
theorem dX9_takesHands_17 : decode cX9_takesHands 17 = .ok (.getfield 22, 3) := by decide +kernel
theorem dX9_takesHands_20 : decode cX9_takesHands 20 = .ok (.ldc 9, 2) := by decide +kernel
theorem dX9_takesHands_22 : decode cX9_takesHands 22 = .ok (.if_icmp .ne 7, 3) := by decide +kernel
theorem dX9_takesHands_25 : decode cX9_takesHands 25 = .ok (.iconst 1, 1) := by decide +kernel
theorem dX9_takesHands_26 : decode cX9_takesHands 26 = .ok (.goto 4, 3) := by decide +kernel
theorem dX9_takesHands_29 : decode cX9_takesHands 29 = .ok (.iconst 0, 1) := by decide +kernel
theorem dX9_takesHands_30 : decode cX9_takesHands 30 = .ok (.ireturn, 1) := by decide +kernel
theorem dX9_sailedBy_0 : decode cX9_sailedBy 0 = .ok (.aload_n 0, 1) := by decide +kernel
theorem dX9_sailedBy_1 : decode cX9_sailedBy 1 = .ok (.getfield 16, 3) := by decide +kernel
theorem dX9_sailedBy_4 : decode cX9_sailedBy 4 = .ok (.iload_n 2, 1) := by decide +kernel
theorem dX9_sailedBy_5 : decode cX9_sailedBy 5 = .ok (.if_icmp .gt 15, 3) := by decide +kernel
theorem dX9_sailedBy_8 : decode cX9_sailedBy 8 = .ok (.aload_n 0, 1) := by decide +kernel
theorem dX9_sailedBy_9 : decode cX9_sailedBy 9 = .ok (.getfield 10, 3) := by decide +kernel
theorem dX9_sailedBy_12 : decode cX9_sailedBy 12 = .ok (.iload_n 1, 1) := by decide +kernel
theorem dX9_sailedBy_13 : decode cX9_sailedBy 13 = .ok (.if_icmp .gt 7, 3) := by decide +kernel
theorem dX9_sailedBy_16 : decode cX9_sailedBy 16 = .ok (.iconst 1, 1) := by decide +kernel
theorem dX9_sailedBy_17 : decode cX9_sailedBy 17 = .ok (.goto 4, 3) := by decide +kernel
theorem dX9_sailedBy_20 : decode cX9_sailedBy 20 = .ok (.iconst 0, 1) := by decide +kernel
theorem dX9_sailedBy_21 : decode cX9_sailedBy 21 = .ok (.ireturn, 1) := by decide +kernel
theorem dX9_lostBy_0 : decode cX9_lostBy 0 = .ok (.aload_n 0, 1) := by decide +kernel
theorem dX9_lostBy_1 : decode cX9_lostBy 1 = .ok (.getfield 22, 3) := by decide +kernel
theorem dX9_lostBy_4 : decode cX9_lostBy 4 = .ok (.iload_n 2, 1) := by decide +kernel
theorem dX9_lostBy_5 : decode cX9_lostBy 5 = .ok (.if_icmp .gt 15, 3) := by decide +kernel
theorem dX9_lostBy_8 : decode cX9_lostBy 8 = .ok (.aload_n 0, 1) := by decide +kernel
theorem dX9_lostBy_9 : decode cX9_lostBy 9 = .ok (.getfield 19, 3) := by decide +kernel
theorem dX9_lostBy_12 : decode cX9_lostBy 12 = .ok (.iload_n 1, 1) := by decide +kernel
theorem dX9_lostBy_13 : decode cX9_lostBy 13 = .ok (.if_icmp .gt 7, 3) := by decide +kernel
theorem dX9_lostBy_16 : decode cX9_lostBy 16 = .ok (.iconst 1, 1) := by decide +kernel
theorem dX9_lostBy_17 : decode cX9_lostBy 17 = .ok (.goto 4, 3) := by decide +kernel
theorem dX9_lostBy_20 : decode cX9_lostBy 20 = .ok (.iconst 0, 1) := by decide +kernel
theorem dX9_lostBy_21 : decode cX9_lostBy 21 = .ok (.ireturn, 1) := by decide +kernel
theorem dX10_fineAt_0 : decode cX10_fineAt 0 = .ok (.aload_n 0, 1) := by decide +kernel
theorem dX10_fineAt_1 : decode cX10_fineAt 1 = .ok (.ifnull 15, 3) := by decide +kernel
theorem dX10_fineAt_4 : decode cX10_fineAt 4 = .ok (.iload_n 1, 1) := by decide +kernel
theorem dX10_fineAt_5 : decode cX10_fineAt 5 = .ok (.ifCond .lt 11, 3) := by decide +kernel
theorem dX10_fineAt_8 : decode cX10_fineAt 8 = .ok (.iload_n 1, 1) := by decide +kernel
theorem dX10_fineAt_9 : decode cX10_fineAt 9 = .ok (.aload_n 0, 1) := by decide +kernel
theorem dX10_fineAt_10 : decode cX10_fineAt 10 = .ok (.getfield 258, 3) := by decide +kernel
theorem dX10_fineAt_13 : decode cX10_fineAt 13 = .ok (.if_icmp .lt 7, 3) := by decide +kernel
theorem dX10_fineAt_16 : decode cX10_fineAt 16 = .ok (.aconst_null, 1) := by decide +kernel
theorem dX10_fineAt_17 : decode cX10_fineAt 17 = .ok (.goto 9, 3) := by decide +kernel
theorem dX10_fineAt_20 : decode cX10_fineAt 20 = .ok (.aload_n 0, 1) := by decide +kernel
theorem dX10_fineAt_21 : decode cX10_fineAt 21 = .ok (.getfield 261, 3) := by decide +kernel
theorem dX10_fineAt_24 : decode cX10_fineAt 24 = .ok (.iload_n 1, 1) := by decide +kernel
theorem dX10_fineAt_25 : decode cX10_fineAt 25 = .ok (.aaload, 1) := by decide +kernel
theorem dX10_fineAt_26 : decode cX10_fineAt 26 = .ok (.areturn, 1) := by decide +kernel
theorem dX10_voyageRefusal_0 : decode cX10_voyageRefusal 0 = .ok (.iload_n 3, 1) := by decide +kernel
theorem dX10_voyageRefusal_1 : decode cX10_voyageRefusal 1 = .ok (.ifCond .ne 10, 3) := by decide +kernel
theorem dX10_voyageRefusal_4 : decode cX10_voyageRefusal 4 = .ok (.aload_n 1, 1) := by decide +kernel
theorem dX10_voyageRefusal_5 : decode cX10_voyageRefusal 5 = .ok (.getfield 107, 3) := by decide +kernel
theorem dX10_voyageRefusal_8 : decode cX10_voyageRefusal 8 = .ok (.ifCond .eq 6, 3) := by decide +kernel
theorem dX10_voyageRefusal_11 : decode cX10_voyageRefusal 11 = .ok (.bipush (-3), 2) := by decide +kernel
theorem dX10_voyageRefusal_13 : decode cX10_voyageRefusal 13 = .ok (.ireturn, 1) := by decide +kernel
theorem dX10_voyageRefusal_14 : decode cX10_voyageRefusal 14 = .ok (.iload_n 2, 1) := by decide +kernel
theorem dX10_voyageRefusal_15 : decode cX10_voyageRefusal 15 = .ok (.aload_n 1, 1) := by decide +kernel
theorem dX10_voyageRefusal_16 : decode cX10_voyageRefusal 16 = .ok (.getfield 365, 3) := by decide +kernel
theorem dX10_voyageRefusal_19 : decode cX10_voyageRefusal 19 = .ok (.if_icmp .ge 6, 3) := by decide +kernel
theorem dX10_voyageRefusal_22 : decode cX10_voyageRefusal 22 = .ok (.bipush (-4), 2) := by decide +kernel
theorem dX10_voyageRefusal_24 : decode cX10_voyageRefusal 24 = .ok (.ireturn, 1) := by decide +kernel
theorem dX10_voyageRefusal_25 : decode cX10_voyageRefusal 25 = .ok (.iload_n 2, 1) := by decide +kernel
theorem dX10_voyageRefusal_26 : decode cX10_voyageRefusal 26 = .ok (.aload_n 0, 1) := by decide +kernel
theorem dX10_voyageRefusal_27 : decode cX10_voyageRefusal 27 = .ok (.getfield 73, 3) := by decide +kernel
theorem dX10_voyageRefusal_30 : decode cX10_voyageRefusal 30 = .ok (.if_icmp .gt 13, 3) := by decide +kernel
theorem dX10_voyageRefusal_33 : decode cX10_voyageRefusal 33 = .ok (.aload_n 0, 1) := by decide +kernel
theorem dX10_voyageRefusal_34 : decode cX10_voyageRefusal 34 = .ok (.getfield 139, 3) := by decide +kernel
theorem dX10_voyageRefusal_37 : decode cX10_voyageRefusal 37 = .ok (.sipush 200, 3) := by decide +kernel
theorem dX10_voyageRefusal_40 : decode cX10_voyageRefusal 40 = .ok (.if_icmp .lt 8, 3) := by decide +kernel
theorem dX10_voyageRefusal_43 : decode cX10_voyageRefusal 43 = .ok (.bipush (-6), 2) := by decide +kernel
theorem dX10_voyageRefusal_45 : decode cX10_voyageRefusal 45 = .ok (.goto 4, 3) := by decide +kernel
theorem dX10_voyageRefusal_48 : decode cX10_voyageRefusal 48 = .ok (.iconst 0, 1) := by decide +kernel
theorem dX10_voyageRefusal_49 : decode cX10_voyageRefusal 49 = .ok (.ireturn, 1) := by decide +kernel
theorem dX10_tidingRefusal_0 : decode cX10_tidingRefusal 0 = .ok (.aload_n 1, 1) := by decide +kernel
theorem dX10_tidingRefusal_1 : decode cX10_tidingRefusal 1 = .ok (.getfield 126, 3) := by decide +kernel
theorem dX10_tidingRefusal_4 : decode cX10_tidingRefusal 4 = .ok (.ldc 114, 2) := by decide +kernel
theorem dX10_tidingRefusal_6 : decode cX10_tidingRefusal 6 = .ok (.if_icmp .eq 6, 3) := by decide +kernel
theorem dX10_tidingRefusal_9 : decode cX10_tidingRefusal 9 = .ok (.bipush (-3), 2) := by decide +kernel
theorem dX10_tidingRefusal_11 : decode cX10_tidingRefusal 11 = .ok (.ireturn, 1) := by decide +kernel
theorem dX10_tidingRefusal_12 : decode cX10_tidingRefusal 12 = .ok (.iload_n 2, 1) := by decide +kernel
theorem dX10_tidingRefusal_13 : decode cX10_tidingRefusal 13 = .ok (.aload_n 1, 1) := by decide +kernel
theorem dX10_tidingRefusal_14 : decode cX10_tidingRefusal 14 = .ok (.getfield 255, 3) := by decide +kernel
theorem dX10_tidingRefusal_17 : decode cX10_tidingRefusal 17 = .ok (.if_icmp .ge 6, 3) := by decide +kernel
theorem dX10_tidingRefusal_20 : decode cX10_tidingRefusal 20 = .ok (.bipush (-4), 2) := by decide +kernel
theorem dX10_tidingRefusal_22 : decode cX10_tidingRefusal 22 = .ok (.ireturn, 1) := by decide +kernel
theorem dX10_tidingRefusal_23 : decode cX10_tidingRefusal 23 = .ok (.iload_n 2, 1) := by decide +kernel
theorem dX10_tidingRefusal_24 : decode cX10_tidingRefusal 24 = .ok (.aload_n 0, 1) := by decide +kernel
theorem dX10_tidingRefusal_25 : decode cX10_tidingRefusal 25 = .ok (.getfield 73, 3) := by decide +kernel
theorem dX10_tidingRefusal_28 : decode cX10_tidingRefusal 28 = .ok (.if_icmp .gt 13, 3) := by decide +kernel
theorem dX10_tidingRefusal_31 : decode cX10_tidingRefusal 31 = .ok (.aload_n 0, 1) := by decide +kernel
theorem dX10_tidingRefusal_32 : decode cX10_tidingRefusal 32 = .ok (.getfield 139, 3) := by decide +kernel
theorem dX10_tidingRefusal_35 : decode cX10_tidingRefusal 35 = .ok (.sipush 200, 3) := by decide +kernel
theorem dX10_tidingRefusal_38 : decode cX10_tidingRefusal 38 = .ok (.if_icmp .lt 8, 3) := by decide +kernel
theorem dX10_tidingRefusal_41 : decode cX10_tidingRefusal 41 = .ok (.bipush (-6), 2) := by decide +kernel
theorem dX10_tidingRefusal_43 : decode cX10_tidingRefusal 43 = .ok (.goto 4, 3) := by decide +kernel
theorem dX10_tidingRefusal_46 : decode cX10_tidingRefusal 46 = .ok (.iconst 0, 1) := by decide +kernel
theorem dX10_tidingRefusal_47 : decode cX10_tidingRefusal 47 = .ok (.ireturn, 1) := by decide +kernel
theorem dX10_askRefusal_0 : decode cX10_askRefusal 0 = .ok (.iload_n 1, 1) := by decide +kernel
theorem dX10_askRefusal_1 : decode cX10_askRefusal 1 = .ok (.ifCond .lt 7, 3) := by decide +kernel
theorem dX10_askRefusal_4 : decode cX10_askRefusal 4 = .ok (.iload_n 2, 1) := by decide +kernel
theorem dX10_askRefusal_5 : decode cX10_askRefusal 5 = .ok (.ifCond .ge 6, 3) := by decide +kernel
theorem dX10_askRefusal_8 : decode cX10_askRefusal 8 = .ok (.bipush (-4), 2) := by decide +kernel
theorem dX10_askRefusal_10 : decode cX10_askRefusal 10 = .ok (.ireturn, 1) := by decide +kernel
theorem dX10_askRefusal_11 : decode cX10_askRefusal 11 = .ok (.iload_n 1, 1) := by decide +kernel
theorem dX10_askRefusal_12 : decode cX10_askRefusal 12 = .ok (.iload_n 2, 1) := by decide +kernel
theorem dX10_askRefusal_13 : decode cX10_askRefusal 13 = .ok (.if_icmp .gt 11, 3) := by decide +kernel
theorem dX10_askRefusal_16 : decode cX10_askRefusal 16 = .ok (.iload_n 2, 1) := by decide +kernel
theorem dX10_askRefusal_17 : decode cX10_askRefusal 17 = .ok (.aload_n 0, 1) := by decide +kernel
theorem dX10_askRefusal_18 : decode cX10_askRefusal 18 = .ok (.getfield 73, 3) := by decide +kernel
theorem dX10_askRefusal_21 : decode cX10_askRefusal 21 = .ok (.if_icmp .le 8, 3) := by decide +kernel
theorem dX10_askRefusal_24 : decode cX10_askRefusal 24 = .ok (.bipush (-3), 2) := by decide +kernel
theorem dX10_askRefusal_26 : decode cX10_askRefusal 26 = .ok (.goto 4, 3) := by decide +kernel
theorem dX10_askRefusal_29 : decode cX10_askRefusal 29 = .ok (.iconst 0, 1) := by decide +kernel
theorem dX10_askRefusal_30 : decode cX10_askRefusal 30 = .ok (.ireturn, 1) := by decide +kernel
theorem dX10_hasVoyage_0 : decode cX10_hasVoyage 0 = .ok (.iconst 0, 1) := by decide +kernel
theorem dX10_hasVoyage_1 : decode cX10_hasVoyage 1 = .ok (.istore_n 2, 1) := by decide +kernel
theorem dX10_hasVoyage_2 : decode cX10_hasVoyage 2 = .ok (.iload_n 2, 1) := by decide +kernel
theorem dX10_hasVoyage_3 : decode cX10_hasVoyage 3 = .ok (.aload_n 0, 1) := by decide +kernel
theorem dX10_hasVoyage_4 : decode cX10_hasVoyage 4 = .ok (.getfield 99, 3) := by decide +kernel
theorem dX10_hasVoyage_7 : decode cX10_hasVoyage 7 = .ok (.if_icmp .ge 36, 3) := by decide +kernel
theorem dX10_hasVoyage_10 : decode cX10_hasVoyage 10 = .ok (.aload_n 0, 1) := by decide +kernel
theorem dX10_hasVoyage_11 : decode cX10_hasVoyage 11 = .ok (.getfield 17, 3) := by decide +kernel
theorem dX10_hasVoyage_14 : decode cX10_hasVoyage 14 = .ok (.iload_n 2, 1) := by decide +kernel
theorem dX10_hasVoyage_15 : decode cX10_hasVoyage 15 = .ok (.aaload, 1) := by decide +kernel
theorem dX10_hasVoyage_16 : decode cX10_hasVoyage 16 = .ok (.getfield 386, 3) := by decide +kernel
theorem dX10_hasVoyage_19 : decode cX10_hasVoyage 19 = .ok (.iload_n 1, 1) := by decide +kernel
theorem dX10_hasVoyage_20 : decode cX10_hasVoyage 20 = .ok (.if_icmp .ne 17, 3) := by decide +kernel
theorem dX10_hasVoyage_23 : decode cX10_hasVoyage 23 = .ok (.aload_n 0, 1) := by decide +kernel
theorem dX10_hasVoyage_24 : decode cX10_hasVoyage 24 = .ok (.getfield 17, 3) := by decide +kernel
theorem dX10_hasVoyage_27 : decode cX10_hasVoyage 27 = .ok (.iload_n 2, 1) := by decide +kernel
theorem dX10_hasVoyage_28 : decode cX10_hasVoyage 28 = .ok (.aaload, 1) := by decide +kernel
theorem dX10_hasVoyage_29 : decode cX10_hasVoyage 29 = .ok (.getfield 107, 3) := by decide +kernel
theorem dX10_hasVoyage_32 : decode cX10_hasVoyage 32 = .ok (.ifCond .ne 5, 3) := by decide +kernel
theorem dX10_hasVoyage_35 : decode cX10_hasVoyage 35 = .ok (.iconst 1, 1) := by decide +kernel
theorem dX10_hasVoyage_36 : decode cX10_hasVoyage 36 = .ok (.ireturn, 1) := by decide +kernel
theorem dX10_hasVoyage_37 : decode cX10_hasVoyage 37 = .ok (.iinc 2 1, 3) := by decide +kernel
theorem dX10_hasVoyage_40 : decode cX10_hasVoyage 40 = .ok (.goto (-38), 3) := by decide +kernel
theorem dX10_hasVoyage_43 : decode cX10_hasVoyage 43 = .ok (.iconst 0, 1) := by decide +kernel
theorem dX10_hasVoyage_44 : decode cX10_hasVoyage 44 = .ok (.ireturn, 1) := by decide +kernel
set_option maxRecDepth 100000 in
theorem ggX10_isFree_X1_goesOn : GoodIn wsX10_isFree wsX1_goesOn := goodIn_sub (mmC (mmI il_X10_isFree_1 7 rfl) (mmA (mmA (mmC (mmI il_X10_isFree_1 8 rfl) (mmC (mmI il_X10_isFree_1 9 rfl) (mmC (mmI il_X10_isFree_1 10 rfl) (mmC (mmI il_X10_isFree_1 11 rfl) (mmC (mmI il_X10_isFree_1 12 rfl) mmN))))) il_X10_isFree_3) il_X10_isFree_4)) gw_X1_goesOn
theorem gX10_isFree_X1_goesOn : GoodIn wsX10_isFree (wsV RX10 122 RX1 yX1_goesOn wsX1_goesOn) := goodIn_app (goodIn_sub (mmC (mmI il_X10_isFree_1 3 rfl) (mmC (mmI il_X10_isFree_1 4 rfl) (mmC (mmI il_X10_isFree_1 5 rfl) (mmC (mmI il_X10_isFree_1 6 rfl) mmN)))) (by decide +kernel)) ggX10_isFree_X1_goesOn
theorem dX10_isFree_0 : decode cX10_isFree 0 = .ok (.iconst 0, 1) := by decide +kernel
theorem dX10_isFree_1 : decode cX10_isFree 1 = .ok (.istore_n 2, 1) := by decide +kernel
theorem dX10_isFree_2 : decode cX10_isFree 2 = .ok (.iload_n 2, 1) := by decide +kernel
theorem dX10_isFree_3 : decode cX10_isFree 3 = .ok (.aload_n 0, 1) := by decide +kernel
theorem dX10_isFree_4 : decode cX10_isFree 4 = .ok (.getfield 115, 3) := by decide +kernel
theorem dX10_isFree_7 : decode cX10_isFree 7 = .ok (.if_icmp .ge 36, 3) := by decide +kernel
theorem dX10_isFree_10 : decode cX10_isFree 10 = .ok (.aload_n 0, 1) := by decide +kernel
theorem dX10_isFree_11 : decode cX10_isFree 11 = .ok (.getfield 23, 3) := by decide +kernel
theorem dX10_isFree_14 : decode cX10_isFree 14 = .ok (.iload_n 2, 1) := by decide +kernel
theorem dX10_isFree_15 : decode cX10_isFree 15 = .ok (.aaload, 1) := by decide +kernel
theorem dX10_isFree_16 : decode cX10_isFree 16 = .ok (.getfield 299, 3) := by decide +kernel
theorem dX10_isFree_19 : decode cX10_isFree 19 = .ok (.aload_n 1, 1) := by decide +kernel
theorem dX10_isFree_20 : decode cX10_isFree 20 = .ok (.if_acmp .ne 17, 3) := by decide +kernel
theorem dX10_isFree_23 : decode cX10_isFree 23 = .ok (.aload_n 0, 1) := by decide +kernel
theorem dX10_isFree_24 : decode cX10_isFree 24 = .ok (.getfield 23, 3) := by decide +kernel
theorem dX10_isFree_27 : decode cX10_isFree 27 = .ok (.iload_n 2, 1) := by decide +kernel
theorem dX10_isFree_28 : decode cX10_isFree 28 = .ok (.aaload, 1) := by decide +kernel
theorem dX10_isFree_29 : decode cX10_isFree 29 = .ok (.invokevirtual 122, 3) := by decide +kernel
theorem dX10_isFree_32 : decode cX10_isFree 32 = .ok (.ifCond .eq 5, 3) := by decide +kernel
theorem dX10_isFree_35 : decode cX10_isFree 35 = .ok (.iconst 0, 1) := by decide +kernel
theorem dX10_isFree_36 : decode cX10_isFree 36 = .ok (.ireturn, 1) := by decide +kernel
theorem dX10_isFree_37 : decode cX10_isFree 37 = .ok (.iinc 2 1, 3) := by decide +kernel
theorem dX10_isFree_40 : decode cX10_isFree 40 = .ok (.goto (-38), 3) := by decide +kernel
theorem dX10_isFree_43 : decode cX10_isFree 43 = .ok (.iconst 1, 1) := by decide +kernel
theorem dX10_isFree_44 : decode cX10_isFree 44 = .ok (.ireturn, 1) := by decide +kernel
theorem dX10_openVoyages_0 : decode cX10_openVoyages 0 = .ok (.iconst 0, 1) := by decide +kernel
theorem dX10_openVoyages_1 : decode cX10_openVoyages 1 = .ok (.istore_n 1, 1) := by decide +kernel
theorem dX10_openVoyages_2 : decode cX10_openVoyages 2 = .ok (.iconst 0, 1) := by decide +kernel
theorem dX10_openVoyages_3 : decode cX10_openVoyages 3 = .ok (.istore_n 2, 1) := by decide +kernel
theorem dX10_openVoyages_4 : decode cX10_openVoyages 4 = .ok (.iload_n 2, 1) := by decide +kernel
theorem dX10_openVoyages_5 : decode cX10_openVoyages 5 = .ok (.aload_n 0, 1) := by decide +kernel
theorem dX10_openVoyages_6 : decode cX10_openVoyages 6 = .ok (.getfield 99, 3) := by decide +kernel
theorem dX10_openVoyages_9 : decode cX10_openVoyages 9 = .ok (.if_icmp .ge 24, 3) := by decide +kernel
theorem dX10_openVoyages_12 : decode cX10_openVoyages 12 = .ok (.aload_n 0, 1) := by decide +kernel
theorem dX10_openVoyages_13 : decode cX10_openVoyages 13 = .ok (.getfield 17, 3) := by decide +kernel
theorem dX10_openVoyages_16 : decode cX10_openVoyages 16 = .ok (.iload_n 2, 1) := by decide +kernel
theorem dX10_openVoyages_17 : decode cX10_openVoyages 17 = .ok (.aaload, 1) := by decide +kernel
theorem dX10_openVoyages_18 : decode cX10_openVoyages 18 = .ok (.getfield 107, 3) := by decide +kernel
theorem dX10_openVoyages_21 : decode cX10_openVoyages 21 = .ok (.ifCond .ne 6, 3) := by decide +kernel
theorem dX10_openVoyages_24 : decode cX10_openVoyages 24 = .ok (.iinc 1 1, 3) := by decide +kernel
theorem dX10_openVoyages_27 : decode cX10_openVoyages 27 = .ok (.iinc 2 1, 3) := by decide +kernel
theorem dX10_openVoyages_30 : decode cX10_openVoyages 30 = .ok (.goto (-26), 3) := by decide +kernel
theorem dX10_openVoyages_33 : decode cX10_openVoyages 33 = .ok (.iload_n 1, 1) := by decide +kernel
theorem dX10_openVoyages_34 : decode cX10_openVoyages 34 = .ok (.ireturn, 1) := by decide +kernel
set_option maxRecDepth 100000 in
theorem ggX10_openAgreements_X1_goesOn : GoodIn wsX10_openAgreements wsX1_goesOn := goodIn_sub (mmC (mmI il_X10_openAgreements_1 6 rfl) (mmA (mmA (mmC (mmI il_X10_openAgreements_1 7 rfl) (mmC (mmI il_X10_openAgreements_1 8 rfl) (mmC (mmI il_X10_openAgreements_1 9 rfl) (mmC (mmI il_X10_openAgreements_1 10 rfl) (mmC (mmI il_X10_openAgreements_1 11 rfl) mmN))))) il_X10_openAgreements_3) il_X10_openAgreements_4)) gw_X1_goesOn
theorem gX10_openAgreements_X1_goesOn : GoodIn wsX10_openAgreements (wsV RX10 122 RX1 yX1_goesOn wsX1_goesOn) := goodIn_app (goodIn_sub (mmC (mmI il_X10_openAgreements_1 2 rfl) (mmC (mmI il_X10_openAgreements_1 3 rfl) (mmC (mmI il_X10_openAgreements_1 4 rfl) (mmC (mmI il_X10_openAgreements_1 5 rfl) mmN)))) (by decide +kernel)) ggX10_openAgreements_X1_goesOn
theorem dX10_openAgreements_0 : decode cX10_openAgreements 0 = .ok (.iconst 0, 1) := by decide +kernel
theorem dX10_openAgreements_1 : decode cX10_openAgreements 1 = .ok (.istore_n 1, 1) := by decide +kernel
theorem dX10_openAgreements_2 : decode cX10_openAgreements 2 = .ok (.iconst 0, 1) := by decide +kernel
theorem dX10_openAgreements_3 : decode cX10_openAgreements 3 = .ok (.istore_n 2, 1) := by decide +kernel
theorem dX10_openAgreements_4 : decode cX10_openAgreements 4 = .ok (.iload_n 2, 1) := by decide +kernel
theorem dX10_openAgreements_5 : decode cX10_openAgreements 5 = .ok (.aload_n 0, 1) := by decide +kernel
theorem dX10_openAgreements_6 : decode cX10_openAgreements 6 = .ok (.getfield 115, 3) := by decide +kernel
theorem dX10_openAgreements_9 : decode cX10_openAgreements 9 = .ok (.if_icmp .ge 24, 3) := by decide +kernel
theorem dX10_openAgreements_12 : decode cX10_openAgreements 12 = .ok (.aload_n 0, 1) := by decide +kernel
theorem dX10_openAgreements_13 : decode cX10_openAgreements 13 = .ok (.getfield 23, 3) := by decide +kernel
theorem dX10_openAgreements_16 : decode cX10_openAgreements 16 = .ok (.iload_n 2, 1) := by decide +kernel
theorem dX10_openAgreements_17 : decode cX10_openAgreements 17 = .ok (.aaload, 1) := by decide +kernel
theorem dX10_openAgreements_18 : decode cX10_openAgreements 18 = .ok (.invokevirtual 122, 3) := by decide +kernel
theorem dX10_openAgreements_21 : decode cX10_openAgreements 21 = .ok (.ifCond .eq 6, 3) := by decide +kernel
theorem dX10_openAgreements_24 : decode cX10_openAgreements 24 = .ok (.iinc 1 1, 3) := by decide +kernel
theorem dX10_openAgreements_27 : decode cX10_openAgreements 27 = .ok (.iinc 2 1, 3) := by decide +kernel
theorem dX10_openAgreements_30 : decode cX10_openAgreements 30 = .ok (.goto (-26), 3) := by decide +kernel
theorem dX10_openAgreements_33 : decode cX10_openAgreements 33 = .ok (.iload_n 1, 1) := by decide +kernel
theorem dX10_openAgreements_34 : decode cX10_openAgreements 34 = .ok (.ireturn, 1) := by decide +kernel
theorem dX10_lastDay_0 : decode cX10_lastDay 0 = .ok (.aload_n 1, 1) := by decide +kernel
theorem dX10_lastDay_1 : decode cX10_lastDay 1 = .ok (.getfield 126, 3) := by decide +kernel
theorem dX10_lastDay_4 : decode cX10_lastDay 4 = .ok (.ldc 114, 2) := by decide +kernel
theorem dX10_lastDay_6 : decode cX10_lastDay 6 = .ok (.if_icmp .ne 10, 3) := by decide +kernel
theorem dX10_lastDay_9 : decode cX10_lastDay 9 = .ok (.aload_n 0, 1) := by decide +kernel
theorem dX10_lastDay_10 : decode cX10_lastDay 10 = .ok (.getfield 73, 3) := by decide +kernel
theorem dX10_lastDay_13 : decode cX10_lastDay 13 = .ok (.goto 7, 3) := by decide +kernel
theorem dX10_lastDay_16 : decode cX10_lastDay 16 = .ok (.aload_n 1, 1) := by decide +kernel
theorem dX10_lastDay_17 : decode cX10_lastDay 17 = .ok (.getfield 126, 3) := by decide +kernel
theorem dX10_lastDay_20 : decode cX10_lastDay 20 = .ok (.ireturn, 1) := by decide +kernel
theorem in_wsX10_fineAt_X1 : ∀ w ∈ wsX10, w ∈ wsX10_fineAt := fun w h => List.mem_cons_of_mem _ (List.mem_append_right _ h)
theorem in_wsX10_askRefusal_X10 : ∀ w ∈ wsX100, w ∈ wsX10_askRefusal := fun w h => List.mem_cons_of_mem _ (List.mem_append_right _ h)
theorem in_wsX10_voyageRefusal_X9 : ∀ w ∈ wsX90, w ∈ wsX10_voyageRefusal := fun w h => List.mem_cons_of_mem _ (List.mem_append_left _ (List.mem_append_right _ h))
theorem in_wsX10_voyageRefusal_X10 : ∀ w ∈ wsX100, w ∈ wsX10_voyageRefusal := fun w h => List.mem_cons_of_mem _ (List.mem_append_right _ h)
theorem in_wsX10_tidingRefusal_X1 : ∀ w ∈ wsX10, w ∈ wsX10_tidingRefusal := fun w h => List.mem_cons_of_mem _ (List.mem_append_left _ (List.mem_append_right _ h))
theorem in_wsX10_tidingRefusal_X10 : ∀ w ∈ wsX100, w ∈ wsX10_tidingRefusal := fun w h => List.mem_cons_of_mem _ (List.mem_append_right _ h)
theorem in_wsX10_lastDay_X1 : ∀ w ∈ wsX10, w ∈ wsX10_lastDay := fun w h => List.mem_cons_of_mem _ (List.mem_append_left _ (List.mem_append_right _ h))
theorem in_wsX10_lastDay_X10 : ∀ w ∈ wsX100, w ∈ wsX10_lastDay := fun w h => List.mem_cons_of_mem _ (List.mem_append_right _ h)
theorem in_wsX9_takesHands_X9 : ∀ w ∈ wsX90, w ∈ wsX9_takesHands := fun w h => List.mem_cons_of_mem _ (List.mem_append_right _ h)
theorem in_wsX9_sailedBy_X9 : ∀ w ∈ wsX90, w ∈ wsX9_sailedBy := fun w h => List.mem_cons_of_mem _ (List.mem_append_right _ h)
theorem in_wsX9_lostBy_X9 : ∀ w ∈ wsX90, w ∈ wsX9_lostBy := fun w h => List.mem_cons_of_mem _ (List.mem_append_right _ h)
theorem in_wsX1_goesOn_X1 : ∀ w ∈ wsX10, w ∈ wsX1_goesOn := fun w h => List.mem_cons_of_mem _ (List.mem_append_left _ (List.mem_append_right _ h))
theorem in_wsX1_goesOn_X9 : ∀ w ∈ wsX90, w ∈ wsX1_goesOn := fun w h => List.mem_cons_of_mem _ (List.mem_append_right _ h)
theorem in_wsX10_hasVoyage_X10 : ∀ w ∈ wsX100, w ∈ wsX10_hasVoyage := fun w h => List.mem_cons_of_mem _ (List.mem_append_left _ (List.mem_append_right _ h))
theorem in_wsX10_hasVoyage_X9 : ∀ w ∈ wsX90, w ∈ wsX10_hasVoyage := fun w h => List.mem_cons_of_mem _ (List.mem_append_right _ h)
theorem in_wsX10_isFree_X10 : ∀ w ∈ wsX100, w ∈ wsX10_isFree := fun w h => List.mem_cons_of_mem _ (List.mem_append_left _ (List.mem_append_left _ (List.mem_append_right _ h)))
theorem in_wsX10_isFree_X1 : ∀ w ∈ wsX10, w ∈ wsX10_isFree := fun w h => List.mem_cons_of_mem _ (List.mem_append_left _ (List.mem_append_right _ h))
theorem in_wsX10_openVoyages_X10 : ∀ w ∈ wsX100, w ∈ wsX10_openVoyages := fun w h => List.mem_cons_of_mem _ (List.mem_append_left _ (List.mem_append_right _ h))
theorem in_wsX10_openVoyages_X9 : ∀ w ∈ wsX90, w ∈ wsX10_openVoyages := fun w h => List.mem_cons_of_mem _ (List.mem_append_right _ h)
theorem in_wsX10_openAgreements_X10 : ∀ w ∈ wsX100, w ∈ wsX10_openAgreements := fun w h => List.mem_cons_of_mem _ (List.mem_append_left _ (List.mem_append_left _ (List.mem_append_right _ h)))

set_option maxHeartbeats 4000000 in
set_option maxRecDepth 100000 in
theorem c_X10_fineAt (l : Launch) (dC : Nat → ClassId) (dI : Nat → Nat → Nat) (sz : Nat) (cq : Nat → ClassId) (Z : oS) (gI : oInv Z) (r1 : Option Nat) (tr1 : ∀ b, r1 = some b → oty Z b 1) (x2 : Int32) : Met l yX10_fineAt wsX10_fineAt ({ frames := 0, cells := 0, slots := 0, locals := 0 }) (va_Pc [va_rf r1, .int x2] (pcW (dC, dI) (oT cq) (oW cq Z) sz)) (va_Qq (fun (r : Option Nat) (u : Unit) => (∀ b, r = some b → oty Z b 2)) (fun _ _ => True) (va_A [] sz)) 0 0 (va_A [] sz) := by
  rcases r1 with _ | br1
  · refine Met.ofW (cc := cX10_fineAt) (maxL := 2) (ret := (some (.object "ShipOffice$Fine"))) (by decide +kernel) rfl ?_
    intro p e s m args below meth c s₁ B hml hv
    obtain ⟨rfl, hsz, hP, hK, hD0⟩ := hv
    have hx := B.exec
    have hb := B.bytes
    have hr := B.returns
    have hts := atoms_spec (ws := wsX10_fineAt) B.pre
    have hown : s.vm.findClass RX10 = some m.cls := findClass_of_methodNamed B.named
    have hlocks := B.notSynchronized
    subst hsz
    have hD := hD0
    generalize hAe : va_A [] s.heap.size = A at ⊢
    have hA : ∀ q : Nat, s.heap.size ≤ q → A q := fun q h => by rw [← hAe]; exact Or.inr h
    have hS : va_S A s.heap s.heap [] := va_S.rf
    have hP : va_P (dC, dI) vwCl (oW cq Z) s.heap := hP
    have hl := lv_entry ([va_rf none, .int x2]) (n := 2) (Nat.le_of_ble_eq_true rfl)
    rw [lg_entry_eq]
    generalize (lg_sl ([va_rf none, .int x2]) ++ List.replicate (2 - (lg_sl ([va_rf none, .int x2])).length) Slot.unset).toArray = ls at hl ⊢
    have hl : lv_has ls 2 [(0, va_rf none), (1, .int x2)] := hl
    have hl : lv_has ls 2 [(0, .null), (1, .int x2)] := hl
    refine lv_aload_nN hx hb dX10_fineAt_0 rfl (lv_at hl 0 rfl) ?_
    refine lv_ifnullN (tgt := 16) hx hb dX10_fineAt_1 (by decide +kernel) ?_
    refine lv_null hx hb dX10_fineAt_16 ?_
    refine lv_goto (tgt := 26) hx hb dX10_fineAt_17 (by decide +kernel) ?_
    exact W.aret (v := .null) hx hb hr (Or.inl ⟨_, rfl⟩) (Or.inl rfl) (fun t ht hW => ⟨⟨none, (), rfl, (fun b h => by cases h), trivial⟩, hS.F ht⟩) hS.2.2 dX10_fineAt_26
  · refine Met.ofW (cc := cX10_fineAt) (maxL := 2) (ret := (some (.object "ShipOffice$Fine"))) (by decide +kernel) rfl ?_
    intro p e s m args below meth c s₁ B hml hv
    obtain ⟨rfl, hsz, hP, hK, hD0⟩ := hv
    have hx := B.exec
    have hb := B.bytes
    have hr := B.returns
    have hts := atoms_spec (ws := wsX10_fineAt) B.pre
    have hown : s.vm.findClass RX10 = some m.cls := findClass_of_methodNamed B.named
    have hlocks := B.notSynchronized
    subst hsz
    have hD := hD0
    generalize hAe : va_A [] s.heap.size = A at ⊢
    have hA : ∀ q : Nat, s.heap.size ≤ q → A q := fun q h => by rw [← hAe]; exact Or.inr h
    have hS : va_S A s.heap s.heap [] := va_S.rf
    have hP : va_P (dC, dI) vwCl (oW cq Z) s.heap := hP
    have hl := lv_entry ([va_rf (some br1), .int x2]) (n := 2) (Nat.le_of_ble_eq_true rfl)
    rw [lg_entry_eq]
    generalize (lg_sl ([va_rf (some br1), .int x2]) ++ List.replicate (2 - (lg_sl ([va_rf (some br1), .int x2])).length) Slot.unset).toArray = ls at hl ⊢
    have hl : lv_has ls 2 [(0, va_rf (some br1)), (1, .int x2)] := hl
    have hl : lv_has ls 2 [(0, .ref br1), (1, .int x2)] := hl
    have tbbr1 : oty Z br1 1 := tr1 br1 rfl
    refine lv_aload_n hx hb dX10_fineAt_0 rfl (lv_at hl 0 rfl) ?_
    refine lv_ifnull hx hb dX10_fineAt_1 ?_
    refine lv_iload_n hx hb dX10_fineAt_4 rfl (lv_at hl 1 rfl) ?_
    refine lv_if_lt (tgt := 16) hx hb dX10_fineAt_5 (by decide +kernel) (fun c_1 => ?_) (fun c_1 => ?_)
    · have dc_1 := c_lt (a := x2.toInt) (b := 0) rfl (by decide +kernel) c_1
      refine lv_null hx hb dX10_fineAt_16 ?_
      refine lv_goto (tgt := 26) hx hb dX10_fineAt_17 (by decide +kernel) ?_
      exact W.aret (v := .null) hx hb hr (Or.inl ⟨_, rfl⟩) (Or.inl rfl) (fun t ht hW => ⟨⟨none, (), rfl, (fun b h => by cases h), trivial⟩, hS.F ht⟩) hS.2.2 dX10_fineAt_26
    · have dc_1 := c_nlt (a := x2.toInt) (b := 0) rfl (by decide +kernel) c_1
      refine lv_iload_n hx hb dX10_fineAt_8 rfl (lv_at hl 1 rfl) ?_
      refine lv_aload_n hx hb dX10_fineAt_9 rfl (lv_at hl 0 rfl) ?_
      obtain ⟨q_2, hq_2⟩ := og (cq := cq) tbbr1.1 (oE_1 tbbr1.2)
      refine va_get (D := (dC, dI)) (ci := 1) (v := .int (oI Z br1 13)) (C := RX1) (T := TX1) (N := 18) hx hb hts in_wsX10_fineAt_X1 hown hK hP q_2 hq_2 rfl 13 (by decide +kernel) (hts (.fieldLink RX10 258 "ShipOffice$Agreement" "fineCount" "I") iw_X10_fineAt_1) (fun _ h9 => h9) rfl dX10_fineAt_10 ?_
      refine lv_topi (fun x_3 ex_3 => ?_)
      have hx_3 : 0 ≤ x_3.toInt ∧ x_3.toInt ≤ 6 := iv_of ex_3 (oInv.iv gI tbbr1.2 rfl rfl)
      have gx_3 : x_3.toInt = (oI Z br1 13).toInt := iv_to ex_3
      clear ex_3
      refine lv_icmp_lt (tgt := 20) hx hb dX10_fineAt_13 (by decide +kernel) (fun c_4 => ?_) (fun c_4 => ?_)
      · have dc_4 := c_lt (a := x2.toInt) (b := x_3.toInt) rfl rfl c_4
        refine lv_aload_n hx hb dX10_fineAt_20 rfl (lv_at hl 0 rfl) ?_
        obtain ⟨b_5, hb_5⟩ := oInv.nn (i := 12) gI tbbr1 rfl
        refine va_get (D := (dC, dI)) (ci := 1) (v := .ref b_5) (C := RX1) (T := TX1) (N := 18) hx hb hts in_wsX10_fineAt_X1 hown hK hP q_2 hq_2 rfl 12 (by decide +kernel) (hts (.fieldLink RX10 261 "ShipOffice$Agreement" "fines" "[LShipOffice$Fine;") iw_X10_fineAt_2) (fun _ h9 => h9) (o_rd hb_5) dX10_fineAt_21 ?_
        have tb_5 : oty Z b_5 17 := oInv.rd gI tbbr1.2 hb_5 rfl rfl
        refine lv_iload_n hx hb dX10_fineAt_24 rfl (lv_at hl 1 rfl) ?_
        obtain ⟨q_6, hq_6⟩ := og (cq := cq) tb_5.1 (oE_17 tb_5.2)
        refine va_aldq hx hb hK hP q_6 6 hq_6 rfl (vp_in_iff.mpr (by omega)) dX10_fineAt_25 ?_
        obtain ⟨b_7, hb_7⟩ := oInv.el (i := 13) (x := x2) gI tbbr1 rfl hb_5 (by omega) (by omega)
        refine W.eq (g2 := F0 m 26 ls [.ref b_7]) (congrArg (fun z => F0 m 26 ls [va_rf z]) hb_7) ?_
        have tb_7 : oty Z b_7 2 := oInv.rd gI tb_5.2 hb_7 rfl rfl
        exact W.aret (v := .ref b_7) hx hb hr (Or.inl ⟨_, rfl⟩) (Or.inr ⟨_, rfl⟩) (fun t ht hW => ⟨⟨(some b_7), (), rfl, (fun b h => by cases h; exact tb_7), trivial⟩, hS.F ht⟩) hS.2.2 dX10_fineAt_26
      · have dc_4 := c_nlt (a := x2.toInt) (b := x_3.toInt) rfl rfl c_4
        refine lv_null hx hb dX10_fineAt_16 ?_
        refine lv_goto (tgt := 26) hx hb dX10_fineAt_17 (by decide +kernel) ?_
        exact W.aret (v := .null) hx hb hr (Or.inl ⟨_, rfl⟩) (Or.inl rfl) (fun t ht hW => ⟨⟨none, (), rfl, (fun b h => by cases h), trivial⟩, hS.F ht⟩) hS.2.2 dX10_fineAt_26
set_option maxHeartbeats 4000000 in
set_option maxRecDepth 100000 in
theorem c_X10_askRefusal (l : Launch) (dC : Nat → ClassId) (dI : Nat → Nat → Nat) (sz : Nat) (cq : Nat → ClassId) (Z : oS) (gI : oInv Z) (o : Nat) (to : oty Z o 10) (x1 : Int32) (x2 : Int32) : Met l yX10_askRefusal wsX10_askRefusal ({ frames := 0, cells := 0, slots := 0, locals := 0 }) (va_Pc [.ref o, .int x1, .int x2] (pcW (dC, dI) (oT cq) (oW cq Z) sz)) (va_Qi (fun (r : Int32) (u : Unit) => (-4 ≤ r.toInt ∧ r.toInt ≤ 0) ∧ (r = 0 → (0 ≤ x1.toInt ∧ x1.toInt ≤ x2.toInt ∧ x2.toInt ≤ 3000))) (fun _ _ => True) (va_A [] sz)) 0 0 (va_A [] sz) := by
  refine Met.ofW (cc := cX10_askRefusal) (maxL := 3) (ret := (some .int)) (by decide +kernel) rfl ?_
  intro p e s m args below meth c s₁ B hml hv
  obtain ⟨rfl, hsz, hP, hK, hD0⟩ := hv
  have hx := B.exec
  have hb := B.bytes
  have hr := B.returns
  have hts := atoms_spec (ws := wsX10_askRefusal) B.pre
  have hown : s.vm.findClass RX10 = some m.cls := findClass_of_methodNamed B.named
  have hlocks := B.notSynchronized
  subst hsz
  have hD := hD0
  generalize hAe : va_A [] s.heap.size = A at ⊢
  have hA : ∀ q : Nat, s.heap.size ≤ q → A q := fun q h => by rw [← hAe]; exact Or.inr h
  have hS : va_S A s.heap s.heap [] := va_S.rf
  have hP : va_P (dC, dI) vwCl (oW cq Z) s.heap := hP
  have hl := lv_entry ([.ref o, .int x1, .int x2]) (n := 3) (Nat.le_of_ble_eq_true rfl)
  rw [lg_entry_eq]
  generalize (lg_sl ([.ref o, .int x1, .int x2]) ++ List.replicate (3 - (lg_sl ([.ref o, .int x1, .int x2])).length) Slot.unset).toArray = ls at hl ⊢
  have hl : lv_has ls 3 [(0, .ref o), (1, .int x1), (2, .int x2)] := hl
  refine lv_iload_n hx hb dX10_askRefusal_0 rfl (lv_at hl 1 rfl) ?_
  refine lv_if_lt (tgt := 8) hx hb dX10_askRefusal_1 (by decide +kernel) (fun c_1 => ?_) (fun c_1 => ?_)
  · have dc_1 := c_lt (a := x1.toInt) (b := 0) rfl (by decide +kernel) c_1
    refine lv_bipush (v := (-4)) hx hb dX10_askRefusal_8 (by decide +kernel) ?_
    exact W.iret (v := (-4)) hx hb hr (fun t ht hW => ⟨⟨(-4), (), rfl, ⟨(by decide +kernel), (fun h => absurd h (by decide +kernel))⟩, trivial⟩, hS.F ht⟩) hS.2.2 dX10_askRefusal_10
  · have dc_1 := c_nlt (a := x1.toInt) (b := 0) rfl (by decide +kernel) c_1
    refine lv_iload_n hx hb dX10_askRefusal_4 rfl (lv_at hl 2 rfl) ?_
    refine lv_if_ge (tgt := 11) hx hb dX10_askRefusal_5 (by decide +kernel) (fun c_2 => ?_) (fun c_2 => ?_)
    · have dc_2 := c_le (a := 0) (b := x2.toInt) (by decide +kernel) rfl c_2
      refine lv_iload_n hx hb dX10_askRefusal_11 rfl (lv_at hl 1 rfl) ?_
      refine lv_iload_n hx hb dX10_askRefusal_12 rfl (lv_at hl 2 rfl) ?_
      refine lv_icmp_gt (tgt := 24) hx hb dX10_askRefusal_13 (by decide +kernel) (fun c_3 => ?_) (fun c_3 => ?_)
      · have dc_3 := c_lt (a := x2.toInt) (b := x1.toInt) rfl rfl c_3
        refine lv_bipush (v := (-3)) hx hb dX10_askRefusal_24 (by decide +kernel) ?_
        refine lv_goto (tgt := 30) hx hb dX10_askRefusal_26 (by decide +kernel) ?_
        exact W.iret (v := (-3)) hx hb hr (fun t ht hW => ⟨⟨(-3), (), rfl, ⟨(by decide +kernel), (fun h => absurd h (by decide +kernel))⟩, trivial⟩, hS.F ht⟩) hS.2.2 dX10_askRefusal_30
      · have dc_3 := c_nlt (a := x2.toInt) (b := x1.toInt) rfl rfl c_3
        refine lv_iload_n hx hb dX10_askRefusal_16 rfl (lv_at hl 2 rfl) ?_
        refine lv_aload_n hx hb dX10_askRefusal_17 rfl (lv_at hl 0 rfl) ?_
        obtain ⟨q_4, hq_4⟩ := og (cq := cq) to.1 (oE_10 to.2)
        refine va_get (D := (dC, dI)) (ci := 10) (v := .int (oI Z o 0)) (C := RX10) (T := TX10) (N := 16) hx hb hts in_wsX10_askRefusal_X10 hown hK hP q_4 hq_4 rfl 0 (by decide +kernel) (hts (.fieldLink RX10 73 "ShipOffice" "now" "I") iw_X10_askRefusal_1) (fun _ h9 => h9) rfl dX10_askRefusal_18 ?_
        refine lv_topi (fun x_5 ex_5 => ?_)
        have hx_5 : 0 ≤ x_5.toInt ∧ x_5.toInt ≤ 3000 := iv_of ex_5 (oInv.iv gI to.2 rfl rfl)
        have gx_5 : x_5.toInt = (oI Z o 0).toInt := iv_to ex_5
        clear ex_5
        refine lv_icmp_le (tgt := 29) hx hb dX10_askRefusal_21 (by decide +kernel) (fun c_6 => ?_) (fun c_6 => ?_)
        · have dc_6 := c_le (a := x2.toInt) (b := x_5.toInt) rfl rfl c_6
          refine lv_iconst (v := 0) hx hb dX10_askRefusal_29 (by decide +kernel) ?_
          exact W.iret (v := 0) hx hb hr (fun t ht hW => ⟨⟨0, (), rfl, ⟨(by decide +kernel), (fun _ => by omega)⟩, trivial⟩, hS.F ht⟩) hS.2.2 dX10_askRefusal_30
        · have dc_6 := c_nle (a := x2.toInt) (b := x_5.toInt) rfl rfl c_6
          refine lv_bipush (v := (-3)) hx hb dX10_askRefusal_24 (by decide +kernel) ?_
          refine lv_goto (tgt := 30) hx hb dX10_askRefusal_26 (by decide +kernel) ?_
          exact W.iret (v := (-3)) hx hb hr (fun t ht hW => ⟨⟨(-3), (), rfl, ⟨(by decide +kernel), (fun h => absurd h (by decide +kernel))⟩, trivial⟩, hS.F ht⟩) hS.2.2 dX10_askRefusal_30
    · have dc_2 := c_nle (a := 0) (b := x2.toInt) (by decide +kernel) rfl c_2
      refine lv_bipush (v := (-4)) hx hb dX10_askRefusal_8 (by decide +kernel) ?_
      exact W.iret (v := (-4)) hx hb hr (fun t ht hW => ⟨⟨(-4), (), rfl, ⟨(by decide +kernel), (fun h => absurd h (by decide +kernel))⟩, trivial⟩, hS.F ht⟩) hS.2.2 dX10_askRefusal_10
set_option maxHeartbeats 4000000 in
set_option maxRecDepth 100000 in
theorem c_X10_lastDay (l : Launch) (dC : Nat → ClassId) (dI : Nat → Nat → Nat) (sz : Nat) (cq : Nat → ClassId) (Z : oS) (gI : oInv Z) (o : Nat) (to : oty Z o 10) (a1 : Nat) (ta1 : oty Z a1 1) : Met l yX10_lastDay wsX10_lastDay ({ frames := 0, cells := 0, slots := 0, locals := 0 }) (va_Pc [.ref o, .ref a1] (pcW (dC, dI) (oT cq) (oW cq Z) sz)) (va_Qi (fun (r : Int32) (u : Unit) => True) (fun _ _ => True) (va_A [] sz)) 0 0 (va_A [] sz) := by
  refine Met.ofW (cc := cX10_lastDay) (maxL := 2) (ret := (some .int)) (by decide +kernel) rfl ?_
  intro p e s m args below meth c s₁ B hml hv
  obtain ⟨rfl, hsz, hP, hK, hD0⟩ := hv
  have hx := B.exec
  have hb := B.bytes
  have hr := B.returns
  have hts := atoms_spec (ws := wsX10_lastDay) B.pre
  have hown : s.vm.findClass RX10 = some m.cls := findClass_of_methodNamed B.named
  have hlocks := B.notSynchronized
  subst hsz
  have hD := hD0
  generalize hAe : va_A [] s.heap.size = A at ⊢
  have hA : ∀ q : Nat, s.heap.size ≤ q → A q := fun q h => by rw [← hAe]; exact Or.inr h
  have hS : va_S A s.heap s.heap [] := va_S.rf
  have hP : va_P (dC, dI) vwCl (oW cq Z) s.heap := hP
  have hl := lv_entry ([.ref o, .ref a1]) (n := 2) (Nat.le_of_ble_eq_true rfl)
  rw [lg_entry_eq]
  generalize (lg_sl ([.ref o, .ref a1]) ++ List.replicate (2 - (lg_sl ([.ref o, .ref a1])).length) Slot.unset).toArray = ls at hl ⊢
  have hl : lv_has ls 2 [(0, .ref o), (1, .ref a1)] := hl
  refine lv_aload_n hx hb dX10_lastDay_0 rfl (lv_at hl 1 rfl) ?_
  obtain ⟨q_1, hq_1⟩ := og (cq := cq) ta1.1 (oE_1 ta1.2)
  refine va_get (D := (dC, dI)) (ci := 1) (v := .int (oI Z a1 6)) (C := RX1) (T := TX1) (N := 18) hx hb hts in_wsX10_lastDay_X1 hown hK hP q_1 hq_1 rfl 6 (by decide +kernel) (hts (.fieldLink RX10 126 "ShipOffice$Agreement" "offDay" "I") iw_X10_lastDay_1) (fun _ h9 => h9) rfl dX10_lastDay_1 ?_
  refine lv_topi (fun x_2 ex_2 => ?_)
  have gx_2 : x_2.toInt = (oI Z a1 6).toInt := iv_to ex_2
  clear ex_2
  refine lv_ldc (v := 1000000) hx hb hown (hts (.constant RX10 114 (1000000)) (by decide +kernel)) dX10_lastDay_4 ?_
  refine lv_icmp_ne (tgt := 16) hx hb dX10_lastDay_6 (by decide +kernel) (fun c_3 => ?_) (fun c_3 => ?_)
  · have dc_3 := c_ne (a := x_2.toInt) (b := 1000000) rfl (by decide +kernel) c_3
    refine lv_aload_n hx hb dX10_lastDay_16 rfl (lv_at hl 1 rfl) ?_
    refine va_get (D := (dC, dI)) (ci := 1) (v := .int (oI Z a1 6)) (C := RX1) (T := TX1) (N := 18) hx hb hts in_wsX10_lastDay_X1 hown hK hP q_1 hq_1 rfl 6 (by decide +kernel) (hts (.fieldLink RX10 126 "ShipOffice$Agreement" "offDay" "I") iw_X10_lastDay_1) (fun _ h9 => h9) rfl dX10_lastDay_17 ?_
    refine lv_topi (fun x_4 ex_4 => ?_)
    have gx_4 : x_4.toInt = (oI Z a1 6).toInt := iv_to ex_4
    clear ex_4
    exact W.iret (v := x_4) hx hb hr (fun t ht hW => ⟨⟨x_4, (), rfl, trivial, trivial⟩, hS.F ht⟩) hS.2.2 dX10_lastDay_20
  · have dc_3 := c_eq (a := x_2.toInt) (b := 1000000) rfl (by decide +kernel) c_3
    refine lv_aload_n hx hb dX10_lastDay_9 rfl (lv_at hl 0 rfl) ?_
    obtain ⟨q_5, hq_5⟩ := og (cq := cq) to.1 (oE_10 to.2)
    refine va_get (D := (dC, dI)) (ci := 10) (v := .int (oI Z o 0)) (C := RX10) (T := TX10) (N := 16) hx hb hts in_wsX10_lastDay_X10 hown hK hP q_5 hq_5 rfl 0 (by decide +kernel) (hts (.fieldLink RX10 73 "ShipOffice" "now" "I") iw_X10_lastDay_2) (fun _ h9 => h9) rfl dX10_lastDay_10 ?_
    refine lv_topi (fun x_6 ex_6 => ?_)
    have hx_6 : 0 ≤ x_6.toInt ∧ x_6.toInt ≤ 3000 := iv_of ex_6 (oInv.iv gI to.2 rfl rfl)
    have gx_6 : x_6.toInt = (oI Z o 0).toInt := iv_to ex_6
    clear ex_6
    refine lv_goto (tgt := 20) hx hb dX10_lastDay_13 (by decide +kernel) ?_
    exact W.iret (v := x_6) hx hb hr (fun t ht hW => ⟨⟨x_6, (), rfl, trivial, trivial⟩, hS.F ht⟩) hS.2.2 dX10_lastDay_20
set_option maxHeartbeats 4000000 in
set_option maxRecDepth 100000 in
theorem c_X9_sailedBy (l : Launch) (dC : Nat → ClassId) (dI : Nat → Nat → Nat) (sz : Nat) (cq : Nat → ClassId) (Z : oS) (gI : oInv Z) (o : Nat) (to : oty Z o 9) (x1 : Int32) (x2 : Int32) : Met l yX9_sailedBy wsX9_sailedBy ({ frames := 0, cells := 0, slots := 0, locals := 0 }) (va_Pc [.ref o, .int x1, .int x2] (pcW (dC, dI) (oT cq) (oW cq Z) sz)) (va_Qi (fun (r : Int32) (u : Unit) => (0 ≤ r.toInt ∧ r.toInt ≤ 1)) (fun _ _ => True) (va_A [] sz)) 0 0 (va_A [] sz) := by
  refine Met.ofW (cc := cX9_sailedBy) (maxL := 3) (ret := (some .boolean)) (by decide +kernel) rfl ?_
  intro p e s m args below meth c s₁ B hml hv
  obtain ⟨rfl, hsz, hP, hK, hD0⟩ := hv
  have hx := B.exec
  have hb := B.bytes
  have hr := B.returns
  have hts := atoms_spec (ws := wsX9_sailedBy) B.pre
  have hown : s.vm.findClass RX9 = some m.cls := findClass_of_methodNamed B.named
  have hlocks := B.notSynchronized
  subst hsz
  have hD := hD0
  generalize hAe : va_A [] s.heap.size = A at ⊢
  have hA : ∀ q : Nat, s.heap.size ≤ q → A q := fun q h => by rw [← hAe]; exact Or.inr h
  have hS : va_S A s.heap s.heap [] := va_S.rf
  have hP : va_P (dC, dI) vwCl (oW cq Z) s.heap := hP
  have hl := lv_entry ([.ref o, .int x1, .int x2]) (n := 3) (Nat.le_of_ble_eq_true rfl)
  rw [lg_entry_eq]
  generalize (lg_sl ([.ref o, .int x1, .int x2]) ++ List.replicate (3 - (lg_sl ([.ref o, .int x1, .int x2])).length) Slot.unset).toArray = ls at hl ⊢
  have hl : lv_has ls 3 [(0, .ref o), (1, .int x1), (2, .int x2)] := hl
  refine lv_aload_n hx hb dX9_sailedBy_0 rfl (lv_at hl 0 rfl) ?_
  obtain ⟨q_1, hq_1⟩ := og (cq := cq) to.1 (oE_9 to.2)
  refine va_get (D := (dC, dI)) (ci := 9) (v := .int (oI Z o 6)) (C := RX9) (T := TX9) (N := 10) hx hb hts in_wsX9_sailedBy_X9 hown hK hP q_1 hq_1 rfl 6 (by decide +kernel) (hts (.fieldLink RX9 16 "ShipOffice$Voyage" "sailedTold" "I") iw_X9_sailedBy_1) (fun _ h9 => h9) rfl dX9_sailedBy_1 ?_
  refine lv_topi (fun x_2 ex_2 => ?_)
  clear ex_2
  refine lv_iload_n hx hb dX9_sailedBy_4 rfl (lv_at hl 2 rfl) ?_
  refine lv_icmp_gt (tgt := 20) hx hb dX9_sailedBy_5 (by decide +kernel) (fun c_3 => ?_) (fun c_3 => ?_)
  · have dc_3 := c_lt (a := x2.toInt) (b := x_2.toInt) rfl rfl c_3
    refine lv_iconst (v := 0) hx hb dX9_sailedBy_20 (by decide +kernel) ?_
    exact W.zret (v := 0) hx hb hr rfl (fun t ht hW => ⟨⟨0, (), rfl, (by decide +kernel), trivial⟩, hS.F ht⟩) hS.2.2 dX9_sailedBy_21
  · have dc_3 := c_nlt (a := x2.toInt) (b := x_2.toInt) rfl rfl c_3
    refine lv_aload_n hx hb dX9_sailedBy_8 rfl (lv_at hl 0 rfl) ?_
    refine va_get (D := (dC, dI)) (ci := 9) (v := .int (oI Z o 5)) (C := RX9) (T := TX9) (N := 10) hx hb hts in_wsX9_sailedBy_X9 hown hK hP q_1 hq_1 rfl 5 (by decide +kernel) (hts (.fieldLink RX9 10 "ShipOffice$Voyage" "sailedDay" "I") iw_X9_sailedBy_2) (fun _ h9 => h9) rfl dX9_sailedBy_9 ?_
    refine lv_topi (fun x_4 ex_4 => ?_)
    have hx_4 : 0 ≤ x_4.toInt ∧ x_4.toInt ≤ 1000000 := iv_of ex_4 (oInv.iv gI to.2 rfl rfl)
    have gx_4 : x_4.toInt = (oI Z o 5).toInt := iv_to ex_4
    clear ex_4
    refine lv_iload_n hx hb dX9_sailedBy_12 rfl (lv_at hl 1 rfl) ?_
    refine lv_icmp_gt (tgt := 20) hx hb dX9_sailedBy_13 (by decide +kernel) (fun c_5 => ?_) (fun c_5 => ?_)
    · have dc_5 := c_lt (a := x1.toInt) (b := x_4.toInt) rfl rfl c_5
      refine lv_iconst (v := 0) hx hb dX9_sailedBy_20 (by decide +kernel) ?_
      exact W.zret (v := 0) hx hb hr rfl (fun t ht hW => ⟨⟨0, (), rfl, (by decide +kernel), trivial⟩, hS.F ht⟩) hS.2.2 dX9_sailedBy_21
    · have dc_5 := c_nlt (a := x1.toInt) (b := x_4.toInt) rfl rfl c_5
      refine lv_iconst (v := 1) hx hb dX9_sailedBy_16 (by decide +kernel) ?_
      refine lv_goto (tgt := 21) hx hb dX9_sailedBy_17 (by decide +kernel) ?_
      exact W.zret (v := 1) hx hb hr rfl (fun t ht hW => ⟨⟨1, (), rfl, (by decide +kernel), trivial⟩, hS.F ht⟩) hS.2.2 dX9_sailedBy_21
set_option maxHeartbeats 4000000 in
set_option maxRecDepth 100000 in
theorem c_X9_lostBy (l : Launch) (dC : Nat → ClassId) (dI : Nat → Nat → Nat) (sz : Nat) (cq : Nat → ClassId) (Z : oS) (gI : oInv Z) (o : Nat) (to : oty Z o 9) (x1 : Int32) (x2 : Int32) : Met l yX9_lostBy wsX9_lostBy ({ frames := 0, cells := 0, slots := 0, locals := 0 }) (va_Pc [.ref o, .int x1, .int x2] (pcW (dC, dI) (oT cq) (oW cq Z) sz)) (va_Qi (fun (r : Int32) (u : Unit) => (0 ≤ r.toInt ∧ r.toInt ≤ 1)) (fun _ _ => True) (va_A [] sz)) 0 0 (va_A [] sz) := by
  refine Met.ofW (cc := cX9_lostBy) (maxL := 3) (ret := (some .boolean)) (by decide +kernel) rfl ?_
  intro p e s m args below meth c s₁ B hml hv
  obtain ⟨rfl, hsz, hP, hK, hD0⟩ := hv
  have hx := B.exec
  have hb := B.bytes
  have hr := B.returns
  have hts := atoms_spec (ws := wsX9_lostBy) B.pre
  have hown : s.vm.findClass RX9 = some m.cls := findClass_of_methodNamed B.named
  have hlocks := B.notSynchronized
  subst hsz
  have hD := hD0
  generalize hAe : va_A [] s.heap.size = A at ⊢
  have hA : ∀ q : Nat, s.heap.size ≤ q → A q := fun q h => by rw [← hAe]; exact Or.inr h
  have hS : va_S A s.heap s.heap [] := va_S.rf
  have hP : va_P (dC, dI) vwCl (oW cq Z) s.heap := hP
  have hl := lv_entry ([.ref o, .int x1, .int x2]) (n := 3) (Nat.le_of_ble_eq_true rfl)
  rw [lg_entry_eq]
  generalize (lg_sl ([.ref o, .int x1, .int x2]) ++ List.replicate (3 - (lg_sl ([.ref o, .int x1, .int x2])).length) Slot.unset).toArray = ls at hl ⊢
  have hl : lv_has ls 3 [(0, .ref o), (1, .int x1), (2, .int x2)] := hl
  refine lv_aload_n hx hb dX9_lostBy_0 rfl (lv_at hl 0 rfl) ?_
  obtain ⟨q_1, hq_1⟩ := og (cq := cq) to.1 (oE_9 to.2)
  refine va_get (D := (dC, dI)) (ci := 9) (v := .int (oI Z o 8)) (C := RX9) (T := TX9) (N := 10) hx hb hts in_wsX9_lostBy_X9 hown hK hP q_1 hq_1 rfl 8 (by decide +kernel) (hts (.fieldLink RX9 22 "ShipOffice$Voyage" "lostTold" "I") iw_X9_lostBy_1) (fun _ h9 => h9) rfl dX9_lostBy_1 ?_
  refine lv_topi (fun x_2 ex_2 => ?_)
  clear ex_2
  refine lv_iload_n hx hb dX9_lostBy_4 rfl (lv_at hl 2 rfl) ?_
  refine lv_icmp_gt (tgt := 20) hx hb dX9_lostBy_5 (by decide +kernel) (fun c_3 => ?_) (fun c_3 => ?_)
  · have dc_3 := c_lt (a := x2.toInt) (b := x_2.toInt) rfl rfl c_3
    refine lv_iconst (v := 0) hx hb dX9_lostBy_20 (by decide +kernel) ?_
    exact W.zret (v := 0) hx hb hr rfl (fun t ht hW => ⟨⟨0, (), rfl, (by decide +kernel), trivial⟩, hS.F ht⟩) hS.2.2 dX9_lostBy_21
  · have dc_3 := c_nlt (a := x2.toInt) (b := x_2.toInt) rfl rfl c_3
    refine lv_aload_n hx hb dX9_lostBy_8 rfl (lv_at hl 0 rfl) ?_
    refine va_get (D := (dC, dI)) (ci := 9) (v := .int (oI Z o 7)) (C := RX9) (T := TX9) (N := 10) hx hb hts in_wsX9_lostBy_X9 hown hK hP q_1 hq_1 rfl 7 (by decide +kernel) (hts (.fieldLink RX9 19 "ShipOffice$Voyage" "lostDay" "I") iw_X9_lostBy_2) (fun _ h9 => h9) rfl dX9_lostBy_9 ?_
    refine lv_topi (fun x_4 ex_4 => ?_)
    clear ex_4
    refine lv_iload_n hx hb dX9_lostBy_12 rfl (lv_at hl 1 rfl) ?_
    refine lv_icmp_gt (tgt := 20) hx hb dX9_lostBy_13 (by decide +kernel) (fun c_5 => ?_) (fun c_5 => ?_)
    · have dc_5 := c_lt (a := x1.toInt) (b := x_4.toInt) rfl rfl c_5
      refine lv_iconst (v := 0) hx hb dX9_lostBy_20 (by decide +kernel) ?_
      exact W.zret (v := 0) hx hb hr rfl (fun t ht hW => ⟨⟨0, (), rfl, (by decide +kernel), trivial⟩, hS.F ht⟩) hS.2.2 dX9_lostBy_21
    · have dc_5 := c_nlt (a := x1.toInt) (b := x_4.toInt) rfl rfl c_5
      refine lv_iconst (v := 1) hx hb dX9_lostBy_16 (by decide +kernel) ?_
      refine lv_goto (tgt := 21) hx hb dX9_lostBy_17 (by decide +kernel) ?_
      exact W.zret (v := 1) hx hb hr rfl (fun t ht hW => ⟨⟨1, (), rfl, (by decide +kernel), trivial⟩, hS.F ht⟩) hS.2.2 dX9_lostBy_21
set_option maxHeartbeats 4000000 in
set_option maxRecDepth 100000 in
theorem c_X1_goesOn (l : Launch) (dC : Nat → ClassId) (dI : Nat → Nat → Nat) (sz : Nat) (cq : Nat → ClassId) (Z : oS) (gI : oInv Z) (o : Nat) (to : oty Z o 1) : Met l yX1_goesOn wsX1_goesOn ({ frames := 0, cells := 0, slots := 0, locals := 0 }) (va_Pc [.ref o] (pcW (dC, dI) (oT cq) (oW cq Z) sz)) (va_Qi (fun (r : Int32) (u : Unit) => (0 ≤ r.toInt ∧ r.toInt ≤ 1)) (fun _ _ => True) (va_A [] sz)) 0 0 (va_A [] sz) := by
  refine Met.ofW (cc := cX1_goesOn) (maxL := 1) (ret := (some .boolean)) (by decide +kernel) rfl ?_
  intro p e s m args below meth c s₁ B hml hv
  obtain ⟨rfl, hsz, hP, hK, hD0⟩ := hv
  have hx := B.exec
  have hb := B.bytes
  have hr := B.returns
  have hts := atoms_spec (ws := wsX1_goesOn) B.pre
  have hown : s.vm.findClass RX1 = some m.cls := findClass_of_methodNamed B.named
  have hlocks := B.notSynchronized
  subst hsz
  have hD := hD0
  generalize hAe : va_A [] s.heap.size = A at ⊢
  have hA : ∀ q : Nat, s.heap.size ≤ q → A q := fun q h => by rw [← hAe]; exact Or.inr h
  have hS : va_S A s.heap s.heap [] := va_S.rf
  have hP : va_P (dC, dI) vwCl (oW cq Z) s.heap := hP
  have hl := lv_entry ([.ref o]) (n := 1) (Nat.le_of_ble_eq_true rfl)
  rw [lg_entry_eq]
  generalize (lg_sl ([.ref o]) ++ List.replicate (1 - (lg_sl ([.ref o])).length) Slot.unset).toArray = ls at hl ⊢
  have hl : lv_has ls 1 [(0, .ref o)] := hl
  refine lv_aload_n hx hb dX1_goesOn_0 rfl (lv_at hl 0 rfl) ?_
  obtain ⟨q_1, hq_1⟩ := og (cq := cq) to.1 (oE_1 to.2)
  refine va_get (D := (dC, dI)) (ci := 1) (v := .int (oI Z o 6)) (C := RX1) (T := TX1) (N := 18) hx hb hts in_wsX1_goesOn_X1 hown hK hP q_1 hq_1 rfl 6 (by decide +kernel) (hts (.fieldLink RX1 10 "ShipOffice$Agreement" "offDay" "I") iw_X1_goesOn_1) (fun _ h9 => h9) rfl dX1_goesOn_1 ?_
  refine lv_topi (fun x_2 ex_2 => ?_)
  have gx_2 : x_2.toInt = (oI Z o 6).toInt := iv_to ex_2
  clear ex_2
  refine lv_ldc (v := 1000000) hx hb hown (hts (.constant RX1 9 (1000000)) (by decide +kernel)) dX1_goesOn_4 ?_
  refine lv_icmp_ne (tgt := 32) hx hb dX1_goesOn_6 (by decide +kernel) (fun c_3 => ?_) (fun c_3 => ?_)
  · have dc_3 := c_ne (a := x_2.toInt) (b := 1000000) rfl (by decide +kernel) c_3
    refine lv_iconst (v := 0) hx hb dX1_goesOn_32 (by decide +kernel) ?_
    exact W.zret (v := 0) hx hb hr rfl (fun t ht hW => ⟨⟨0, (), rfl, (by decide +kernel), trivial⟩, hS.F ht⟩) hS.2.2 dX1_goesOn_33
  · have dc_3 := c_eq (a := x_2.toInt) (b := 1000000) rfl (by decide +kernel) c_3
    refine lv_aload_n hx hb dX1_goesOn_9 rfl (lv_at hl 0 rfl) ?_
    refine va_get (D := (dC, dI)) (ci := 1) (v := .int (oI Z o 7)) (C := RX1) (T := TX1) (N := 18) hx hb hts in_wsX1_goesOn_X1 hown hK hP q_1 hq_1 rfl 7 (by decide +kernel) (hts (.fieldLink RX1 44 "ShipOffice$Agreement" "isDead" "Z") iw_X1_goesOn_2) (fun _ h9 => h9) rfl dX1_goesOn_10 ?_
    refine lv_topi (fun x_4 ex_4 => ?_)
    clear ex_4
    refine lv_if_ne (tgt := 32) hx hb dX1_goesOn_13 (by decide +kernel) (fun c_5 => ?_) (fun c_5 => ?_)
    · have dc_5 := c_ne (a := x_4.toInt) (b := 0) rfl (by decide +kernel) c_5
      refine lv_iconst (v := 0) hx hb dX1_goesOn_32 (by decide +kernel) ?_
      exact W.zret (v := 0) hx hb hr rfl (fun t ht hW => ⟨⟨0, (), rfl, (by decide +kernel), trivial⟩, hS.F ht⟩) hS.2.2 dX1_goesOn_33
    · have dc_5 := c_eq (a := x_4.toInt) (b := 0) rfl (by decide +kernel) c_5
      refine lv_aload_n hx hb dX1_goesOn_16 rfl (lv_at hl 0 rfl) ?_
      obtain ⟨b_6, hb_6⟩ := oInv.nn (i := 1) gI to rfl
      refine va_get (D := (dC, dI)) (ci := 1) (v := .ref b_6) (C := RX1) (T := TX1) (N := 18) hx hb hts in_wsX1_goesOn_X1 hown hK hP q_1 hq_1 rfl 1 (by decide +kernel) (hts (.fieldLink RX1 33 "ShipOffice$Agreement" "voyage" "LShipOffice$Voyage;") iw_X1_goesOn_3) (fun _ h9 => h9) (o_rd hb_6) dX1_goesOn_17 ?_
      have tb_6 : oty Z b_6 9 := oInv.rd gI to.2 hb_6 rfl rfl
      obtain ⟨q_7, hq_7⟩ := og (cq := cq) tb_6.1 (oE_9 tb_6.2)
      refine va_get (D := (dC, dI)) (ci := 9) (v := .int (oI Z b_6 8)) (C := RX9) (T := TX9) (N := 10) hx hb hts in_wsX1_goesOn_X9 hown hK hP q_7 hq_7 rfl 8 (by decide +kernel) (hts (.fieldLink RX1 48 "ShipOffice$Voyage" "lostTold" "I") iw_X1_goesOn_4) (fun _ h9 => h9) rfl dX1_goesOn_20 ?_
      refine lv_topi (fun x_8 ex_8 => ?_)
      clear ex_8
      refine lv_ldc (v := 1000000) hx hb hown (hts (.constant RX1 9 (1000000)) (by decide +kernel)) dX1_goesOn_23 ?_
      refine lv_icmp_ne (tgt := 32) hx hb dX1_goesOn_25 (by decide +kernel) (fun c_9 => ?_) (fun c_9 => ?_)
      · have dc_9 := c_ne (a := x_8.toInt) (b := 1000000) rfl (by decide +kernel) c_9
        refine lv_iconst (v := 0) hx hb dX1_goesOn_32 (by decide +kernel) ?_
        exact W.zret (v := 0) hx hb hr rfl (fun t ht hW => ⟨⟨0, (), rfl, (by decide +kernel), trivial⟩, hS.F ht⟩) hS.2.2 dX1_goesOn_33
      · have dc_9 := c_eq (a := x_8.toInt) (b := 1000000) rfl (by decide +kernel) c_9
        refine lv_iconst (v := 1) hx hb dX1_goesOn_28 (by decide +kernel) ?_
        refine lv_goto (tgt := 33) hx hb dX1_goesOn_29 (by decide +kernel) ?_
        exact W.zret (v := 1) hx hb hr rfl (fun t ht hW => ⟨⟨1, (), rfl, (by decide +kernel), trivial⟩, hS.F ht⟩) hS.2.2 dX1_goesOn_33
set_option maxHeartbeats 4000000 in
set_option maxRecDepth 100000 in
theorem c_X10_isFree (l : Launch) (dC : Nat → ClassId) (dI : Nat → Nat → Nat) (sz : Nat) (cq : Nat → ClassId) (Z : oS) (gI : oInv Z) (o : Nat) (to : oty Z o 10) (a1 : Nat) (ta1 : oty Z a1 6) : Met l yX10_isFree wsX10_isFree ({ frames := 1, cells := 0, slots := 0, locals := 20 }) (va_Pc [.ref o, .ref a1] (pcW (dC, dI) (oT cq) (oW cq Z) sz)) (va_Qi (fun (r : Int32) (u : Unit) => (0 ≤ r.toInt ∧ r.toInt ≤ 1)) (fun _ _ => True) (va_A [] sz)) 0 0 (va_A [] sz) := by
  refine Met.ofW (cc := cX10_isFree) (maxL := 3) (ret := (some .boolean)) (by decide +kernel) rfl ?_
  intro p e s m args below meth c s₁ B hml hv
  obtain ⟨rfl, hsz, hP, hK, hD0⟩ := hv
  have hx := B.exec
  have hb := B.bytes
  have hr := B.returns
  have hts := atoms_spec (ws := wsX10_isFree) B.pre
  have hown : s.vm.findClass RX10 = some m.cls := findClass_of_methodNamed B.named
  have hlocks := B.notSynchronized
  subst hsz
  have hD := hD0
  generalize hAe : va_A [] s.heap.size = A at ⊢
  have hA : ∀ q : Nat, s.heap.size ≤ q → A q := fun q h => by rw [← hAe]; exact Or.inr h
  have hS : va_S A s.heap s.heap [] := va_S.rf
  have hP : va_P (dC, dI) vwCl (oW cq Z) s.heap := hP
  have hl := lv_entry ([.ref o, .ref a1]) (n := 3) (Nat.le_of_ble_eq_true rfl)
  rw [lg_entry_eq]
  generalize (lg_sl ([.ref o, .ref a1]) ++ List.replicate (3 - (lg_sl ([.ref o, .ref a1])).length) Slot.unset).toArray = ls at hl ⊢
  have hl : lv_has ls 3 [(0, .ref o), (1, .ref a1)] := hl
  refine lv_iconst (v := 0) hx hb dX10_isFree_0 (by decide +kernel) ?_
  refine lv_istore_n (lv' := [(2, .int 0), (0, .ref o), (1, .ref a1)]) hx hb dX10_isFree_1 rfl hl (by decide +kernel) rfl (fun ls hl => ?_)
  have cut_1 : ∀ (n : Nat) (y_2 : Int32) (H : Heap) (locs : List Loc) (ls : Array Slot), 60 - y_2.toInt ≤ (n : Int) → (0 ≤ y_2.toInt ∧ y_2.toInt ≤ 60) → va_P (dC, dI) vwCl (oW cq Z) H → va_S A s.heap H locs → lv_has ls 3 [(2, .int y_2), (0, .ref o), (1, .ref a1)] → W p l e (headSpec wsX10_isFree { frames := 1, cells := 0, slots := 0, locals := 20 }).room s m #[Value.ref o, Value.ref a1] below meth c H locs 0 0 (MQ below (va_Qi (fun (r : Int32) (u : Unit) => (0 ≤ r.toInt ∧ r.toInt ≤ 1)) (fun _ _ => True) A) #[Value.ref o, Value.ref a1] s 0 0 A) (F0 m 2 ls []) := by
    intro n
    induction n using Nat.strongRecOn with
    | ind n ih =>
      intro y_2 H locs ls hm hy_2 hP hS hl
      refine lv_iload_n hx hb dX10_isFree_2 rfl (lv_at hl 0 rfl) ?_
      refine lv_aload_n hx hb dX10_isFree_3 rfl (lv_at hl 1 rfl) ?_
      obtain ⟨q_3, hq_3⟩ := og (cq := cq) to.1 (oE_10 to.2)
      refine va_get (D := (dC, dI)) (ci := 10) (v := .int (oI Z o 6)) (C := RX10) (T := TX10) (N := 16) hx hb hts in_wsX10_isFree_X10 hown hK hP q_3 hq_3 rfl 6 (by decide +kernel) (hts (.fieldLink RX10 115 "ShipOffice" "agreementCount" "I") iw_X10_isFree_1) (fun _ h9 => h9) rfl dX10_isFree_4 ?_
      refine lv_topi (fun x_4 ex_4 => ?_)
      have hx_4 : 0 ≤ x_4.toInt ∧ x_4.toInt ≤ 60 := iv_of ex_4 (oInv.iv gI to.2 rfl rfl)
      have gx_4 : x_4.toInt = (oI Z o 6).toInt := iv_to ex_4
      clear ex_4
      refine lv_icmp_ge (tgt := 43) hx hb dX10_isFree_7 (by decide +kernel) (fun c_5 => ?_) (fun c_5 => ?_)
      · have dc_5 := c_le (a := x_4.toInt) (b := y_2.toInt) rfl rfl c_5
        refine lv_iconst (v := 1) hx hb dX10_isFree_43 (by decide +kernel) ?_
        exact W.zret (v := 1) hx hb hr rfl (fun t ht hW => ⟨⟨1, (), rfl, (by decide +kernel), trivial⟩, hS.F ht⟩) hS.2.2 dX10_isFree_44
      · have dc_5 := c_nle (a := x_4.toInt) (b := y_2.toInt) rfl rfl c_5
        refine lv_aload_n hx hb dX10_isFree_10 rfl (lv_at hl 1 rfl) ?_
        obtain ⟨b_6, hb_6⟩ := oInv.nn (i := 5) gI to rfl
        refine va_get (D := (dC, dI)) (ci := 10) (v := .ref b_6) (C := RX10) (T := TX10) (N := 16) hx hb hts in_wsX10_isFree_X10 hown hK hP q_3 hq_3 rfl 5 (by decide +kernel) (hts (.fieldLink RX10 23 "ShipOffice" "agreements" "[LShipOffice$Agreement;") iw_X10_isFree_2) (fun _ h9 => h9) (o_rd hb_6) dX10_isFree_11 ?_
        have tb_6 : oty Z b_6 16 := oInv.rd gI to.2 hb_6 rfl rfl
        refine lv_iload_n hx hb dX10_isFree_14 rfl (lv_at hl 0 rfl) ?_
        obtain ⟨q_7, hq_7⟩ := og (cq := cq) tb_6.1 (oE_16 tb_6.2)
        refine va_aldq hx hb hK hP q_7 5 hq_7 rfl (vp_in_iff.mpr (by omega)) dX10_isFree_15 ?_
        obtain ⟨b_8, hb_8⟩ := oInv.el (i := 6) (x := y_2) gI to rfl hb_6 (by omega) (by omega)
        refine W.eq (g2 := F0 m 16 ls [.ref b_8]) (congrArg (fun z => F0 m 16 ls [va_rf z]) hb_8) ?_
        have tb_8 : oty Z b_8 1 := oInv.rd gI tb_6.2 hb_8 rfl rfl
        obtain ⟨q_9, hq_9⟩ := og (cq := cq) tb_8.1 (oE_1 tb_8.2)
        obtain ⟨b_10, hb_10⟩ := oInv.nn (i := 0) gI tb_8 rfl
        refine va_get (D := (dC, dI)) (ci := 1) (v := .ref b_10) (C := RX1) (T := TX1) (N := 18) hx hb hts in_wsX10_isFree_X1 hown hK hP q_9 hq_9 rfl 0 (by decide +kernel) (hts (.fieldLink RX10 299 "ShipOffice$Agreement" "man" "LShipOffice$Man;") iw_X10_isFree_3) (fun _ h9 => h9) (o_rd hb_10) dX10_isFree_16 ?_
        have tb_10 : oty Z b_10 6 := oInv.rd gI tb_8.2 hb_10 rfl rfl
        refine lv_aload_n hx hb dX10_isFree_19 rfl (lv_at hl 2 rfl) ?_
        refine lv_acmp_ne (rx := (some b_10)) (ry := (some a1)) (tgt := 37) hx hb dX10_isFree_20 (by decide +kernel) (fun c_11 => ?_) (fun c_11 => ?_)
        · clear c_11
          obtain ⟨x_12, ex_12⟩ : ∃ zq : Int32, y_2 + 1 = zq := ⟨_, rfl⟩
          have hx_12 : x_12.toInt = y_2.toInt + 1 := (iv_to ex_12).symm.trans (ad_i rfl (by decide +kernel) (by omega) (by omega))
          refine lv_iinc (v := x_12) (lv' := [(2, .int x_12), (0, .ref o), (1, .ref a1)]) hx hb dX10_isFree_37 hl (k := 0) rfl ex_12 (by decide +kernel) rfl (fun ls hl => ?_)
          clear ex_12
          refine lv_goto (tgt := 2) hx hb dX10_isFree_40 (by decide +kernel) ?_
          exact ih (n - 1) (by omega) x_12 _ _ ls (by omega) (by omega) hP hS (lv_sub hl [0, 1, 2] rfl)
        · clear c_11
          refine lv_aload_n hx hb dX10_isFree_23 rfl (lv_at hl 1 rfl) ?_
          refine va_get (D := (dC, dI)) (ci := 10) (v := .ref b_6) (C := RX10) (T := TX10) (N := 16) hx hb hts in_wsX10_isFree_X10 hown hK hP q_3 hq_3 rfl 5 (by decide +kernel) (hts (.fieldLink RX10 23 "ShipOffice" "agreements" "[LShipOffice$Agreement;") iw_X10_isFree_2) (fun _ h9 => h9) (o_rd hb_6) dX10_isFree_24 ?_
          refine lv_iload_n hx hb dX10_isFree_27 rfl (lv_at hl 0 rfl) ?_
          refine va_aldq hx hb hK hP q_7 5 hq_7 rfl (vp_in_iff.mpr (by omega)) dX10_isFree_28 ?_
          obtain ⟨b_13, hb_13⟩ := oInv.el (i := 6) (x := y_2) gI to rfl hb_6 (by omega) (by omega)
          refine W.eq (g2 := F0 m 29 ls [.ref b_13]) (congrArg (fun z => F0 m 29 ls [va_rf z]) hb_13) ?_
          have tb_13 : oty Z b_13 1 := oInv.rd gI tb_6.2 hb_13 rfl rfl
          have hFc : ∀ q, va_A [] H.size q → A q := pu_free hS hA
          obtain ⟨q_14, hq_14⟩ := og (cq := cq) tb_13.1 (oE_1 tb_13.2)
          refine va_calli (va_runV (As := []) (rest := []) ⟨hx, hb, hml, hown, hts⟩ (c_X1_goesOn l dC dI H.size cq Z gI b_13 tb_13) (cwV 0 hts gX10_isFree_X1_goesOn rfl rfl rfl (by decide +kernel) ⟨(Nat.le_of_ble_eq_true rfl), (Nat.le_of_ble_eq_true rfl)⟩) (pr_V (r := (RX1, TX1, 18)) hP hK hD q_14 1 rfl hq_14) rfl rfl hl.1 rfl (lv_room (Nat.le_of_ble_eq_true rfl)) dX10_isFree_29 ⟨(Nat.le_of_ble_eq_true rfl), (Nat.le_of_ble_eq_true rfl)⟩) hS (fun q _ h => hFc q h) hFc (fun r_16 u t H locs ht hvm w_15 hB hz1 hk1 hS => ?_)
          have hP := pu_keep hP hk1
          clear hk1 hz1 hvm hB ht hFc
          have hb_17 := w_15
          refine lv_if_eq (tgt := 37) hx hb dX10_isFree_32 (by decide +kernel) (fun c_18 => ?_) (fun c_18 => ?_)
          · have dc_18 := c_eq (a := r_16.toInt) (b := 0) rfl (by decide +kernel) c_18
            obtain ⟨x_19, ex_19⟩ : ∃ zq : Int32, y_2 + 1 = zq := ⟨_, rfl⟩
            have hx_19 : x_19.toInt = y_2.toInt + 1 := (iv_to ex_19).symm.trans (ad_i rfl (by decide +kernel) (by omega) (by omega))
            refine lv_iinc (v := x_19) (lv' := [(2, .int x_19), (0, .ref o), (1, .ref a1)]) hx hb dX10_isFree_37 hl (k := 0) rfl ex_19 (by decide +kernel) rfl (fun ls hl => ?_)
            clear ex_19
            refine lv_goto (tgt := 2) hx hb dX10_isFree_40 (by decide +kernel) ?_
            exact ih (n - 1) (by omega) x_19 _ _ ls (by omega) (by omega) hP hS (lv_sub hl [0, 1, 2] rfl)
          · have dc_18 := c_ne (a := r_16.toInt) (b := 0) rfl (by decide +kernel) c_18
            refine lv_iconst (v := 0) hx hb dX10_isFree_35 (by decide +kernel) ?_
            exact W.zret (v := 0) hx hb hr rfl (fun t ht hW => ⟨⟨0, (), rfl, (by decide +kernel), trivial⟩, hS.F ht⟩) hS.2.2 dX10_isFree_36
  have kc_20 : (0 : Int32).toInt = 0 := by decide
  exact cut_1 61 0 _ _ ls (by omega) (by decide +kernel) hP hS (lv_sub hl [0, 1, 2] rfl)
set_option maxHeartbeats 4000000 in
set_option maxRecDepth 100000 in
theorem c_X10_openVoyages (l : Launch) (dC : Nat → ClassId) (dI : Nat → Nat → Nat) (sz : Nat) (cq : Nat → ClassId) (Z : oS) (gI : oInv Z) (o : Nat) (to : oty Z o 10) : Met l yX10_openVoyages wsX10_openVoyages ({ frames := 0, cells := 0, slots := 0, locals := 0 }) (va_Pc [.ref o] (pcW (dC, dI) (oT cq) (oW cq Z) sz)) (va_Qi (fun (r : Int32) (u : Unit) => True) (fun _ _ => True) (va_A [] sz)) 0 0 (va_A [] sz) := by
  refine Met.ofW (cc := cX10_openVoyages) (maxL := 3) (ret := (some .int)) (by decide +kernel) rfl ?_
  intro p e s m args below meth c s₁ B hml hv
  obtain ⟨rfl, hsz, hP, hK, hD0⟩ := hv
  have hx := B.exec
  have hb := B.bytes
  have hr := B.returns
  have hts := atoms_spec (ws := wsX10_openVoyages) B.pre
  have hown : s.vm.findClass RX10 = some m.cls := findClass_of_methodNamed B.named
  have hlocks := B.notSynchronized
  subst hsz
  have hD := hD0
  generalize hAe : va_A [] s.heap.size = A at ⊢
  have hA : ∀ q : Nat, s.heap.size ≤ q → A q := fun q h => by rw [← hAe]; exact Or.inr h
  have hS : va_S A s.heap s.heap [] := va_S.rf
  have hP : va_P (dC, dI) vwCl (oW cq Z) s.heap := hP
  have hl := lv_entry ([.ref o]) (n := 3) (Nat.le_of_ble_eq_true rfl)
  rw [lg_entry_eq]
  generalize (lg_sl ([.ref o]) ++ List.replicate (3 - (lg_sl ([.ref o])).length) Slot.unset).toArray = ls at hl ⊢
  have hl : lv_has ls 3 [(0, .ref o)] := hl
  refine lv_iconst (v := 0) hx hb dX10_openVoyages_0 (by decide +kernel) ?_
  refine lv_istore_n (lv' := [(1, .int 0), (0, .ref o)]) hx hb dX10_openVoyages_1 rfl hl (by decide +kernel) rfl (fun ls hl => ?_)
  refine lv_iconst (v := 0) hx hb dX10_openVoyages_2 (by decide +kernel) ?_
  refine lv_istore_n (lv' := [(2, .int 0), (1, .int 0), (0, .ref o)]) hx hb dX10_openVoyages_3 rfl hl (by decide +kernel) rfl (fun ls hl => ?_)
  have cut_1 : ∀ (n : Nat) (y_2 : Int32) (y_3 : Int32) (H : Heap) (locs : List Loc) (ls : Array Slot), 20 - y_2.toInt ≤ (n : Int) → (0 ≤ y_2.toInt ∧ y_2.toInt ≤ 20) → va_P (dC, dI) vwCl (oW cq Z) H → va_S A s.heap H locs → lv_has ls 3 [(2, .int y_2), (1, .int y_3), (0, .ref o)] → W p l e (headSpec wsX10_openVoyages { frames := 0, cells := 0, slots := 0, locals := 0 }).room s m #[Value.ref o] below meth c H locs 0 0 (MQ below (va_Qi (fun (r : Int32) (u : Unit) => True) (fun _ _ => True) A) #[Value.ref o] s 0 0 A) (F0 m 4 ls []) := by
    intro n
    induction n using Nat.strongRecOn with
    | ind n ih =>
      intro y_2 y_3 H locs ls hm hy_2 hP hS hl
      refine lv_iload_n hx hb dX10_openVoyages_4 rfl (lv_at hl 0 rfl) ?_
      refine lv_aload_n hx hb dX10_openVoyages_5 rfl (lv_at hl 2 rfl) ?_
      obtain ⟨q_4, hq_4⟩ := og (cq := cq) to.1 (oE_10 to.2)
      refine va_get (D := (dC, dI)) (ci := 10) (v := .int (oI Z o 4)) (C := RX10) (T := TX10) (N := 16) hx hb hts in_wsX10_openVoyages_X10 hown hK hP q_4 hq_4 rfl 4 (by decide +kernel) (hts (.fieldLink RX10 99 "ShipOffice" "voyageCount" "I") iw_X10_openVoyages_1) (fun _ h9 => h9) rfl dX10_openVoyages_6 ?_
      refine lv_topi (fun x_5 ex_5 => ?_)
      have hx_5 : 0 ≤ x_5.toInt ∧ x_5.toInt ≤ 20 := iv_of ex_5 (oInv.iv gI to.2 rfl rfl)
      have gx_5 : x_5.toInt = (oI Z o 4).toInt := iv_to ex_5
      clear ex_5
      refine lv_icmp_ge (tgt := 33) hx hb dX10_openVoyages_9 (by decide +kernel) (fun c_6 => ?_) (fun c_6 => ?_)
      · have dc_6 := c_le (a := x_5.toInt) (b := y_2.toInt) rfl rfl c_6
        refine lv_iload_n hx hb dX10_openVoyages_33 rfl (lv_at hl 1 rfl) ?_
        exact W.iret (v := y_3) hx hb hr (fun t ht hW => ⟨⟨y_3, (), rfl, trivial, trivial⟩, hS.F ht⟩) hS.2.2 dX10_openVoyages_34
      · have dc_6 := c_nle (a := x_5.toInt) (b := y_2.toInt) rfl rfl c_6
        refine lv_aload_n hx hb dX10_openVoyages_12 rfl (lv_at hl 2 rfl) ?_
        obtain ⟨b_7, hb_7⟩ := oInv.nn (i := 3) gI to rfl
        refine va_get (D := (dC, dI)) (ci := 10) (v := .ref b_7) (C := RX10) (T := TX10) (N := 16) hx hb hts in_wsX10_openVoyages_X10 hown hK hP q_4 hq_4 rfl 3 (by decide +kernel) (hts (.fieldLink RX10 17 "ShipOffice" "voyages" "[LShipOffice$Voyage;") iw_X10_openVoyages_2) (fun _ h9 => h9) (o_rd hb_7) dX10_openVoyages_13 ?_
        have tb_7 : oty Z b_7 15 := oInv.rd gI to.2 hb_7 rfl rfl
        refine lv_iload_n hx hb dX10_openVoyages_16 rfl (lv_at hl 0 rfl) ?_
        obtain ⟨q_8, hq_8⟩ := og (cq := cq) tb_7.1 (oE_15 tb_7.2)
        refine va_aldq hx hb hK hP q_8 4 hq_8 rfl (vp_in_iff.mpr (by omega)) dX10_openVoyages_17 ?_
        obtain ⟨b_9, hb_9⟩ := oInv.el (i := 4) (x := y_2) gI to rfl hb_7 (by omega) (by omega)
        refine W.eq (g2 := F0 m 18 ls [.ref b_9]) (congrArg (fun z => F0 m 18 ls [va_rf z]) hb_9) ?_
        have tb_9 : oty Z b_9 9 := oInv.rd gI tb_7.2 hb_9 rfl rfl
        obtain ⟨q_10, hq_10⟩ := og (cq := cq) tb_9.1 (oE_9 tb_9.2)
        refine va_get (D := (dC, dI)) (ci := 9) (v := .int (oI Z b_9 4)) (C := RX9) (T := TX9) (N := 10) hx hb hts in_wsX10_openVoyages_X9 hown hK hP q_10 hq_10 rfl 4 (by decide +kernel) (hts (.fieldLink RX10 107 "ShipOffice$Voyage" "isOver" "Z") iw_X10_openVoyages_3) (fun _ h9 => h9) rfl dX10_openVoyages_18 ?_
        refine lv_topi (fun x_11 ex_11 => ?_)
        clear ex_11
        refine lv_if_ne (tgt := 27) hx hb dX10_openVoyages_21 (by decide +kernel) (fun c_12 => ?_) (fun c_12 => ?_)
        · have dc_12 := c_ne (a := x_11.toInt) (b := 0) rfl (by decide +kernel) c_12
          obtain ⟨x_13, ex_13⟩ : ∃ zq : Int32, y_2 + 1 = zq := ⟨_, rfl⟩
          have hx_13 : x_13.toInt = y_2.toInt + 1 := (iv_to ex_13).symm.trans (ad_i rfl (by decide +kernel) (by omega) (by omega))
          refine lv_iinc (v := x_13) (lv' := [(2, .int x_13), (1, .int y_3), (0, .ref o)]) hx hb dX10_openVoyages_27 hl (k := 0) rfl ex_13 (by decide +kernel) rfl (fun ls hl => ?_)
          clear ex_13
          refine lv_goto (tgt := 4) hx hb dX10_openVoyages_30 (by decide +kernel) ?_
          exact ih (n - 1) (by omega) x_13 y_3 _ _ ls (by omega) (by omega) hP hS (lv_sub hl [0, 1, 2] rfl)
        · have dc_12 := c_eq (a := x_11.toInt) (b := 0) rfl (by decide +kernel) c_12
          obtain ⟨x_14, ex_14⟩ : ∃ zq : Int32, y_3 + 1 = zq := ⟨_, rfl⟩
          refine lv_iinc (v := x_14) (lv' := [(1, .int x_14), (2, .int y_2), (0, .ref o)]) hx hb dX10_openVoyages_24 hl (k := 1) rfl ex_14 (by decide +kernel) rfl (fun ls hl => ?_)
          clear ex_14
          obtain ⟨x_15, ex_15⟩ : ∃ zq : Int32, y_2 + 1 = zq := ⟨_, rfl⟩
          have hx_15 : x_15.toInt = y_2.toInt + 1 := (iv_to ex_15).symm.trans (ad_i rfl (by decide +kernel) (by omega) (by omega))
          refine lv_iinc (v := x_15) (lv' := [(2, .int x_15), (1, .int x_14), (0, .ref o)]) hx hb dX10_openVoyages_27 hl (k := 1) rfl ex_15 (by decide +kernel) rfl (fun ls hl => ?_)
          clear ex_15
          refine lv_goto (tgt := 4) hx hb dX10_openVoyages_30 (by decide +kernel) ?_
          exact ih (n - 1) (by omega) x_15 x_14 _ _ ls (by omega) (by omega) hP hS (lv_sub hl [0, 1, 2] rfl)
  have kc_16 : (0 : Int32).toInt = 0 := by decide
  exact cut_1 21 0 0 _ _ ls (by omega) (by decide +kernel) hP hS (lv_sub hl [0, 1, 2] rfl)
set_option maxHeartbeats 4000000 in
set_option maxRecDepth 100000 in
theorem c_X10_openAgreements (l : Launch) (dC : Nat → ClassId) (dI : Nat → Nat → Nat) (sz : Nat) (cq : Nat → ClassId) (Z : oS) (gI : oInv Z) (o : Nat) (to : oty Z o 10) : Met l yX10_openAgreements wsX10_openAgreements ({ frames := 1, cells := 0, slots := 0, locals := 20 }) (va_Pc [.ref o] (pcW (dC, dI) (oT cq) (oW cq Z) sz)) (va_Qi (fun (r : Int32) (u : Unit) => True) (fun _ _ => True) (va_A [] sz)) 0 0 (va_A [] sz) := by
  refine Met.ofW (cc := cX10_openAgreements) (maxL := 3) (ret := (some .int)) (by decide +kernel) rfl ?_
  intro p e s m args below meth c s₁ B hml hv
  obtain ⟨rfl, hsz, hP, hK, hD0⟩ := hv
  have hx := B.exec
  have hb := B.bytes
  have hr := B.returns
  have hts := atoms_spec (ws := wsX10_openAgreements) B.pre
  have hown : s.vm.findClass RX10 = some m.cls := findClass_of_methodNamed B.named
  have hlocks := B.notSynchronized
  subst hsz
  have hD := hD0
  generalize hAe : va_A [] s.heap.size = A at ⊢
  have hA : ∀ q : Nat, s.heap.size ≤ q → A q := fun q h => by rw [← hAe]; exact Or.inr h
  have hS : va_S A s.heap s.heap [] := va_S.rf
  have hP : va_P (dC, dI) vwCl (oW cq Z) s.heap := hP
  have hl := lv_entry ([.ref o]) (n := 3) (Nat.le_of_ble_eq_true rfl)
  rw [lg_entry_eq]
  generalize (lg_sl ([.ref o]) ++ List.replicate (3 - (lg_sl ([.ref o])).length) Slot.unset).toArray = ls at hl ⊢
  have hl : lv_has ls 3 [(0, .ref o)] := hl
  refine lv_iconst (v := 0) hx hb dX10_openAgreements_0 (by decide +kernel) ?_
  refine lv_istore_n (lv' := [(1, .int 0), (0, .ref o)]) hx hb dX10_openAgreements_1 rfl hl (by decide +kernel) rfl (fun ls hl => ?_)
  refine lv_iconst (v := 0) hx hb dX10_openAgreements_2 (by decide +kernel) ?_
  refine lv_istore_n (lv' := [(2, .int 0), (1, .int 0), (0, .ref o)]) hx hb dX10_openAgreements_3 rfl hl (by decide +kernel) rfl (fun ls hl => ?_)
  have cut_1 : ∀ (n : Nat) (y_2 : Int32) (y_3 : Int32) (H : Heap) (locs : List Loc) (ls : Array Slot), 60 - y_2.toInt ≤ (n : Int) → (0 ≤ y_2.toInt ∧ y_2.toInt ≤ 60) → va_P (dC, dI) vwCl (oW cq Z) H → va_S A s.heap H locs → lv_has ls 3 [(2, .int y_2), (1, .int y_3), (0, .ref o)] → W p l e (headSpec wsX10_openAgreements { frames := 1, cells := 0, slots := 0, locals := 20 }).room s m #[Value.ref o] below meth c H locs 0 0 (MQ below (va_Qi (fun (r : Int32) (u : Unit) => True) (fun _ _ => True) A) #[Value.ref o] s 0 0 A) (F0 m 4 ls []) := by
    intro n
    induction n using Nat.strongRecOn with
    | ind n ih =>
      intro y_2 y_3 H locs ls hm hy_2 hP hS hl
      refine lv_iload_n hx hb dX10_openAgreements_4 rfl (lv_at hl 0 rfl) ?_
      refine lv_aload_n hx hb dX10_openAgreements_5 rfl (lv_at hl 2 rfl) ?_
      obtain ⟨q_4, hq_4⟩ := og (cq := cq) to.1 (oE_10 to.2)
      refine va_get (D := (dC, dI)) (ci := 10) (v := .int (oI Z o 6)) (C := RX10) (T := TX10) (N := 16) hx hb hts in_wsX10_openAgreements_X10 hown hK hP q_4 hq_4 rfl 6 (by decide +kernel) (hts (.fieldLink RX10 115 "ShipOffice" "agreementCount" "I") iw_X10_openAgreements_1) (fun _ h9 => h9) rfl dX10_openAgreements_6 ?_
      refine lv_topi (fun x_5 ex_5 => ?_)
      have hx_5 : 0 ≤ x_5.toInt ∧ x_5.toInt ≤ 60 := iv_of ex_5 (oInv.iv gI to.2 rfl rfl)
      have gx_5 : x_5.toInt = (oI Z o 6).toInt := iv_to ex_5
      clear ex_5
      refine lv_icmp_ge (tgt := 33) hx hb dX10_openAgreements_9 (by decide +kernel) (fun c_6 => ?_) (fun c_6 => ?_)
      · have dc_6 := c_le (a := x_5.toInt) (b := y_2.toInt) rfl rfl c_6
        refine lv_iload_n hx hb dX10_openAgreements_33 rfl (lv_at hl 1 rfl) ?_
        exact W.iret (v := y_3) hx hb hr (fun t ht hW => ⟨⟨y_3, (), rfl, trivial, trivial⟩, hS.F ht⟩) hS.2.2 dX10_openAgreements_34
      · have dc_6 := c_nle (a := x_5.toInt) (b := y_2.toInt) rfl rfl c_6
        refine lv_aload_n hx hb dX10_openAgreements_12 rfl (lv_at hl 2 rfl) ?_
        obtain ⟨b_7, hb_7⟩ := oInv.nn (i := 5) gI to rfl
        refine va_get (D := (dC, dI)) (ci := 10) (v := .ref b_7) (C := RX10) (T := TX10) (N := 16) hx hb hts in_wsX10_openAgreements_X10 hown hK hP q_4 hq_4 rfl 5 (by decide +kernel) (hts (.fieldLink RX10 23 "ShipOffice" "agreements" "[LShipOffice$Agreement;") iw_X10_openAgreements_2) (fun _ h9 => h9) (o_rd hb_7) dX10_openAgreements_13 ?_
        have tb_7 : oty Z b_7 16 := oInv.rd gI to.2 hb_7 rfl rfl
        refine lv_iload_n hx hb dX10_openAgreements_16 rfl (lv_at hl 0 rfl) ?_
        obtain ⟨q_8, hq_8⟩ := og (cq := cq) tb_7.1 (oE_16 tb_7.2)
        refine va_aldq hx hb hK hP q_8 5 hq_8 rfl (vp_in_iff.mpr (by omega)) dX10_openAgreements_17 ?_
        obtain ⟨b_9, hb_9⟩ := oInv.el (i := 6) (x := y_2) gI to rfl hb_7 (by omega) (by omega)
        refine W.eq (g2 := F0 m 18 ls [.ref b_9]) (congrArg (fun z => F0 m 18 ls [va_rf z]) hb_9) ?_
        have tb_9 : oty Z b_9 1 := oInv.rd gI tb_7.2 hb_9 rfl rfl
        have hFc : ∀ q, va_A [] H.size q → A q := pu_free hS hA
        obtain ⟨q_10, hq_10⟩ := og (cq := cq) tb_9.1 (oE_1 tb_9.2)
        refine va_calli (va_runV (As := []) (rest := []) ⟨hx, hb, hml, hown, hts⟩ (c_X1_goesOn l dC dI H.size cq Z gI b_9 tb_9) (cwV 0 hts gX10_openAgreements_X1_goesOn rfl rfl rfl (by decide +kernel) ⟨(Nat.le_of_ble_eq_true rfl), (Nat.le_of_ble_eq_true rfl)⟩) (pr_V (r := (RX1, TX1, 18)) hP hK hD q_10 1 rfl hq_10) rfl rfl hl.1 rfl (lv_room (Nat.le_of_ble_eq_true rfl)) dX10_openAgreements_18 ⟨(Nat.le_of_ble_eq_true rfl), (Nat.le_of_ble_eq_true rfl)⟩) hS (fun q _ h => hFc q h) hFc (fun r_12 u t H locs ht hvm w_11 hB hz1 hk1 hS => ?_)
        have hP := pu_keep hP hk1
        clear hk1 hz1 hvm hB ht hFc
        have hb_13 := w_11
        refine lv_if_eq (tgt := 27) hx hb dX10_openAgreements_21 (by decide +kernel) (fun c_14 => ?_) (fun c_14 => ?_)
        · have dc_14 := c_eq (a := r_12.toInt) (b := 0) rfl (by decide +kernel) c_14
          obtain ⟨x_15, ex_15⟩ : ∃ zq : Int32, y_2 + 1 = zq := ⟨_, rfl⟩
          have hx_15 : x_15.toInt = y_2.toInt + 1 := (iv_to ex_15).symm.trans (ad_i rfl (by decide +kernel) (by omega) (by omega))
          refine lv_iinc (v := x_15) (lv' := [(2, .int x_15), (1, .int y_3), (0, .ref o)]) hx hb dX10_openAgreements_27 hl (k := 0) rfl ex_15 (by decide +kernel) rfl (fun ls hl => ?_)
          clear ex_15
          refine lv_goto (tgt := 4) hx hb dX10_openAgreements_30 (by decide +kernel) ?_
          exact ih (n - 1) (by omega) x_15 y_3 _ _ ls (by omega) (by omega) hP hS (lv_sub hl [0, 1, 2] rfl)
        · have dc_14 := c_ne (a := r_12.toInt) (b := 0) rfl (by decide +kernel) c_14
          obtain ⟨x_16, ex_16⟩ : ∃ zq : Int32, y_3 + 1 = zq := ⟨_, rfl⟩
          refine lv_iinc (v := x_16) (lv' := [(1, .int x_16), (2, .int y_2), (0, .ref o)]) hx hb dX10_openAgreements_24 hl (k := 1) rfl ex_16 (by decide +kernel) rfl (fun ls hl => ?_)
          clear ex_16
          obtain ⟨x_17, ex_17⟩ : ∃ zq : Int32, y_2 + 1 = zq := ⟨_, rfl⟩
          have hx_17 : x_17.toInt = y_2.toInt + 1 := (iv_to ex_17).symm.trans (ad_i rfl (by decide +kernel) (by omega) (by omega))
          refine lv_iinc (v := x_17) (lv' := [(2, .int x_17), (1, .int x_16), (0, .ref o)]) hx hb dX10_openAgreements_27 hl (k := 1) rfl ex_17 (by decide +kernel) rfl (fun ls hl => ?_)
          clear ex_17
          refine lv_goto (tgt := 4) hx hb dX10_openAgreements_30 (by decide +kernel) ?_
          exact ih (n - 1) (by omega) x_17 x_16 _ _ ls (by omega) (by omega) hP hS (lv_sub hl [0, 1, 2] rfl)
  have kc_18 : (0 : Int32).toInt = 0 := by decide
  exact cut_1 61 0 0 _ _ ls (by omega) (by decide +kernel) hP hS (lv_sub hl [0, 1, 2] rfl)
