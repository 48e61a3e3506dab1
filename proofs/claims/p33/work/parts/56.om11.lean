def tyX4 : Nat → FieldType := fun k => match k with
  | 0 => .array .long
  | 1 => .array .int
  | 2 => .int
  | 3 => .array .int
  | 4 => .int
  | _ => .int
abbrev wsX40 : List Cond := u_ws RX4 TX4 6
theorem nmX4 : ∀ a, a < 6 → ∀ b, b < 6 → a ≠ b → (TX4 a).2.1 ≠ (TX4 b).2.1 := by decide +kernel
theorem tyX4_ok : ∀ k, k < 6 → parseFieldDescriptor (TX4 k).2.2.1 = some (tyX4 k) := by decide +kernel
abbrev cX4_begin : ByteArray := prog_6_method_2_code
def yX4_begin : MethodName := ⟨RX4, "begin", "(I)V"⟩
abbrev cX4_offer : ByteArray := prog_6_method_4_code
def yX4_offer : MethodName := ⟨RX4, "offer", "(LShipOffice$Man;)V"⟩
abbrev cX4_placeIn : ByteArray := prog_6_method_5_code
def yX4_placeIn : MethodName := ⟨RX4, "placeIn", "(ILShipOffice$Man;)V"⟩
abbrev cX4_leastSum : ByteArray := prog_6_method_7_code
def yX4_leastSum : MethodName := ⟨RX4, "leastSum", "()I"⟩
abbrev cX4_hand : ByteArray := prog_6_method_8_code
def yX4_hand : MethodName := ⟨RX4, "hand", "(I)I"⟩
theorem gw_J7_fill_d0a16 : wsJ7_fill_d0a16.all goodWord = true := by decide +kernel
theorem gw_X4_handsOf : wsX4_handsOf.all goodWord = true := by decide +kernel
def wsX4_begin : List Cond := .code yX4_begin cX4_begin 3 none :: ([.fieldLink RX4 11 "ShipOffice$Hiring" "best" "[J", .constantLong RX4 22 (1152921504606846976), .fieldLink RX4 30 "ShipOffice$Hiring" "offerCount" "I", .fieldLink RX4 34 "ShipOffice$Hiring" "goal" "I", .fieldLink RX4 37 "ShipOffice$Hiring" "places" "I", .fieldLink RX4 19 "ShipOffice$Hiring" "firstPlace" "[I", .methodLink RX4 24 yJ7_fill_d0a16, .static yJ7_fill_d0a16, .initialized RJ7, .code yJ7_fill_d0a16 cJ7_fill_d0a16 5 none, .methodLink RX4 40 yX4_handsOf, .static yX4_handsOf, .initialized RX4, .code yX4_handsOf cX4_handsOf 2 (some .int), .fieldLink RX4 44 "ShipOffice$Hiring" "STEP" "[I"] ++ wsX40)
theorem il_X4_begin_1 : ∀ w ∈ ([.fieldLink RX4 11 "ShipOffice$Hiring" "best" "[J", .constantLong RX4 22 (1152921504606846976), .fieldLink RX4 30 "ShipOffice$Hiring" "offerCount" "I", .fieldLink RX4 34 "ShipOffice$Hiring" "goal" "I", .fieldLink RX4 37 "ShipOffice$Hiring" "places" "I", .fieldLink RX4 19 "ShipOffice$Hiring" "firstPlace" "[I", .methodLink RX4 24 yJ7_fill_d0a16, .static yJ7_fill_d0a16, .initialized RJ7, .code yJ7_fill_d0a16 cJ7_fill_d0a16 5 none, .methodLink RX4 40 yX4_handsOf, .static yX4_handsOf, .initialized RX4, .code yX4_handsOf cX4_handsOf 2 (some .int), .fieldLink RX4 44 "ShipOffice$Hiring" "STEP" "[I"] : List Cond), w ∈ wsX4_begin := fun w h => (List.mem_cons_of_mem _ (List.mem_append_left _ h))
theorem iw_X4_begin_1 : Cond.fieldLink RX4 11 "ShipOffice$Hiring" "best" "[J" ∈ wsX4_begin := (mmI il_X4_begin_1 0 rfl)
theorem iw_X4_begin_2 : Cond.fieldLink RX4 30 "ShipOffice$Hiring" "offerCount" "I" ∈ wsX4_begin := (mmI il_X4_begin_1 2 rfl)
theorem iw_X4_begin_3 : Cond.fieldLink RX4 34 "ShipOffice$Hiring" "goal" "I" ∈ wsX4_begin := (mmI il_X4_begin_1 3 rfl)
theorem iw_X4_begin_4 : Cond.fieldLink RX4 37 "ShipOffice$Hiring" "places" "I" ∈ wsX4_begin := (mmI il_X4_begin_1 4 rfl)
theorem iw_X4_begin_5 : Cond.fieldLink RX4 19 "ShipOffice$Hiring" "firstPlace" "[I" ∈ wsX4_begin := (mmI il_X4_begin_1 5 rfl)
theorem gw_X4_handShift : wsX4_handShift.all goodWord = true := by decide +kernel
def wsX4_placeIn : List Cond := .code yX4_placeIn cX4_placeIn 10 none :: ([.fieldLink RX4 56 "ShipOffice$Man" "wages" "[I", .fieldLink RX4 34 "ShipOffice$Hiring" "goal" "I", .fieldLink RX4 30 "ShipOffice$Hiring" "offerCount" "I", .fieldLink RX4 19 "ShipOffice$Hiring" "firstPlace" "[I", .fieldLink RX4 11 "ShipOffice$Hiring" "best" "[J", .fieldLink RX4 44 "ShipOffice$Hiring" "STEP" "[I", .methodLink RX4 63 Lib.MathLoose.min_long.x, .static Lib.MathLoose.min_long.x, .initialized "java/lang/Math", .code Lib.MathLoose.min_long.x Lib.MathLoose.min_long.code 4 (some .long), .methodLink RX4 40 yX4_handsOf, .static yX4_handsOf, .initialized RX4, .code yX4_handsOf cX4_handsOf 2 (some .int), .methodLink RX4 59 yX4_handShift, .static yX4_handShift, .code yX4_handShift cX4_handShift 1 (some .int)] ++ wsX60 ++ wsX40)
theorem gw_X4_placeIn : wsX4_placeIn.all goodWord = true := by decide +kernel
theorem il_X4_placeIn_1 : ∀ w ∈ ([.fieldLink RX4 56 "ShipOffice$Man" "wages" "[I", .fieldLink RX4 34 "ShipOffice$Hiring" "goal" "I", .fieldLink RX4 30 "ShipOffice$Hiring" "offerCount" "I", .fieldLink RX4 19 "ShipOffice$Hiring" "firstPlace" "[I", .fieldLink RX4 11 "ShipOffice$Hiring" "best" "[J", .fieldLink RX4 44 "ShipOffice$Hiring" "STEP" "[I", .methodLink RX4 63 Lib.MathLoose.min_long.x, .static Lib.MathLoose.min_long.x, .initialized "java/lang/Math", .code Lib.MathLoose.min_long.x Lib.MathLoose.min_long.code 4 (some .long), .methodLink RX4 40 yX4_handsOf, .static yX4_handsOf, .initialized RX4, .code yX4_handsOf cX4_handsOf 2 (some .int), .methodLink RX4 59 yX4_handShift, .static yX4_handShift, .code yX4_handShift cX4_handShift 1 (some .int)] : List Cond), w ∈ wsX4_placeIn := fun w h => (List.mem_cons_of_mem _ (List.mem_append_left _ (List.mem_append_left _ h)))
theorem iw_X4_placeIn_1 : Cond.fieldLink RX4 56 "ShipOffice$Man" "wages" "[I" ∈ wsX4_placeIn := (mmI il_X4_placeIn_1 0 rfl)
theorem iw_X4_placeIn_2 : Cond.fieldLink RX4 34 "ShipOffice$Hiring" "goal" "I" ∈ wsX4_placeIn := (mmI il_X4_placeIn_1 1 rfl)
theorem iw_X4_placeIn_3 : Cond.fieldLink RX4 30 "ShipOffice$Hiring" "offerCount" "I" ∈ wsX4_placeIn := (mmI il_X4_placeIn_1 2 rfl)
theorem iw_X4_placeIn_4 : Cond.fieldLink RX4 19 "ShipOffice$Hiring" "firstPlace" "[I" ∈ wsX4_placeIn := (mmI il_X4_placeIn_1 3 rfl)
theorem iw_X4_placeIn_5 : Cond.fieldLink RX4 11 "ShipOffice$Hiring" "best" "[J" ∈ wsX4_placeIn := (mmI il_X4_placeIn_1 4 rfl)
theorem iw_X4_placeIn_6 : Cond.fieldLink RX4 44 "ShipOffice$Hiring" "STEP" "[I" ∈ wsX4_placeIn := (mmI il_X4_placeIn_1 5 rfl)
theorem iw_X4_placeIn_7 : Cond.methodLink RX4 63 Lib.MathLoose.min_long.x ∈ wsX4_placeIn := (mmI il_X4_placeIn_1 6 rfl)
theorem iw_X4_placeIn_8 : Cond.static Lib.MathLoose.min_long.x ∈ wsX4_placeIn := (mmI il_X4_placeIn_1 7 rfl)
theorem iw_X4_placeIn_9 : Cond.initialized "java/lang/Math" ∈ wsX4_placeIn := (mmI il_X4_placeIn_1 8 rfl)
def wsX4_offer : List Cond := .code yX4_offer cX4_offer 3 none :: ([.fieldLink RX4 30 "ShipOffice$Hiring" "offerCount" "I", .fieldLink RX4 11 "ShipOffice$Hiring" "best" "[J", .constantLong RX4 22 (1152921504606846976), .fieldLink RX4 15 "ShipOffice$Hiring" "offers" "[I", .fieldLink RX4 51 "ShipOffice$Man" "number" "I", .methodLink RX4 47 yX4_placeIn, .instanceMethod yX4_placeIn, .selects RX4 yX4_placeIn yX4_placeIn, .initialized RX4, .code yX4_placeIn cX4_placeIn 10 none, .fieldLink RX4 56 "ShipOffice$Man" "wages" "[I", .fieldLink RX4 34 "ShipOffice$Hiring" "goal" "I", .fieldLink RX4 19 "ShipOffice$Hiring" "firstPlace" "[I", .fieldLink RX4 44 "ShipOffice$Hiring" "STEP" "[I", .methodLink RX4 63 Lib.MathLoose.min_long.x, .static Lib.MathLoose.min_long.x, .initialized "java/lang/Math", .code Lib.MathLoose.min_long.x Lib.MathLoose.min_long.code 4 (some .long), .methodLink RX4 40 yX4_handsOf, .static yX4_handsOf, .code yX4_handsOf cX4_handsOf 2 (some .int), .methodLink RX4 59 yX4_handShift, .static yX4_handShift, .code yX4_handShift cX4_handShift 1 (some .int)] ++ wsX40 ++ wsX60)
theorem il_X4_offer_1 : ∀ w ∈ ([.fieldLink RX4 30 "ShipOffice$Hiring" "offerCount" "I", .fieldLink RX4 11 "ShipOffice$Hiring" "best" "[J", .constantLong RX4 22 (1152921504606846976), .fieldLink RX4 15 "ShipOffice$Hiring" "offers" "[I", .fieldLink RX4 51 "ShipOffice$Man" "number" "I", .methodLink RX4 47 yX4_placeIn, .instanceMethod yX4_placeIn, .selects RX4 yX4_placeIn yX4_placeIn, .initialized RX4, .code yX4_placeIn cX4_placeIn 10 none, .fieldLink RX4 56 "ShipOffice$Man" "wages" "[I", .fieldLink RX4 34 "ShipOffice$Hiring" "goal" "I", .fieldLink RX4 19 "ShipOffice$Hiring" "firstPlace" "[I", .fieldLink RX4 44 "ShipOffice$Hiring" "STEP" "[I", .methodLink RX4 63 Lib.MathLoose.min_long.x, .static Lib.MathLoose.min_long.x, .initialized "java/lang/Math", .code Lib.MathLoose.min_long.x Lib.MathLoose.min_long.code 4 (some .long), .methodLink RX4 40 yX4_handsOf, .static yX4_handsOf, .code yX4_handsOf cX4_handsOf 2 (some .int), .methodLink RX4 59 yX4_handShift, .static yX4_handShift, .code yX4_handShift cX4_handShift 1 (some .int)] : List Cond), w ∈ wsX4_offer := fun w h => (List.mem_cons_of_mem _ (List.mem_append_left _ (List.mem_append_left _ h)))
theorem il_X4_offer_2 : ∀ w ∈ wsX40, w ∈ wsX4_offer := fun w h => (List.mem_cons_of_mem _ (List.mem_append_left _ (List.mem_append_right _ h)))
theorem il_X4_offer_3 : ∀ w ∈ wsX60, w ∈ wsX4_offer := fun w h => (List.mem_cons_of_mem _ (List.mem_append_right _ h))
theorem iw_X4_offer_1 : Cond.fieldLink RX4 30 "ShipOffice$Hiring" "offerCount" "I" ∈ wsX4_offer := (mmI il_X4_offer_1 0 rfl)
theorem iw_X4_offer_2 : Cond.fieldLink RX4 15 "ShipOffice$Hiring" "offers" "[I" ∈ wsX4_offer := (mmI il_X4_offer_1 3 rfl)
theorem iw_X4_offer_3 : Cond.fieldLink RX4 51 "ShipOffice$Man" "number" "I" ∈ wsX4_offer := (mmI il_X4_offer_1 4 rfl)
theorem iw_X4_offer_4 : Cond.fieldLink RX4 11 "ShipOffice$Hiring" "best" "[J" ∈ wsX4_offer := (mmI il_X4_offer_1 1 rfl)
def wsX4_leastSum : List Cond := .code yX4_leastSum cX4_leastSum 1 (some .int) :: ([.fieldLink RX4 11 "ShipOffice$Hiring" "best" "[J", .fieldLink RX4 34 "ShipOffice$Hiring" "goal" "I", .constantLong RX4 22 (1152921504606846976)] ++ wsX40)
theorem il_X4_leastSum_1 : ∀ w ∈ ([.fieldLink RX4 11 "ShipOffice$Hiring" "best" "[J", .fieldLink RX4 34 "ShipOffice$Hiring" "goal" "I", .constantLong RX4 22 (1152921504606846976)] : List Cond), w ∈ wsX4_leastSum := fun w h => (List.mem_cons_of_mem _ (List.mem_append_left _ h))
theorem iw_X4_leastSum_1 : Cond.fieldLink RX4 11 "ShipOffice$Hiring" "best" "[J" ∈ wsX4_leastSum := (mmI il_X4_leastSum_1 0 rfl)
theorem iw_X4_leastSum_2 : Cond.fieldLink RX4 34 "ShipOffice$Hiring" "goal" "I" ∈ wsX4_leastSum := (mmI il_X4_leastSum_1 1 rfl)
def wsX4_hand : List Cond := .code yX4_hand cX4_hand 3 (some .int) :: ([.fieldLink RX4 11 "ShipOffice$Hiring" "best" "[J", .fieldLink RX4 34 "ShipOffice$Hiring" "goal" "I", .constantLong RX4 22 (1152921504606846976), .fieldLink RX4 37 "ShipOffice$Hiring" "places" "I", .constantLong RX4 69 (15), .fieldLink RX4 15 "ShipOffice$Hiring" "offers" "[I", .methodLink RX4 59 yX4_handShift, .static yX4_handShift, .initialized RX4, .code yX4_handShift cX4_handShift 1 (some .int)] ++ wsX40)
theorem il_X4_hand_1 : ∀ w ∈ ([.fieldLink RX4 11 "ShipOffice$Hiring" "best" "[J", .fieldLink RX4 34 "ShipOffice$Hiring" "goal" "I", .constantLong RX4 22 (1152921504606846976), .fieldLink RX4 37 "ShipOffice$Hiring" "places" "I", .constantLong RX4 69 (15), .fieldLink RX4 15 "ShipOffice$Hiring" "offers" "[I", .methodLink RX4 59 yX4_handShift, .static yX4_handShift, .initialized RX4, .code yX4_handShift cX4_handShift 1 (some .int)] : List Cond), w ∈ wsX4_hand := fun w h => (List.mem_cons_of_mem _ (List.mem_append_left _ h))
theorem iw_X4_hand_1 : Cond.fieldLink RX4 11 "ShipOffice$Hiring" "best" "[J" ∈ wsX4_hand := (mmI il_X4_hand_1 0 rfl)
theorem iw_X4_hand_2 : Cond.fieldLink RX4 34 "ShipOffice$Hiring" "goal" "I" ∈ wsX4_hand := (mmI il_X4_hand_1 1 rfl)
theorem iw_X4_hand_3 : Cond.fieldLink RX4 37 "ShipOffice$Hiring" "places" "I" ∈ wsX4_hand := (mmI il_X4_hand_1 3 rfl)
theorem iw_X4_hand_4 : Cond.fieldLink RX4 15 "ShipOffice$Hiring" "offers" "[I" ∈ wsX4_hand := (mmI il_X4_hand_1 5 rfl)
set_option maxRecDepth 100000 in
theorem ggX4_begin_J7_fill_d0a16 : GoodIn wsX4_begin wsJ7_fill_d0a16 := goodIn_sub (mmC (mmI il_X4_begin_1 9 rfl) mmN) gw_J7_fill_d0a16
set_option maxRecDepth 20000 in
theorem gX4_begin_J7_fill_d0a16 : GoodIn wsX4_begin (va_wsS RX4 24 yJ7_fill_d0a16 wsJ7_fill_d0a16) := goodIn_app (goodIn_of _ (by decide +kernel)) ggX4_begin_J7_fill_d0a16
set_option maxRecDepth 100000 in
theorem ggX4_begin_X4_handsOf : GoodIn wsX4_begin wsX4_handsOf := goodIn_sub (mmC (mmI il_X4_begin_1 13 rfl) (mmC (mmI il_X4_begin_1 14 rfl) mmN)) gw_X4_handsOf
set_option maxRecDepth 20000 in
theorem gX4_begin_X4_handsOf : GoodIn wsX4_begin (va_wsS RX4 40 yX4_handsOf wsX4_handsOf) := goodIn_app (goodIn_of _ (by decide +kernel)) ggX4_begin_X4_handsOf
theorem dX4_begin_0 : decode cX4_begin 0 = .ok (.aload_n 0, 1) := by decide +kernel
theorem dX4_begin_1 : decode cX4_begin 1 = .ok (.getfield 11, 3) := by decide +kernel
theorem dX4_begin_4 : decode cX4_begin 4 = .ok (.ldc2_w 22, 3) := by decide +kernel
theorem dX4_begin_7 : decode cX4_begin 7 = .ok (.invokestatic 24, 3) := by decide +kernel
theorem dX4_begin_10 : decode cX4_begin 10 = .ok (.aload_n 0, 1) := by decide +kernel
theorem dX4_begin_11 : decode cX4_begin 11 = .ok (.getfield 11, 3) := by decide +kernel
theorem dX4_begin_14 : decode cX4_begin 14 = .ok (.iconst 0, 1) := by decide +kernel
theorem dX4_begin_15 : decode cX4_begin 15 = .ok (.lconst 0, 1) := by decide +kernel
theorem dX4_begin_16 : decode cX4_begin 16 = .ok (.lastore, 1) := by decide +kernel
theorem dX4_begin_17 : decode cX4_begin 17 = .ok (.aload_n 0, 1) := by decide +kernel
theorem dX4_begin_18 : decode cX4_begin 18 = .ok (.iconst 0, 1) := by decide +kernel
theorem dX4_begin_19 : decode cX4_begin 19 = .ok (.putfield 30, 3) := by decide +kernel
theorem dX4_begin_22 : decode cX4_begin 22 = .ok (.aload_n 0, 1) := by decide +kernel
theorem dX4_begin_23 : decode cX4_begin 23 = .ok (.iload_n 1, 1) := by decide +kernel
theorem dX4_begin_24 : decode cX4_begin 24 = .ok (.putfield 34, 3) := by decide +kernel
theorem dX4_begin_27 : decode cX4_begin 27 = .ok (.aload_n 0, 1) := by decide +kernel
theorem dX4_begin_28 : decode cX4_begin 28 = .ok (.iconst 0, 1) := by decide +kernel
theorem dX4_begin_29 : decode cX4_begin 29 = .ok (.putfield 37, 3) := by decide +kernel
theorem dX4_begin_32 : decode cX4_begin 32 = .ok (.iconst 0, 1) := by decide +kernel
theorem dX4_begin_33 : decode cX4_begin 33 = .ok (.istore_n 2, 1) := by decide +kernel
theorem dX4_begin_34 : decode cX4_begin 34 = .ok (.iload_n 2, 1) := by decide +kernel
theorem dX4_begin_35 : decode cX4_begin 35 = .ok (.iconst 4, 1) := by decide +kernel
theorem dX4_begin_36 : decode cX4_begin 36 = .ok (.if_icmp .ge 33, 3) := by decide +kernel
theorem dX4_begin_39 : decode cX4_begin 39 = .ok (.aload_n 0, 1) := by decide +kernel
theorem dX4_begin_40 : decode cX4_begin 40 = .ok (.getfield 19, 3) := by decide +kernel
theorem dX4_begin_43 : decode cX4_begin 43 = .ok (.iload_n 2, 1) := by decide +kernel
theorem dX4_begin_44 : decode cX4_begin 44 = .ok (.aload_n 0, 1) := by decide +kernel
theorem dX4_begin_45 : decode cX4_begin 45 = .ok (.getfield 37, 3) := by decide +kernel
theorem dX4_begin_48 : decode cX4_begin 48 = .ok (.iastore, 1) := by decide +kernel
theorem dX4_begin_49 : decode cX4_begin 49 = .ok (.aload_n 0, 1) := by decide +kernel
theorem dX4_begin_50 : decode cX4_begin 50 = .ok (.dup, 1) := by decide +kernel
theorem dX4_begin_51 : decode cX4_begin 51 = .ok (.getfield 37, 3) := by decide +kernel
theorem dX4_begin_54 : decode cX4_begin 54 = .ok (.iload_n 1, 1) := by decide +kernel
theorem dX4_begin_55 : decode cX4_begin 55 = .ok (.iload_n 2, 1) := by decide +kernel
theorem dX4_begin_56 : decode cX4_begin 56 = .ok (.invokestatic 40, 3) := by decide +kernel
theorem dX4_begin_59 : decode cX4_begin 59 = .ok (.iadd, 1) := by decide +kernel
theorem dX4_begin_60 : decode cX4_begin 60 = .ok (.putfield 37, 3) := by decide +kernel
theorem dX4_begin_63 : decode cX4_begin 63 = .ok (.iinc 2 1, 3) := by decide +kernel
theorem dX4_begin_66 : decode cX4_begin 66 = .ok (.goto (-32), 3) := by decide +kernel
theorem dX4_begin_69 : decode cX4_begin 69 = .ok (.return_, 1) := by decide +kernel
set_option maxRecDepth 100000 in
theorem ggX4_offer_X4_placeIn : GoodIn wsX4_offer wsX4_placeIn := goodIn_sub (mmC (mmI il_X4_offer_1 9 rfl) (mmA (mmA (mmC (mmI il_X4_offer_1 10 rfl) (mmC (mmI il_X4_offer_1 11 rfl) (mmC (mmI il_X4_offer_1 0 rfl) (mmC (mmI il_X4_offer_1 12 rfl) (mmC (mmI il_X4_offer_1 1 rfl) (mmC (mmI il_X4_offer_1 13 rfl) (mmC (mmI il_X4_offer_1 14 rfl) (mmC (mmI il_X4_offer_1 15 rfl) (mmC (mmI il_X4_offer_1 16 rfl) (mmC (mmI il_X4_offer_1 17 rfl) (mmC (mmI il_X4_offer_1 18 rfl) (mmC (mmI il_X4_offer_1 19 rfl) (mmC (mmI il_X4_offer_1 8 rfl) (mmC (mmI il_X4_offer_1 20 rfl) (mmC (mmI il_X4_offer_1 21 rfl) (mmC (mmI il_X4_offer_1 22 rfl) (mmC (mmI il_X4_offer_1 23 rfl) mmN))))))))))))))))) il_X4_offer_3) il_X4_offer_2)) gw_X4_placeIn
theorem gX4_offer_X4_placeIn : GoodIn wsX4_offer (wsV RX4 47 RX4 yX4_placeIn wsX4_placeIn) := goodIn_app (goodIn_sub (mmC (mmI il_X4_offer_1 5 rfl) (mmC (mmI il_X4_offer_1 6 rfl) (mmC (mmI il_X4_offer_1 7 rfl) (mmC (mmI il_X4_offer_1 8 rfl) mmN)))) (by decide +kernel)) ggX4_offer_X4_placeIn
theorem dX4_offer_0 : decode cX4_offer 0 = .ok (.aload_n 0, 1) := by decide +kernel
theorem dX4_offer_1 : decode cX4_offer 1 = .ok (.getfield 30, 3) := by decide +kernel
theorem dX4_offer_4 : decode cX4_offer 4 = .ok (.bipush 12, 2) := by decide +kernel
theorem dX4_offer_6 : decode cX4_offer 6 = .ok (.if_icmp .lt 4, 3) := by decide +kernel
theorem dX4_offer_9 : decode cX4_offer 9 = .ok (.return_, 1) := by decide +kernel
theorem dX4_offer_10 : decode cX4_offer 10 = .ok (.bipush 80, 2) := by decide +kernel
theorem dX4_offer_12 : decode cX4_offer 12 = .ok (.istore_n 2, 1) := by decide +kernel
theorem dX4_offer_13 : decode cX4_offer 13 = .ok (.iload_n 2, 1) := by decide +kernel
theorem dX4_offer_14 : decode cX4_offer 14 = .ok (.ifCond .lt 28, 3) := by decide +kernel
theorem dX4_offer_17 : decode cX4_offer 17 = .ok (.aload_n 0, 1) := by decide +kernel
theorem dX4_offer_18 : decode cX4_offer 18 = .ok (.getfield 11, 3) := by decide +kernel
theorem dX4_offer_21 : decode cX4_offer 21 = .ok (.iload_n 2, 1) := by decide +kernel
theorem dX4_offer_22 : decode cX4_offer 22 = .ok (.laload, 1) := by decide +kernel
theorem dX4_offer_23 : decode cX4_offer 23 = .ok (.ldc2_w 22, 3) := by decide +kernel
theorem dX4_offer_26 : decode cX4_offer 26 = .ok (.lcmp, 1) := by decide +kernel
theorem dX4_offer_27 : decode cX4_offer 27 = .ok (.ifCond .eq 9, 3) := by decide +kernel
theorem dX4_offer_30 : decode cX4_offer 30 = .ok (.aload_n 0, 1) := by decide +kernel
theorem dX4_offer_31 : decode cX4_offer 31 = .ok (.iload_n 2, 1) := by decide +kernel
theorem dX4_offer_32 : decode cX4_offer 32 = .ok (.aload_n 1, 1) := by decide +kernel
theorem dX4_offer_33 : decode cX4_offer 33 = .ok (.invokevirtual 47, 3) := by decide +kernel
theorem dX4_offer_36 : decode cX4_offer 36 = .ok (.iinc 2 (-1), 3) := by decide +kernel
theorem dX4_offer_39 : decode cX4_offer 39 = .ok (.goto (-26), 3) := by decide +kernel
theorem dX4_offer_42 : decode cX4_offer 42 = .ok (.aload_n 0, 1) := by decide +kernel
theorem dX4_offer_43 : decode cX4_offer 43 = .ok (.getfield 15, 3) := by decide +kernel
theorem dX4_offer_46 : decode cX4_offer 46 = .ok (.aload_n 0, 1) := by decide +kernel
theorem dX4_offer_47 : decode cX4_offer 47 = .ok (.getfield 30, 3) := by decide +kernel
theorem dX4_offer_50 : decode cX4_offer 50 = .ok (.aload_n 1, 1) := by decide +kernel
theorem dX4_offer_51 : decode cX4_offer 51 = .ok (.getfield 51, 3) := by decide +kernel
theorem dX4_offer_54 : decode cX4_offer 54 = .ok (.iastore, 1) := by decide +kernel
theorem dX4_offer_55 : decode cX4_offer 55 = .ok (.aload_n 0, 1) := by decide +kernel
theorem dX4_offer_56 : decode cX4_offer 56 = .ok (.dup, 1) := by decide +kernel
theorem dX4_offer_57 : decode cX4_offer 57 = .ok (.getfield 30, 3) := by decide +kernel
theorem dX4_offer_60 : decode cX4_offer 60 = .ok (.iconst 1, 1) := by decide +kernel
theorem dX4_offer_61 : decode cX4_offer 61 = .ok (.iadd, 1) := by decide +kernel
theorem dX4_offer_62 : decode cX4_offer 62 = .ok (.putfield 30, 3) := by decide +kernel
theorem dX4_offer_65 : decode cX4_offer 65 = .ok (.return_, 1) := by decide +kernel
set_option maxRecDepth 100000 in
theorem ggX4_placeIn_X4_handsOf : GoodIn wsX4_placeIn wsX4_handsOf := goodIn_sub (mmC (mmI il_X4_placeIn_1 13 rfl) (mmC (mmI il_X4_placeIn_1 5 rfl) mmN)) gw_X4_handsOf
set_option maxRecDepth 20000 in
theorem gX4_placeIn_X4_handsOf : GoodIn wsX4_placeIn (va_wsS RX4 40 yX4_handsOf wsX4_handsOf) := goodIn_app (goodIn_of _ (by decide +kernel)) ggX4_placeIn_X4_handsOf
set_option maxRecDepth 100000 in
theorem ggX4_placeIn_X4_handShift : GoodIn wsX4_placeIn wsX4_handShift := goodIn_sub (mmC (mmI il_X4_placeIn_1 16 rfl) mmN) gw_X4_handShift
set_option maxRecDepth 20000 in
theorem gX4_placeIn_X4_handShift : GoodIn wsX4_placeIn (va_wsS RX4 59 yX4_handShift wsX4_handShift) := goodIn_app (goodIn_of _ (by decide +kernel)) ggX4_placeIn_X4_handShift
theorem dX4_placeIn_0 : decode cX4_placeIn 0 = .ok (.iconst 0, 1) := by decide +kernel
theorem dX4_placeIn_1 : decode cX4_placeIn 1 = .ok (.istore_n 3, 1) := by decide +kernel
theorem dX4_placeIn_2 : decode cX4_placeIn 2 = .ok (.iload_n 3, 1) := by decide +kernel
theorem dX4_placeIn_3 : decode cX4_placeIn 3 = .ok (.iconst 4, 1) := by decide +kernel
theorem dX4_placeIn_4 : decode cX4_placeIn 4 = .ok (.if_icmp .ge 108, 3) := by decide +kernel
theorem dX4_placeIn_7 : decode cX4_placeIn 7 = .ok (.iload_n 1, 1) := by decide +kernel
theorem dX4_placeIn_8 : decode cX4_placeIn 8 = .ok (.iload_n 3, 1) := by decide +kernel
theorem dX4_placeIn_9 : decode cX4_placeIn 9 = .ok (.invokestatic 40, 3) := by decide +kernel
theorem dX4_placeIn_12 : decode cX4_placeIn 12 = .ok (.istore 4, 2) := by decide +kernel
theorem dX4_placeIn_14 : decode cX4_placeIn 14 = .ok (.aload_n 2, 1) := by decide +kernel
theorem dX4_placeIn_15 : decode cX4_placeIn 15 = .ok (.getfield 56, 3) := by decide +kernel
theorem dX4_placeIn_18 : decode cX4_placeIn 18 = .ok (.iload_n 3, 1) := by decide +kernel
theorem dX4_placeIn_19 : decode cX4_placeIn 19 = .ok (.iaload, 1) := by decide +kernel
theorem dX4_placeIn_20 : decode cX4_placeIn 20 = .ok (.ifCond .le 86, 3) := by decide +kernel
theorem dX4_placeIn_23 : decode cX4_placeIn 23 = .ok (.iload 4, 2) := by decide +kernel
theorem dX4_placeIn_25 : decode cX4_placeIn 25 = .ok (.aload_n 0, 1) := by decide +kernel
theorem dX4_placeIn_26 : decode cX4_placeIn 26 = .ok (.getfield 34, 3) := by decide +kernel
theorem dX4_placeIn_29 : decode cX4_placeIn 29 = .ok (.iload_n 3, 1) := by decide +kernel
theorem dX4_placeIn_30 : decode cX4_placeIn 30 = .ok (.invokestatic 40, 3) := by decide +kernel
theorem dX4_placeIn_33 : decode cX4_placeIn 33 = .ok (.if_icmp .ge 73, 3) := by decide +kernel
theorem dX4_placeIn_36 : decode cX4_placeIn 36 = .ok (.aload_n 0, 1) := by decide +kernel
theorem dX4_placeIn_37 : decode cX4_placeIn 37 = .ok (.getfield 30, 3) := by decide +kernel
theorem dX4_placeIn_40 : decode cX4_placeIn 40 = .ok (.i2l, 1) := by decide +kernel
theorem dX4_placeIn_41 : decode cX4_placeIn 41 = .ok (.aload_n 0, 1) := by decide +kernel
theorem dX4_placeIn_42 : decode cX4_placeIn 42 = .ok (.getfield 19, 3) := by decide +kernel
theorem dX4_placeIn_45 : decode cX4_placeIn 45 = .ok (.iload_n 3, 1) := by decide +kernel
theorem dX4_placeIn_46 : decode cX4_placeIn 46 = .ok (.iaload, 1) := by decide +kernel
theorem dX4_placeIn_47 : decode cX4_placeIn 47 = .ok (.iload 4, 2) := by decide +kernel
theorem dX4_placeIn_49 : decode cX4_placeIn 49 = .ok (.iadd, 1) := by decide +kernel
theorem dX4_placeIn_50 : decode cX4_placeIn 50 = .ok (.invokestatic 59, 3) := by decide +kernel
theorem dX4_placeIn_53 : decode cX4_placeIn 53 = .ok (.lshl, 1) := by decide +kernel
theorem dX4_placeIn_54 : decode cX4_placeIn 54 = .ok (.lstore 5, 2) := by decide +kernel
theorem dX4_placeIn_56 : decode cX4_placeIn 56 = .ok (.aload_n 0, 1) := by decide +kernel
theorem dX4_placeIn_57 : decode cX4_placeIn 57 = .ok (.getfield 11, 3) := by decide +kernel
theorem dX4_placeIn_60 : decode cX4_placeIn 60 = .ok (.iload_n 1, 1) := by decide +kernel
theorem dX4_placeIn_61 : decode cX4_placeIn 61 = .ok (.laload, 1) := by decide +kernel
theorem dX4_placeIn_62 : decode cX4_placeIn 62 = .ok (.aload_n 2, 1) := by decide +kernel
theorem dX4_placeIn_63 : decode cX4_placeIn 63 = .ok (.getfield 56, 3) := by decide +kernel
theorem dX4_placeIn_66 : decode cX4_placeIn 66 = .ok (.iload_n 3, 1) := by decide +kernel
theorem dX4_placeIn_67 : decode cX4_placeIn 67 = .ok (.iaload, 1) := by decide +kernel
theorem dX4_placeIn_68 : decode cX4_placeIn 68 = .ok (.i2l, 1) := by decide +kernel
theorem dX4_placeIn_69 : decode cX4_placeIn 69 = .ok (.bipush 32, 2) := by decide +kernel
theorem dX4_placeIn_71 : decode cX4_placeIn 71 = .ok (.lshl, 1) := by decide +kernel
theorem dX4_placeIn_72 : decode cX4_placeIn 72 = .ok (.ladd, 1) := by decide +kernel
theorem dX4_placeIn_73 : decode cX4_placeIn 73 = .ok (.lload 5, 2) := by decide +kernel
theorem dX4_placeIn_75 : decode cX4_placeIn 75 = .ok (.ladd, 1) := by decide +kernel
theorem dX4_placeIn_76 : decode cX4_placeIn 76 = .ok (.lstore 7, 2) := by decide +kernel
theorem dX4_placeIn_78 : decode cX4_placeIn 78 = .ok (.iload_n 1, 1) := by decide +kernel
theorem dX4_placeIn_79 : decode cX4_placeIn 79 = .ok (.getstatic 44, 3) := by decide +kernel
theorem dX4_placeIn_82 : decode cX4_placeIn 82 = .ok (.iload_n 3, 1) := by decide +kernel
theorem dX4_placeIn_83 : decode cX4_placeIn 83 = .ok (.iaload, 1) := by decide +kernel
theorem dX4_placeIn_84 : decode cX4_placeIn 84 = .ok (.iadd, 1) := by decide +kernel
theorem dX4_placeIn_85 : decode cX4_placeIn 85 = .ok (.istore 9, 2) := by decide +kernel
theorem dX4_placeIn_87 : decode cX4_placeIn 87 = .ok (.aload_n 0, 1) := by decide +kernel
theorem dX4_placeIn_88 : decode cX4_placeIn 88 = .ok (.getfield 11, 3) := by decide +kernel
theorem dX4_placeIn_91 : decode cX4_placeIn 91 = .ok (.iload 9, 2) := by decide +kernel
theorem dX4_placeIn_93 : decode cX4_placeIn 93 = .ok (.aload_n 0, 1) := by decide +kernel
theorem dX4_placeIn_94 : decode cX4_placeIn 94 = .ok (.getfield 11, 3) := by decide +kernel
theorem dX4_placeIn_97 : decode cX4_placeIn 97 = .ok (.iload 9, 2) := by decide +kernel
theorem dX4_placeIn_99 : decode cX4_placeIn 99 = .ok (.laload, 1) := by decide +kernel
theorem dX4_placeIn_100 : decode cX4_placeIn 100 = .ok (.lload 7, 2) := by decide +kernel
theorem dX4_placeIn_102 : decode cX4_placeIn 102 = .ok (.invokestatic 63, 3) := by decide +kernel
theorem dX4_placeIn_105 : decode cX4_placeIn 105 = .ok (.lastore, 1) := by decide +kernel
theorem dX4_placeIn_106 : decode cX4_placeIn 106 = .ok (.iinc 3 1, 3) := by decide +kernel
theorem dX4_placeIn_109 : decode cX4_placeIn 109 = .ok (.goto (-107), 3) := by decide +kernel
theorem dX4_placeIn_112 : decode cX4_placeIn 112 = .ok (.return_, 1) := by decide +kernel
theorem dX4_leastSum_0 : decode cX4_leastSum 0 = .ok (.aload_n 0, 1) := by decide +kernel
theorem dX4_leastSum_1 : decode cX4_leastSum 1 = .ok (.getfield 11, 3) := by decide +kernel
theorem dX4_leastSum_4 : decode cX4_leastSum 4 = .ok (.aload_n 0, 1) := by decide +kernel
theorem dX4_leastSum_5 : decode cX4_leastSum 5 = .ok (.getfield 34, 3) := by decide +kernel
theorem dX4_leastSum_8 : decode cX4_leastSum 8 = .ok (.laload, 1) := by decide +kernel
theorem dX4_leastSum_9 : decode cX4_leastSum 9 = .ok (.ldc2_w 22, 3) := by decide +kernel
theorem dX4_leastSum_12 : decode cX4_leastSum 12 = .ok (.lcmp, 1) := by decide +kernel
theorem dX4_leastSum_13 : decode cX4_leastSum 13 = .ok (.ifCond .ne 8, 3) := by decide +kernel
theorem dX4_leastSum_16 : decode cX4_leastSum 16 = .ok (.bipush (-9), 2) := by decide +kernel
theorem dX4_leastSum_18 : decode cX4_leastSum 18 = .ok (.goto 16, 3) := by decide +kernel
theorem dX4_leastSum_21 : decode cX4_leastSum 21 = .ok (.aload_n 0, 1) := by decide +kernel
theorem dX4_leastSum_22 : decode cX4_leastSum 22 = .ok (.getfield 11, 3) := by decide +kernel
theorem dX4_leastSum_25 : decode cX4_leastSum 25 = .ok (.aload_n 0, 1) := by decide +kernel
theorem dX4_leastSum_26 : decode cX4_leastSum 26 = .ok (.getfield 34, 3) := by decide +kernel
theorem dX4_leastSum_29 : decode cX4_leastSum 29 = .ok (.laload, 1) := by decide +kernel
theorem dX4_leastSum_30 : decode cX4_leastSum 30 = .ok (.bipush 32, 2) := by decide +kernel
theorem dX4_leastSum_32 : decode cX4_leastSum 32 = .ok (.lshr, 1) := by decide +kernel
theorem dX4_leastSum_33 : decode cX4_leastSum 33 = .ok (.l2i, 1) := by decide +kernel
theorem dX4_leastSum_34 : decode cX4_leastSum 34 = .ok (.ireturn, 1) := by decide +kernel
set_option maxRecDepth 100000 in
theorem ggX4_hand_X4_handShift : GoodIn wsX4_hand wsX4_handShift := goodIn_sub (mmC (mmI il_X4_hand_1 9 rfl) mmN) gw_X4_handShift
set_option maxRecDepth 20000 in
theorem gX4_hand_X4_handShift : GoodIn wsX4_hand (va_wsS RX4 59 yX4_handShift wsX4_handShift) := goodIn_app (goodIn_of _ (by decide +kernel)) ggX4_hand_X4_handShift
theorem dX4_hand_0 : decode cX4_hand 0 = .ok (.aload_n 0, 1) := by decide +kernel
theorem dX4_hand_1 : decode cX4_hand 1 = .ok (.getfield 11, 3) := by decide +kernel
theorem dX4_hand_4 : decode cX4_hand 4 = .ok (.aload_n 0, 1) := by decide +kernel
theorem dX4_hand_5 : decode cX4_hand 5 = .ok (.getfield 34, 3) := by decide +kernel
theorem dX4_hand_8 : decode cX4_hand 8 = .ok (.laload, 1) := by decide +kernel
theorem dX4_hand_9 : decode cX4_hand 9 = .ok (.ldc2_w 22, 3) := by decide +kernel
theorem dX4_hand_12 : decode cX4_hand 12 = .ok (.lcmp, 1) := by decide +kernel
theorem dX4_hand_13 : decode cX4_hand 13 = .ok (.ifCond .eq 11, 3) := by decide +kernel
theorem dX4_hand_16 : decode cX4_hand 16 = .ok (.iload_n 1, 1) := by decide +kernel
theorem dX4_hand_17 : decode cX4_hand 17 = .ok (.aload_n 0, 1) := by decide +kernel
theorem dX4_hand_18 : decode cX4_hand 18 = .ok (.getfield 37, 3) := by decide +kernel
theorem dX4_hand_21 : decode cX4_hand 21 = .ok (.if_icmp .lt 6, 3) := by decide +kernel
theorem dX4_hand_24 : decode cX4_hand 24 = .ok (.bipush (-9), 2) := by decide +kernel
theorem dX4_hand_26 : decode cX4_hand 26 = .ok (.ireturn, 1) := by decide +kernel
theorem dX4_hand_27 : decode cX4_hand 27 = .ok (.aload_n 0, 1) := by decide +kernel
theorem dX4_hand_28 : decode cX4_hand 28 = .ok (.getfield 11, 3) := by decide +kernel
theorem dX4_hand_31 : decode cX4_hand 31 = .ok (.aload_n 0, 1) := by decide +kernel
theorem dX4_hand_32 : decode cX4_hand 32 = .ok (.getfield 34, 3) := by decide +kernel
theorem dX4_hand_35 : decode cX4_hand 35 = .ok (.laload, 1) := by decide +kernel
theorem dX4_hand_36 : decode cX4_hand 36 = .ok (.iload_n 1, 1) := by decide +kernel
theorem dX4_hand_37 : decode cX4_hand 37 = .ok (.invokestatic 59, 3) := by decide +kernel
theorem dX4_hand_40 : decode cX4_hand 40 = .ok (.lshr, 1) := by decide +kernel
theorem dX4_hand_41 : decode cX4_hand 41 = .ok (.ldc2_w 69, 3) := by decide +kernel
theorem dX4_hand_44 : decode cX4_hand 44 = .ok (.land, 1) := by decide +kernel
theorem dX4_hand_45 : decode cX4_hand 45 = .ok (.l2i, 1) := by decide +kernel
theorem dX4_hand_46 : decode cX4_hand 46 = .ok (.istore_n 2, 1) := by decide +kernel
theorem dX4_hand_47 : decode cX4_hand 47 = .ok (.iload_n 2, 1) := by decide +kernel
theorem dX4_hand_48 : decode cX4_hand 48 = .ok (.bipush 12, 2) := by decide +kernel
theorem dX4_hand_50 : decode cX4_hand 50 = .ok (.if_icmp .ge 12, 3) := by decide +kernel
theorem dX4_hand_53 : decode cX4_hand 53 = .ok (.aload_n 0, 1) := by decide +kernel
theorem dX4_hand_54 : decode cX4_hand 54 = .ok (.getfield 15, 3) := by decide +kernel
theorem dX4_hand_57 : decode cX4_hand 57 = .ok (.iload_n 2, 1) := by decide +kernel
theorem dX4_hand_58 : decode cX4_hand 58 = .ok (.iaload, 1) := by decide +kernel
theorem dX4_hand_59 : decode cX4_hand 59 = .ok (.goto 5, 3) := by decide +kernel
theorem dX4_hand_62 : decode cX4_hand 62 = .ok (.bipush (-9), 2) := by decide +kernel
theorem dX4_hand_64 : decode cX4_hand 64 = .ok (.ireturn, 1) := by decide +kernel
theorem in_wsX4_placeIn_X6 : ∀ w ∈ wsX60, w ∈ wsX4_placeIn := fun w h => List.mem_cons_of_mem _ (List.mem_append_left _ (List.mem_append_right _ h))
theorem in_wsX4_placeIn_X4 : ∀ w ∈ wsX40, w ∈ wsX4_placeIn := fun w h => List.mem_cons_of_mem _ (List.mem_append_right _ h)
theorem in_wsX4_offer_X4 : ∀ w ∈ wsX40, w ∈ wsX4_offer := fun w h => List.mem_cons_of_mem _ (List.mem_append_left _ (List.mem_append_right _ h))
theorem in_wsX4_offer_X6 : ∀ w ∈ wsX60, w ∈ wsX4_offer := fun w h => List.mem_cons_of_mem _ (List.mem_append_right _ h)
theorem in_wsX4_begin_X4 : ∀ w ∈ wsX40, w ∈ wsX4_begin := fun w h => List.mem_cons_of_mem _ (List.mem_append_right _ h)
theorem in_wsX4_leastSum_X4 : ∀ w ∈ wsX40, w ∈ wsX4_leastSum := fun w h => List.mem_cons_of_mem _ (List.mem_append_right _ h)
theorem in_wsX4_hand_X4 : ∀ w ∈ wsX40, w ∈ wsX4_hand := fun w h => List.mem_cons_of_mem _ (List.mem_append_right _ h)
