def tyX4 : Nat → FieldType := fun k => match k with
  | 0 => .array .long
  | 1 => .array .int
  | 2 => .int
  | 3 => .array .int
  | 4 => .int
  | _ => .int
abbrev wsX40 : List Cond := u_ws RX4 TX4 6
theorem nmX4 : ∀ a, a < 6 → ∀ b, b < 6 → a ≠ b → (TX4 a).2.1 ≠ (TX4 b).2.1 := by decide +kernel
theorem tyX4_ok : ∀ k, k < 6 → parseFieldDescriptor (TX4 k).2.2.1 = some (tyX4 k) := by decide +kernel
abbrev cX4_begin : ByteArray := prog_6_method_2_code
def yX4_begin : MethodName := ⟨RX4, "begin", "(I)V"⟩
abbrev cX4_offer : ByteArray := prog_6_method_4_code
def yX4_offer : MethodName := ⟨RX4, "offer", "(LShipOffice$Man;)V"⟩
abbrev cX4_placeIn : ByteArray := prog_6_method_5_code
def yX4_placeIn : MethodName := ⟨RX4, "placeIn", "(ILShipOffice$Man;)V"⟩
abbrev cX4_leastSum : ByteArray := prog_6_method_7_code
def yX4_leastSum : MethodName := ⟨RX4, "leastSum", "()I"⟩
abbrev cX4_hand : ByteArray := prog_6_method_8_code
def yX4_hand : MethodName := ⟨RX4, "hand", "(I)I"⟩
theorem gw_J7_fill_d0a16 : wsJ7_fill_d0a16.all goodWord = true := by decide +kernel
theorem gw_X4_handsOf : wsX4_handsOf.all goodWord = true := by decide +kernel
def wsX4_begin : List Cond := .code yX4_begin cX4_begin 3 none :: ([.fieldLink RX4 11 "ShipOffice$Hiring" "best" "[J", .constantLong RX4 22 (1152921504606846976), .fieldLink RX4 30 "ShipOffice$Hiring" "offerCount" "I", .fieldLink RX4 34 "ShipOffice$Hiring" "goal" "I", .fieldLink RX4 37 "ShipOffice$Hiring" "places" "I", .fieldLink RX4 19 "ShipOffice$Hiring" "firstPlace" "[I", .methodLink RX4 24 yJ7_fill_d0a16, .static yJ7_fill_d0a16, .initialized RJ7, .code yJ7_fill_d0a16 cJ7_fill_d0a16 5 none, .methodLink RX4 40 yX4_handsOf, .static yX4_handsOf, .initialized RX4, .code yX4_handsOf cX4_handsOf 2 (some .int), .fieldLink RX4 44 "ShipOffice$Hiring" "STEP" "[I"] ++ wsX40)
theorem il_X4_begin_1 : ∀ w ∈ ([.fieldLink RX4 11 "ShipOffice$Hiring" "best" "[J", .constantLong RX4 22 (1152921504606846976), .fieldLink RX4 30 "ShipOffice$Hiring" "offerCount" "I", .fieldLink RX4 34 "ShipOffice$Hiring" "goal" "I", .fieldLink RX4 37 "ShipOffice$Hiring" "places" "I", .fieldLink RX4 19 "ShipOffice$Hiring" "firstPlace" "[I", .methodLink RX4 24 yJ7_fill_d0a16, .static yJ7_fill_d0a16, .initialized RJ7, .code yJ7_fill_d0a16 cJ7_fill_d0a16 5 none, .methodLink RX4 40 yX4_handsOf, .static yX4_handsOf, .initialized RX4, .code yX4_handsOf cX4_handsOf 2 (some .int), .fieldLink RX4 44 "ShipOffice$Hiring" "STEP" "[I"] : List Cond), w ∈ wsX4_begin := fun w h => (List.mem_cons_of_mem _ (List.mem_append_left _ h))
theorem iw_X4_begin_1 : Cond.fieldLink RX4 11 "ShipOffice$Hiring" "best" "[J" ∈ wsX4_begin := (mmI il_X4_begin_1 0 rfl)
theorem iw_X4_begin_2 : Cond.fieldLink RX4 30 "ShipOffice$Hiring" "offerCount" "I" ∈ wsX4_begin := (mmI il_X4_begin_1 2 rfl)
theorem iw_X4_begin_3 : Cond.fieldLink RX4 34 "ShipOffice$Hiring" "goal" "I" ∈ wsX4_begin := (mmI il_X4_begin_1 3 rfl)
theorem iw_X4_begin_4 : Cond.fieldLink RX4 37 "ShipOffice$Hiring" "places" "I" ∈ wsX4_begin := (mmI il_X4_begin_1 4 rfl)
theorem iw_X4_begin_5 : Cond.fieldLink RX4 19 "ShipOffice$Hiring" "firstPlace" "[I" ∈ wsX4_begin := (mmI il_X4_begin_1 5 rfl)
theorem gw_X4_handShift : wsX4_handShift.all goodWord = true := by decide +kernel
def wsX4_placeIn : List Cond := .code yX4_placeIn cX4_placeIn 10 none :: ([.fieldLink RX4 56 "ShipOffice$Man" "wages" "[I", .fieldLink RX4 34 "ShipOffice$Hiring" "goal" "I", .fieldLink RX4 30 "ShipOffice$Hiring" "offerCount" "I", .fieldLink RX4 19 "ShipOffice$Hiring" "firstPlace" "[I", .fieldLink RX4 11 "ShipOffice$Hiring" "best" "[J", .fieldLink RX4 44 "ShipOffice$Hiring" "STEP" "[I", .methodLink RX4 63 Lib.MathLoose.min_long.x, .static Lib.MathLoose.min_long.x, .initialized "java/lang/Math", .code Lib.MathLoose.min_long.x Lib.MathLoose.min_long.code 4 (some .long), .methodLink RX4 40 yX4_handsOf, .static yX4_handsOf, .initialized RX4, .code yX4_handsOf cX4_handsOf 2 (some .int), .methodLink RX4 59 yX4_handShift, .static yX4_handShift, .code yX4_handShift cX4_handShift 1 (some .int)] ++ wsX60 ++ wsX40)
theorem gw_X4_placeIn : wsX4_placeIn.all goodWord = true := by decide +kernel
theorem il_X4_placeIn_1 : ∀ w ∈ ([.fieldLink RX4 56 "ShipOffice$Man" "wages" "[I", .fieldLink RX4 34 "ShipOffice$Hiring" "goal" "I", .fieldLink RX4 30 "ShipOffice$Hiring" "offerCount" "I", .fieldLink RX4 19 "ShipOffice$Hiring" "firstPlace" "[I", .fieldLink RX4 11 "ShipOffice$Hiring" "best" "[J", .fieldLink RX4 44 "ShipOffice$Hiring" "STEP" "[I", .methodLink RX4 63 Lib.MathLoose.min_long.x, .static Lib.MathLoose.min_long.x, .initialized "java/lang/Math", .code Lib.MathLoose.min_long.x Lib.MathLoose.min_long.code 4 (some .long), .methodLink RX4 40 yX4_handsOf, .static yX4_handsOf, .initialized RX4, .code yX4_handsOf cX4_handsOf 2 (some .int), .methodLink RX4 59 yX4_handShift, .static yX4_handShift, .code yX4_handShift cX4_handShift 1 (some .int)] : List Cond), w ∈ wsX4_placeIn := fun w h => (List.mem_cons_of_mem _ (List.mem_append_left _ (List.mem_append_left _ h)))
theorem iw_X4_placeIn_1 : Cond.fieldLink RX4 56 "ShipOffice$Man" "wages" "[I" ∈ wsX4_placeIn := (mmI il_X4_placeIn_1 0 rfl)
theorem iw_X4_placeIn_2 : Cond.fieldLink RX4 34 "ShipOffice$Hiring" "goal" "I" ∈ wsX4_placeIn := (mmI il_X4_placeIn_1 1 rfl)
theorem iw_X4_placeIn_3 : Cond.fieldLink RX4 30 "ShipOffice$Hiring" "offerCount" "I" ∈ wsX4_placeIn := (mmI il_X4_placeIn_1 2 rfl)
theorem iw_X4_placeIn_4 : Cond.fieldLink RX4 19 "ShipOffice$Hiring" "firstPlace" "[I" ∈ wsX4_placeIn := (mmI il_X4_placeIn_1 3 rfl)
theorem iw_X4_placeIn_5 : Cond.fieldLink RX4 11 "ShipOffice$Hiring" "best" "[J" ∈ wsX4_placeIn := (mmI il_X4_placeIn_1 4 rfl)
theorem iw_X4_placeIn_6 : Cond.fieldLink RX4 44 "ShipOffice$Hiring" "STEP" "[I" ∈ wsX4_placeIn := (mmI il_X4_placeIn_1 5 rfl)
theorem iw_X4_placeIn_7 : Cond.methodLink RX4 63 Lib.MathLoose.min_long.x ∈ wsX4_placeIn := (mmI il_X4_placeIn_1 6 rfl)
theorem iw_X4_placeIn_8 : Cond.static Lib.MathLoose.min_long.x ∈ wsX4_placeIn := (mmI il_X4_placeIn_1 7 rfl)
theorem iw_X4_placeIn_9 : Cond.initialized "java/lang/Math" ∈ wsX4_placeIn := (mmI il_X4_placeIn_1 8 rfl)
def wsX4_offer : List Cond := .code yX4_offer cX4_offer 3 none :: ([.fieldLink RX4 30 "ShipOffice$Hiring" "offerCount" "I", .fieldLink RX4 11 "ShipOffice$Hiring" "best" "[J", .constantLong RX4 22 (1152921504606846976), .fieldLink RX4 15 "ShipOffice$Hiring" "offers" "[I", .fieldLink RX4 51 "ShipOffice$Man" "number" "I", .methodLink RX4 47 yX4_placeIn, .instanceMethod yX4_placeIn, .selects RX4 yX4_placeIn yX4_placeIn, .initialized RX4, .code yX4_placeIn cX4_placeIn 10 none, .fieldLink RX4 56 "ShipOffice$Man" "wages" "[I", .fieldLink RX4 34 "ShipOffice$Hiring" "goal" "I", .fieldLink RX4 19 "ShipOffice$Hiring" "firstPlace" "[I", .fieldLink RX4 44 "ShipOffice$Hiring" "STEP" "[I", .methodLink RX4 63 Lib.MathLoose.min_long.x, .static Lib.MathLoose.min_long.x, .initialized "java/lang/Math", .code Lib.MathLoose.min_long.x Lib.MathLoose.min_long.code 4 (some .long), .methodLink RX4 40 yX4_handsOf, .static yX4_handsOf, .code yX4_handsOf cX4_handsOf 2 (some .int), .methodLink RX4 59 yX4_handShift, .static yX4_handShift, .code yX4_handShift cX4_handShift 1 (some .int)] ++ wsX40 ++ wsX60)
theorem il_X4_offer_1 : ∀ w ∈ ([.fieldLink RX4 30 "ShipOffice$Hiring" "offerCount" "I", .fieldLink RX4 11 "ShipOffice$Hiring" "best" "[J", .constantLong RX4 22 (1152921504606846976), .fieldLink RX4 15 "ShipOffice$Hiring" "offers" "[I", .fieldLink RX4 51 "ShipOffice$Man" "number" "I", .methodLink RX4 47 yX4_placeIn, .instanceMethod yX4_placeIn, .selects RX4 yX4_placeIn yX4_placeIn, .initialized RX4, .code yX4_placeIn cX4_placeIn 10 none, .fieldLink RX4 56 "ShipOffice$Man" "wages" "[I", .fieldLink RX4 34 "ShipOffice$Hiring" "goal" "I", .fieldLink RX4 19 "ShipOffice$Hiring" "firstPlace" "[I", .fieldLink RX4 44 "ShipOffice$Hiring" "STEP" "[I", .methodLink RX4 63 Lib.MathLoose.min_long.x, .static Lib.MathLoose.min_long.x, .initialized "java/lang/Math", .code Lib.MathLoose.min_long.x Lib.MathLoose.min_long.code 4 (some .long), .methodLink RX4 40 yX4_handsOf, .static yX4_handsOf, .code yX4_handsOf cX4_handsOf 2 (some .int), .methodLink RX4 59 yX4_handShift, .static yX4_handShift, .code yX4_handShift cX4_handShift 1 (some .int)] : List Cond), w ∈ wsX4_offer := fun w h => (List.mem_cons_of_mem _ (List.mem_append_left _ (List.mem_append_left _ h)))
theorem il_X4_offer_2 : ∀ w ∈ wsX40, w ∈ wsX4_offer := fun w h => (List.mem_cons_of_mem _ (List.mem_append_left _ (List.mem_append_right _ h)))
theorem il_X4_offer_3 : ∀ w ∈ wsX60, w ∈ wsX4_offer := fun w h => (List.mem_cons_of_mem _ (List.mem_append_right _ h))
theorem iw_X4_offer_1 : Cond.fieldLink RX4 30 "ShipOffice$Hiring" "offerCount" "I" ∈ wsX4_offer := (mmI il_X4_offer_1 0 rfl)
theorem iw_X4_offer_2 : Cond.fieldLink RX4 15 "ShipOffice$Hiring" "offers" "[I" ∈ wsX4_offer := (mmI il_X4_offer_1 3 rfl)
theorem iw_X4_offer_3 : Cond.fieldLink RX4 51 "ShipOffice$Man" "number" "I" ∈ wsX4_offer := (mmI il_X4_offer_1 4 rfl)
theorem iw_X4_offer_4 : Cond.fieldLink RX4 11 "ShipOffice$Hiring" "best" "[J" ∈ wsX4_offer := (mmI il_X4_offer_1 1 rfl)
def wsX4_leastSum : List Cond := .code yX4_leastSum cX4_leastSum 1 (some .int) :: ([.fieldLink RX4 11 "ShipOffice$Hiring" "best" "[J", .fieldLink RX4 34 "ShipOffice$Hiring" "goal" "I", .constantLong RX4 22 (1152921504606846976)] ++ wsX40)
theorem il_X4_leastSum_1 : ∀ w ∈ ([.fieldLink RX4 11 "ShipOffice$Hiring" "best" "[J", .fieldLink RX4 34 "ShipOffice$Hiring" "goal" "I", .constantLong RX4 22 (1152921504606846976)] : List Cond), w ∈ wsX4_leastSum := fun w h => (List.mem_cons_of_mem _ (List.mem_append_left _ h))
theorem iw_X4_leastSum_1 : Cond.fieldLink RX4 11 "ShipOffice$Hiring" "best" "[J" ∈ wsX4_leastSum := (mmI il_X4_leastSum_1 0 rfl)
theorem iw_X4_leastSum_2 : Cond.fieldLink RX4 34 "ShipOffice$Hiring" "goal" "I" ∈ wsX4_leastSum := (mmI il_X4_leastSum_1 1 rfl)
def wsX4_hand : List Cond := .code yX4_hand cX4_hand 3 (some .int) :: ([.fieldLink RX4 11 "ShipOffice$Hiring" "best" "[J", .fieldLink RX4 34 "ShipOffice$Hiring" "goal" "I", .constantLong RX4 22 (1152921504606846976), .fieldLink RX4 37 "ShipOffice$Hiring" "places" "I", .constantLong RX4 69 (15), .fieldLink RX4 15 "ShipOffice$Hiring" "offers" "[I", .methodLink RX4 59 yX4_handShift, .static yX4_handShift, .initialized RX4, .code yX4_handShift cX4_handShift 1 (some .int)] ++ wsX40)
theorem il_X4_hand_1 : ∀ w ∈ ([.fieldLink RX4 11 "ShipOffice$Hiring" "best" "[J", .fieldLink RX4 34 "ShipOffice$Hiring" "goal" "I", .constantLong RX4 22 (1152921504606846976), .fieldLink RX4 37 "ShipOffice$Hiring" "places" "I", .constantLong RX4 69 (15), .fieldLink RX4 15 "ShipOffice$Hiring" "offers" "[I", .methodLink RX4 59 yX4_handShift, .static yX4_handShift, .initialized RX4, .code yX4_handShift cX4_handShift 1 (some .int)] : List Cond), w ∈ wsX4_hand := fun w h => (List.mem_cons_of_mem _ (List.mem_append_left _ h))
theorem iw_X4_hand_1 : Cond.fieldLink RX4 11 "ShipOffice$Hiring" "best" "[J" ∈ wsX4_hand := (mmI il_X4_hand_1 0 rfl)
theorem iw_X4_hand_2 : Cond.fieldLink RX4 34 "ShipOffice$Hiring" "goal" "I" ∈ wsX4_hand := (mmI il_X4_hand_1 1 rfl)
theorem iw_X4_hand_3 : Cond.fieldLink RX4 37 "ShipOffice$Hiring" "places" "I" ∈ wsX4_hand := (mmI il_X4_hand_1 3 rfl)
theorem iw_X4_hand_4 : Cond.fieldLink RX4 15 "ShipOffice$Hiring" "offers" "[I" ∈ wsX4_hand := (mmI il_X4_hand_1 5 rfl)
set_option maxRecDepth 100000 in
theorem ggX4_begin_J7_fill_d0a16 : GoodIn wsX4_begin wsJ7_fill_d0a16 := goodIn_sub (mmC (mmI il_X4_begin_1 9 rfl) mmN) gw_J7_fill_d0a16
set_option maxRecDepth 20000 in
theorem gX4_begin_J7_fill_d0a16 : GoodIn wsX4_begin (va_wsS RX4 24 yJ7_fill_d0a16 wsJ7_fill_d0a16) := goodIn_app (goodIn_of _ (by decide +kernel)) ggX4_begin_J7_fill_d0a16
set_option maxRecDepth 100000 in
theorem ggX4_begin_X4_handsOf : GoodIn wsX4_begin wsX4_handsOf := goodIn_sub (mmC (mmI il_X4_begin_1 13 rfl) (mmC (mmI il_X4_begin_1 14 rfl) mmN)) gw_X4_handsOf
set_option maxRecDepth 20000 in
theorem gX4_begin_X4_handsOf : GoodIn wsX4_begin (va_wsS RX4 40 yX4_handsOf wsX4_handsOf) := goodIn_app (goodIn_of _ (by decide +kernel)) ggX4_begin_X4_handsOf
theorem dX4_begin_0 : decode cX4_begin 0 = .ok (.aload_n 0, 1) := by decide +kernel
theorem dX4_begin_1 : decode cX4_begin 1 = .ok (.getfield 11, 3) := by decide +kernel
theorem dX4_begin_4 : decode cX4_begin 4 = .ok (.ldc2_w 22, 3) := by decide +kernel
theorem dX4_begin_7 : decode cX4_begin 7 = .ok (.invokestatic 24, 3) := by decide +kernel
theorem dX4_begin_10 : decode cX4_begin 10 = .ok (.aload_n 0, 1) := by decide +kernel
theorem dX4_begin_11 : decode cX4_begin 11 = .ok (.getfield 11, 3) := by decide +kernel
theorem dX4_begin_14 : decode cX4_begin 14 = .ok (.iconst 0, 1) := by decide +kernel
theorem dX4_begin_15 : decode cX4_begin 15 = .ok (.lconst 0, 1) := by decide +kernel
theorem dX4_begin_16 : decode cX4_begin 16 = .ok (.lastore, 1) := by decide +kernel
theorem dX4_begin_17 : decode cX4_begin 17 = .ok (.aload_n 0, 1) := by decide +kernel
theorem dX4_begin_18 : decode cX4_begin 18 = .ok (.iconst 0, 1) := by decide +kernel
theorem dX4_begin_19 : decode cX4_begin 19 = .ok (.putfield 30, 3) := by decide +kernel
theorem dX4_begin_22 : decode cX4_begin 22 = .ok (.aload_n 0, 1) := by decide +kernel
theorem dX4_begin_23 : decode cX4_begin 23 = .ok (.iload_n 1, 1) := by decide +kernel
theorem dX4_begin_24 : decode cX4_begin 24 = .ok (.putfield 34, 3) := by decide +kernel
theorem dX4_begin_27 : decode cX4_begin 27 = .ok (.aload_n 0, 1) := by decide +kernel
theorem dX4_begin_28 : decode cX4_begin 28 = .ok (.iconst 0, 1) := by decide +kernel
theorem dX4_begin_29 : decode cX4_begin 29 = .ok (.putfield 37, 3) := by decide +kernel
theorem dX4_begin_32 : decode cX4_begin 32 = .ok (.iconst 0, 1) := by decide +kernel
theorem dX4_begin_33 : decode cX4_begin 33 = .ok (.istore_n 2, 1) := by decide +kernel
theorem dX4_begin_34 : decode cX4_begin 34 = .ok (.iload_n 2, 1) := by decide +kernel
theorem dX4_begin_35 : decode cX4_begin 35 = .ok (.iconst 4, 1) := by decide +kernel
theorem dX4_begin_36 : decode cX4_begin 36 = .ok (.if_icmp .ge 33, 3) := by decide +kernel
theorem dX4_begin_39 : decode cX4_begin 39 = .ok (.aload_n 0, 1) := by decide +kernel
theorem dX4_begin_40 : decode cX4_begin 40 = .ok (.getfield 19, 3) := by decide +kernel
theorem dX4_begin_43 : decode cX4_begin 43 = .ok (.iload_n 2, 1) := by decide +kernel
theorem dX4_begin_44 : decode cX4_begin 44 = .ok (.aload_n 0, 1) := by decide +kernel
theorem dX4_begin_45 : decode cX4_begin 45 = .ok (.getfield 37, 3) := by decide +kernel
theorem dX4_begin_48 : decode cX4_begin 48 = .ok (.iastore, 1) := by decide +kernel
theorem dX4_begin_49 : decode cX4_begin 49 = .ok (.aload_n 0, 1) := by decide +kernel
theorem dX4_begin_50 : decode cX4_begin 50 = .ok (.dup, 1) := by decide +kernel
theorem dX4_begin_51 : decode cX4_begin 51 = .ok (.getfield 37, 3) := by decide +kernel
theorem dX4_begin_54 : decode cX4_begin 54 = .ok (.iload_n 1, 1) := by decide +kernel
theorem dX4_begin_55 : decode cX4_begin 55 = .ok (.iload_n 2, 1) := by decide +kernel
theorem dX4_begin_56 : decode cX4_begin 56 = .ok (.invokestatic 40, 3) := by decide +kernel
theorem dX4_begin_59 : decode cX4_begin 59 = .ok (.iadd, 1) := by decide +kernel
theorem dX4_begin_60 : decode cX4_begin 60 = .ok (.putfield 37, 3) := by decide +kernel
theorem dX4_begin_63 : decode cX4_begin 63 = .ok (.iinc 2 1, 3) := by decide +kernel
theorem dX4_begin_66 : decode cX4_begin 66 = .ok (.goto (-32), 3) := by decide +kernel
theorem dX4_begin_69 : decode cX4_begin 69 = .ok (.return_, 1) := by decide +kernel
set_option maxRecDepth 100000 in
theorem ggX4_offer_X4_placeIn : GoodIn wsX4_offer wsX4_placeIn := goodIn_sub (mmC (mmI il_X4_offer_1 9 rfl) (mmA (mmA (mmC (mmI il_X4_offer_1 10 rfl) (mmC (mmI il_X4_offer_1 11 rfl) (mmC (mmI il_X4_offer_1 0 rfl) (mmC (mmI il_X4_offer_1 12 rfl) (mmC (mmI il_X4_offer_1 1 rfl) (mmC (mmI il_X4_offer_1 13 rfl) (mmC (mmI il_X4_offer_1 14 rfl) (mmC (mmI il_X4_offer_1 15 rfl) (mmC (mmI il_X4_offer_1 16 rfl) (mmC (mmI il_X4_offer_1 17 rfl) (mmC (mmI il_X4_offer_1 18 rfl) (mmC (mmI il_X4_offer_1 19 rfl) (mmC (mmI il_X4_offer_1 8 rfl) (mmC (mmI il_X4_offer_1 20 rfl) (mmC (mmI il_X4_offer_1 21 rfl) (mmC (mmI il_X4_offer_1 22 rfl) (mmC (mmI il_X4_offer_1 23 rfl) mmN))))))))))))))))) il_X4_offer_3) il_X4_offer_2)) gw_X4_placeIn
theorem gX4_offer_X4_placeIn : GoodIn wsX4_offer (wsV RX4 47 RX4 yX4_placeIn wsX4_placeIn) := goodIn_app (goodIn_sub (mmC (mmI il_X4_offer_1 5 rfl) (mmC (mmI il_X4_offer_1 6 rfl) (mmC (mmI il_X4_offer_1 7 rfl) (mmC (mmI il_X4_offer_1 8 rfl) mmN)))) (by decide +kernel)) ggX4_offer_X4_placeIn
theorem dX4_offer_0 : decode cX4_offer 0 = .ok (.aload_n 0, 1) := by decide +kernel
theorem dX4_offer_1 : decode cX4_offer 1 = .ok (.getfield 30, 3) := by decide +kernel
theorem dX4_offer_4 : decode cX4_offer 4 = .ok (.bipush 12, 2) := by decide +kernel
theorem dX4_offer_6 : decode cX4_offer 6 = .ok (.if_icmp .lt 4, 3) := by decide +kernel
theorem dX4_offer_9 : decode cX4_offer 9 = .ok (.return_, 1) := by decide +kernel
theorem dX4_offer_10 : decode cX4_offer 10 = .ok (.bipush 80, 2) := by decide +kernel
theorem dX4_offer_12 : decode cX4_offer 12 = .ok (.istore_n 2, 1) := by decide +kernel
theorem dX4_offer_13 : decode cX4_offer 13 = .ok (.iload_n 2, 1) := by decide +kernel
theorem dX4_offer_14 : decode cX4_offer 14 = .ok (.ifCond .lt 28, 3) := by decide +kernel
theorem dX4_offer_17 : decode cX4_offer 17 = .ok (.aload_n 0, 1) := by decide +kernel
theorem dX4_offer_18 : decode cX4_offer 18 = .ok (.getfield 11, 3) := by decide +kernel
theorem dX4_offer_21 : decode cX4_offer 21 = .ok (.iload_n 2, 1) := by decide +kernel
theorem dX4_offer_22 : decode cX4_offer 22 = .ok (.laload, 1) := by decide +kernel
theorem dX4_offer_23 : decode cX4_offer 23 = .ok (.ldc2_w 22, 3) := by decide +kernel
theorem dX4_offer_26 : decode cX4_offer 26 = .ok (.lcmp, 1) := by decide +kernel
theorem dX4_offer_27 : decode cX4_offer 27 = .ok (.ifCond .eq 9, 3) := by decide +kernel
theorem dX4_offer_30 : decode cX4_offer 30 = .ok (.aload_n 0, 1) := by decide +kernel
theorem dX4_offer_31 : decode cX4_offer 31 = .ok (.iload_n 2, 1) := by decide +kernel
theorem dX4_offer_32 : decode cX4_offer 32 = .ok (.aload_n 1, 1) := by decide +kernel
theorem dX4_offer_33 : decode cX4_offer 33 = .ok (.invokevirtual 47, 3) := by decide +kernel
theorem dX4_offer_36 : decode cX4_offer 36 = .ok (.iinc 2 (-1), 3) := by decide +kernel
theorem dX4_offer_39 : decode cX4_offer 39 = .ok (.goto (-26), 3) := by decide +kernel
theorem dX4_offer_42 : decode cX4_offer 42 = .ok (.aload_n 0, 1) := by decide +kernel
theorem dX4_offer_43 : decode cX4_offer 43 = .ok (.getfield 15, 3) := by decide +kernel
theorem dX4_offer_46 : decode cX4_offer 46 = .ok (.aload_n 0, 1) := by decide +kernel
theorem dX4_offer_47 : decode cX4_offer 47 = .ok (.getfield 30, 3) := by decide +kernel
theorem dX4_offer_50 : decode cX4_offer 50 = .ok (.aload_n 1, 1) := by decide +kernel
theorem dX4_offer_51 : decode cX4_offer 51 = .ok (.getfield 51, 3) := by decide +kernel
theorem dX4_offer_54 : decode cX4_offer 54 = .ok (.iastore, 1) := by decide +kernel
theorem dX4_offer_55 : decode cX4_offer 55 = .ok (.aload_n 0, 1) := by decide +kernel
theorem dX4_offer_56 : decode cX4_offer 56 = .ok (.dup, 1) := by decide +kernel
theorem dX4_offer_57 : decode cX4_offer 57 = .ok (.getfield 30, 3) := by decide +kernel
theorem dX4_offer_60 : decode cX4_offer 60 = .ok (.iconst 1, 1) := by decide +kernel
theorem dX4_offer_61 : decode cX4_offer 61 = .ok (.iadd, 1) := by decide +kernel
theorem dX4_offer_62 : decode cX4_offer 62 = .ok (.putfield 30, 3) := by decide +kernel
theorem dX4_offer_65 : decode cX4_offer 65 = .ok (.return_, 1) := by decide +kernel
set_option maxRecDepth 100000 in
theorem ggX4_placeIn_X4_handsOf : GoodIn wsX4_placeIn wsX4_handsOf := goodIn_sub (mmC (mmI il_X4_placeIn_1 13 rfl) (mmC (mmI il_X4_placeIn_1 5 rfl) mmN)) gw_X4_handsOf
set_option maxRecDepth 20000 in
theorem gX4_placeIn_X4_handsOf : GoodIn wsX4_placeIn (va_wsS RX4 40 yX4_handsOf wsX4_handsOf) := goodIn_app (goodIn_of _ (by decide +kernel)) ggX4_placeIn_X4_handsOf
set_option maxRecDepth 100000 in
theorem ggX4_placeIn_X4_handShift : GoodIn wsX4_placeIn wsX4_handShift := goodIn_sub (mmC (mmI il_X4_placeIn_1 16 rfl) mmN) gw_X4_handShift
set_option maxRecDepth 20000 in
theorem gX4_placeIn_X4_handShift : GoodIn wsX4_placeIn (va_wsS RX4 59 yX4_handShift wsX4_handShift) := goodIn_app (goodIn_of _ (by decide +kernel)) ggX4_placeIn_X4_handShift
theorem dX4_placeIn_0 : decode cX4_placeIn 0 = .ok (.iconst 0, 1) := by decide +kernel
theorem dX4_placeIn_1 : decode cX4_placeIn 1 = .ok (.istore_n 3, 1) := by decide +kernel
theorem dX4_placeIn_2 : decode cX4_placeIn 2 = .ok (.iload_n 3, 1) := by decide +kernel
theorem dX4_placeIn_3 : decode cX4_placeIn 3 = .ok (.iconst 4, 1) := by decide +kernel
theorem dX4_placeIn_4 : decode cX4_placeIn 4 = .ok (.if_icmp .ge 108, 3) := by decide +kernel
theorem dX4_placeIn_7 : decode cX4_placeIn 7 = .ok (.iload_n 1, 1) := by decide +kernel
theorem dX4_placeIn_8 : decode cX4_placeIn 8 = .ok (.iload_n 3, 1) := by decide +kernel
theorem dX4_placeIn_9 : decode cX4_placeIn 9 = .ok (.invokestatic 40, 3) := by decide +kernel
theorem dX4_placeIn_12 : decode cX4_placeIn 12 = .ok (.istore 4, 2) := by decide +kernel
theorem dX4_placeIn_14 : decode cX4_placeIn 14 = .ok (.aload_n 2, 1) := by decide +kernel
theorem dX4_placeIn_15 : decode cX4_placeIn 15 = .ok (.getfield 56, 3) := by decide +kernel
theorem dX4_placeIn_18 : decode cX4_placeIn 18 = .ok (.iload_n 3, 1) := by decide +kernel
theorem dX4_placeIn_19 : decode cX4_placeIn 19 = .ok (.iaload, 1) := by decide +kernel
theorem dX4_placeIn_20 : decode cX4_placeIn 20 = .ok (.ifCond .le 86, 3) := by decide +kernel
theorem dX4_placeIn_23 : decode cX4_placeIn 23 = .ok (.iload 4, 2) := by decide +kernel
theorem dX4_placeIn_25 : decode cX4_placeIn 25 = .ok (.aload_n 0, 1) := by decide +kernel
theorem dX4_placeIn_26 : decode cX4_placeIn 26 = .ok (.getfield 34, 3) := by decide +kernel
theorem dX4_placeIn_29 : decode cX4_placeIn 29 = .ok (.iload_n 3, 1) := by decide +kernel
theorem dX4_placeIn_30 : decode cX4_placeIn 30 = .ok (.invokestatic 40, 3) := by decide +kernel
theorem dX4_placeIn_33 : decode cX4_placeIn 33 = .ok (.if_icmp .ge 73, 3) := by decide +kernel
theorem dX4_placeIn_36 : decode cX4_placeIn 36 = .ok (.aload_n 0, 1) := by decide +kernel
theorem dX4_placeIn_37 : decode cX4_placeIn 37 = .ok (.getfield 30, 3) := by decide +kernel
theorem dX4_placeIn_40 : decode cX4_placeIn 40 = .ok (.i2l, 1) := by decide +kernel
theorem dX4_placeIn_41 : decode cX4_placeIn 41 = .ok (.aload_n 0, 1) := by decide +kernel
theorem dX4_placeIn_42 : decode cX4_placeIn 42 = .ok (.getfield 19, 3) := by decide +kernel
theorem dX4_placeIn_45 : decode cX4_placeIn 45 = .ok (.iload_n 3, 1) := by decide +kernel
theorem dX4_placeIn_46 : decode cX4_placeIn 46 = .ok (.iaload, 1) := by decide +kernel
theorem dX4_placeIn_47 : decode cX4_placeIn 47 = .ok (.iload 4, 2) := by decide +kernel
theorem dX4_placeIn_49 : decode cX4_placeIn 49 = .ok (.iadd, 1) := by decide +kernel
theorem dX4_placeIn_50 : decode cX4_placeIn 50 = .ok (.invokestatic 59, 3) := by decide +kernel
theorem dX4_placeIn_53 : decode cX4_placeIn 53 = .ok (.lshl, 1) := by decide +kernel
theorem dX4_placeIn_54 : decode cX4_placeIn 54 = .ok (.lstore 5, 2) := by decide +kernel
theorem dX4_placeIn_56 : decode cX4_placeIn 56 = .ok (.aload_n 0, 1) := by decide +kernel
theorem dX4_placeIn_57 : decode cX4_placeIn 57 = .ok (.getfield 11, 3) := by decide +kernel
theorem dX4_placeIn_60 : decode cX4_placeIn 60 = .ok (.iload_n 1, 1) := by decide +kernel
theorem dX4_placeIn_61 : decode cX4_placeIn 61 = .ok (.laload, 1) := by decide +kernel
theorem dX4_placeIn_62 : decode cX4_placeIn 62 = .ok (.aload_n 2, 1) := by decide +kernel
theorem dX4_placeIn_63 : decode cX4_placeIn 63 = .ok (.getfield 56, 3) := by decide +kernel
theorem dX4_placeIn_66 : decode cX4_placeIn 66 = .ok (.iload_n 3, 1) := by decide +kernel
theorem dX4_placeIn_67 : decode cX4_placeIn 67 = .ok (.iaload, 1) := by decide +kernel
theorem dX4_placeIn_68 : decode cX4_placeIn 68 = .ok (.i2l, 1) := by decide +kernel
theorem dX4_placeIn_69 : decode cX4_placeIn 69 = .ok (.bipush 32, 2) := by decide +kernel
theorem dX4_placeIn_71 : decode cX4_placeIn 71 = .ok (.lshl, 1) := by decide +kernel
theorem dX4_placeIn_72 : decode cX4_placeIn 72 = .ok (.ladd, 1) := by decide +kernel
theorem dX4_placeIn_73 : decode cX4_placeIn 73 = .ok (.lload 5, 2) := by decide +kernel
theorem dX4_placeIn_75 : decode cX4_placeIn 75 = .ok (.ladd, 1) := by decide +kernel
theorem dX4_placeIn_76 : decode cX4_placeIn 76 = .ok (.lstore 7, 2) := by decide +kernel
theorem dX4_placeIn_78 : decode cX4_placeIn 78 = .ok (.iload_n 1, 1) := by decide +kernel
theorem dX4_placeIn_79 : decode cX4_placeIn 79 = .ok (.getstatic 44, 3) := by decide +kernel
theorem dX4_placeIn_82 : decode cX4_placeIn 82 = .ok (.iload_n 3, 1) := by decide +kernel
theorem dX4_placeIn_83 : decode cX4_placeIn 83 = .ok (.iaload, 1) := by decide +kernel
theorem dX4_placeIn_84 : decode cX4_placeIn 84 = .ok (.iadd, 1) := by decide +kernel
theorem dX4_placeIn_85 : decode cX4_placeIn 85 = .ok (.istore 9, 2) := by decide +kernel
theorem dX4_placeIn_87 : decode cX4_placeIn 87 = .ok (.aload_n 0, 1) := by decide +kernel
theorem dX4_placeIn_88 : decode cX4_placeIn 88 = .ok (.getfield 11, 3) := by decide +kernel
theorem dX4_placeIn_91 : decode cX4_placeIn 91 = .ok (.iload 9, 2) := by decide +kernel
theorem dX4_placeIn_93 : decode cX4_placeIn 93 = .ok (.aload_n 0, 1) := by decide +kernel
theorem dX4_placeIn_94 : decode cX4_placeIn 94 = .ok (.getfield 11, 3) := by decide +kernel
theorem dX4_placeIn_97 : decode cX4_placeIn 97 = .ok (.iload 9, 2) := by decide +kernel
theorem dX4_placeIn_99 : decode cX4_placeIn 99 = .ok (.laload, 1) := by decide +kernel
theorem dX4_placeIn_100 : decode cX4_placeIn 100 = .ok (.lload 7, 2) := by decide +kernel
theorem dX4_placeIn_102 : decode cX4_placeIn 102 = .ok (.invokestatic 63, 3) := by decide +kernel
theorem dX4_placeIn_105 : decode cX4_placeIn 105 = .ok (.lastore, 1) := by decide +kernel
theorem dX4_placeIn_106 : decode cX4_placeIn 106 = .ok (.iinc 3 1, 3) := by decide +kernel
theorem dX4_placeIn_109 : decode cX4_placeIn 109 = .ok (.goto (-107), 3) := by decide +kernel
theorem dX4_placeIn_112 : decode cX4_placeIn 112 = .ok (.return_, 1) := by decide +kernel
theorem dX4_leastSum_0 : decode cX4_leastSum 0 = .ok (.aload_n 0, 1) := by decide +kernel
theorem dX4_leastSum_1 : decode cX4_leastSum 1 = .ok (.getfield 11, 3) := by decide +kernel
theorem dX4_leastSum_4 : decode cX4_leastSum 4 = .ok (.aload_n 0, 1) := by decide +kernel
theorem dX4_leastSum_5 : decode cX4_leastSum 5 = .ok (.getfield 34, 3) := by decide +kernel
theorem dX4_leastSum_8 : decode cX4_leastSum 8 = .ok (.laload, 1) := by decide +kernel
theorem dX4_leastSum_9 : decode cX4_leastSum 9 = .ok (.ldc2_w 22, 3) := by decide +kernel
theorem dX4_leastSum_12 : decode cX4_leastSum 12 = .ok (.lcmp, 1) := by decide +kernel
theorem dX4_leastSum_13 : decode cX4_leastSum 13 = .ok (.ifCond .ne 8, 3) := by decide +kernel
theorem dX4_leastSum_16 : decode cX4_leastSum 16 = .ok (.bipush (-9), 2) := by decide +kernel
theorem dX4_leastSum_18 : decode cX4_leastSum 18 = .ok (.goto 16, 3) := by decide +kernel
theorem dX4_leastSum_21 : decode cX4_leastSum 21 = .ok (.aload_n 0, 1) := by decide +kernel
theorem dX4_leastSum_22 : decode cX4_leastSum 22 = .ok (.getfield 11, 3) := by decide +kernel
theorem dX4_leastSum_25 : decode cX4_leastSum 25 = .ok (.aload_n 0, 1) := by decide +kernel
theorem dX4_leastSum_26 : decode cX4_leastSum 26 = .ok (.getfield 34, 3) := by decide +kernel
theorem dX4_leastSum_29 : decode cX4_leastSum 29 = .ok (.laload, 1) := by decide +kernel
theorem dX4_leastSum_30 : decode cX4_leastSum 30 = .ok (.bipush 32, 2) := by decide +kernel
theorem dX4_leastSum_32 : decode cX4_leastSum 32 = .ok (.lshr, 1) := by decide +kernel
theorem dX4_leastSum_33 : decode cX4_leastSum 33 = .ok (.l2i, 1) := by decide +kernel
theorem dX4_leastSum_34 : decode cX4_leastSum 34 = .ok (.ireturn, 1) := by decide +kernel
set_option maxRecDepth 100000 in
theorem ggX4_hand_X4_handShift : GoodIn wsX4_hand wsX4_handShift := goodIn_sub (mmC (mmI il_X4_hand_1 9 rfl) mmN) gw_X4_handShift
set_option maxRecDepth 20000 in
theorem gX4_hand_X4_handShift : GoodIn wsX4_hand (va_wsS RX4 59 yX4_handShift wsX4_handShift) := goodIn_app (goodIn_of _ (by decide +kernel)) ggX4_hand_X4_handShift
theorem dX4_hand_0 : decode cX4_hand 0 = .ok (.aload_n 0, 1) := by decide +kernel
theorem dX4_hand_1 : decode cX4_hand 1 = .ok (.getfield 11, 3) := by decide +kernel
theorem dX4_hand_4 : decode cX4_hand 4 = .ok (.aload_n 0, 1) := by decide +kernel
theorem dX4_hand_5 : decode cX4_hand 5 = .ok (.getfield 34, 3) := by decide +kernel
theorem dX4_hand_8 : decode cX4_hand 8 = .ok (.laload, 1) := by decide +kernel
theorem dX4_hand_9 : decode cX4_hand 9 = .ok (.ldc2_w 22, 3) := by decide +kernel
theorem dX4_hand_12 : decode cX4_hand 12 = .ok (.lcmp, 1) := by decide +kernel
theorem dX4_hand_13 : decode cX4_hand 13 = .ok (.ifCond .eq 11, 3) := by decide +kernel
theorem dX4_hand_16 : decode cX4_hand 16 = .ok (.iload_n 1, 1) := by decide +kernel
theorem dX4_hand_17 : decode cX4_hand 17 = .ok (.aload_n 0, 1) := by decide +kernel
theorem dX4_hand_18 : decode cX4_hand 18 = .ok (.getfield 37, 3) := by decide +kernel
theorem dX4_hand_21 : decode cX4_hand 21 = .ok (.if_icmp .lt 6, 3) := by decide +kernel
theorem dX4_hand_24 : decode cX4_hand 24 = .ok (.bipush (-9), 2) := by decide +kernel
theorem dX4_hand_26 : decode cX4_hand 26 = .ok (.ireturn, 1) := by decide +kernel
theorem dX4_hand_27 : decode cX4_hand 27 = .ok (.aload_n 0, 1) := by decide +kernel
theorem dX4_hand_28 : decode cX4_hand 28 = .ok (.getfield 11, 3) := by decide +kernel
theorem dX4_hand_31 : decode cX4_hand 31 = .ok (.aload_n 0, 1) := by decide +kernel
theorem dX4_hand_32 : decode cX4_hand 32 = .ok (.getfield 34, 3) := by decide +kernel
theorem dX4_hand_35 : decode cX4_hand 35 = .ok (.laload, 1) := by decide +kernel
theorem dX4_hand_36 : decode cX4_hand 36 = .ok (.iload_n 1, 1) := by decide +kernel
theorem dX4_hand_37 : decode cX4_hand 37 = .ok (.invokestatic 59, 3) := by decide +kernel
theorem dX4_hand_40 : decode cX4_hand 40 = .ok (.lshr, 1) := by decide +kernel
theorem dX4_hand_41 : decode cX4_hand 41 = .ok (.ldc2_w 69, 3) := by decide +kernel
theorem dX4_hand_44 : decode cX4_hand 44 = .ok (.land, 1) := by decide +kernel
theorem dX4_hand_45 : decode cX4_hand 45 = .ok (.l2i, 1) := by decide +kernel
theorem dX4_hand_46 : decode cX4_hand 46 = .ok (.istore_n 2, 1) := by decide +kernel
theorem dX4_hand_47 : decode cX4_hand 47 = .ok (.iload_n 2, 1) := by decide +kernel
theorem dX4_hand_48 : decode cX4_hand 48 = .ok (.bipush 12, 2) := by decide +kernel
theorem dX4_hand_50 : decode cX4_hand 50 = .ok (.if_icmp .ge 12, 3) := by decide +kernel
theorem dX4_hand_53 : decode cX4_hand 53 = .ok (.aload_n 0, 1) := by decide +kernel
theorem dX4_hand_54 : decode cX4_hand 54 = .ok (.getfield 15, 3) := by decide +kernel
theorem dX4_hand_57 : decode cX4_hand 57 = .ok (.iload_n 2, 1) := by decide +kernel
theorem dX4_hand_58 : decode cX4_hand 58 = .ok (.iaload, 1) := by decide +kernel
theorem dX4_hand_59 : decode cX4_hand 59 = .ok (.goto 5, 3) := by decide +kernel
theorem dX4_hand_62 : decode cX4_hand 62 = .ok (.bipush (-9), 2) := by decide +kernel
theorem dX4_hand_64 : decode cX4_hand 64 = .ok (.ireturn, 1) := by decide +kernel
theorem in_wsX4_placeIn_X6 : ∀ w ∈ wsX60, w ∈ wsX4_placeIn := fun w h => List.mem_cons_of_mem _ (List.mem_append_left _ (List.mem_append_right _ h))
theorem in_wsX4_placeIn_X4 : ∀ w ∈ wsX40, w ∈ wsX4_placeIn := fun w h => List.mem_cons_of_mem _ (List.mem_append_right _ h)
theorem in_wsX4_offer_X4 : ∀ w ∈ wsX40, w ∈ wsX4_offer := fun w h => List.mem_cons_of_mem _ (List.mem_append_left _ (List.mem_append_right _ h))
theorem in_wsX4_offer_X6 : ∀ w ∈ wsX60, w ∈ wsX4_offer := fun w h => List.mem_cons_of_mem _ (List.mem_append_right _ h)
theorem in_wsX4_begin_X4 : ∀ w ∈ wsX40, w ∈ wsX4_begin := fun w h => List.mem_cons_of_mem _ (List.mem_append_right _ h)
theorem in_wsX4_leastSum_X4 : ∀ w ∈ wsX40, w ∈ wsX4_leastSum := fun w h => List.mem_cons_of_mem _ (List.mem_append_right _ h)
theorem in_wsX4_hand_X4 : ∀ w ∈ wsX40, w ∈ wsX4_hand := fun w h => List.mem_cons_of_mem _ (List.mem_append_right _ h)

set_option maxHeartbeats 4000000 in
set_option maxRecDepth 100000 in
theorem c_X4_placeIn (l : Launch) (dC : Nat → ClassId) (dI : Nat → Nat → Nat) (sz : Nat) (tL tS tG : Nat) (cq : Nat → ClassId) (Z : oS) (gI : oInv Z) (o : Nat) (to : oty Z o 4) (x1 : Int32) (hx1 : 0 ≤ x1.toInt ∧ x1.toInt ≤ 80) (a2 : Nat) (ta2 : oty Z a2 6) : Met l yX4_placeIn wsX4_placeIn ({ frames := 1, cells := 0, slots := 0, locals := 21 }) (va_Pc [.ref o, .int x1, .ref a2] (pcO (dC, dI) (oT cq) (oW cq Z) sz tL tS tG (oW cq Z))) (va_Qv (fun (u : oS) => oInv u ∧ oX [2018] Z u) (fun u t => va_P (dC, dI) vwCl (oW cq u) t.heap ∧ va_K (dC, dI) vwCl (oT cq) t ∧ va_D (va_A (oW cq Z) sz) (oW cq u)) (va_A (oW cq Z) sz)) 0 0 (va_A (oW cq Z) sz) := by
  refine Met.ofW (cc := cX4_placeIn) (maxL := 10) (ret := none) (by decide +kernel) rfl ?_
  intro p e s m args below meth c s₁ B hml hv
  obtain ⟨rfl, ⟨hsz, hP, hK, hD0⟩, hZ⟩ := hv
  have hx := B.exec
  have hb := B.bytes
  have hr := B.returns
  have hts := atoms_spec (ws := wsX4_placeIn) B.pre
  have hown : s.vm.findClass RX4 = some m.cls := findClass_of_methodNamed B.named
  have hlocks := B.notSynchronized
  subst hsz
  have hD := hD0.self (sz := s.heap.size)
  generalize hAe : va_A (oW cq Z) s.heap.size = A at hD hZ ⊢
  have hA : ∀ q : Nat, s.heap.size ≤ q → A q := fun q h => by rw [← hAe]; exact Or.inr h
  have hS : va_S A s.heap s.heap [] := va_S.rf
  have hP : va_P (dC, dI) vwCl (oW cq Z) s.heap := hP
  have hl := lv_entry ([.ref o, .int x1, .ref a2]) (n := 10) (Nat.le_of_ble_eq_true rfl)
  rw [lg_entry_eq]
  generalize (lg_sl ([.ref o, .int x1, .ref a2]) ++ List.replicate (10 - (lg_sl ([.ref o, .int x1, .ref a2])).length) Slot.unset).toArray = ls at hl ⊢
  have hl : lv_has ls 10 [(0, .ref o), (1, .int x1), (2, .ref a2)] := hl
  refine lv_iconst (v := 0) hx hb dX4_placeIn_0 (by decide +kernel) ?_
  refine lv_istore_n (lv' := [(3, .int 0), (0, .ref o), (1, .int x1), (2, .ref a2)]) hx hb dX4_placeIn_1 rfl hl (by decide +kernel) rfl (fun ls hl => ?_)
  have cut_1 : ∀ (n : Nat) (y_2 : Int32) (S_3 : oS) (H : Heap) (locs : List Loc) (ls : Array Slot), 4 - y_2.toInt ≤ (n : Int) → (0 ≤ y_2.toInt ∧ y_2.toInt ≤ 4) → oInv S_3 → oX [2018] Z S_3 → va_P (dC, dI) vwCl (oW cq S_3) H → va_D A (oW cq S_3) → va_S A s.heap H locs → lv_has ls 10 [(3, .int y_2), (0, .ref o), (1, .int x1), (2, .ref a2)] → W p l e (headSpec wsX4_placeIn { frames := 1, cells := 0, slots := 0, locals := 21 }).room s m #[Value.ref o, Value.int x1, Value.ref a2] below meth c H locs 0 0 (MQ below (va_Qv (fun (u : oS) => oInv u ∧ oX [2018] Z u) (fun u t => va_P (dC, dI) vwCl (oW cq u) t.heap ∧ va_K (dC, dI) vwCl (oT cq) t ∧ va_D A (oW cq u)) A) #[Value.ref o, Value.int x1, Value.ref a2] s 0 0 A) (F0 m 2 ls []) := by
    intro n
    induction n using Nat.strongRecOn with
    | ind n ih =>
      intro y_2 S_3 H locs ls hm hy_2 hIS_3 XS_3 hP hD hS hl
      have YS_3 : oX [2018] Z S_3 := oX.st oX.rf XS_3 (fun _ q => q)
      refine lv_iload_n hx hb dX4_placeIn_2 rfl (lv_at hl 0 rfl) ?_
      refine lv_iconst (v := 4) hx hb dX4_placeIn_3 (by decide +kernel) ?_
      refine lv_icmp_ge (tgt := 112) hx hb dX4_placeIn_4 (by decide +kernel) (fun c_4 => ?_) (fun c_4 => ?_)
      · have dc_4 := c_le (a := 4) (b := y_2.toInt) (by decide +kernel) rfl c_4
        exact W.vret hx hb hr (fun t ht hW => ⟨⟨S_3, rfl, ⟨hIS_3, YS_3⟩, ⟨by rw [ht]; exact hP, va_K.moved hW.alike hK, hD⟩⟩, hS.F ht⟩) hS.2.2 dX4_placeIn_112
      · have dc_4 := c_nle (a := 4) (b := y_2.toInt) (by decide +kernel) rfl c_4
        rcases st_i (x := y_2) (by omega) with (st_5 | st_5) | (st_5 | st_5)
        · subst st_5
          have kc_6 : (0 : Int32).toInt = 0 := by decide
          refine lv_iload_n hx hb dX4_placeIn_7 rfl (lv_at hl 2 rfl) ?_
          refine lv_iload_n hx hb dX4_placeIn_8 rfl (lv_at hl 0 rfl) ?_
          have hFc : ∀ q, va_A [] H.size q → A q := pu_free hS hA
          refine va_calli (va_runS (As := [.int x1, .int 0]) (rest := []) ⟨hx, hb, hml, hown, hts⟩ (c_X4_handsOf l dC dI H.size tL tS tG cq S_3 hIS_3 x1 (by omega) 0 (by decide +kernel)) (va_cwS 2 hts gX4_placeIn_X4_handsOf rfl rfl rfl (by decide +kernel) ⟨(Nat.le_of_ble_eq_true rfl), (Nat.le_of_ble_eq_true rfl)⟩) (pr_SO hP hK hD (hZ.go hS hFc)) rfl rfl hl.1 rfl (lv_room (Nat.le_of_ble_eq_true rfl)) dX4_placeIn_9 ⟨(Nat.le_of_ble_eq_true rfl), (Nat.le_of_ble_eq_true rfl)⟩) hS (fun q _ h => hFc q h) hFc (fun r_8 u t H locs ht hvm w_7 hB hz1 hk1 hS => ?_)
          have hP := pu_keep hP hk1
          clear hk1 hz1 hvm hB ht hFc
          obtain ⟨hb_9, hx_10⟩ := w_7
          have ho_11 : r_8.toInt = x1.toInt / 1 % 3 := by have h0 : (0 : Int32).toInt = 0 := (by decide +kernel); rw [hx_10, h0]; simp
          refine lv_istore (lv' := [(4, .int r_8), (3, .int 0), (0, .ref o), (1, .int x1), (2, .ref a2)]) hx hb dX4_placeIn_12 hl (by decide +kernel) rfl (fun ls hl => ?_)
          refine lv_aload_n hx hb dX4_placeIn_14 rfl (lv_at hl 4 rfl) ?_
          have t_12 : oty S_3 a2 6 := (oX.ty XS_3 ta2)
          obtain ⟨q_13, hq_13⟩ := og (cq := cq) t_12.1 (oE_6 t_12.2)
          obtain ⟨b_14, hb_14⟩ := oInv.nn (i := 4) hIS_3 t_12 rfl
          refine va_get (D := (dC, dI)) (ci := 6) (v := .ref b_14) (C := RX6) (T := TX6) (N := 6) hx hb hts in_wsX4_placeIn_X6 hown hK hP q_13 hq_13 rfl 4 (by decide +kernel) (hts (.fieldLink RX4 56 "ShipOffice$Man" "wages" "[I") iw_X4_placeIn_1) (fun _ h9 => h9) (o_rd hb_14) dX4_placeIn_15 ?_
          have tb_14 : oty S_3 b_14 104 := oInv.rd hIS_3 t_12.2 hb_14 rfl rfl
          refine lv_iload_n hx hb dX4_placeIn_18 rfl (lv_at hl 1 rfl) ?_
          obtain ⟨q_15, hq_15⟩ := og (cq := cq) tb_14.1 (oE_a1 (n := 4) tb_14.2 (by decide +kernel))
          refine va_iald hx hb hK hP q_15 0 hq_15 rfl (by unfold vp_in; decide) dX4_placeIn_19 ?_
          refine lv_topi (fun x_16 ex_16 => ?_)
          clear ex_16
          refine lv_if_le (tgt := 106) hx hb dX4_placeIn_20 (by decide +kernel) (fun c_17 => ?_) (fun c_17 => ?_)
          · have dc_17 := c_le (a := x_16.toInt) (b := 0) rfl (by decide +kernel) c_17
            refine lv_iinc (v := 1) (lv' := [(3, .int 1), (4, .int r_8), (0, .ref o), (1, .int x1), (2, .ref a2)]) hx hb dX4_placeIn_106 hl (k := 1) rfl (by decide +kernel) (by decide +kernel) rfl (fun ls hl => ?_)
            refine lv_goto (tgt := 2) hx hb dX4_placeIn_109 (by decide +kernel) ?_
            have kc_18 : (1 : Int32).toInt = 1 := by decide
            exact ih (n - 1) (by omega) 1 S_3 _ _ ls (by omega) (by decide +kernel) hIS_3 (oX.st oX.rf XS_3 (by decide +kernel)) hP hD hS (lv_sub hl [0, 2, 3, 4] rfl)
          · have dc_17 := c_nle (a := x_16.toInt) (b := 0) rfl (by decide +kernel) c_17
            refine lv_iload hx hb dX4_placeIn_23 (lv_at hl 0 rfl) ?_
            refine lv_aload_n hx hb dX4_placeIn_25 rfl (lv_at hl 2 rfl) ?_
            have t_19 : oty S_3 o 4 := (oX.ty XS_3 to)
            obtain ⟨q_20, hq_20⟩ := og (cq := cq) t_19.1 (oE_4 t_19.2)
            refine va_get (D := (dC, dI)) (ci := 4) (v := .int (oI S_3 o 4)) (C := RX4) (T := TX4) (N := 6) hx hb hts in_wsX4_placeIn_X4 hown hK hP q_20 hq_20 rfl 4 (by decide +kernel) (hts (.fieldLink RX4 34 "ShipOffice$Hiring" "goal" "I") iw_X4_placeIn_2) (fun _ h9 => h9) rfl dX4_placeIn_26 ?_
            refine lv_topi (fun x_21 ex_21 => ?_)
            have hx_21 : 0 ≤ x_21.toInt ∧ x_21.toInt ≤ 80 := iv_of ex_21 (oInv.iv hIS_3 t_19.2 rfl rfl)
            have gx_21 : x_21.toInt = (oI S_3 o 4).toInt := iv_to ex_21
            clear ex_21
            refine lv_iload_n hx hb dX4_placeIn_29 rfl (lv_at hl 1 rfl) ?_
            have hFc : ∀ q, va_A [] H.size q → A q := pu_free hS hA
            refine va_calli (va_runS (As := [.int x_21, .int 0]) (rest := [.int r_8]) ⟨hx, hb, hml, hown, hts⟩ (c_X4_handsOf l dC dI H.size tL tS tG cq S_3 hIS_3 x_21 (by omega) 0 (by decide +kernel)) (va_cwS 2 hts gX4_placeIn_X4_handsOf rfl rfl rfl (by decide +kernel) ⟨(Nat.le_of_ble_eq_true rfl), (Nat.le_of_ble_eq_true rfl)⟩) (pr_SO hP hK hD (hZ.go hS hFc)) rfl rfl hl.1 rfl (lv_room (Nat.le_of_ble_eq_true rfl)) dX4_placeIn_30 ⟨(Nat.le_of_ble_eq_true rfl), (Nat.le_of_ble_eq_true rfl)⟩) hS (fun q _ h => hFc q h) hFc (fun r_23 u t H locs ht hvm w_22 hB hz1 hk1 hS => ?_)
            have hP := pu_keep hP hk1
            clear hk1 hz1 hvm hB ht hFc
            obtain ⟨hb_24, hx_25⟩ := w_22
            have ho_26 : r_23.toInt = x_21.toInt / 1 % 3 := by have h0 : (0 : Int32).toInt = 0 := (by decide +kernel); rw [hx_25, h0]; simp
            refine lv_icmp_ge (tgt := 106) hx hb dX4_placeIn_33 (by decide +kernel) (fun c_27 => ?_) (fun c_27 => ?_)
            · have dc_27 := c_le (a := r_23.toInt) (b := r_8.toInt) rfl rfl c_27
              refine lv_iinc (v := 1) (lv' := [(3, .int 1), (4, .int r_8), (0, .ref o), (1, .int x1), (2, .ref a2)]) hx hb dX4_placeIn_106 hl (k := 1) rfl (by decide +kernel) (by decide +kernel) rfl (fun ls hl => ?_)
              refine lv_goto (tgt := 2) hx hb dX4_placeIn_109 (by decide +kernel) ?_
              have kc_28 : (1 : Int32).toInt = 1 := by decide
              exact ih (n - 1) (by omega) 1 S_3 _ _ ls (by omega) (by decide +kernel) hIS_3 (oX.st oX.rf XS_3 (by decide +kernel)) hP hD hS (lv_sub hl [0, 2, 3, 4] rfl)
            · have dc_27 := c_nle (a := r_23.toInt) (b := r_8.toInt) rfl rfl c_27
              refine lv_aload_n hx hb dX4_placeIn_36 rfl (lv_at hl 2 rfl) ?_
              refine va_get (D := (dC, dI)) (ci := 4) (v := .int (oI S_3 o 2)) (C := RX4) (T := TX4) (N := 6) hx hb hts in_wsX4_placeIn_X4 hown hK hP q_20 hq_20 rfl 2 (by decide +kernel) (hts (.fieldLink RX4 30 "ShipOffice$Hiring" "offerCount" "I") iw_X4_placeIn_3) (fun _ h9 => h9) rfl dX4_placeIn_37 ?_
              refine lv_topi (fun x_29 ex_29 => ?_)
              have hx_29 : 0 ≤ x_29.toInt ∧ x_29.toInt ≤ 12 := iv_of ex_29 (oInv.iv hIS_3 t_19.2 rfl rfl)
              have gx_29 : x_29.toInt = (oI S_3 o 2).toInt := iv_to ex_29
              clear ex_29
              refine lv_i2l (v := (x_29 : Int32).toInt64) hx hb dX4_placeIn_40 rfl ?_
              refine lv_aload_n hx hb dX4_placeIn_41 rfl (lv_at hl 2 rfl) ?_
              obtain ⟨b_30, hb_30⟩ := oInv.nn (i := 3) hIS_3 t_19 rfl
              refine va_get (D := (dC, dI)) (ci := 4) (v := .ref b_30) (C := RX4) (T := TX4) (N := 6) hx hb hts in_wsX4_placeIn_X4 hown hK hP q_20 hq_20 rfl 3 (by decide +kernel) (hts (.fieldLink RX4 19 "ShipOffice$Hiring" "firstPlace" "[I") iw_X4_placeIn_4) (fun _ h9 => h9) (o_rd hb_30) dX4_placeIn_42 ?_
              have tb_30 : oty S_3 b_30 61 := oInv.rd hIS_3 t_19.2 hb_30 rfl rfl
              refine lv_iload_n hx hb dX4_placeIn_45 rfl (lv_at hl 1 rfl) ?_
              obtain ⟨q_31, hq_31⟩ := og (cq := cq) tb_30.1 (oE_61 tb_30.2)
              refine va_iald hx hb hK hP q_31 0 hq_31 rfl (by unfold vp_in; decide) dX4_placeIn_46 ?_
              refine lv_topi (fun x_32 ex_32 => ?_)
              clear ex_32
              refine lv_iload hx hb dX4_placeIn_47 (lv_at hl 0 rfl) ?_
              refine lv_iadd hx hb dX4_placeIn_49 ?_
              refine lv_topi (fun x_33 ex_33 => ?_)
              clear ex_33
              have hFc : ∀ q, va_A [] H.size q → A q := pu_free hS hA
              have hPc := hP.sub (ws' := []) [] rfl
              have hDc := hD.sub (ws' := []) [] (by decide +kernel) rfl
              have hKc := hK.sub (tys' := []) [] rfl
              refine va_calli (va_runS (As := [.int x_33]) (rest := [.long ((x_29 : Int32).toInt64)]) ⟨hx, hb, hml, hown, hts⟩ (c_X4_handShift l dC dI H.size  x_33) (va_cwS 1 hts gX4_placeIn_X4_handShift rfl rfl rfl (by decide +kernel) ⟨(Nat.le_of_ble_eq_true rfl), (Nat.le_of_ble_eq_true rfl)⟩) (pr_S hPc hKc hDc) rfl rfl hl.1 rfl (lv_room (Nat.le_of_ble_eq_true rfl)) dX4_placeIn_50 ⟨(Nat.le_of_ble_eq_true rfl), (Nat.le_of_ble_eq_true rfl)⟩) hS (fun q _ h => hFc q h) hFc (fun r_35 u t H locs ht hvm w_34 hB hz1 hk1 hS => ?_)
              have hP := pu_keep hP hk1
              clear hk1 hz1 hvm hB ht hFc hPc hDc hKc
              refine lv_lshl (v := ((x_29 : Int32).toInt64) <<< ((r_35 : Int32).toInt64 &&& 63)) hx hb dX4_placeIn_53 rfl ?_
              refine lv_lstore (lv' := [(5, .long (((x_29 : Int32).toInt64) <<< ((r_35 : Int32).toInt64 &&& 63))), (4, .int r_8), (3, .int 0), (0, .ref o), (1, .int x1), (2, .ref a2)]) hx hb dX4_placeIn_54 hl (by decide +kernel) rfl (fun ls hl => ?_)
              refine lv_aload_n hx hb dX4_placeIn_56 rfl (lv_at hl 3 rfl) ?_
              obtain ⟨b_36, hb_36⟩ := oInv.nn (i := 0) hIS_3 t_19 rfl
              refine va_get (D := (dC, dI)) (ci := 4) (v := .ref b_36) (C := RX4) (T := TX4) (N := 6) hx hb hts in_wsX4_placeIn_X4 hown hK hP q_20 hq_20 rfl 0 (by decide +kernel) (hts (.fieldLink RX4 11 "ShipOffice$Hiring" "best" "[J") iw_X4_placeIn_5) (fun _ h9 => h9) (o_rd hb_36) dX4_placeIn_57 ?_
              have tb_36 : oty S_3 b_36 18 := oInv.rd hIS_3 t_19.2 hb_36 rfl rfl
              refine lv_iload_n hx hb dX4_placeIn_60 rfl (lv_at hl 4 rfl) ?_
              obtain ⟨q_37, hq_37⟩ := og (cq := cq) tb_36.1 (oE_18 tb_36.2)
              refine va_lald hx hb hK hP q_37 1 hq_37 rfl (vp_in_iff.mpr (by omega)) dX4_placeIn_61 ?_
              refine lv_topl (fun l_38 _ => ?_)
              refine lv_aload_n hx hb dX4_placeIn_62 rfl (lv_at hl 5 rfl) ?_
              refine va_get (D := (dC, dI)) (ci := 6) (v := .ref b_14) (C := RX6) (T := TX6) (N := 6) hx hb hts in_wsX4_placeIn_X6 hown hK hP q_13 hq_13 rfl 4 (by decide +kernel) (hts (.fieldLink RX4 56 "ShipOffice$Man" "wages" "[I") iw_X4_placeIn_1) (fun _ h9 => h9) (o_rd hb_14) dX4_placeIn_63 ?_
              refine lv_iload_n hx hb dX4_placeIn_66 rfl (lv_at hl 2 rfl) ?_
              refine va_iald hx hb hK hP q_15 0 hq_15 rfl (by unfold vp_in; decide) dX4_placeIn_67 ?_
              refine lv_topi (fun x_39 ex_39 => ?_)
              clear ex_39
              refine lv_i2l (v := (x_39 : Int32).toInt64) hx hb dX4_placeIn_68 rfl ?_
              refine lv_bipush (v := 32) hx hb dX4_placeIn_69 (by decide +kernel) ?_
              refine lv_lshl (v := ((x_39 : Int32).toInt64) <<< ((32 : Int32).toInt64 &&& 63)) hx hb dX4_placeIn_71 rfl ?_
              refine lv_ladd hx hb dX4_placeIn_72 ?_
              refine lv_lload hx hb dX4_placeIn_73 (lv_at hl 0 rfl) ?_
              refine lv_ladd hx hb dX4_placeIn_75 ?_
              refine lv_lstore (lv' := [(7, .long ((l_38 + (((x_39 : Int32).toInt64) <<< ((32 : Int32).toInt64 &&& 63))) + (((x_29 : Int32).toInt64) <<< ((r_35 : Int32).toInt64 &&& 63)))), (5, .long (((x_29 : Int32).toInt64) <<< ((r_35 : Int32).toInt64 &&& 63))), (4, .int r_8), (3, .int 0), (0, .ref o), (1, .int x1), (2, .ref a2)]) hx hb dX4_placeIn_76 hl (by decide +kernel) rfl (fun ls hl => ?_)
              refine lv_iload_n hx hb dX4_placeIn_78 rfl (lv_at hl 5 rfl) ?_
              refine va_gets hx hb hZ.1.2.2.1 hS hown (hts (.fieldLink RX4 44 "ShipOffice$Hiring" "STEP" "[I") iw_X4_placeIn_6) (fun _ h9 => h9) dX4_placeIn_79 ?_
              refine lv_iload_n hx hb dX4_placeIn_82 rfl (lv_at hl 3 rfl) ?_
              refine va_ti hx hb hZ.1.2.2.2.1 hS (by unfold vp_in; decide) (v := .int 1) rfl dX4_placeIn_83 ?_
              refine lv_iadd hx hb dX4_placeIn_84 ?_
              refine lv_topi (fun x_40 ex_40 => ?_)
              have hx_40 : x_40.toInt = x1.toInt + 1 := (iv_to ex_40).trans (ad_i rfl (by decide +kernel) (by omega) (by omega))
              clear ex_40
              refine lv_istore (lv' := [(9, .int x_40), (7, .long ((l_38 + (((x_39 : Int32).toInt64) <<< ((32 : Int32).toInt64 &&& 63))) + (((x_29 : Int32).toInt64) <<< ((r_35 : Int32).toInt64 &&& 63)))), (5, .long (((x_29 : Int32).toInt64) <<< ((r_35 : Int32).toInt64 &&& 63))), (4, .int r_8), (3, .int 0), (0, .ref o), (1, .int x1), (2, .ref a2)]) hx hb dX4_placeIn_85 hl (by decide +kernel) rfl (fun ls hl => ?_)
              refine lv_aload_n hx hb dX4_placeIn_87 rfl (lv_at hl 5 rfl) ?_
              refine va_get (D := (dC, dI)) (ci := 4) (v := .ref b_36) (C := RX4) (T := TX4) (N := 6) hx hb hts in_wsX4_placeIn_X4 hown hK hP q_20 hq_20 rfl 0 (by decide +kernel) (hts (.fieldLink RX4 11 "ShipOffice$Hiring" "best" "[J") iw_X4_placeIn_5) (fun _ h9 => h9) (o_rd hb_36) dX4_placeIn_88 ?_
              refine lv_iload hx hb dX4_placeIn_91 (lv_at hl 0 rfl) ?_
              refine lv_aload_n hx hb dX4_placeIn_93 rfl (lv_at hl 5 rfl) ?_
              refine va_get (D := (dC, dI)) (ci := 4) (v := .ref b_36) (C := RX4) (T := TX4) (N := 6) hx hb hts in_wsX4_placeIn_X4 hown hK hP q_20 hq_20 rfl 0 (by decide +kernel) (hts (.fieldLink RX4 11 "ShipOffice$Hiring" "best" "[J") iw_X4_placeIn_5) (fun _ h9 => h9) (o_rd hb_36) dX4_placeIn_94 ?_
              refine lv_iload hx hb dX4_placeIn_97 (lv_at hl 0 rfl) ?_
              refine va_lald hx hb hK hP q_37 1 hq_37 rfl (vp_in_iff.mpr (by omega)) dX4_placeIn_99 ?_
              refine lv_topl (fun l_41 _ => ?_)
              refine lv_lload hx hb dX4_placeIn_100 (lv_at hl 1 rfl) ?_
              refine va_mmin_long hx hb (by rw [hml]; exact hl.1.symm) hown (hts (.methodLink RX4 63 Lib.MathLoose.min_long.x) iw_X4_placeIn_7) (hts (.static Lib.MathLoose.min_long.x) iw_X4_placeIn_8) (hts (.initialized "java/lang/Math") iw_X4_placeIn_9) (hts (.code Lib.MathLoose.min_long.x Lib.MathLoose.min_long.code 4 (some .long)) (by decide +kernel)) (Nat.le_of_ble_eq_true rfl) (Nat.le_of_ble_eq_true rfl) (Nat.le_of_ble_eq_true rfl) (Nat.le_of_ble_eq_true rfl) dX4_placeIn_102 ?_
              refine lv_topl (fun l_42 _ => ?_)
              refine va_last hx hb hK hP hD hS q_37 1 hq_37 rfl (vp_in_iff.mpr (by omega)) dX4_placeIn_105 (fun H locs hP1 hD1 hS => ?_)
              obtain ⟨S_43, eS_43⟩ : ∃ zq, zq = setJ S_3 b_36 (x_40 : Int32).toNatClampNeg l_42 := ⟨_, rfl⟩
              have hP : va_P (dC, dI) vwCl (oW cq S_43) H := by rw [eS_43]; exact cP (oset tb_36.1 hq_37 hD rfl (he_18 tb_36.2) neJ) hP1
              have hD : va_D A (oW cq S_43) := by rw [eS_43]; exact cD (oset tb_36.1 hq_37 hD rfl (he_18 tb_36.2) neJ) hD1
              clear hP1 hD1
              have hIS_43 : oInv S_43 := by rw [eS_43]; exact oInv.J hIS_3
              have XS_43 : oX [2018] S_3 S_43 := by rw [eS_43]; exact oX.J (k := 18) (key := 2018) tb_36.2 (fun _ => rfl) (List.mem_singleton.mpr rfl)
              have X_44 : oX [2018] Z S_43 := oX.st YS_3 XS_43 (by decide +kernel)
              have g_45 : (oI S_43 o 2).toInt = (oI S_3 o 2).toInt := by rw [eS_43]; rfl
              have g_46 : (oI S_43 o 4).toInt = (oI S_3 o 4).toInt := by rw [eS_43]; rfl
              refine lv_iinc (v := 1) (lv' := [(3, .int 1), (9, .int x_40), (7, .long ((l_38 + (((x_39 : Int32).toInt64) <<< ((32 : Int32).toInt64 &&& 63))) + (((x_29 : Int32).toInt64) <<< ((r_35 : Int32).toInt64 &&& 63)))), (5, .long (((x_29 : Int32).toInt64) <<< ((r_35 : Int32).toInt64 &&& 63))), (4, .int r_8), (0, .ref o), (1, .int x1), (2, .ref a2)]) hx hb dX4_placeIn_106 hl (k := 4) rfl (by decide +kernel) (by decide +kernel) rfl (fun ls hl => ?_)
              refine lv_goto (tgt := 2) hx hb dX4_placeIn_109 (by decide +kernel) ?_
              have kc_47 : (1 : Int32).toInt = 1 := by decide
              exact ih (n - 1) (by omega) 1 S_43 _ _ ls (by omega) (by decide +kernel) hIS_43 (oX.st (oX.st oX.rf XS_3 (by decide +kernel)) XS_43 (by decide +kernel)) hP hD hS (lv_sub hl [0, 5, 6, 7] rfl)
        · subst st_5
          have kc_48 : (1 : Int32).toInt = 1 := by decide
          refine lv_iload_n hx hb dX4_placeIn_7 rfl (lv_at hl 2 rfl) ?_
          refine lv_iload_n hx hb dX4_placeIn_8 rfl (lv_at hl 0 rfl) ?_
          have hFc : ∀ q, va_A [] H.size q → A q := pu_free hS hA
          refine va_calli (va_runS (As := [.int x1, .int 1]) (rest := []) ⟨hx, hb, hml, hown, hts⟩ (c_X4_handsOf l dC dI H.size tL tS tG cq S_3 hIS_3 x1 (by omega) 1 (by decide +kernel)) (va_cwS 2 hts gX4_placeIn_X4_handsOf rfl rfl rfl (by decide +kernel) ⟨(Nat.le_of_ble_eq_true rfl), (Nat.le_of_ble_eq_true rfl)⟩) (pr_SO hP hK hD (hZ.go hS hFc)) rfl rfl hl.1 rfl (lv_room (Nat.le_of_ble_eq_true rfl)) dX4_placeIn_9 ⟨(Nat.le_of_ble_eq_true rfl), (Nat.le_of_ble_eq_true rfl)⟩) hS (fun q _ h => hFc q h) hFc (fun r_50 u t H locs ht hvm w_49 hB hz1 hk1 hS => ?_)
          have hP := pu_keep hP hk1
          clear hk1 hz1 hvm hB ht hFc
          obtain ⟨hb_51, hx_52⟩ := w_49
          have ho_53 : r_50.toInt = x1.toInt / 3 % 3 := by have h0 : (1 : Int32).toInt = 1 := (by decide +kernel); rw [hx_52, h0]; simp
          refine lv_istore (lv' := [(4, .int r_50), (3, .int 1), (0, .ref o), (1, .int x1), (2, .ref a2)]) hx hb dX4_placeIn_12 hl (by decide +kernel) rfl (fun ls hl => ?_)
          refine lv_aload_n hx hb dX4_placeIn_14 rfl (lv_at hl 4 rfl) ?_
          have t_54 : oty S_3 a2 6 := (oX.ty XS_3 ta2)
          obtain ⟨q_55, hq_55⟩ := og (cq := cq) t_54.1 (oE_6 t_54.2)
          obtain ⟨b_56, hb_56⟩ := oInv.nn (i := 4) hIS_3 t_54 rfl
          refine va_get (D := (dC, dI)) (ci := 6) (v := .ref b_56) (C := RX6) (T := TX6) (N := 6) hx hb hts in_wsX4_placeIn_X6 hown hK hP q_55 hq_55 rfl 4 (by decide +kernel) (hts (.fieldLink RX4 56 "ShipOffice$Man" "wages" "[I") iw_X4_placeIn_1) (fun _ h9 => h9) (o_rd hb_56) dX4_placeIn_15 ?_
          have tb_56 : oty S_3 b_56 104 := oInv.rd hIS_3 t_54.2 hb_56 rfl rfl
          refine lv_iload_n hx hb dX4_placeIn_18 rfl (lv_at hl 1 rfl) ?_
          obtain ⟨q_57, hq_57⟩ := og (cq := cq) tb_56.1 (oE_a1 (n := 4) tb_56.2 (by decide +kernel))
          refine va_iald hx hb hK hP q_57 0 hq_57 rfl (by unfold vp_in; decide) dX4_placeIn_19 ?_
          refine lv_topi (fun x_58 ex_58 => ?_)
          clear ex_58
          refine lv_if_le (tgt := 106) hx hb dX4_placeIn_20 (by decide +kernel) (fun c_59 => ?_) (fun c_59 => ?_)
          · have dc_59 := c_le (a := x_58.toInt) (b := 0) rfl (by decide +kernel) c_59
            refine lv_iinc (v := 2) (lv' := [(3, .int 2), (4, .int r_50), (0, .ref o), (1, .int x1), (2, .ref a2)]) hx hb dX4_placeIn_106 hl (k := 1) rfl (by decide +kernel) (by decide +kernel) rfl (fun ls hl => ?_)
            refine lv_goto (tgt := 2) hx hb dX4_placeIn_109 (by decide +kernel) ?_
            have kc_60 : (2 : Int32).toInt = 2 := by decide
            exact ih (n - 1) (by omega) 2 S_3 _ _ ls (by omega) (by decide +kernel) hIS_3 (oX.st oX.rf XS_3 (by decide +kernel)) hP hD hS (lv_sub hl [0, 2, 3, 4] rfl)
          · have dc_59 := c_nle (a := x_58.toInt) (b := 0) rfl (by decide +kernel) c_59
            refine lv_iload hx hb dX4_placeIn_23 (lv_at hl 0 rfl) ?_
            refine lv_aload_n hx hb dX4_placeIn_25 rfl (lv_at hl 2 rfl) ?_
            have t_61 : oty S_3 o 4 := (oX.ty XS_3 to)
            obtain ⟨q_62, hq_62⟩ := og (cq := cq) t_61.1 (oE_4 t_61.2)
            refine va_get (D := (dC, dI)) (ci := 4) (v := .int (oI S_3 o 4)) (C := RX4) (T := TX4) (N := 6) hx hb hts in_wsX4_placeIn_X4 hown hK hP q_62 hq_62 rfl 4 (by decide +kernel) (hts (.fieldLink RX4 34 "ShipOffice$Hiring" "goal" "I") iw_X4_placeIn_2) (fun _ h9 => h9) rfl dX4_placeIn_26 ?_
            refine lv_topi (fun x_63 ex_63 => ?_)
            have hx_63 : 0 ≤ x_63.toInt ∧ x_63.toInt ≤ 80 := iv_of ex_63 (oInv.iv hIS_3 t_61.2 rfl rfl)
            have gx_63 : x_63.toInt = (oI S_3 o 4).toInt := iv_to ex_63
            clear ex_63
            refine lv_iload_n hx hb dX4_placeIn_29 rfl (lv_at hl 1 rfl) ?_
            have hFc : ∀ q, va_A [] H.size q → A q := pu_free hS hA
            refine va_calli (va_runS (As := [.int x_63, .int 1]) (rest := [.int r_50]) ⟨hx, hb, hml, hown, hts⟩ (c_X4_handsOf l dC dI H.size tL tS tG cq S_3 hIS_3 x_63 (by omega) 1 (by decide +kernel)) (va_cwS 2 hts gX4_placeIn_X4_handsOf rfl rfl rfl (by decide +kernel) ⟨(Nat.le_of_ble_eq_true rfl), (Nat.le_of_ble_eq_true rfl)⟩) (pr_SO hP hK hD (hZ.go hS hFc)) rfl rfl hl.1 rfl (lv_room (Nat.le_of_ble_eq_true rfl)) dX4_placeIn_30 ⟨(Nat.le_of_ble_eq_true rfl), (Nat.le_of_ble_eq_true rfl)⟩) hS (fun q _ h => hFc q h) hFc (fun r_65 u t H locs ht hvm w_64 hB hz1 hk1 hS => ?_)
            have hP := pu_keep hP hk1
            clear hk1 hz1 hvm hB ht hFc
            obtain ⟨hb_66, hx_67⟩ := w_64
            have ho_68 : r_65.toInt = x_63.toInt / 3 % 3 := by have h0 : (1 : Int32).toInt = 1 := (by decide +kernel); rw [hx_67, h0]; simp
            refine lv_icmp_ge (tgt := 106) hx hb dX4_placeIn_33 (by decide +kernel) (fun c_69 => ?_) (fun c_69 => ?_)
            · have dc_69 := c_le (a := r_65.toInt) (b := r_50.toInt) rfl rfl c_69
              refine lv_iinc (v := 2) (lv' := [(3, .int 2), (4, .int r_50), (0, .ref o), (1, .int x1), (2, .ref a2)]) hx hb dX4_placeIn_106 hl (k := 1) rfl (by decide +kernel) (by decide +kernel) rfl (fun ls hl => ?_)
              refine lv_goto (tgt := 2) hx hb dX4_placeIn_109 (by decide +kernel) ?_
              have kc_70 : (2 : Int32).toInt = 2 := by decide
              exact ih (n - 1) (by omega) 2 S_3 _ _ ls (by omega) (by decide +kernel) hIS_3 (oX.st oX.rf XS_3 (by decide +kernel)) hP hD hS (lv_sub hl [0, 2, 3, 4] rfl)
            · have dc_69 := c_nle (a := r_65.toInt) (b := r_50.toInt) rfl rfl c_69
              refine lv_aload_n hx hb dX4_placeIn_36 rfl (lv_at hl 2 rfl) ?_
              refine va_get (D := (dC, dI)) (ci := 4) (v := .int (oI S_3 o 2)) (C := RX4) (T := TX4) (N := 6) hx hb hts in_wsX4_placeIn_X4 hown hK hP q_62 hq_62 rfl 2 (by decide +kernel) (hts (.fieldLink RX4 30 "ShipOffice$Hiring" "offerCount" "I") iw_X4_placeIn_3) (fun _ h9 => h9) rfl dX4_placeIn_37 ?_
              refine lv_topi (fun x_71 ex_71 => ?_)
              have hx_71 : 0 ≤ x_71.toInt ∧ x_71.toInt ≤ 12 := iv_of ex_71 (oInv.iv hIS_3 t_61.2 rfl rfl)
              have gx_71 : x_71.toInt = (oI S_3 o 2).toInt := iv_to ex_71
              clear ex_71
              refine lv_i2l (v := (x_71 : Int32).toInt64) hx hb dX4_placeIn_40 rfl ?_
              refine lv_aload_n hx hb dX4_placeIn_41 rfl (lv_at hl 2 rfl) ?_
              obtain ⟨b_72, hb_72⟩ := oInv.nn (i := 3) hIS_3 t_61 rfl
              refine va_get (D := (dC, dI)) (ci := 4) (v := .ref b_72) (C := RX4) (T := TX4) (N := 6) hx hb hts in_wsX4_placeIn_X4 hown hK hP q_62 hq_62 rfl 3 (by decide +kernel) (hts (.fieldLink RX4 19 "ShipOffice$Hiring" "firstPlace" "[I") iw_X4_placeIn_4) (fun _ h9 => h9) (o_rd hb_72) dX4_placeIn_42 ?_
              have tb_72 : oty S_3 b_72 61 := oInv.rd hIS_3 t_61.2 hb_72 rfl rfl
              refine lv_iload_n hx hb dX4_placeIn_45 rfl (lv_at hl 1 rfl) ?_
              obtain ⟨q_73, hq_73⟩ := og (cq := cq) tb_72.1 (oE_61 tb_72.2)
              refine va_iald hx hb hK hP q_73 0 hq_73 rfl (by unfold vp_in; decide) dX4_placeIn_46 ?_
              refine lv_topi (fun x_74 ex_74 => ?_)
              clear ex_74
              refine lv_iload hx hb dX4_placeIn_47 (lv_at hl 0 rfl) ?_
              refine lv_iadd hx hb dX4_placeIn_49 ?_
              refine lv_topi (fun x_75 ex_75 => ?_)
              clear ex_75
              have hFc : ∀ q, va_A [] H.size q → A q := pu_free hS hA
              have hPc := hP.sub (ws' := []) [] rfl
              have hDc := hD.sub (ws' := []) [] (by decide +kernel) rfl
              have hKc := hK.sub (tys' := []) [] rfl
              refine va_calli (va_runS (As := [.int x_75]) (rest := [.long ((x_71 : Int32).toInt64)]) ⟨hx, hb, hml, hown, hts⟩ (c_X4_handShift l dC dI H.size  x_75) (va_cwS 1 hts gX4_placeIn_X4_handShift rfl rfl rfl (by decide +kernel) ⟨(Nat.le_of_ble_eq_true rfl), (Nat.le_of_ble_eq_true rfl)⟩) (pr_S hPc hKc hDc) rfl rfl hl.1 rfl (lv_room (Nat.le_of_ble_eq_true rfl)) dX4_placeIn_50 ⟨(Nat.le_of_ble_eq_true rfl), (Nat.le_of_ble_eq_true rfl)⟩) hS (fun q _ h => hFc q h) hFc (fun r_77 u t H locs ht hvm w_76 hB hz1 hk1 hS => ?_)
              have hP := pu_keep hP hk1
              clear hk1 hz1 hvm hB ht hFc hPc hDc hKc
              refine lv_lshl (v := ((x_71 : Int32).toInt64) <<< ((r_77 : Int32).toInt64 &&& 63)) hx hb dX4_placeIn_53 rfl ?_
              refine lv_lstore (lv' := [(5, .long (((x_71 : Int32).toInt64) <<< ((r_77 : Int32).toInt64 &&& 63))), (4, .int r_50), (3, .int 1), (0, .ref o), (1, .int x1), (2, .ref a2)]) hx hb dX4_placeIn_54 hl (by decide +kernel) rfl (fun ls hl => ?_)
              refine lv_aload_n hx hb dX4_placeIn_56 rfl (lv_at hl 3 rfl) ?_
              obtain ⟨b_78, hb_78⟩ := oInv.nn (i := 0) hIS_3 t_61 rfl
              refine va_get (D := (dC, dI)) (ci := 4) (v := .ref b_78) (C := RX4) (T := TX4) (N := 6) hx hb hts in_wsX4_placeIn_X4 hown hK hP q_62 hq_62 rfl 0 (by decide +kernel) (hts (.fieldLink RX4 11 "ShipOffice$Hiring" "best" "[J") iw_X4_placeIn_5) (fun _ h9 => h9) (o_rd hb_78) dX4_placeIn_57 ?_
              have tb_78 : oty S_3 b_78 18 := oInv.rd hIS_3 t_61.2 hb_78 rfl rfl
              refine lv_iload_n hx hb dX4_placeIn_60 rfl (lv_at hl 4 rfl) ?_
              obtain ⟨q_79, hq_79⟩ := og (cq := cq) tb_78.1 (oE_18 tb_78.2)
              refine va_lald hx hb hK hP q_79 1 hq_79 rfl (vp_in_iff.mpr (by omega)) dX4_placeIn_61 ?_
              refine lv_topl (fun l_80 _ => ?_)
              refine lv_aload_n hx hb dX4_placeIn_62 rfl (lv_at hl 5 rfl) ?_
              refine va_get (D := (dC, dI)) (ci := 6) (v := .ref b_56) (C := RX6) (T := TX6) (N := 6) hx hb hts in_wsX4_placeIn_X6 hown hK hP q_55 hq_55 rfl 4 (by decide +kernel) (hts (.fieldLink RX4 56 "ShipOffice$Man" "wages" "[I") iw_X4_placeIn_1) (fun _ h9 => h9) (o_rd hb_56) dX4_placeIn_63 ?_
              refine lv_iload_n hx hb dX4_placeIn_66 rfl (lv_at hl 2 rfl) ?_
              refine va_iald hx hb hK hP q_57 0 hq_57 rfl (by unfold vp_in; decide) dX4_placeIn_67 ?_
              refine lv_topi (fun x_81 ex_81 => ?_)
              clear ex_81
              refine lv_i2l (v := (x_81 : Int32).toInt64) hx hb dX4_placeIn_68 rfl ?_
              refine lv_bipush (v := 32) hx hb dX4_placeIn_69 (by decide +kernel) ?_
              refine lv_lshl (v := ((x_81 : Int32).toInt64) <<< ((32 : Int32).toInt64 &&& 63)) hx hb dX4_placeIn_71 rfl ?_
              refine lv_ladd hx hb dX4_placeIn_72 ?_
              refine lv_lload hx hb dX4_placeIn_73 (lv_at hl 0 rfl) ?_
              refine lv_ladd hx hb dX4_placeIn_75 ?_
              refine lv_lstore (lv' := [(7, .long ((l_80 + (((x_81 : Int32).toInt64) <<< ((32 : Int32).toInt64 &&& 63))) + (((x_71 : Int32).toInt64) <<< ((r_77 : Int32).toInt64 &&& 63)))), (5, .long (((x_71 : Int32).toInt64) <<< ((r_77 : Int32).toInt64 &&& 63))), (4, .int r_50), (3, .int 1), (0, .ref o), (1, .int x1), (2, .ref a2)]) hx hb dX4_placeIn_76 hl (by decide +kernel) rfl (fun ls hl => ?_)
              refine lv_iload_n hx hb dX4_placeIn_78 rfl (lv_at hl 5 rfl) ?_
              refine va_gets hx hb hZ.1.2.2.1 hS hown (hts (.fieldLink RX4 44 "ShipOffice$Hiring" "STEP" "[I") iw_X4_placeIn_6) (fun _ h9 => h9) dX4_placeIn_79 ?_
              refine lv_iload_n hx hb dX4_placeIn_82 rfl (lv_at hl 3 rfl) ?_
              refine va_ti hx hb hZ.1.2.2.2.1 hS (by unfold vp_in; decide) (v := .int 3) rfl dX4_placeIn_83 ?_
              refine lv_iadd hx hb dX4_placeIn_84 ?_
              refine lv_topi (fun x_82 ex_82 => ?_)
              have hx_82 : x_82.toInt = x1.toInt + 3 := (iv_to ex_82).trans (ad_i rfl (by decide +kernel) (by omega) (by omega))
              clear ex_82
              refine lv_istore (lv' := [(9, .int x_82), (7, .long ((l_80 + (((x_81 : Int32).toInt64) <<< ((32 : Int32).toInt64 &&& 63))) + (((x_71 : Int32).toInt64) <<< ((r_77 : Int32).toInt64 &&& 63)))), (5, .long (((x_71 : Int32).toInt64) <<< ((r_77 : Int32).toInt64 &&& 63))), (4, .int r_50), (3, .int 1), (0, .ref o), (1, .int x1), (2, .ref a2)]) hx hb dX4_placeIn_85 hl (by decide +kernel) rfl (fun ls hl => ?_)
              refine lv_aload_n hx hb dX4_placeIn_87 rfl (lv_at hl 5 rfl) ?_
              refine va_get (D := (dC, dI)) (ci := 4) (v := .ref b_78) (C := RX4) (T := TX4) (N := 6) hx hb hts in_wsX4_placeIn_X4 hown hK hP q_62 hq_62 rfl 0 (by decide +kernel) (hts (.fieldLink RX4 11 "ShipOffice$Hiring" "best" "[J") iw_X4_placeIn_5) (fun _ h9 => h9) (o_rd hb_78) dX4_placeIn_88 ?_
              refine lv_iload hx hb dX4_placeIn_91 (lv_at hl 0 rfl) ?_
              refine lv_aload_n hx hb dX4_placeIn_93 rfl (lv_at hl 5 rfl) ?_
              refine va_get (D := (dC, dI)) (ci := 4) (v := .ref b_78) (C := RX4) (T := TX4) (N := 6) hx hb hts in_wsX4_placeIn_X4 hown hK hP q_62 hq_62 rfl 0 (by decide +kernel) (hts (.fieldLink RX4 11 "ShipOffice$Hiring" "best" "[J") iw_X4_placeIn_5) (fun _ h9 => h9) (o_rd hb_78) dX4_placeIn_94 ?_
              refine lv_iload hx hb dX4_placeIn_97 (lv_at hl 0 rfl) ?_
              refine va_lald hx hb hK hP q_79 1 hq_79 rfl (vp_in_iff.mpr (by omega)) dX4_placeIn_99 ?_
              refine lv_topl (fun l_83 _ => ?_)
              refine lv_lload hx hb dX4_placeIn_100 (lv_at hl 1 rfl) ?_
              refine va_mmin_long hx hb (by rw [hml]; exact hl.1.symm) hown (hts (.methodLink RX4 63 Lib.MathLoose.min_long.x) iw_X4_placeIn_7) (hts (.static Lib.MathLoose.min_long.x) iw_X4_placeIn_8) (hts (.initialized "java/lang/Math") iw_X4_placeIn_9) (hts (.code Lib.MathLoose.min_long.x Lib.MathLoose.min_long.code 4 (some .long)) (by decide +kernel)) (Nat.le_of_ble_eq_true rfl) (Nat.le_of_ble_eq_true rfl) (Nat.le_of_ble_eq_true rfl) (Nat.le_of_ble_eq_true rfl) dX4_placeIn_102 ?_
              refine lv_topl (fun l_84 _ => ?_)
              refine va_last hx hb hK hP hD hS q_79 1 hq_79 rfl (vp_in_iff.mpr (by omega)) dX4_placeIn_105 (fun H locs hP1 hD1 hS => ?_)
              obtain ⟨S_85, eS_85⟩ : ∃ zq, zq = setJ S_3 b_78 (x_82 : Int32).toNatClampNeg l_84 := ⟨_, rfl⟩
              have hP : va_P (dC, dI) vwCl (oW cq S_85) H := by rw [eS_85]; exact cP (oset tb_78.1 hq_79 hD rfl (he_18 tb_78.2) neJ) hP1
              have hD : va_D A (oW cq S_85) := by rw [eS_85]; exact cD (oset tb_78.1 hq_79 hD rfl (he_18 tb_78.2) neJ) hD1
              clear hP1 hD1
              have hIS_85 : oInv S_85 := by rw [eS_85]; exact oInv.J hIS_3
              have XS_85 : oX [2018] S_3 S_85 := by rw [eS_85]; exact oX.J (k := 18) (key := 2018) tb_78.2 (fun _ => rfl) (List.mem_singleton.mpr rfl)
              have X_86 : oX [2018] Z S_85 := oX.st YS_3 XS_85 (by decide +kernel)
              have g_87 : (oI S_85 o 2).toInt = (oI S_3 o 2).toInt := by rw [eS_85]; rfl
              have g_88 : (oI S_85 o 4).toInt = (oI S_3 o 4).toInt := by rw [eS_85]; rfl
              refine lv_iinc (v := 2) (lv' := [(3, .int 2), (9, .int x_82), (7, .long ((l_80 + (((x_81 : Int32).toInt64) <<< ((32 : Int32).toInt64 &&& 63))) + (((x_71 : Int32).toInt64) <<< ((r_77 : Int32).toInt64 &&& 63)))), (5, .long (((x_71 : Int32).toInt64) <<< ((r_77 : Int32).toInt64 &&& 63))), (4, .int r_50), (0, .ref o), (1, .int x1), (2, .ref a2)]) hx hb dX4_placeIn_106 hl (k := 4) rfl (by decide +kernel) (by decide +kernel) rfl (fun ls hl => ?_)
              refine lv_goto (tgt := 2) hx hb dX4_placeIn_109 (by decide +kernel) ?_
              have kc_89 : (2 : Int32).toInt = 2 := by decide
              exact ih (n - 1) (by omega) 2 S_85 _ _ ls (by omega) (by decide +kernel) hIS_85 (oX.st (oX.st oX.rf XS_3 (by decide +kernel)) XS_85 (by decide +kernel)) hP hD hS (lv_sub hl [0, 5, 6, 7] rfl)
        · subst st_5
          have kc_90 : (2 : Int32).toInt = 2 := by decide
          refine lv_iload_n hx hb dX4_placeIn_7 rfl (lv_at hl 2 rfl) ?_
          refine lv_iload_n hx hb dX4_placeIn_8 rfl (lv_at hl 0 rfl) ?_
          have hFc : ∀ q, va_A [] H.size q → A q := pu_free hS hA
          refine va_calli (va_runS (As := [.int x1, .int 2]) (rest := []) ⟨hx, hb, hml, hown, hts⟩ (c_X4_handsOf l dC dI H.size tL tS tG cq S_3 hIS_3 x1 (by omega) 2 (by decide +kernel)) (va_cwS 2 hts gX4_placeIn_X4_handsOf rfl rfl rfl (by decide +kernel) ⟨(Nat.le_of_ble_eq_true rfl), (Nat.le_of_ble_eq_true rfl)⟩) (pr_SO hP hK hD (hZ.go hS hFc)) rfl rfl hl.1 rfl (lv_room (Nat.le_of_ble_eq_true rfl)) dX4_placeIn_9 ⟨(Nat.le_of_ble_eq_true rfl), (Nat.le_of_ble_eq_true rfl)⟩) hS (fun q _ h => hFc q h) hFc (fun r_92 u t H locs ht hvm w_91 hB hz1 hk1 hS => ?_)
          have hP := pu_keep hP hk1
          clear hk1 hz1 hvm hB ht hFc
          obtain ⟨hb_93, hx_94⟩ := w_91
          have ho_95 : r_92.toInt = x1.toInt / 9 % 3 := by have h0 : (2 : Int32).toInt = 2 := (by decide +kernel); rw [hx_94, h0]; simp
          refine lv_istore (lv' := [(4, .int r_92), (3, .int 2), (0, .ref o), (1, .int x1), (2, .ref a2)]) hx hb dX4_placeIn_12 hl (by decide +kernel) rfl (fun ls hl => ?_)
          refine lv_aload_n hx hb dX4_placeIn_14 rfl (lv_at hl 4 rfl) ?_
          have t_96 : oty S_3 a2 6 := (oX.ty XS_3 ta2)
          obtain ⟨q_97, hq_97⟩ := og (cq := cq) t_96.1 (oE_6 t_96.2)
          obtain ⟨b_98, hb_98⟩ := oInv.nn (i := 4) hIS_3 t_96 rfl
          refine va_get (D := (dC, dI)) (ci := 6) (v := .ref b_98) (C := RX6) (T := TX6) (N := 6) hx hb hts in_wsX4_placeIn_X6 hown hK hP q_97 hq_97 rfl 4 (by decide +kernel) (hts (.fieldLink RX4 56 "ShipOffice$Man" "wages" "[I") iw_X4_placeIn_1) (fun _ h9 => h9) (o_rd hb_98) dX4_placeIn_15 ?_
          have tb_98 : oty S_3 b_98 104 := oInv.rd hIS_3 t_96.2 hb_98 rfl rfl
          refine lv_iload_n hx hb dX4_placeIn_18 rfl (lv_at hl 1 rfl) ?_
          obtain ⟨q_99, hq_99⟩ := og (cq := cq) tb_98.1 (oE_a1 (n := 4) tb_98.2 (by decide +kernel))
          refine va_iald hx hb hK hP q_99 0 hq_99 rfl (by unfold vp_in; decide) dX4_placeIn_19 ?_
          refine lv_topi (fun x_100 ex_100 => ?_)
          clear ex_100
          refine lv_if_le (tgt := 106) hx hb dX4_placeIn_20 (by decide +kernel) (fun c_101 => ?_) (fun c_101 => ?_)
          · have dc_101 := c_le (a := x_100.toInt) (b := 0) rfl (by decide +kernel) c_101
            refine lv_iinc (v := 3) (lv' := [(3, .int 3), (4, .int r_92), (0, .ref o), (1, .int x1), (2, .ref a2)]) hx hb dX4_placeIn_106 hl (k := 1) rfl (by decide +kernel) (by decide +kernel) rfl (fun ls hl => ?_)
            refine lv_goto (tgt := 2) hx hb dX4_placeIn_109 (by decide +kernel) ?_
            have kc_102 : (3 : Int32).toInt = 3 := by decide
            exact ih (n - 1) (by omega) 3 S_3 _ _ ls (by omega) (by decide +kernel) hIS_3 (oX.st oX.rf XS_3 (by decide +kernel)) hP hD hS (lv_sub hl [0, 2, 3, 4] rfl)
          · have dc_101 := c_nle (a := x_100.toInt) (b := 0) rfl (by decide +kernel) c_101
            refine lv_iload hx hb dX4_placeIn_23 (lv_at hl 0 rfl) ?_
            refine lv_aload_n hx hb dX4_placeIn_25 rfl (lv_at hl 2 rfl) ?_
            have t_103 : oty S_3 o 4 := (oX.ty XS_3 to)
            obtain ⟨q_104, hq_104⟩ := og (cq := cq) t_103.1 (oE_4 t_103.2)
            refine va_get (D := (dC, dI)) (ci := 4) (v := .int (oI S_3 o 4)) (C := RX4) (T := TX4) (N := 6) hx hb hts in_wsX4_placeIn_X4 hown hK hP q_104 hq_104 rfl 4 (by decide +kernel) (hts (.fieldLink RX4 34 "ShipOffice$Hiring" "goal" "I") iw_X4_placeIn_2) (fun _ h9 => h9) rfl dX4_placeIn_26 ?_
            refine lv_topi (fun x_105 ex_105 => ?_)
            have hx_105 : 0 ≤ x_105.toInt ∧ x_105.toInt ≤ 80 := iv_of ex_105 (oInv.iv hIS_3 t_103.2 rfl rfl)
            have gx_105 : x_105.toInt = (oI S_3 o 4).toInt := iv_to ex_105
            clear ex_105
            refine lv_iload_n hx hb dX4_placeIn_29 rfl (lv_at hl 1 rfl) ?_
            have hFc : ∀ q, va_A [] H.size q → A q := pu_free hS hA
            refine va_calli (va_runS (As := [.int x_105, .int 2]) (rest := [.int r_92]) ⟨hx, hb, hml, hown, hts⟩ (c_X4_handsOf l dC dI H.size tL tS tG cq S_3 hIS_3 x_105 (by omega) 2 (by decide +kernel)) (va_cwS 2 hts gX4_placeIn_X4_handsOf rfl rfl rfl (by decide +kernel) ⟨(Nat.le_of_ble_eq_true rfl), (Nat.le_of_ble_eq_true rfl)⟩) (pr_SO hP hK hD (hZ.go hS hFc)) rfl rfl hl.1 rfl (lv_room (Nat.le_of_ble_eq_true rfl)) dX4_placeIn_30 ⟨(Nat.le_of_ble_eq_true rfl), (Nat.le_of_ble_eq_true rfl)⟩) hS (fun q _ h => hFc q h) hFc (fun r_107 u t H locs ht hvm w_106 hB hz1 hk1 hS => ?_)
            have hP := pu_keep hP hk1
            clear hk1 hz1 hvm hB ht hFc
            obtain ⟨hb_108, hx_109⟩ := w_106
            have ho_110 : r_107.toInt = x_105.toInt / 9 % 3 := by have h0 : (2 : Int32).toInt = 2 := (by decide +kernel); rw [hx_109, h0]; simp
            refine lv_icmp_ge (tgt := 106) hx hb dX4_placeIn_33 (by decide +kernel) (fun c_111 => ?_) (fun c_111 => ?_)
            · have dc_111 := c_le (a := r_107.toInt) (b := r_92.toInt) rfl rfl c_111
              refine lv_iinc (v := 3) (lv' := [(3, .int 3), (4, .int r_92), (0, .ref o), (1, .int x1), (2, .ref a2)]) hx hb dX4_placeIn_106 hl (k := 1) rfl (by decide +kernel) (by decide +kernel) rfl (fun ls hl => ?_)
              refine lv_goto (tgt := 2) hx hb dX4_placeIn_109 (by decide +kernel) ?_
              have kc_112 : (3 : Int32).toInt = 3 := by decide
              exact ih (n - 1) (by omega) 3 S_3 _ _ ls (by omega) (by decide +kernel) hIS_3 (oX.st oX.rf XS_3 (by decide +kernel)) hP hD hS (lv_sub hl [0, 2, 3, 4] rfl)
            · have dc_111 := c_nle (a := r_107.toInt) (b := r_92.toInt) rfl rfl c_111
              refine lv_aload_n hx hb dX4_placeIn_36 rfl (lv_at hl 2 rfl) ?_
              refine va_get (D := (dC, dI)) (ci := 4) (v := .int (oI S_3 o 2)) (C := RX4) (T := TX4) (N := 6) hx hb hts in_wsX4_placeIn_X4 hown hK hP q_104 hq_104 rfl 2 (by decide +kernel) (hts (.fieldLink RX4 30 "ShipOffice$Hiring" "offerCount" "I") iw_X4_placeIn_3) (fun _ h9 => h9) rfl dX4_placeIn_37 ?_
              refine lv_topi (fun x_113 ex_113 => ?_)
              have hx_113 : 0 ≤ x_113.toInt ∧ x_113.toInt ≤ 12 := iv_of ex_113 (oInv.iv hIS_3 t_103.2 rfl rfl)
              have gx_113 : x_113.toInt = (oI S_3 o 2).toInt := iv_to ex_113
              clear ex_113
              refine lv_i2l (v := (x_113 : Int32).toInt64) hx hb dX4_placeIn_40 rfl ?_
              refine lv_aload_n hx hb dX4_placeIn_41 rfl (lv_at hl 2 rfl) ?_
              obtain ⟨b_114, hb_114⟩ := oInv.nn (i := 3) hIS_3 t_103 rfl
              refine va_get (D := (dC, dI)) (ci := 4) (v := .ref b_114) (C := RX4) (T := TX4) (N := 6) hx hb hts in_wsX4_placeIn_X4 hown hK hP q_104 hq_104 rfl 3 (by decide +kernel) (hts (.fieldLink RX4 19 "ShipOffice$Hiring" "firstPlace" "[I") iw_X4_placeIn_4) (fun _ h9 => h9) (o_rd hb_114) dX4_placeIn_42 ?_
              have tb_114 : oty S_3 b_114 61 := oInv.rd hIS_3 t_103.2 hb_114 rfl rfl
              refine lv_iload_n hx hb dX4_placeIn_45 rfl (lv_at hl 1 rfl) ?_
              obtain ⟨q_115, hq_115⟩ := og (cq := cq) tb_114.1 (oE_61 tb_114.2)
              refine va_iald hx hb hK hP q_115 0 hq_115 rfl (by unfold vp_in; decide) dX4_placeIn_46 ?_
              refine lv_topi (fun x_116 ex_116 => ?_)
              clear ex_116
              refine lv_iload hx hb dX4_placeIn_47 (lv_at hl 0 rfl) ?_
              refine lv_iadd hx hb dX4_placeIn_49 ?_
              refine lv_topi (fun x_117 ex_117 => ?_)
              clear ex_117
              have hFc : ∀ q, va_A [] H.size q → A q := pu_free hS hA
              have hPc := hP.sub (ws' := []) [] rfl
              have hDc := hD.sub (ws' := []) [] (by decide +kernel) rfl
              have hKc := hK.sub (tys' := []) [] rfl
              refine va_calli (va_runS (As := [.int x_117]) (rest := [.long ((x_113 : Int32).toInt64)]) ⟨hx, hb, hml, hown, hts⟩ (c_X4_handShift l dC dI H.size  x_117) (va_cwS 1 hts gX4_placeIn_X4_handShift rfl rfl rfl (by decide +kernel) ⟨(Nat.le_of_ble_eq_true rfl), (Nat.le_of_ble_eq_true rfl)⟩) (pr_S hPc hKc hDc) rfl rfl hl.1 rfl (lv_room (Nat.le_of_ble_eq_true rfl)) dX4_placeIn_50 ⟨(Nat.le_of_ble_eq_true rfl), (Nat.le_of_ble_eq_true rfl)⟩) hS (fun q _ h => hFc q h) hFc (fun r_119 u t H locs ht hvm w_118 hB hz1 hk1 hS => ?_)
              have hP := pu_keep hP hk1
              clear hk1 hz1 hvm hB ht hFc hPc hDc hKc
              refine lv_lshl (v := ((x_113 : Int32).toInt64) <<< ((r_119 : Int32).toInt64 &&& 63)) hx hb dX4_placeIn_53 rfl ?_
              refine lv_lstore (lv' := [(5, .long (((x_113 : Int32).toInt64) <<< ((r_119 : Int32).toInt64 &&& 63))), (4, .int r_92), (3, .int 2), (0, .ref o), (1, .int x1), (2, .ref a2)]) hx hb dX4_placeIn_54 hl (by decide +kernel) rfl (fun ls hl => ?_)
              refine lv_aload_n hx hb dX4_placeIn_56 rfl (lv_at hl 3 rfl) ?_
              obtain ⟨b_120, hb_120⟩ := oInv.nn (i := 0) hIS_3 t_103 rfl
              refine va_get (D := (dC, dI)) (ci := 4) (v := .ref b_120) (C := RX4) (T := TX4) (N := 6) hx hb hts in_wsX4_placeIn_X4 hown hK hP q_104 hq_104 rfl 0 (by decide +kernel) (hts (.fieldLink RX4 11 "ShipOffice$Hiring" "best" "[J") iw_X4_placeIn_5) (fun _ h9 => h9) (o_rd hb_120) dX4_placeIn_57 ?_
              have tb_120 : oty S_3 b_120 18 := oInv.rd hIS_3 t_103.2 hb_120 rfl rfl
              refine lv_iload_n hx hb dX4_placeIn_60 rfl (lv_at hl 4 rfl) ?_
              obtain ⟨q_121, hq_121⟩ := og (cq := cq) tb_120.1 (oE_18 tb_120.2)
              refine va_lald hx hb hK hP q_121 1 hq_121 rfl (vp_in_iff.mpr (by omega)) dX4_placeIn_61 ?_
              refine lv_topl (fun l_122 _ => ?_)
              refine lv_aload_n hx hb dX4_placeIn_62 rfl (lv_at hl 5 rfl) ?_
              refine va_get (D := (dC, dI)) (ci := 6) (v := .ref b_98) (C := RX6) (T := TX6) (N := 6) hx hb hts in_wsX4_placeIn_X6 hown hK hP q_97 hq_97 rfl 4 (by decide +kernel) (hts (.fieldLink RX4 56 "ShipOffice$Man" "wages" "[I") iw_X4_placeIn_1) (fun _ h9 => h9) (o_rd hb_98) dX4_placeIn_63 ?_
              refine lv_iload_n hx hb dX4_placeIn_66 rfl (lv_at hl 2 rfl) ?_
              refine va_iald hx hb hK hP q_99 0 hq_99 rfl (by unfold vp_in; decide) dX4_placeIn_67 ?_
              refine lv_topi (fun x_123 ex_123 => ?_)
              clear ex_123
              refine lv_i2l (v := (x_123 : Int32).toInt64) hx hb dX4_placeIn_68 rfl ?_
              refine lv_bipush (v := 32) hx hb dX4_placeIn_69 (by decide +kernel) ?_
              refine lv_lshl (v := ((x_123 : Int32).toInt64) <<< ((32 : Int32).toInt64 &&& 63)) hx hb dX4_placeIn_71 rfl ?_
              refine lv_ladd hx hb dX4_placeIn_72 ?_
              refine lv_lload hx hb dX4_placeIn_73 (lv_at hl 0 rfl) ?_
              refine lv_ladd hx hb dX4_placeIn_75 ?_
              refine lv_lstore (lv' := [(7, .long ((l_122 + (((x_123 : Int32).toInt64) <<< ((32 : Int32).toInt64 &&& 63))) + (((x_113 : Int32).toInt64) <<< ((r_119 : Int32).toInt64 &&& 63)))), (5, .long (((x_113 : Int32).toInt64) <<< ((r_119 : Int32).toInt64 &&& 63))), (4, .int r_92), (3, .int 2), (0, .ref o), (1, .int x1), (2, .ref a2)]) hx hb dX4_placeIn_76 hl (by decide +kernel) rfl (fun ls hl => ?_)
              refine lv_iload_n hx hb dX4_placeIn_78 rfl (lv_at hl 5 rfl) ?_
              refine va_gets hx hb hZ.1.2.2.1 hS hown (hts (.fieldLink RX4 44 "ShipOffice$Hiring" "STEP" "[I") iw_X4_placeIn_6) (fun _ h9 => h9) dX4_placeIn_79 ?_
              refine lv_iload_n hx hb dX4_placeIn_82 rfl (lv_at hl 3 rfl) ?_
              refine va_ti hx hb hZ.1.2.2.2.1 hS (by unfold vp_in; decide) (v := .int 9) rfl dX4_placeIn_83 ?_
              refine lv_iadd hx hb dX4_placeIn_84 ?_
              refine lv_topi (fun x_124 ex_124 => ?_)
              have hx_124 : x_124.toInt = x1.toInt + 9 := (iv_to ex_124).trans (ad_i rfl (by decide +kernel) (by omega) (by omega))
              clear ex_124
              refine lv_istore (lv' := [(9, .int x_124), (7, .long ((l_122 + (((x_123 : Int32).toInt64) <<< ((32 : Int32).toInt64 &&& 63))) + (((x_113 : Int32).toInt64) <<< ((r_119 : Int32).toInt64 &&& 63)))), (5, .long (((x_113 : Int32).toInt64) <<< ((r_119 : Int32).toInt64 &&& 63))), (4, .int r_92), (3, .int 2), (0, .ref o), (1, .int x1), (2, .ref a2)]) hx hb dX4_placeIn_85 hl (by decide +kernel) rfl (fun ls hl => ?_)
              refine lv_aload_n hx hb dX4_placeIn_87 rfl (lv_at hl 5 rfl) ?_
              refine va_get (D := (dC, dI)) (ci := 4) (v := .ref b_120) (C := RX4) (T := TX4) (N := 6) hx hb hts in_wsX4_placeIn_X4 hown hK hP q_104 hq_104 rfl 0 (by decide +kernel) (hts (.fieldLink RX4 11 "ShipOffice$Hiring" "best" "[J") iw_X4_placeIn_5) (fun _ h9 => h9) (o_rd hb_120) dX4_placeIn_88 ?_
              refine lv_iload hx hb dX4_placeIn_91 (lv_at hl 0 rfl) ?_
              refine lv_aload_n hx hb dX4_placeIn_93 rfl (lv_at hl 5 rfl) ?_
              refine va_get (D := (dC, dI)) (ci := 4) (v := .ref b_120) (C := RX4) (T := TX4) (N := 6) hx hb hts in_wsX4_placeIn_X4 hown hK hP q_104 hq_104 rfl 0 (by decide +kernel) (hts (.fieldLink RX4 11 "ShipOffice$Hiring" "best" "[J") iw_X4_placeIn_5) (fun _ h9 => h9) (o_rd hb_120) dX4_placeIn_94 ?_
              refine lv_iload hx hb dX4_placeIn_97 (lv_at hl 0 rfl) ?_
              refine va_lald hx hb hK hP q_121 1 hq_121 rfl (vp_in_iff.mpr (by omega)) dX4_placeIn_99 ?_
              refine lv_topl (fun l_125 _ => ?_)
              refine lv_lload hx hb dX4_placeIn_100 (lv_at hl 1 rfl) ?_
              refine va_mmin_long hx hb (by rw [hml]; exact hl.1.symm) hown (hts (.methodLink RX4 63 Lib.MathLoose.min_long.x) iw_X4_placeIn_7) (hts (.static Lib.MathLoose.min_long.x) iw_X4_placeIn_8) (hts (.initialized "java/lang/Math") iw_X4_placeIn_9) (hts (.code Lib.MathLoose.min_long.x Lib.MathLoose.min_long.code 4 (some .long)) (by decide +kernel)) (Nat.le_of_ble_eq_true rfl) (Nat.le_of_ble_eq_true rfl) (Nat.le_of_ble_eq_true rfl) (Nat.le_of_ble_eq_true rfl) dX4_placeIn_102 ?_
              refine lv_topl (fun l_126 _ => ?_)
              refine va_last hx hb hK hP hD hS q_121 1 hq_121 rfl (vp_in_iff.mpr (by omega)) dX4_placeIn_105 (fun H locs hP1 hD1 hS => ?_)
              obtain ⟨S_127, eS_127⟩ : ∃ zq, zq = setJ S_3 b_120 (x_124 : Int32).toNatClampNeg l_126 := ⟨_, rfl⟩
              have hP : va_P (dC, dI) vwCl (oW cq S_127) H := by rw [eS_127]; exact cP (oset tb_120.1 hq_121 hD rfl (he_18 tb_120.2) neJ) hP1
              have hD : va_D A (oW cq S_127) := by rw [eS_127]; exact cD (oset tb_120.1 hq_121 hD rfl (he_18 tb_120.2) neJ) hD1
              clear hP1 hD1
              have hIS_127 : oInv S_127 := by rw [eS_127]; exact oInv.J hIS_3
              have XS_127 : oX [2018] S_3 S_127 := by rw [eS_127]; exact oX.J (k := 18) (key := 2018) tb_120.2 (fun _ => rfl) (List.mem_singleton.mpr rfl)
              have X_128 : oX [2018] Z S_127 := oX.st YS_3 XS_127 (by decide +kernel)
              have g_129 : (oI S_127 o 2).toInt = (oI S_3 o 2).toInt := by rw [eS_127]; rfl
              have g_130 : (oI S_127 o 4).toInt = (oI S_3 o 4).toInt := by rw [eS_127]; rfl
              refine lv_iinc (v := 3) (lv' := [(3, .int 3), (9, .int x_124), (7, .long ((l_122 + (((x_123 : Int32).toInt64) <<< ((32 : Int32).toInt64 &&& 63))) + (((x_113 : Int32).toInt64) <<< ((r_119 : Int32).toInt64 &&& 63)))), (5, .long (((x_113 : Int32).toInt64) <<< ((r_119 : Int32).toInt64 &&& 63))), (4, .int r_92), (0, .ref o), (1, .int x1), (2, .ref a2)]) hx hb dX4_placeIn_106 hl (k := 4) rfl (by decide +kernel) (by decide +kernel) rfl (fun ls hl => ?_)
              refine lv_goto (tgt := 2) hx hb dX4_placeIn_109 (by decide +kernel) ?_
              have kc_131 : (3 : Int32).toInt = 3 := by decide
              exact ih (n - 1) (by omega) 3 S_127 _ _ ls (by omega) (by decide +kernel) hIS_127 (oX.st (oX.st oX.rf XS_3 (by decide +kernel)) XS_127 (by decide +kernel)) hP hD hS (lv_sub hl [0, 5, 6, 7] rfl)
        · subst st_5
          have kc_132 : (3 : Int32).toInt = 3 := by decide
          refine lv_iload_n hx hb dX4_placeIn_7 rfl (lv_at hl 2 rfl) ?_
          refine lv_iload_n hx hb dX4_placeIn_8 rfl (lv_at hl 0 rfl) ?_
          have hFc : ∀ q, va_A [] H.size q → A q := pu_free hS hA
          refine va_calli (va_runS (As := [.int x1, .int 3]) (rest := []) ⟨hx, hb, hml, hown, hts⟩ (c_X4_handsOf l dC dI H.size tL tS tG cq S_3 hIS_3 x1 (by omega) 3 (by decide +kernel)) (va_cwS 2 hts gX4_placeIn_X4_handsOf rfl rfl rfl (by decide +kernel) ⟨(Nat.le_of_ble_eq_true rfl), (Nat.le_of_ble_eq_true rfl)⟩) (pr_SO hP hK hD (hZ.go hS hFc)) rfl rfl hl.1 rfl (lv_room (Nat.le_of_ble_eq_true rfl)) dX4_placeIn_9 ⟨(Nat.le_of_ble_eq_true rfl), (Nat.le_of_ble_eq_true rfl)⟩) hS (fun q _ h => hFc q h) hFc (fun r_134 u t H locs ht hvm w_133 hB hz1 hk1 hS => ?_)
          have hP := pu_keep hP hk1
          clear hk1 hz1 hvm hB ht hFc
          obtain ⟨hb_135, hx_136⟩ := w_133
          have ho_137 : r_134.toInt = x1.toInt / 27 % 3 := by have h0 : (3 : Int32).toInt = 3 := (by decide +kernel); rw [hx_136, h0]; simp
          refine lv_istore (lv' := [(4, .int r_134), (3, .int 3), (0, .ref o), (1, .int x1), (2, .ref a2)]) hx hb dX4_placeIn_12 hl (by decide +kernel) rfl (fun ls hl => ?_)
          refine lv_aload_n hx hb dX4_placeIn_14 rfl (lv_at hl 4 rfl) ?_
          have t_138 : oty S_3 a2 6 := (oX.ty XS_3 ta2)
          obtain ⟨q_139, hq_139⟩ := og (cq := cq) t_138.1 (oE_6 t_138.2)
          obtain ⟨b_140, hb_140⟩ := oInv.nn (i := 4) hIS_3 t_138 rfl
          refine va_get (D := (dC, dI)) (ci := 6) (v := .ref b_140) (C := RX6) (T := TX6) (N := 6) hx hb hts in_wsX4_placeIn_X6 hown hK hP q_139 hq_139 rfl 4 (by decide +kernel) (hts (.fieldLink RX4 56 "ShipOffice$Man" "wages" "[I") iw_X4_placeIn_1) (fun _ h9 => h9) (o_rd hb_140) dX4_placeIn_15 ?_
          have tb_140 : oty S_3 b_140 104 := oInv.rd hIS_3 t_138.2 hb_140 rfl rfl
          refine lv_iload_n hx hb dX4_placeIn_18 rfl (lv_at hl 1 rfl) ?_
          obtain ⟨q_141, hq_141⟩ := og (cq := cq) tb_140.1 (oE_a1 (n := 4) tb_140.2 (by decide +kernel))
          refine va_iald hx hb hK hP q_141 0 hq_141 rfl (by unfold vp_in; decide) dX4_placeIn_19 ?_
          refine lv_topi (fun x_142 ex_142 => ?_)
          clear ex_142
          refine lv_if_le (tgt := 106) hx hb dX4_placeIn_20 (by decide +kernel) (fun c_143 => ?_) (fun c_143 => ?_)
          · have dc_143 := c_le (a := x_142.toInt) (b := 0) rfl (by decide +kernel) c_143
            refine lv_iinc (v := 4) (lv' := [(3, .int 4), (4, .int r_134), (0, .ref o), (1, .int x1), (2, .ref a2)]) hx hb dX4_placeIn_106 hl (k := 1) rfl (by decide +kernel) (by decide +kernel) rfl (fun ls hl => ?_)
            refine lv_goto (tgt := 2) hx hb dX4_placeIn_109 (by decide +kernel) ?_
            have kc_144 : (4 : Int32).toInt = 4 := by decide
            exact ih (n - 1) (by omega) 4 S_3 _ _ ls (by omega) (by decide +kernel) hIS_3 (oX.st oX.rf XS_3 (by decide +kernel)) hP hD hS (lv_sub hl [0, 2, 3, 4] rfl)
          · have dc_143 := c_nle (a := x_142.toInt) (b := 0) rfl (by decide +kernel) c_143
            refine lv_iload hx hb dX4_placeIn_23 (lv_at hl 0 rfl) ?_
            refine lv_aload_n hx hb dX4_placeIn_25 rfl (lv_at hl 2 rfl) ?_
            have t_145 : oty S_3 o 4 := (oX.ty XS_3 to)
            obtain ⟨q_146, hq_146⟩ := og (cq := cq) t_145.1 (oE_4 t_145.2)
            refine va_get (D := (dC, dI)) (ci := 4) (v := .int (oI S_3 o 4)) (C := RX4) (T := TX4) (N := 6) hx hb hts in_wsX4_placeIn_X4 hown hK hP q_146 hq_146 rfl 4 (by decide +kernel) (hts (.fieldLink RX4 34 "ShipOffice$Hiring" "goal" "I") iw_X4_placeIn_2) (fun _ h9 => h9) rfl dX4_placeIn_26 ?_
            refine lv_topi (fun x_147 ex_147 => ?_)
            have hx_147 : 0 ≤ x_147.toInt ∧ x_147.toInt ≤ 80 := iv_of ex_147 (oInv.iv hIS_3 t_145.2 rfl rfl)
            have gx_147 : x_147.toInt = (oI S_3 o 4).toInt := iv_to ex_147
            clear ex_147
            refine lv_iload_n hx hb dX4_placeIn_29 rfl (lv_at hl 1 rfl) ?_
            have hFc : ∀ q, va_A [] H.size q → A q := pu_free hS hA
            refine va_calli (va_runS (As := [.int x_147, .int 3]) (rest := [.int r_134]) ⟨hx, hb, hml, hown, hts⟩ (c_X4_handsOf l dC dI H.size tL tS tG cq S_3 hIS_3 x_147 (by omega) 3 (by decide +kernel)) (va_cwS 2 hts gX4_placeIn_X4_handsOf rfl rfl rfl (by decide +kernel) ⟨(Nat.le_of_ble_eq_true rfl), (Nat.le_of_ble_eq_true rfl)⟩) (pr_SO hP hK hD (hZ.go hS hFc)) rfl rfl hl.1 rfl (lv_room (Nat.le_of_ble_eq_true rfl)) dX4_placeIn_30 ⟨(Nat.le_of_ble_eq_true rfl), (Nat.le_of_ble_eq_true rfl)⟩) hS (fun q _ h => hFc q h) hFc (fun r_149 u t H locs ht hvm w_148 hB hz1 hk1 hS => ?_)
            have hP := pu_keep hP hk1
            clear hk1 hz1 hvm hB ht hFc
            obtain ⟨hb_150, hx_151⟩ := w_148
            have ho_152 : r_149.toInt = x_147.toInt / 27 % 3 := by have h0 : (3 : Int32).toInt = 3 := (by decide +kernel); rw [hx_151, h0]; simp
            refine lv_icmp_ge (tgt := 106) hx hb dX4_placeIn_33 (by decide +kernel) (fun c_153 => ?_) (fun c_153 => ?_)
            · have dc_153 := c_le (a := r_149.toInt) (b := r_134.toInt) rfl rfl c_153
              refine lv_iinc (v := 4) (lv' := [(3, .int 4), (4, .int r_134), (0, .ref o), (1, .int x1), (2, .ref a2)]) hx hb dX4_placeIn_106 hl (k := 1) rfl (by decide +kernel) (by decide +kernel) rfl (fun ls hl => ?_)
              refine lv_goto (tgt := 2) hx hb dX4_placeIn_109 (by decide +kernel) ?_
              have kc_154 : (4 : Int32).toInt = 4 := by decide
              exact ih (n - 1) (by omega) 4 S_3 _ _ ls (by omega) (by decide +kernel) hIS_3 (oX.st oX.rf XS_3 (by decide +kernel)) hP hD hS (lv_sub hl [0, 2, 3, 4] rfl)
            · have dc_153 := c_nle (a := r_149.toInt) (b := r_134.toInt) rfl rfl c_153
              refine lv_aload_n hx hb dX4_placeIn_36 rfl (lv_at hl 2 rfl) ?_
              refine va_get (D := (dC, dI)) (ci := 4) (v := .int (oI S_3 o 2)) (C := RX4) (T := TX4) (N := 6) hx hb hts in_wsX4_placeIn_X4 hown hK hP q_146 hq_146 rfl 2 (by decide +kernel) (hts (.fieldLink RX4 30 "ShipOffice$Hiring" "offerCount" "I") iw_X4_placeIn_3) (fun _ h9 => h9) rfl dX4_placeIn_37 ?_
              refine lv_topi (fun x_155 ex_155 => ?_)
              have hx_155 : 0 ≤ x_155.toInt ∧ x_155.toInt ≤ 12 := iv_of ex_155 (oInv.iv hIS_3 t_145.2 rfl rfl)
              have gx_155 : x_155.toInt = (oI S_3 o 2).toInt := iv_to ex_155
              clear ex_155
              refine lv_i2l (v := (x_155 : Int32).toInt64) hx hb dX4_placeIn_40 rfl ?_
              refine lv_aload_n hx hb dX4_placeIn_41 rfl (lv_at hl 2 rfl) ?_
              obtain ⟨b_156, hb_156⟩ := oInv.nn (i := 3) hIS_3 t_145 rfl
              refine va_get (D := (dC, dI)) (ci := 4) (v := .ref b_156) (C := RX4) (T := TX4) (N := 6) hx hb hts in_wsX4_placeIn_X4 hown hK hP q_146 hq_146 rfl 3 (by decide +kernel) (hts (.fieldLink RX4 19 "ShipOffice$Hiring" "firstPlace" "[I") iw_X4_placeIn_4) (fun _ h9 => h9) (o_rd hb_156) dX4_placeIn_42 ?_
              have tb_156 : oty S_3 b_156 61 := oInv.rd hIS_3 t_145.2 hb_156 rfl rfl
              refine lv_iload_n hx hb dX4_placeIn_45 rfl (lv_at hl 1 rfl) ?_
              obtain ⟨q_157, hq_157⟩ := og (cq := cq) tb_156.1 (oE_61 tb_156.2)
              refine va_iald hx hb hK hP q_157 0 hq_157 rfl (by unfold vp_in; decide) dX4_placeIn_46 ?_
              refine lv_topi (fun x_158 ex_158 => ?_)
              clear ex_158
              refine lv_iload hx hb dX4_placeIn_47 (lv_at hl 0 rfl) ?_
              refine lv_iadd hx hb dX4_placeIn_49 ?_
              refine lv_topi (fun x_159 ex_159 => ?_)
              clear ex_159
              have hFc : ∀ q, va_A [] H.size q → A q := pu_free hS hA
              have hPc := hP.sub (ws' := []) [] rfl
              have hDc := hD.sub (ws' := []) [] (by decide +kernel) rfl
              have hKc := hK.sub (tys' := []) [] rfl
              refine va_calli (va_runS (As := [.int x_159]) (rest := [.long ((x_155 : Int32).toInt64)]) ⟨hx, hb, hml, hown, hts⟩ (c_X4_handShift l dC dI H.size  x_159) (va_cwS 1 hts gX4_placeIn_X4_handShift rfl rfl rfl (by decide +kernel) ⟨(Nat.le_of_ble_eq_true rfl), (Nat.le_of_ble_eq_true rfl)⟩) (pr_S hPc hKc hDc) rfl rfl hl.1 rfl (lv_room (Nat.le_of_ble_eq_true rfl)) dX4_placeIn_50 ⟨(Nat.le_of_ble_eq_true rfl), (Nat.le_of_ble_eq_true rfl)⟩) hS (fun q _ h => hFc q h) hFc (fun r_161 u t H locs ht hvm w_160 hB hz1 hk1 hS => ?_)
              have hP := pu_keep hP hk1
              clear hk1 hz1 hvm hB ht hFc hPc hDc hKc
              refine lv_lshl (v := ((x_155 : Int32).toInt64) <<< ((r_161 : Int32).toInt64 &&& 63)) hx hb dX4_placeIn_53 rfl ?_
              refine lv_lstore (lv' := [(5, .long (((x_155 : Int32).toInt64) <<< ((r_161 : Int32).toInt64 &&& 63))), (4, .int r_134), (3, .int 3), (0, .ref o), (1, .int x1), (2, .ref a2)]) hx hb dX4_placeIn_54 hl (by decide +kernel) rfl (fun ls hl => ?_)
              refine lv_aload_n hx hb dX4_placeIn_56 rfl (lv_at hl 3 rfl) ?_
              obtain ⟨b_162, hb_162⟩ := oInv.nn (i := 0) hIS_3 t_145 rfl
              refine va_get (D := (dC, dI)) (ci := 4) (v := .ref b_162) (C := RX4) (T := TX4) (N := 6) hx hb hts in_wsX4_placeIn_X4 hown hK hP q_146 hq_146 rfl 0 (by decide +kernel) (hts (.fieldLink RX4 11 "ShipOffice$Hiring" "best" "[J") iw_X4_placeIn_5) (fun _ h9 => h9) (o_rd hb_162) dX4_placeIn_57 ?_
              have tb_162 : oty S_3 b_162 18 := oInv.rd hIS_3 t_145.2 hb_162 rfl rfl
              refine lv_iload_n hx hb dX4_placeIn_60 rfl (lv_at hl 4 rfl) ?_
              obtain ⟨q_163, hq_163⟩ := og (cq := cq) tb_162.1 (oE_18 tb_162.2)
              refine va_lald hx hb hK hP q_163 1 hq_163 rfl (vp_in_iff.mpr (by omega)) dX4_placeIn_61 ?_
              refine lv_topl (fun l_164 _ => ?_)
              refine lv_aload_n hx hb dX4_placeIn_62 rfl (lv_at hl 5 rfl) ?_
              refine va_get (D := (dC, dI)) (ci := 6) (v := .ref b_140) (C := RX6) (T := TX6) (N := 6) hx hb hts in_wsX4_placeIn_X6 hown hK hP q_139 hq_139 rfl 4 (by decide +kernel) (hts (.fieldLink RX4 56 "ShipOffice$Man" "wages" "[I") iw_X4_placeIn_1) (fun _ h9 => h9) (o_rd hb_140) dX4_placeIn_63 ?_
              refine lv_iload_n hx hb dX4_placeIn_66 rfl (lv_at hl 2 rfl) ?_
              refine va_iald hx hb hK hP q_141 0 hq_141 rfl (by unfold vp_in; decide) dX4_placeIn_67 ?_
              refine lv_topi (fun x_165 ex_165 => ?_)
              clear ex_165
              refine lv_i2l (v := (x_165 : Int32).toInt64) hx hb dX4_placeIn_68 rfl ?_
              refine lv_bipush (v := 32) hx hb dX4_placeIn_69 (by decide +kernel) ?_
              refine lv_lshl (v := ((x_165 : Int32).toInt64) <<< ((32 : Int32).toInt64 &&& 63)) hx hb dX4_placeIn_71 rfl ?_
              refine lv_ladd hx hb dX4_placeIn_72 ?_
              refine lv_lload hx hb dX4_placeIn_73 (lv_at hl 0 rfl) ?_
              refine lv_ladd hx hb dX4_placeIn_75 ?_
              refine lv_lstore (lv' := [(7, .long ((l_164 + (((x_165 : Int32).toInt64) <<< ((32 : Int32).toInt64 &&& 63))) + (((x_155 : Int32).toInt64) <<< ((r_161 : Int32).toInt64 &&& 63)))), (5, .long (((x_155 : Int32).toInt64) <<< ((r_161 : Int32).toInt64 &&& 63))), (4, .int r_134), (3, .int 3), (0, .ref o), (1, .int x1), (2, .ref a2)]) hx hb dX4_placeIn_76 hl (by decide +kernel) rfl (fun ls hl => ?_)
              refine lv_iload_n hx hb dX4_placeIn_78 rfl (lv_at hl 5 rfl) ?_
              refine va_gets hx hb hZ.1.2.2.1 hS hown (hts (.fieldLink RX4 44 "ShipOffice$Hiring" "STEP" "[I") iw_X4_placeIn_6) (fun _ h9 => h9) dX4_placeIn_79 ?_
              refine lv_iload_n hx hb dX4_placeIn_82 rfl (lv_at hl 3 rfl) ?_
              refine va_ti hx hb hZ.1.2.2.2.1 hS (by unfold vp_in; decide) (v := .int 27) rfl dX4_placeIn_83 ?_
              refine lv_iadd hx hb dX4_placeIn_84 ?_
              refine lv_topi (fun x_166 ex_166 => ?_)
              have hx_166 : x_166.toInt = x1.toInt + 27 := (iv_to ex_166).trans (ad_i rfl (by decide +kernel) (by omega) (by omega))
              clear ex_166
              refine lv_istore (lv' := [(9, .int x_166), (7, .long ((l_164 + (((x_165 : Int32).toInt64) <<< ((32 : Int32).toInt64 &&& 63))) + (((x_155 : Int32).toInt64) <<< ((r_161 : Int32).toInt64 &&& 63)))), (5, .long (((x_155 : Int32).toInt64) <<< ((r_161 : Int32).toInt64 &&& 63))), (4, .int r_134), (3, .int 3), (0, .ref o), (1, .int x1), (2, .ref a2)]) hx hb dX4_placeIn_85 hl (by decide +kernel) rfl (fun ls hl => ?_)
              refine lv_aload_n hx hb dX4_placeIn_87 rfl (lv_at hl 5 rfl) ?_
              refine va_get (D := (dC, dI)) (ci := 4) (v := .ref b_162) (C := RX4) (T := TX4) (N := 6) hx hb hts in_wsX4_placeIn_X4 hown hK hP q_146 hq_146 rfl 0 (by decide +kernel) (hts (.fieldLink RX4 11 "ShipOffice$Hiring" "best" "[J") iw_X4_placeIn_5) (fun _ h9 => h9) (o_rd hb_162) dX4_placeIn_88 ?_
              refine lv_iload hx hb dX4_placeIn_91 (lv_at hl 0 rfl) ?_
              refine lv_aload_n hx hb dX4_placeIn_93 rfl (lv_at hl 5 rfl) ?_
              refine va_get (D := (dC, dI)) (ci := 4) (v := .ref b_162) (C := RX4) (T := TX4) (N := 6) hx hb hts in_wsX4_placeIn_X4 hown hK hP q_146 hq_146 rfl 0 (by decide +kernel) (hts (.fieldLink RX4 11 "ShipOffice$Hiring" "best" "[J") iw_X4_placeIn_5) (fun _ h9 => h9) (o_rd hb_162) dX4_placeIn_94 ?_
              refine lv_iload hx hb dX4_placeIn_97 (lv_at hl 0 rfl) ?_
              refine va_lald hx hb hK hP q_163 1 hq_163 rfl (vp_in_iff.mpr (by omega)) dX4_placeIn_99 ?_
              refine lv_topl (fun l_167 _ => ?_)
              refine lv_lload hx hb dX4_placeIn_100 (lv_at hl 1 rfl) ?_
              refine va_mmin_long hx hb (by rw [hml]; exact hl.1.symm) hown (hts (.methodLink RX4 63 Lib.MathLoose.min_long.x) iw_X4_placeIn_7) (hts (.static Lib.MathLoose.min_long.x) iw_X4_placeIn_8) (hts (.initialized "java/lang/Math") iw_X4_placeIn_9) (hts (.code Lib.MathLoose.min_long.x Lib.MathLoose.min_long.code 4 (some .long)) (by decide +kernel)) (Nat.le_of_ble_eq_true rfl) (Nat.le_of_ble_eq_true rfl) (Nat.le_of_ble_eq_true rfl) (Nat.le_of_ble_eq_true rfl) dX4_placeIn_102 ?_
              refine lv_topl (fun l_168 _ => ?_)
              refine va_last hx hb hK hP hD hS q_163 1 hq_163 rfl (vp_in_iff.mpr (by omega)) dX4_placeIn_105 (fun H locs hP1 hD1 hS => ?_)
              obtain ⟨S_169, eS_169⟩ : ∃ zq, zq = setJ S_3 b_162 (x_166 : Int32).toNatClampNeg l_168 := ⟨_, rfl⟩
              have hP : va_P (dC, dI) vwCl (oW cq S_169) H := by rw [eS_169]; exact cP (oset tb_162.1 hq_163 hD rfl (he_18 tb_162.2) neJ) hP1
              have hD : va_D A (oW cq S_169) := by rw [eS_169]; exact cD (oset tb_162.1 hq_163 hD rfl (he_18 tb_162.2) neJ) hD1
              clear hP1 hD1
              have hIS_169 : oInv S_169 := by rw [eS_169]; exact oInv.J hIS_3
              have XS_169 : oX [2018] S_3 S_169 := by rw [eS_169]; exact oX.J (k := 18) (key := 2018) tb_162.2 (fun _ => rfl) (List.mem_singleton.mpr rfl)
              have X_170 : oX [2018] Z S_169 := oX.st YS_3 XS_169 (by decide +kernel)
              have g_171 : (oI S_169 o 2).toInt = (oI S_3 o 2).toInt := by rw [eS_169]; rfl
              have g_172 : (oI S_169 o 4).toInt = (oI S_3 o 4).toInt := by rw [eS_169]; rfl
              refine lv_iinc (v := 4) (lv' := [(3, .int 4), (9, .int x_166), (7, .long ((l_164 + (((x_165 : Int32).toInt64) <<< ((32 : Int32).toInt64 &&& 63))) + (((x_155 : Int32).toInt64) <<< ((r_161 : Int32).toInt64 &&& 63)))), (5, .long (((x_155 : Int32).toInt64) <<< ((r_161 : Int32).toInt64 &&& 63))), (4, .int r_134), (0, .ref o), (1, .int x1), (2, .ref a2)]) hx hb dX4_placeIn_106 hl (k := 4) rfl (by decide +kernel) (by decide +kernel) rfl (fun ls hl => ?_)
              refine lv_goto (tgt := 2) hx hb dX4_placeIn_109 (by decide +kernel) ?_
              have kc_173 : (4 : Int32).toInt = 4 := by decide
              exact ih (n - 1) (by omega) 4 S_169 _ _ ls (by omega) (by decide +kernel) hIS_169 (oX.st (oX.st oX.rf XS_3 (by decide +kernel)) XS_169 (by decide +kernel)) hP hD hS (lv_sub hl [0, 5, 6, 7] rfl)
  have kc_174 : (0 : Int32).toInt = 0 := by decide
  exact cut_1 5 0 Z _ _ ls (by omega) (by decide +kernel) gI oX.rf hP hD hS (lv_sub hl [0, 1, 2, 3] rfl)
set_option maxHeartbeats 4000000 in
set_option maxRecDepth 100000 in
theorem c_X4_offer (l : Launch) (dC : Nat → ClassId) (dI : Nat → Nat → Nat) (sz : Nat) (tL tS tG : Nat) (cq : Nat → ClassId) (Z : oS) (gI : oInv Z) (o : Nat) (to : oty Z o 4) (a1 : Nat) (ta1 : oty Z a1 6) : Met l yX4_offer wsX4_offer ({ frames := 2, cells := 0, slots := 0, locals := 50 }) (va_Pc [.ref o, .ref a1] (pcO (dC, dI) (oT cq) (oW cq Z) sz tL tS tG (oW cq Z))) (va_Qv (fun (u : oS) => oInv u ∧ oX [402, 2018, 2062] Z u) (fun u t => va_P (dC, dI) vwCl (oW cq u) t.heap ∧ va_K (dC, dI) vwCl (oT cq) t ∧ va_D (va_A (oW cq Z) sz) (oW cq u)) (va_A (oW cq Z) sz)) 0 0 (va_A (oW cq Z) sz) := by
  refine Met.ofW (cc := cX4_offer) (maxL := 3) (ret := none) (by decide +kernel) rfl ?_
  intro p e s m args below meth c s₁ B hml hv
  obtain ⟨rfl, ⟨hsz, hP, hK, hD0⟩, hZ⟩ := hv
  have hx := B.exec
  have hb := B.bytes
  have hr := B.returns
  have hts := atoms_spec (ws := wsX4_offer) B.pre
  have hown : s.vm.findClass RX4 = some m.cls := findClass_of_methodNamed B.named
  have hlocks := B.notSynchronized
  subst hsz
  have hD := hD0.self (sz := s.heap.size)
  generalize hAe : va_A (oW cq Z) s.heap.size = A at hD hZ ⊢
  have hA : ∀ q : Nat, s.heap.size ≤ q → A q := fun q h => by rw [← hAe]; exact Or.inr h
  have hS : va_S A s.heap s.heap [] := va_S.rf
  have hP : va_P (dC, dI) vwCl (oW cq Z) s.heap := hP
  have hl := lv_entry ([.ref o, .ref a1]) (n := 3) (Nat.le_of_ble_eq_true rfl)
  rw [lg_entry_eq]
  generalize (lg_sl ([.ref o, .ref a1]) ++ List.replicate (3 - (lg_sl ([.ref o, .ref a1])).length) Slot.unset).toArray = ls at hl ⊢
  have hl : lv_has ls 3 [(0, .ref o), (1, .ref a1)] := hl
  refine lv_aload_n hx hb dX4_offer_0 rfl (lv_at hl 0 rfl) ?_
  obtain ⟨q_1, hq_1⟩ := og (cq := cq) to.1 (oE_4 to.2)
  refine va_get (D := (dC, dI)) (ci := 4) (v := .int (oI Z o 2)) (C := RX4) (T := TX4) (N := 6) hx hb hts in_wsX4_offer_X4 hown hK hP q_1 hq_1 rfl 2 (by decide +kernel) (hts (.fieldLink RX4 30 "ShipOffice$Hiring" "offerCount" "I") iw_X4_offer_1) (fun _ h9 => h9) rfl dX4_offer_1 ?_
  refine lv_topi (fun x_2 ex_2 => ?_)
  have hx_2 : 0 ≤ x_2.toInt ∧ x_2.toInt ≤ 12 := iv_of ex_2 (oInv.iv gI to.2 rfl rfl)
  have gx_2 : x_2.toInt = (oI Z o 2).toInt := iv_to ex_2
  clear ex_2
  refine lv_bipush (v := 12) hx hb dX4_offer_4 (by decide +kernel) ?_
  refine lv_icmp_lt (tgt := 10) hx hb dX4_offer_6 (by decide +kernel) (fun c_3 => ?_) (fun c_3 => ?_)
  · have dc_3 := c_lt (a := x_2.toInt) (b := 12) rfl (by decide +kernel) c_3
    refine lv_bipush (v := 80) hx hb dX4_offer_10 (by decide +kernel) ?_
    refine lv_istore_n (lv' := [(2, .int 80), (0, .ref o), (1, .ref a1)]) hx hb dX4_offer_12 rfl hl (by decide +kernel) rfl (fun ls hl => ?_)
    have cut_4 : ∀ (n : Nat) (y_5 : Int32) (S_6 : oS) (H : Heap) (locs : List Loc) (ls : Array Slot), y_5.toInt + 1 ≤ (n : Int) → (-1 ≤ y_5.toInt ∧ y_5.toInt ≤ 80) → (oI S_6 o 2).toInt = (oI Z o 2).toInt → oInv S_6 → oX [402, 2018, 2062] Z S_6 → va_P (dC, dI) vwCl (oW cq S_6) H → va_D A (oW cq S_6) → va_S A s.heap H locs → lv_has ls 3 [(2, .int y_5), (0, .ref o), (1, .ref a1)] → W p l e (headSpec wsX4_offer { frames := 2, cells := 0, slots := 0, locals := 50 }).room s m #[Value.ref o, Value.ref a1] below meth c H locs 0 0 (MQ below (va_Qv (fun (u : oS) => oInv u ∧ oX [402, 2018, 2062] Z u) (fun u t => va_P (dC, dI) vwCl (oW cq u) t.heap ∧ va_K (dC, dI) vwCl (oT cq) t ∧ va_D A (oW cq u)) A) #[Value.ref o, Value.ref a1] s 0 0 A) (F0 m 13 ls []) := by
      intro n
      induction n using Nat.strongRecOn with
      | ind n ih =>
        intro y_5 S_6 H locs ls hm hy_5 hq0_cut_4 hIS_6 XS_6 hP hD hS hl
        have YS_6 : oX [402, 2018, 2062] Z S_6 := oX.st oX.rf XS_6 (fun _ q => q)
        refine lv_iload_n hx hb dX4_offer_13 rfl (lv_at hl 0 rfl) ?_
        refine lv_if_lt (tgt := 42) hx hb dX4_offer_14 (by decide +kernel) (fun c_7 => ?_) (fun c_7 => ?_)
        · have dc_7 := c_lt (a := y_5.toInt) (b := 0) rfl (by decide +kernel) c_7
          refine lv_aload_n hx hb dX4_offer_42 rfl (lv_at hl 1 rfl) ?_
          have t_8 : oty S_6 o 4 := (oX.ty XS_6 to)
          obtain ⟨q_9, hq_9⟩ := og (cq := cq) t_8.1 (oE_4 t_8.2)
          obtain ⟨b_10, hb_10⟩ := oInv.nn (i := 1) hIS_6 t_8 rfl
          refine va_get (D := (dC, dI)) (ci := 4) (v := .ref b_10) (C := RX4) (T := TX4) (N := 6) hx hb hts in_wsX4_offer_X4 hown hK hP q_9 hq_9 rfl 1 (by decide +kernel) (hts (.fieldLink RX4 15 "ShipOffice$Hiring" "offers" "[I") iw_X4_offer_2) (fun _ h9 => h9) (o_rd hb_10) dX4_offer_43 ?_
          have tb_10 : oty S_6 b_10 62 := oInv.rd hIS_6 t_8.2 hb_10 rfl rfl
          refine lv_aload_n hx hb dX4_offer_46 rfl (lv_at hl 1 rfl) ?_
          refine va_get (D := (dC, dI)) (ci := 4) (v := .int (oI S_6 o 2)) (C := RX4) (T := TX4) (N := 6) hx hb hts in_wsX4_offer_X4 hown hK hP q_9 hq_9 rfl 2 (by decide +kernel) (hts (.fieldLink RX4 30 "ShipOffice$Hiring" "offerCount" "I") iw_X4_offer_1) (fun _ h9 => h9) rfl dX4_offer_47 ?_
          refine lv_topi (fun x_11 ex_11 => ?_)
          have hx_11 : 0 ≤ x_11.toInt ∧ x_11.toInt ≤ 12 := iv_of ex_11 (oInv.iv hIS_6 t_8.2 rfl rfl)
          have gx_11 : x_11.toInt = (oI S_6 o 2).toInt := iv_to ex_11
          clear ex_11
          refine lv_aload_n hx hb dX4_offer_50 rfl (lv_at hl 2 rfl) ?_
          have t_12 : oty S_6 a1 6 := (oX.ty XS_6 ta1)
          obtain ⟨q_13, hq_13⟩ := og (cq := cq) t_12.1 (oE_6 t_12.2)
          refine va_get (D := (dC, dI)) (ci := 6) (v := .int (oI S_6 a1 0)) (C := RX6) (T := TX6) (N := 6) hx hb hts in_wsX4_offer_X6 hown hK hP q_13 hq_13 rfl 0 (by decide +kernel) (hts (.fieldLink RX4 51 "ShipOffice$Man" "number" "I") iw_X4_offer_3) (fun _ h9 => h9) rfl dX4_offer_51 ?_
          refine lv_topi (fun x_14 ex_14 => ?_)
          clear ex_14
          obtain ⟨q_15, hq_15⟩ := og (cq := cq) tb_10.1 (oE_62 tb_10.2)
          refine va_iast hx hb hK hP hD hS q_15 0 hq_15 rfl (vp_in_iff.mpr (by omega)) dX4_offer_54 (fun H locs hP1 hD1 hS => ?_)
          obtain ⟨S_16, eS_16⟩ : ∃ zq, zq = setI S_6 b_10 (x_11 : Int32).toNatClampNeg x_14 := ⟨_, rfl⟩
          have hP : va_P (dC, dI) vwCl (oW cq S_16) H := by rw [eS_16]; exact cP (oset tb_10.1 hq_15 hD rfl (he_62 tb_10.2) neI) hP1
          have hD : va_D A (oW cq S_16) := by rw [eS_16]; exact cD (oset tb_10.1 hq_15 hD rfl (he_62 tb_10.2) neI) hD1
          clear hP1 hD1
          have hIS_16 : oInv S_16 := by rw [eS_16]; exact oInv.A (k := 62) hIS_6 tb_10.2 (by decide +kernel)
          have XS_16 : oX [2062] S_6 S_16 := by rw [eS_16]; exact oX.I (k := 62) (key := 2062) tb_10.2 rfl (List.mem_singleton.mpr rfl)
          have X_17 : oX [402, 2018, 2062] Z S_16 := oX.st YS_6 XS_16 (by decide +kernel)
          have g_18 : (oI S_16 o 2).toInt = (oI S_6 o 2).toInt := by rw [eS_16, setI_oth (ty_ne t_8 tb_10 (by decide +kernel))]
          refine lv_aload_n hx hb dX4_offer_55 rfl (lv_at hl 1 rfl) ?_
          refine lv_dup hx hb dX4_offer_56 rfl ?_
          have t_19 : oty S_16 o 4 := (oX.ty XS_16 t_8)
          obtain ⟨q_20, hq_20⟩ := og (cq := cq) t_19.1 (oE_4 t_19.2)
          refine va_get (D := (dC, dI)) (ci := 4) (v := .int (oI S_16 o 2)) (C := RX4) (T := TX4) (N := 6) hx hb hts in_wsX4_offer_X4 hown hK hP q_20 hq_20 rfl 2 (by decide +kernel) (hts (.fieldLink RX4 30 "ShipOffice$Hiring" "offerCount" "I") iw_X4_offer_1) (fun _ h9 => h9) rfl dX4_offer_57 ?_
          refine lv_topi (fun x_21 ex_21 => ?_)
          have hx_21 : 0 ≤ x_21.toInt ∧ x_21.toInt ≤ 12 := iv_of ex_21 (oInv.iv hIS_16 t_19.2 rfl rfl)
          have gx_21 : x_21.toInt = (oI S_16 o 2).toInt := iv_to ex_21
          clear ex_21
          refine lv_iconst (v := 1) hx hb dX4_offer_60 (by decide +kernel) ?_
          refine lv_iadd hx hb dX4_offer_61 ?_
          refine lv_topi (fun x_22 ex_22 => ?_)
          have hx_22 : x_22.toInt = x_21.toInt + 1 := (iv_to ex_22).trans (ad_i rfl (by decide +kernel) (by omega) (by omega))
          clear ex_22
          refine va_put (D := (dC, dI)) (ci := 4) (v := .int x_22) (ty := .int) (C := RX4) (T := TX4) (N := 6) hx hb hts in_wsX4_offer_X4 tyX4 tyX4_ok nmX4 hown hK hP hD hS q_20 hq_20 rfl 2 (by decide +kernel) (hts (.fieldLink RX4 30 "ShipOffice$Hiring" "offerCount" "I") iw_X4_offer_1) (fun _ h9 => h9) rfl (by decide +kernel) rfl rfl (Nat.le_of_ble_eq_true rfl) dX4_offer_62 (fun H locs hP1 hD1 hS => ?_)
          obtain ⟨S_23, eS_23⟩ : ∃ zq, zq = setI S_16 o 2 x_22 := ⟨_, rfl⟩
          have hP : va_P (dC, dI) vwCl (oW cq S_23) H := by rw [eS_23]; exact cP (oset t_19.1 hq_20 hD rfl (he_4_2 t_19.2) neI) hP1
          have hD : va_D A (oW cq S_23) := by rw [eS_23]; exact cD (oset t_19.1 hq_20 hD rfl (he_4_2 t_19.2) neI) hD1
          clear hP1 hD1
          have hIS_23 : oInv S_23 := by rw [eS_23]; exact oInv.I0 (k := 4) (lo := 0) (hi := 12) hIS_16 t_19.2 (by decide +kernel) rfl rfl rfl (by omega)
          have XS_23 : oX [402] S_16 S_23 := by rw [eS_23]; exact oX.I (k := 4) (key := 402) t_19.2 rfl (List.mem_singleton.mpr rfl)
          have X_24 : oX [402, 2018, 2062] Z S_23 := oX.st X_17 XS_23 (by decide +kernel)
          have g_25 : (oI S_23 o 2).toInt = x_22.toInt := by rw [eS_23, setI_same]
          exact W.vret hx hb hr (fun t ht hW => ⟨⟨S_23, rfl, ⟨hIS_23, X_24⟩, ⟨by rw [ht]; exact hP, va_K.moved hW.alike hK, hD⟩⟩, hS.F ht⟩) hS.2.2 dX4_offer_65
        · have dc_7 := c_nlt (a := y_5.toInt) (b := 0) rfl (by decide +kernel) c_7
          refine lv_aload_n hx hb dX4_offer_17 rfl (lv_at hl 1 rfl) ?_
          have t_26 : oty S_6 o 4 := (oX.ty XS_6 to)
          obtain ⟨q_27, hq_27⟩ := og (cq := cq) t_26.1 (oE_4 t_26.2)
          obtain ⟨b_28, hb_28⟩ := oInv.nn (i := 0) hIS_6 t_26 rfl
          refine va_get (D := (dC, dI)) (ci := 4) (v := .ref b_28) (C := RX4) (T := TX4) (N := 6) hx hb hts in_wsX4_offer_X4 hown hK hP q_27 hq_27 rfl 0 (by decide +kernel) (hts (.fieldLink RX4 11 "ShipOffice$Hiring" "best" "[J") iw_X4_offer_4) (fun _ h9 => h9) (o_rd hb_28) dX4_offer_18 ?_
          have tb_28 : oty S_6 b_28 18 := oInv.rd hIS_6 t_26.2 hb_28 rfl rfl
          refine lv_iload_n hx hb dX4_offer_21 rfl (lv_at hl 0 rfl) ?_
          obtain ⟨q_29, hq_29⟩ := og (cq := cq) tb_28.1 (oE_18 tb_28.2)
          refine va_lald hx hb hK hP q_29 1 hq_29 rfl (vp_in_iff.mpr (by omega)) dX4_offer_22 ?_
          refine lv_topl (fun l_30 _ => ?_)
          refine lv_ldc2 (v := 1152921504606846976) hx hb hown (hts (.constantLong RX4 22 (1152921504606846976)) (by decide +kernel)) dX4_offer_23 ?_
          refine W.lcmp hx hb dX4_offer_26 ?_
          refine lv_topi (fun x_31 ex_31 => ?_)
          clear ex_31
          refine lv_if_eq (tgt := 36) hx hb dX4_offer_27 (by decide +kernel) (fun c_32 => ?_) (fun c_32 => ?_)
          · have dc_32 := c_eq (a := x_31.toInt) (b := 0) rfl (by decide +kernel) c_32
            obtain ⟨x_33, ex_33⟩ : ∃ zq : Int32, y_5 + (-1) = zq := ⟨_, rfl⟩
            have hx_33 : x_33.toInt = y_5.toInt + (-1) := (iv_to ex_33).symm.trans (ad_i rfl (by decide +kernel) (by omega) (by omega))
            refine lv_iinc (v := x_33) (lv' := [(2, .int x_33), (0, .ref o), (1, .ref a1)]) hx hb dX4_offer_36 hl (k := 0) rfl ex_33 (by decide +kernel) rfl (fun ls hl => ?_)
            clear ex_33
            refine lv_goto (tgt := 13) hx hb dX4_offer_39 (by decide +kernel) ?_
            exact ih (n - 1) (by omega) x_33 S_6 _ _ ls (by omega) (by omega) (by omega) hIS_6 (oX.st oX.rf XS_6 (by decide +kernel)) hP hD hS (lv_sub hl [0, 1, 2] rfl)
          · have dc_32 := c_ne (a := x_31.toInt) (b := 0) rfl (by decide +kernel) c_32
            refine lv_aload_n hx hb dX4_offer_30 rfl (lv_at hl 1 rfl) ?_
            refine lv_iload_n hx hb dX4_offer_31 rfl (lv_at hl 0 rfl) ?_
            refine lv_aload_n hx hb dX4_offer_32 rfl (lv_at hl 2 rfl) ?_
            have t_34 : oty S_6 a1 6 := (oX.ty XS_6 ta1)
            have hFc := o_free hD hS hA
            refine va_callv (va_runV (As := [.int y_5, .ref a1]) (rest := []) ⟨hx, hb, hml, hown, hts⟩ (c_X4_placeIn l dC dI H.size tL tS tG cq S_6 hIS_6 o t_26 y_5 (by omega) a1 t_34) (cwV 2 hts gX4_offer_X4_placeIn rfl rfl rfl (by decide +kernel) ⟨(Nat.le_of_ble_eq_true rfl), (Nat.le_of_ble_eq_true rfl)⟩) (pr_VO (r := (RX4, TX4, 6)) hP hK hD q_27 4 rfl hq_27 (hZ.go hS hFc)) rfl rfl hl.1 rfl (lv_room (Nat.le_of_ble_eq_true rfl)) dX4_offer_33 ⟨(Nat.le_of_ble_eq_true rfl), (Nat.le_of_ble_eq_true rfl)⟩) hS (fun q _ h => hFc q h) hFc (fun u t H locs ht hvm w_35 hB hz1 hk1 hS => ?_)
            obtain ⟨S_37, rfl⟩ : ∃ z, z = u := ⟨_, rfl⟩
            obtain ⟨hP1, hK1, hD1⟩ := hB
            rw [ht] at hP1
            have hP : va_P (dC, dI) vwCl (oW cq S_37) H := hP1
            have hD : va_D A (oW cq S_37) := hD1.weaken (fun _ _ _ h => hFc _ h)
            clear hP1 hK1 hD1 hk1 hz1 hvm ht hFc
            obtain ⟨hIS_37, XS_37⟩ := w_35
            have X_38 : oX [402, 2018, 2062] Z S_37 := oX.st YS_6 XS_37 (by decide +kernel)
            have g_39 : (oI S_37 o 2).toInt = (oI S_6 o 2).toInt := by rw [oX.i XS_37 t_26 (by decide +kernel)]
            obtain ⟨x_40, ex_40⟩ : ∃ zq : Int32, y_5 + (-1) = zq := ⟨_, rfl⟩
            have hx_40 : x_40.toInt = y_5.toInt + (-1) := (iv_to ex_40).symm.trans (ad_i rfl (by decide +kernel) (by omega) (by omega))
            refine lv_iinc (v := x_40) (lv' := [(2, .int x_40), (0, .ref o), (1, .ref a1)]) hx hb dX4_offer_36 hl (k := 0) rfl ex_40 (by decide +kernel) rfl (fun ls hl => ?_)
            clear ex_40
            refine lv_goto (tgt := 13) hx hb dX4_offer_39 (by decide +kernel) ?_
            exact ih (n - 1) (by omega) x_40 S_37 _ _ ls (by omega) (by omega) (by omega) hIS_37 (oX.st (oX.st oX.rf XS_6 (by decide +kernel)) XS_37 (by decide +kernel)) hP hD hS (lv_sub hl [0, 1, 2] rfl)
    have kc_41 : (80 : Int32).toInt = 80 := by decide
    exact cut_4 82 80 Z _ _ ls (by omega) (by decide +kernel) (by omega) gI oX.rf hP hD hS (lv_sub hl [0, 1, 2] rfl)
  · have dc_3 := c_nlt (a := x_2.toInt) (b := 12) rfl (by decide +kernel) c_3
    exact W.vret hx hb hr (fun t ht hW => ⟨⟨Z, rfl, ⟨gI, oX.rf⟩, ⟨by rw [ht]; exact hP, va_K.moved hW.alike hK, hD⟩⟩, hS.F ht⟩) hS.2.2 dX4_offer_9
set_option maxHeartbeats 4000000 in
set_option maxRecDepth 100000 in
theorem c_X4_begin (l : Launch) (dC : Nat → ClassId) (dI : Nat → Nat → Nat) (sz : Nat) (tL tS tG : Nat) (cq : Nat → ClassId) (Z : oS) (gI : oInv Z) (o : Nat) (to : oty Z o 4) (x1 : Int32) (hx1 : 0 ≤ x1.toInt ∧ x1.toInt ≤ 80) : Met l yX4_begin wsX4_begin ({ frames := 1, cells := 0, slots := 0, locals := 24 }) (va_Pc [.ref o, .int x1] (pcO (dC, dI) (oT cq) (oW cq Z) sz tL tS tG (oW cq Z))) (va_Qv (fun (u : oS) => oInv u ∧ oX [402, 404, 405, 2018, 2061] Z u) (fun u t => va_P (dC, dI) vwCl (oW cq u) t.heap ∧ va_K (dC, dI) vwCl (oT cq) t ∧ va_D (va_A (oW cq Z) sz) (oW cq u)) (va_A (oW cq Z) sz)) 0 0 (va_A (oW cq Z) sz) := by
  refine Met.ofW (cc := cX4_begin) (maxL := 3) (ret := none) (by decide +kernel) rfl ?_
  intro p e s m args below meth c s₁ B hml hv
  obtain ⟨rfl, ⟨hsz, hP, hK, hD0⟩, hZ⟩ := hv
  have hx := B.exec
  have hb := B.bytes
  have hr := B.returns
  have hts := atoms_spec (ws := wsX4_begin) B.pre
  have hown : s.vm.findClass RX4 = some m.cls := findClass_of_methodNamed B.named
  have hlocks := B.notSynchronized
  subst hsz
  have hD := hD0.self (sz := s.heap.size)
  generalize hAe : va_A (oW cq Z) s.heap.size = A at hD hZ ⊢
  have hA : ∀ q : Nat, s.heap.size ≤ q → A q := fun q h => by rw [← hAe]; exact Or.inr h
  have hS : va_S A s.heap s.heap [] := va_S.rf
  have hP : va_P (dC, dI) vwCl (oW cq Z) s.heap := hP
  have hl := lv_entry ([.ref o, .int x1]) (n := 3) (Nat.le_of_ble_eq_true rfl)
  rw [lg_entry_eq]
  generalize (lg_sl ([.ref o, .int x1]) ++ List.replicate (3 - (lg_sl ([.ref o, .int x1])).length) Slot.unset).toArray = ls at hl ⊢
  have hl : lv_has ls 3 [(0, .ref o), (1, .int x1)] := hl
  refine lv_aload_n hx hb dX4_begin_0 rfl (lv_at hl 0 rfl) ?_
  obtain ⟨q_1, hq_1⟩ := og (cq := cq) to.1 (oE_4 to.2)
  obtain ⟨b_2, hb_2⟩ := oInv.nn (i := 0) gI to rfl
  refine va_get (D := (dC, dI)) (ci := 4) (v := .ref b_2) (C := RX4) (T := TX4) (N := 6) hx hb hts in_wsX4_begin_X4 hown hK hP q_1 hq_1 rfl 0 (by decide +kernel) (hts (.fieldLink RX4 11 "ShipOffice$Hiring" "best" "[J") iw_X4_begin_1) (fun _ h9 => h9) (o_rd hb_2) dX4_begin_1 ?_
  have tb_2 : oty Z b_2 18 := oInv.rd gI to.2 hb_2 rfl rfl
  refine lv_ldc2 (v := 1152921504606846976) hx hb hown (hts (.constantLong RX4 22 (1152921504606846976)) (by decide +kernel)) dX4_begin_4 ?_
  have hFc := o_free hD hS hA
  refine va_callv (va_runS (As := [.ref b_2, .long 1152921504606846976]) (rest := []) ⟨hx, hb, hml, hown, hts⟩ (c_J7_fill_d0a16 l dC dI s.heap.size cq Z gI b_2 tb_2 1152921504606846976) (va_cwS 2 hts gX4_begin_J7_fill_d0a16 rfl rfl rfl (by decide +kernel) ⟨(Nat.le_of_ble_eq_true rfl), (Nat.le_of_ble_eq_true rfl)⟩) (pr_S hP hK hD) rfl rfl hl.1 rfl (lv_room (Nat.le_of_ble_eq_true rfl)) dX4_begin_7 ⟨(Nat.le_of_ble_eq_true rfl), (Nat.le_of_ble_eq_true rfl)⟩) hS (fun q _ h => hFc q h) hFc (fun u t H locs ht hvm w_3 hB hz1 hk1 hS => ?_)
  obtain ⟨S_5, rfl⟩ : ∃ z, z = u := ⟨_, rfl⟩
  obtain ⟨hP1, hK1, hD1⟩ := hB
  rw [ht] at hP1
  have hP : va_P (dC, dI) vwCl (oW cq S_5) H := hP1
  have hD : va_D A (oW cq S_5) := hD1.weaken (fun _ _ _ h => hFc _ h)
  clear hP1 hK1 hD1 hk1 hz1 hvm ht hFc
  obtain ⟨hIS_5, XS_5⟩ := w_3
  have X_6 : oX [402, 404, 405, 2018, 2061] Z S_5 := oX.st oX.rf XS_5 (by decide +kernel)
  refine lv_aload_n hx hb dX4_begin_10 rfl (lv_at hl 0 rfl) ?_
  have t_7 : oty S_5 o 4 := (oX.ty XS_5 to)
  obtain ⟨q_8, hq_8⟩ := og (cq := cq) t_7.1 (oE_4 t_7.2)
  obtain ⟨b_9, hb_9⟩ := oInv.nn (i := 0) hIS_5 t_7 rfl
  refine va_get (D := (dC, dI)) (ci := 4) (v := .ref b_9) (C := RX4) (T := TX4) (N := 6) hx hb hts in_wsX4_begin_X4 hown hK hP q_8 hq_8 rfl 0 (by decide +kernel) (hts (.fieldLink RX4 11 "ShipOffice$Hiring" "best" "[J") iw_X4_begin_1) (fun _ h9 => h9) (o_rd hb_9) dX4_begin_11 ?_
  have tb_9 : oty S_5 b_9 18 := oInv.rd hIS_5 t_7.2 hb_9 rfl rfl
  refine lv_iconst (v := 0) hx hb dX4_begin_14 (by decide +kernel) ?_
  refine lv_lconst (v := 0) hx hb dX4_begin_15 (by decide +kernel) ?_
  obtain ⟨q_10, hq_10⟩ := og (cq := cq) tb_9.1 (oE_18 tb_9.2)
  refine va_last hx hb hK hP hD hS q_10 1 hq_10 rfl (by unfold vp_in; decide) dX4_begin_16 (fun H locs hP1 hD1 hS => ?_)
  obtain ⟨S_11, eS_11⟩ : ∃ zq, zq = setJ S_5 b_9 (0 : Int32).toNatClampNeg 0 := ⟨_, rfl⟩
  have hP : va_P (dC, dI) vwCl (oW cq S_11) H := by rw [eS_11]; exact cP (oset tb_9.1 hq_10 hD rfl (he_18 tb_9.2) neJ) hP1
  have hD : va_D A (oW cq S_11) := by rw [eS_11]; exact cD (oset tb_9.1 hq_10 hD rfl (he_18 tb_9.2) neJ) hD1
  clear hP1 hD1
  have hIS_11 : oInv S_11 := by rw [eS_11]; exact oInv.J hIS_5
  have XS_11 : oX [2018] S_5 S_11 := by rw [eS_11]; exact oX.J (k := 18) (key := 2018) tb_9.2 (fun _ => rfl) (List.mem_singleton.mpr rfl)
  have X_12 : oX [402, 404, 405, 2018, 2061] Z S_11 := oX.st X_6 XS_11 (by decide +kernel)
  refine lv_aload_n hx hb dX4_begin_17 rfl (lv_at hl 0 rfl) ?_
  refine lv_iconst (v := 0) hx hb dX4_begin_18 (by decide +kernel) ?_
  have t_13 : oty S_11 o 4 := (oX.ty XS_11 t_7)
  obtain ⟨q_14, hq_14⟩ := og (cq := cq) t_13.1 (oE_4 t_13.2)
  refine va_put (D := (dC, dI)) (ci := 4) (v := .int 0) (ty := .int) (C := RX4) (T := TX4) (N := 6) hx hb hts in_wsX4_begin_X4 tyX4 tyX4_ok nmX4 hown hK hP hD hS q_14 hq_14 rfl 2 (by decide +kernel) (hts (.fieldLink RX4 30 "ShipOffice$Hiring" "offerCount" "I") iw_X4_begin_2) (fun _ h9 => h9) rfl (by decide +kernel) rfl rfl (Nat.le_of_ble_eq_true rfl) dX4_begin_19 (fun H locs hP1 hD1 hS => ?_)
  obtain ⟨S_15, eS_15⟩ : ∃ zq, zq = setI S_11 o 2 0 := ⟨_, rfl⟩
  have hP : va_P (dC, dI) vwCl (oW cq S_15) H := by rw [eS_15]; exact cP (oset t_13.1 hq_14 hD rfl (he_4_2 t_13.2) neI) hP1
  have hD : va_D A (oW cq S_15) := by rw [eS_15]; exact cD (oset t_13.1 hq_14 hD rfl (he_4_2 t_13.2) neI) hD1
  clear hP1 hD1
  have hIS_15 : oInv S_15 := by rw [eS_15]; exact oInv.I0 (k := 4) (lo := 0) (hi := 12) hIS_11 t_13.2 (by decide +kernel) rfl rfl rfl (by decide +kernel)
  have XS_15 : oX [402] S_11 S_15 := by rw [eS_15]; exact oX.I (k := 4) (key := 402) t_13.2 rfl (List.mem_singleton.mpr rfl)
  have X_16 : oX [402, 404, 405, 2018, 2061] Z S_15 := oX.st X_12 XS_15 (by decide +kernel)
  refine lv_aload_n hx hb dX4_begin_22 rfl (lv_at hl 0 rfl) ?_
  refine lv_iload_n hx hb dX4_begin_23 rfl (lv_at hl 1 rfl) ?_
  have t_17 : oty S_15 o 4 := (oX.ty XS_15 t_13)
  obtain ⟨q_18, hq_18⟩ := og (cq := cq) t_17.1 (oE_4 t_17.2)
  refine va_put (D := (dC, dI)) (ci := 4) (v := .int x1) (ty := .int) (C := RX4) (T := TX4) (N := 6) hx hb hts in_wsX4_begin_X4 tyX4 tyX4_ok nmX4 hown hK hP hD hS q_18 hq_18 rfl 4 (by decide +kernel) (hts (.fieldLink RX4 34 "ShipOffice$Hiring" "goal" "I") iw_X4_begin_3) (fun _ h9 => h9) rfl (by decide +kernel) rfl rfl (Nat.le_of_ble_eq_true rfl) dX4_begin_24 (fun H locs hP1 hD1 hS => ?_)
  obtain ⟨S_19, eS_19⟩ : ∃ zq, zq = setI S_15 o 4 x1 := ⟨_, rfl⟩
  have hP : va_P (dC, dI) vwCl (oW cq S_19) H := by rw [eS_19]; exact cP (oset t_17.1 hq_18 hD rfl (he_4_4 t_17.2) neI) hP1
  have hD : va_D A (oW cq S_19) := by rw [eS_19]; exact cD (oset t_17.1 hq_18 hD rfl (he_4_4 t_17.2) neI) hD1
  clear hP1 hD1
  have hIS_19 : oInv S_19 := by rw [eS_19]; exact oInv.I0 (k := 4) (lo := 0) (hi := 80) hIS_15 t_17.2 (by decide +kernel) rfl rfl rfl (by omega)
  have XS_19 : oX [404] S_15 S_19 := by rw [eS_19]; exact oX.I (k := 4) (key := 404) t_17.2 rfl (List.mem_singleton.mpr rfl)
  have X_20 : oX [402, 404, 405, 2018, 2061] Z S_19 := oX.st X_16 XS_19 (by decide +kernel)
  refine lv_aload_n hx hb dX4_begin_27 rfl (lv_at hl 0 rfl) ?_
  refine lv_iconst (v := 0) hx hb dX4_begin_28 (by decide +kernel) ?_
  have t_21 : oty S_19 o 4 := (oX.ty XS_19 t_17)
  obtain ⟨q_22, hq_22⟩ := og (cq := cq) t_21.1 (oE_4 t_21.2)
  refine va_put (D := (dC, dI)) (ci := 4) (v := .int 0) (ty := .int) (C := RX4) (T := TX4) (N := 6) hx hb hts in_wsX4_begin_X4 tyX4 tyX4_ok nmX4 hown hK hP hD hS q_22 hq_22 rfl 5 (by decide +kernel) (hts (.fieldLink RX4 37 "ShipOffice$Hiring" "places" "I") iw_X4_begin_4) (fun _ h9 => h9) rfl (by decide +kernel) rfl rfl (Nat.le_of_ble_eq_true rfl) dX4_begin_29 (fun H locs hP1 hD1 hS => ?_)
  obtain ⟨S_23, eS_23⟩ : ∃ zq, zq = setI S_19 o 5 0 := ⟨_, rfl⟩
  have hP : va_P (dC, dI) vwCl (oW cq S_23) H := by rw [eS_23]; exact cP (oset t_21.1 hq_22 hD rfl (he_4_5 t_21.2) neI) hP1
  have hD : va_D A (oW cq S_23) := by rw [eS_23]; exact cD (oset t_21.1 hq_22 hD rfl (he_4_5 t_21.2) neI) hD1
  clear hP1 hD1
  have hIS_23 : oInv S_23 := by rw [eS_23]; exact oInv.I0 (k := 4) (lo := -2147483648) (hi := 2147483647) hIS_19 t_21.2 (by decide +kernel) rfl rfl rfl (iv_all _)
  have XS_23 : oX [405] S_19 S_23 := by rw [eS_23]; exact oX.I (k := 4) (key := 405) t_21.2 rfl (List.mem_singleton.mpr rfl)
  have X_24 : oX [402, 404, 405, 2018, 2061] Z S_23 := oX.st X_20 XS_23 (by decide +kernel)
  refine lv_iconst (v := 0) hx hb dX4_begin_32 (by decide +kernel) ?_
  refine lv_istore_n (lv' := [(2, .int 0), (0, .ref o), (1, .int x1)]) hx hb dX4_begin_33 rfl hl (by decide +kernel) rfl (fun ls hl => ?_)
  have cut_25 : ∀ (n : Nat) (y_26 : Int32) (S_27 : oS) (H : Heap) (locs : List Loc) (ls : Array Slot), 4 - y_26.toInt ≤ (n : Int) → (0 ≤ y_26.toInt ∧ y_26.toInt ≤ 4) → oInv S_27 → oX [402, 404, 405, 2018, 2061] S_23 S_27 → va_P (dC, dI) vwCl (oW cq S_27) H → va_D A (oW cq S_27) → va_S A s.heap H locs → lv_has ls 3 [(2, .int y_26), (0, .ref o), (1, .int x1)] → W p l e (headSpec wsX4_begin { frames := 1, cells := 0, slots := 0, locals := 24 }).room s m #[Value.ref o, Value.int x1] below meth c H locs 0 0 (MQ below (va_Qv (fun (u : oS) => oInv u ∧ oX [402, 404, 405, 2018, 2061] Z u) (fun u t => va_P (dC, dI) vwCl (oW cq u) t.heap ∧ va_K (dC, dI) vwCl (oT cq) t ∧ va_D A (oW cq u)) A) #[Value.ref o, Value.int x1] s 0 0 A) (F0 m 34 ls []) := by
    intro n
    induction n using Nat.strongRecOn with
    | ind n ih =>
      intro y_26 S_27 H locs ls hm hy_26 hIS_27 XS_27 hP hD hS hl
      have YS_27 : oX [402, 404, 405, 2018, 2061] Z S_27 := oX.st X_24 XS_27 (fun _ q => q)
      refine lv_iload_n hx hb dX4_begin_34 rfl (lv_at hl 0 rfl) ?_
      refine lv_iconst (v := 4) hx hb dX4_begin_35 (by decide +kernel) ?_
      refine lv_icmp_ge (tgt := 69) hx hb dX4_begin_36 (by decide +kernel) (fun c_28 => ?_) (fun c_28 => ?_)
      · have dc_28 := c_le (a := 4) (b := y_26.toInt) (by decide +kernel) rfl c_28
        exact W.vret hx hb hr (fun t ht hW => ⟨⟨S_27, rfl, ⟨hIS_27, YS_27⟩, ⟨by rw [ht]; exact hP, va_K.moved hW.alike hK, hD⟩⟩, hS.F ht⟩) hS.2.2 dX4_begin_69
      · have dc_28 := c_nle (a := 4) (b := y_26.toInt) (by decide +kernel) rfl c_28
        refine lv_aload_n hx hb dX4_begin_39 rfl (lv_at hl 1 rfl) ?_
        have t_29 : oty S_27 o 4 := (oX.ty XS_27 (oX.ty XS_23 t_21))
        obtain ⟨q_30, hq_30⟩ := og (cq := cq) t_29.1 (oE_4 t_29.2)
        obtain ⟨b_31, hb_31⟩ := oInv.nn (i := 3) hIS_27 t_29 rfl
        refine va_get (D := (dC, dI)) (ci := 4) (v := .ref b_31) (C := RX4) (T := TX4) (N := 6) hx hb hts in_wsX4_begin_X4 hown hK hP q_30 hq_30 rfl 3 (by decide +kernel) (hts (.fieldLink RX4 19 "ShipOffice$Hiring" "firstPlace" "[I") iw_X4_begin_5) (fun _ h9 => h9) (o_rd hb_31) dX4_begin_40 ?_
        have tb_31 : oty S_27 b_31 61 := oInv.rd hIS_27 t_29.2 hb_31 rfl rfl
        refine lv_iload_n hx hb dX4_begin_43 rfl (lv_at hl 0 rfl) ?_
        refine lv_aload_n hx hb dX4_begin_44 rfl (lv_at hl 1 rfl) ?_
        refine va_get (D := (dC, dI)) (ci := 4) (v := .int (oI S_27 o 5)) (C := RX4) (T := TX4) (N := 6) hx hb hts in_wsX4_begin_X4 hown hK hP q_30 hq_30 rfl 5 (by decide +kernel) (hts (.fieldLink RX4 37 "ShipOffice$Hiring" "places" "I") iw_X4_begin_4) (fun _ h9 => h9) rfl dX4_begin_45 ?_
        refine lv_topi (fun x_32 ex_32 => ?_)
        clear ex_32
        obtain ⟨q_33, hq_33⟩ := og (cq := cq) tb_31.1 (oE_61 tb_31.2)
        refine va_iast hx hb hK hP hD hS q_33 0 hq_33 rfl (vp_in_iff.mpr (by omega)) dX4_begin_48 (fun H locs hP1 hD1 hS => ?_)
        obtain ⟨S_34, eS_34⟩ : ∃ zq, zq = setI S_27 b_31 (y_26 : Int32).toNatClampNeg x_32 := ⟨_, rfl⟩
        have hP : va_P (dC, dI) vwCl (oW cq S_34) H := by rw [eS_34]; exact cP (oset tb_31.1 hq_33 hD rfl (he_61 tb_31.2) neI) hP1
        have hD : va_D A (oW cq S_34) := by rw [eS_34]; exact cD (oset tb_31.1 hq_33 hD rfl (he_61 tb_31.2) neI) hD1
        clear hP1 hD1
        have hIS_34 : oInv S_34 := by rw [eS_34]; exact oInv.A (k := 61) hIS_27 tb_31.2 (by decide +kernel)
        have XS_34 : oX [2061] S_27 S_34 := by rw [eS_34]; exact oX.I (k := 61) (key := 2061) tb_31.2 rfl (List.mem_singleton.mpr rfl)
        have X_35 : oX [402, 404, 405, 2018, 2061] Z S_34 := oX.st YS_27 XS_34 (by decide +kernel)
        refine lv_aload_n hx hb dX4_begin_49 rfl (lv_at hl 1 rfl) ?_
        refine lv_dup hx hb dX4_begin_50 rfl ?_
        have t_36 : oty S_34 o 4 := (oX.ty XS_34 t_29)
        obtain ⟨q_37, hq_37⟩ := og (cq := cq) t_36.1 (oE_4 t_36.2)
        refine va_get (D := (dC, dI)) (ci := 4) (v := .int (oI S_34 o 5)) (C := RX4) (T := TX4) (N := 6) hx hb hts in_wsX4_begin_X4 hown hK hP q_37 hq_37 rfl 5 (by decide +kernel) (hts (.fieldLink RX4 37 "ShipOffice$Hiring" "places" "I") iw_X4_begin_4) (fun _ h9 => h9) rfl dX4_begin_51 ?_
        refine lv_topi (fun x_38 ex_38 => ?_)
        clear ex_38
        refine lv_iload_n hx hb dX4_begin_54 rfl (lv_at hl 2 rfl) ?_
        refine lv_iload_n hx hb dX4_begin_55 rfl (lv_at hl 0 rfl) ?_
        have hFc : ∀ q, va_A [] H.size q → A q := pu_free hS hA
        refine va_calli (va_runS (As := [.int x1, .int y_26]) (rest := [.int x_38, .ref o]) ⟨hx, hb, hml, hown, hts⟩ (c_X4_handsOf l dC dI H.size tL tS tG cq S_34 hIS_34 x1 (by omega) y_26 (by omega)) (va_cwS 2 hts gX4_begin_X4_handsOf rfl rfl rfl (by decide +kernel) ⟨(Nat.le_of_ble_eq_true rfl), (Nat.le_of_ble_eq_true rfl)⟩) (pr_SO hP hK hD (hZ.go hS hFc)) rfl rfl hl.1 rfl (lv_room (Nat.le_of_ble_eq_true rfl)) dX4_begin_56 ⟨(Nat.le_of_ble_eq_true rfl), (Nat.le_of_ble_eq_true rfl)⟩) hS (fun q _ h => hFc q h) hFc (fun r_40 u t H locs ht hvm w_39 hB hz1 hk1 hS => ?_)
        have hP := pu_keep hP hk1
        clear hk1 hz1 hvm hB ht hFc
        obtain ⟨hb_41, hx_42⟩ := w_39
        refine lv_iadd hx hb dX4_begin_59 ?_
        refine lv_topi (fun x_43 ex_43 => ?_)
        clear ex_43
        refine va_put (D := (dC, dI)) (ci := 4) (v := .int x_43) (ty := .int) (C := RX4) (T := TX4) (N := 6) hx hb hts in_wsX4_begin_X4 tyX4 tyX4_ok nmX4 hown hK hP hD hS q_37 hq_37 rfl 5 (by decide +kernel) (hts (.fieldLink RX4 37 "ShipOffice$Hiring" "places" "I") iw_X4_begin_4) (fun _ h9 => h9) rfl (by decide +kernel) rfl rfl (Nat.le_of_ble_eq_true rfl) dX4_begin_60 (fun H locs hP1 hD1 hS => ?_)
        obtain ⟨S_44, eS_44⟩ : ∃ zq, zq = setI S_34 o 5 x_43 := ⟨_, rfl⟩
        have hP : va_P (dC, dI) vwCl (oW cq S_44) H := by rw [eS_44]; exact cP (oset t_36.1 hq_37 hD rfl (he_4_5 t_36.2) neI) hP1
        have hD : va_D A (oW cq S_44) := by rw [eS_44]; exact cD (oset t_36.1 hq_37 hD rfl (he_4_5 t_36.2) neI) hD1
        clear hP1 hD1
        have hIS_44 : oInv S_44 := by rw [eS_44]; exact oInv.I0 (k := 4) (lo := -2147483648) (hi := 2147483647) hIS_34 t_36.2 (by decide +kernel) rfl rfl rfl (iv_all _)
        have XS_44 : oX [405] S_34 S_44 := by rw [eS_44]; exact oX.I (k := 4) (key := 405) t_36.2 rfl (List.mem_singleton.mpr rfl)
        have X_45 : oX [402, 404, 405, 2018, 2061] Z S_44 := oX.st X_35 XS_44 (by decide +kernel)
        obtain ⟨x_46, ex_46⟩ : ∃ zq : Int32, y_26 + 1 = zq := ⟨_, rfl⟩
        have hx_46 : x_46.toInt = y_26.toInt + 1 := (iv_to ex_46).symm.trans (ad_i rfl (by decide +kernel) (by omega) (by omega))
        refine lv_iinc (v := x_46) (lv' := [(2, .int x_46), (0, .ref o), (1, .int x1)]) hx hb dX4_begin_63 hl (k := 0) rfl ex_46 (by decide +kernel) rfl (fun ls hl => ?_)
        clear ex_46
        refine lv_goto (tgt := 34) hx hb dX4_begin_66 (by decide +kernel) ?_
        exact ih (n - 1) (by omega) x_46 S_44 _ _ ls (by omega) (by omega) hIS_44 (oX.st (oX.st (oX.st oX.rf XS_27 (by decide +kernel)) XS_34 (by decide +kernel)) XS_44 (by decide +kernel)) hP hD hS (lv_sub hl [0, 1, 2] rfl)
  have kc_47 : (0 : Int32).toInt = 0 := by decide
  exact cut_25 5 0 S_23 _ _ ls (by omega) (by decide +kernel) hIS_23 oX.rf hP hD hS (lv_sub hl [0, 1, 2] rfl)
set_option maxHeartbeats 4000000 in
set_option maxRecDepth 100000 in
theorem c_X4_leastSum (l : Launch) (dC : Nat → ClassId) (dI : Nat → Nat → Nat) (sz : Nat) (cq : Nat → ClassId) (Z : oS) (gI : oInv Z) (o : Nat) (to : oty Z o 4) : Met l yX4_leastSum wsX4_leastSum ({ frames := 0, cells := 0, slots := 0, locals := 0 }) (va_Pc [.ref o] (pcW (dC, dI) (oT cq) (oW cq Z) sz)) (va_Qi (fun (r : Int32) (u : Unit) => True) (fun _ _ => True) (va_A [] sz)) 0 0 (va_A [] sz) := by
  refine Met.ofW (cc := cX4_leastSum) (maxL := 1) (ret := (some .int)) (by decide +kernel) rfl ?_
  intro p e s m args below meth c s₁ B hml hv
  obtain ⟨rfl, hsz, hP, hK, hD0⟩ := hv
  have hx := B.exec
  have hb := B.bytes
  have hr := B.returns
  have hts := atoms_spec (ws := wsX4_leastSum) B.pre
  have hown : s.vm.findClass RX4 = some m.cls := findClass_of_methodNamed B.named
  have hlocks := B.notSynchronized
  subst hsz
  have hD := hD0
  generalize hAe : va_A [] s.heap.size = A at ⊢
  have hA : ∀ q : Nat, s.heap.size ≤ q → A q := fun q h => by rw [← hAe]; exact Or.inr h
  have hS : va_S A s.heap s.heap [] := va_S.rf
  have hP : va_P (dC, dI) vwCl (oW cq Z) s.heap := hP
  have hl := lv_entry ([.ref o]) (n := 1) (Nat.le_of_ble_eq_true rfl)
  rw [lg_entry_eq]
  generalize (lg_sl ([.ref o]) ++ List.replicate (1 - (lg_sl ([.ref o])).length) Slot.unset).toArray = ls at hl ⊢
  have hl : lv_has ls 1 [(0, .ref o)] := hl
  refine lv_aload_n hx hb dX4_leastSum_0 rfl (lv_at hl 0 rfl) ?_
  obtain ⟨q_1, hq_1⟩ := og (cq := cq) to.1 (oE_4 to.2)
  obtain ⟨b_2, hb_2⟩ := oInv.nn (i := 0) gI to rfl
  refine va_get (D := (dC, dI)) (ci := 4) (v := .ref b_2) (C := RX4) (T := TX4) (N := 6) hx hb hts in_wsX4_leastSum_X4 hown hK hP q_1 hq_1 rfl 0 (by decide +kernel) (hts (.fieldLink RX4 11 "ShipOffice$Hiring" "best" "[J") iw_X4_leastSum_1) (fun _ h9 => h9) (o_rd hb_2) dX4_leastSum_1 ?_
  have tb_2 : oty Z b_2 18 := oInv.rd gI to.2 hb_2 rfl rfl
  refine lv_aload_n hx hb dX4_leastSum_4 rfl (lv_at hl 0 rfl) ?_
  refine va_get (D := (dC, dI)) (ci := 4) (v := .int (oI Z o 4)) (C := RX4) (T := TX4) (N := 6) hx hb hts in_wsX4_leastSum_X4 hown hK hP q_1 hq_1 rfl 4 (by decide +kernel) (hts (.fieldLink RX4 34 "ShipOffice$Hiring" "goal" "I") iw_X4_leastSum_2) (fun _ h9 => h9) rfl dX4_leastSum_5 ?_
  refine lv_topi (fun x_3 ex_3 => ?_)
  have hx_3 : 0 ≤ x_3.toInt ∧ x_3.toInt ≤ 80 := iv_of ex_3 (oInv.iv gI to.2 rfl rfl)
  have gx_3 : x_3.toInt = (oI Z o 4).toInt := iv_to ex_3
  clear ex_3
  obtain ⟨q_4, hq_4⟩ := og (cq := cq) tb_2.1 (oE_18 tb_2.2)
  refine va_lald hx hb hK hP q_4 1 hq_4 rfl (vp_in_iff.mpr (by omega)) dX4_leastSum_8 ?_
  refine lv_topl (fun l_5 _ => ?_)
  refine lv_ldc2 (v := 1152921504606846976) hx hb hown (hts (.constantLong RX4 22 (1152921504606846976)) (by decide +kernel)) dX4_leastSum_9 ?_
  refine W.lcmp hx hb dX4_leastSum_12 ?_
  refine lv_topi (fun x_6 ex_6 => ?_)
  clear ex_6
  refine lv_if_ne (tgt := 21) hx hb dX4_leastSum_13 (by decide +kernel) (fun c_7 => ?_) (fun c_7 => ?_)
  · have dc_7 := c_ne (a := x_6.toInt) (b := 0) rfl (by decide +kernel) c_7
    refine lv_aload_n hx hb dX4_leastSum_21 rfl (lv_at hl 0 rfl) ?_
    refine va_get (D := (dC, dI)) (ci := 4) (v := .ref b_2) (C := RX4) (T := TX4) (N := 6) hx hb hts in_wsX4_leastSum_X4 hown hK hP q_1 hq_1 rfl 0 (by decide +kernel) (hts (.fieldLink RX4 11 "ShipOffice$Hiring" "best" "[J") iw_X4_leastSum_1) (fun _ h9 => h9) (o_rd hb_2) dX4_leastSum_22 ?_
    refine lv_aload_n hx hb dX4_leastSum_25 rfl (lv_at hl 0 rfl) ?_
    refine va_get (D := (dC, dI)) (ci := 4) (v := .int (oI Z o 4)) (C := RX4) (T := TX4) (N := 6) hx hb hts in_wsX4_leastSum_X4 hown hK hP q_1 hq_1 rfl 4 (by decide +kernel) (hts (.fieldLink RX4 34 "ShipOffice$Hiring" "goal" "I") iw_X4_leastSum_2) (fun _ h9 => h9) rfl dX4_leastSum_26 ?_
    refine lv_topi (fun x_8 ex_8 => ?_)
    have hx_8 : 0 ≤ x_8.toInt ∧ x_8.toInt ≤ 80 := iv_of ex_8 (oInv.iv gI to.2 rfl rfl)
    have gx_8 : x_8.toInt = (oI Z o 4).toInt := iv_to ex_8
    clear ex_8
    refine va_lald hx hb hK hP q_4 1 hq_4 rfl (vp_in_iff.mpr (by omega)) dX4_leastSum_29 ?_
    refine lv_topl (fun l_9 _ => ?_)
    refine lv_bipush (v := 32) hx hb dX4_leastSum_30 (by decide +kernel) ?_
    refine lv_lshr (v := l_9 >>> ((32 : Int32).toInt64 &&& 63)) hx hb dX4_leastSum_32 rfl ?_
    refine lv_l2i (v := (l_9 >>> ((32 : Int32).toInt64 &&& 63) : Int64).toInt32) hx hb dX4_leastSum_33 rfl ?_
    refine lv_topi (fun x_10 ex_10 => ?_)
    clear ex_10
    exact W.iret (v := x_10) hx hb hr (fun t ht hW => ⟨⟨x_10, (), rfl, trivial, trivial⟩, hS.F ht⟩) hS.2.2 dX4_leastSum_34
  · have dc_7 := c_eq (a := x_6.toInt) (b := 0) rfl (by decide +kernel) c_7
    refine lv_bipush (v := (-9)) hx hb dX4_leastSum_16 (by decide +kernel) ?_
    refine lv_goto (tgt := 34) hx hb dX4_leastSum_18 (by decide +kernel) ?_
    exact W.iret (v := (-9)) hx hb hr (fun t ht hW => ⟨⟨(-9), (), rfl, trivial, trivial⟩, hS.F ht⟩) hS.2.2 dX4_leastSum_34
set_option maxHeartbeats 4000000 in
set_option maxRecDepth 100000 in
theorem c_X4_hand (l : Launch) (dC : Nat → ClassId) (dI : Nat → Nat → Nat) (sz : Nat) (cq : Nat → ClassId) (Z : oS) (gI : oInv Z) (o : Nat) (to : oty Z o 4) (x1 : Int32) : Met l yX4_hand wsX4_hand ({ frames := 1, cells := 0, slots := 0, locals := 20 }) (va_Pc [.ref o, .int x1] (pcW (dC, dI) (oT cq) (oW cq Z) sz)) (va_Qi (fun (r : Int32) (u : Unit) => True) (fun _ _ => True) (va_A [] sz)) 0 0 (va_A [] sz) := by
  refine Met.ofW (cc := cX4_hand) (maxL := 3) (ret := (some .int)) (by decide +kernel) rfl ?_
  intro p e s m args below meth c s₁ B hml hv
  obtain ⟨rfl, hsz, hP, hK, hD0⟩ := hv
  have hx := B.exec
  have hb := B.bytes
  have hr := B.returns
  have hts := atoms_spec (ws := wsX4_hand) B.pre
  have hown : s.vm.findClass RX4 = some m.cls := findClass_of_methodNamed B.named
  have hlocks := B.notSynchronized
  subst hsz
  have hD := hD0
  generalize hAe : va_A [] s.heap.size = A at ⊢
  have hA : ∀ q : Nat, s.heap.size ≤ q → A q := fun q h => by rw [← hAe]; exact Or.inr h
  have hS : va_S A s.heap s.heap [] := va_S.rf
  have hP : va_P (dC, dI) vwCl (oW cq Z) s.heap := hP
  have hl := lv_entry ([.ref o, .int x1]) (n := 3) (Nat.le_of_ble_eq_true rfl)
  rw [lg_entry_eq]
  generalize (lg_sl ([.ref o, .int x1]) ++ List.replicate (3 - (lg_sl ([.ref o, .int x1])).length) Slot.unset).toArray = ls at hl ⊢
  have hl : lv_has ls 3 [(0, .ref o), (1, .int x1)] := hl
  refine lv_aload_n hx hb dX4_hand_0 rfl (lv_at hl 0 rfl) ?_
  obtain ⟨q_1, hq_1⟩ := og (cq := cq) to.1 (oE_4 to.2)
  obtain ⟨b_2, hb_2⟩ := oInv.nn (i := 0) gI to rfl
  refine va_get (D := (dC, dI)) (ci := 4) (v := .ref b_2) (C := RX4) (T := TX4) (N := 6) hx hb hts in_wsX4_hand_X4 hown hK hP q_1 hq_1 rfl 0 (by decide +kernel) (hts (.fieldLink RX4 11 "ShipOffice$Hiring" "best" "[J") iw_X4_hand_1) (fun _ h9 => h9) (o_rd hb_2) dX4_hand_1 ?_
  have tb_2 : oty Z b_2 18 := oInv.rd gI to.2 hb_2 rfl rfl
  refine lv_aload_n hx hb dX4_hand_4 rfl (lv_at hl 0 rfl) ?_
  refine va_get (D := (dC, dI)) (ci := 4) (v := .int (oI Z o 4)) (C := RX4) (T := TX4) (N := 6) hx hb hts in_wsX4_hand_X4 hown hK hP q_1 hq_1 rfl 4 (by decide +kernel) (hts (.fieldLink RX4 34 "ShipOffice$Hiring" "goal" "I") iw_X4_hand_2) (fun _ h9 => h9) rfl dX4_hand_5 ?_
  refine lv_topi (fun x_3 ex_3 => ?_)
  have hx_3 : 0 ≤ x_3.toInt ∧ x_3.toInt ≤ 80 := iv_of ex_3 (oInv.iv gI to.2 rfl rfl)
  have gx_3 : x_3.toInt = (oI Z o 4).toInt := iv_to ex_3
  clear ex_3
  obtain ⟨q_4, hq_4⟩ := og (cq := cq) tb_2.1 (oE_18 tb_2.2)
  refine va_lald hx hb hK hP q_4 1 hq_4 rfl (vp_in_iff.mpr (by omega)) dX4_hand_8 ?_
  refine lv_topl (fun l_5 _ => ?_)
  refine lv_ldc2 (v := 1152921504606846976) hx hb hown (hts (.constantLong RX4 22 (1152921504606846976)) (by decide +kernel)) dX4_hand_9 ?_
  refine W.lcmp hx hb dX4_hand_12 ?_
  refine lv_topi (fun x_6 ex_6 => ?_)
  clear ex_6
  refine lv_if_eq (tgt := 24) hx hb dX4_hand_13 (by decide +kernel) (fun c_7 => ?_) (fun c_7 => ?_)
  · have dc_7 := c_eq (a := x_6.toInt) (b := 0) rfl (by decide +kernel) c_7
    refine lv_bipush (v := (-9)) hx hb dX4_hand_24 (by decide +kernel) ?_
    exact W.iret (v := (-9)) hx hb hr (fun t ht hW => ⟨⟨(-9), (), rfl, trivial, trivial⟩, hS.F ht⟩) hS.2.2 dX4_hand_26
  · have dc_7 := c_ne (a := x_6.toInt) (b := 0) rfl (by decide +kernel) c_7
    refine lv_iload_n hx hb dX4_hand_16 rfl (lv_at hl 1 rfl) ?_
    refine lv_aload_n hx hb dX4_hand_17 rfl (lv_at hl 0 rfl) ?_
    refine va_get (D := (dC, dI)) (ci := 4) (v := .int (oI Z o 5)) (C := RX4) (T := TX4) (N := 6) hx hb hts in_wsX4_hand_X4 hown hK hP q_1 hq_1 rfl 5 (by decide +kernel) (hts (.fieldLink RX4 37 "ShipOffice$Hiring" "places" "I") iw_X4_hand_3) (fun _ h9 => h9) rfl dX4_hand_18 ?_
    refine lv_topi (fun x_8 ex_8 => ?_)
    clear ex_8
    refine lv_icmp_lt (tgt := 27) hx hb dX4_hand_21 (by decide +kernel) (fun c_9 => ?_) (fun c_9 => ?_)
    · have dc_9 := c_lt (a := x1.toInt) (b := x_8.toInt) rfl rfl c_9
      refine lv_aload_n hx hb dX4_hand_27 rfl (lv_at hl 0 rfl) ?_
      refine va_get (D := (dC, dI)) (ci := 4) (v := .ref b_2) (C := RX4) (T := TX4) (N := 6) hx hb hts in_wsX4_hand_X4 hown hK hP q_1 hq_1 rfl 0 (by decide +kernel) (hts (.fieldLink RX4 11 "ShipOffice$Hiring" "best" "[J") iw_X4_hand_1) (fun _ h9 => h9) (o_rd hb_2) dX4_hand_28 ?_
      refine lv_aload_n hx hb dX4_hand_31 rfl (lv_at hl 0 rfl) ?_
      refine va_get (D := (dC, dI)) (ci := 4) (v := .int (oI Z o 4)) (C := RX4) (T := TX4) (N := 6) hx hb hts in_wsX4_hand_X4 hown hK hP q_1 hq_1 rfl 4 (by decide +kernel) (hts (.fieldLink RX4 34 "ShipOffice$Hiring" "goal" "I") iw_X4_hand_2) (fun _ h9 => h9) rfl dX4_hand_32 ?_
      refine lv_topi (fun x_10 ex_10 => ?_)
      have hx_10 : 0 ≤ x_10.toInt ∧ x_10.toInt ≤ 80 := iv_of ex_10 (oInv.iv gI to.2 rfl rfl)
      have gx_10 : x_10.toInt = (oI Z o 4).toInt := iv_to ex_10
      clear ex_10
      refine va_lald hx hb hK hP q_4 1 hq_4 rfl (vp_in_iff.mpr (by omega)) dX4_hand_35 ?_
      refine lv_topl (fun l_11 _ => ?_)
      refine lv_iload_n hx hb dX4_hand_36 rfl (lv_at hl 1 rfl) ?_
      have hFc : ∀ q, va_A [] s.heap.size q → A q := pu_free hS hA
      have hPc := hP.sub (ws' := []) [] rfl
      have hDc := hD.sub (ws' := []) [] (by decide +kernel) rfl
      have hKc := hK.sub (tys' := []) [] rfl
      refine va_calli (va_runS (As := [.int x1]) (rest := [.long l_11]) ⟨hx, hb, hml, hown, hts⟩ (c_X4_handShift l dC dI s.heap.size  x1) (va_cwS 1 hts gX4_hand_X4_handShift rfl rfl rfl (by decide +kernel) ⟨(Nat.le_of_ble_eq_true rfl), (Nat.le_of_ble_eq_true rfl)⟩) (pr_S hPc hKc hDc) rfl rfl hl.1 rfl (lv_room (Nat.le_of_ble_eq_true rfl)) dX4_hand_37 ⟨(Nat.le_of_ble_eq_true rfl), (Nat.le_of_ble_eq_true rfl)⟩) hS (fun q _ h => hFc q h) hFc (fun r_13 u t H locs ht hvm w_12 hB hz1 hk1 hS => ?_)
      have hP := pu_keep hP hk1
      clear hk1 hz1 hvm hB ht hFc hPc hDc hKc
      refine lv_lshr (v := l_11 >>> ((r_13 : Int32).toInt64 &&& 63)) hx hb dX4_hand_40 rfl ?_
      refine lv_ldc2 (v := 15) hx hb hown (hts (.constantLong RX4 69 (15)) (by decide +kernel)) dX4_hand_41 ?_
      refine lv_land hx hb dX4_hand_44 ?_
      refine lv_l2i (v := ((l_11 >>> ((r_13 : Int32).toInt64 &&& 63)) &&& 15 : Int64).toInt32) hx hb dX4_hand_45 rfl ?_
      refine lv_topi (fun x_14 ex_14 => ?_)
      have hx_14 : 0 ≤ x_14.toInt ∧ x_14.toInt ≤ 15 := iv_of ex_14 (l15 _)
      clear ex_14
      refine lv_istore_n (lv' := [(2, .int x_14), (0, .ref o), (1, .int x1)]) hx hb dX4_hand_46 rfl hl (by decide +kernel) rfl (fun ls hl => ?_)
      refine lv_iload_n hx hb dX4_hand_47 rfl (lv_at hl 0 rfl) ?_
      refine lv_bipush (v := 12) hx hb dX4_hand_48 (by decide +kernel) ?_
      refine lv_icmp_ge (tgt := 62) hx hb dX4_hand_50 (by decide +kernel) (fun c_15 => ?_) (fun c_15 => ?_)
      · have dc_15 := c_le (a := 12) (b := x_14.toInt) (by decide +kernel) rfl c_15
        refine lv_bipush (v := (-9)) hx hb dX4_hand_62 (by decide +kernel) ?_
        exact W.iret (v := (-9)) hx hb hr (fun t ht hW => ⟨⟨(-9), (), rfl, trivial, trivial⟩, hS.F ht⟩) hS.2.2 dX4_hand_64
      · have dc_15 := c_nle (a := 12) (b := x_14.toInt) (by decide +kernel) rfl c_15
        refine lv_aload_n hx hb dX4_hand_53 rfl (lv_at hl 1 rfl) ?_
        obtain ⟨b_16, hb_16⟩ := oInv.nn (i := 1) gI to rfl
        refine va_get (D := (dC, dI)) (ci := 4) (v := .ref b_16) (C := RX4) (T := TX4) (N := 6) hx hb hts in_wsX4_hand_X4 hown hK hP q_1 hq_1 rfl 1 (by decide +kernel) (hts (.fieldLink RX4 15 "ShipOffice$Hiring" "offers" "[I") iw_X4_hand_4) (fun _ h9 => h9) (o_rd hb_16) dX4_hand_54 ?_
        have tb_16 : oty Z b_16 62 := oInv.rd gI to.2 hb_16 rfl rfl
        refine lv_iload_n hx hb dX4_hand_57 rfl (lv_at hl 0 rfl) ?_
        obtain ⟨q_17, hq_17⟩ := og (cq := cq) tb_16.1 (oE_62 tb_16.2)
        refine va_iald hx hb hK hP q_17 0 hq_17 rfl (vp_in_iff.mpr (by omega)) dX4_hand_58 ?_
        refine lv_topi (fun x_18 ex_18 => ?_)
        clear ex_18
        refine lv_goto (tgt := 64) hx hb dX4_hand_59 (by decide +kernel) ?_
        exact W.iret (v := x_18) hx hb hr (fun t ht hW => ⟨⟨x_18, (), rfl, trivial, trivial⟩, hS.F ht⟩) hS.2.2 dX4_hand_64
    · have dc_9 := c_nlt (a := x1.toInt) (b := x_8.toInt) rfl rfl c_9
      refine lv_bipush (v := (-9)) hx hb dX4_hand_24 (by decide +kernel) ?_
      exact W.iret (v := (-9)) hx hb hr (fun t ht hW => ⟨⟨(-9), (), rfl, trivial, trivial⟩, hS.F ht⟩) hS.2.2 dX4_hand_26
