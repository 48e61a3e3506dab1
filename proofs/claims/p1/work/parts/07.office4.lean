def tyX4 : Nat → FieldType := fun k => match k with
  | 0 => .array .long
  | 1 => .array .int
  | 2 => .int
  | 3 => .array .int
  | 4 => .int
  | _ => .int
abbrev wsX40 : List Cond := u_ws RX4 TX4 6
theorem nmX4 : ∀ a, a < 6 → ∀ b, b < 6 → a ≠ b → (TX4 a).2.1 ≠ (TX4 b).2.1 := by decide +kernel
theorem tyX4_ok : ∀ k, k < 6 → parseFieldDescriptor (TX4 k).2.2.1 = some (tyX4 k) := by decide +kernel
abbrev cX4_begin : ByteArray := prog_6_method_2_code
def yX4_begin : MethodName := ⟨RX4, "begin", "(I)V"⟩
abbrev cX4_handsOf : ByteArray := prog_6_method_3_code
def yX4_handsOf : MethodName := ⟨RX4, "handsOf", "(II)I"⟩
abbrev cX4_offer : ByteArray := prog_6_method_4_code
def yX4_offer : MethodName := ⟨RX4, "offer", "(LShipOffice$Man;)V"⟩
abbrev cX4_placeIn : ByteArray := prog_6_method_5_code
def yX4_placeIn : MethodName := ⟨RX4, "placeIn", "(ILShipOffice$Man;)V"⟩
abbrev cX4_handShift : ByteArray := prog_6_method_6_code
def yX4_handShift : MethodName := ⟨RX4, "handShift", "(I)I"⟩
abbrev cX4_leastSum : ByteArray := prog_6_method_7_code
def yX4_leastSum : MethodName := ⟨RX4, "leastSum", "()I"⟩
abbrev cX4_hand : ByteArray := prog_6_method_8_code
def yX4_hand : MethodName := ⟨RX4, "hand", "(I)I"⟩
abbrev cX10_crew : ByteArray := prog_1_method_33_code
def yX10_crew : MethodName := ⟨RX10, "crew", "(II)I"⟩
abbrev cJ7_fill_d0a16 : ByteArray := prog_17_method_101_code
def yJ7_fill_d0a16 : MethodName := ⟨RJ7, "fill", "([JJ)V"⟩
def wsJ7_fill_d0a16 : List Cond := .code yJ7_fill_d0a16 cJ7_fill_d0a16 5 none :: ([])
def wsX4_handsOf : List Cond := .code yX4_handsOf cX4_handsOf 2 (some .int) :: ([.fieldLink RX4 44 "ShipOffice$Hiring" "STEP" "[I"])
def wsX4_begin : List Cond := .code yX4_begin cX4_begin 3 none :: ([.fieldLink RX4 11 "ShipOffice$Hiring" "best" "[J", .constantLong RX4 22 (1152921504606846976), .fieldLink RX4 30 "ShipOffice$Hiring" "offerCount" "I", .fieldLink RX4 34 "ShipOffice$Hiring" "goal" "I", .fieldLink RX4 37 "ShipOffice$Hiring" "places" "I", .fieldLink RX4 19 "ShipOffice$Hiring" "firstPlace" "[I", .methodLink RX4 24 yJ7_fill_d0a16, .static yJ7_fill_d0a16, .initialized RJ7, .code yJ7_fill_d0a16 cJ7_fill_d0a16 5 none, .methodLink RX4 40 yX4_handsOf, .static yX4_handsOf, .initialized RX4, .code yX4_handsOf cX4_handsOf 2 (some .int), .fieldLink RX4 44 "ShipOffice$Hiring" "STEP" "[I"] ++ wsX40)
def wsX4_leastSum : List Cond := .code yX4_leastSum cX4_leastSum 1 (some .int) :: ([.fieldLink RX4 11 "ShipOffice$Hiring" "best" "[J", .fieldLink RX4 34 "ShipOffice$Hiring" "goal" "I", .constantLong RX4 22 (1152921504606846976)] ++ wsX40)
def wsX4_hand : List Cond := .code yX4_hand cX4_hand 3 (some .int) :: ([.fieldLink RX4 11 "ShipOffice$Hiring" "best" "[J", .fieldLink RX4 34 "ShipOffice$Hiring" "goal" "I", .constantLong RX4 22 (1152921504606846976), .fieldLink RX4 37 "ShipOffice$Hiring" "places" "I", .constantLong RX4 69 (15), .fieldLink RX4 15 "ShipOffice$Hiring" "offers" "[I", .methodLink RX4 59 yX4_handShift, .static yX4_handShift, .initialized RX4, .code yX4_handShift cX4_handShift 1 (some .int)] ++ wsX40)
def wsX10_crew_r1 : List Cond := [Cond.fieldLink RX10 51 "ShipOffice" "hiring" "LShipOffice$Hiring;", Cond.fieldLink RX10 86 "ShipOffice" "manCount" "I", Cond.fieldLink RX10 11 "ShipOffice" "men" "[LShipOffice$Man;", Cond.methodLink RX10 69 yX10_refuse, Cond.instanceMethod yX10_refuse, Cond.selects RX10 yX10_refuse yX10_refuse, Cond.initialized RX10, Cond.code yX10_refuse cX10_refuse 2 (some .int), Cond.fieldLink RX10 66 "ShipOffice" "refusals" "[I", Cond.methodLink RX10 338 yX4_begin, Cond.instanceMethod yX4_begin, Cond.selects RX4 yX4_begin yX4_begin, Cond.initialized RX4, Cond.code yX4_begin cX4_begin 3 none, Cond.fieldLink RX4 11 "ShipOffice$Hiring" "best" "[J", Cond.constantLong RX4 22 (1152921504606846976), Cond.fieldLink RX4 30 "ShipOffice$Hiring" "offerCount" "I", Cond.fieldLink RX4 34 "ShipOffice$Hiring" "goal" "I", Cond.fieldLink RX4 37 "ShipOffice$Hiring" "places" "I", Cond.fieldLink RX4 19 "ShipOffice$Hiring" "firstPlace" "[I", Cond.methodLink RX4 24 yJ7_fill_d0a16, Cond.static yJ7_fill_d0a16, Cond.initialized RJ7, Cond.code yJ7_fill_d0a16 cJ7_fill_d0a16 5 none]
def wsX10_crew_r2 : List Cond := [Cond.methodLink RX4 40 yX4_handsOf, Cond.static yX4_handsOf, Cond.code yX4_handsOf cX4_handsOf 2 (some .int), Cond.fieldLink RX4 44 "ShipOffice$Hiring" "STEP" "[I", Cond.methodLink RX10 341 yX6_asks, Cond.instanceMethod yX6_asks, Cond.selects RX6 yX6_asks yX6_asks, Cond.initialized RX6, Cond.code yX6_asks cX6_asks 5 (some .boolean), Cond.fieldLink RX6 9 "ShipOffice$Man" "wages" "[I", Cond.methodLink RX10 212 yX10_isFree, Cond.instanceMethod yX10_isFree, Cond.selects RX10 yX10_isFree yX10_isFree, Cond.code yX10_isFree cX10_isFree 3 (some .boolean), Cond.fieldLink RX10 115 "ShipOffice" "agreementCount" "I", Cond.fieldLink RX10 23 "ShipOffice" "agreements" "[LShipOffice$Agreement;", Cond.fieldLink RX10 299 "ShipOffice$Agreement" "man" "LShipOffice$Man;", Cond.methodLink RX10 122 yX1_goesOn, Cond.instanceMethod yX1_goesOn, Cond.selects RX1 yX1_goesOn yX1_goesOn, Cond.initialized RX1, Cond.code yX1_goesOn cX1_goesOn 1 (some .boolean), Cond.fieldLink RX1 10 "ShipOffice$Agreement" "offDay" "I", Cond.constant RX1 9 (1000000)]
def wsX10_crew_r3 : List Cond := [Cond.fieldLink RX1 44 "ShipOffice$Agreement" "isDead" "Z", Cond.fieldLink RX1 33 "ShipOffice$Agreement" "voyage" "LShipOffice$Voyage;", Cond.fieldLink RX1 48 "ShipOffice$Voyage" "lostTold" "I", Cond.methodLink RX10 344 yX4_offer, Cond.instanceMethod yX4_offer, Cond.selects RX4 yX4_offer yX4_offer, Cond.code yX4_offer cX4_offer 3 none, Cond.fieldLink RX4 15 "ShipOffice$Hiring" "offers" "[I", Cond.fieldLink RX4 51 "ShipOffice$Man" "number" "I", Cond.methodLink RX4 47 yX4_placeIn, Cond.instanceMethod yX4_placeIn, Cond.selects RX4 yX4_placeIn yX4_placeIn, Cond.code yX4_placeIn cX4_placeIn 10 none, Cond.fieldLink RX4 56 "ShipOffice$Man" "wages" "[I", Cond.methodLink RX4 63 Lib.MathLoose.min_long.x, Cond.static Lib.MathLoose.min_long.x, Cond.initialized "java/lang/Math", Cond.code Lib.MathLoose.min_long.x Lib.MathLoose.min_long.code 4 (some .long), Cond.methodLink RX4 59 yX4_handShift, Cond.static yX4_handShift, Cond.code yX4_handShift cX4_handShift 1 (some .int), Cond.methodLink RX10 347 yX4_leastSum, Cond.instanceMethod yX4_leastSum, Cond.selects RX4 yX4_leastSum yX4_leastSum]
def wsX10_crew_r4 : List Cond := [Cond.code yX4_leastSum cX4_leastSum 1 (some .int), Cond.methodLink RX10 350 yX4_hand, Cond.instanceMethod yX4_hand, Cond.selects RX4 yX4_hand yX4_hand, Cond.code yX4_hand cX4_hand 3 (some .int), Cond.constantLong RX4 69 (15)]
def wsX10_crew : List Cond := .code yX10_crew cX10_crew 4 (some .int) :: ((wsX10_crew_r1 ++ (wsX10_crew_r2 ++ (wsX10_crew_r3 ++ wsX10_crew_r4))) ++ wsX100 ++ wsX40 ++ wsX60 ++ wsX10 ++ wsX90)
set_option maxRecDepth 20000 in
theorem ggX4_begin_J7_fill_d0a16 : GoodIn wsX4_begin wsJ7_fill_d0a16 := goodIn_r _ [10] (by decide +kernel) (by decide +kernel)
set_option maxRecDepth 20000 in
theorem gX4_begin_J7_fill_d0a16 : GoodIn wsX4_begin (va_wsS RX4 24 yJ7_fill_d0a16 wsJ7_fill_d0a16) := goodIn_app (goodIn_of _ (by decide +kernel)) ggX4_begin_J7_fill_d0a16
set_option maxRecDepth 20000 in
theorem ggX4_begin_X4_handsOf : GoodIn wsX4_begin wsX4_handsOf := goodIn_r _ [14, 15] (by decide +kernel) (by decide +kernel)
set_option maxRecDepth 20000 in
theorem gX4_begin_X4_handsOf : GoodIn wsX4_begin (va_wsS RX4 40 yX4_handsOf wsX4_handsOf) := goodIn_app (goodIn_of _ (by decide +kernel)) ggX4_begin_X4_handsOf
theorem dX4_begin_0 : decode cX4_begin 0 = .ok (.aload_n 0, 1) := by decide +kernel
theorem dX4_begin_1 : decode cX4_begin 1 = .ok (.getfield 11, 3) := by decide +kernel
theorem dX4_begin_4 : decode cX4_begin 4 = .ok (.ldc2_w 22, 3) := by decide +kernel
theorem dX4_begin_7 : decode cX4_begin 7 = .ok (.invokestatic 24, 3) := by decide +kernel
theorem dX4_begin_10 : decode cX4_begin 10 = .ok (.aload_n 0, 1) := by decide +kernel
theorem dX4_begin_11 : decode cX4_begin 11 = .ok (.getfield 11, 3) := by decide +kernel
theorem dX4_begin_14 : decode cX4_begin 14 = .ok (.iconst 0, 1) := by decide +kernel
theorem dX4_begin_15 : decode cX4_begin 15 = .ok (.lconst 0, 1) := by decide +kernel
theorem dX4_begin_16 : decode cX4_begin 16 = .ok (.lastore, 1) := by decide +kernel
theorem dX4_begin_17 : decode cX4_begin 17 = .ok (.aload_n 0, 1) := by decide +kernel
theorem dX4_begin_18 : decode cX4_begin 18 = .ok (.iconst 0, 1) := by decide +kernel
theorem dX4_begin_19 : decode cX4_begin 19 = .ok (.putfield 30, 3) := by decide +kernel
theorem dX4_begin_22 : decode cX4_begin 22 = .ok (.aload_n 0, 1) := by decide +kernel
theorem dX4_begin_23 : decode cX4_begin 23 = .ok (.iload_n 1, 1) := by decide +kernel
theorem dX4_begin_24 : decode cX4_begin 24 = .ok (.putfield 34, 3) := by decide +kernel
theorem dX4_begin_27 : decode cX4_begin 27 = .ok (.aload_n 0, 1) := by decide +kernel
theorem dX4_begin_28 : decode cX4_begin 28 = .ok (.iconst 0, 1) := by decide +kernel
theorem dX4_begin_29 : decode cX4_begin 29 = .ok (.putfield 37, 3) := by decide +kernel
theorem dX4_begin_32 : decode cX4_begin 32 = .ok (.iconst 0, 1) := by decide +kernel
theorem dX4_begin_33 : decode cX4_begin 33 = .ok (.istore_n 2, 1) := by decide +kernel
theorem dX4_begin_34 : decode cX4_begin 34 = .ok (.iload_n 2, 1) := by decide +kernel
theorem dX4_begin_35 : decode cX4_begin 35 = .ok (.iconst 4, 1) := by decide +kernel
theorem dX4_begin_36 : decode cX4_begin 36 = .ok (.if_icmp .ge 33, 3) := by decide +kernel
theorem dX4_begin_39 : decode cX4_begin 39 = .ok (.aload_n 0, 1) := by decide +kernel
theorem dX4_begin_40 : decode cX4_begin 40 = .ok (.getfield 19, 3) := by decide +kernel
theorem dX4_begin_43 : decode cX4_begin 43 = .ok (.iload_n 2, 1) := by decide +kernel
theorem dX4_begin_44 : decode cX4_begin 44 = .ok (.aload_n 0, 1) := by decide +kernel
theorem dX4_begin_45 : decode cX4_begin 45 = .ok (.getfield 37, 3) := by decide +kernel
theorem dX4_begin_48 : decode cX4_begin 48 = .ok (.iastore, 1) := by decide +kernel
theorem dX4_begin_49 : decode cX4_begin 49 = .ok (.aload_n 0, 1) := by decide +kernel
theorem dX4_begin_50 : decode cX4_begin 50 = .ok (.dup, 1) := by decide +kernel
theorem dX4_begin_51 : decode cX4_begin 51 = .ok (.getfield 37, 3) := by decide +kernel
theorem dX4_begin_54 : decode cX4_begin 54 = .ok (.iload_n 1, 1) := by decide +kernel
theorem dX4_begin_55 : decode cX4_begin 55 = .ok (.iload_n 2, 1) := by decide +kernel
theorem dX4_begin_56 : decode cX4_begin 56 = .ok (.invokestatic 40, 3) := by decide +kernel
theorem dX4_begin_59 : decode cX4_begin 59 = .ok (.iadd, 1) := by decide +kernel
theorem dX4_begin_60 : decode cX4_begin 60 = .ok (.putfield 37, 3) := by decide +kernel
theorem dX4_begin_63 : decode cX4_begin 63 = .ok (.iinc 2 1, 3) := by decide +kernel
theorem dX4_begin_66 : decode cX4_begin 66 = .ok (.goto (-32), 3) := by decide +kernel
theorem dX4_begin_69 : decode cX4_begin 69 = .ok (.return_, 1) := by decide +kernel
theorem dX4_handsOf_0 : decode cX4_handsOf 0 = .ok (.iload_n 0, 1) := by decide +kernel
theorem dX4_handsOf_1 : decode cX4_handsOf 1 = .ok (.getstatic 44, 3) := by decide +kernel
theorem dX4_handsOf_4 : decode cX4_handsOf 4 = .ok (.iload_n 1, 1) := by decide +kernel
theorem dX4_handsOf_5 : decode cX4_handsOf 5 = .ok (.iaload, 1) := by decide +kernel
theorem dX4_handsOf_6 : decode cX4_handsOf 6 = .ok (.idiv, 1) := by decide +kernel
theorem dX4_handsOf_7 : decode cX4_handsOf 7 = .ok (.iconst 3, 1) := by decide +kernel
theorem dX4_handsOf_8 : decode cX4_handsOf 8 = .ok (.irem, 1) := by decide +kernel
theorem dX4_handsOf_9 : decode cX4_handsOf 9 = .ok (.ireturn, 1) := by decide +kernel
theorem dX4_leastSum_0 : decode cX4_leastSum 0 = .ok (.aload_n 0, 1) := by decide +kernel
theorem dX4_leastSum_1 : decode cX4_leastSum 1 = .ok (.getfield 11, 3) := by decide +kernel
theorem dX4_leastSum_4 : decode cX4_leastSum 4 = .ok (.aload_n 0, 1) := by decide +kernel
theorem dX4_leastSum_5 : decode cX4_leastSum 5 = .ok (.getfield 34, 3) := by decide +kernel
theorem dX4_leastSum_8 : decode cX4_leastSum 8 = .ok (.laload, 1) := by decide +kernel
theorem dX4_leastSum_9 : decode cX4_leastSum 9 = .ok (.ldc2_w 22, 3) := by decide +kernel
theorem dX4_leastSum_12 : decode cX4_leastSum 12 = .ok (.lcmp, 1) := by decide +kernel
theorem dX4_leastSum_13 : decode cX4_leastSum 13 = .ok (.ifCond .ne 8, 3) := by decide +kernel
theorem dX4_leastSum_16 : decode cX4_leastSum 16 = .ok (.bipush (-9), 2) := by decide +kernel
theorem dX4_leastSum_18 : decode cX4_leastSum 18 = .ok (.goto 16, 3) := by decide +kernel
theorem dX4_leastSum_21 : decode cX4_leastSum 21 = .ok (.aload_n 0, 1) := by decide +kernel
theorem dX4_leastSum_22 : decode cX4_leastSum 22 = .ok (.getfield 11, 3) := by decide +kernel
theorem dX4_leastSum_25 : decode cX4_leastSum 25 = .ok (.aload_n 0, 1) := by decide +kernel
theorem dX4_leastSum_26 : decode cX4_leastSum 26 = .ok (.getfield 34, 3) := by decide +kernel
theorem dX4_leastSum_29 : decode cX4_leastSum 29 = .ok (.laload, 1) := by decide +kernel
theorem dX4_leastSum_30 : decode cX4_leastSum 30 = .ok (.bipush 32, 2) := by decide +kernel
theorem dX4_leastSum_32 : decode cX4_leastSum 32 = .ok (.lshr, 1) := by decide +kernel
theorem dX4_leastSum_33 : decode cX4_leastSum 33 = .ok (.l2i, 1) := by decide +kernel
theorem dX4_leastSum_34 : decode cX4_leastSum 34 = .ok (.ireturn, 1) := by decide +kernel
theorem dX4_hand_0 : decode cX4_hand 0 = .ok (.aload_n 0, 1) := by decide +kernel
theorem dX4_hand_1 : decode cX4_hand 1 = .ok (.getfield 11, 3) := by decide +kernel
theorem dX4_hand_4 : decode cX4_hand 4 = .ok (.aload_n 0, 1) := by decide +kernel
theorem dX4_hand_5 : decode cX4_hand 5 = .ok (.getfield 34, 3) := by decide +kernel
theorem dX4_hand_8 : decode cX4_hand 8 = .ok (.laload, 1) := by decide +kernel
theorem dX4_hand_9 : decode cX4_hand 9 = .ok (.ldc2_w 22, 3) := by decide +kernel
theorem dX4_hand_12 : decode cX4_hand 12 = .ok (.lcmp, 1) := by decide +kernel
theorem dX4_hand_13 : decode cX4_hand 13 = .ok (.ifCond .eq 11, 3) := by decide +kernel
theorem dX4_hand_16 : decode cX4_hand 16 = .ok (.iload_n 1, 1) := by decide +kernel
theorem dX4_hand_17 : decode cX4_hand 17 = .ok (.aload_n 0, 1) := by decide +kernel
theorem dX4_hand_18 : decode cX4_hand 18 = .ok (.getfield 37, 3) := by decide +kernel
theorem dX4_hand_21 : decode cX4_hand 21 = .ok (.if_icmp .lt 6, 3) := by decide +kernel
theorem dX4_hand_24 : decode cX4_hand 24 = .ok (.bipush (-9), 2) := by decide +kernel
theorem dX4_hand_26 : decode cX4_hand 26 = .ok (.ireturn, 1) := by decide +kernel
set_option maxRecDepth 20000 in
theorem ggX10_crew_X10_refuse : GoodIn wsX10_crew wsX10_refuse := goodIn_r _ [8, 9, 79, 80, 81, 82, 83, 84, 85, 86, 87, 88, 89, 90, 91, 92, 93, 94] (by decide +kernel) (by decide +kernel)
set_option maxRecDepth 20000 in
theorem gX10_crew_X10_refuse : GoodIn wsX10_crew (wsV RX10 69 RX10 yX10_refuse wsX10_refuse) := goodIn_app (goodIn_of _ (by decide +kernel)) ggX10_crew_X10_refuse
set_option maxRecDepth 20000 in
theorem ggX10_crew_X4_begin : GoodIn wsX10_crew wsX4_begin := goodIn_r _ [14, 15, 16, 17, 18, 19, 20, 21, 22, 23, 24, 25, 26, 13, 27, 28, 95, 96, 97, 98, 99, 100] (by decide +kernel) (by decide +kernel)
set_option maxRecDepth 20000 in
theorem gX10_crew_X4_begin : GoodIn wsX10_crew (wsV RX10 338 RX4 yX4_begin wsX4_begin) := goodIn_app (goodIn_of _ (by decide +kernel)) ggX10_crew_X4_begin
set_option maxRecDepth 20000 in
theorem ggX10_crew_X4_leastSum : GoodIn wsX10_crew wsX4_leastSum := goodIn_r _ [73, 15, 18, 16, 95, 96, 97, 98, 99, 100] (by decide +kernel) (by decide +kernel)
set_option maxRecDepth 20000 in
theorem gX10_crew_X4_leastSum : GoodIn wsX10_crew (wsV RX10 347 RX4 yX4_leastSum wsX4_leastSum) := goodIn_app (goodIn_of _ (by decide +kernel)) ggX10_crew_X4_leastSum
set_option maxRecDepth 20000 in
theorem ggX10_crew_X4_hand : GoodIn wsX10_crew wsX4_hand := goodIn_r _ [77, 15, 18, 16, 19, 78, 56, 67, 68, 13, 69, 95, 96, 97, 98, 99, 100] (by decide +kernel) (by decide +kernel)
set_option maxRecDepth 20000 in
theorem gX10_crew_X4_hand : GoodIn wsX10_crew (wsV RX10 350 RX4 yX4_hand wsX4_hand) := goodIn_app (goodIn_of _ (by decide +kernel)) ggX10_crew_X4_hand
theorem dX10_crew_0 : decode cX10_crew 0 = .ok (.iload_n 1, 1) := by decide +kernel
theorem dX10_crew_1 : decode cX10_crew 1 = .ok (.ifCond .ge 10, 3) := by decide +kernel
theorem dX10_crew_4 : decode cX10_crew 4 = .ok (.aload_n 0, 1) := by decide +kernel
theorem dX10_crew_5 : decode cX10_crew 5 = .ok (.bipush (-4), 2) := by decide +kernel
theorem dX10_crew_7 : decode cX10_crew 7 = .ok (.invokevirtual 69, 3) := by decide +kernel
theorem dX10_crew_10 : decode cX10_crew 10 = .ok (.ireturn, 1) := by decide +kernel
theorem dX10_crew_11 : decode cX10_crew 11 = .ok (.iload_n 1, 1) := by decide +kernel
theorem dX10_crew_12 : decode cX10_crew 12 = .ok (.bipush 80, 2) := by decide +kernel
theorem dX10_crew_14 : decode cX10_crew 14 = .ok (.if_icmp .le 10, 3) := by decide +kernel
theorem dX10_crew_17 : decode cX10_crew 17 = .ok (.aload_n 0, 1) := by decide +kernel
theorem dX10_crew_18 : decode cX10_crew 18 = .ok (.bipush (-6), 2) := by decide +kernel
theorem dX10_crew_20 : decode cX10_crew 20 = .ok (.invokevirtual 69, 3) := by decide +kernel
theorem dX10_crew_23 : decode cX10_crew 23 = .ok (.ireturn, 1) := by decide +kernel
theorem dX10_crew_24 : decode cX10_crew 24 = .ok (.iload_n 2, 1) := by decide +kernel
theorem dX10_crew_25 : decode cX10_crew 25 = .ok (.ifCond .lt 9, 3) := by decide +kernel
theorem dX10_crew_28 : decode cX10_crew 28 = .ok (.iload_n 2, 1) := by decide +kernel
theorem dX10_crew_29 : decode cX10_crew 29 = .ok (.bipush 8, 2) := by decide +kernel
theorem dX10_crew_31 : decode cX10_crew 31 = .ok (.if_icmp .le 10, 3) := by decide +kernel
theorem dX10_crew_34 : decode cX10_crew 34 = .ok (.aload_n 0, 1) := by decide +kernel
theorem dX10_crew_35 : decode cX10_crew 35 = .ok (.bipush (-2), 2) := by decide +kernel
theorem dX10_crew_37 : decode cX10_crew 37 = .ok (.invokevirtual 69, 3) := by decide +kernel
theorem dX10_crew_40 : decode cX10_crew 40 = .ok (.ireturn, 1) := by decide +kernel
theorem dX10_crew_41 : decode cX10_crew 41 = .ok (.aload_n 0, 1) := by decide +kernel
theorem dX10_crew_42 : decode cX10_crew 42 = .ok (.getfield 51, 3) := by decide +kernel
theorem dX10_crew_45 : decode cX10_crew 45 = .ok (.iload_n 1, 1) := by decide +kernel
theorem dX10_crew_46 : decode cX10_crew 46 = .ok (.invokevirtual 338, 3) := by decide +kernel
theorem dX10_crew_49 : decode cX10_crew 49 = .ok (.iconst 0, 1) := by decide +kernel
theorem dX10_crew_50 : decode cX10_crew 50 = .ok (.istore_n 3, 1) := by decide +kernel
theorem dX10_crew_51 : decode cX10_crew 51 = .ok (.iload_n 3, 1) := by decide +kernel
theorem dX10_crew_52 : decode cX10_crew 52 = .ok (.aload_n 0, 1) := by decide +kernel
theorem dX10_crew_53 : decode cX10_crew 53 = .ok (.getfield 86, 3) := by decide +kernel
theorem dX10_crew_56 : decode cX10_crew 56 = .ok (.if_icmp .ge 47, 3) := by decide +kernel
theorem dX10_crew_103 : decode cX10_crew 103 = .ok (.iload_n 2, 1) := by decide +kernel
theorem dX10_crew_104 : decode cX10_crew 104 = .ok (.ifCond .ne 13, 3) := by decide +kernel
theorem dX10_crew_107 : decode cX10_crew 107 = .ok (.aload_n 0, 1) := by decide +kernel
theorem dX10_crew_108 : decode cX10_crew 108 = .ok (.getfield 51, 3) := by decide +kernel
theorem dX10_crew_111 : decode cX10_crew 111 = .ok (.invokevirtual 347, 3) := by decide +kernel
theorem dX10_crew_114 : decode cX10_crew 114 = .ok (.goto 13, 3) := by decide +kernel
theorem dX10_crew_117 : decode cX10_crew 117 = .ok (.aload_n 0, 1) := by decide +kernel
theorem dX10_crew_118 : decode cX10_crew 118 = .ok (.getfield 51, 3) := by decide +kernel
theorem dX10_crew_121 : decode cX10_crew 121 = .ok (.iload_n 2, 1) := by decide +kernel
theorem dX10_crew_122 : decode cX10_crew 122 = .ok (.iconst 1, 1) := by decide +kernel
theorem dX10_crew_123 : decode cX10_crew 123 = .ok (.isub, 1) := by decide +kernel
theorem dX10_crew_124 : decode cX10_crew 124 = .ok (.invokevirtual 350, 3) := by decide +kernel
theorem dX10_crew_127 : decode cX10_crew 127 = .ok (.ireturn, 1) := by decide +kernel
theorem dJ7_fill_d0a16_0 : decode cJ7_fill_d0a16 0 = .ok (.iconst 0, 1) := by decide +kernel
theorem dJ7_fill_d0a16_1 : decode cJ7_fill_d0a16 1 = .ok (.istore_n 3, 1) := by decide +kernel
theorem dJ7_fill_d0a16_2 : decode cJ7_fill_d0a16 2 = .ok (.aload_n 0, 1) := by decide +kernel
theorem dJ7_fill_d0a16_3 : decode cJ7_fill_d0a16 3 = .ok (.arraylength, 1) := by decide +kernel
theorem dJ7_fill_d0a16_4 : decode cJ7_fill_d0a16 4 = .ok (.istore 4, 2) := by decide +kernel
theorem dJ7_fill_d0a16_6 : decode cJ7_fill_d0a16 6 = .ok (.iload_n 3, 1) := by decide +kernel
theorem dJ7_fill_d0a16_7 : decode cJ7_fill_d0a16 7 = .ok (.iload 4, 2) := by decide +kernel
theorem dJ7_fill_d0a16_9 : decode cJ7_fill_d0a16 9 = .ok (.if_icmp .ge 13, 3) := by decide +kernel
theorem dJ7_fill_d0a16_12 : decode cJ7_fill_d0a16 12 = .ok (.aload_n 0, 1) := by decide +kernel
theorem dJ7_fill_d0a16_13 : decode cJ7_fill_d0a16 13 = .ok (.iload_n 3, 1) := by decide +kernel
theorem dJ7_fill_d0a16_14 : decode cJ7_fill_d0a16 14 = .ok (.lload_n 1, 1) := by decide +kernel
theorem dJ7_fill_d0a16_15 : decode cJ7_fill_d0a16 15 = .ok (.lastore, 1) := by decide +kernel
theorem dJ7_fill_d0a16_16 : decode cJ7_fill_d0a16 16 = .ok (.iinc 3 1, 3) := by decide +kernel
theorem dJ7_fill_d0a16_19 : decode cJ7_fill_d0a16 19 = .ok (.goto (-13), 3) := by decide +kernel
theorem dJ7_fill_d0a16_22 : decode cJ7_fill_d0a16 22 = .ok (.return_, 1) := by decide +kernel
theorem in_wsX4_begin_X4 : ∀ w ∈ wsX40, w ∈ wsX4_begin := fun w h => List.mem_cons_of_mem _ (List.mem_append_right _ h)
theorem in_wsX4_leastSum_X4 : ∀ w ∈ wsX40, w ∈ wsX4_leastSum := fun w h => List.mem_cons_of_mem _ (List.mem_append_right _ h)
theorem in_wsX4_hand_X4 : ∀ w ∈ wsX40, w ∈ wsX4_hand := fun w h => List.mem_cons_of_mem _ (List.mem_append_right _ h)
theorem in_wsX10_crew_X10 : ∀ w ∈ wsX100, w ∈ wsX10_crew := fun w h => List.mem_cons_of_mem _ (List.mem_append_left _ (List.mem_append_left _ (List.mem_append_left _ (List.mem_append_left _ (List.mem_append_right _ h)))))
theorem fill_loop {p : Program} {l : Launch} {e : Env} {R : Room} {s : State} {m : MethodId} {args : Array Value} {below : List Frame} {meth : Method} {c : Code} {cells slots : Nat} {Q : State → Prop} {dC : Nat → ClassId} {dI : Nat → Nat → Nat} {A : Nat → Prop} {a : Nat} {cA : ClassId} {v : Int64} (hx : p.tables.exec = Jvm.exec) (hb : c.code = cJ7_fill_d0a16) (hK : va_K (dC, dI) vwCl [(cA, .long)] s) (kk : ∀ (H : Heap) (locs : List Loc) (ls : Array Slot) (f : Nat → Int64), (∀ j, j < 81 → f j = v) → va_P (dC, dI) vwCl [(a, .inl (cA, 81, .inr (.inl f)))] H → va_D A [(a, .inl (cA, 81, .inr (.inl f)))] → va_S A s.heap H locs → W p l e R s m args below meth c H locs cells slots Q (F0 m 22 ls [])) :
    ∀ (n i : Nat) (x : Int32) (f : Nat → Int64) (H : Heap) (locs : List Loc) (ls : Array Slot), 81 ≤ i + n → i ≤ 81 → x = nI i → (∀ j, j < i → f j = v) → va_P (dC, dI) vwCl [(a, .inl (cA, 81, .inr (.inl f)))] H → va_D A [(a, .inl (cA, 81, .inr (.inl f)))] → va_S A s.heap H locs → lv_has ls 5 [(3, .int x), (4, .int 81), (0, .ref a), (1, .long v)] → W p l e R s m args below meth c H locs cells slots Q (F0 m 6 ls []) := by
  intro n
  induction n with
  | zero =>
    intro i x f H locs ls h1 h2 ex hf hP hD hS hl
    refine lv_iload_n hx hb dJ7_fill_d0a16_6 rfl (lv_at hl 0 rfl) ?_
    refine lv_iload hx hb dJ7_fill_d0a16_7 (lv_at hl 1 rfl) ?_
    refine lv_icmp_ge (tgt := 22) hx hb dJ7_fill_d0a16_9 (by decide) (fun _ => ?_) (fun c_1 => absurd ?_ c_1)
    · exact kk H locs ls f (fun j hj => hf j (by omega)) hP hD hS
    · rw [ex]
      exact nI_le (a := 81) (by omega) (by omega)
  | succ n ih =>
    intro i x f H locs ls h1 h2 ex hf hP hD hS hl
    refine lv_iload_n hx hb dJ7_fill_d0a16_6 rfl (lv_at hl 0 rfl) ?_
    refine lv_iload hx hb dJ7_fill_d0a16_7 (lv_at hl 1 rfl) ?_
    refine lv_icmp_ge (tgt := 22) hx hb dJ7_fill_d0a16_9 (by decide) (fun c_1 => ?_) (fun c_1 => ?_)
    · have hi : 81 ≤ i := (nI_leI (a := 81) (b := i) (by decide) (by omega)).mp (by rw [ex] at c_1; exact c_1)
      exact kk H locs ls f (fun j hj => hf j (by omega)) hP hD hS
    · have hi : i < 81 := by
        rcases Nat.lt_or_ge i 81 with h | h
        · exact h
        · exact absurd (by rw [ex]; exact nI_le (a := 81) h (by omega)) c_1
      have hxi : x.toNatClampNeg = i := by rw [ex]; exact nI_clamp (by omega)
      refine lv_aload_n hx hb dJ7_fill_d0a16_12 rfl (lv_at hl 2 rfl) ?_
      refine lv_iload_n hx hb dJ7_fill_d0a16_13 rfl (lv_at hl 0 rfl) ?_
      refine lv_lload_n hx hb dJ7_fill_d0a16_14 rfl (lv_at hl 3 rfl) ?_
      refine va_last hx hb hK hP hD hS 0 0 rfl rfl (by rw [ex]; exact vp_in_nI hi (by decide)) dJ7_fill_d0a16_15 (fun H locs hP hD hS => ?_)
      refine lv_iinc (v := x + 1) (lv' := [(3, .int (x + 1)), (4, .int 81), (0, .ref a), (1, .long v)]) hx hb dJ7_fill_d0a16_16 hl (k := 0) rfl rfl (by decide) rfl (fun ls hl => ?_)
      refine lv_goto (tgt := 6) hx hb dJ7_fill_d0a16_19 (by decide) ?_
      refine ih (i + 1) (x + 1) _ H locs ls (by omega) (by omega) (by rw [ex]; exact nI_1 i) (fun j hj => ?_) hP hD hS hl
      rw [hxi]
      unfold vp_updL
      split
      · rfl
      · exact hf j (by omega)
set_option maxHeartbeats 4000000 in
set_option maxRecDepth 100000 in
theorem c_J7_fill_d0a16 (l : Launch) (dC : Nat → ClassId) (dI : Nat → Nat → Nat) (sz : Nat) (g1 : Nat) (k1 : ClassId) (v : Int64) : Met l yJ7_fill_d0a16 wsJ7_fill_d0a16 ({ frames := 0, cells := 0, slots := 0, locals := 0 }) (va_Pc [.ref g1, .long v] (pcW (dC, dI) [(k1, .long)] [(g1, .inl (k1, 81, .inr (.inl (fun _ => 0))))] sz)) (va_Qv (fun (u : (Nat → Int64)) => ∀ j, j < 81 → u j = v) (fun u t => va_P (dC, dI) vwCl [(g1, .inl (k1, 81, .inr (.inl u)))] t.heap ∧ va_K (dC, dI) vwCl [(k1, .long)] t ∧ va_D (va_A [(g1, .inl (k1, 81, .inr (.inl (fun _ => 0))))] sz) [(g1, .inl (k1, 81, .inr (.inl u)))]) (va_A [(g1, .inl (k1, 81, .inr (.inl (fun _ => 0))))] sz)) 0 0 (va_A [(g1, .inl (k1, 81, .inr (.inl (fun _ => 0))))] sz) := by
  refine Met.ofW (cc := cJ7_fill_d0a16) (maxL := 5) (ret := none) (by decide) rfl ?_
  intro p e s m args below meth c s₁ B hml hv
  obtain ⟨rfl, hsz, hP, hK, hD0⟩ := hv
  have hx := B.exec
  have hb := B.bytes
  have hr := B.returns
  have hts := atoms_spec (ws := wsJ7_fill_d0a16) B.pre
  have hown : s.vm.findClass RJ7 = some m.cls := findClass_of_methodNamed B.named
  have hlocks := B.notSynchronized
  subst hsz
  have hD := hD0.self (sz := s.heap.size)
  generalize hAe : va_A [(g1, .inl (k1, 81, .inr (.inl (fun _ => 0))))] s.heap.size = A at hD ⊢
  have hA : ∀ q : Nat, s.heap.size ≤ q → A q := fun q h => by rw [← hAe]; exact Or.inr h
  have hS : va_S A s.heap s.heap [] := va_S.rf
  have hP : va_P (dC, dI) vwCl [(g1, .inl (k1, 81, .inr (.inl (fun _ => 0))))] s.heap := hP
  have hl := lv_entry ([.ref g1, .long v]) (n := 5) (Nat.le_of_ble_eq_true rfl)
  rw [lg_entry_eq]
  generalize (lg_sl ([.ref g1, .long v]) ++ List.replicate (5 - (lg_sl ([.ref g1, .long v])).length) Slot.unset).toArray = ls at hl ⊢
  have hl : lv_has ls 5 [(0, .ref g1), (1, .long v)] := hl
  refine lv_iconst (v := 0) hx hb dJ7_fill_d0a16_0 (by decide) ?_
  refine lv_istore_n (lv' := [(3, .int 0), (0, .ref g1), (1, .long v)]) hx hb dJ7_fill_d0a16_1 rfl hl (by decide) rfl (fun ls hl => ?_)
  refine lv_aload_n hx hb dJ7_fill_d0a16_2 rfl (lv_at hl 1 rfl) ?_
  refine va_alen (v := 81) hx hb hK hP 0 0 rfl rfl (by decide) dJ7_fill_d0a16_3 ?_
  refine lv_istore (lv' := [(4, .int 81), (3, .int 0), (0, .ref g1), (1, .long v)]) hx hb dJ7_fill_d0a16_4 hl (by decide) rfl (fun ls hl => ?_)
  refine fill_loop hx hb hK (fun H locs ls f hf hP hD hS => ?_) 81 0 0 _ _ _ _ (by decide) (by decide) rfl (fun j hj => absurd hj (Nat.not_lt_zero j)) hP hD hS (lv_sub hl [1, 0, 2, 3] rfl)
  have hP9 := hP.sub (ws' := [(g1, .inl (k1, 81, .inr (.inl f)))]) [0] rfl
  have hD9 := hD.sub (ws' := [(g1, .inl (k1, 81, .inr (.inl f)))]) [0] (by decide) rfl
  have hK9 := hK.sub (tys' := [(k1, .long)]) [0] rfl
  subst hAe
  exact W.vret hx hb hr (fun t ht hW => ⟨⟨f, rfl, hf, ⟨by rw [ht]; exact hP9, va_K.moved hW.alike hK9, hD9⟩⟩, hS.F ht⟩) hS.2.2 dJ7_fill_d0a16_22
set_option maxHeartbeats 4000000 in
set_option maxRecDepth 100000 in
theorem c_X4_handsOf_0 (l : Launch) (dC : Nat → ClassId) (dI : Nat → Nat → Nat) (sz : Nat) (tL tS : Nat) (x : Int32) : Met l yX4_handsOf wsX4_handsOf ({ frames := 0, cells := 0, slots := 0, locals := 0 }) (va_Pc [.int x, .int 0] (pcS (dC, dI) [] [] sz tL tS [])) (va_Qi (fun (r : Int32) (u : Unit) => r = (x / 1) - (x / 1) / 3 * 3) (fun _ _ => True) (va_A [] sz)) 0 0 (va_A [] sz) := by
  refine Met.ofW (cc := cX4_handsOf) (maxL := 2) (ret := (some .int)) (by decide) rfl ?_
  intro p e s m args below meth c s₁ B hml hv
  obtain ⟨rfl, ⟨hsz, hP, hK, hD0⟩, hZ⟩ := hv
  have hx := B.exec
  have hb := B.bytes
  have hr := B.returns
  have hts := atoms_spec (ws := wsX4_handsOf) B.pre
  have hown : s.vm.findClass RX4 = some m.cls := findClass_of_methodNamed B.named
  have hlocks := B.notSynchronized
  subst hsz
  have hD := hD0
  generalize hAe : va_A [] s.heap.size = A at hZ ⊢
  have hA : ∀ q : Nat, s.heap.size ≤ q → A q := fun q h => by rw [← hAe]; exact Or.inr h
  have hS : va_S A s.heap s.heap [] := va_S.rf
  have hP : va_P (dC, dI) vwCl [] s.heap := hP
  have hl := lv_entry ([.int x, .int 0]) (n := 2) (Nat.le_of_ble_eq_true rfl)
  rw [lg_entry_eq]
  generalize (lg_sl ([.int x, .int 0]) ++ List.replicate (2 - (lg_sl ([.int x, .int 0])).length) Slot.unset).toArray = ls at hl ⊢
  have hl : lv_has ls 2 [(0, .int x), (1, .int 0)] := hl
  refine lv_iload_n hx hb dX4_handsOf_0 rfl (lv_at hl 0 rfl) ?_
  refine va_gets hx hb hZ.2.2.1 hS hown (hts (.fieldLink RX4 44 "ShipOffice$Hiring" "STEP" "[I") (by decide +kernel)) (fun _ h9 => h9) dX4_handsOf_1 ?_
  refine lv_iload_n hx hb dX4_handsOf_4 rfl (lv_at hl 1 rfl) ?_
  refine va_ti hx hb hZ.2.2.2.1 hS (by unfold vp_in; decide) (v := .int 1) rfl dX4_handsOf_5 ?_
  refine lv_idiv hx hb dX4_handsOf_6 (by decide) ?_
  refine lv_iconst (v := 3) hx hb dX4_handsOf_7 (by decide) ?_
  refine lv_irem hx hb dX4_handsOf_8 (by decide) ?_
  exact W.iret (v := ((x / 1) - (x / 1) / 3 * 3)) hx hb hr (fun t ht hW => ⟨⟨((x / 1) - (x / 1) / 3 * 3), (), rfl, rfl, trivial⟩, hS.F ht⟩) hS.2.2 dX4_handsOf_9
set_option maxHeartbeats 4000000 in
set_option maxRecDepth 100000 in
theorem c_X4_handsOf_1 (l : Launch) (dC : Nat → ClassId) (dI : Nat → Nat → Nat) (sz : Nat) (tL tS : Nat) (x : Int32) : Met l yX4_handsOf wsX4_handsOf ({ frames := 0, cells := 0, slots := 0, locals := 0 }) (va_Pc [.int x, .int 1] (pcS (dC, dI) [] [] sz tL tS [])) (va_Qi (fun (r : Int32) (u : Unit) => r = (x / 3) - (x / 3) / 3 * 3) (fun _ _ => True) (va_A [] sz)) 0 0 (va_A [] sz) := by
  refine Met.ofW (cc := cX4_handsOf) (maxL := 2) (ret := (some .int)) (by decide) rfl ?_
  intro p e s m args below meth c s₁ B hml hv
  obtain ⟨rfl, ⟨hsz, hP, hK, hD0⟩, hZ⟩ := hv
  have hx := B.exec
  have hb := B.bytes
  have hr := B.returns
  have hts := atoms_spec (ws := wsX4_handsOf) B.pre
  have hown : s.vm.findClass RX4 = some m.cls := findClass_of_methodNamed B.named
  have hlocks := B.notSynchronized
  subst hsz
  have hD := hD0
  generalize hAe : va_A [] s.heap.size = A at hZ ⊢
  have hA : ∀ q : Nat, s.heap.size ≤ q → A q := fun q h => by rw [← hAe]; exact Or.inr h
  have hS : va_S A s.heap s.heap [] := va_S.rf
  have hP : va_P (dC, dI) vwCl [] s.heap := hP
  have hl := lv_entry ([.int x, .int 1]) (n := 2) (Nat.le_of_ble_eq_true rfl)
  rw [lg_entry_eq]
  generalize (lg_sl ([.int x, .int 1]) ++ List.replicate (2 - (lg_sl ([.int x, .int 1])).length) Slot.unset).toArray = ls at hl ⊢
  have hl : lv_has ls 2 [(0, .int x), (1, .int 1)] := hl
  refine lv_iload_n hx hb dX4_handsOf_0 rfl (lv_at hl 0 rfl) ?_
  refine va_gets hx hb hZ.2.2.1 hS hown (hts (.fieldLink RX4 44 "ShipOffice$Hiring" "STEP" "[I") (by decide +kernel)) (fun _ h9 => h9) dX4_handsOf_1 ?_
  refine lv_iload_n hx hb dX4_handsOf_4 rfl (lv_at hl 1 rfl) ?_
  refine va_ti hx hb hZ.2.2.2.1 hS (by unfold vp_in; decide) (v := .int 3) rfl dX4_handsOf_5 ?_
  refine lv_idiv hx hb dX4_handsOf_6 (by decide) ?_
  refine lv_iconst (v := 3) hx hb dX4_handsOf_7 (by decide) ?_
  refine lv_irem hx hb dX4_handsOf_8 (by decide) ?_
  exact W.iret (v := ((x / 3) - (x / 3) / 3 * 3)) hx hb hr (fun t ht hW => ⟨⟨((x / 3) - (x / 3) / 3 * 3), (), rfl, rfl, trivial⟩, hS.F ht⟩) hS.2.2 dX4_handsOf_9
set_option maxHeartbeats 4000000 in
set_option maxRecDepth 100000 in
theorem c_X4_handsOf_2 (l : Launch) (dC : Nat → ClassId) (dI : Nat → Nat → Nat) (sz : Nat) (tL tS : Nat) (x : Int32) : Met l yX4_handsOf wsX4_handsOf ({ frames := 0, cells := 0, slots := 0, locals := 0 }) (va_Pc [.int x, .int 2] (pcS (dC, dI) [] [] sz tL tS [])) (va_Qi (fun (r : Int32) (u : Unit) => r = (x / 9) - (x / 9) / 3 * 3) (fun _ _ => True) (va_A [] sz)) 0 0 (va_A [] sz) := by
  refine Met.ofW (cc := cX4_handsOf) (maxL := 2) (ret := (some .int)) (by decide) rfl ?_
  intro p e s m args below meth c s₁ B hml hv
  obtain ⟨rfl, ⟨hsz, hP, hK, hD0⟩, hZ⟩ := hv
  have hx := B.exec
  have hb := B.bytes
  have hr := B.returns
  have hts := atoms_spec (ws := wsX4_handsOf) B.pre
  have hown : s.vm.findClass RX4 = some m.cls := findClass_of_methodNamed B.named
  have hlocks := B.notSynchronized
  subst hsz
  have hD := hD0
  generalize hAe : va_A [] s.heap.size = A at hZ ⊢
  have hA : ∀ q : Nat, s.heap.size ≤ q → A q := fun q h => by rw [← hAe]; exact Or.inr h
  have hS : va_S A s.heap s.heap [] := va_S.rf
  have hP : va_P (dC, dI) vwCl [] s.heap := hP
  have hl := lv_entry ([.int x, .int 2]) (n := 2) (Nat.le_of_ble_eq_true rfl)
  rw [lg_entry_eq]
  generalize (lg_sl ([.int x, .int 2]) ++ List.replicate (2 - (lg_sl ([.int x, .int 2])).length) Slot.unset).toArray = ls at hl ⊢
  have hl : lv_has ls 2 [(0, .int x), (1, .int 2)] := hl
  refine lv_iload_n hx hb dX4_handsOf_0 rfl (lv_at hl 0 rfl) ?_
  refine va_gets hx hb hZ.2.2.1 hS hown (hts (.fieldLink RX4 44 "ShipOffice$Hiring" "STEP" "[I") (by decide +kernel)) (fun _ h9 => h9) dX4_handsOf_1 ?_
  refine lv_iload_n hx hb dX4_handsOf_4 rfl (lv_at hl 1 rfl) ?_
  refine va_ti hx hb hZ.2.2.2.1 hS (by unfold vp_in; decide) (v := .int 9) rfl dX4_handsOf_5 ?_
  refine lv_idiv hx hb dX4_handsOf_6 (by decide) ?_
  refine lv_iconst (v := 3) hx hb dX4_handsOf_7 (by decide) ?_
  refine lv_irem hx hb dX4_handsOf_8 (by decide) ?_
  exact W.iret (v := ((x / 9) - (x / 9) / 3 * 3)) hx hb hr (fun t ht hW => ⟨⟨((x / 9) - (x / 9) / 3 * 3), (), rfl, rfl, trivial⟩, hS.F ht⟩) hS.2.2 dX4_handsOf_9
set_option maxHeartbeats 4000000 in
set_option maxRecDepth 100000 in
theorem c_X4_handsOf_3 (l : Launch) (dC : Nat → ClassId) (dI : Nat → Nat → Nat) (sz : Nat) (tL tS : Nat) (x : Int32) : Met l yX4_handsOf wsX4_handsOf ({ frames := 0, cells := 0, slots := 0, locals := 0 }) (va_Pc [.int x, .int 3] (pcS (dC, dI) [] [] sz tL tS [])) (va_Qi (fun (r : Int32) (u : Unit) => r = (x / 27) - (x / 27) / 3 * 3) (fun _ _ => True) (va_A [] sz)) 0 0 (va_A [] sz) := by
  refine Met.ofW (cc := cX4_handsOf) (maxL := 2) (ret := (some .int)) (by decide) rfl ?_
  intro p e s m args below meth c s₁ B hml hv
  obtain ⟨rfl, ⟨hsz, hP, hK, hD0⟩, hZ⟩ := hv
  have hx := B.exec
  have hb := B.bytes
  have hr := B.returns
  have hts := atoms_spec (ws := wsX4_handsOf) B.pre
  have hown : s.vm.findClass RX4 = some m.cls := findClass_of_methodNamed B.named
  have hlocks := B.notSynchronized
  subst hsz
  have hD := hD0
  generalize hAe : va_A [] s.heap.size = A at hZ ⊢
  have hA : ∀ q : Nat, s.heap.size ≤ q → A q := fun q h => by rw [← hAe]; exact Or.inr h
  have hS : va_S A s.heap s.heap [] := va_S.rf
  have hP : va_P (dC, dI) vwCl [] s.heap := hP
  have hl := lv_entry ([.int x, .int 3]) (n := 2) (Nat.le_of_ble_eq_true rfl)
  rw [lg_entry_eq]
  generalize (lg_sl ([.int x, .int 3]) ++ List.replicate (2 - (lg_sl ([.int x, .int 3])).length) Slot.unset).toArray = ls at hl ⊢
  have hl : lv_has ls 2 [(0, .int x), (1, .int 3)] := hl
  refine lv_iload_n hx hb dX4_handsOf_0 rfl (lv_at hl 0 rfl) ?_
  refine va_gets hx hb hZ.2.2.1 hS hown (hts (.fieldLink RX4 44 "ShipOffice$Hiring" "STEP" "[I") (by decide +kernel)) (fun _ h9 => h9) dX4_handsOf_1 ?_
  refine lv_iload_n hx hb dX4_handsOf_4 rfl (lv_at hl 1 rfl) ?_
  refine va_ti hx hb hZ.2.2.2.1 hS (by unfold vp_in; decide) (v := .int 27) rfl dX4_handsOf_5 ?_
  refine lv_idiv hx hb dX4_handsOf_6 (by decide) ?_
  refine lv_iconst (v := 3) hx hb dX4_handsOf_7 (by decide) ?_
  refine lv_irem hx hb dX4_handsOf_8 (by decide) ?_
  exact W.iret (v := ((x / 27) - (x / 27) / 3 * 3)) hx hb hr (fun t ht hW => ⟨⟨((x / 27) - (x / 27) / 3 * 3), (), rfl, rfl, trivial⟩, hS.F ht⟩) hS.2.2 dX4_handsOf_9
set_option maxHeartbeats 4000000 in
set_option maxRecDepth 100000 in
theorem c_X4_begin (l : Launch) (dC : Nat → ClassId) (dI : Nat → Nat → Nat) (sz : Nat) (tL tS : Nat) (h0 : Nat) (q : Nat → Nat) (cq : Nat → ClassId) (n : Int32) : Met l yX4_begin wsX4_begin ({ frames := 1, cells := 0, slots := 0, locals := 24 }) (va_Pc [.ref (q 11), .int n] (pcS (dC, dI) [((cq 110), .long), ((cq 112), .int)] [((q 11), .inr (4, [.ref (q 110), .ref (q 111), .int 0, .ref (q 112), .int 0, .int 0])), ((q 110), .inl ((cq 110), 81, .inr (.inl (fun _ => 0)))), ((q 112), .inl ((cq 112), 4, .inl (fun _ => 0)))] sz tL tS [((q 11), .inr (4, [.ref (q 110), .ref (q 111), .int 0, .ref (q 112), .int 0, .int 0])), ((q 110), .inl ((cq 110), 81, .inr (.inl (fun _ => 0)))), ((q 112), .inl ((cq 112), 4, .inl (fun _ => 0)))])) (va_Qv (fun (u : (Nat → Int64) × (Nat → Int32) × Int32) => (∀ j, j < 81 → 0 < j → u.1 j = 1152921504606846976) ∧ u.1 0 = 0 ∧ (n = 0 → u.2.2 = 0)) (fun u t => va_P (dC, dI) vwCl [((q 11), .inr (4, [.ref (q 110), .ref (q 111), .int 0, .ref (q 112), .int n, .int u.2.2])), ((q 110), .inl ((cq 110), 81, .inr (.inl u.1))), ((q 112), .inl ((cq 112), 4, .inl u.2.1))] t.heap ∧ va_K (dC, dI) vwCl [((cq 110), .long), ((cq 112), .int)] t ∧ va_D (va_A [((q 11), .inr (4, [.ref (q 110), .ref (q 111), .int 0, .ref (q 112), .int 0, .int 0])), ((q 110), .inl ((cq 110), 81, .inr (.inl (fun _ => 0)))), ((q 112), .inl ((cq 112), 4, .inl (fun _ => 0)))] sz) [((q 11), .inr (4, [.ref (q 110), .ref (q 111), .int 0, .ref (q 112), .int n, .int u.2.2])), ((q 110), .inl ((cq 110), 81, .inr (.inl u.1))), ((q 112), .inl ((cq 112), 4, .inl u.2.1))]) (va_A [((q 11), .inr (4, [.ref (q 110), .ref (q 111), .int 0, .ref (q 112), .int 0, .int 0])), ((q 110), .inl ((cq 110), 81, .inr (.inl (fun _ => 0)))), ((q 112), .inl ((cq 112), 4, .inl (fun _ => 0)))] sz)) 0 0 (va_A [((q 11), .inr (4, [.ref (q 110), .ref (q 111), .int 0, .ref (q 112), .int 0, .int 0])), ((q 110), .inl ((cq 110), 81, .inr (.inl (fun _ => 0)))), ((q 112), .inl ((cq 112), 4, .inl (fun _ => 0)))] sz) := by
  refine Met.ofW (cc := cX4_begin) (maxL := 3) (ret := none) (by decide) rfl ?_
  intro p e s m args below meth c s₁ B hml hv
  obtain ⟨rfl, ⟨hsz, hP, hK, hD0⟩, hZ⟩ := hv
  have hx := B.exec
  have hb := B.bytes
  have hr := B.returns
  have hts := atoms_spec (ws := wsX4_begin) B.pre
  have hown : s.vm.findClass RX4 = some m.cls := findClass_of_methodNamed B.named
  have hlocks := B.notSynchronized
  subst hsz
  have hD := hD0.self (sz := s.heap.size)
  generalize hAe : va_A [((q 11), .inr (4, [.ref (q 110), .ref (q 111), .int 0, .ref (q 112), .int 0, .int 0])), ((q 110), .inl ((cq 110), 81, .inr (.inl (fun _ => 0)))), ((q 112), .inl ((cq 112), 4, .inl (fun _ => 0)))] s.heap.size = A at hD hZ ⊢
  have hA : ∀ q : Nat, s.heap.size ≤ q → A q := fun q h => by rw [← hAe]; exact Or.inr h
  have hS : va_S A s.heap s.heap [] := va_S.rf
  have hP : va_P (dC, dI) vwCl [((q 11), .inr (4, [.ref (q 110), .ref (q 111), .int 0, .ref (q 112), .int 0, .int 0])), ((q 110), .inl ((cq 110), 81, .inr (.inl (fun _ => 0)))), ((q 112), .inl ((cq 112), 4, .inl (fun _ => 0)))] s.heap := hP
  have hl := lv_entry ([.ref (q 11), .int n]) (n := 3) (Nat.le_of_ble_eq_true rfl)
  rw [lg_entry_eq]
  generalize (lg_sl ([.ref (q 11), .int n]) ++ List.replicate (3 - (lg_sl ([.ref (q 11), .int n])).length) Slot.unset).toArray = ls at hl ⊢
  have hl : lv_has ls 3 [(0, .ref (q 11)), (1, .int n)] := hl
  refine lv_aload_n hx hb dX4_begin_0 rfl (lv_at hl 0 rfl) ?_
  refine va_get (D := (dC, dI)) (ci := 4) (v := .ref (q 110)) (C := RX4) (T := TX4) (N := 6) hx hb hts in_wsX4_begin_X4 hown hK hP 0 rfl rfl 0 (by decide) (hts (.fieldLink RX4 11 "ShipOffice$Hiring" "best" "[J") (by decide +kernel)) (fun _ h9 => h9) rfl dX4_begin_1 ?_
  refine lv_ldc2 (v := 1152921504606846976) hx hb hown (hts (.constantLong RX4 22 (1152921504606846976)) (by decide +kernel)) dX4_begin_4 ?_
  have hPc := hP.sub (ws' := [((q 110), .inl ((cq 110), 81, .inr (.inl (fun _ => 0))))]) [1] rfl
  have hDc := hD.sub (ws' := [((q 110), .inl ((cq 110), 81, .inr (.inl (fun _ => 0))))]) [1] (by decide) rfl
  have hKc := hK.sub (tys' := [((cq 110), .long)]) [0] rfl
  have hFc := va_free (wc := [((q 110), .inl ((cq 110), 81, .inr (.inl (fun _ => 0))))]) hD hS hA [1] rfl
  refine va_callv (va_runS (As := [.ref (q 110), .long 1152921504606846976]) (rest := []) ⟨hx, hb, hml, hown, hts⟩ (c_J7_fill_d0a16 l dC dI s.heap.size (q 110) (cq 110) 1152921504606846976) (va_cwS 2 hts gX4_begin_J7_fill_d0a16 rfl rfl rfl (by decide +kernel) ⟨(Nat.le_of_ble_eq_true rfl), (Nat.le_of_ble_eq_true rfl)⟩) (pr_S hPc hKc hDc) rfl rfl hl.1 rfl (lv_room (Nat.le_of_ble_eq_true rfl)) dX4_begin_7 ⟨(Nat.le_of_ble_eq_true rfl), (Nat.le_of_ble_eq_true rfl)⟩) hS (fun q _ h => hFc q h) hFc (fun u t H locs ht hvm w_1 hB hz1 hk1 hS => ?_)
  obtain ⟨f_3, rfl⟩ : ∃ z, z = u := ⟨_, rfl⟩
  obtain ⟨hP1, hK1, hD1⟩ := hB
  rw [ht] at hP1
  have hK1 := va_K.moved hvm.symm hK1
  obtain ⟨hP, hD⟩ := va_join (wr := [((q 11), .inr (4, [.ref (q 110), .ref (q 111), .int 0, .ref (q 112), .int 0, .int 0])), ((q 112), .inl ((cq 112), 4, .inl (fun _ => 0)))]) (w1 := [((q 110), .inl ((cq 110), 81, .inr (.inl f_3)))]) hP hD [1] [0, 2] rfl rfl (by decide) (by decide) hk1 hFc hP1 hD1
  have hK := hK.app hK1
  have hP : va_P (dC, dI) vwCl [((q 11), .inr (4, [.ref (q 110), .ref (q 111), .int 0, .ref (q 112), .int 0, .int 0])), ((q 112), .inl ((cq 112), 4, .inl (fun _ => 0))), ((q 110), .inl ((cq 110), 81, .inr (.inl f_3)))] H := hP
  have hD : va_D A [((q 11), .inr (4, [.ref (q 110), .ref (q 111), .int 0, .ref (q 112), .int 0, .int 0])), ((q 112), .inl ((cq 112), 4, .inl (fun _ => 0))), ((q 110), .inl ((cq 110), 81, .inr (.inl f_3)))] := hD
  have hK : va_K (dC, dI) vwCl [((cq 110), .long), ((cq 112), .int), ((cq 110), .long)] s := hK
  clear hP1 hK1 hD1 hk1 hz1 hvm ht hPc hDc hKc hFc
  refine lv_aload_n hx hb dX4_begin_10 rfl (lv_at hl 0 rfl) ?_
  refine va_get (D := (dC, dI)) (ci := 4) (v := .ref (q 110)) (C := RX4) (T := TX4) (N := 6) hx hb hts in_wsX4_begin_X4 hown hK hP 0 rfl rfl 0 (by decide) (hts (.fieldLink RX4 11 "ShipOffice$Hiring" "best" "[J") (by decide +kernel)) (fun _ h9 => h9) rfl dX4_begin_11 ?_
  refine lv_iconst (v := 0) hx hb dX4_begin_14 (by decide) ?_
  refine lv_lconst (v := 0) hx hb dX4_begin_15 (by decide) ?_
  refine va_last hx hb hK hP hD hS 2 0 rfl rfl (by unfold vp_in; decide) dX4_begin_16 (fun H locs hP hD hS => ?_)
  have hP : va_P (dC, dI) vwCl [((q 11), .inr (4, [.ref (q 110), .ref (q 111), .int 0, .ref (q 112), .int 0, .int 0])), ((q 112), .inl ((cq 112), 4, .inl (fun _ => 0))), ((q 110), .inl ((cq 110), 81, .inr (.inl (vp_updL f_3 (0 : Int32).toNatClampNeg 0))))] H := hP
  have hD : va_D A [((q 11), .inr (4, [.ref (q 110), .ref (q 111), .int 0, .ref (q 112), .int 0, .int 0])), ((q 112), .inl ((cq 112), 4, .inl (fun _ => 0))), ((q 110), .inl ((cq 110), 81, .inr (.inl (vp_updL f_3 (0 : Int32).toNatClampNeg 0))))] := hD
  refine lv_aload_n hx hb dX4_begin_17 rfl (lv_at hl 0 rfl) ?_
  refine lv_iconst (v := 0) hx hb dX4_begin_18 (by decide) ?_
  refine va_put (D := (dC, dI)) (ci := 4) (v := .int 0) (ty := .int) (C := RX4) (T := TX4) (N := 6) hx hb hts in_wsX4_begin_X4 tyX4 tyX4_ok nmX4 hown hK hP hD hS 0 rfl rfl 2 (by decide) (hts (.fieldLink RX4 30 "ShipOffice$Hiring" "offerCount" "I") (by decide +kernel)) (fun _ h9 => h9) rfl (by decide +kernel) rfl rfl (Nat.le_of_ble_eq_true rfl) dX4_begin_19 (fun H locs hP hD hS => ?_)
  have hP : va_P (dC, dI) vwCl [((q 11), .inr (4, [.ref (q 110), .ref (q 111), .int 0, .ref (q 112), .int 0, .int 0])), ((q 112), .inl ((cq 112), 4, .inl (fun _ => 0))), ((q 110), .inl ((cq 110), 81, .inr (.inl (vp_updL f_3 (0 : Int32).toNatClampNeg 0))))] H := hP
  have hD : va_D A [((q 11), .inr (4, [.ref (q 110), .ref (q 111), .int 0, .ref (q 112), .int 0, .int 0])), ((q 112), .inl ((cq 112), 4, .inl (fun _ => 0))), ((q 110), .inl ((cq 110), 81, .inr (.inl (vp_updL f_3 (0 : Int32).toNatClampNeg 0))))] := hD
  refine lv_aload_n hx hb dX4_begin_22 rfl (lv_at hl 0 rfl) ?_
  refine lv_iload_n hx hb dX4_begin_23 rfl (lv_at hl 1 rfl) ?_
  refine va_put (D := (dC, dI)) (ci := 4) (v := .int n) (ty := .int) (C := RX4) (T := TX4) (N := 6) hx hb hts in_wsX4_begin_X4 tyX4 tyX4_ok nmX4 hown hK hP hD hS 0 rfl rfl 4 (by decide) (hts (.fieldLink RX4 34 "ShipOffice$Hiring" "goal" "I") (by decide +kernel)) (fun _ h9 => h9) rfl (by decide +kernel) rfl rfl (Nat.le_of_ble_eq_true rfl) dX4_begin_24 (fun H locs hP hD hS => ?_)
  have hP : va_P (dC, dI) vwCl [((q 11), .inr (4, [.ref (q 110), .ref (q 111), .int 0, .ref (q 112), .int n, .int 0])), ((q 112), .inl ((cq 112), 4, .inl (fun _ => 0))), ((q 110), .inl ((cq 110), 81, .inr (.inl (vp_updL f_3 (0 : Int32).toNatClampNeg 0))))] H := hP
  have hD : va_D A [((q 11), .inr (4, [.ref (q 110), .ref (q 111), .int 0, .ref (q 112), .int n, .int 0])), ((q 112), .inl ((cq 112), 4, .inl (fun _ => 0))), ((q 110), .inl ((cq 110), 81, .inr (.inl (vp_updL f_3 (0 : Int32).toNatClampNeg 0))))] := hD
  refine lv_aload_n hx hb dX4_begin_27 rfl (lv_at hl 0 rfl) ?_
  refine lv_iconst (v := 0) hx hb dX4_begin_28 (by decide) ?_
  refine va_put (D := (dC, dI)) (ci := 4) (v := .int 0) (ty := .int) (C := RX4) (T := TX4) (N := 6) hx hb hts in_wsX4_begin_X4 tyX4 tyX4_ok nmX4 hown hK hP hD hS 0 rfl rfl 5 (by decide) (hts (.fieldLink RX4 37 "ShipOffice$Hiring" "places" "I") (by decide +kernel)) (fun _ h9 => h9) rfl (by decide +kernel) rfl rfl (Nat.le_of_ble_eq_true rfl) dX4_begin_29 (fun H locs hP hD hS => ?_)
  have hP : va_P (dC, dI) vwCl [((q 11), .inr (4, [.ref (q 110), .ref (q 111), .int 0, .ref (q 112), .int n, .int 0])), ((q 112), .inl ((cq 112), 4, .inl (fun _ => 0))), ((q 110), .inl ((cq 110), 81, .inr (.inl (vp_updL f_3 (0 : Int32).toNatClampNeg 0))))] H := hP
  have hD : va_D A [((q 11), .inr (4, [.ref (q 110), .ref (q 111), .int 0, .ref (q 112), .int n, .int 0])), ((q 112), .inl ((cq 112), 4, .inl (fun _ => 0))), ((q 110), .inl ((cq 110), 81, .inr (.inl (vp_updL f_3 (0 : Int32).toNatClampNeg 0))))] := hD
  refine lv_iconst (v := 0) hx hb dX4_begin_32 (by decide) ?_
  refine lv_istore_n (lv' := [(2, .int 0), (0, .ref (q 11)), (1, .int n)]) hx hb dX4_begin_33 rfl hl (by decide) rfl (fun ls hl => ?_)
  refine lv_iload_n hx hb dX4_begin_34 rfl (lv_at hl 0 rfl) ?_
  refine lv_iconst (v := 4) hx hb dX4_begin_35 (by decide) ?_
  refine lv_icmp_ge (tgt := 69) hx hb dX4_begin_36 (by decide) (fun c_4 => absurd c_4 (by decide)) (fun _ => ?_)
  refine lv_aload_n hx hb dX4_begin_39 rfl (lv_at hl 1 rfl) ?_
  refine va_get (D := (dC, dI)) (ci := 4) (v := .ref (q 112)) (C := RX4) (T := TX4) (N := 6) hx hb hts in_wsX4_begin_X4 hown hK hP 0 rfl rfl 3 (by decide) (hts (.fieldLink RX4 19 "ShipOffice$Hiring" "firstPlace" "[I") (by decide +kernel)) (fun _ h9 => h9) rfl dX4_begin_40 ?_
  refine lv_iload_n hx hb dX4_begin_43 rfl (lv_at hl 0 rfl) ?_
  refine lv_aload_n hx hb dX4_begin_44 rfl (lv_at hl 1 rfl) ?_
  refine va_get (D := (dC, dI)) (ci := 4) (v := .int 0) (C := RX4) (T := TX4) (N := 6) hx hb hts in_wsX4_begin_X4 hown hK hP 0 rfl rfl 5 (by decide) (hts (.fieldLink RX4 37 "ShipOffice$Hiring" "places" "I") (by decide +kernel)) (fun _ h9 => h9) rfl dX4_begin_45 ?_
  refine va_iast hx hb hK hP hD hS 1 1 rfl rfl (by unfold vp_in; decide) dX4_begin_48 (fun H locs hP hD hS => ?_)
  have hP : va_P (dC, dI) vwCl [((q 11), .inr (4, [.ref (q 110), .ref (q 111), .int 0, .ref (q 112), .int n, .int 0])), ((q 112), .inl ((cq 112), 4, .inl (upd (fun _ => 0) (0 : Int32).toNatClampNeg 0))), ((q 110), .inl ((cq 110), 81, .inr (.inl (vp_updL f_3 (0 : Int32).toNatClampNeg 0))))] H := hP
  have hD : va_D A [((q 11), .inr (4, [.ref (q 110), .ref (q 111), .int 0, .ref (q 112), .int n, .int 0])), ((q 112), .inl ((cq 112), 4, .inl (upd (fun _ => 0) (0 : Int32).toNatClampNeg 0))), ((q 110), .inl ((cq 110), 81, .inr (.inl (vp_updL f_3 (0 : Int32).toNatClampNeg 0))))] := hD
  refine lv_aload_n hx hb dX4_begin_49 rfl (lv_at hl 1 rfl) ?_
  refine lv_dup hx hb dX4_begin_50 rfl ?_
  refine va_get (D := (dC, dI)) (ci := 4) (v := .int 0) (C := RX4) (T := TX4) (N := 6) hx hb hts in_wsX4_begin_X4 hown hK hP 0 rfl rfl 5 (by decide) (hts (.fieldLink RX4 37 "ShipOffice$Hiring" "places" "I") (by decide +kernel)) (fun _ h9 => h9) rfl dX4_begin_51 ?_
  refine lv_iload_n hx hb dX4_begin_54 rfl (lv_at hl 2 rfl) ?_
  refine lv_iload_n hx hb dX4_begin_55 rfl (lv_at hl 0 rfl) ?_
  have hPc := hP.sub (ws' := []) [] rfl
  have hDc := hD.sub (ws' := []) [] (by decide) rfl
  have hKc := hK.sub (tys' := []) [] rfl
  have hFc : ∀ q, va_A [] H.size q → A q := pu_free hS hA
  refine va_calli (va_runS (As := [.int n, .int 0]) (rest := [.int 0, .ref (q 11)]) ⟨hx, hb, hml, hown, hts⟩ (c_X4_handsOf_0 l dC dI H.size tL tS n) (va_cwS 2 hts gX4_begin_X4_handsOf rfl rfl rfl (by decide +kernel) ⟨(Nat.le_of_ble_eq_true rfl), (Nat.le_of_ble_eq_true rfl)⟩) (pr_SS hPc hKc hDc (hZ.go hS hFc)) rfl rfl hl.1 rfl (lv_room (Nat.le_of_ble_eq_true rfl)) dX4_begin_56 ⟨(Nat.le_of_ble_eq_true rfl), (Nat.le_of_ble_eq_true rfl)⟩) hS (fun q _ h => hFc q h) hFc (fun r_6 u t H locs ht hvm w_5 hB hz1 hk1 hS => ?_)
  have hP := pu_keep hP hk1
  clear hk1 hz1 hvm hB hPc hDc hKc hFc ht
  subst w_5
  refine lv_iadd hx hb dX4_begin_59 ?_
  refine va_put (D := (dC, dI)) (ci := 4) (v := .int (0 + ((n / 1) - (n / 1) / 3 * 3))) (ty := .int) (C := RX4) (T := TX4) (N := 6) hx hb hts in_wsX4_begin_X4 tyX4 tyX4_ok nmX4 hown hK hP hD hS 0 rfl rfl 5 (by decide) (hts (.fieldLink RX4 37 "ShipOffice$Hiring" "places" "I") (by decide +kernel)) (fun _ h9 => h9) rfl (by decide +kernel) rfl rfl (Nat.le_of_ble_eq_true rfl) dX4_begin_60 (fun H locs hP hD hS => ?_)
  have hP : va_P (dC, dI) vwCl [((q 11), .inr (4, [.ref (q 110), .ref (q 111), .int 0, .ref (q 112), .int n, .int (0 + ((n / 1) - (n / 1) / 3 * 3))])), ((q 112), .inl ((cq 112), 4, .inl (upd (fun _ => 0) (0 : Int32).toNatClampNeg 0))), ((q 110), .inl ((cq 110), 81, .inr (.inl (vp_updL f_3 (0 : Int32).toNatClampNeg 0))))] H := hP
  have hD : va_D A [((q 11), .inr (4, [.ref (q 110), .ref (q 111), .int 0, .ref (q 112), .int n, .int (0 + ((n / 1) - (n / 1) / 3 * 3))])), ((q 112), .inl ((cq 112), 4, .inl (upd (fun _ => 0) (0 : Int32).toNatClampNeg 0))), ((q 110), .inl ((cq 110), 81, .inr (.inl (vp_updL f_3 (0 : Int32).toNatClampNeg 0))))] := hD
  refine lv_iinc (v := 1) (lv' := [(2, .int 1), (0, .ref (q 11)), (1, .int n)]) hx hb dX4_begin_63 hl (k := 0) rfl (by decide) (by decide) rfl (fun ls hl => ?_)
  refine lv_goto (tgt := 34) hx hb dX4_begin_66 (by decide) ?_
  refine lv_iload_n hx hb dX4_begin_34 rfl (lv_at hl 0 rfl) ?_
  refine lv_iconst (v := 4) hx hb dX4_begin_35 (by decide) ?_
  refine lv_icmp_ge (tgt := 69) hx hb dX4_begin_36 (by decide) (fun c_7 => absurd c_7 (by decide)) (fun _ => ?_)
  refine lv_aload_n hx hb dX4_begin_39 rfl (lv_at hl 1 rfl) ?_
  refine va_get (D := (dC, dI)) (ci := 4) (v := .ref (q 112)) (C := RX4) (T := TX4) (N := 6) hx hb hts in_wsX4_begin_X4 hown hK hP 0 rfl rfl 3 (by decide) (hts (.fieldLink RX4 19 "ShipOffice$Hiring" "firstPlace" "[I") (by decide +kernel)) (fun _ h9 => h9) rfl dX4_begin_40 ?_
  refine lv_iload_n hx hb dX4_begin_43 rfl (lv_at hl 0 rfl) ?_
  refine lv_aload_n hx hb dX4_begin_44 rfl (lv_at hl 1 rfl) ?_
  refine va_get (D := (dC, dI)) (ci := 4) (v := .int (0 + ((n / 1) - (n / 1) / 3 * 3))) (C := RX4) (T := TX4) (N := 6) hx hb hts in_wsX4_begin_X4 hown hK hP 0 rfl rfl 5 (by decide) (hts (.fieldLink RX4 37 "ShipOffice$Hiring" "places" "I") (by decide +kernel)) (fun _ h9 => h9) rfl dX4_begin_45 ?_
  refine va_iast hx hb hK hP hD hS 1 1 rfl rfl (by unfold vp_in; decide) dX4_begin_48 (fun H locs hP hD hS => ?_)
  have hP : va_P (dC, dI) vwCl [((q 11), .inr (4, [.ref (q 110), .ref (q 111), .int 0, .ref (q 112), .int n, .int (0 + ((n / 1) - (n / 1) / 3 * 3))])), ((q 112), .inl ((cq 112), 4, .inl (upd (upd (fun _ => 0) (0 : Int32).toNatClampNeg 0) (1 : Int32).toNatClampNeg (0 + ((n / 1) - (n / 1) / 3 * 3))))), ((q 110), .inl ((cq 110), 81, .inr (.inl (vp_updL f_3 (0 : Int32).toNatClampNeg 0))))] H := hP
  have hD : va_D A [((q 11), .inr (4, [.ref (q 110), .ref (q 111), .int 0, .ref (q 112), .int n, .int (0 + ((n / 1) - (n / 1) / 3 * 3))])), ((q 112), .inl ((cq 112), 4, .inl (upd (upd (fun _ => 0) (0 : Int32).toNatClampNeg 0) (1 : Int32).toNatClampNeg (0 + ((n / 1) - (n / 1) / 3 * 3))))), ((q 110), .inl ((cq 110), 81, .inr (.inl (vp_updL f_3 (0 : Int32).toNatClampNeg 0))))] := hD
  refine lv_aload_n hx hb dX4_begin_49 rfl (lv_at hl 1 rfl) ?_
  refine lv_dup hx hb dX4_begin_50 rfl ?_
  refine va_get (D := (dC, dI)) (ci := 4) (v := .int (0 + ((n / 1) - (n / 1) / 3 * 3))) (C := RX4) (T := TX4) (N := 6) hx hb hts in_wsX4_begin_X4 hown hK hP 0 rfl rfl 5 (by decide) (hts (.fieldLink RX4 37 "ShipOffice$Hiring" "places" "I") (by decide +kernel)) (fun _ h9 => h9) rfl dX4_begin_51 ?_
  refine lv_iload_n hx hb dX4_begin_54 rfl (lv_at hl 2 rfl) ?_
  refine lv_iload_n hx hb dX4_begin_55 rfl (lv_at hl 0 rfl) ?_
  have hPc := hP.sub (ws' := []) [] rfl
  have hDc := hD.sub (ws' := []) [] (by decide) rfl
  have hKc := hK.sub (tys' := []) [] rfl
  have hFc : ∀ q, va_A [] H.size q → A q := pu_free hS hA
  refine va_calli (va_runS (As := [.int n, .int 1]) (rest := [.int (0 + ((n / 1) - (n / 1) / 3 * 3)), .ref (q 11)]) ⟨hx, hb, hml, hown, hts⟩ (c_X4_handsOf_1 l dC dI H.size tL tS n) (va_cwS 2 hts gX4_begin_X4_handsOf rfl rfl rfl (by decide +kernel) ⟨(Nat.le_of_ble_eq_true rfl), (Nat.le_of_ble_eq_true rfl)⟩) (pr_SS hPc hKc hDc (hZ.go hS hFc)) rfl rfl hl.1 rfl (lv_room (Nat.le_of_ble_eq_true rfl)) dX4_begin_56 ⟨(Nat.le_of_ble_eq_true rfl), (Nat.le_of_ble_eq_true rfl)⟩) hS (fun q _ h => hFc q h) hFc (fun r_9 u t H locs ht hvm w_8 hB hz1 hk1 hS => ?_)
  have hP := pu_keep hP hk1
  clear hk1 hz1 hvm hB hPc hDc hKc hFc ht
  subst w_8
  refine lv_iadd hx hb dX4_begin_59 ?_
  refine va_put (D := (dC, dI)) (ci := 4) (v := .int ((0 + ((n / 1) - (n / 1) / 3 * 3)) + ((n / 3) - (n / 3) / 3 * 3))) (ty := .int) (C := RX4) (T := TX4) (N := 6) hx hb hts in_wsX4_begin_X4 tyX4 tyX4_ok nmX4 hown hK hP hD hS 0 rfl rfl 5 (by decide) (hts (.fieldLink RX4 37 "ShipOffice$Hiring" "places" "I") (by decide +kernel)) (fun _ h9 => h9) rfl (by decide +kernel) rfl rfl (Nat.le_of_ble_eq_true rfl) dX4_begin_60 (fun H locs hP hD hS => ?_)
  have hP : va_P (dC, dI) vwCl [((q 11), .inr (4, [.ref (q 110), .ref (q 111), .int 0, .ref (q 112), .int n, .int ((0 + ((n / 1) - (n / 1) / 3 * 3)) + ((n / 3) - (n / 3) / 3 * 3))])), ((q 112), .inl ((cq 112), 4, .inl (upd (upd (fun _ => 0) (0 : Int32).toNatClampNeg 0) (1 : Int32).toNatClampNeg (0 + ((n / 1) - (n / 1) / 3 * 3))))), ((q 110), .inl ((cq 110), 81, .inr (.inl (vp_updL f_3 (0 : Int32).toNatClampNeg 0))))] H := hP
  have hD : va_D A [((q 11), .inr (4, [.ref (q 110), .ref (q 111), .int 0, .ref (q 112), .int n, .int ((0 + ((n / 1) - (n / 1) / 3 * 3)) + ((n / 3) - (n / 3) / 3 * 3))])), ((q 112), .inl ((cq 112), 4, .inl (upd (upd (fun _ => 0) (0 : Int32).toNatClampNeg 0) (1 : Int32).toNatClampNeg (0 + ((n / 1) - (n / 1) / 3 * 3))))), ((q 110), .inl ((cq 110), 81, .inr (.inl (vp_updL f_3 (0 : Int32).toNatClampNeg 0))))] := hD
  refine lv_iinc (v := 2) (lv' := [(2, .int 2), (0, .ref (q 11)), (1, .int n)]) hx hb dX4_begin_63 hl (k := 0) rfl (by decide) (by decide) rfl (fun ls hl => ?_)
  refine lv_goto (tgt := 34) hx hb dX4_begin_66 (by decide) ?_
  refine lv_iload_n hx hb dX4_begin_34 rfl (lv_at hl 0 rfl) ?_
  refine lv_iconst (v := 4) hx hb dX4_begin_35 (by decide) ?_
  refine lv_icmp_ge (tgt := 69) hx hb dX4_begin_36 (by decide) (fun c_10 => absurd c_10 (by decide)) (fun _ => ?_)
  refine lv_aload_n hx hb dX4_begin_39 rfl (lv_at hl 1 rfl) ?_
  refine va_get (D := (dC, dI)) (ci := 4) (v := .ref (q 112)) (C := RX4) (T := TX4) (N := 6) hx hb hts in_wsX4_begin_X4 hown hK hP 0 rfl rfl 3 (by decide) (hts (.fieldLink RX4 19 "ShipOffice$Hiring" "firstPlace" "[I") (by decide +kernel)) (fun _ h9 => h9) rfl dX4_begin_40 ?_
  refine lv_iload_n hx hb dX4_begin_43 rfl (lv_at hl 0 rfl) ?_
  refine lv_aload_n hx hb dX4_begin_44 rfl (lv_at hl 1 rfl) ?_
  refine va_get (D := (dC, dI)) (ci := 4) (v := .int ((0 + ((n / 1) - (n / 1) / 3 * 3)) + ((n / 3) - (n / 3) / 3 * 3))) (C := RX4) (T := TX4) (N := 6) hx hb hts in_wsX4_begin_X4 hown hK hP 0 rfl rfl 5 (by decide) (hts (.fieldLink RX4 37 "ShipOffice$Hiring" "places" "I") (by decide +kernel)) (fun _ h9 => h9) rfl dX4_begin_45 ?_
  refine va_iast hx hb hK hP hD hS 1 1 rfl rfl (by unfold vp_in; decide) dX4_begin_48 (fun H locs hP hD hS => ?_)
  have hP : va_P (dC, dI) vwCl [((q 11), .inr (4, [.ref (q 110), .ref (q 111), .int 0, .ref (q 112), .int n, .int ((0 + ((n / 1) - (n / 1) / 3 * 3)) + ((n / 3) - (n / 3) / 3 * 3))])), ((q 112), .inl ((cq 112), 4, .inl (upd (upd (upd (fun _ => 0) (0 : Int32).toNatClampNeg 0) (1 : Int32).toNatClampNeg (0 + ((n / 1) - (n / 1) / 3 * 3))) (2 : Int32).toNatClampNeg ((0 + ((n / 1) - (n / 1) / 3 * 3)) + ((n / 3) - (n / 3) / 3 * 3))))), ((q 110), .inl ((cq 110), 81, .inr (.inl (vp_updL f_3 (0 : Int32).toNatClampNeg 0))))] H := hP
  have hD : va_D A [((q 11), .inr (4, [.ref (q 110), .ref (q 111), .int 0, .ref (q 112), .int n, .int ((0 + ((n / 1) - (n / 1) / 3 * 3)) + ((n / 3) - (n / 3) / 3 * 3))])), ((q 112), .inl ((cq 112), 4, .inl (upd (upd (upd (fun _ => 0) (0 : Int32).toNatClampNeg 0) (1 : Int32).toNatClampNeg (0 + ((n / 1) - (n / 1) / 3 * 3))) (2 : Int32).toNatClampNeg ((0 + ((n / 1) - (n / 1) / 3 * 3)) + ((n / 3) - (n / 3) / 3 * 3))))), ((q 110), .inl ((cq 110), 81, .inr (.inl (vp_updL f_3 (0 : Int32).toNatClampNeg 0))))] := hD
  refine lv_aload_n hx hb dX4_begin_49 rfl (lv_at hl 1 rfl) ?_
  refine lv_dup hx hb dX4_begin_50 rfl ?_
  refine va_get (D := (dC, dI)) (ci := 4) (v := .int ((0 + ((n / 1) - (n / 1) / 3 * 3)) + ((n / 3) - (n / 3) / 3 * 3))) (C := RX4) (T := TX4) (N := 6) hx hb hts in_wsX4_begin_X4 hown hK hP 0 rfl rfl 5 (by decide) (hts (.fieldLink RX4 37 "ShipOffice$Hiring" "places" "I") (by decide +kernel)) (fun _ h9 => h9) rfl dX4_begin_51 ?_
  refine lv_iload_n hx hb dX4_begin_54 rfl (lv_at hl 2 rfl) ?_
  refine lv_iload_n hx hb dX4_begin_55 rfl (lv_at hl 0 rfl) ?_
  have hPc := hP.sub (ws' := []) [] rfl
  have hDc := hD.sub (ws' := []) [] (by decide) rfl
  have hKc := hK.sub (tys' := []) [] rfl
  have hFc : ∀ q, va_A [] H.size q → A q := pu_free hS hA
  refine va_calli (va_runS (As := [.int n, .int 2]) (rest := [.int ((0 + ((n / 1) - (n / 1) / 3 * 3)) + ((n / 3) - (n / 3) / 3 * 3)), .ref (q 11)]) ⟨hx, hb, hml, hown, hts⟩ (c_X4_handsOf_2 l dC dI H.size tL tS n) (va_cwS 2 hts gX4_begin_X4_handsOf rfl rfl rfl (by decide +kernel) ⟨(Nat.le_of_ble_eq_true rfl), (Nat.le_of_ble_eq_true rfl)⟩) (pr_SS hPc hKc hDc (hZ.go hS hFc)) rfl rfl hl.1 rfl (lv_room (Nat.le_of_ble_eq_true rfl)) dX4_begin_56 ⟨(Nat.le_of_ble_eq_true rfl), (Nat.le_of_ble_eq_true rfl)⟩) hS (fun q _ h => hFc q h) hFc (fun r_12 u t H locs ht hvm w_11 hB hz1 hk1 hS => ?_)
  have hP := pu_keep hP hk1
  clear hk1 hz1 hvm hB hPc hDc hKc hFc ht
  subst w_11
  refine lv_iadd hx hb dX4_begin_59 ?_
  refine va_put (D := (dC, dI)) (ci := 4) (v := .int (((0 + ((n / 1) - (n / 1) / 3 * 3)) + ((n / 3) - (n / 3) / 3 * 3)) + ((n / 9) - (n / 9) / 3 * 3))) (ty := .int) (C := RX4) (T := TX4) (N := 6) hx hb hts in_wsX4_begin_X4 tyX4 tyX4_ok nmX4 hown hK hP hD hS 0 rfl rfl 5 (by decide) (hts (.fieldLink RX4 37 "ShipOffice$Hiring" "places" "I") (by decide +kernel)) (fun _ h9 => h9) rfl (by decide +kernel) rfl rfl (Nat.le_of_ble_eq_true rfl) dX4_begin_60 (fun H locs hP hD hS => ?_)
  have hP : va_P (dC, dI) vwCl [((q 11), .inr (4, [.ref (q 110), .ref (q 111), .int 0, .ref (q 112), .int n, .int (((0 + ((n / 1) - (n / 1) / 3 * 3)) + ((n / 3) - (n / 3) / 3 * 3)) + ((n / 9) - (n / 9) / 3 * 3))])), ((q 112), .inl ((cq 112), 4, .inl (upd (upd (upd (fun _ => 0) (0 : Int32).toNatClampNeg 0) (1 : Int32).toNatClampNeg (0 + ((n / 1) - (n / 1) / 3 * 3))) (2 : Int32).toNatClampNeg ((0 + ((n / 1) - (n / 1) / 3 * 3)) + ((n / 3) - (n / 3) / 3 * 3))))), ((q 110), .inl ((cq 110), 81, .inr (.inl (vp_updL f_3 (0 : Int32).toNatClampNeg 0))))] H := hP
  have hD : va_D A [((q 11), .inr (4, [.ref (q 110), .ref (q 111), .int 0, .ref (q 112), .int n, .int (((0 + ((n / 1) - (n / 1) / 3 * 3)) + ((n / 3) - (n / 3) / 3 * 3)) + ((n / 9) - (n / 9) / 3 * 3))])), ((q 112), .inl ((cq 112), 4, .inl (upd (upd (upd (fun _ => 0) (0 : Int32).toNatClampNeg 0) (1 : Int32).toNatClampNeg (0 + ((n / 1) - (n / 1) / 3 * 3))) (2 : Int32).toNatClampNeg ((0 + ((n / 1) - (n / 1) / 3 * 3)) + ((n / 3) - (n / 3) / 3 * 3))))), ((q 110), .inl ((cq 110), 81, .inr (.inl (vp_updL f_3 (0 : Int32).toNatClampNeg 0))))] := hD
  refine lv_iinc (v := 3) (lv' := [(2, .int 3), (0, .ref (q 11)), (1, .int n)]) hx hb dX4_begin_63 hl (k := 0) rfl (by decide) (by decide) rfl (fun ls hl => ?_)
  refine lv_goto (tgt := 34) hx hb dX4_begin_66 (by decide) ?_
  refine lv_iload_n hx hb dX4_begin_34 rfl (lv_at hl 0 rfl) ?_
  refine lv_iconst (v := 4) hx hb dX4_begin_35 (by decide) ?_
  refine lv_icmp_ge (tgt := 69) hx hb dX4_begin_36 (by decide) (fun c_13 => absurd c_13 (by decide)) (fun _ => ?_)
  refine lv_aload_n hx hb dX4_begin_39 rfl (lv_at hl 1 rfl) ?_
  refine va_get (D := (dC, dI)) (ci := 4) (v := .ref (q 112)) (C := RX4) (T := TX4) (N := 6) hx hb hts in_wsX4_begin_X4 hown hK hP 0 rfl rfl 3 (by decide) (hts (.fieldLink RX4 19 "ShipOffice$Hiring" "firstPlace" "[I") (by decide +kernel)) (fun _ h9 => h9) rfl dX4_begin_40 ?_
  refine lv_iload_n hx hb dX4_begin_43 rfl (lv_at hl 0 rfl) ?_
  refine lv_aload_n hx hb dX4_begin_44 rfl (lv_at hl 1 rfl) ?_
  refine va_get (D := (dC, dI)) (ci := 4) (v := .int (((0 + ((n / 1) - (n / 1) / 3 * 3)) + ((n / 3) - (n / 3) / 3 * 3)) + ((n / 9) - (n / 9) / 3 * 3))) (C := RX4) (T := TX4) (N := 6) hx hb hts in_wsX4_begin_X4 hown hK hP 0 rfl rfl 5 (by decide) (hts (.fieldLink RX4 37 "ShipOffice$Hiring" "places" "I") (by decide +kernel)) (fun _ h9 => h9) rfl dX4_begin_45 ?_
  refine va_iast hx hb hK hP hD hS 1 1 rfl rfl (by unfold vp_in; decide) dX4_begin_48 (fun H locs hP hD hS => ?_)
  have hP : va_P (dC, dI) vwCl [((q 11), .inr (4, [.ref (q 110), .ref (q 111), .int 0, .ref (q 112), .int n, .int (((0 + ((n / 1) - (n / 1) / 3 * 3)) + ((n / 3) - (n / 3) / 3 * 3)) + ((n / 9) - (n / 9) / 3 * 3))])), ((q 112), .inl ((cq 112), 4, .inl (upd (upd (upd (upd (fun _ => 0) (0 : Int32).toNatClampNeg 0) (1 : Int32).toNatClampNeg (0 + ((n / 1) - (n / 1) / 3 * 3))) (2 : Int32).toNatClampNeg ((0 + ((n / 1) - (n / 1) / 3 * 3)) + ((n / 3) - (n / 3) / 3 * 3))) (3 : Int32).toNatClampNeg (((0 + ((n / 1) - (n / 1) / 3 * 3)) + ((n / 3) - (n / 3) / 3 * 3)) + ((n / 9) - (n / 9) / 3 * 3))))), ((q 110), .inl ((cq 110), 81, .inr (.inl (vp_updL f_3 (0 : Int32).toNatClampNeg 0))))] H := hP
  have hD : va_D A [((q 11), .inr (4, [.ref (q 110), .ref (q 111), .int 0, .ref (q 112), .int n, .int (((0 + ((n / 1) - (n / 1) / 3 * 3)) + ((n / 3) - (n / 3) / 3 * 3)) + ((n / 9) - (n / 9) / 3 * 3))])), ((q 112), .inl ((cq 112), 4, .inl (upd (upd (upd (upd (fun _ => 0) (0 : Int32).toNatClampNeg 0) (1 : Int32).toNatClampNeg (0 + ((n / 1) - (n / 1) / 3 * 3))) (2 : Int32).toNatClampNeg ((0 + ((n / 1) - (n / 1) / 3 * 3)) + ((n / 3) - (n / 3) / 3 * 3))) (3 : Int32).toNatClampNeg (((0 + ((n / 1) - (n / 1) / 3 * 3)) + ((n / 3) - (n / 3) / 3 * 3)) + ((n / 9) - (n / 9) / 3 * 3))))), ((q 110), .inl ((cq 110), 81, .inr (.inl (vp_updL f_3 (0 : Int32).toNatClampNeg 0))))] := hD
  refine lv_aload_n hx hb dX4_begin_49 rfl (lv_at hl 1 rfl) ?_
  refine lv_dup hx hb dX4_begin_50 rfl ?_
  refine va_get (D := (dC, dI)) (ci := 4) (v := .int (((0 + ((n / 1) - (n / 1) / 3 * 3)) + ((n / 3) - (n / 3) / 3 * 3)) + ((n / 9) - (n / 9) / 3 * 3))) (C := RX4) (T := TX4) (N := 6) hx hb hts in_wsX4_begin_X4 hown hK hP 0 rfl rfl 5 (by decide) (hts (.fieldLink RX4 37 "ShipOffice$Hiring" "places" "I") (by decide +kernel)) (fun _ h9 => h9) rfl dX4_begin_51 ?_
  refine lv_iload_n hx hb dX4_begin_54 rfl (lv_at hl 2 rfl) ?_
  refine lv_iload_n hx hb dX4_begin_55 rfl (lv_at hl 0 rfl) ?_
  have hPc := hP.sub (ws' := []) [] rfl
  have hDc := hD.sub (ws' := []) [] (by decide) rfl
  have hKc := hK.sub (tys' := []) [] rfl
  have hFc : ∀ q, va_A [] H.size q → A q := pu_free hS hA
  refine va_calli (va_runS (As := [.int n, .int 3]) (rest := [.int (((0 + ((n / 1) - (n / 1) / 3 * 3)) + ((n / 3) - (n / 3) / 3 * 3)) + ((n / 9) - (n / 9) / 3 * 3)), .ref (q 11)]) ⟨hx, hb, hml, hown, hts⟩ (c_X4_handsOf_3 l dC dI H.size tL tS n) (va_cwS 2 hts gX4_begin_X4_handsOf rfl rfl rfl (by decide +kernel) ⟨(Nat.le_of_ble_eq_true rfl), (Nat.le_of_ble_eq_true rfl)⟩) (pr_SS hPc hKc hDc (hZ.go hS hFc)) rfl rfl hl.1 rfl (lv_room (Nat.le_of_ble_eq_true rfl)) dX4_begin_56 ⟨(Nat.le_of_ble_eq_true rfl), (Nat.le_of_ble_eq_true rfl)⟩) hS (fun q _ h => hFc q h) hFc (fun r_15 u t H locs ht hvm w_14 hB hz1 hk1 hS => ?_)
  have hP := pu_keep hP hk1
  clear hk1 hz1 hvm hB hPc hDc hKc hFc ht
  subst w_14
  refine lv_iadd hx hb dX4_begin_59 ?_
  refine va_put (D := (dC, dI)) (ci := 4) (v := .int ((((0 + ((n / 1) - (n / 1) / 3 * 3)) + ((n / 3) - (n / 3) / 3 * 3)) + ((n / 9) - (n / 9) / 3 * 3)) + ((n / 27) - (n / 27) / 3 * 3))) (ty := .int) (C := RX4) (T := TX4) (N := 6) hx hb hts in_wsX4_begin_X4 tyX4 tyX4_ok nmX4 hown hK hP hD hS 0 rfl rfl 5 (by decide) (hts (.fieldLink RX4 37 "ShipOffice$Hiring" "places" "I") (by decide +kernel)) (fun _ h9 => h9) rfl (by decide +kernel) rfl rfl (Nat.le_of_ble_eq_true rfl) dX4_begin_60 (fun H locs hP hD hS => ?_)
  have hP : va_P (dC, dI) vwCl [((q 11), .inr (4, [.ref (q 110), .ref (q 111), .int 0, .ref (q 112), .int n, .int ((((0 + ((n / 1) - (n / 1) / 3 * 3)) + ((n / 3) - (n / 3) / 3 * 3)) + ((n / 9) - (n / 9) / 3 * 3)) + ((n / 27) - (n / 27) / 3 * 3))])), ((q 112), .inl ((cq 112), 4, .inl (upd (upd (upd (upd (fun _ => 0) (0 : Int32).toNatClampNeg 0) (1 : Int32).toNatClampNeg (0 + ((n / 1) - (n / 1) / 3 * 3))) (2 : Int32).toNatClampNeg ((0 + ((n / 1) - (n / 1) / 3 * 3)) + ((n / 3) - (n / 3) / 3 * 3))) (3 : Int32).toNatClampNeg (((0 + ((n / 1) - (n / 1) / 3 * 3)) + ((n / 3) - (n / 3) / 3 * 3)) + ((n / 9) - (n / 9) / 3 * 3))))), ((q 110), .inl ((cq 110), 81, .inr (.inl (vp_updL f_3 (0 : Int32).toNatClampNeg 0))))] H := hP
  have hD : va_D A [((q 11), .inr (4, [.ref (q 110), .ref (q 111), .int 0, .ref (q 112), .int n, .int ((((0 + ((n / 1) - (n / 1) / 3 * 3)) + ((n / 3) - (n / 3) / 3 * 3)) + ((n / 9) - (n / 9) / 3 * 3)) + ((n / 27) - (n / 27) / 3 * 3))])), ((q 112), .inl ((cq 112), 4, .inl (upd (upd (upd (upd (fun _ => 0) (0 : Int32).toNatClampNeg 0) (1 : Int32).toNatClampNeg (0 + ((n / 1) - (n / 1) / 3 * 3))) (2 : Int32).toNatClampNeg ((0 + ((n / 1) - (n / 1) / 3 * 3)) + ((n / 3) - (n / 3) / 3 * 3))) (3 : Int32).toNatClampNeg (((0 + ((n / 1) - (n / 1) / 3 * 3)) + ((n / 3) - (n / 3) / 3 * 3)) + ((n / 9) - (n / 9) / 3 * 3))))), ((q 110), .inl ((cq 110), 81, .inr (.inl (vp_updL f_3 (0 : Int32).toNatClampNeg 0))))] := hD
  refine lv_iinc (v := 4) (lv' := [(2, .int 4), (0, .ref (q 11)), (1, .int n)]) hx hb dX4_begin_63 hl (k := 0) rfl (by decide) (by decide) rfl (fun ls hl => ?_)
  refine lv_goto (tgt := 34) hx hb dX4_begin_66 (by decide) ?_
  refine lv_iload_n hx hb dX4_begin_34 rfl (lv_at hl 0 rfl) ?_
  refine lv_iconst (v := 4) hx hb dX4_begin_35 (by decide) ?_
  refine lv_icmp_ge (tgt := 69) hx hb dX4_begin_36 (by decide) (fun _ => ?_) (fun c_16 => absurd c_16 (by decide))
  have hP9 := hP.sub (ws' := [((q 11), .inr (4, [.ref (q 110), .ref (q 111), .int 0, .ref (q 112), .int n, .int ((((0 + ((n / 1) - (n / 1) / 3 * 3)) + ((n / 3) - (n / 3) / 3 * 3)) + ((n / 9) - (n / 9) / 3 * 3)) + ((n / 27) - (n / 27) / 3 * 3))])), ((q 110), .inl ((cq 110), 81, .inr (.inl (vp_updL f_3 (0 : Int32).toNatClampNeg 0)))), ((q 112), .inl ((cq 112), 4, .inl (upd (upd (upd (upd (fun _ => 0) (0 : Int32).toNatClampNeg 0) (1 : Int32).toNatClampNeg (0 + ((n / 1) - (n / 1) / 3 * 3))) (2 : Int32).toNatClampNeg ((0 + ((n / 1) - (n / 1) / 3 * 3)) + ((n / 3) - (n / 3) / 3 * 3))) (3 : Int32).toNatClampNeg (((0 + ((n / 1) - (n / 1) / 3 * 3)) + ((n / 3) - (n / 3) / 3 * 3)) + ((n / 9) - (n / 9) / 3 * 3)))))]) [0, 2, 1] rfl
  have hD9 := hD.sub (ws' := [((q 11), .inr (4, [.ref (q 110), .ref (q 111), .int 0, .ref (q 112), .int n, .int ((((0 + ((n / 1) - (n / 1) / 3 * 3)) + ((n / 3) - (n / 3) / 3 * 3)) + ((n / 9) - (n / 9) / 3 * 3)) + ((n / 27) - (n / 27) / 3 * 3))])), ((q 110), .inl ((cq 110), 81, .inr (.inl (vp_updL f_3 (0 : Int32).toNatClampNeg 0)))), ((q 112), .inl ((cq 112), 4, .inl (upd (upd (upd (upd (fun _ => 0) (0 : Int32).toNatClampNeg 0) (1 : Int32).toNatClampNeg (0 + ((n / 1) - (n / 1) / 3 * 3))) (2 : Int32).toNatClampNeg ((0 + ((n / 1) - (n / 1) / 3 * 3)) + ((n / 3) - (n / 3) / 3 * 3))) (3 : Int32).toNatClampNeg (((0 + ((n / 1) - (n / 1) / 3 * 3)) + ((n / 3) - (n / 3) / 3 * 3)) + ((n / 9) - (n / 9) / 3 * 3)))))]) [0, 2, 1] (by decide) rfl
  have hK9 := hK.sub (tys' := [((cq 110), .long), ((cq 112), .int)]) [0, 1] rfl
  subst hAe
  exact W.vret hx hb hr (fun t ht hW => ⟨⟨((vp_updL f_3 (0 : Int32).toNatClampNeg 0), (upd (upd (upd (upd (fun _ => 0) (0 : Int32).toNatClampNeg 0) (1 : Int32).toNatClampNeg (0 + ((n / 1) - (n / 1) / 3 * 3))) (2 : Int32).toNatClampNeg ((0 + ((n / 1) - (n / 1) / 3 * 3)) + ((n / 3) - (n / 3) / 3 * 3))) (3 : Int32).toNatClampNeg (((0 + ((n / 1) - (n / 1) / 3 * 3)) + ((n / 3) - (n / 3) / 3 * 3)) + ((n / 9) - (n / 9) / 3 * 3))), ((((0 + ((n / 1) - (n / 1) / 3 * 3)) + ((n / 3) - (n / 3) / 3 * 3)) + ((n / 9) - (n / 9) / 3 * 3)) + ((n / 27) - (n / 27) / 3 * 3))), rfl, ⟨fun j hj h0 => by show vp_updL _ _ _ j = _; unfold vp_updL; rw [if_neg (by simpa using Nat.pos_iff_ne_zero.mp h0)]; exact w_1 j hj, rfl, fun h => by subst h; dsimp only; decide⟩, ⟨by rw [ht]; exact hP9, va_K.moved hW.alike hK9, hD9⟩⟩, hS.F ht⟩) hS.2.2 dX4_begin_69
theorem crew_n {f : Nat → Int64} {n : Int32} (hn : vp_in n 81) (h0 : f 0 = 0) (h1 : ∀ j, j < 81 → 0 < j → f j = 1152921504606846976) : (n = 0 ∧ f (0 : Int32).toNatClampNeg = 0) ∨ (¬ n = 0 ∧ f n.toNatClampNeg = 1152921504606846976) := by
  obtain ⟨j, hj, rfl⟩ := vp_in_of hn (by decide)
  rcases Nat.eq_zero_or_pos j with rfl | hp
  · exact Or.inl ⟨rfl, h0⟩
  · exact Or.inr ⟨nI_ne0 hp (by omega), by rw [nI_clamp (by omega)]; exact h1 j hj hp⟩
theorem crew_in81 {n : Int32} (h : 0 ≤ n) (h2 : n ≤ 80) : vp_in n 81 := by
  rw [i_le] at h h2
  have e : (0 : Int32).toInt = 0 := by decide
  have e2 : (80 : Int32).toInt = 80 := by decide
  exact vp_in_iff.mpr ⟨by omega, by omega⟩
theorem crew_w8 {w : Int32} (h : w ≤ 8) : ¬ 9 ≤ w := by
  rw [i_le] at h
  rw [i_le]
  have e : (8 : Int32).toInt = 8 := by decide
  have e2 : (9 : Int32).toInt = 9 := by decide
  omega
theorem crew_w9 {w : Int32} (h : ¬ w ≤ 8) : 9 ≤ w := by
  rw [i_le] at h
  rw [i_le]
  have e : (8 : Int32).toInt = 8 := by decide
  have e2 : (9 : Int32).toInt = 9 := by decide
  omega
theorem crew_pl {w : Int32} (h : ¬ w < 0) (h2 : ¬ w = 0) : ¬ w - 1 < 0 := by
  obtain ⟨j, hj, rfl⟩ := nI_of h
  cases j with
  | zero => exact absurd rfl h2
  | succ j => rw [nI_pred]; exact nI_pos (by omega)
def sp_crew (n w : Int32) : Int32 := if 0 ≤ n then (if n ≤ 80 then (if isI w 9 = 0 then -2 else if w = 0 then (if n = 0 then 0 else -9) else -9) else -6) else -4
set_option maxHeartbeats 4000000 in
set_option maxRecDepth 100000 in
theorem c_X4_leastSum (l : Launch) (dC : Nat → ClassId) (dI : Nat → Nat → Nat) (sz : Nat) (h0 : Nat) (q : Nat → Nat) (cq : Nat → ClassId) (f : Nat → Int64) (n pl : Int32) (hn : vp_in n 81) (hz : f 0 = 0) (h1 : ∀ j, j < 81 → 0 < j → f j = 1152921504606846976) : Met l yX4_leastSum wsX4_leastSum ({ frames := 0, cells := 0, slots := 0, locals := 0 }) (va_Pc [.ref (q 11)] (pcW (dC, dI) [((cq 110), .long)] [((q 11), .inr (4, [.ref (q 110), .ref (q 111), .int 0, .ref (q 112), .int n, .int pl])), ((q 110), .inl ((cq 110), 81, .inr (.inl f)))] sz)) (va_Qi (fun (r : Int32) (u : Unit) => r = if n = 0 then 0 else -9) (fun _ _ => True) (va_A [] sz)) 0 0 (va_A [] sz) := by
  refine Met.ofW (cc := cX4_leastSum) (maxL := 1) (ret := (some .int)) (by decide) rfl ?_
  intro p e s m args below meth c s₁ B hml hv
  obtain ⟨rfl, hsz, hP, hK, hD0⟩ := hv
  have hx := B.exec
  have hb := B.bytes
  have hr := B.returns
  have hts := atoms_spec (ws := wsX4_leastSum) B.pre
  have hown : s.vm.findClass RX4 = some m.cls := findClass_of_methodNamed B.named
  have hlocks := B.notSynchronized
  subst hsz
  have hD := hD0
  generalize hAe : va_A [] s.heap.size = A at ⊢
  have hA : ∀ q : Nat, s.heap.size ≤ q → A q := fun q h => by rw [← hAe]; exact Or.inr h
  have hS : va_S A s.heap s.heap [] := va_S.rf
  have hP : va_P (dC, dI) vwCl [((q 11), .inr (4, [.ref (q 110), .ref (q 111), .int 0, .ref (q 112), .int n, .int pl])), ((q 110), .inl ((cq 110), 81, .inr (.inl f)))] s.heap := hP
  have hl := lv_entry ([.ref (q 11)]) (n := 1) (Nat.le_of_ble_eq_true rfl)
  rw [lg_entry_eq]
  generalize (lg_sl ([.ref (q 11)]) ++ List.replicate (1 - (lg_sl ([.ref (q 11)])).length) Slot.unset).toArray = ls at hl ⊢
  have hl : lv_has ls 1 [(0, .ref (q 11))] := hl
  rcases crew_n hn hz h1 with ⟨rfl, hf⟩ | ⟨hne, hf⟩
  · have hP : va_P (dC, dI) vwCl [((q 11), .inr (4, [.ref (q 110), .ref (q 111), .int 0, .ref (q 112), .int 0, .int pl])), ((q 110), .inl ((cq 110), 81, .inr (.inl f)))] s.heap := hP
    refine lv_aload_n hx hb dX4_leastSum_0 rfl (lv_at hl 0 rfl) ?_
    refine va_get (D := (dC, dI)) (ci := 4) (v := .ref (q 110)) (C := RX4) (T := TX4) (N := 6) hx hb hts in_wsX4_leastSum_X4 hown hK hP 0 rfl rfl 0 (by decide) (hts (.fieldLink RX4 11 "ShipOffice$Hiring" "best" "[J") (by decide +kernel)) (fun _ h9 => h9) rfl dX4_leastSum_1 ?_
    refine lv_aload_n hx hb dX4_leastSum_4 rfl (lv_at hl 0 rfl) ?_
    refine va_get (D := (dC, dI)) (ci := 4) (v := .int 0) (C := RX4) (T := TX4) (N := 6) hx hb hts in_wsX4_leastSum_X4 hown hK hP 0 rfl rfl 4 (by decide) (hts (.fieldLink RX4 34 "ShipOffice$Hiring" "goal" "I") (by decide +kernel)) (fun _ h9 => h9) rfl dX4_leastSum_5 ?_
    refine va_lald hx hb hK hP 1 0 rfl rfl (by unfold vp_in; decide) dX4_leastSum_8 ?_
    refine lv_topl (fun y ey => ?_)
    obtain rfl : y = 0 := ey.trans hf
    refine lv_ldc2 (v := 1152921504606846976) hx hb hown (hts (.constantLong RX4 22 (1152921504606846976)) (by decide +kernel)) dX4_leastSum_9 ?_
    refine W.lcmp hx hb dX4_leastSum_12 ?_
    refine lv_topi (fun y ey => ?_)
    obtain rfl : y = (-1) := ey.trans (by decide)
    refine lv_if_ne (tgt := 21) hx hb dX4_leastSum_13 (by decide) (fun _ => ?_) (fun c_1 => absurd c_1 (by decide))
    refine lv_aload_n hx hb dX4_leastSum_21 rfl (lv_at hl 0 rfl) ?_
    refine va_get (D := (dC, dI)) (ci := 4) (v := .ref (q 110)) (C := RX4) (T := TX4) (N := 6) hx hb hts in_wsX4_leastSum_X4 hown hK hP 0 rfl rfl 0 (by decide) (hts (.fieldLink RX4 11 "ShipOffice$Hiring" "best" "[J") (by decide +kernel)) (fun _ h9 => h9) rfl dX4_leastSum_22 ?_
    refine lv_aload_n hx hb dX4_leastSum_25 rfl (lv_at hl 0 rfl) ?_
    refine va_get (D := (dC, dI)) (ci := 4) (v := .int 0) (C := RX4) (T := TX4) (N := 6) hx hb hts in_wsX4_leastSum_X4 hown hK hP 0 rfl rfl 4 (by decide) (hts (.fieldLink RX4 34 "ShipOffice$Hiring" "goal" "I") (by decide +kernel)) (fun _ h9 => h9) rfl dX4_leastSum_26 ?_
    refine va_lald hx hb hK hP 1 0 rfl rfl (by unfold vp_in; decide) dX4_leastSum_29 ?_
    refine lv_topl (fun y ey => ?_)
    obtain rfl : y = 0 := ey.trans hf
    refine lv_bipush (v := 32) hx hb dX4_leastSum_30 (by decide) ?_
    refine lv_lshr (v := 0 >>> ((32 : Int32).toInt64 &&& 63)) hx hb dX4_leastSum_32 rfl ?_
    refine lv_l2i (v := (0 >>> ((32 : Int32).toInt64 &&& 63) : Int64).toInt32) hx hb dX4_leastSum_33 rfl ?_
    exact W.iret (v := ((0 >>> ((32 : Int32).toInt64 &&& 63) : Int64).toInt32)) hx hb hr (fun t ht hW => ⟨⟨((0 >>> ((32 : Int32).toInt64 &&& 63) : Int64).toInt32), (), rfl, (by decide), trivial⟩, hS.F ht⟩) hS.2.2 dX4_leastSum_34
  · have hP := hP
    refine lv_aload_n hx hb dX4_leastSum_0 rfl (lv_at hl 0 rfl) ?_
    refine va_get (D := (dC, dI)) (ci := 4) (v := .ref (q 110)) (C := RX4) (T := TX4) (N := 6) hx hb hts in_wsX4_leastSum_X4 hown hK hP 0 rfl rfl 0 (by decide) (hts (.fieldLink RX4 11 "ShipOffice$Hiring" "best" "[J") (by decide +kernel)) (fun _ h9 => h9) rfl dX4_leastSum_1 ?_
    refine lv_aload_n hx hb dX4_leastSum_4 rfl (lv_at hl 0 rfl) ?_
    refine va_get (D := (dC, dI)) (ci := 4) (v := .int n) (C := RX4) (T := TX4) (N := 6) hx hb hts in_wsX4_leastSum_X4 hown hK hP 0 rfl rfl 4 (by decide) (hts (.fieldLink RX4 34 "ShipOffice$Hiring" "goal" "I") (by decide +kernel)) (fun _ h9 => h9) rfl dX4_leastSum_5 ?_
    refine va_lald hx hb hK hP 1 0 rfl rfl hn dX4_leastSum_8 ?_
    refine lv_topl (fun y ey => ?_)
    obtain rfl : y = 1152921504606846976 := ey.trans hf
    refine lv_ldc2 (v := 1152921504606846976) hx hb hown (hts (.constantLong RX4 22 (1152921504606846976)) (by decide +kernel)) dX4_leastSum_9 ?_
    refine W.lcmp hx hb dX4_leastSum_12 ?_
    refine lv_topi (fun y ey => ?_)
    obtain rfl : y = 0 := ey.trans (by decide)
    refine lv_if_ne (tgt := 21) hx hb dX4_leastSum_13 (by decide) (fun c_2 => absurd c_2 (by decide)) (fun _ => ?_)
    refine lv_bipush (v := (-9)) hx hb dX4_leastSum_16 (by decide) ?_
    refine lv_goto (tgt := 34) hx hb dX4_leastSum_18 (by decide) ?_
    exact W.iret (v := (-9)) hx hb hr (fun t ht hW => ⟨⟨(-9), (), rfl, (by rw [if_neg hne]), trivial⟩, hS.F ht⟩) hS.2.2 dX4_leastSum_34
set_option maxHeartbeats 4000000 in
set_option maxRecDepth 100000 in
theorem c_X4_hand (l : Launch) (dC : Nat → ClassId) (dI : Nat → Nat → Nat) (sz : Nat) (h0 : Nat) (q : Nat → Nat) (cq : Nat → ClassId) (f : Nat → Int64) (n pl : Int32) (hn : vp_in n 81) (hz : f 0 = 0) (h1 : ∀ j, j < 81 → 0 < j → f j = 1152921504606846976) (hpl : n = 0 → pl = 0) (x : Int32) (hp : ¬ x < 0) : Met l yX4_hand wsX4_hand ({ frames := 0, cells := 0, slots := 0, locals := 0 }) (va_Pc [.ref (q 11), .int x] (pcW (dC, dI) [((cq 110), .long)] [((q 11), .inr (4, [.ref (q 110), .ref (q 111), .int 0, .ref (q 112), .int n, .int pl])), ((q 110), .inl ((cq 110), 81, .inr (.inl f)))] sz)) (va_Qi (fun (r : Int32) (u : Unit) => r = -9) (fun _ _ => True) (va_A [] sz)) 0 0 (va_A [] sz) := by
  refine Met.ofW (cc := cX4_hand) (maxL := 3) (ret := (some .int)) (by decide) rfl ?_
  intro p e s m args below meth c s₁ B hml hv
  obtain ⟨rfl, hsz, hP, hK, hD0⟩ := hv
  have hx := B.exec
  have hb := B.bytes
  have hr := B.returns
  have hts := atoms_spec (ws := wsX4_hand) B.pre
  have hown : s.vm.findClass RX4 = some m.cls := findClass_of_methodNamed B.named
  have hlocks := B.notSynchronized
  subst hsz
  have hD := hD0
  generalize hAe : va_A [] s.heap.size = A at ⊢
  have hA : ∀ q : Nat, s.heap.size ≤ q → A q := fun q h => by rw [← hAe]; exact Or.inr h
  have hS : va_S A s.heap s.heap [] := va_S.rf
  have hP : va_P (dC, dI) vwCl [((q 11), .inr (4, [.ref (q 110), .ref (q 111), .int 0, .ref (q 112), .int n, .int pl])), ((q 110), .inl ((cq 110), 81, .inr (.inl f)))] s.heap := hP
  have hl := lv_entry ([.ref (q 11), .int x]) (n := 3) (Nat.le_of_ble_eq_true rfl)
  rw [lg_entry_eq]
  generalize (lg_sl ([.ref (q 11), .int x]) ++ List.replicate (3 - (lg_sl ([.ref (q 11), .int x])).length) Slot.unset).toArray = ls at hl ⊢
  have hl : lv_has ls 3 [(0, .ref (q 11)), (1, .int x)] := hl
  rcases crew_n hn hz h1 with ⟨rfl, hf⟩ | ⟨hne, hf⟩
  · have hP : va_P (dC, dI) vwCl [((q 11), .inr (4, [.ref (q 110), .ref (q 111), .int 0, .ref (q 112), .int 0, .int pl])), ((q 110), .inl ((cq 110), 81, .inr (.inl f)))] s.heap := hP
    refine lv_aload_n hx hb dX4_hand_0 rfl (lv_at hl 0 rfl) ?_
    refine va_get (D := (dC, dI)) (ci := 4) (v := .ref (q 110)) (C := RX4) (T := TX4) (N := 6) hx hb hts in_wsX4_hand_X4 hown hK hP 0 rfl rfl 0 (by decide) (hts (.fieldLink RX4 11 "ShipOffice$Hiring" "best" "[J") (by decide +kernel)) (fun _ h9 => h9) rfl dX4_hand_1 ?_
    refine lv_aload_n hx hb dX4_hand_4 rfl (lv_at hl 0 rfl) ?_
    refine va_get (D := (dC, dI)) (ci := 4) (v := .int 0) (C := RX4) (T := TX4) (N := 6) hx hb hts in_wsX4_hand_X4 hown hK hP 0 rfl rfl 4 (by decide) (hts (.fieldLink RX4 34 "ShipOffice$Hiring" "goal" "I") (by decide +kernel)) (fun _ h9 => h9) rfl dX4_hand_5 ?_
    refine va_lald hx hb hK hP 1 0 rfl rfl (by unfold vp_in; decide) dX4_hand_8 ?_
    refine lv_topl (fun y ey => ?_)
    obtain rfl : y = 0 := ey.trans hf
    refine lv_ldc2 (v := 1152921504606846976) hx hb hown (hts (.constantLong RX4 22 (1152921504606846976)) (by decide +kernel)) dX4_hand_9 ?_
    refine W.lcmp hx hb dX4_hand_12 ?_
    refine lv_topi (fun y ey => ?_)
    obtain rfl : y = (-1) := ey.trans (by decide)
    refine lv_if_eq (tgt := 24) hx hb dX4_hand_13 (by decide) (fun c_1 => absurd c_1 (by decide)) (fun _ => ?_)
    refine lv_iload_n hx hb dX4_hand_16 rfl (lv_at hl 1 rfl) ?_
    refine lv_aload_n hx hb dX4_hand_17 rfl (lv_at hl 0 rfl) ?_
    refine va_get (D := (dC, dI)) (ci := 4) (v := .int pl) (C := RX4) (T := TX4) (N := 6) hx hb hts in_wsX4_hand_X4 hown hK hP 0 rfl rfl 5 (by decide) (hts (.fieldLink RX4 37 "ShipOffice$Hiring" "places" "I") (by decide +kernel)) (fun _ h9 => h9) rfl dX4_hand_18 ?_
    refine lv_topi (fun y ey => ?_)
    obtain rfl : y = 0 := ey.trans (hpl rfl)
    refine lv_icmp_lt (tgt := 27) hx hb dX4_hand_21 (by decide) (fun c_2 => absurd c_2 hp) (fun c_2 => ?_)
    refine lv_bipush (v := (-9)) hx hb dX4_hand_24 (by decide) ?_
    exact W.iret (v := (-9)) hx hb hr (fun t ht hW => ⟨⟨(-9), (), rfl, rfl, trivial⟩, hS.F ht⟩) hS.2.2 dX4_hand_26
  · have hP := hP
    refine lv_aload_n hx hb dX4_hand_0 rfl (lv_at hl 0 rfl) ?_
    refine va_get (D := (dC, dI)) (ci := 4) (v := .ref (q 110)) (C := RX4) (T := TX4) (N := 6) hx hb hts in_wsX4_hand_X4 hown hK hP 0 rfl rfl 0 (by decide) (hts (.fieldLink RX4 11 "ShipOffice$Hiring" "best" "[J") (by decide +kernel)) (fun _ h9 => h9) rfl dX4_hand_1 ?_
    refine lv_aload_n hx hb dX4_hand_4 rfl (lv_at hl 0 rfl) ?_
    refine va_get (D := (dC, dI)) (ci := 4) (v := .int n) (C := RX4) (T := TX4) (N := 6) hx hb hts in_wsX4_hand_X4 hown hK hP 0 rfl rfl 4 (by decide) (hts (.fieldLink RX4 34 "ShipOffice$Hiring" "goal" "I") (by decide +kernel)) (fun _ h9 => h9) rfl dX4_hand_5 ?_
    refine va_lald hx hb hK hP 1 0 rfl rfl hn dX4_hand_8 ?_
    refine lv_topl (fun y ey => ?_)
    obtain rfl : y = 1152921504606846976 := ey.trans hf
    refine lv_ldc2 (v := 1152921504606846976) hx hb hown (hts (.constantLong RX4 22 (1152921504606846976)) (by decide +kernel)) dX4_hand_9 ?_
    refine W.lcmp hx hb dX4_hand_12 ?_
    refine lv_topi (fun y ey => ?_)
    obtain rfl : y = 0 := ey.trans (by decide)
    refine lv_if_eq (tgt := 24) hx hb dX4_hand_13 (by decide) (fun _ => ?_) (fun c_3 => absurd c_3 (by decide))
    refine lv_bipush (v := (-9)) hx hb dX4_hand_24 (by decide) ?_
    exact W.iret (v := (-9)) hx hb hr (fun t ht hW => ⟨⟨(-9), (), rfl, rfl, trivial⟩, hS.F ht⟩) hS.2.2 dX4_hand_26
set_option maxHeartbeats 4000000 in
set_option maxRecDepth 100000 in
theorem c_X10_crew (l : Launch) (dC : Nat → ClassId) (dI : Nat → Nat → Nat) (sz : Nat) (tL tS : Nat) (h0 : Nat) (q : Nat → Nat) (cq : Nat → ClassId) (a1 : Int32) (a2 : Int32) : Met l yX10_crew wsX10_crew ({ frames := 2, cells := 0, slots := 0, locals := 46 }) (va_Pc [.ref h0, .int a1, .int a2] (pcS (dC, dI) [((cq 15), .int), ((cq 110), .long), ((cq 112), .int)] [(h0, .inr (10, oF q)), ((q 15), .inl ((cq 15), 7, .inl (fun _ => 0))), ((q 11), .inr (4, [.ref (q 110), .ref (q 111), .int 0, .ref (q 112), .int 0, .int 0])), ((q 110), .inl ((cq 110), 81, .inr (.inl (fun _ => 0)))), ((q 112), .inl ((cq 112), 4, .inl (fun _ => 0)))] sz tL tS [(h0, .inr (10, oF q)), ((q 15), .inl ((cq 15), 7, .inl (fun _ => 0))), ((q 11), .inr (4, [.ref (q 110), .ref (q 111), .int 0, .ref (q 112), .int 0, .int 0])), ((q 110), .inl ((cq 110), 81, .inr (.inl (fun _ => 0)))), ((q 112), .inl ((cq 112), 4, .inl (fun _ => 0)))])) (va_Qi (fun (r : Int32) (u : Unit) => r = sp_crew a1 a2) (fun _ _ => True) (va_A [(h0, .inr (10, oF q)), ((q 15), .inl ((cq 15), 7, .inl (fun _ => 0))), ((q 11), .inr (4, [.ref (q 110), .ref (q 111), .int 0, .ref (q 112), .int 0, .int 0])), ((q 110), .inl ((cq 110), 81, .inr (.inl (fun _ => 0)))), ((q 112), .inl ((cq 112), 4, .inl (fun _ => 0)))] sz)) 0 0 (va_A [(h0, .inr (10, oF q)), ((q 15), .inl ((cq 15), 7, .inl (fun _ => 0))), ((q 11), .inr (4, [.ref (q 110), .ref (q 111), .int 0, .ref (q 112), .int 0, .int 0])), ((q 110), .inl ((cq 110), 81, .inr (.inl (fun _ => 0)))), ((q 112), .inl ((cq 112), 4, .inl (fun _ => 0)))] sz) := by
  refine Met.ofW (cc := cX10_crew) (maxL := 4) (ret := (some .int)) (by decide) rfl ?_
  intro p e s m args below meth c s₁ B hml hv
  obtain ⟨rfl, ⟨hsz, hP, hK, hD0⟩, hZ⟩ := hv
  have hx := B.exec
  have hb := B.bytes
  have hr := B.returns
  have hts := atoms_spec (ws := wsX10_crew) B.pre
  have hown : s.vm.findClass RX10 = some m.cls := findClass_of_methodNamed B.named
  have hlocks := B.notSynchronized
  subst hsz
  have hD := hD0.self (sz := s.heap.size)
  generalize hAe : va_A [(h0, .inr (10, oF q)), ((q 15), .inl ((cq 15), 7, .inl (fun _ => 0))), ((q 11), .inr (4, [.ref (q 110), .ref (q 111), .int 0, .ref (q 112), .int 0, .int 0])), ((q 110), .inl ((cq 110), 81, .inr (.inl (fun _ => 0)))), ((q 112), .inl ((cq 112), 4, .inl (fun _ => 0)))] s.heap.size = A at hD hZ ⊢
  have hA : ∀ q : Nat, s.heap.size ≤ q → A q := fun q h => by rw [← hAe]; exact Or.inr h
  have hS : va_S A s.heap s.heap [] := va_S.rf
  have hP : va_P (dC, dI) vwCl [(h0, .inr (10, oF q)), ((q 15), .inl ((cq 15), 7, .inl (fun _ => 0))), ((q 11), .inr (4, [.ref (q 110), .ref (q 111), .int 0, .ref (q 112), .int 0, .int 0])), ((q 110), .inl ((cq 110), 81, .inr (.inl (fun _ => 0)))), ((q 112), .inl ((cq 112), 4, .inl (fun _ => 0)))] s.heap := hP
  have hl := lv_entry ([.ref h0, .int a1, .int a2]) (n := 4) (Nat.le_of_ble_eq_true rfl)
  rw [lg_entry_eq]
  generalize (lg_sl ([.ref h0, .int a1, .int a2]) ++ List.replicate (4 - (lg_sl ([.ref h0, .int a1, .int a2])).length) Slot.unset).toArray = ls at hl ⊢
  have hl : lv_has ls 4 [(0, .ref h0), (1, .int a1), (2, .int a2)] := hl
  refine lv_iload_n hx hb dX10_crew_0 rfl (lv_at hl 1 rfl) ?_
  refine lv_if_ge (tgt := 11) hx hb dX10_crew_1 (by decide) (fun c_1 => ?_) (fun c_1 => ?_)
  · refine lv_iload_n hx hb dX10_crew_11 rfl (lv_at hl 1 rfl) ?_
    refine lv_bipush (v := 80) hx hb dX10_crew_12 (by decide) ?_
    refine lv_icmp_le (tgt := 24) hx hb dX10_crew_14 (by decide) (fun c_2 => ?_) (fun c_2 => ?_)
    · refine lv_iload_n hx hb dX10_crew_24 rfl (lv_at hl 2 rfl) ?_
      refine lv_if_lt (tgt := 34) hx hb dX10_crew_25 (by decide) (fun c_3 => ?_) (fun c_3 => ?_)
      · refine lv_aload_n hx hb dX10_crew_34 rfl (lv_at hl 0 rfl) ?_
        refine lv_bipush (v := (-2)) hx hb dX10_crew_35 (by decide) ?_
        have hPc := hP.sub (ws' := [(h0, .inr (10, oF q)), ((q 15), .inl ((cq 15), 7, .inl (fun _ => 0)))]) [0, 1] rfl
        have hDc := hD.sub (ws' := [(h0, .inr (10, oF q)), ((q 15), .inl ((cq 15), 7, .inl (fun _ => 0)))]) [0, 1] (by decide) rfl
        have hKc := hK.sub (tys' := [((cq 15), .int)]) [0] rfl
        have hFc := va_free (wc := [(h0, .inr (10, oF q)), ((q 15), .inl ((cq 15), 7, .inl (fun _ => 0)))]) hD hS hA [0, 1] rfl
        refine va_calli (va_runV (As := [.int (-2)]) (rest := []) ⟨hx, hb, hml, hown, hts⟩ (c_X10_refuse l dC dI s.heap.size h0 q cq (-2) (by unfold vp_in; decide)) (cwV 1 hts gX10_crew_X10_refuse rfl rfl rfl (by decide +kernel) ⟨(Nat.le_of_ble_eq_true rfl), (Nat.le_of_ble_eq_true rfl)⟩) (pr_V (r := (RX10, TX10, 16)) hPc hKc hDc 0 10 rfl rfl) rfl rfl hl.1 rfl (lv_room (Nat.le_of_ble_eq_true rfl)) dX10_crew_37 ⟨(Nat.le_of_ble_eq_true rfl), (Nat.le_of_ble_eq_true rfl)⟩) hS (fun q _ h => hFc q h) hFc (fun r_5 u t H locs ht hvm w_4 hB hz1 hk1 hS => ?_)
        subst w_4
        exact W.iret (v := (-2)) hx hb hr (fun t ht hW => ⟨⟨(-2), (), rfl, (by simp [sp_crew, c_1, c_2, isI_lt 9 c_3]), trivial⟩, hS.F ht⟩) hS.2.2 dX10_crew_40
      · refine lv_iload_n hx hb dX10_crew_28 rfl (lv_at hl 2 rfl) ?_
        refine lv_bipush (v := 8) hx hb dX10_crew_29 (by decide) ?_
        refine lv_icmp_le (tgt := 41) hx hb dX10_crew_31 (by decide) (fun c_6 => ?_) (fun c_6 => ?_)
        · refine lv_aload_n hx hb dX10_crew_41 rfl (lv_at hl 0 rfl) ?_
          refine va_get (D := (dC, dI)) (ci := 10) (v := .ref (q 11)) (C := RX10) (T := TX10) (N := 16) hx hb hts in_wsX10_crew_X10 hown hK hP 0 rfl rfl 11 (by decide) (hts (.fieldLink RX10 51 "ShipOffice" "hiring" "LShipOffice$Hiring;") (by decide +kernel)) (fun _ h9 => h9) rfl dX10_crew_42 ?_
          refine lv_iload_n hx hb dX10_crew_45 rfl (lv_at hl 1 rfl) ?_
          have hPc := hP.sub (ws' := [((q 11), .inr (4, [.ref (q 110), .ref (q 111), .int 0, .ref (q 112), .int 0, .int 0])), ((q 110), .inl ((cq 110), 81, .inr (.inl (fun _ => 0)))), ((q 112), .inl ((cq 112), 4, .inl (fun _ => 0)))]) [2, 3, 4] rfl
          have hDc := hD.sub (ws' := [((q 11), .inr (4, [.ref (q 110), .ref (q 111), .int 0, .ref (q 112), .int 0, .int 0])), ((q 110), .inl ((cq 110), 81, .inr (.inl (fun _ => 0)))), ((q 112), .inl ((cq 112), 4, .inl (fun _ => 0)))]) [2, 3, 4] (by decide) rfl
          have hKc := hK.sub (tys' := [((cq 110), .long), ((cq 112), .int)]) [1, 2] rfl
          have hFc := va_free (wc := [((q 11), .inr (4, [.ref (q 110), .ref (q 111), .int 0, .ref (q 112), .int 0, .int 0])), ((q 110), .inl ((cq 110), 81, .inr (.inl (fun _ => 0)))), ((q 112), .inl ((cq 112), 4, .inl (fun _ => 0)))]) hD hS hA [2, 3, 4] rfl
          refine va_callv (va_runV (As := [.int a1]) (rest := []) ⟨hx, hb, hml, hown, hts⟩ (c_X4_begin l dC dI s.heap.size tL tS h0 q cq a1) (cwV 1 hts gX10_crew_X4_begin rfl rfl rfl (by decide +kernel) ⟨(Nat.le_of_ble_eq_true rfl), (Nat.le_of_ble_eq_true rfl)⟩) (pr_VS (r := (RX4, TX4, 6)) hPc hKc hDc 0 4 rfl rfl (hZ.go hS hFc)) rfl rfl hl.1 rfl (lv_room (Nat.le_of_ble_eq_true rfl)) dX10_crew_46 ⟨(Nat.le_of_ble_eq_true rfl), (Nat.le_of_ble_eq_true rfl)⟩) hS (fun q _ h => hFc q h) hFc (fun u t H locs ht hvm w_7 hB hz1 hk1 hS => ?_)
          obtain ⟨f_9, f_10, x_11⟩ := u
          obtain ⟨hP1, hK1, hD1⟩ := hB
          rw [ht] at hP1
          have hK1 := va_K.moved hvm.symm hK1
          obtain ⟨hP, hD⟩ := va_join (wr := [(h0, .inr (10, oF q)), ((q 15), .inl ((cq 15), 7, .inl (fun _ => 0)))]) (w1 := [((q 11), .inr (4, [.ref (q 110), .ref (q 111), .int 0, .ref (q 112), .int a1, .int x_11])), ((q 110), .inl ((cq 110), 81, .inr (.inl f_9))), ((q 112), .inl ((cq 112), 4, .inl f_10))]) hP hD [2, 3, 4] [0, 1] rfl rfl (by decide) (by decide) hk1 hFc hP1 hD1
          have hK := hK.app hK1
          have hP : va_P (dC, dI) vwCl [(h0, .inr (10, oF q)), ((q 15), .inl ((cq 15), 7, .inl (fun _ => 0))), ((q 11), .inr (4, [.ref (q 110), .ref (q 111), .int 0, .ref (q 112), .int a1, .int x_11])), ((q 110), .inl ((cq 110), 81, .inr (.inl f_9))), ((q 112), .inl ((cq 112), 4, .inl f_10))] H := hP
          have hD : va_D A [(h0, .inr (10, oF q)), ((q 15), .inl ((cq 15), 7, .inl (fun _ => 0))), ((q 11), .inr (4, [.ref (q 110), .ref (q 111), .int 0, .ref (q 112), .int a1, .int x_11])), ((q 110), .inl ((cq 110), 81, .inr (.inl f_9))), ((q 112), .inl ((cq 112), 4, .inl f_10))] := hD
          have hK : va_K (dC, dI) vwCl [((cq 15), .int), ((cq 110), .long), ((cq 112), .int), ((cq 110), .long), ((cq 112), .int)] s := hK
          clear hP1 hK1 hD1 hk1 hz1 hvm ht hPc hDc hKc hFc
          refine lv_iconst (v := 0) hx hb dX10_crew_49 (by decide) ?_
          refine lv_istore_n (lv' := [(3, .int 0), (0, .ref h0), (1, .int a1), (2, .int a2)]) hx hb dX10_crew_50 rfl hl (by decide) rfl (fun ls hl => ?_)
          refine lv_iload_n hx hb dX10_crew_51 rfl (lv_at hl 0 rfl) ?_
          refine lv_aload_n hx hb dX10_crew_52 rfl (lv_at hl 1 rfl) ?_
          refine va_get (D := (dC, dI)) (ci := 10) (v := .int 0) (C := RX10) (T := TX10) (N := 16) hx hb hts in_wsX10_crew_X10 hown hK hP 0 rfl rfl 2 (by decide) (hts (.fieldLink RX10 86 "ShipOffice" "manCount" "I") (by decide +kernel)) (fun _ h9 => h9) rfl dX10_crew_53 ?_
          refine lv_icmp_ge (tgt := 103) hx hb dX10_crew_56 (by decide) (fun _ => ?_) (fun c_12 => absurd c_12 (by decide))
          refine lv_iload_n hx hb dX10_crew_103 rfl (lv_at hl 3 rfl) ?_
          refine lv_if_ne (tgt := 117) hx hb dX10_crew_104 (by decide) (fun c_13 => ?_) (fun c_13 => ?_)
          · refine lv_aload_n hx hb dX10_crew_117 rfl (lv_at hl 1 rfl) ?_
            refine va_get (D := (dC, dI)) (ci := 10) (v := .ref (q 11)) (C := RX10) (T := TX10) (N := 16) hx hb hts in_wsX10_crew_X10 hown hK hP 0 rfl rfl 11 (by decide) (hts (.fieldLink RX10 51 "ShipOffice" "hiring" "LShipOffice$Hiring;") (by decide +kernel)) (fun _ h9 => h9) rfl dX10_crew_118 ?_
            refine lv_iload_n hx hb dX10_crew_121 rfl (lv_at hl 3 rfl) ?_
            refine lv_iconst (v := 1) hx hb dX10_crew_122 (by decide) ?_
            refine lv_isub hx hb dX10_crew_123 ?_
            have hPc := hP.sub (ws' := [((q 11), .inr (4, [.ref (q 110), .ref (q 111), .int 0, .ref (q 112), .int a1, .int x_11])), ((q 110), .inl ((cq 110), 81, .inr (.inl f_9)))]) [2, 3] rfl
            have hDc := hD.sub (ws' := [((q 11), .inr (4, [.ref (q 110), .ref (q 111), .int 0, .ref (q 112), .int a1, .int x_11])), ((q 110), .inl ((cq 110), 81, .inr (.inl f_9)))]) [2, 3] (by decide) rfl
            have hKc := hK.sub (tys' := [((cq 110), .long)]) [1] rfl
            have hFc : ∀ q, va_A [] H.size q → A q := pu_free hS hA
            refine va_calli (va_runV (As := [.int (a2 - 1)]) (rest := []) ⟨hx, hb, hml, hown, hts⟩ (c_X4_hand l dC dI H.size h0 q cq f_9 a1 x_11 (crew_in81 c_1 c_2) w_7.2.1 w_7.1 w_7.2.2 (a2 - 1) (crew_pl c_3 c_13)) (cwV 1 hts gX10_crew_X4_hand rfl rfl rfl (by decide +kernel) ⟨(Nat.le_of_ble_eq_true rfl), (Nat.le_of_ble_eq_true rfl)⟩) (pr_V (r := (RX4, TX4, 6)) hPc hKc hDc 0 4 rfl rfl) rfl rfl hl.1 rfl (lv_room (Nat.le_of_ble_eq_true rfl)) dX10_crew_124 ⟨(Nat.le_of_ble_eq_true rfl), (Nat.le_of_ble_eq_true rfl)⟩) hS (fun q _ h => hFc q h) hFc (fun r_15 u t H locs ht hvm w_14 hB hz1 hk1 hS => ?_)
            have hP := pu_keep hP hk1
            clear hk1 hz1 hvm hB hPc hDc hKc hFc ht
            subst w_14
            exact W.iret (v := (-9)) hx hb hr (fun t ht hW => ⟨⟨(-9), (), rfl, (by simp [sp_crew, c_1, c_2, isI_in c_3 (crew_w8 c_6), c_13, (by decide : isI 0 9 = 1)]), trivial⟩, hS.F ht⟩) hS.2.2 dX10_crew_127
          · refine lv_aload_n hx hb dX10_crew_107 rfl (lv_at hl 1 rfl) ?_
            refine va_get (D := (dC, dI)) (ci := 10) (v := .ref (q 11)) (C := RX10) (T := TX10) (N := 16) hx hb hts in_wsX10_crew_X10 hown hK hP 0 rfl rfl 11 (by decide) (hts (.fieldLink RX10 51 "ShipOffice" "hiring" "LShipOffice$Hiring;") (by decide +kernel)) (fun _ h9 => h9) rfl dX10_crew_108 ?_
            have hPc := hP.sub (ws' := [((q 11), .inr (4, [.ref (q 110), .ref (q 111), .int 0, .ref (q 112), .int a1, .int x_11])), ((q 110), .inl ((cq 110), 81, .inr (.inl f_9)))]) [2, 3] rfl
            have hDc := hD.sub (ws' := [((q 11), .inr (4, [.ref (q 110), .ref (q 111), .int 0, .ref (q 112), .int a1, .int x_11])), ((q 110), .inl ((cq 110), 81, .inr (.inl f_9)))]) [2, 3] (by decide) rfl
            have hKc := hK.sub (tys' := [((cq 110), .long)]) [1] rfl
            have hFc : ∀ q, va_A [] H.size q → A q := pu_free hS hA
            refine va_calli (va_runV (As := []) (rest := []) ⟨hx, hb, hml, hown, hts⟩ (c_X4_leastSum l dC dI H.size h0 q cq f_9 a1 x_11 (crew_in81 c_1 c_2) w_7.2.1 w_7.1) (cwV 0 hts gX10_crew_X4_leastSum rfl rfl rfl (by decide +kernel) ⟨(Nat.le_of_ble_eq_true rfl), (Nat.le_of_ble_eq_true rfl)⟩) (pr_V (r := (RX4, TX4, 6)) hPc hKc hDc 0 4 rfl rfl) rfl rfl hl.1 rfl (lv_room (Nat.le_of_ble_eq_true rfl)) dX10_crew_111 ⟨(Nat.le_of_ble_eq_true rfl), (Nat.le_of_ble_eq_true rfl)⟩) hS (fun q _ h => hFc q h) hFc (fun r_17 u t H locs ht hvm w_16 hB hz1 hk1 hS => ?_)
            have hP := pu_keep hP hk1
            clear hk1 hz1 hvm hB hPc hDc hKc hFc ht
            subst w_16
            refine lv_goto (tgt := 127) hx hb dX10_crew_114 (by decide) ?_
            exact W.iret (v := (if a1 = 0 then 0 else -9)) hx hb hr (fun t ht hW => ⟨⟨(if a1 = 0 then 0 else -9), (), rfl, (by simp [sp_crew, c_1, c_2, isI_in c_3 (crew_w8 c_6), c_13, (by decide : isI 0 9 = 1)]), trivial⟩, hS.F ht⟩) hS.2.2 dX10_crew_127
        · refine lv_aload_n hx hb dX10_crew_34 rfl (lv_at hl 0 rfl) ?_
          refine lv_bipush (v := (-2)) hx hb dX10_crew_35 (by decide) ?_
          have hPc := hP.sub (ws' := [(h0, .inr (10, oF q)), ((q 15), .inl ((cq 15), 7, .inl (fun _ => 0)))]) [0, 1] rfl
          have hDc := hD.sub (ws' := [(h0, .inr (10, oF q)), ((q 15), .inl ((cq 15), 7, .inl (fun _ => 0)))]) [0, 1] (by decide) rfl
          have hKc := hK.sub (tys' := [((cq 15), .int)]) [0] rfl
          have hFc := va_free (wc := [(h0, .inr (10, oF q)), ((q 15), .inl ((cq 15), 7, .inl (fun _ => 0)))]) hD hS hA [0, 1] rfl
          refine va_calli (va_runV (As := [.int (-2)]) (rest := []) ⟨hx, hb, hml, hown, hts⟩ (c_X10_refuse l dC dI s.heap.size h0 q cq (-2) (by unfold vp_in; decide)) (cwV 1 hts gX10_crew_X10_refuse rfl rfl rfl (by decide +kernel) ⟨(Nat.le_of_ble_eq_true rfl), (Nat.le_of_ble_eq_true rfl)⟩) (pr_V (r := (RX10, TX10, 16)) hPc hKc hDc 0 10 rfl rfl) rfl rfl hl.1 rfl (lv_room (Nat.le_of_ble_eq_true rfl)) dX10_crew_37 ⟨(Nat.le_of_ble_eq_true rfl), (Nat.le_of_ble_eq_true rfl)⟩) hS (fun q _ h => hFc q h) hFc (fun r_19 u t H locs ht hvm w_18 hB hz1 hk1 hS => ?_)
          subst w_18
          exact W.iret (v := (-2)) hx hb hr (fun t ht hW => ⟨⟨(-2), (), rfl, (by simp [sp_crew, c_1, c_2, isI_ge (crew_w9 c_6)]), trivial⟩, hS.F ht⟩) hS.2.2 dX10_crew_40
    · refine lv_aload_n hx hb dX10_crew_17 rfl (lv_at hl 0 rfl) ?_
      refine lv_bipush (v := (-6)) hx hb dX10_crew_18 (by decide) ?_
      have hPc := hP.sub (ws' := [(h0, .inr (10, oF q)), ((q 15), .inl ((cq 15), 7, .inl (fun _ => 0)))]) [0, 1] rfl
      have hDc := hD.sub (ws' := [(h0, .inr (10, oF q)), ((q 15), .inl ((cq 15), 7, .inl (fun _ => 0)))]) [0, 1] (by decide) rfl
      have hKc := hK.sub (tys' := [((cq 15), .int)]) [0] rfl
      have hFc := va_free (wc := [(h0, .inr (10, oF q)), ((q 15), .inl ((cq 15), 7, .inl (fun _ => 0)))]) hD hS hA [0, 1] rfl
      refine va_calli (va_runV (As := [.int (-6)]) (rest := []) ⟨hx, hb, hml, hown, hts⟩ (c_X10_refuse l dC dI s.heap.size h0 q cq (-6) (by unfold vp_in; decide)) (cwV 1 hts gX10_crew_X10_refuse rfl rfl rfl (by decide +kernel) ⟨(Nat.le_of_ble_eq_true rfl), (Nat.le_of_ble_eq_true rfl)⟩) (pr_V (r := (RX10, TX10, 16)) hPc hKc hDc 0 10 rfl rfl) rfl rfl hl.1 rfl (lv_room (Nat.le_of_ble_eq_true rfl)) dX10_crew_20 ⟨(Nat.le_of_ble_eq_true rfl), (Nat.le_of_ble_eq_true rfl)⟩) hS (fun q _ h => hFc q h) hFc (fun r_21 u t H locs ht hvm w_20 hB hz1 hk1 hS => ?_)
      subst w_20
      exact W.iret (v := (-6)) hx hb hr (fun t ht hW => ⟨⟨(-6), (), rfl, (by simp [sp_crew, c_1, c_2]), trivial⟩, hS.F ht⟩) hS.2.2 dX10_crew_23
  · refine lv_aload_n hx hb dX10_crew_4 rfl (lv_at hl 0 rfl) ?_
    refine lv_bipush (v := (-4)) hx hb dX10_crew_5 (by decide) ?_
    have hPc := hP.sub (ws' := [(h0, .inr (10, oF q)), ((q 15), .inl ((cq 15), 7, .inl (fun _ => 0)))]) [0, 1] rfl
    have hDc := hD.sub (ws' := [(h0, .inr (10, oF q)), ((q 15), .inl ((cq 15), 7, .inl (fun _ => 0)))]) [0, 1] (by decide) rfl
    have hKc := hK.sub (tys' := [((cq 15), .int)]) [0] rfl
    have hFc := va_free (wc := [(h0, .inr (10, oF q)), ((q 15), .inl ((cq 15), 7, .inl (fun _ => 0)))]) hD hS hA [0, 1] rfl
    refine va_calli (va_runV (As := [.int (-4)]) (rest := []) ⟨hx, hb, hml, hown, hts⟩ (c_X10_refuse l dC dI s.heap.size h0 q cq (-4) (by unfold vp_in; decide)) (cwV 1 hts gX10_crew_X10_refuse rfl rfl rfl (by decide +kernel) ⟨(Nat.le_of_ble_eq_true rfl), (Nat.le_of_ble_eq_true rfl)⟩) (pr_V (r := (RX10, TX10, 16)) hPc hKc hDc 0 10 rfl rfl) rfl rfl hl.1 rfl (lv_room (Nat.le_of_ble_eq_true rfl)) dX10_crew_7 ⟨(Nat.le_of_ble_eq_true rfl), (Nat.le_of_ble_eq_true rfl)⟩) hS (fun q _ h => hFc q h) hFc (fun r_23 u t H locs ht hvm w_22 hB hz1 hk1 hS => ?_)
    subst w_22
    exact W.iret (v := (-4)) hx hb hr (fun t ht hW => ⟨⟨(-4), (), rfl, (by simp [sp_crew, c_1]), trivial⟩, hS.F ht⟩) hS.2.2 dX10_crew_10
