abbrev cX5_init : ByteArray := prog_7_method_1_code
def yX5_init : MethodName := ⟨RX5, "<init>", "()V"⟩
abbrev cX10_init : ByteArray := prog_1_method_1_code
def yX10_init : MethodName := ⟨RX10, "<init>", "()V"⟩
theorem gw_X0_init : wsX0_init.all goodWord = true := by decide +kernel
theorem gw_X4_init : wsX4_init.all goodWord = true := by decide +kernel
def wsX5_init_r1 : List Cond := [Cond.methodLink RX5 3 objectInit, Cond.instanceMethod objectInit, Cond.code objectInit ⟨#[0xb1]⟩ 1 none, Cond.classLink RX5 9 RX0, Cond.fieldLink RX5 11 "ShipOffice$Law" "acts" "[LShipOffice$Act;", Cond.fieldLink RX5 17 "ShipOffice$Law" "customs" "[LShipOffice$Act;", Cond.instantiable RX0 5, Cond.initialized RX0, Cond.arrayClass .int, Cond.methodLink RX5 20 yX0_init, Cond.instanceMethod yX0_init, Cond.code yX0_init cX0_init 4 none, Cond.methodLink RX0 1 objectInit, Cond.fieldLink RX0 7 "ShipOffice$Act" "purpose" "I", Cond.fieldLink RX0 13 "ShipOffice$Act" "day" "I", Cond.fieldLink RX0 16 "ShipOffice$Act" "code" "[I", Cond.fieldLink RX0 20 "ShipOffice$Act" "stack" "[I", Cond.fieldLink RX0 33 "ShipOffice$Act" "plainWorth" "I", Cond.methodLink RX0 29 yX0_worth, Cond.instanceMethod yX0_worth, Cond.selects RX0 yX0_worth yX0_worth, Cond.code yX0_worth cX0_worth 8 (some .int), Cond.methodLink RX0 36 yX0_joined, Cond.static yX0_joined]
def wsX5_init_r2 : List Cond := [Cond.code yX0_joined cX0_joined 5 (some .int), Cond.methodLink RX0 40 yX0_held, Cond.static yX0_held, Cond.code yX0_held cX0_held 2 (some .int), Cond.constantLong RX0 44 (1000000000), Cond.constant RX0 46 (1000000000), Cond.constantLong RX0 47 (-1000000000), Cond.constant RX0 49 (-1000000000)]
def wsX5_init : List Cond := .code yX5_init cX5_init 1 none :: ((wsX5_init_r1 ++ wsX5_init_r2) ++ wsX50 ++ wsX00)
theorem gw_X5_init : wsX5_init.all goodWord = true := by decide +kernel
theorem il_X5_init_1 : ∀ w ∈ wsX5_init_r1, w ∈ wsX5_init := fun w h => (List.mem_cons_of_mem _ (List.mem_append_left _ (List.mem_append_left _ (List.mem_append_left _ h))))
theorem il_X5_init_2 : ∀ w ∈ wsX5_init_r2, w ∈ wsX5_init := fun w h => (List.mem_cons_of_mem _ (List.mem_append_left _ (List.mem_append_left _ (List.mem_append_right _ h))))
theorem il_X5_init_4 : ∀ w ∈ wsX00, w ∈ wsX5_init := fun w h => (List.mem_cons_of_mem _ (List.mem_append_right _ h))
theorem iw_X5_init_1 : Cond.methodLink RX5 3 objectInit ∈ wsX5_init := (mmI il_X5_init_1 0 rfl)
theorem iw_X5_init_2 : Cond.instanceMethod objectInit ∈ wsX5_init := (mmI il_X5_init_1 1 rfl)
theorem iw_X5_init_3 : Cond.classLink RX5 9 RX0 ∈ wsX5_init := (mmI il_X5_init_1 3 rfl)
theorem iw_X5_init_4 : Cond.fieldLink RX5 11 "ShipOffice$Law" "acts" "[LShipOffice$Act;" ∈ wsX5_init := (mmI il_X5_init_1 4 rfl)
theorem iw_X5_init_5 : Cond.fieldLink RX5 17 "ShipOffice$Law" "customs" "[LShipOffice$Act;" ∈ wsX5_init := (mmI il_X5_init_1 5 rfl)
theorem iw_X5_init_6 : Cond.instantiable RX0 5 ∈ wsX5_init := (mmI il_X5_init_1 6 rfl)
theorem iw_X5_init_7 : Cond.initialized RX0 ∈ wsX5_init := (mmI il_X5_init_1 7 rfl)
theorem iw_X5_init_8 : Cond.arrayClass .int ∈ wsX5_init := (mmI il_X5_init_1 8 rfl)
theorem iw_X5_init_9 : Cond.methodLink RX5 20 yX0_init ∈ wsX5_init := (mmI il_X5_init_1 9 rfl)
theorem iw_X5_init_10 : Cond.instanceMethod yX0_init ∈ wsX5_init := (mmI il_X5_init_1 10 rfl)
theorem gw_X7_init : wsX7_init.all goodWord = true := by decide +kernel
theorem gw_X8_init : wsX8_init.all goodWord = true := by decide +kernel
def wsX10_init_r1 : List Cond := [Cond.methodLink RX10 3 objectInit, Cond.instanceMethod objectInit, Cond.code objectInit ⟨#[0xb1]⟩ 1 none, Cond.classLink RX10 9 RX6, Cond.fieldLink RX10 11 "ShipOffice" "men" "[LShipOffice$Man;", Cond.classLink RX10 15 RX9, Cond.fieldLink RX10 17 "ShipOffice" "voyages" "[LShipOffice$Voyage;", Cond.classLink RX10 21 RX1, Cond.fieldLink RX10 23 "ShipOffice" "agreements" "[LShipOffice$Agreement;", Cond.classLink RX10 27 RX5, Cond.instantiable RX5 3, Cond.initialized RX5, Cond.fieldLink RX10 30 "ShipOffice" "law" "LShipOffice$Law;", Cond.classLink RX10 34 RX8, Cond.instantiable RX8 6, Cond.initialized RX8, Cond.fieldLink RX10 37 "ShipOffice" "tape" "LShipOffice$Tape;", Cond.classLink RX10 41 RX7, Cond.instantiable RX7 2, Cond.initialized RX7, Cond.fieldLink RX10 44 "ShipOffice" "sea" "LShipOffice$Sea;", Cond.classLink RX10 48 RX4, Cond.instantiable RX4 6, Cond.initialized RX4]
def wsX10_init_r2 : List Cond := [Cond.fieldLink RX10 51 "ShipOffice" "hiring" "LShipOffice$Hiring;", Cond.fieldLink RX10 55 "ShipOffice" "LETTERS" "[C", Cond.arrayClass .int, Cond.fieldLink RX10 59 "ShipOffice" "letters" "[I", Cond.fieldLink RX10 63 "ShipOffice" "row" "[I", Cond.fieldLink RX10 66 "ShipOffice" "refusals" "[I", Cond.methodLink RX10 29 yX5_init, Cond.instanceMethod yX5_init, Cond.code yX5_init cX5_init 1 none, Cond.methodLink RX5 3 objectInit, Cond.classLink RX5 9 RX0, Cond.fieldLink RX5 11 "ShipOffice$Law" "acts" "[LShipOffice$Act;", Cond.fieldLink RX5 17 "ShipOffice$Law" "customs" "[LShipOffice$Act;", Cond.instantiable RX0 5, Cond.initialized RX0, Cond.methodLink RX5 20 yX0_init, Cond.instanceMethod yX0_init, Cond.code yX0_init cX0_init 4 none, Cond.methodLink RX0 1 objectInit, Cond.fieldLink RX0 7 "ShipOffice$Act" "purpose" "I", Cond.fieldLink RX0 13 "ShipOffice$Act" "day" "I", Cond.fieldLink RX0 16 "ShipOffice$Act" "code" "[I", Cond.fieldLink RX0 20 "ShipOffice$Act" "stack" "[I", Cond.fieldLink RX0 33 "ShipOffice$Act" "plainWorth" "I"]
def wsX10_init_r3 : List Cond := [Cond.methodLink RX0 29 yX0_worth, Cond.instanceMethod yX0_worth, Cond.selects RX0 yX0_worth yX0_worth, Cond.code yX0_worth cX0_worth 8 (some .int), Cond.methodLink RX0 36 yX0_joined, Cond.static yX0_joined, Cond.code yX0_joined cX0_joined 5 (some .int), Cond.methodLink RX0 40 yX0_held, Cond.static yX0_held, Cond.code yX0_held cX0_held 2 (some .int), Cond.constantLong RX0 44 (1000000000), Cond.constant RX0 46 (1000000000), Cond.constantLong RX0 47 (-1000000000), Cond.constant RX0 49 (-1000000000), Cond.methodLink RX10 36 yX8_init, Cond.instanceMethod yX8_init, Cond.code yX8_init cX8_init 1 none, Cond.methodLink RX8 3 objectInit, Cond.fieldLink RX8 9 "ShipOffice$Tape" "bytes" "[I", Cond.fieldLink RX8 15 "ShipOffice$Tape" "code" "[I", Cond.methodLink RX10 43 yX7_init, Cond.instanceMethod yX7_init, Cond.code yX7_init cX7_init 1 none, Cond.methodLink RX7 3 objectInit]
def wsX10_init_r4 : List Cond := [Cond.fieldLink RX7 9 "ShipOffice$Sea" "miles" "[I", Cond.fieldLink RX7 15 "ShipOffice$Sea" "least" "[I", Cond.methodLink RX10 50 yX4_init, Cond.instanceMethod yX4_init, Cond.code yX4_init cX4_init 1 none, Cond.methodLink RX4 5 objectInit, Cond.arrayClass .long, Cond.fieldLink RX4 11 "ShipOffice$Hiring" "best" "[J", Cond.fieldLink RX4 15 "ShipOffice$Hiring" "offers" "[I", Cond.fieldLink RX4 19 "ShipOffice$Hiring" "firstPlace" "[I"]
def wsX10_init : List Cond := .code yX10_init cX10_init 1 none :: ((wsX10_init_r1 ++ (wsX10_init_r2 ++ (wsX10_init_r3 ++ wsX10_init_r4))) ++ wsX100 ++ wsX50 ++ wsX80 ++ wsX70 ++ wsX40 ++ wsX00)
theorem il_X10_init_1 : ∀ w ∈ wsX10_init_r1, w ∈ wsX10_init := fun w h => (List.mem_cons_of_mem _ (List.mem_append_left _ (List.mem_append_left _ (List.mem_append_left _ (List.mem_append_left _ (List.mem_append_left _ (List.mem_append_left _ (List.mem_append_left _ h))))))))
theorem il_X10_init_2 : ∀ w ∈ wsX10_init_r2, w ∈ wsX10_init := fun w h => (List.mem_cons_of_mem _ (List.mem_append_left _ (List.mem_append_left _ (List.mem_append_left _ (List.mem_append_left _ (List.mem_append_left _ (List.mem_append_left _ (List.mem_append_right _ (List.mem_append_left _ h)))))))))
theorem il_X10_init_3 : ∀ w ∈ wsX10_init_r3, w ∈ wsX10_init := fun w h => (List.mem_cons_of_mem _ (List.mem_append_left _ (List.mem_append_left _ (List.mem_append_left _ (List.mem_append_left _ (List.mem_append_left _ (List.mem_append_left _ (List.mem_append_right _ (List.mem_append_right _ (List.mem_append_left _ h))))))))))
theorem il_X10_init_4 : ∀ w ∈ wsX10_init_r4, w ∈ wsX10_init := fun w h => (List.mem_cons_of_mem _ (List.mem_append_left _ (List.mem_append_left _ (List.mem_append_left _ (List.mem_append_left _ (List.mem_append_left _ (List.mem_append_left _ (List.mem_append_right _ (List.mem_append_right _ (List.mem_append_right _ h))))))))))
theorem il_X10_init_6 : ∀ w ∈ wsX50, w ∈ wsX10_init := fun w h => (List.mem_cons_of_mem _ (List.mem_append_left _ (List.mem_append_left _ (List.mem_append_left _ (List.mem_append_left _ (List.mem_append_right _ h))))))
theorem il_X10_init_7 : ∀ w ∈ wsX80, w ∈ wsX10_init := fun w h => (List.mem_cons_of_mem _ (List.mem_append_left _ (List.mem_append_left _ (List.mem_append_left _ (List.mem_append_right _ h)))))
theorem il_X10_init_8 : ∀ w ∈ wsX70, w ∈ wsX10_init := fun w h => (List.mem_cons_of_mem _ (List.mem_append_left _ (List.mem_append_left _ (List.mem_append_right _ h))))
theorem il_X10_init_9 : ∀ w ∈ wsX40, w ∈ wsX10_init := fun w h => (List.mem_cons_of_mem _ (List.mem_append_left _ (List.mem_append_right _ h)))
theorem il_X10_init_10 : ∀ w ∈ wsX00, w ∈ wsX10_init := fun w h => (List.mem_cons_of_mem _ (List.mem_append_right _ h))
theorem iw_X10_init_1 : Cond.methodLink RX10 3 objectInit ∈ wsX10_init := (mmI il_X10_init_1 0 rfl)
theorem iw_X10_init_2 : Cond.instanceMethod objectInit ∈ wsX10_init := (mmI il_X10_init_1 1 rfl)
theorem iw_X10_init_3 : Cond.classLink RX10 9 RX6 ∈ wsX10_init := (mmI il_X10_init_1 3 rfl)
theorem iw_X10_init_4 : Cond.fieldLink RX10 11 "ShipOffice" "men" "[LShipOffice$Man;" ∈ wsX10_init := (mmI il_X10_init_1 4 rfl)
theorem iw_X10_init_5 : Cond.classLink RX10 15 RX9 ∈ wsX10_init := (mmI il_X10_init_1 5 rfl)
theorem iw_X10_init_6 : Cond.fieldLink RX10 17 "ShipOffice" "voyages" "[LShipOffice$Voyage;" ∈ wsX10_init := (mmI il_X10_init_1 6 rfl)
theorem iw_X10_init_7 : Cond.classLink RX10 21 RX1 ∈ wsX10_init := (mmI il_X10_init_1 7 rfl)
theorem iw_X10_init_8 : Cond.fieldLink RX10 23 "ShipOffice" "agreements" "[LShipOffice$Agreement;" ∈ wsX10_init := (mmI il_X10_init_1 8 rfl)
theorem iw_X10_init_9 : Cond.classLink RX10 27 RX5 ∈ wsX10_init := (mmI il_X10_init_1 9 rfl)
theorem iw_X10_init_10 : Cond.instantiable RX5 3 ∈ wsX10_init := (mmI il_X10_init_1 10 rfl)
theorem iw_X10_init_11 : Cond.initialized RX5 ∈ wsX10_init := (mmI il_X10_init_1 11 rfl)
theorem iw_X10_init_12 : Cond.methodLink RX10 29 yX5_init ∈ wsX10_init := (mmI il_X10_init_2 6 rfl)
theorem iw_X10_init_13 : Cond.instanceMethod yX5_init ∈ wsX10_init := (mmI il_X10_init_2 7 rfl)
theorem iw_X10_init_14 : Cond.fieldLink RX10 30 "ShipOffice" "law" "LShipOffice$Law;" ∈ wsX10_init := (mmI il_X10_init_1 12 rfl)
theorem iw_X10_init_15 : Cond.classLink RX10 34 RX8 ∈ wsX10_init := (mmI il_X10_init_1 13 rfl)
theorem iw_X10_init_16 : Cond.instantiable RX8 6 ∈ wsX10_init := (mmI il_X10_init_1 14 rfl)
theorem iw_X10_init_17 : Cond.initialized RX8 ∈ wsX10_init := (mmI il_X10_init_1 15 rfl)
theorem iw_X10_init_18 : Cond.methodLink RX10 36 yX8_init ∈ wsX10_init := (mmI il_X10_init_3 14 rfl)
theorem iw_X10_init_19 : Cond.instanceMethod yX8_init ∈ wsX10_init := (mmI il_X10_init_3 15 rfl)
theorem iw_X10_init_20 : Cond.fieldLink RX10 37 "ShipOffice" "tape" "LShipOffice$Tape;" ∈ wsX10_init := (mmI il_X10_init_1 16 rfl)
theorem iw_X10_init_21 : Cond.classLink RX10 41 RX7 ∈ wsX10_init := (mmI il_X10_init_1 17 rfl)
theorem iw_X10_init_22 : Cond.instantiable RX7 2 ∈ wsX10_init := (mmI il_X10_init_1 18 rfl)
theorem iw_X10_init_23 : Cond.initialized RX7 ∈ wsX10_init := (mmI il_X10_init_1 19 rfl)
theorem iw_X10_init_24 : Cond.methodLink RX10 43 yX7_init ∈ wsX10_init := (mmI il_X10_init_3 20 rfl)
theorem iw_X10_init_25 : Cond.instanceMethod yX7_init ∈ wsX10_init := (mmI il_X10_init_3 21 rfl)
theorem iw_X10_init_26 : Cond.fieldLink RX10 44 "ShipOffice" "sea" "LShipOffice$Sea;" ∈ wsX10_init := (mmI il_X10_init_1 20 rfl)
theorem iw_X10_init_27 : Cond.classLink RX10 48 RX4 ∈ wsX10_init := (mmI il_X10_init_1 21 rfl)
theorem iw_X10_init_28 : Cond.instantiable RX4 6 ∈ wsX10_init := (mmI il_X10_init_1 22 rfl)
theorem iw_X10_init_29 : Cond.initialized RX4 ∈ wsX10_init := (mmI il_X10_init_1 23 rfl)
theorem iw_X10_init_30 : Cond.methodLink RX10 50 yX4_init ∈ wsX10_init := (mmI il_X10_init_4 2 rfl)
theorem iw_X10_init_31 : Cond.instanceMethod yX4_init ∈ wsX10_init := (mmI il_X10_init_4 3 rfl)
theorem iw_X10_init_32 : Cond.fieldLink RX10 51 "ShipOffice" "hiring" "LShipOffice$Hiring;" ∈ wsX10_init := (mmI il_X10_init_2 0 rfl)
theorem iw_X10_init_33 : Cond.fieldLink RX10 55 "ShipOffice" "LETTERS" "[C" ∈ wsX10_init := (mmI il_X10_init_2 1 rfl)
theorem iw_X10_init_34 : Cond.arrayClass .int ∈ wsX10_init := (mmI il_X10_init_2 2 rfl)
theorem iw_X10_init_35 : Cond.fieldLink RX10 59 "ShipOffice" "letters" "[I" ∈ wsX10_init := (mmI il_X10_init_2 3 rfl)
theorem iw_X10_init_36 : Cond.fieldLink RX10 63 "ShipOffice" "row" "[I" ∈ wsX10_init := (mmI il_X10_init_2 4 rfl)
theorem iw_X10_init_37 : Cond.fieldLink RX10 66 "ShipOffice" "refusals" "[I" ∈ wsX10_init := (mmI il_X10_init_2 5 rfl)
set_option maxRecDepth 100000 in
theorem ggX5_init_X0_init : GoodIn wsX5_init wsX0_init := goodIn_sub (mmC (mmI il_X5_init_1 11 rfl) (mmA (mmC (mmI il_X5_init_1 12 rfl) (mmC (mmI il_X5_init_1 1 rfl) (mmC (mmI il_X5_init_1 2 rfl) (mmC (mmI il_X5_init_1 13 rfl) (mmC (mmI il_X5_init_1 14 rfl) (mmC (mmI il_X5_init_1 15 rfl) (mmC (mmI il_X5_init_1 8 rfl) (mmC (mmI il_X5_init_1 16 rfl) (mmC (mmI il_X5_init_1 17 rfl) (mmC (mmI il_X5_init_1 18 rfl) (mmC (mmI il_X5_init_1 19 rfl) (mmC (mmI il_X5_init_1 20 rfl) (mmC (mmI il_X5_init_1 7 rfl) (mmC (mmI il_X5_init_1 21 rfl) (mmC (mmI il_X5_init_1 22 rfl) (mmC (mmI il_X5_init_1 23 rfl) (mmC (mmI il_X5_init_2 0 rfl) (mmC (mmI il_X5_init_2 1 rfl) (mmC (mmI il_X5_init_2 2 rfl) (mmC (mmI il_X5_init_2 3 rfl) (mmC (mmI il_X5_init_2 4 rfl) (mmC (mmI il_X5_init_2 5 rfl) (mmC (mmI il_X5_init_2 6 rfl) (mmC (mmI il_X5_init_2 7 rfl) mmN)))))))))))))))))))))))) il_X5_init_4)) gw_X0_init
set_option maxRecDepth 20000 in
theorem gX5_init_X0_init : GoodIn wsX5_init (wsX0_init) := ggX5_init_X0_init
theorem dX5_init_0 : decode cX5_init 0 = .ok (.aload_n 0, 1) := by decide +kernel
theorem dX5_init_1 : decode cX5_init 1 = .ok (.invokespecial 3, 3) := by decide +kernel
theorem dX5_init_4 : decode cX5_init 4 = .ok (.aload_n 0, 1) := by decide +kernel
theorem dX5_init_5 : decode cX5_init 5 = .ok (.bipush 30, 2) := by decide +kernel
theorem dX5_init_7 : decode cX5_init 7 = .ok (.anewarray 9, 3) := by decide +kernel
theorem dX5_init_10 : decode cX5_init 10 = .ok (.putfield 11, 3) := by decide +kernel
theorem dX5_init_13 : decode cX5_init 13 = .ok (.aload_n 0, 1) := by decide +kernel
theorem dX5_init_14 : decode cX5_init 14 = .ok (.iconst 5, 1) := by decide +kernel
theorem dX5_init_15 : decode cX5_init 15 = .ok (.anewarray 9, 3) := by decide +kernel
theorem dX5_init_18 : decode cX5_init 18 = .ok (.putfield 17, 3) := by decide +kernel
theorem dX5_init_21 : decode cX5_init 21 = .ok (.aload_n 0, 1) := by decide +kernel
theorem dX5_init_22 : decode cX5_init 22 = .ok (.getfield 17, 3) := by decide +kernel
theorem dX5_init_25 : decode cX5_init 25 = .ok (.iconst 0, 1) := by decide +kernel
theorem dX5_init_26 : decode cX5_init 26 = .ok (.new 9, 3) := by decide +kernel
theorem dX5_init_29 : decode cX5_init 29 = .ok (.dup, 1) := by decide +kernel
theorem dX5_init_30 : decode cX5_init 30 = .ok (.iconst 0, 1) := by decide +kernel
theorem dX5_init_31 : decode cX5_init 31 = .ok (.iconst (-1), 1) := by decide +kernel
theorem dX5_init_32 : decode cX5_init 32 = .ok (.iconst 1, 1) := by decide +kernel
theorem dX5_init_33 : decode cX5_init 33 = .ok (.newarray .int, 2) := by decide +kernel
theorem dX5_init_35 : decode cX5_init 35 = .ok (.dup, 1) := by decide +kernel
theorem dX5_init_36 : decode cX5_init 36 = .ok (.iconst 0, 1) := by decide +kernel
theorem dX5_init_37 : decode cX5_init 37 = .ok (.iconst 1, 1) := by decide +kernel
theorem dX5_init_38 : decode cX5_init 38 = .ok (.iastore, 1) := by decide +kernel
theorem dX5_init_39 : decode cX5_init 39 = .ok (.invokespecial 20, 3) := by decide +kernel
theorem dX5_init_42 : decode cX5_init 42 = .ok (.aastore, 1) := by decide +kernel
theorem dX5_init_43 : decode cX5_init 43 = .ok (.aload_n 0, 1) := by decide +kernel
theorem dX5_init_44 : decode cX5_init 44 = .ok (.getfield 17, 3) := by decide +kernel
theorem dX5_init_47 : decode cX5_init 47 = .ok (.iconst 1, 1) := by decide +kernel
theorem dX5_init_48 : decode cX5_init 48 = .ok (.new 9, 3) := by decide +kernel
theorem dX5_init_51 : decode cX5_init 51 = .ok (.dup, 1) := by decide +kernel
theorem dX5_init_52 : decode cX5_init 52 = .ok (.iconst 1, 1) := by decide +kernel
theorem dX5_init_53 : decode cX5_init 53 = .ok (.iconst (-1), 1) := by decide +kernel
theorem dX5_init_54 : decode cX5_init 54 = .ok (.iconst 1, 1) := by decide +kernel
theorem dX5_init_55 : decode cX5_init 55 = .ok (.newarray .int, 2) := by decide +kernel
theorem dX5_init_57 : decode cX5_init 57 = .ok (.dup, 1) := by decide +kernel
theorem dX5_init_58 : decode cX5_init 58 = .ok (.iconst 0, 1) := by decide +kernel
theorem dX5_init_59 : decode cX5_init 59 = .ok (.bipush (-6), 2) := by decide +kernel
theorem dX5_init_61 : decode cX5_init 61 = .ok (.iastore, 1) := by decide +kernel
theorem dX5_init_62 : decode cX5_init 62 = .ok (.invokespecial 20, 3) := by decide +kernel
theorem dX5_init_65 : decode cX5_init 65 = .ok (.aastore, 1) := by decide +kernel
theorem dX5_init_66 : decode cX5_init 66 = .ok (.aload_n 0, 1) := by decide +kernel
theorem dX5_init_67 : decode cX5_init 67 = .ok (.getfield 17, 3) := by decide +kernel
theorem dX5_init_70 : decode cX5_init 70 = .ok (.iconst 2, 1) := by decide +kernel
theorem dX5_init_71 : decode cX5_init 71 = .ok (.new 9, 3) := by decide +kernel
theorem dX5_init_74 : decode cX5_init 74 = .ok (.dup, 1) := by decide +kernel
theorem dX5_init_75 : decode cX5_init 75 = .ok (.iconst 2, 1) := by decide +kernel
theorem dX5_init_76 : decode cX5_init 76 = .ok (.iconst (-1), 1) := by decide +kernel
theorem dX5_init_77 : decode cX5_init 77 = .ok (.iconst 1, 1) := by decide +kernel
theorem dX5_init_78 : decode cX5_init 78 = .ok (.newarray .int, 2) := by decide +kernel
theorem dX5_init_80 : decode cX5_init 80 = .ok (.dup, 1) := by decide +kernel
theorem dX5_init_81 : decode cX5_init 81 = .ok (.iconst 0, 1) := by decide +kernel
theorem dX5_init_82 : decode cX5_init 82 = .ok (.bipush 100, 2) := by decide +kernel
theorem dX5_init_84 : decode cX5_init 84 = .ok (.iastore, 1) := by decide +kernel
theorem dX5_init_85 : decode cX5_init 85 = .ok (.invokespecial 20, 3) := by decide +kernel
theorem dX5_init_88 : decode cX5_init 88 = .ok (.aastore, 1) := by decide +kernel
theorem dX5_init_89 : decode cX5_init 89 = .ok (.aload_n 0, 1) := by decide +kernel
theorem dX5_init_90 : decode cX5_init 90 = .ok (.getfield 17, 3) := by decide +kernel
theorem dX5_init_93 : decode cX5_init 93 = .ok (.iconst 3, 1) := by decide +kernel
theorem dX5_init_94 : decode cX5_init 94 = .ok (.new 9, 3) := by decide +kernel
theorem dX5_init_97 : decode cX5_init 97 = .ok (.dup, 1) := by decide +kernel
theorem dX5_init_98 : decode cX5_init 98 = .ok (.iconst 3, 1) := by decide +kernel
theorem dX5_init_99 : decode cX5_init 99 = .ok (.iconst (-1), 1) := by decide +kernel
theorem dX5_init_100 : decode cX5_init 100 = .ok (.iconst 1, 1) := by decide +kernel
theorem dX5_init_101 : decode cX5_init 101 = .ok (.newarray .int, 2) := by decide +kernel
theorem dX5_init_103 : decode cX5_init 103 = .ok (.dup, 1) := by decide +kernel
theorem dX5_init_104 : decode cX5_init 104 = .ok (.iconst 0, 1) := by decide +kernel
theorem dX5_init_105 : decode cX5_init 105 = .ok (.bipush 50, 2) := by decide +kernel
theorem dX5_init_107 : decode cX5_init 107 = .ok (.iastore, 1) := by decide +kernel
theorem dX5_init_108 : decode cX5_init 108 = .ok (.invokespecial 20, 3) := by decide +kernel
theorem dX5_init_111 : decode cX5_init 111 = .ok (.aastore, 1) := by decide +kernel
theorem dX5_init_112 : decode cX5_init 112 = .ok (.aload_n 0, 1) := by decide +kernel
theorem dX5_init_113 : decode cX5_init 113 = .ok (.getfield 17, 3) := by decide +kernel
theorem dX5_init_116 : decode cX5_init 116 = .ok (.iconst 4, 1) := by decide +kernel
theorem dX5_init_117 : decode cX5_init 117 = .ok (.new 9, 3) := by decide +kernel
theorem dX5_init_120 : decode cX5_init 120 = .ok (.dup, 1) := by decide +kernel
theorem dX5_init_121 : decode cX5_init 121 = .ok (.iconst 4, 1) := by decide +kernel
theorem dX5_init_122 : decode cX5_init 122 = .ok (.iconst (-1), 1) := by decide +kernel
theorem dX5_init_123 : decode cX5_init 123 = .ok (.iconst 1, 1) := by decide +kernel
theorem dX5_init_124 : decode cX5_init 124 = .ok (.newarray .int, 2) := by decide +kernel
theorem dX5_init_126 : decode cX5_init 126 = .ok (.dup, 1) := by decide +kernel
theorem dX5_init_127 : decode cX5_init 127 = .ok (.iconst 0, 1) := by decide +kernel
theorem dX5_init_128 : decode cX5_init 128 = .ok (.bipush 90, 2) := by decide +kernel
theorem dX5_init_130 : decode cX5_init 130 = .ok (.iastore, 1) := by decide +kernel
theorem dX5_init_131 : decode cX5_init 131 = .ok (.invokespecial 20, 3) := by decide +kernel
theorem dX5_init_134 : decode cX5_init 134 = .ok (.aastore, 1) := by decide +kernel
theorem dX5_init_135 : decode cX5_init 135 = .ok (.return_, 1) := by decide +kernel
set_option maxRecDepth 100000 in
theorem ggX10_init_X5_init : GoodIn wsX10_init wsX5_init := goodIn_sub (mmC (mmI il_X10_init_2 8 rfl) (mmA (mmA (mmA (mmC (mmI il_X10_init_2 9 rfl) (mmC (mmI il_X10_init_1 1 rfl) (mmC (mmI il_X10_init_1 2 rfl) (mmC (mmI il_X10_init_2 10 rfl) (mmC (mmI il_X10_init_2 11 rfl) (mmC (mmI il_X10_init_2 12 rfl) (mmC (mmI il_X10_init_2 13 rfl) (mmC (mmI il_X10_init_2 14 rfl) (mmC (mmI il_X10_init_2 2 rfl) (mmC (mmI il_X10_init_2 15 rfl) (mmC (mmI il_X10_init_2 16 rfl) (mmC (mmI il_X10_init_2 17 rfl) (mmC (mmI il_X10_init_2 18 rfl) (mmC (mmI il_X10_init_2 19 rfl) (mmC (mmI il_X10_init_2 20 rfl) (mmC (mmI il_X10_init_2 21 rfl) (mmC (mmI il_X10_init_2 22 rfl) (mmC (mmI il_X10_init_2 23 rfl) (mmC (mmI il_X10_init_3 0 rfl) (mmC (mmI il_X10_init_3 1 rfl) (mmC (mmI il_X10_init_3 2 rfl) (mmC (mmI il_X10_init_3 3 rfl) (mmC (mmI il_X10_init_3 4 rfl) (mmC (mmI il_X10_init_3 5 rfl) mmN)))))))))))))))))))))))) (mmC (mmI il_X10_init_3 6 rfl) (mmC (mmI il_X10_init_3 7 rfl) (mmC (mmI il_X10_init_3 8 rfl) (mmC (mmI il_X10_init_3 9 rfl) (mmC (mmI il_X10_init_3 10 rfl) (mmC (mmI il_X10_init_3 11 rfl) (mmC (mmI il_X10_init_3 12 rfl) (mmC (mmI il_X10_init_3 13 rfl) mmN))))))))) il_X10_init_6) il_X10_init_10)) gw_X5_init
set_option maxRecDepth 20000 in
theorem gX10_init_X5_init : GoodIn wsX10_init (wsX5_init) := ggX10_init_X5_init
set_option maxRecDepth 100000 in
theorem ggX10_init_X8_init : GoodIn wsX10_init wsX8_init := goodIn_sub (mmC (mmI il_X10_init_3 16 rfl) (mmA (mmC (mmI il_X10_init_3 17 rfl) (mmC (mmI il_X10_init_1 1 rfl) (mmC (mmI il_X10_init_1 2 rfl) (mmC (mmI il_X10_init_2 2 rfl) (mmC (mmI il_X10_init_3 18 rfl) (mmC (mmI il_X10_init_3 19 rfl) mmN)))))) il_X10_init_7)) gw_X8_init
set_option maxRecDepth 20000 in
theorem gX10_init_X8_init : GoodIn wsX10_init (wsX8_init) := ggX10_init_X8_init
set_option maxRecDepth 100000 in
theorem ggX10_init_X7_init : GoodIn wsX10_init wsX7_init := goodIn_sub (mmC (mmI il_X10_init_3 22 rfl) (mmA (mmC (mmI il_X10_init_3 23 rfl) (mmC (mmI il_X10_init_1 1 rfl) (mmC (mmI il_X10_init_1 2 rfl) (mmC (mmI il_X10_init_2 2 rfl) (mmC (mmI il_X10_init_4 0 rfl) (mmC (mmI il_X10_init_4 1 rfl) mmN)))))) il_X10_init_8)) gw_X7_init
set_option maxRecDepth 20000 in
theorem gX10_init_X7_init : GoodIn wsX10_init (wsX7_init) := ggX10_init_X7_init
set_option maxRecDepth 100000 in
theorem ggX10_init_X4_init : GoodIn wsX10_init wsX4_init := goodIn_sub (mmC (mmI il_X10_init_4 4 rfl) (mmA (mmC (mmI il_X10_init_4 5 rfl) (mmC (mmI il_X10_init_1 1 rfl) (mmC (mmI il_X10_init_1 2 rfl) (mmC (mmI il_X10_init_4 6 rfl) (mmC (mmI il_X10_init_4 7 rfl) (mmC (mmI il_X10_init_2 2 rfl) (mmC (mmI il_X10_init_4 8 rfl) (mmC (mmI il_X10_init_4 9 rfl) mmN)))))))) il_X10_init_9)) gw_X4_init
set_option maxRecDepth 20000 in
theorem gX10_init_X4_init : GoodIn wsX10_init (wsX4_init) := ggX10_init_X4_init
theorem dX10_init_0 : decode cX10_init 0 = .ok (.aload_n 0, 1) := by decide +kernel
theorem dX10_init_1 : decode cX10_init 1 = .ok (.invokespecial 3, 3) := by decide +kernel
theorem dX10_init_4 : decode cX10_init 4 = .ok (.aload_n 0, 1) := by decide +kernel
theorem dX10_init_5 : decode cX10_init 5 = .ok (.bipush 40, 2) := by decide +kernel
theorem dX10_init_7 : decode cX10_init 7 = .ok (.anewarray 9, 3) := by decide +kernel
theorem dX10_init_10 : decode cX10_init 10 = .ok (.putfield 11, 3) := by decide +kernel
theorem dX10_init_13 : decode cX10_init 13 = .ok (.aload_n 0, 1) := by decide +kernel
theorem dX10_init_14 : decode cX10_init 14 = .ok (.bipush 20, 2) := by decide +kernel
theorem dX10_init_16 : decode cX10_init 16 = .ok (.anewarray 15, 3) := by decide +kernel
theorem dX10_init_19 : decode cX10_init 19 = .ok (.putfield 17, 3) := by decide +kernel
theorem dX10_init_22 : decode cX10_init 22 = .ok (.aload_n 0, 1) := by decide +kernel
theorem dX10_init_23 : decode cX10_init 23 = .ok (.bipush 60, 2) := by decide +kernel
theorem dX10_init_25 : decode cX10_init 25 = .ok (.anewarray 21, 3) := by decide +kernel
theorem dX10_init_28 : decode cX10_init 28 = .ok (.putfield 23, 3) := by decide +kernel
theorem dX10_init_31 : decode cX10_init 31 = .ok (.aload_n 0, 1) := by decide +kernel
theorem dX10_init_32 : decode cX10_init 32 = .ok (.new 27, 3) := by decide +kernel
theorem dX10_init_35 : decode cX10_init 35 = .ok (.dup, 1) := by decide +kernel
theorem dX10_init_36 : decode cX10_init 36 = .ok (.invokespecial 29, 3) := by decide +kernel
theorem dX10_init_39 : decode cX10_init 39 = .ok (.putfield 30, 3) := by decide +kernel
theorem dX10_init_42 : decode cX10_init 42 = .ok (.aload_n 0, 1) := by decide +kernel
theorem dX10_init_43 : decode cX10_init 43 = .ok (.new 34, 3) := by decide +kernel
theorem dX10_init_46 : decode cX10_init 46 = .ok (.dup, 1) := by decide +kernel
theorem dX10_init_47 : decode cX10_init 47 = .ok (.invokespecial 36, 3) := by decide +kernel
theorem dX10_init_50 : decode cX10_init 50 = .ok (.putfield 37, 3) := by decide +kernel
theorem dX10_init_53 : decode cX10_init 53 = .ok (.aload_n 0, 1) := by decide +kernel
theorem dX10_init_54 : decode cX10_init 54 = .ok (.new 41, 3) := by decide +kernel
theorem dX10_init_57 : decode cX10_init 57 = .ok (.dup, 1) := by decide +kernel
theorem dX10_init_58 : decode cX10_init 58 = .ok (.invokespecial 43, 3) := by decide +kernel
theorem dX10_init_61 : decode cX10_init 61 = .ok (.putfield 44, 3) := by decide +kernel
theorem dX10_init_64 : decode cX10_init 64 = .ok (.aload_n 0, 1) := by decide +kernel
theorem dX10_init_65 : decode cX10_init 65 = .ok (.new 48, 3) := by decide +kernel
theorem dX10_init_68 : decode cX10_init 68 = .ok (.dup, 1) := by decide +kernel
theorem dX10_init_69 : decode cX10_init 69 = .ok (.invokespecial 50, 3) := by decide +kernel
theorem dX10_init_72 : decode cX10_init 72 = .ok (.putfield 51, 3) := by decide +kernel
theorem dX10_init_75 : decode cX10_init 75 = .ok (.aload_n 0, 1) := by decide +kernel
theorem dX10_init_76 : decode cX10_init 76 = .ok (.getstatic 55, 3) := by decide +kernel
theorem dX10_init_79 : decode cX10_init 79 = .ok (.arraylength, 1) := by decide +kernel
theorem dX10_init_80 : decode cX10_init 80 = .ok (.newarray .int, 2) := by decide +kernel
theorem dX10_init_82 : decode cX10_init 82 = .ok (.putfield 59, 3) := by decide +kernel
theorem dX10_init_85 : decode cX10_init 85 = .ok (.aload_n 0, 1) := by decide +kernel
theorem dX10_init_86 : decode cX10_init 86 = .ok (.bipush 12, 2) := by decide +kernel
theorem dX10_init_88 : decode cX10_init 88 = .ok (.newarray .int, 2) := by decide +kernel
theorem dX10_init_90 : decode cX10_init 90 = .ok (.putfield 63, 3) := by decide +kernel
theorem dX10_init_93 : decode cX10_init 93 = .ok (.aload_n 0, 1) := by decide +kernel
theorem dX10_init_94 : decode cX10_init 94 = .ok (.bipush 7, 2) := by decide +kernel
theorem dX10_init_96 : decode cX10_init 96 = .ok (.newarray .int, 2) := by decide +kernel
theorem dX10_init_98 : decode cX10_init 98 = .ok (.putfield 66, 3) := by decide +kernel
theorem dX10_init_101 : decode cX10_init 101 = .ok (.return_, 1) := by decide +kernel
theorem in_wsX5_init_X5 : ∀ w ∈ wsX50, w ∈ wsX5_init := fun w h => List.mem_cons_of_mem _ (List.mem_append_left _ (List.mem_append_right _ h))
theorem in_wsX5_init_X0 : ∀ w ∈ wsX00, w ∈ wsX5_init := fun w h => List.mem_cons_of_mem _ (List.mem_append_right _ h)
theorem in_wsX10_init_X10 : ∀ w ∈ wsX100, w ∈ wsX10_init := fun w h => List.mem_cons_of_mem _ (List.mem_append_left _ (List.mem_append_left _ (List.mem_append_left _ (List.mem_append_left _ (List.mem_append_left _ (List.mem_append_right _ h))))))
theorem in_wsX10_init_X5 : ∀ w ∈ wsX50, w ∈ wsX10_init := fun w h => List.mem_cons_of_mem _ (List.mem_append_left _ (List.mem_append_left _ (List.mem_append_left _ (List.mem_append_left _ (List.mem_append_right _ h)))))
theorem in_wsX10_init_X8 : ∀ w ∈ wsX80, w ∈ wsX10_init := fun w h => List.mem_cons_of_mem _ (List.mem_append_left _ (List.mem_append_left _ (List.mem_append_left _ (List.mem_append_right _ h))))
theorem in_wsX10_init_X7 : ∀ w ∈ wsX70, w ∈ wsX10_init := fun w h => List.mem_cons_of_mem _ (List.mem_append_left _ (List.mem_append_left _ (List.mem_append_right _ h)))
theorem in_wsX10_init_X4 : ∀ w ∈ wsX40, w ∈ wsX10_init := fun w h => List.mem_cons_of_mem _ (List.mem_append_left _ (List.mem_append_right _ h))
theorem in_obj_wsX5_init : Cond.code objectInit ⟨#[0xb1]⟩ 1 none ∈ wsX5_init := List.mem_of_getElem? (i := 3) rfl
theorem in_obj_wsX10_init : Cond.code objectInit ⟨#[0xb1]⟩ 1 none ∈ wsX10_init := List.mem_of_getElem? (i := 3) rfl

theorem nkw {k i : Nat} {W : List Nat} (h1 : 11 ≤ k) (h2 : k < 300) (h : 2000 + k ∉ W) : wk k i ∉ W := by
  have e : wk k i = 2000 + k := by
    unfold wk
    rw [if_neg (by omega), if_neg (by omega), if_neg (by omega)]
  rw [e]
  exact h
set_option maxHeartbeats 4000000 in
set_option maxRecDepth 100000 in
theorem c_X5_init (l : Launch) (dC : Nat → ClassId) (dI : Nat → Nat → Nat) (sz : Nat) (tL tS tG : Nat) (cq : Nat → ClassId) (Z : oS) (gI : oInv Z) (o : Nat) (to : oty Z o 35) (hz : ∀ j, oI Z o j = 0) : Met l yX5_init wsX5_init ({ frames := 4, cells := 22, slots := 410, locals := 95 }) (va_Pc [.ref o] (pcO (dC, dI) (oT cq) (oW cq Z) sz tL tS tG (oW cq Z))) (va_Qv (fun (u : oS) => oInv u ∧ oXc [5001] o Z u ∧ (oty u o 5 ∧ oI u o 2 = 0)) (fun u t => va_P (dC, dI) vwCl (oW cq u) t.heap ∧ va_K (dC, dI) vwCl (oT cq) t ∧ va_D (va_A (oW cq Z) sz) (oW cq u)) (va_A (oW cq Z) sz)) 22 410 (va_A (oW cq Z) sz) := by
  refine Met.ofW (cc := cX5_init) (maxL := 1) (ret := none) (by decide) rfl ?_
  intro p e s m args below meth c s₁ B hml hv
  obtain ⟨rfl, ⟨hsz, hP, hK, hD0⟩, hZ⟩ := hv
  have hx := B.exec
  have hb := B.bytes
  have hr := B.returns
  have hts := atoms_spec (ws := wsX5_init) B.pre
  have hown : s.vm.findClass RX5 = some m.cls := findClass_of_methodNamed B.named
  have hlocks := B.notSynchronized
  have hin : meth.name = "<init>" := (name_of_methodNamed B.named B.method).1
  subst hsz
  have hD := hD0.self (sz := s.heap.size)
  generalize hAe : va_A (oW cq Z) s.heap.size = A at hD hZ ⊢
  have hA : ∀ q : Nat, s.heap.size ≤ q → A q := fun q h => by rw [← hAe]; exact Or.inr h
  have hS : va_S A s.heap s.heap [] := va_S.rf
  have hP : va_P (dC, dI) vwCl (oW cq Z) s.heap := hP
  have hl := lv_entry ([.ref o]) (n := 1) (Nat.le_of_ble_eq_true rfl)
  rw [lg_entry_eq]
  generalize (lg_sl ([.ref o]) ++ List.replicate (1 - (lg_sl ([.ref o])).length) Slot.unset).toArray = ls at hl ⊢
  have hl : lv_has ls 1 [(0, .ref o)] := hl
  refine lv_aload_n hx hb dX5_init_0 rfl (lv_at hl 0 rfl) ?_
  refine W.objInit hx hb hown (hts (.methodLink RX5 3 objectInit) iw_X5_init_1) (hts (.instanceMethod objectInit) iw_X5_init_2) (hts (.code objectInit ⟨#[0xb1]⟩ 1 none) (in_obj_wsX5_init)) rfl (by rw [hml]; exact hl.1) rfl dX5_init_1 (Nat.le_of_ble_eq_true rfl) (Nat.le_of_ble_eq_true rfl) ?_
  refine W.eq (g2 := F0 m 4 ls []) rfl ?_
  refine lv_aload_n hx hb dX5_init_4 rfl (lv_at hl 0 rfl) ?_
  refine lv_bipush (v := 30) hx hb dX5_init_5 (by decide) ?_
  refine va_newq (N' := 30) hx hb hown (hts (.classLink RX5 9 RX0) iw_X5_init_3) hZ.1.2.2.2.2.2.2.1 hK hP hD hS hA (by decide) (by decide) (by decide) (Nat.le_of_ble_eq_true rfl) (Nat.le_of_ble_eq_true rfl) dX5_init_7 (fun q_1 k_2 H hK1 hP1 hD1 hS => ?_)
  obtain ⟨rfl, -⟩ := lv_ad (k := 2) hK1 rfl
  clear hK1
  have hnq_1 := add_q hD1
  obtain ⟨S_3, eS_3⟩ : ∃ zq, zq = addO Z q_1 12 := ⟨_, rfl⟩
  have hP : va_P (dC, dI) vwCl (oW cq S_3) H := by rw [eS_3]; exact cP (onew hD1 (by rw [oE_12 add_K, add_P])) hP1
  have hD : va_D A (oW cq S_3) := by rw [eS_3]; exact cD (onew hD1 (by rw [oE_12 add_K, add_P])) hD1
  clear hP1 hD1
  have hIS_3 : oInv S_3 := by rw [eS_3]; exact oInv.add gI hnq_1 (by decide)
  have XS_3 : oX [] Z S_3 := by rw [eS_3]; exact oX.add hnq_1
  have nzq_1 : q_1 ∉ oL Z := hnq_1
  have ik_4 : oI S_3 o 2 = 0 := by rw [eS_3, add_In hnq_1 to.1]; exact (hz 2)
  have X_5 : oXc [5001] o Z S_3 := oXc.st oXc.rf XS_3 (by decide)
  have tq_1 : oty S_3 q_1 12 := by rw [eS_3]; exact add_ty
  refine W.widen (k := 1) (n := 30) (Nat.le_of_ble_eq_true rfl) (Nat.le_of_ble_eq_true rfl) ?_
  have t_6 : oty S_3 o 35 := (oX.ty XS_3 to)
  obtain ⟨q_7, hq_7⟩ := og (cq := cq) t_6.1 (oE_35 t_6.2)
  refine va_putF (D := (dC, dI)) (ci := 5) (v := .ref q_1) (ty := .array (.object "ShipOffice$Act")) (C := RX5) (T := TX5) (N := 3) hx hb hts in_wsX5_init_X5 tyX5 tyX5_ok nmX5 hown hK hP hD hS q_7 hq_7 rfl 0 (by decide) (hts (.fieldLink RX5 11 "ShipOffice$Law" "acts" "[LShipOffice$Act;") iw_X5_init_4) (fun _ h9 => h9) rfl hin rfl (by decide +kernel) rfl rfl (Nat.le_of_ble_eq_true rfl) dX5_init_10 (fun H locs hP1 hD1 hS => ?_)
  obtain ⟨S_8, eS_8⟩ : ∃ zq, zq = setP S_3 o 0 (some q_1) := ⟨_, rfl⟩
  have hP : va_P (dC, dI) vwCl (oW cq S_8) H := by rw [eS_8]; exact cP (oset t_6.1 hq_7 hD rfl (he_35_0 t_6.2) neP) hP1
  have hD : va_D A (oW cq S_8) := by rw [eS_8]; exact cD (oset t_6.1 hq_7 hD rfl (he_35_0 t_6.2) neP) hD1
  clear hP1 hD1
  have hIS_8 : oInv S_8 := by rw [eS_8]; exact oInv.P (k := 35) hIS_3 t_6.2 (by decide) rfl (by decide) tq_1 (by decide)
  have XS_8 : oX [2035] S_3 S_8 := by rw [eS_8]; exact oX.P (k := 35) (key := 2035) t_6.2 rfl (List.mem_singleton.mpr rfl)
  have ik_9 : oI S_8 o 2 = 0 := by rw [eS_8]; exact ik_4
  have X_10 : oXc [5001] o Z S_8 := by rw [eS_8]; exact oXc.P X_5
  have pk_11 : oP S_8 o 0 = some q_1 := by rw [eS_8, setP_same]
  refine lv_aload_n hx hb dX5_init_13 rfl (lv_at hl 0 rfl) ?_
  refine lv_iconst (v := 5) hx hb dX5_init_14 (by decide) ?_
  refine va_newq (N' := 5) hx hb hown (hts (.classLink RX5 9 RX0) iw_X5_init_3) hZ.1.2.2.2.2.2.2.1 hK hP hD hS hA (by decide) (by decide) (by decide) (Nat.le_of_ble_eq_true rfl) (Nat.le_of_ble_eq_true rfl) dX5_init_15 (fun q_12 k_13 H hK1 hP1 hD1 hS => ?_)
  obtain ⟨rfl, -⟩ := lv_ad (k := 2) hK1 rfl
  clear hK1
  have hnq_12 := add_q hD1
  obtain ⟨S_14, eS_14⟩ : ∃ zq, zq = addO S_8 q_12 13 := ⟨_, rfl⟩
  have hP : va_P (dC, dI) vwCl (oW cq S_14) H := by rw [eS_14]; exact cP (onew hD1 (by rw [oE_13 add_K, add_P])) hP1
  have hD : va_D A (oW cq S_14) := by rw [eS_14]; exact cD (onew hD1 (by rw [oE_13 add_K, add_P])) hD1
  clear hP1 hD1
  have hIS_14 : oInv S_14 := by rw [eS_14]; exact oInv.add hIS_8 hnq_12 (by decide)
  have XS_14 : oX [] S_8 S_14 := by rw [eS_14]; exact oX.add hnq_12
  have nzq_12 : q_12 ∉ oL Z := oXc.nin X_10 hnq_12
  have pk_15 : oP S_14 o 0 = some q_1 := by rw [eS_14, add_Pn hnq_12 (oX.ty XS_8 t_6).1]; exact pk_11
  have ik_16 : oI S_14 o 2 = 0 := by rw [eS_14, add_In hnq_12 (oX.ty XS_8 t_6).1]; exact ik_9
  have X_17 : oXc [5001] o Z S_14 := oXc.st X_10 XS_14 (by decide)
  have tq_12 : oty S_14 q_12 13 := by rw [eS_14]; exact add_ty
  refine W.widen (k := 2) (n := 35) (Nat.le_of_ble_eq_true rfl) (Nat.le_of_ble_eq_true rfl) ?_
  have t_18 : oty S_14 o 35 := (oX.ty XS_14 (oX.ty XS_8 t_6))
  obtain ⟨q_19, hq_19⟩ := og (cq := cq) t_18.1 (oE_35 t_18.2)
  refine va_putF (D := (dC, dI)) (ci := 5) (v := .ref q_12) (ty := .array (.object "ShipOffice$Act")) (C := RX5) (T := TX5) (N := 3) hx hb hts in_wsX5_init_X5 tyX5 tyX5_ok nmX5 hown hK hP hD hS q_19 hq_19 rfl 1 (by decide) (hts (.fieldLink RX5 17 "ShipOffice$Law" "customs" "[LShipOffice$Act;") iw_X5_init_5) (fun _ h9 => h9) rfl hin rfl (by decide +kernel) rfl rfl (Nat.le_of_ble_eq_true rfl) dX5_init_18 (fun H locs hP1 hD1 hS => ?_)
  obtain ⟨S_20, eS_20⟩ : ∃ zq, zq = setP S_14 o 1 (some q_12) := ⟨_, rfl⟩
  have hP : va_P (dC, dI) vwCl (oW cq S_20) H := by rw [eS_20]; exact cP (oset t_18.1 hq_19 hD rfl (he_35_1 t_18.2) neP) hP1
  have hD : va_D A (oW cq S_20) := by rw [eS_20]; exact cD (oset t_18.1 hq_19 hD rfl (he_35_1 t_18.2) neP) hD1
  clear hP1 hD1
  have hIS_20 : oInv S_20 := by rw [eS_20]; exact oInv.P (k := 35) hIS_14 t_18.2 (by decide) rfl (by decide) tq_12 (by decide)
  have XS_20 : oX [2035] S_14 S_20 := by rw [eS_20]; exact oX.P (k := 35) (key := 2035) t_18.2 rfl (List.mem_singleton.mpr rfl)
  have pk_21 : oP S_20 o 0 = some q_1 := by rw [eS_20, setP_ne (by decide)]; exact pk_15
  have ik_22 : oI S_20 o 2 = 0 := by rw [eS_20]; exact ik_16
  have X_23 : oXc [5001] o Z S_20 := by rw [eS_20]; exact oXc.P X_17
  have pk_24 : oP S_20 o 1 = some q_12 := by rw [eS_20, setP_same]
  refine lv_aload_n hx hb dX5_init_21 rfl (lv_at hl 0 rfl) ?_
  have t_25 : oty S_20 o 35 := (oX.ty XS_20 t_18)
  obtain ⟨q_26, hq_26⟩ := og (cq := cq) t_25.1 (oE_35 t_25.2)
  refine va_get (D := (dC, dI)) (ci := 5) (v := .ref q_12) (C := RX5) (T := TX5) (N := 3) hx hb hts in_wsX5_init_X5 hown hK hP q_26 hq_26 rfl 1 (by decide) (hts (.fieldLink RX5 17 "ShipOffice$Law" "customs" "[LShipOffice$Act;") iw_X5_init_5) (fun _ h9 => h9) (o_rd pk_24) dX5_init_22 ?_
  refine lv_iconst (v := 0) hx hb dX5_init_25 (by decide) ?_
  refine va_new (ci := 0) (fs := [.int 0, .int 0, .int 0, .null, .null]) (C := RX0) (T := TX0) (N := 5) hx hb hts in_wsX5_init_X0 tyX0 tyX0_ok hown (hts (.classLink RX5 9 RX0) iw_X5_init_3) (hts (.instantiable RX0 5) iw_X5_init_6) (hts (.initialized RX0) iw_X5_init_7) hK hP hD hS hA rfl (fun j hj => by rcases (show j = 0 ∨ j = 1 ∨ j = 2 ∨ j = 3 ∨ j = 4 by omega) with rfl | rfl | rfl | rfl | rfl <;> rfl) (Nat.le_of_ble_eq_true rfl) (Nat.le_of_ble_eq_true rfl) dX5_init_26 (fun q_27 H hP1 hD1 hS => ?_)
  have hnq_27 := add_q hD1
  obtain ⟨S_28, eS_28⟩ : ∃ zq, zq = addO S_20 q_27 30 := ⟨_, rfl⟩
  have hP : va_P (dC, dI) vwCl (oW cq S_28) H := by rw [eS_28]; exact cP (onew hD1 (by rw [oE_30 add_K, add_I, add_P]; rfl)) hP1
  have hD : va_D A (oW cq S_28) := by rw [eS_28]; exact cD (onew hD1 (by rw [oE_30 add_K, add_I, add_P]; rfl)) hD1
  clear hP1 hD1
  have hIS_28 : oInv S_28 := by rw [eS_28]; exact oInv.add hIS_20 hnq_27 (by decide)
  have XS_28 : oX [] S_20 S_28 := by rw [eS_28]; exact oX.add hnq_27
  have nzq_27 : q_27 ∉ oL Z := oXc.nin X_23 hnq_27
  have pk_29 : oP S_28 o 0 = some q_1 := by rw [eS_28, add_Pn hnq_27 t_25.1]; exact pk_21
  have pk_30 : oP S_28 o 1 = some q_12 := by rw [eS_28, add_Pn hnq_27 t_25.1]; exact pk_24
  have ik_31 : oI S_28 o 2 = 0 := by rw [eS_28, add_In hnq_27 t_25.1]; exact ik_22
  have sr_32 : oP S_28 o 1 = some q_12 := by rw [eS_28, add_Pn hnq_27 t_25.1]; exact pk_24
  have X_33 : oXc [5001] o Z S_28 := oXc.st X_23 XS_28 (by decide)
  have tq_27 : oty S_28 q_27 30 := by rw [eS_28]; exact add_ty
  refine W.widen (k := 3) (n := 40) (Nat.le_of_ble_eq_true rfl) (Nat.le_of_ble_eq_true rfl) ?_
  refine lv_dup hx hb dX5_init_29 rfl ?_
  refine lv_iconst (v := 0) hx hb dX5_init_30 (by decide) ?_
  refine lv_iconst (v := (-1)) hx hb dX5_init_31 (by decide) ?_
  refine lv_iconst (v := 1) hx hb dX5_init_32 (by decide) ?_
  refine va_newa (atype := .int) (ty := .int) (a0 := (1, .inl (fun _ => 0))) hx hb (hts (.arrayClass .int) iw_X5_init_8) rfl hK hP hD hS hA (fun _ => rfl) (by decide) (by decide) (by decide) (Nat.le_of_ble_eq_true rfl) (Nat.le_of_ble_eq_true rfl) dX5_init_33 (fun q_34 k_35 H hK1 hP1 hD1 hS => ?_)
  obtain ⟨rfl, -⟩ := lv_ad (k := 0) hK1 rfl
  clear hK1
  have hnq_34 := add_q hD1
  obtain ⟨S_36, eS_36⟩ : ∃ zq, zq = addO S_28 q_34 301 := ⟨_, rfl⟩
  have hP : va_P (dC, dI) vwCl (oW cq S_36) H := by rw [eS_36]; exact cP (onew hD1 (by rw [oE_ar (n := 1) add_K (by decide), add_I])) hP1
  have hD : va_D A (oW cq S_36) := by rw [eS_36]; exact cD (onew hD1 (by rw [oE_ar (n := 1) add_K (by decide), add_I])) hD1
  clear hP1 hD1
  have hIS_36 : oInv S_36 := by rw [eS_36]; exact oInv.add hIS_28 hnq_34 (by decide)
  have XS_36 : oX [] S_28 S_36 := by rw [eS_36]; exact oX.add hnq_34
  have nzq_34 : q_34 ∉ oL Z := oXc.nin X_33 hnq_34
  have pk_37 : oP S_36 o 0 = some q_1 := by rw [eS_36, add_Pn hnq_34 (oX.ty XS_28 t_25).1]; exact pk_29
  have pk_38 : oP S_36 o 1 = some q_12 := by rw [eS_36, add_Pn hnq_34 (oX.ty XS_28 t_25).1]; exact pk_30
  have ik_39 : oI S_36 o 2 = 0 := by rw [eS_36, add_In hnq_34 (oX.ty XS_28 t_25).1]; exact ik_31
  have sr_40 : oP S_36 o 1 = some q_12 := by rw [eS_36, add_Pn hnq_34 (oX.ty XS_28 t_25).1]; exact sr_32
  have X_41 : oXc [5001] o Z S_36 := oXc.st X_33 XS_36 (by decide)
  have tq_34 : oty S_36 q_34 301 := by rw [eS_36]; exact add_ty
  refine W.widen (k := 4) (n := 41) (Nat.le_of_ble_eq_true rfl) (Nat.le_of_ble_eq_true rfl) ?_
  refine lv_dup hx hb dX5_init_35 rfl ?_
  refine lv_iconst (v := 0) hx hb dX5_init_36 (by decide) ?_
  refine lv_iconst (v := 1) hx hb dX5_init_37 (by decide) ?_
  obtain ⟨q_42, hq_42⟩ := og (cq := cq) tq_34.1 (oE_ar (n := 1) tq_34.2 (by decide))
  refine va_iast hx hb hK hP hD hS q_42 0 hq_42 rfl (by unfold vp_in; decide) dX5_init_38 (fun H locs hP1 hD1 hS => ?_)
  obtain ⟨S_43, eS_43⟩ : ∃ zq, zq = setI S_36 q_34 (0 : Int32).toNatClampNeg 1 := ⟨_, rfl⟩
  have hP : va_P (dC, dI) vwCl (oW cq S_43) H := by rw [eS_43]; exact cP (oset tq_34.1 hq_42 hD rfl (he_ar (n := 1) tq_34.2 (by decide)) neI) hP1
  have hD : va_D A (oW cq S_43) := by rw [eS_43]; exact cD (oset tq_34.1 hq_42 hD rfl (he_ar (n := 1) tq_34.2 (by decide)) neI) hD1
  clear hP1 hD1
  have hIS_43 : oInv S_43 := by rw [eS_43]; exact oInv.A (k := 301) hIS_36 tq_34.2 (by decide)
  have XS_43 : oX [5000] S_36 S_43 := by rw [eS_43]; exact oX.I (k := 301) (key := 5000) tq_34.2 (wk_ar (n := 1) (by decide)) (List.mem_singleton.mpr rfl)
  have pk_44 : oP S_43 o 0 = some q_1 := by rw [eS_43]; exact pk_37
  have pk_45 : oP S_43 o 1 = some q_12 := by rw [eS_43]; exact pk_38
  have ik_46 : oI S_43 o 2 = 0 := by rw [eS_43, setI_oth (ty_ne (oX.ty XS_36 (oX.ty XS_28 t_25)) tq_34 (by decide))]; exact ik_39
  have X_47 : oXc [5001] o Z S_43 := by rw [eS_43]; exact oXc.In X_41 nzq_34
  have t_48 : oty S_43 q_27 30 := (oX.ty XS_43 (oX.ty XS_36 tq_27))
  have t_49 : oty S_43 q_34 301 := (oX.ty XS_43 tq_34)
  have hFc := o_free hD hS hA
  refine va_callv (va_runI (As := [.int 0, .int (-1), .ref q_34]) (rest := [.ref q_27, .int 0, .ref q_12]) ⟨hx, hb, hml, hown, hts⟩ (c_X0_init l dC dI H.size tL tS tG cq S_43 hIS_43 q_27 t_48 0 (-1) 1 (by decide) q_34 t_49) (cwI 3 hts gX5_init_X0_init rfl rfl rfl (hts (.initialized RX0) iw_X5_init_7) (hts (.methodLink RX5 20 yX0_init) iw_X5_init_9) (hts (.instanceMethod yX0_init) iw_X5_init_10) rfl (by decide +kernel) ⟨(Nat.le_of_ble_eq_true rfl), (Nat.le_of_ble_eq_true rfl)⟩) (pr_SO hP hK hD (hZ.go hS hFc)) rfl rfl hl.1 rfl (lv_room (Nat.le_of_ble_eq_true rfl)) dX5_init_39 ⟨(Nat.le_of_ble_eq_true rfl), (Nat.le_of_ble_eq_true rfl)⟩) hS (fun q _ h => hFc q h) hFc (fun u t H locs ht hvm w_50 hB hz1 hk1 hS => ?_)
  obtain ⟨S_52, rfl⟩ : ∃ z, z = u := ⟨_, rfl⟩
  obtain ⟨hP1, hK1, hD1⟩ := hB
  rw [ht] at hP1
  have hP : va_P (dC, dI) vwCl (oW cq S_52) H := hP1
  have hD : va_D A (oW cq S_52) := hD1.weaken (fun _ _ _ h => hFc _ h)
  clear hP1 hK1 hD1 hk1 hz1 hvm ht hFc
  refine W.widen (k := 6) (n := 110) (Nat.le_of_ble_eq_true rfl) (Nat.le_of_ble_eq_true rfl) ?_
  obtain ⟨hIS_52, XS_52, hx_53⟩ := w_50
  have hxS_52 := hx_53
  have X_54 : oXc [5001] o Z S_52 := oXc.c X_47 XS_52 nzq_27 (by decide)
  have pk_55 : oP S_52 o 0 = some q_1 := by rw [oXc.p XS_52 (ty_ne (oX.ty XS_43 (oX.ty XS_36 (oX.ty XS_28 t_25))) t_48 (by decide)) (oX.ty XS_43 (oX.ty XS_36 (oX.ty XS_28 t_25))) (by decide)]; exact pk_44
  have pk_56 : oP S_52 o 1 = some q_12 := by rw [oXc.p XS_52 (ty_ne (oX.ty XS_43 (oX.ty XS_36 (oX.ty XS_28 t_25))) t_48 (by decide)) (oX.ty XS_43 (oX.ty XS_36 (oX.ty XS_28 t_25))) (by decide)]; exact pk_45
  have ik_57 : oI S_52 o 2 = 0 := by rw [oXc.i XS_52 (ty_ne (oX.ty XS_43 (oX.ty XS_36 (oX.ty XS_28 t_25))) t_48 (by decide)) (oX.ty XS_43 (oX.ty XS_36 (oX.ty XS_28 t_25))) (by decide)]; exact ik_46
  have t_58 : oty S_52 q_12 13 := (oXc.ty XS_52 (ty_ne (oX.ty XS_43 (oX.ty XS_36 (oX.ty XS_28 (oX.ty XS_20 tq_12)))) t_48 (by decide)) (oX.ty XS_43 (oX.ty XS_36 (oX.ty XS_28 (oX.ty XS_20 tq_12)))))
  obtain ⟨q_59, hq_59⟩ := og (cq := cq) t_58.1 (oE_13 t_58.2)
  obtain ⟨q_60, hq_60⟩ := og (cq := cq) hxS_52.1 (oE_0 hxS_52.2)
  refine va_astq (r := (RX0, TX0, 5)) hx hb hK hP hD hS q_59 2 q_60 0 hq_59 rfl hq_60 rfl (by unfold vp_in; decide) dX5_init_42 (fun H locs hP1 hD1 hS => ?_)
  obtain ⟨S_61, eS_61⟩ : ∃ zq, zq = setP S_52 q_12 (0 : Int32).toNatClampNeg (some q_27) := ⟨_, rfl⟩
  have hP : va_P (dC, dI) vwCl (oW cq S_61) H := by rw [eS_61]; exact cP (oset t_58.1 hq_59 hD rfl (he_13 t_58.2) neP) hP1
  have hD : va_D A (oW cq S_61) := by rw [eS_61]; exact cD (oset t_58.1 hq_59 hD rfl (he_13 t_58.2) neP) hD1
  clear hP1 hD1
  have hIS_61 : oInv S_61 := by rw [eS_61]; exact oInv.P (k := 13) hIS_52 t_58.2 (by decide) rfl (fun h => absurd h.1 (by decide)) hxS_52 (show 0 ≤ 0 ∧ 0 ≤ 0 from ⟨Nat.le_refl _, Nat.le_refl _⟩)
  have XS_61 : oX [2013] S_52 S_61 := by rw [eS_61]; exact oX.P (k := 13) (key := 2013) t_58.2 rfl (List.mem_singleton.mpr rfl)
  have pk_62 : oP S_61 o 0 = some q_1 := by rw [eS_61, setP_oth (ty_ne (oXc.ty XS_52 (ty_ne (oX.ty XS_43 (oX.ty XS_36 (oX.ty XS_28 t_25))) t_48 (by decide)) (oX.ty XS_43 (oX.ty XS_36 (oX.ty XS_28 t_25)))) t_58 (by decide))]; exact pk_55
  have pk_63 : oP S_61 o 1 = some q_12 := by rw [eS_61, setP_oth (ty_ne (oXc.ty XS_52 (ty_ne (oX.ty XS_43 (oX.ty XS_36 (oX.ty XS_28 t_25))) t_48 (by decide)) (oX.ty XS_43 (oX.ty XS_36 (oX.ty XS_28 t_25)))) t_58 (by decide))]; exact pk_56
  have ik_64 : oI S_61 o 2 = 0 := by rw [eS_61]; exact ik_57
  have X_65 : oXc [5001] o Z S_61 := by rw [eS_61]; exact oXc.Pn X_54 nzq_12
  have pk_66 : oP S_61 q_12 0 = some q_27 := by rw [eS_61]; exact setP_same
  refine lv_aload_n hx hb dX5_init_43 rfl (lv_at hl 0 rfl) ?_
  have t_67 : oty S_61 o 35 := (oX.ty XS_61 (oXc.ty XS_52 (ty_ne (oX.ty XS_43 (oX.ty XS_36 (oX.ty XS_28 t_25))) t_48 (by decide)) (oX.ty XS_43 (oX.ty XS_36 (oX.ty XS_28 t_25)))))
  obtain ⟨q_68, hq_68⟩ := og (cq := cq) t_67.1 (oE_35 t_67.2)
  refine va_get (D := (dC, dI)) (ci := 5) (v := .ref q_12) (C := RX5) (T := TX5) (N := 3) hx hb hts in_wsX5_init_X5 hown hK hP q_68 hq_68 rfl 1 (by decide) (hts (.fieldLink RX5 17 "ShipOffice$Law" "customs" "[LShipOffice$Act;") iw_X5_init_5) (fun _ h9 => h9) (o_rd pk_63) dX5_init_44 ?_
  refine lv_iconst (v := 1) hx hb dX5_init_47 (by decide) ?_
  refine va_new (ci := 0) (fs := [.int 0, .int 0, .int 0, .null, .null]) (C := RX0) (T := TX0) (N := 5) hx hb hts in_wsX5_init_X0 tyX0 tyX0_ok hown (hts (.classLink RX5 9 RX0) iw_X5_init_3) (hts (.instantiable RX0 5) iw_X5_init_6) (hts (.initialized RX0) iw_X5_init_7) hK hP hD hS hA rfl (fun j hj => by rcases (show j = 0 ∨ j = 1 ∨ j = 2 ∨ j = 3 ∨ j = 4 by omega) with rfl | rfl | rfl | rfl | rfl <;> rfl) (Nat.le_of_ble_eq_true rfl) (Nat.le_of_ble_eq_true rfl) dX5_init_48 (fun q_69 H hP1 hD1 hS => ?_)
  have hnq_69 := add_q hD1
  obtain ⟨S_70, eS_70⟩ : ∃ zq, zq = addO S_61 q_69 30 := ⟨_, rfl⟩
  have hP : va_P (dC, dI) vwCl (oW cq S_70) H := by rw [eS_70]; exact cP (onew hD1 (by rw [oE_30 add_K, add_I, add_P]; rfl)) hP1
  have hD : va_D A (oW cq S_70) := by rw [eS_70]; exact cD (onew hD1 (by rw [oE_30 add_K, add_I, add_P]; rfl)) hD1
  clear hP1 hD1
  have hIS_70 : oInv S_70 := by rw [eS_70]; exact oInv.add hIS_61 hnq_69 (by decide)
  have XS_70 : oX [] S_61 S_70 := by rw [eS_70]; exact oX.add hnq_69
  have nzq_69 : q_69 ∉ oL Z := oXc.nin X_65 hnq_69
  have pk_71 : oP S_70 o 0 = some q_1 := by rw [eS_70, add_Pn hnq_69 t_67.1]; exact pk_62
  have pk_72 : oP S_70 o 1 = some q_12 := by rw [eS_70, add_Pn hnq_69 t_67.1]; exact pk_63
  have pk_73 : oP S_70 q_12 0 = some q_27 := by rw [eS_70, add_Pn hnq_69 (oX.ty XS_61 t_58).1]; exact pk_66
  have ik_74 : oI S_70 o 2 = 0 := by rw [eS_70, add_In hnq_69 t_67.1]; exact ik_64
  have sr_75 : oP S_70 o 1 = some q_12 := by rw [eS_70, add_Pn hnq_69 t_67.1]; exact pk_63
  have X_76 : oXc [5001] o Z S_70 := oXc.st X_65 XS_70 (by decide)
  have tq_69 : oty S_70 q_69 30 := by rw [eS_70]; exact add_ty
  refine W.widen (k := 7) (n := 115) (Nat.le_of_ble_eq_true rfl) (Nat.le_of_ble_eq_true rfl) ?_
  refine lv_dup hx hb dX5_init_51 rfl ?_
  refine lv_iconst (v := 1) hx hb dX5_init_52 (by decide) ?_
  refine lv_iconst (v := (-1)) hx hb dX5_init_53 (by decide) ?_
  refine lv_iconst (v := 1) hx hb dX5_init_54 (by decide) ?_
  refine va_newa (atype := .int) (ty := .int) (a0 := (1, .inl (fun _ => 0))) hx hb (hts (.arrayClass .int) iw_X5_init_8) rfl hK hP hD hS hA (fun _ => rfl) (by decide) (by decide) (by decide) (Nat.le_of_ble_eq_true rfl) (Nat.le_of_ble_eq_true rfl) dX5_init_55 (fun q_77 k_78 H hK1 hP1 hD1 hS => ?_)
  obtain ⟨rfl, -⟩ := lv_ad (k := 0) hK1 rfl
  clear hK1
  have hnq_77 := add_q hD1
  obtain ⟨S_79, eS_79⟩ : ∃ zq, zq = addO S_70 q_77 301 := ⟨_, rfl⟩
  have hP : va_P (dC, dI) vwCl (oW cq S_79) H := by rw [eS_79]; exact cP (onew hD1 (by rw [oE_ar (n := 1) add_K (by decide), add_I])) hP1
  have hD : va_D A (oW cq S_79) := by rw [eS_79]; exact cD (onew hD1 (by rw [oE_ar (n := 1) add_K (by decide), add_I])) hD1
  clear hP1 hD1
  have hIS_79 : oInv S_79 := by rw [eS_79]; exact oInv.add hIS_70 hnq_77 (by decide)
  have XS_79 : oX [] S_70 S_79 := by rw [eS_79]; exact oX.add hnq_77
  have nzq_77 : q_77 ∉ oL Z := oXc.nin X_76 hnq_77
  have pk_80 : oP S_79 o 0 = some q_1 := by rw [eS_79, add_Pn hnq_77 (oX.ty XS_70 t_67).1]; exact pk_71
  have pk_81 : oP S_79 o 1 = some q_12 := by rw [eS_79, add_Pn hnq_77 (oX.ty XS_70 t_67).1]; exact pk_72
  have pk_82 : oP S_79 q_12 0 = some q_27 := by rw [eS_79, add_Pn hnq_77 (oX.ty XS_70 (oX.ty XS_61 t_58)).1]; exact pk_73
  have ik_83 : oI S_79 o 2 = 0 := by rw [eS_79, add_In hnq_77 (oX.ty XS_70 t_67).1]; exact ik_74
  have sr_84 : oP S_79 o 1 = some q_12 := by rw [eS_79, add_Pn hnq_77 (oX.ty XS_70 t_67).1]; exact sr_75
  have X_85 : oXc [5001] o Z S_79 := oXc.st X_76 XS_79 (by decide)
  have tq_77 : oty S_79 q_77 301 := by rw [eS_79]; exact add_ty
  refine W.widen (k := 8) (n := 116) (Nat.le_of_ble_eq_true rfl) (Nat.le_of_ble_eq_true rfl) ?_
  refine lv_dup hx hb dX5_init_57 rfl ?_
  refine lv_iconst (v := 0) hx hb dX5_init_58 (by decide) ?_
  refine lv_bipush (v := (-6)) hx hb dX5_init_59 (by decide) ?_
  obtain ⟨q_86, hq_86⟩ := og (cq := cq) tq_77.1 (oE_ar (n := 1) tq_77.2 (by decide))
  refine va_iast hx hb hK hP hD hS q_86 0 hq_86 rfl (by unfold vp_in; decide) dX5_init_61 (fun H locs hP1 hD1 hS => ?_)
  obtain ⟨S_87, eS_87⟩ : ∃ zq, zq = setI S_79 q_77 (0 : Int32).toNatClampNeg (-6) := ⟨_, rfl⟩
  have hP : va_P (dC, dI) vwCl (oW cq S_87) H := by rw [eS_87]; exact cP (oset tq_77.1 hq_86 hD rfl (he_ar (n := 1) tq_77.2 (by decide)) neI) hP1
  have hD : va_D A (oW cq S_87) := by rw [eS_87]; exact cD (oset tq_77.1 hq_86 hD rfl (he_ar (n := 1) tq_77.2 (by decide)) neI) hD1
  clear hP1 hD1
  have hIS_87 : oInv S_87 := by rw [eS_87]; exact oInv.A (k := 301) hIS_79 tq_77.2 (by decide)
  have XS_87 : oX [5000] S_79 S_87 := by rw [eS_87]; exact oX.I (k := 301) (key := 5000) tq_77.2 (wk_ar (n := 1) (by decide)) (List.mem_singleton.mpr rfl)
  have pk_88 : oP S_87 o 0 = some q_1 := by rw [eS_87]; exact pk_80
  have pk_89 : oP S_87 o 1 = some q_12 := by rw [eS_87]; exact pk_81
  have pk_90 : oP S_87 q_12 0 = some q_27 := by rw [eS_87]; exact pk_82
  have ik_91 : oI S_87 o 2 = 0 := by rw [eS_87, setI_oth (ty_ne (oX.ty XS_79 (oX.ty XS_70 t_67)) tq_77 (by decide))]; exact ik_83
  have X_92 : oXc [5001] o Z S_87 := by rw [eS_87]; exact oXc.In X_85 nzq_77
  have t_93 : oty S_87 q_69 30 := (oX.ty XS_87 (oX.ty XS_79 tq_69))
  have t_94 : oty S_87 q_77 301 := (oX.ty XS_87 tq_77)
  have hFc := o_free hD hS hA
  refine va_callv (va_runI (As := [.int 1, .int (-1), .ref q_77]) (rest := [.ref q_69, .int 1, .ref q_12]) ⟨hx, hb, hml, hown, hts⟩ (c_X0_init l dC dI H.size tL tS tG cq S_87 hIS_87 q_69 t_93 1 (-1) 1 (by decide) q_77 t_94) (cwI 3 hts gX5_init_X0_init rfl rfl rfl (hts (.initialized RX0) iw_X5_init_7) (hts (.methodLink RX5 20 yX0_init) iw_X5_init_9) (hts (.instanceMethod yX0_init) iw_X5_init_10) rfl (by decide +kernel) ⟨(Nat.le_of_ble_eq_true rfl), (Nat.le_of_ble_eq_true rfl)⟩) (pr_SO hP hK hD (hZ.go hS hFc)) rfl rfl hl.1 rfl (lv_room (Nat.le_of_ble_eq_true rfl)) dX5_init_62 ⟨(Nat.le_of_ble_eq_true rfl), (Nat.le_of_ble_eq_true rfl)⟩) hS (fun q _ h => hFc q h) hFc (fun u t H locs ht hvm w_95 hB hz1 hk1 hS => ?_)
  obtain ⟨S_97, rfl⟩ : ∃ z, z = u := ⟨_, rfl⟩
  obtain ⟨hP1, hK1, hD1⟩ := hB
  rw [ht] at hP1
  have hP : va_P (dC, dI) vwCl (oW cq S_97) H := hP1
  have hD : va_D A (oW cq S_97) := hD1.weaken (fun _ _ _ h => hFc _ h)
  clear hP1 hK1 hD1 hk1 hz1 hvm ht hFc
  refine W.widen (k := 10) (n := 185) (Nat.le_of_ble_eq_true rfl) (Nat.le_of_ble_eq_true rfl) ?_
  obtain ⟨hIS_97, XS_97, hx_98⟩ := w_95
  have hxS_97 := hx_98
  have X_99 : oXc [5001] o Z S_97 := oXc.c X_92 XS_97 nzq_69 (by decide)
  have pk_100 : oP S_97 o 0 = some q_1 := by rw [oXc.p XS_97 (ty_ne (oX.ty XS_87 (oX.ty XS_79 (oX.ty XS_70 t_67))) t_93 (by decide)) (oX.ty XS_87 (oX.ty XS_79 (oX.ty XS_70 t_67))) (by decide)]; exact pk_88
  have pk_101 : oP S_97 o 1 = some q_12 := by rw [oXc.p XS_97 (ty_ne (oX.ty XS_87 (oX.ty XS_79 (oX.ty XS_70 t_67))) t_93 (by decide)) (oX.ty XS_87 (oX.ty XS_79 (oX.ty XS_70 t_67))) (by decide)]; exact pk_89
  have pk_102 : oP S_97 q_12 0 = some q_27 := by rw [oXc.p XS_97 (ty_ne (oX.ty XS_87 (oX.ty XS_79 (oX.ty XS_70 (oX.ty XS_61 t_58)))) t_93 (by decide)) (oX.ty XS_87 (oX.ty XS_79 (oX.ty XS_70 (oX.ty XS_61 t_58)))) (by decide)]; exact pk_90
  have ik_103 : oI S_97 o 2 = 0 := by rw [oXc.i XS_97 (ty_ne (oX.ty XS_87 (oX.ty XS_79 (oX.ty XS_70 t_67))) t_93 (by decide)) (oX.ty XS_87 (oX.ty XS_79 (oX.ty XS_70 t_67))) (by decide)]; exact ik_91
  have t_104 : oty S_97 q_12 13 := (oXc.ty XS_97 (ty_ne (oX.ty XS_87 (oX.ty XS_79 (oX.ty XS_70 (oX.ty XS_61 t_58)))) t_93 (by decide)) (oX.ty XS_87 (oX.ty XS_79 (oX.ty XS_70 (oX.ty XS_61 t_58)))))
  obtain ⟨q_105, hq_105⟩ := og (cq := cq) t_104.1 (oE_13 t_104.2)
  obtain ⟨q_106, hq_106⟩ := og (cq := cq) hxS_97.1 (oE_0 hxS_97.2)
  refine va_astq (r := (RX0, TX0, 5)) hx hb hK hP hD hS q_105 2 q_106 0 hq_105 rfl hq_106 rfl (by unfold vp_in; decide) dX5_init_65 (fun H locs hP1 hD1 hS => ?_)
  obtain ⟨S_107, eS_107⟩ : ∃ zq, zq = setP S_97 q_12 (1 : Int32).toNatClampNeg (some q_69) := ⟨_, rfl⟩
  have hP : va_P (dC, dI) vwCl (oW cq S_107) H := by rw [eS_107]; exact cP (oset t_104.1 hq_105 hD rfl (he_13 t_104.2) neP) hP1
  have hD : va_D A (oW cq S_107) := by rw [eS_107]; exact cD (oset t_104.1 hq_105 hD rfl (he_13 t_104.2) neP) hD1
  clear hP1 hD1
  have hIS_107 : oInv S_107 := by rw [eS_107]; exact oInv.P (k := 13) hIS_97 t_104.2 (by decide) rfl (fun h => absurd h.1 (by decide)) hxS_97 (show 0 ≤ 0 ∧ 0 ≤ 0 from ⟨Nat.le_refl _, Nat.le_refl _⟩)
  have XS_107 : oX [2013] S_97 S_107 := by rw [eS_107]; exact oX.P (k := 13) (key := 2013) t_104.2 rfl (List.mem_singleton.mpr rfl)
  have pk_108 : oP S_107 o 0 = some q_1 := by rw [eS_107, setP_oth (ty_ne (oXc.ty XS_97 (ty_ne (oX.ty XS_87 (oX.ty XS_79 (oX.ty XS_70 t_67))) t_93 (by decide)) (oX.ty XS_87 (oX.ty XS_79 (oX.ty XS_70 t_67)))) t_104 (by decide))]; exact pk_100
  have pk_109 : oP S_107 o 1 = some q_12 := by rw [eS_107, setP_oth (ty_ne (oXc.ty XS_97 (ty_ne (oX.ty XS_87 (oX.ty XS_79 (oX.ty XS_70 t_67))) t_93 (by decide)) (oX.ty XS_87 (oX.ty XS_79 (oX.ty XS_70 t_67)))) t_104 (by decide))]; exact pk_101
  have pk_110 : oP S_107 q_12 0 = some q_27 := by rw [eS_107, setP_ne (by decide)]; exact pk_102
  have ik_111 : oI S_107 o 2 = 0 := by rw [eS_107]; exact ik_103
  have X_112 : oXc [5001] o Z S_107 := by rw [eS_107]; exact oXc.Pn X_99 nzq_12
  have pk_113 : oP S_107 q_12 1 = some q_69 := by rw [eS_107]; exact setP_same
  refine lv_aload_n hx hb dX5_init_66 rfl (lv_at hl 0 rfl) ?_
  have t_114 : oty S_107 o 35 := (oX.ty XS_107 (oXc.ty XS_97 (ty_ne (oX.ty XS_87 (oX.ty XS_79 (oX.ty XS_70 t_67))) t_93 (by decide)) (oX.ty XS_87 (oX.ty XS_79 (oX.ty XS_70 t_67)))))
  obtain ⟨q_115, hq_115⟩ := og (cq := cq) t_114.1 (oE_35 t_114.2)
  refine va_get (D := (dC, dI)) (ci := 5) (v := .ref q_12) (C := RX5) (T := TX5) (N := 3) hx hb hts in_wsX5_init_X5 hown hK hP q_115 hq_115 rfl 1 (by decide) (hts (.fieldLink RX5 17 "ShipOffice$Law" "customs" "[LShipOffice$Act;") iw_X5_init_5) (fun _ h9 => h9) (o_rd pk_109) dX5_init_67 ?_
  refine lv_iconst (v := 2) hx hb dX5_init_70 (by decide) ?_
  refine va_new (ci := 0) (fs := [.int 0, .int 0, .int 0, .null, .null]) (C := RX0) (T := TX0) (N := 5) hx hb hts in_wsX5_init_X0 tyX0 tyX0_ok hown (hts (.classLink RX5 9 RX0) iw_X5_init_3) (hts (.instantiable RX0 5) iw_X5_init_6) (hts (.initialized RX0) iw_X5_init_7) hK hP hD hS hA rfl (fun j hj => by rcases (show j = 0 ∨ j = 1 ∨ j = 2 ∨ j = 3 ∨ j = 4 by omega) with rfl | rfl | rfl | rfl | rfl <;> rfl) (Nat.le_of_ble_eq_true rfl) (Nat.le_of_ble_eq_true rfl) dX5_init_71 (fun q_116 H hP1 hD1 hS => ?_)
  have hnq_116 := add_q hD1
  obtain ⟨S_117, eS_117⟩ : ∃ zq, zq = addO S_107 q_116 30 := ⟨_, rfl⟩
  have hP : va_P (dC, dI) vwCl (oW cq S_117) H := by rw [eS_117]; exact cP (onew hD1 (by rw [oE_30 add_K, add_I, add_P]; rfl)) hP1
  have hD : va_D A (oW cq S_117) := by rw [eS_117]; exact cD (onew hD1 (by rw [oE_30 add_K, add_I, add_P]; rfl)) hD1
  clear hP1 hD1
  have hIS_117 : oInv S_117 := by rw [eS_117]; exact oInv.add hIS_107 hnq_116 (by decide)
  have XS_117 : oX [] S_107 S_117 := by rw [eS_117]; exact oX.add hnq_116
  have nzq_116 : q_116 ∉ oL Z := oXc.nin X_112 hnq_116
  have pk_118 : oP S_117 o 0 = some q_1 := by rw [eS_117, add_Pn hnq_116 t_114.1]; exact pk_108
  have pk_119 : oP S_117 o 1 = some q_12 := by rw [eS_117, add_Pn hnq_116 t_114.1]; exact pk_109
  have pk_120 : oP S_117 q_12 0 = some q_27 := by rw [eS_117, add_Pn hnq_116 (oX.ty XS_107 t_104).1]; exact pk_110
  have pk_121 : oP S_117 q_12 1 = some q_69 := by rw [eS_117, add_Pn hnq_116 (oX.ty XS_107 t_104).1]; exact pk_113
  have ik_122 : oI S_117 o 2 = 0 := by rw [eS_117, add_In hnq_116 t_114.1]; exact ik_111
  have sr_123 : oP S_117 o 1 = some q_12 := by rw [eS_117, add_Pn hnq_116 t_114.1]; exact pk_109
  have X_124 : oXc [5001] o Z S_117 := oXc.st X_112 XS_117 (by decide)
  have tq_116 : oty S_117 q_116 30 := by rw [eS_117]; exact add_ty
  refine W.widen (k := 11) (n := 190) (Nat.le_of_ble_eq_true rfl) (Nat.le_of_ble_eq_true rfl) ?_
  refine lv_dup hx hb dX5_init_74 rfl ?_
  refine lv_iconst (v := 2) hx hb dX5_init_75 (by decide) ?_
  refine lv_iconst (v := (-1)) hx hb dX5_init_76 (by decide) ?_
  refine lv_iconst (v := 1) hx hb dX5_init_77 (by decide) ?_
  refine va_newa (atype := .int) (ty := .int) (a0 := (1, .inl (fun _ => 0))) hx hb (hts (.arrayClass .int) iw_X5_init_8) rfl hK hP hD hS hA (fun _ => rfl) (by decide) (by decide) (by decide) (Nat.le_of_ble_eq_true rfl) (Nat.le_of_ble_eq_true rfl) dX5_init_78 (fun q_125 k_126 H hK1 hP1 hD1 hS => ?_)
  obtain ⟨rfl, -⟩ := lv_ad (k := 0) hK1 rfl
  clear hK1
  have hnq_125 := add_q hD1
  obtain ⟨S_127, eS_127⟩ : ∃ zq, zq = addO S_117 q_125 301 := ⟨_, rfl⟩
  have hP : va_P (dC, dI) vwCl (oW cq S_127) H := by rw [eS_127]; exact cP (onew hD1 (by rw [oE_ar (n := 1) add_K (by decide), add_I])) hP1
  have hD : va_D A (oW cq S_127) := by rw [eS_127]; exact cD (onew hD1 (by rw [oE_ar (n := 1) add_K (by decide), add_I])) hD1
  clear hP1 hD1
  have hIS_127 : oInv S_127 := by rw [eS_127]; exact oInv.add hIS_117 hnq_125 (by decide)
  have XS_127 : oX [] S_117 S_127 := by rw [eS_127]; exact oX.add hnq_125
  have nzq_125 : q_125 ∉ oL Z := oXc.nin X_124 hnq_125
  have pk_128 : oP S_127 o 0 = some q_1 := by rw [eS_127, add_Pn hnq_125 (oX.ty XS_117 t_114).1]; exact pk_118
  have pk_129 : oP S_127 o 1 = some q_12 := by rw [eS_127, add_Pn hnq_125 (oX.ty XS_117 t_114).1]; exact pk_119
  have pk_130 : oP S_127 q_12 0 = some q_27 := by rw [eS_127, add_Pn hnq_125 (oX.ty XS_117 (oX.ty XS_107 t_104)).1]; exact pk_120
  have pk_131 : oP S_127 q_12 1 = some q_69 := by rw [eS_127, add_Pn hnq_125 (oX.ty XS_117 (oX.ty XS_107 t_104)).1]; exact pk_121
  have ik_132 : oI S_127 o 2 = 0 := by rw [eS_127, add_In hnq_125 (oX.ty XS_117 t_114).1]; exact ik_122
  have sr_133 : oP S_127 o 1 = some q_12 := by rw [eS_127, add_Pn hnq_125 (oX.ty XS_117 t_114).1]; exact sr_123
  have X_134 : oXc [5001] o Z S_127 := oXc.st X_124 XS_127 (by decide)
  have tq_125 : oty S_127 q_125 301 := by rw [eS_127]; exact add_ty
  refine W.widen (k := 12) (n := 191) (Nat.le_of_ble_eq_true rfl) (Nat.le_of_ble_eq_true rfl) ?_
  refine lv_dup hx hb dX5_init_80 rfl ?_
  refine lv_iconst (v := 0) hx hb dX5_init_81 (by decide) ?_
  refine lv_bipush (v := 100) hx hb dX5_init_82 (by decide) ?_
  obtain ⟨q_135, hq_135⟩ := og (cq := cq) tq_125.1 (oE_ar (n := 1) tq_125.2 (by decide))
  refine va_iast hx hb hK hP hD hS q_135 0 hq_135 rfl (by unfold vp_in; decide) dX5_init_84 (fun H locs hP1 hD1 hS => ?_)
  obtain ⟨S_136, eS_136⟩ : ∃ zq, zq = setI S_127 q_125 (0 : Int32).toNatClampNeg 100 := ⟨_, rfl⟩
  have hP : va_P (dC, dI) vwCl (oW cq S_136) H := by rw [eS_136]; exact cP (oset tq_125.1 hq_135 hD rfl (he_ar (n := 1) tq_125.2 (by decide)) neI) hP1
  have hD : va_D A (oW cq S_136) := by rw [eS_136]; exact cD (oset tq_125.1 hq_135 hD rfl (he_ar (n := 1) tq_125.2 (by decide)) neI) hD1
  clear hP1 hD1
  have hIS_136 : oInv S_136 := by rw [eS_136]; exact oInv.A (k := 301) hIS_127 tq_125.2 (by decide)
  have XS_136 : oX [5000] S_127 S_136 := by rw [eS_136]; exact oX.I (k := 301) (key := 5000) tq_125.2 (wk_ar (n := 1) (by decide)) (List.mem_singleton.mpr rfl)
  have pk_137 : oP S_136 o 0 = some q_1 := by rw [eS_136]; exact pk_128
  have pk_138 : oP S_136 o 1 = some q_12 := by rw [eS_136]; exact pk_129
  have pk_139 : oP S_136 q_12 0 = some q_27 := by rw [eS_136]; exact pk_130
  have pk_140 : oP S_136 q_12 1 = some q_69 := by rw [eS_136]; exact pk_131
  have ik_141 : oI S_136 o 2 = 0 := by rw [eS_136, setI_oth (ty_ne (oX.ty XS_127 (oX.ty XS_117 t_114)) tq_125 (by decide))]; exact ik_132
  have X_142 : oXc [5001] o Z S_136 := by rw [eS_136]; exact oXc.In X_134 nzq_125
  have t_143 : oty S_136 q_116 30 := (oX.ty XS_136 (oX.ty XS_127 tq_116))
  have t_144 : oty S_136 q_125 301 := (oX.ty XS_136 tq_125)
  have hFc := o_free hD hS hA
  refine va_callv (va_runI (As := [.int 2, .int (-1), .ref q_125]) (rest := [.ref q_116, .int 2, .ref q_12]) ⟨hx, hb, hml, hown, hts⟩ (c_X0_init l dC dI H.size tL tS tG cq S_136 hIS_136 q_116 t_143 2 (-1) 1 (by decide) q_125 t_144) (cwI 3 hts gX5_init_X0_init rfl rfl rfl (hts (.initialized RX0) iw_X5_init_7) (hts (.methodLink RX5 20 yX0_init) iw_X5_init_9) (hts (.instanceMethod yX0_init) iw_X5_init_10) rfl (by decide +kernel) ⟨(Nat.le_of_ble_eq_true rfl), (Nat.le_of_ble_eq_true rfl)⟩) (pr_SO hP hK hD (hZ.go hS hFc)) rfl rfl hl.1 rfl (lv_room (Nat.le_of_ble_eq_true rfl)) dX5_init_85 ⟨(Nat.le_of_ble_eq_true rfl), (Nat.le_of_ble_eq_true rfl)⟩) hS (fun q _ h => hFc q h) hFc (fun u t H locs ht hvm w_145 hB hz1 hk1 hS => ?_)
  obtain ⟨S_147, rfl⟩ : ∃ z, z = u := ⟨_, rfl⟩
  obtain ⟨hP1, hK1, hD1⟩ := hB
  rw [ht] at hP1
  have hP : va_P (dC, dI) vwCl (oW cq S_147) H := hP1
  have hD : va_D A (oW cq S_147) := hD1.weaken (fun _ _ _ h => hFc _ h)
  clear hP1 hK1 hD1 hk1 hz1 hvm ht hFc
  refine W.widen (k := 14) (n := 260) (Nat.le_of_ble_eq_true rfl) (Nat.le_of_ble_eq_true rfl) ?_
  obtain ⟨hIS_147, XS_147, hx_148⟩ := w_145
  have hxS_147 := hx_148
  have X_149 : oXc [5001] o Z S_147 := oXc.c X_142 XS_147 nzq_116 (by decide)
  have pk_150 : oP S_147 o 0 = some q_1 := by rw [oXc.p XS_147 (ty_ne (oX.ty XS_136 (oX.ty XS_127 (oX.ty XS_117 t_114))) t_143 (by decide)) (oX.ty XS_136 (oX.ty XS_127 (oX.ty XS_117 t_114))) (by decide)]; exact pk_137
  have pk_151 : oP S_147 o 1 = some q_12 := by rw [oXc.p XS_147 (ty_ne (oX.ty XS_136 (oX.ty XS_127 (oX.ty XS_117 t_114))) t_143 (by decide)) (oX.ty XS_136 (oX.ty XS_127 (oX.ty XS_117 t_114))) (by decide)]; exact pk_138
  have pk_152 : oP S_147 q_12 0 = some q_27 := by rw [oXc.p XS_147 (ty_ne (oX.ty XS_136 (oX.ty XS_127 (oX.ty XS_117 (oX.ty XS_107 t_104)))) t_143 (by decide)) (oX.ty XS_136 (oX.ty XS_127 (oX.ty XS_117 (oX.ty XS_107 t_104)))) (by decide)]; exact pk_139
  have pk_153 : oP S_147 q_12 1 = some q_69 := by rw [oXc.p XS_147 (ty_ne (oX.ty XS_136 (oX.ty XS_127 (oX.ty XS_117 (oX.ty XS_107 t_104)))) t_143 (by decide)) (oX.ty XS_136 (oX.ty XS_127 (oX.ty XS_117 (oX.ty XS_107 t_104)))) (by decide)]; exact pk_140
  have ik_154 : oI S_147 o 2 = 0 := by rw [oXc.i XS_147 (ty_ne (oX.ty XS_136 (oX.ty XS_127 (oX.ty XS_117 t_114))) t_143 (by decide)) (oX.ty XS_136 (oX.ty XS_127 (oX.ty XS_117 t_114))) (by decide)]; exact ik_141
  have t_155 : oty S_147 q_12 13 := (oXc.ty XS_147 (ty_ne (oX.ty XS_136 (oX.ty XS_127 (oX.ty XS_117 (oX.ty XS_107 t_104)))) t_143 (by decide)) (oX.ty XS_136 (oX.ty XS_127 (oX.ty XS_117 (oX.ty XS_107 t_104)))))
  obtain ⟨q_156, hq_156⟩ := og (cq := cq) t_155.1 (oE_13 t_155.2)
  obtain ⟨q_157, hq_157⟩ := og (cq := cq) hxS_147.1 (oE_0 hxS_147.2)
  refine va_astq (r := (RX0, TX0, 5)) hx hb hK hP hD hS q_156 2 q_157 0 hq_156 rfl hq_157 rfl (by unfold vp_in; decide) dX5_init_88 (fun H locs hP1 hD1 hS => ?_)
  obtain ⟨S_158, eS_158⟩ : ∃ zq, zq = setP S_147 q_12 (2 : Int32).toNatClampNeg (some q_116) := ⟨_, rfl⟩
  have hP : va_P (dC, dI) vwCl (oW cq S_158) H := by rw [eS_158]; exact cP (oset t_155.1 hq_156 hD rfl (he_13 t_155.2) neP) hP1
  have hD : va_D A (oW cq S_158) := by rw [eS_158]; exact cD (oset t_155.1 hq_156 hD rfl (he_13 t_155.2) neP) hD1
  clear hP1 hD1
  have hIS_158 : oInv S_158 := by rw [eS_158]; exact oInv.P (k := 13) hIS_147 t_155.2 (by decide) rfl (fun h => absurd h.1 (by decide)) hxS_147 (show 0 ≤ 0 ∧ 0 ≤ 0 from ⟨Nat.le_refl _, Nat.le_refl _⟩)
  have XS_158 : oX [2013] S_147 S_158 := by rw [eS_158]; exact oX.P (k := 13) (key := 2013) t_155.2 rfl (List.mem_singleton.mpr rfl)
  have pk_159 : oP S_158 o 0 = some q_1 := by rw [eS_158, setP_oth (ty_ne (oXc.ty XS_147 (ty_ne (oX.ty XS_136 (oX.ty XS_127 (oX.ty XS_117 t_114))) t_143 (by decide)) (oX.ty XS_136 (oX.ty XS_127 (oX.ty XS_117 t_114)))) t_155 (by decide))]; exact pk_150
  have pk_160 : oP S_158 o 1 = some q_12 := by rw [eS_158, setP_oth (ty_ne (oXc.ty XS_147 (ty_ne (oX.ty XS_136 (oX.ty XS_127 (oX.ty XS_117 t_114))) t_143 (by decide)) (oX.ty XS_136 (oX.ty XS_127 (oX.ty XS_117 t_114)))) t_155 (by decide))]; exact pk_151
  have pk_161 : oP S_158 q_12 0 = some q_27 := by rw [eS_158, setP_ne (by decide)]; exact pk_152
  have pk_162 : oP S_158 q_12 1 = some q_69 := by rw [eS_158, setP_ne (by decide)]; exact pk_153
  have ik_163 : oI S_158 o 2 = 0 := by rw [eS_158]; exact ik_154
  have X_164 : oXc [5001] o Z S_158 := by rw [eS_158]; exact oXc.Pn X_149 nzq_12
  have pk_165 : oP S_158 q_12 2 = some q_116 := by rw [eS_158]; exact setP_same
  refine lv_aload_n hx hb dX5_init_89 rfl (lv_at hl 0 rfl) ?_
  have t_166 : oty S_158 o 35 := (oX.ty XS_158 (oXc.ty XS_147 (ty_ne (oX.ty XS_136 (oX.ty XS_127 (oX.ty XS_117 t_114))) t_143 (by decide)) (oX.ty XS_136 (oX.ty XS_127 (oX.ty XS_117 t_114)))))
  obtain ⟨q_167, hq_167⟩ := og (cq := cq) t_166.1 (oE_35 t_166.2)
  refine va_get (D := (dC, dI)) (ci := 5) (v := .ref q_12) (C := RX5) (T := TX5) (N := 3) hx hb hts in_wsX5_init_X5 hown hK hP q_167 hq_167 rfl 1 (by decide) (hts (.fieldLink RX5 17 "ShipOffice$Law" "customs" "[LShipOffice$Act;") iw_X5_init_5) (fun _ h9 => h9) (o_rd pk_160) dX5_init_90 ?_
  refine lv_iconst (v := 3) hx hb dX5_init_93 (by decide) ?_
  refine va_new (ci := 0) (fs := [.int 0, .int 0, .int 0, .null, .null]) (C := RX0) (T := TX0) (N := 5) hx hb hts in_wsX5_init_X0 tyX0 tyX0_ok hown (hts (.classLink RX5 9 RX0) iw_X5_init_3) (hts (.instantiable RX0 5) iw_X5_init_6) (hts (.initialized RX0) iw_X5_init_7) hK hP hD hS hA rfl (fun j hj => by rcases (show j = 0 ∨ j = 1 ∨ j = 2 ∨ j = 3 ∨ j = 4 by omega) with rfl | rfl | rfl | rfl | rfl <;> rfl) (Nat.le_of_ble_eq_true rfl) (Nat.le_of_ble_eq_true rfl) dX5_init_94 (fun q_168 H hP1 hD1 hS => ?_)
  have hnq_168 := add_q hD1
  obtain ⟨S_169, eS_169⟩ : ∃ zq, zq = addO S_158 q_168 30 := ⟨_, rfl⟩
  have hP : va_P (dC, dI) vwCl (oW cq S_169) H := by rw [eS_169]; exact cP (onew hD1 (by rw [oE_30 add_K, add_I, add_P]; rfl)) hP1
  have hD : va_D A (oW cq S_169) := by rw [eS_169]; exact cD (onew hD1 (by rw [oE_30 add_K, add_I, add_P]; rfl)) hD1
  clear hP1 hD1
  have hIS_169 : oInv S_169 := by rw [eS_169]; exact oInv.add hIS_158 hnq_168 (by decide)
  have XS_169 : oX [] S_158 S_169 := by rw [eS_169]; exact oX.add hnq_168
  have nzq_168 : q_168 ∉ oL Z := oXc.nin X_164 hnq_168
  have pk_170 : oP S_169 o 0 = some q_1 := by rw [eS_169, add_Pn hnq_168 t_166.1]; exact pk_159
  have pk_171 : oP S_169 o 1 = some q_12 := by rw [eS_169, add_Pn hnq_168 t_166.1]; exact pk_160
  have pk_172 : oP S_169 q_12 0 = some q_27 := by rw [eS_169, add_Pn hnq_168 (oX.ty XS_158 t_155).1]; exact pk_161
  have pk_173 : oP S_169 q_12 1 = some q_69 := by rw [eS_169, add_Pn hnq_168 (oX.ty XS_158 t_155).1]; exact pk_162
  have pk_174 : oP S_169 q_12 2 = some q_116 := by rw [eS_169, add_Pn hnq_168 (oX.ty XS_158 t_155).1]; exact pk_165
  have ik_175 : oI S_169 o 2 = 0 := by rw [eS_169, add_In hnq_168 t_166.1]; exact ik_163
  have sr_176 : oP S_169 o 1 = some q_12 := by rw [eS_169, add_Pn hnq_168 t_166.1]; exact pk_160
  have X_177 : oXc [5001] o Z S_169 := oXc.st X_164 XS_169 (by decide)
  have tq_168 : oty S_169 q_168 30 := by rw [eS_169]; exact add_ty
  refine W.widen (k := 15) (n := 265) (Nat.le_of_ble_eq_true rfl) (Nat.le_of_ble_eq_true rfl) ?_
  refine lv_dup hx hb dX5_init_97 rfl ?_
  refine lv_iconst (v := 3) hx hb dX5_init_98 (by decide) ?_
  refine lv_iconst (v := (-1)) hx hb dX5_init_99 (by decide) ?_
  refine lv_iconst (v := 1) hx hb dX5_init_100 (by decide) ?_
  refine va_newa (atype := .int) (ty := .int) (a0 := (1, .inl (fun _ => 0))) hx hb (hts (.arrayClass .int) iw_X5_init_8) rfl hK hP hD hS hA (fun _ => rfl) (by decide) (by decide) (by decide) (Nat.le_of_ble_eq_true rfl) (Nat.le_of_ble_eq_true rfl) dX5_init_101 (fun q_178 k_179 H hK1 hP1 hD1 hS => ?_)
  obtain ⟨rfl, -⟩ := lv_ad (k := 0) hK1 rfl
  clear hK1
  have hnq_178 := add_q hD1
  obtain ⟨S_180, eS_180⟩ : ∃ zq, zq = addO S_169 q_178 301 := ⟨_, rfl⟩
  have hP : va_P (dC, dI) vwCl (oW cq S_180) H := by rw [eS_180]; exact cP (onew hD1 (by rw [oE_ar (n := 1) add_K (by decide), add_I])) hP1
  have hD : va_D A (oW cq S_180) := by rw [eS_180]; exact cD (onew hD1 (by rw [oE_ar (n := 1) add_K (by decide), add_I])) hD1
  clear hP1 hD1
  have hIS_180 : oInv S_180 := by rw [eS_180]; exact oInv.add hIS_169 hnq_178 (by decide)
  have XS_180 : oX [] S_169 S_180 := by rw [eS_180]; exact oX.add hnq_178
  have nzq_178 : q_178 ∉ oL Z := oXc.nin X_177 hnq_178
  have pk_181 : oP S_180 o 0 = some q_1 := by rw [eS_180, add_Pn hnq_178 (oX.ty XS_169 t_166).1]; exact pk_170
  have pk_182 : oP S_180 o 1 = some q_12 := by rw [eS_180, add_Pn hnq_178 (oX.ty XS_169 t_166).1]; exact pk_171
  have pk_183 : oP S_180 q_12 0 = some q_27 := by rw [eS_180, add_Pn hnq_178 (oX.ty XS_169 (oX.ty XS_158 t_155)).1]; exact pk_172
  have pk_184 : oP S_180 q_12 1 = some q_69 := by rw [eS_180, add_Pn hnq_178 (oX.ty XS_169 (oX.ty XS_158 t_155)).1]; exact pk_173
  have pk_185 : oP S_180 q_12 2 = some q_116 := by rw [eS_180, add_Pn hnq_178 (oX.ty XS_169 (oX.ty XS_158 t_155)).1]; exact pk_174
  have ik_186 : oI S_180 o 2 = 0 := by rw [eS_180, add_In hnq_178 (oX.ty XS_169 t_166).1]; exact ik_175
  have sr_187 : oP S_180 o 1 = some q_12 := by rw [eS_180, add_Pn hnq_178 (oX.ty XS_169 t_166).1]; exact sr_176
  have X_188 : oXc [5001] o Z S_180 := oXc.st X_177 XS_180 (by decide)
  have tq_178 : oty S_180 q_178 301 := by rw [eS_180]; exact add_ty
  refine W.widen (k := 16) (n := 266) (Nat.le_of_ble_eq_true rfl) (Nat.le_of_ble_eq_true rfl) ?_
  refine lv_dup hx hb dX5_init_103 rfl ?_
  refine lv_iconst (v := 0) hx hb dX5_init_104 (by decide) ?_
  refine lv_bipush (v := 50) hx hb dX5_init_105 (by decide) ?_
  obtain ⟨q_189, hq_189⟩ := og (cq := cq) tq_178.1 (oE_ar (n := 1) tq_178.2 (by decide))
  refine va_iast hx hb hK hP hD hS q_189 0 hq_189 rfl (by unfold vp_in; decide) dX5_init_107 (fun H locs hP1 hD1 hS => ?_)
  obtain ⟨S_190, eS_190⟩ : ∃ zq, zq = setI S_180 q_178 (0 : Int32).toNatClampNeg 50 := ⟨_, rfl⟩
  have hP : va_P (dC, dI) vwCl (oW cq S_190) H := by rw [eS_190]; exact cP (oset tq_178.1 hq_189 hD rfl (he_ar (n := 1) tq_178.2 (by decide)) neI) hP1
  have hD : va_D A (oW cq S_190) := by rw [eS_190]; exact cD (oset tq_178.1 hq_189 hD rfl (he_ar (n := 1) tq_178.2 (by decide)) neI) hD1
  clear hP1 hD1
  have hIS_190 : oInv S_190 := by rw [eS_190]; exact oInv.A (k := 301) hIS_180 tq_178.2 (by decide)
  have XS_190 : oX [5000] S_180 S_190 := by rw [eS_190]; exact oX.I (k := 301) (key := 5000) tq_178.2 (wk_ar (n := 1) (by decide)) (List.mem_singleton.mpr rfl)
  have pk_191 : oP S_190 o 0 = some q_1 := by rw [eS_190]; exact pk_181
  have pk_192 : oP S_190 o 1 = some q_12 := by rw [eS_190]; exact pk_182
  have pk_193 : oP S_190 q_12 0 = some q_27 := by rw [eS_190]; exact pk_183
  have pk_194 : oP S_190 q_12 1 = some q_69 := by rw [eS_190]; exact pk_184
  have pk_195 : oP S_190 q_12 2 = some q_116 := by rw [eS_190]; exact pk_185
  have ik_196 : oI S_190 o 2 = 0 := by rw [eS_190, setI_oth (ty_ne (oX.ty XS_180 (oX.ty XS_169 t_166)) tq_178 (by decide))]; exact ik_186
  have X_197 : oXc [5001] o Z S_190 := by rw [eS_190]; exact oXc.In X_188 nzq_178
  have t_198 : oty S_190 q_168 30 := (oX.ty XS_190 (oX.ty XS_180 tq_168))
  have t_199 : oty S_190 q_178 301 := (oX.ty XS_190 tq_178)
  have hFc := o_free hD hS hA
  refine va_callv (va_runI (As := [.int 3, .int (-1), .ref q_178]) (rest := [.ref q_168, .int 3, .ref q_12]) ⟨hx, hb, hml, hown, hts⟩ (c_X0_init l dC dI H.size tL tS tG cq S_190 hIS_190 q_168 t_198 3 (-1) 1 (by decide) q_178 t_199) (cwI 3 hts gX5_init_X0_init rfl rfl rfl (hts (.initialized RX0) iw_X5_init_7) (hts (.methodLink RX5 20 yX0_init) iw_X5_init_9) (hts (.instanceMethod yX0_init) iw_X5_init_10) rfl (by decide +kernel) ⟨(Nat.le_of_ble_eq_true rfl), (Nat.le_of_ble_eq_true rfl)⟩) (pr_SO hP hK hD (hZ.go hS hFc)) rfl rfl hl.1 rfl (lv_room (Nat.le_of_ble_eq_true rfl)) dX5_init_108 ⟨(Nat.le_of_ble_eq_true rfl), (Nat.le_of_ble_eq_true rfl)⟩) hS (fun q _ h => hFc q h) hFc (fun u t H locs ht hvm w_200 hB hz1 hk1 hS => ?_)
  obtain ⟨S_202, rfl⟩ : ∃ z, z = u := ⟨_, rfl⟩
  obtain ⟨hP1, hK1, hD1⟩ := hB
  rw [ht] at hP1
  have hP : va_P (dC, dI) vwCl (oW cq S_202) H := hP1
  have hD : va_D A (oW cq S_202) := hD1.weaken (fun _ _ _ h => hFc _ h)
  clear hP1 hK1 hD1 hk1 hz1 hvm ht hFc
  refine W.widen (k := 18) (n := 335) (Nat.le_of_ble_eq_true rfl) (Nat.le_of_ble_eq_true rfl) ?_
  obtain ⟨hIS_202, XS_202, hx_203⟩ := w_200
  have hxS_202 := hx_203
  have X_204 : oXc [5001] o Z S_202 := oXc.c X_197 XS_202 nzq_168 (by decide)
  have pk_205 : oP S_202 o 0 = some q_1 := by rw [oXc.p XS_202 (ty_ne (oX.ty XS_190 (oX.ty XS_180 (oX.ty XS_169 t_166))) t_198 (by decide)) (oX.ty XS_190 (oX.ty XS_180 (oX.ty XS_169 t_166))) (by decide)]; exact pk_191
  have pk_206 : oP S_202 o 1 = some q_12 := by rw [oXc.p XS_202 (ty_ne (oX.ty XS_190 (oX.ty XS_180 (oX.ty XS_169 t_166))) t_198 (by decide)) (oX.ty XS_190 (oX.ty XS_180 (oX.ty XS_169 t_166))) (by decide)]; exact pk_192
  have pk_207 : oP S_202 q_12 0 = some q_27 := by rw [oXc.p XS_202 (ty_ne (oX.ty XS_190 (oX.ty XS_180 (oX.ty XS_169 (oX.ty XS_158 t_155)))) t_198 (by decide)) (oX.ty XS_190 (oX.ty XS_180 (oX.ty XS_169 (oX.ty XS_158 t_155)))) (by decide)]; exact pk_193
  have pk_208 : oP S_202 q_12 1 = some q_69 := by rw [oXc.p XS_202 (ty_ne (oX.ty XS_190 (oX.ty XS_180 (oX.ty XS_169 (oX.ty XS_158 t_155)))) t_198 (by decide)) (oX.ty XS_190 (oX.ty XS_180 (oX.ty XS_169 (oX.ty XS_158 t_155)))) (by decide)]; exact pk_194
  have pk_209 : oP S_202 q_12 2 = some q_116 := by rw [oXc.p XS_202 (ty_ne (oX.ty XS_190 (oX.ty XS_180 (oX.ty XS_169 (oX.ty XS_158 t_155)))) t_198 (by decide)) (oX.ty XS_190 (oX.ty XS_180 (oX.ty XS_169 (oX.ty XS_158 t_155)))) (by decide)]; exact pk_195
  have ik_210 : oI S_202 o 2 = 0 := by rw [oXc.i XS_202 (ty_ne (oX.ty XS_190 (oX.ty XS_180 (oX.ty XS_169 t_166))) t_198 (by decide)) (oX.ty XS_190 (oX.ty XS_180 (oX.ty XS_169 t_166))) (by decide)]; exact ik_196
  have t_211 : oty S_202 q_12 13 := (oXc.ty XS_202 (ty_ne (oX.ty XS_190 (oX.ty XS_180 (oX.ty XS_169 (oX.ty XS_158 t_155)))) t_198 (by decide)) (oX.ty XS_190 (oX.ty XS_180 (oX.ty XS_169 (oX.ty XS_158 t_155)))))
  obtain ⟨q_212, hq_212⟩ := og (cq := cq) t_211.1 (oE_13 t_211.2)
  obtain ⟨q_213, hq_213⟩ := og (cq := cq) hxS_202.1 (oE_0 hxS_202.2)
  refine va_astq (r := (RX0, TX0, 5)) hx hb hK hP hD hS q_212 2 q_213 0 hq_212 rfl hq_213 rfl (by unfold vp_in; decide) dX5_init_111 (fun H locs hP1 hD1 hS => ?_)
  obtain ⟨S_214, eS_214⟩ : ∃ zq, zq = setP S_202 q_12 (3 : Int32).toNatClampNeg (some q_168) := ⟨_, rfl⟩
  have hP : va_P (dC, dI) vwCl (oW cq S_214) H := by rw [eS_214]; exact cP (oset t_211.1 hq_212 hD rfl (he_13 t_211.2) neP) hP1
  have hD : va_D A (oW cq S_214) := by rw [eS_214]; exact cD (oset t_211.1 hq_212 hD rfl (he_13 t_211.2) neP) hD1
  clear hP1 hD1
  have hIS_214 : oInv S_214 := by rw [eS_214]; exact oInv.P (k := 13) hIS_202 t_211.2 (by decide) rfl (fun h => absurd h.1 (by decide)) hxS_202 (show 0 ≤ 0 ∧ 0 ≤ 0 from ⟨Nat.le_refl _, Nat.le_refl _⟩)
  have XS_214 : oX [2013] S_202 S_214 := by rw [eS_214]; exact oX.P (k := 13) (key := 2013) t_211.2 rfl (List.mem_singleton.mpr rfl)
  have pk_215 : oP S_214 o 0 = some q_1 := by rw [eS_214, setP_oth (ty_ne (oXc.ty XS_202 (ty_ne (oX.ty XS_190 (oX.ty XS_180 (oX.ty XS_169 t_166))) t_198 (by decide)) (oX.ty XS_190 (oX.ty XS_180 (oX.ty XS_169 t_166)))) t_211 (by decide))]; exact pk_205
  have pk_216 : oP S_214 o 1 = some q_12 := by rw [eS_214, setP_oth (ty_ne (oXc.ty XS_202 (ty_ne (oX.ty XS_190 (oX.ty XS_180 (oX.ty XS_169 t_166))) t_198 (by decide)) (oX.ty XS_190 (oX.ty XS_180 (oX.ty XS_169 t_166)))) t_211 (by decide))]; exact pk_206
  have pk_217 : oP S_214 q_12 0 = some q_27 := by rw [eS_214, setP_ne (by decide)]; exact pk_207
  have pk_218 : oP S_214 q_12 1 = some q_69 := by rw [eS_214, setP_ne (by decide)]; exact pk_208
  have pk_219 : oP S_214 q_12 2 = some q_116 := by rw [eS_214, setP_ne (by decide)]; exact pk_209
  have ik_220 : oI S_214 o 2 = 0 := by rw [eS_214]; exact ik_210
  have X_221 : oXc [5001] o Z S_214 := by rw [eS_214]; exact oXc.Pn X_204 nzq_12
  have pk_222 : oP S_214 q_12 3 = some q_168 := by rw [eS_214]; exact setP_same
  refine lv_aload_n hx hb dX5_init_112 rfl (lv_at hl 0 rfl) ?_
  have t_223 : oty S_214 o 35 := (oX.ty XS_214 (oXc.ty XS_202 (ty_ne (oX.ty XS_190 (oX.ty XS_180 (oX.ty XS_169 t_166))) t_198 (by decide)) (oX.ty XS_190 (oX.ty XS_180 (oX.ty XS_169 t_166)))))
  obtain ⟨q_224, hq_224⟩ := og (cq := cq) t_223.1 (oE_35 t_223.2)
  refine va_get (D := (dC, dI)) (ci := 5) (v := .ref q_12) (C := RX5) (T := TX5) (N := 3) hx hb hts in_wsX5_init_X5 hown hK hP q_224 hq_224 rfl 1 (by decide) (hts (.fieldLink RX5 17 "ShipOffice$Law" "customs" "[LShipOffice$Act;") iw_X5_init_5) (fun _ h9 => h9) (o_rd pk_216) dX5_init_113 ?_
  refine lv_iconst (v := 4) hx hb dX5_init_116 (by decide) ?_
  refine va_new (ci := 0) (fs := [.int 0, .int 0, .int 0, .null, .null]) (C := RX0) (T := TX0) (N := 5) hx hb hts in_wsX5_init_X0 tyX0 tyX0_ok hown (hts (.classLink RX5 9 RX0) iw_X5_init_3) (hts (.instantiable RX0 5) iw_X5_init_6) (hts (.initialized RX0) iw_X5_init_7) hK hP hD hS hA rfl (fun j hj => by rcases (show j = 0 ∨ j = 1 ∨ j = 2 ∨ j = 3 ∨ j = 4 by omega) with rfl | rfl | rfl | rfl | rfl <;> rfl) (Nat.le_of_ble_eq_true rfl) (Nat.le_of_ble_eq_true rfl) dX5_init_117 (fun q_225 H hP1 hD1 hS => ?_)
  have hnq_225 := add_q hD1
  obtain ⟨S_226, eS_226⟩ : ∃ zq, zq = addO S_214 q_225 30 := ⟨_, rfl⟩
  have hP : va_P (dC, dI) vwCl (oW cq S_226) H := by rw [eS_226]; exact cP (onew hD1 (by rw [oE_30 add_K, add_I, add_P]; rfl)) hP1
  have hD : va_D A (oW cq S_226) := by rw [eS_226]; exact cD (onew hD1 (by rw [oE_30 add_K, add_I, add_P]; rfl)) hD1
  clear hP1 hD1
  have hIS_226 : oInv S_226 := by rw [eS_226]; exact oInv.add hIS_214 hnq_225 (by decide)
  have XS_226 : oX [] S_214 S_226 := by rw [eS_226]; exact oX.add hnq_225
  have nzq_225 : q_225 ∉ oL Z := oXc.nin X_221 hnq_225
  have pk_227 : oP S_226 o 0 = some q_1 := by rw [eS_226, add_Pn hnq_225 t_223.1]; exact pk_215
  have pk_228 : oP S_226 o 1 = some q_12 := by rw [eS_226, add_Pn hnq_225 t_223.1]; exact pk_216
  have pk_229 : oP S_226 q_12 0 = some q_27 := by rw [eS_226, add_Pn hnq_225 (oX.ty XS_214 t_211).1]; exact pk_217
  have pk_230 : oP S_226 q_12 1 = some q_69 := by rw [eS_226, add_Pn hnq_225 (oX.ty XS_214 t_211).1]; exact pk_218
  have pk_231 : oP S_226 q_12 2 = some q_116 := by rw [eS_226, add_Pn hnq_225 (oX.ty XS_214 t_211).1]; exact pk_219
  have pk_232 : oP S_226 q_12 3 = some q_168 := by rw [eS_226, add_Pn hnq_225 (oX.ty XS_214 t_211).1]; exact pk_222
  have ik_233 : oI S_226 o 2 = 0 := by rw [eS_226, add_In hnq_225 t_223.1]; exact ik_220
  have sr_234 : oP S_226 o 1 = some q_12 := by rw [eS_226, add_Pn hnq_225 t_223.1]; exact pk_216
  have X_235 : oXc [5001] o Z S_226 := oXc.st X_221 XS_226 (by decide)
  have tq_225 : oty S_226 q_225 30 := by rw [eS_226]; exact add_ty
  refine W.widen (k := 19) (n := 340) (Nat.le_of_ble_eq_true rfl) (Nat.le_of_ble_eq_true rfl) ?_
  refine lv_dup hx hb dX5_init_120 rfl ?_
  refine lv_iconst (v := 4) hx hb dX5_init_121 (by decide) ?_
  refine lv_iconst (v := (-1)) hx hb dX5_init_122 (by decide) ?_
  refine lv_iconst (v := 1) hx hb dX5_init_123 (by decide) ?_
  refine va_newa (atype := .int) (ty := .int) (a0 := (1, .inl (fun _ => 0))) hx hb (hts (.arrayClass .int) iw_X5_init_8) rfl hK hP hD hS hA (fun _ => rfl) (by decide) (by decide) (by decide) (Nat.le_of_ble_eq_true rfl) (Nat.le_of_ble_eq_true rfl) dX5_init_124 (fun q_236 k_237 H hK1 hP1 hD1 hS => ?_)
  obtain ⟨rfl, -⟩ := lv_ad (k := 0) hK1 rfl
  clear hK1
  have hnq_236 := add_q hD1
  obtain ⟨S_238, eS_238⟩ : ∃ zq, zq = addO S_226 q_236 301 := ⟨_, rfl⟩
  have hP : va_P (dC, dI) vwCl (oW cq S_238) H := by rw [eS_238]; exact cP (onew hD1 (by rw [oE_ar (n := 1) add_K (by decide), add_I])) hP1
  have hD : va_D A (oW cq S_238) := by rw [eS_238]; exact cD (onew hD1 (by rw [oE_ar (n := 1) add_K (by decide), add_I])) hD1
  clear hP1 hD1
  have hIS_238 : oInv S_238 := by rw [eS_238]; exact oInv.add hIS_226 hnq_236 (by decide)
  have XS_238 : oX [] S_226 S_238 := by rw [eS_238]; exact oX.add hnq_236
  have nzq_236 : q_236 ∉ oL Z := oXc.nin X_235 hnq_236
  have pk_239 : oP S_238 o 0 = some q_1 := by rw [eS_238, add_Pn hnq_236 (oX.ty XS_226 t_223).1]; exact pk_227
  have pk_240 : oP S_238 o 1 = some q_12 := by rw [eS_238, add_Pn hnq_236 (oX.ty XS_226 t_223).1]; exact pk_228
  have pk_241 : oP S_238 q_12 0 = some q_27 := by rw [eS_238, add_Pn hnq_236 (oX.ty XS_226 (oX.ty XS_214 t_211)).1]; exact pk_229
  have pk_242 : oP S_238 q_12 1 = some q_69 := by rw [eS_238, add_Pn hnq_236 (oX.ty XS_226 (oX.ty XS_214 t_211)).1]; exact pk_230
  have pk_243 : oP S_238 q_12 2 = some q_116 := by rw [eS_238, add_Pn hnq_236 (oX.ty XS_226 (oX.ty XS_214 t_211)).1]; exact pk_231
  have pk_244 : oP S_238 q_12 3 = some q_168 := by rw [eS_238, add_Pn hnq_236 (oX.ty XS_226 (oX.ty XS_214 t_211)).1]; exact pk_232
  have ik_245 : oI S_238 o 2 = 0 := by rw [eS_238, add_In hnq_236 (oX.ty XS_226 t_223).1]; exact ik_233
  have sr_246 : oP S_238 o 1 = some q_12 := by rw [eS_238, add_Pn hnq_236 (oX.ty XS_226 t_223).1]; exact sr_234
  have X_247 : oXc [5001] o Z S_238 := oXc.st X_235 XS_238 (by decide)
  have tq_236 : oty S_238 q_236 301 := by rw [eS_238]; exact add_ty
  refine W.widen (k := 20) (n := 341) (Nat.le_of_ble_eq_true rfl) (Nat.le_of_ble_eq_true rfl) ?_
  refine lv_dup hx hb dX5_init_126 rfl ?_
  refine lv_iconst (v := 0) hx hb dX5_init_127 (by decide) ?_
  refine lv_bipush (v := 90) hx hb dX5_init_128 (by decide) ?_
  obtain ⟨q_248, hq_248⟩ := og (cq := cq) tq_236.1 (oE_ar (n := 1) tq_236.2 (by decide))
  refine va_iast hx hb hK hP hD hS q_248 0 hq_248 rfl (by unfold vp_in; decide) dX5_init_130 (fun H locs hP1 hD1 hS => ?_)
  obtain ⟨S_249, eS_249⟩ : ∃ zq, zq = setI S_238 q_236 (0 : Int32).toNatClampNeg 90 := ⟨_, rfl⟩
  have hP : va_P (dC, dI) vwCl (oW cq S_249) H := by rw [eS_249]; exact cP (oset tq_236.1 hq_248 hD rfl (he_ar (n := 1) tq_236.2 (by decide)) neI) hP1
  have hD : va_D A (oW cq S_249) := by rw [eS_249]; exact cD (oset tq_236.1 hq_248 hD rfl (he_ar (n := 1) tq_236.2 (by decide)) neI) hD1
  clear hP1 hD1
  have hIS_249 : oInv S_249 := by rw [eS_249]; exact oInv.A (k := 301) hIS_238 tq_236.2 (by decide)
  have XS_249 : oX [5000] S_238 S_249 := by rw [eS_249]; exact oX.I (k := 301) (key := 5000) tq_236.2 (wk_ar (n := 1) (by decide)) (List.mem_singleton.mpr rfl)
  have pk_250 : oP S_249 o 0 = some q_1 := by rw [eS_249]; exact pk_239
  have pk_251 : oP S_249 o 1 = some q_12 := by rw [eS_249]; exact pk_240
  have pk_252 : oP S_249 q_12 0 = some q_27 := by rw [eS_249]; exact pk_241
  have pk_253 : oP S_249 q_12 1 = some q_69 := by rw [eS_249]; exact pk_242
  have pk_254 : oP S_249 q_12 2 = some q_116 := by rw [eS_249]; exact pk_243
  have pk_255 : oP S_249 q_12 3 = some q_168 := by rw [eS_249]; exact pk_244
  have ik_256 : oI S_249 o 2 = 0 := by rw [eS_249, setI_oth (ty_ne (oX.ty XS_238 (oX.ty XS_226 t_223)) tq_236 (by decide))]; exact ik_245
  have X_257 : oXc [5001] o Z S_249 := by rw [eS_249]; exact oXc.In X_247 nzq_236
  have t_258 : oty S_249 q_225 30 := (oX.ty XS_249 (oX.ty XS_238 tq_225))
  have t_259 : oty S_249 q_236 301 := (oX.ty XS_249 tq_236)
  have hFc := o_free hD hS hA
  refine va_callv (va_runI (As := [.int 4, .int (-1), .ref q_236]) (rest := [.ref q_225, .int 4, .ref q_12]) ⟨hx, hb, hml, hown, hts⟩ (c_X0_init l dC dI H.size tL tS tG cq S_249 hIS_249 q_225 t_258 4 (-1) 1 (by decide) q_236 t_259) (cwI 3 hts gX5_init_X0_init rfl rfl rfl (hts (.initialized RX0) iw_X5_init_7) (hts (.methodLink RX5 20 yX0_init) iw_X5_init_9) (hts (.instanceMethod yX0_init) iw_X5_init_10) rfl (by decide +kernel) ⟨(Nat.le_of_ble_eq_true rfl), (Nat.le_of_ble_eq_true rfl)⟩) (pr_SO hP hK hD (hZ.go hS hFc)) rfl rfl hl.1 rfl (lv_room (Nat.le_of_ble_eq_true rfl)) dX5_init_131 ⟨(Nat.le_of_ble_eq_true rfl), (Nat.le_of_ble_eq_true rfl)⟩) hS (fun q _ h => hFc q h) hFc (fun u t H locs ht hvm w_260 hB hz1 hk1 hS => ?_)
  obtain ⟨S_262, rfl⟩ : ∃ z, z = u := ⟨_, rfl⟩
  obtain ⟨hP1, hK1, hD1⟩ := hB
  rw [ht] at hP1
  have hP : va_P (dC, dI) vwCl (oW cq S_262) H := hP1
  have hD : va_D A (oW cq S_262) := hD1.weaken (fun _ _ _ h => hFc _ h)
  clear hP1 hK1 hD1 hk1 hz1 hvm ht hFc
  refine W.widen (k := 22) (n := 410) (Nat.le_of_ble_eq_true rfl) (Nat.le_of_ble_eq_true rfl) ?_
  obtain ⟨hIS_262, XS_262, hx_263⟩ := w_260
  have hxS_262 := hx_263
  have X_264 : oXc [5001] o Z S_262 := oXc.c X_257 XS_262 nzq_225 (by decide)
  have pk_265 : oP S_262 o 0 = some q_1 := by rw [oXc.p XS_262 (ty_ne (oX.ty XS_249 (oX.ty XS_238 (oX.ty XS_226 t_223))) t_258 (by decide)) (oX.ty XS_249 (oX.ty XS_238 (oX.ty XS_226 t_223))) (by decide)]; exact pk_250
  have pk_266 : oP S_262 o 1 = some q_12 := by rw [oXc.p XS_262 (ty_ne (oX.ty XS_249 (oX.ty XS_238 (oX.ty XS_226 t_223))) t_258 (by decide)) (oX.ty XS_249 (oX.ty XS_238 (oX.ty XS_226 t_223))) (by decide)]; exact pk_251
  have pk_267 : oP S_262 q_12 0 = some q_27 := by rw [oXc.p XS_262 (ty_ne (oX.ty XS_249 (oX.ty XS_238 (oX.ty XS_226 (oX.ty XS_214 t_211)))) t_258 (by decide)) (oX.ty XS_249 (oX.ty XS_238 (oX.ty XS_226 (oX.ty XS_214 t_211)))) (by decide)]; exact pk_252
  have pk_268 : oP S_262 q_12 1 = some q_69 := by rw [oXc.p XS_262 (ty_ne (oX.ty XS_249 (oX.ty XS_238 (oX.ty XS_226 (oX.ty XS_214 t_211)))) t_258 (by decide)) (oX.ty XS_249 (oX.ty XS_238 (oX.ty XS_226 (oX.ty XS_214 t_211)))) (by decide)]; exact pk_253
  have pk_269 : oP S_262 q_12 2 = some q_116 := by rw [oXc.p XS_262 (ty_ne (oX.ty XS_249 (oX.ty XS_238 (oX.ty XS_226 (oX.ty XS_214 t_211)))) t_258 (by decide)) (oX.ty XS_249 (oX.ty XS_238 (oX.ty XS_226 (oX.ty XS_214 t_211)))) (by decide)]; exact pk_254
  have pk_270 : oP S_262 q_12 3 = some q_168 := by rw [oXc.p XS_262 (ty_ne (oX.ty XS_249 (oX.ty XS_238 (oX.ty XS_226 (oX.ty XS_214 t_211)))) t_258 (by decide)) (oX.ty XS_249 (oX.ty XS_238 (oX.ty XS_226 (oX.ty XS_214 t_211)))) (by decide)]; exact pk_255
  have ik_271 : oI S_262 o 2 = 0 := by rw [oXc.i XS_262 (ty_ne (oX.ty XS_249 (oX.ty XS_238 (oX.ty XS_226 t_223))) t_258 (by decide)) (oX.ty XS_249 (oX.ty XS_238 (oX.ty XS_226 t_223))) (by decide)]; exact ik_256
  have t_272 : oty S_262 q_12 13 := (oXc.ty XS_262 (ty_ne (oX.ty XS_249 (oX.ty XS_238 (oX.ty XS_226 (oX.ty XS_214 t_211)))) t_258 (by decide)) (oX.ty XS_249 (oX.ty XS_238 (oX.ty XS_226 (oX.ty XS_214 t_211)))))
  obtain ⟨q_273, hq_273⟩ := og (cq := cq) t_272.1 (oE_13 t_272.2)
  obtain ⟨q_274, hq_274⟩ := og (cq := cq) hxS_262.1 (oE_0 hxS_262.2)
  refine va_astq (r := (RX0, TX0, 5)) hx hb hK hP hD hS q_273 2 q_274 0 hq_273 rfl hq_274 rfl (by unfold vp_in; decide) dX5_init_134 (fun H locs hP1 hD1 hS => ?_)
  obtain ⟨S_275, eS_275⟩ : ∃ zq, zq = setP S_262 q_12 (4 : Int32).toNatClampNeg (some q_225) := ⟨_, rfl⟩
  have hP : va_P (dC, dI) vwCl (oW cq S_275) H := by rw [eS_275]; exact cP (oset t_272.1 hq_273 hD rfl (he_13 t_272.2) neP) hP1
  have hD : va_D A (oW cq S_275) := by rw [eS_275]; exact cD (oset t_272.1 hq_273 hD rfl (he_13 t_272.2) neP) hD1
  clear hP1 hD1
  have hIS_275 : oInv S_275 := by rw [eS_275]; exact oInv.P (k := 13) hIS_262 t_272.2 (by decide) rfl (fun h => absurd h.1 (by decide)) hxS_262 (show 0 ≤ 0 ∧ 0 ≤ 0 from ⟨Nat.le_refl _, Nat.le_refl _⟩)
  have XS_275 : oX [2013] S_262 S_275 := by rw [eS_275]; exact oX.P (k := 13) (key := 2013) t_272.2 rfl (List.mem_singleton.mpr rfl)
  have pk_276 : oP S_275 o 0 = some q_1 := by rw [eS_275, setP_oth (ty_ne (oXc.ty XS_262 (ty_ne (oX.ty XS_249 (oX.ty XS_238 (oX.ty XS_226 t_223))) t_258 (by decide)) (oX.ty XS_249 (oX.ty XS_238 (oX.ty XS_226 t_223)))) t_272 (by decide))]; exact pk_265
  have pk_277 : oP S_275 o 1 = some q_12 := by rw [eS_275, setP_oth (ty_ne (oXc.ty XS_262 (ty_ne (oX.ty XS_249 (oX.ty XS_238 (oX.ty XS_226 t_223))) t_258 (by decide)) (oX.ty XS_249 (oX.ty XS_238 (oX.ty XS_226 t_223)))) t_272 (by decide))]; exact pk_266
  have pk_278 : oP S_275 q_12 0 = some q_27 := by rw [eS_275, setP_ne (by decide)]; exact pk_267
  have pk_279 : oP S_275 q_12 1 = some q_69 := by rw [eS_275, setP_ne (by decide)]; exact pk_268
  have pk_280 : oP S_275 q_12 2 = some q_116 := by rw [eS_275, setP_ne (by decide)]; exact pk_269
  have pk_281 : oP S_275 q_12 3 = some q_168 := by rw [eS_275, setP_ne (by decide)]; exact pk_270
  have ik_282 : oI S_275 o 2 = 0 := by rw [eS_275]; exact ik_271
  have X_283 : oXc [5001] o Z S_275 := by rw [eS_275]; exact oXc.Pn X_264 nzq_12
  have pk_284 : oP S_275 q_12 4 = some q_225 := by rw [eS_275]; exact setP_same
  have t_286 : oty S_275 o 35 := (oX.ty XS_275 (oXc.ty XS_262 (ty_ne (oX.ty XS_249 (oX.ty XS_238 (oX.ty XS_226 t_223))) t_258 (by decide)) (oX.ty XS_249 (oX.ty XS_238 (oX.ty XS_226 t_223)))))
  obtain ⟨S_285, eS_285⟩ : ∃ zq, zq = setK S_275 o 5 := ⟨_, rfl⟩
  have hP : va_P (dC, dI) vwCl (oW cq S_285) H := by rw [eS_285]; exact cP (ret_W (c := 5) t_286.2 (by decide)) hP
  have hD : va_D A (oW cq S_285) := by rw [eS_285]; exact cD (ret_W (c := 5) t_286.2 (by decide)) hD
  have hIS_285 : oInv S_285 := by rw [eS_285]; exact oInv.ret (c := 5) hIS_275 t_286 (by decide) (fun i hi => by rcases nn_5 hi with rfl | rfl <;> first | exact ⟨_, pk_276⟩ | exact ⟨_, pk_277⟩) (fun i p hp => by rcases ct_5 hp with rfl <;> first | (rw [ik_282]; decide)) (fun _ r hr k hk => by rw [pk_277] at hr; cases hr; rcases (show k = 0 ∨ k = 1 ∨ k = 2 ∨ k = 3 ∨ k = 4 by omega) with rfl | rfl | rfl | rfl | rfl <;> first | exact ⟨_, pk_278⟩ | exact ⟨_, pk_279⟩ | exact ⟨_, pk_280⟩ | exact ⟨_, pk_281⟩ | exact ⟨_, pk_284⟩) (fun h => absurd h (by decide)) (fun h => absurd h (by decide))
  have XS_285 : oXc [5001] o Z S_285 := by rw [eS_285]; exact oXc.K X_283
  have tS_285 : oty S_285 o 5 := by rw [eS_285]; exact K_ty t_286.1
  have pk_287 : oP S_285 o 0 = some q_1 := by rw [eS_285]; exact pk_276
  have pk_288 : oP S_285 o 1 = some q_12 := by rw [eS_285]; exact pk_277
  have pk_289 : oP S_285 q_12 0 = some q_27 := by rw [eS_285]; exact pk_278
  have pk_290 : oP S_285 q_12 1 = some q_69 := by rw [eS_285]; exact pk_279
  have pk_291 : oP S_285 q_12 2 = some q_116 := by rw [eS_285]; exact pk_280
  have pk_292 : oP S_285 q_12 3 = some q_168 := by rw [eS_285]; exact pk_281
  have pk_293 : oP S_285 q_12 4 = some q_225 := by rw [eS_285]; exact pk_284
  have ik_294 : oI S_285 o 2 = 0 := by rw [eS_285]; exact ik_282
  exact W.vret hx hb hr (fun t ht hW => ⟨⟨S_285, rfl, ⟨hIS_285, XS_285, ⟨tS_285, ik_294⟩⟩, ⟨by rw [ht]; exact hP, va_K.moved hW.alike hK, hD⟩⟩, hS.F ht⟩) hS.2.2 dX5_init_135
set_option maxHeartbeats 4000000 in
set_option maxRecDepth 100000 in
theorem c_X10_init (l : Launch) (dC : Nat → ClassId) (dI : Nat → Nat → Nat) (sz : Nat) (tL tS tG : Nat) (cq : Nat → ClassId) (Z : oS) (gI : oInv Z) (o : Nat) (to : oty Z o 40) (hz : ∀ j, oI Z o j = 0) : Met l yX10_init wsX10_init ({ frames := 5, cells := 39, slots := 901, locals := 115 }) (va_Pc [.ref o] (pcO (dC, dI) (oT cq) (oW cq Z) sz tL tS tG (oW cq Z))) (va_Qv (fun (u : oS) => oInv u ∧ oXc [5001] o Z u ∧ (oty u o 10 ∧ (oI u o 0 = 0 ∧ oI u o 2 = 0) ∧ (∀ sea ml, oP u o 10 = some sea → oP u sea 0 = some ml → oI u ml = fun _ => 0) ∧ (∀ tp, oP u o 9 = some tp → oI u tp 1 = 0) ∧ ∀ lw, oP u o 8 = some lw → oI u lw 2 = 0)) (fun u t => va_P (dC, dI) vwCl (oW cq u) t.heap ∧ va_K (dC, dI) vwCl (oT cq) t ∧ va_D (va_A (oW cq Z) sz) (oW cq u)) (va_A (oW cq Z) sz)) 39 901 (va_A (oW cq Z) sz) := by
  refine Met.ofW (cc := cX10_init) (maxL := 1) (ret := none) (by decide) rfl ?_
  intro p e s m args below meth c s₁ B hml hv
  obtain ⟨rfl, ⟨hsz, hP, hK, hD0⟩, hZ⟩ := hv
  have hx := B.exec
  have hb := B.bytes
  have hr := B.returns
  have hts := atoms_spec (ws := wsX10_init) B.pre
  have hown : s.vm.findClass RX10 = some m.cls := findClass_of_methodNamed B.named
  have hlocks := B.notSynchronized
  have hin : meth.name = "<init>" := (name_of_methodNamed B.named B.method).1
  subst hsz
  have hD := hD0.self (sz := s.heap.size)
  generalize hAe : va_A (oW cq Z) s.heap.size = A at hD hZ ⊢
  have hA : ∀ q : Nat, s.heap.size ≤ q → A q := fun q h => by rw [← hAe]; exact Or.inr h
  have hS : va_S A s.heap s.heap [] := va_S.rf
  have hP : va_P (dC, dI) vwCl (oW cq Z) s.heap := hP
  have hl := lv_entry ([.ref o]) (n := 1) (Nat.le_of_ble_eq_true rfl)
  rw [lg_entry_eq]
  generalize (lg_sl ([.ref o]) ++ List.replicate (1 - (lg_sl ([.ref o])).length) Slot.unset).toArray = ls at hl ⊢
  have hl : lv_has ls 1 [(0, .ref o)] := hl
  refine lv_aload_n hx hb dX10_init_0 rfl (lv_at hl 0 rfl) ?_
  refine W.objInit hx hb hown (hts (.methodLink RX10 3 objectInit) iw_X10_init_1) (hts (.instanceMethod objectInit) iw_X10_init_2) (hts (.code objectInit ⟨#[0xb1]⟩ 1 none) (in_obj_wsX10_init)) rfl (by rw [hml]; exact hl.1) rfl dX10_init_1 (Nat.le_of_ble_eq_true rfl) (Nat.le_of_ble_eq_true rfl) ?_
  refine W.eq (g2 := F0 m 4 ls []) rfl ?_
  refine lv_aload_n hx hb dX10_init_4 rfl (lv_at hl 0 rfl) ?_
  refine lv_bipush (v := 40) hx hb dX10_init_5 (by decide) ?_
  refine va_newq (N' := 40) hx hb hown (hts (.classLink RX10 9 RX6) iw_X10_init_3) hZ.1.2.2.2.2.2.2.2.1 hK hP hD hS hA (by decide) (by decide) (by decide) (Nat.le_of_ble_eq_true rfl) (Nat.le_of_ble_eq_true rfl) dX10_init_7 (fun q_1 k_2 H hK1 hP1 hD1 hS => ?_)
  obtain ⟨rfl, -⟩ := lv_ad (k := 3) hK1 rfl
  clear hK1
  have hnq_1 := add_q hD1
  obtain ⟨S_3, eS_3⟩ : ∃ zq, zq = addO Z q_1 14 := ⟨_, rfl⟩
  have hP : va_P (dC, dI) vwCl (oW cq S_3) H := by rw [eS_3]; exact cP (onew hD1 (by rw [oE_14 add_K, add_P])) hP1
  have hD : va_D A (oW cq S_3) := by rw [eS_3]; exact cD (onew hD1 (by rw [oE_14 add_K, add_P])) hD1
  clear hP1 hD1
  have hIS_3 : oInv S_3 := by rw [eS_3]; exact oInv.add gI hnq_1 (by decide)
  have XS_3 : oX [] Z S_3 := by rw [eS_3]; exact oX.add hnq_1
  have nzq_1 : q_1 ∉ oL Z := hnq_1
  have ik_4 : oI S_3 o 0 = 0 := by rw [eS_3, add_In hnq_1 to.1]; exact (hz 0)
  have ik_5 : oI S_3 o 2 = 0 := by rw [eS_3, add_In hnq_1 to.1]; exact (hz 2)
  have ik_6 : oI S_3 o 4 = 0 := by rw [eS_3, add_In hnq_1 to.1]; exact (hz 4)
  have ik_7 : oI S_3 o 6 = 0 := by rw [eS_3, add_In hnq_1 to.1]; exact (hz 6)
  have X_8 : oXc [5001] o Z S_3 := oXc.st oXc.rf XS_3 (by decide)
  have tq_1 : oty S_3 q_1 14 := by rw [eS_3]; exact add_ty
  refine W.widen (k := 1) (n := 40) (Nat.le_of_ble_eq_true rfl) (Nat.le_of_ble_eq_true rfl) ?_
  have t_9 : oty S_3 o 40 := (oX.ty XS_3 to)
  obtain ⟨q_10, hq_10⟩ := og (cq := cq) t_9.1 (oE_40 t_9.2)
  refine va_putF (D := (dC, dI)) (ci := 10) (v := .ref q_1) (ty := .array (.object "ShipOffice$Man")) (C := RX10) (T := TX10) (N := 16) hx hb hts in_wsX10_init_X10 tyX10 tyX10_ok nmX10 hown hK hP hD hS q_10 hq_10 rfl 1 (by decide) (hts (.fieldLink RX10 11 "ShipOffice" "men" "[LShipOffice$Man;") iw_X10_init_4) (fun _ h9 => h9) rfl hin rfl (by decide +kernel) rfl rfl (Nat.le_of_ble_eq_true rfl) dX10_init_10 (fun H locs hP1 hD1 hS => ?_)
  obtain ⟨S_11, eS_11⟩ : ∃ zq, zq = setP S_3 o 1 (some q_1) := ⟨_, rfl⟩
  have hP : va_P (dC, dI) vwCl (oW cq S_11) H := by rw [eS_11]; exact cP (oset t_9.1 hq_10 hD rfl (he_40_1 t_9.2) neP) hP1
  have hD : va_D A (oW cq S_11) := by rw [eS_11]; exact cD (oset t_9.1 hq_10 hD rfl (he_40_1 t_9.2) neP) hD1
  clear hP1 hD1
  have hIS_11 : oInv S_11 := by rw [eS_11]; exact oInv.P (k := 40) hIS_3 t_9.2 (by decide) rfl (by decide) tq_1 (by decide)
  have XS_11 : oX [2040] S_3 S_11 := by rw [eS_11]; exact oX.P (k := 40) (key := 2040) t_9.2 rfl (List.mem_singleton.mpr rfl)
  have ik_12 : oI S_11 o 0 = 0 := by rw [eS_11]; exact ik_4
  have ik_13 : oI S_11 o 2 = 0 := by rw [eS_11]; exact ik_5
  have ik_14 : oI S_11 o 4 = 0 := by rw [eS_11]; exact ik_6
  have ik_15 : oI S_11 o 6 = 0 := by rw [eS_11]; exact ik_7
  have X_16 : oXc [5001] o Z S_11 := by rw [eS_11]; exact oXc.P X_8
  have pk_17 : oP S_11 o 1 = some q_1 := by rw [eS_11, setP_same]
  refine lv_aload_n hx hb dX10_init_13 rfl (lv_at hl 0 rfl) ?_
  refine lv_bipush (v := 20) hx hb dX10_init_14 (by decide) ?_
  refine va_newq (N' := 20) hx hb hown (hts (.classLink RX10 15 RX9) iw_X10_init_5) hZ.1.2.2.2.2.2.2.2.2.1 hK hP hD hS hA (by decide) (by decide) (by decide) (Nat.le_of_ble_eq_true rfl) (Nat.le_of_ble_eq_true rfl) dX10_init_16 (fun q_18 k_19 H hK1 hP1 hD1 hS => ?_)
  obtain ⟨rfl, -⟩ := lv_ad (k := 4) hK1 rfl
  clear hK1
  have hnq_18 := add_q hD1
  obtain ⟨S_20, eS_20⟩ : ∃ zq, zq = addO S_11 q_18 15 := ⟨_, rfl⟩
  have hP : va_P (dC, dI) vwCl (oW cq S_20) H := by rw [eS_20]; exact cP (onew hD1 (by rw [oE_15 add_K, add_P])) hP1
  have hD : va_D A (oW cq S_20) := by rw [eS_20]; exact cD (onew hD1 (by rw [oE_15 add_K, add_P])) hD1
  clear hP1 hD1
  have hIS_20 : oInv S_20 := by rw [eS_20]; exact oInv.add hIS_11 hnq_18 (by decide)
  have XS_20 : oX [] S_11 S_20 := by rw [eS_20]; exact oX.add hnq_18
  have nzq_18 : q_18 ∉ oL Z := oXc.nin X_16 hnq_18
  have pk_21 : oP S_20 o 1 = some q_1 := by rw [eS_20, add_Pn hnq_18 (oX.ty XS_11 t_9).1]; exact pk_17
  have ik_22 : oI S_20 o 0 = 0 := by rw [eS_20, add_In hnq_18 (oX.ty XS_11 t_9).1]; exact ik_12
  have ik_23 : oI S_20 o 2 = 0 := by rw [eS_20, add_In hnq_18 (oX.ty XS_11 t_9).1]; exact ik_13
  have ik_24 : oI S_20 o 4 = 0 := by rw [eS_20, add_In hnq_18 (oX.ty XS_11 t_9).1]; exact ik_14
  have ik_25 : oI S_20 o 6 = 0 := by rw [eS_20, add_In hnq_18 (oX.ty XS_11 t_9).1]; exact ik_15
  have X_26 : oXc [5001] o Z S_20 := oXc.st X_16 XS_20 (by decide)
  have tq_18 : oty S_20 q_18 15 := by rw [eS_20]; exact add_ty
  refine W.widen (k := 2) (n := 60) (Nat.le_of_ble_eq_true rfl) (Nat.le_of_ble_eq_true rfl) ?_
  have t_27 : oty S_20 o 40 := (oX.ty XS_20 (oX.ty XS_11 t_9))
  obtain ⟨q_28, hq_28⟩ := og (cq := cq) t_27.1 (oE_40 t_27.2)
  refine va_putF (D := (dC, dI)) (ci := 10) (v := .ref q_18) (ty := .array (.object "ShipOffice$Voyage")) (C := RX10) (T := TX10) (N := 16) hx hb hts in_wsX10_init_X10 tyX10 tyX10_ok nmX10 hown hK hP hD hS q_28 hq_28 rfl 3 (by decide) (hts (.fieldLink RX10 17 "ShipOffice" "voyages" "[LShipOffice$Voyage;") iw_X10_init_6) (fun _ h9 => h9) rfl hin rfl (by decide +kernel) rfl rfl (Nat.le_of_ble_eq_true rfl) dX10_init_19 (fun H locs hP1 hD1 hS => ?_)
  obtain ⟨S_29, eS_29⟩ : ∃ zq, zq = setP S_20 o 3 (some q_18) := ⟨_, rfl⟩
  have hP : va_P (dC, dI) vwCl (oW cq S_29) H := by rw [eS_29]; exact cP (oset t_27.1 hq_28 hD rfl (he_40_3 t_27.2) neP) hP1
  have hD : va_D A (oW cq S_29) := by rw [eS_29]; exact cD (oset t_27.1 hq_28 hD rfl (he_40_3 t_27.2) neP) hD1
  clear hP1 hD1
  have hIS_29 : oInv S_29 := by rw [eS_29]; exact oInv.P (k := 40) hIS_20 t_27.2 (by decide) rfl (by decide) tq_18 (by decide)
  have XS_29 : oX [2040] S_20 S_29 := by rw [eS_29]; exact oX.P (k := 40) (key := 2040) t_27.2 rfl (List.mem_singleton.mpr rfl)
  have pk_30 : oP S_29 o 1 = some q_1 := by rw [eS_29, setP_ne (by decide)]; exact pk_21
  have ik_31 : oI S_29 o 0 = 0 := by rw [eS_29]; exact ik_22
  have ik_32 : oI S_29 o 2 = 0 := by rw [eS_29]; exact ik_23
  have ik_33 : oI S_29 o 4 = 0 := by rw [eS_29]; exact ik_24
  have ik_34 : oI S_29 o 6 = 0 := by rw [eS_29]; exact ik_25
  have X_35 : oXc [5001] o Z S_29 := by rw [eS_29]; exact oXc.P X_26
  have pk_36 : oP S_29 o 3 = some q_18 := by rw [eS_29, setP_same]
  refine lv_aload_n hx hb dX10_init_22 rfl (lv_at hl 0 rfl) ?_
  refine lv_bipush (v := 60) hx hb dX10_init_23 (by decide) ?_
  refine va_newq (N' := 60) hx hb hown (hts (.classLink RX10 21 RX1) iw_X10_init_7) hZ.1.2.2.2.2.2.2.2.2.2 hK hP hD hS hA (by decide) (by decide) (by decide) (Nat.le_of_ble_eq_true rfl) (Nat.le_of_ble_eq_true rfl) dX10_init_25 (fun q_37 k_38 H hK1 hP1 hD1 hS => ?_)
  obtain ⟨rfl, -⟩ := lv_ad (k := 5) hK1 rfl
  clear hK1
  have hnq_37 := add_q hD1
  obtain ⟨S_39, eS_39⟩ : ∃ zq, zq = addO S_29 q_37 16 := ⟨_, rfl⟩
  have hP : va_P (dC, dI) vwCl (oW cq S_39) H := by rw [eS_39]; exact cP (onew hD1 (by rw [oE_16 add_K, add_P])) hP1
  have hD : va_D A (oW cq S_39) := by rw [eS_39]; exact cD (onew hD1 (by rw [oE_16 add_K, add_P])) hD1
  clear hP1 hD1
  have hIS_39 : oInv S_39 := by rw [eS_39]; exact oInv.add hIS_29 hnq_37 (by decide)
  have XS_39 : oX [] S_29 S_39 := by rw [eS_39]; exact oX.add hnq_37
  have nzq_37 : q_37 ∉ oL Z := oXc.nin X_35 hnq_37
  have pk_40 : oP S_39 o 1 = some q_1 := by rw [eS_39, add_Pn hnq_37 (oX.ty XS_29 t_27).1]; exact pk_30
  have pk_41 : oP S_39 o 3 = some q_18 := by rw [eS_39, add_Pn hnq_37 (oX.ty XS_29 t_27).1]; exact pk_36
  have ik_42 : oI S_39 o 0 = 0 := by rw [eS_39, add_In hnq_37 (oX.ty XS_29 t_27).1]; exact ik_31
  have ik_43 : oI S_39 o 2 = 0 := by rw [eS_39, add_In hnq_37 (oX.ty XS_29 t_27).1]; exact ik_32
  have ik_44 : oI S_39 o 4 = 0 := by rw [eS_39, add_In hnq_37 (oX.ty XS_29 t_27).1]; exact ik_33
  have ik_45 : oI S_39 o 6 = 0 := by rw [eS_39, add_In hnq_37 (oX.ty XS_29 t_27).1]; exact ik_34
  have X_46 : oXc [5001] o Z S_39 := oXc.st X_35 XS_39 (by decide)
  have tq_37 : oty S_39 q_37 16 := by rw [eS_39]; exact add_ty
  refine W.widen (k := 3) (n := 120) (Nat.le_of_ble_eq_true rfl) (Nat.le_of_ble_eq_true rfl) ?_
  have t_47 : oty S_39 o 40 := (oX.ty XS_39 (oX.ty XS_29 t_27))
  obtain ⟨q_48, hq_48⟩ := og (cq := cq) t_47.1 (oE_40 t_47.2)
  refine va_putF (D := (dC, dI)) (ci := 10) (v := .ref q_37) (ty := .array (.object "ShipOffice$Agreement")) (C := RX10) (T := TX10) (N := 16) hx hb hts in_wsX10_init_X10 tyX10 tyX10_ok nmX10 hown hK hP hD hS q_48 hq_48 rfl 5 (by decide) (hts (.fieldLink RX10 23 "ShipOffice" "agreements" "[LShipOffice$Agreement;") iw_X10_init_8) (fun _ h9 => h9) rfl hin rfl (by decide +kernel) rfl rfl (Nat.le_of_ble_eq_true rfl) dX10_init_28 (fun H locs hP1 hD1 hS => ?_)
  obtain ⟨S_49, eS_49⟩ : ∃ zq, zq = setP S_39 o 5 (some q_37) := ⟨_, rfl⟩
  have hP : va_P (dC, dI) vwCl (oW cq S_49) H := by rw [eS_49]; exact cP (oset t_47.1 hq_48 hD rfl (he_40_5 t_47.2) neP) hP1
  have hD : va_D A (oW cq S_49) := by rw [eS_49]; exact cD (oset t_47.1 hq_48 hD rfl (he_40_5 t_47.2) neP) hD1
  clear hP1 hD1
  have hIS_49 : oInv S_49 := by rw [eS_49]; exact oInv.P (k := 40) hIS_39 t_47.2 (by decide) rfl (by decide) tq_37 (by decide)
  have XS_49 : oX [2040] S_39 S_49 := by rw [eS_49]; exact oX.P (k := 40) (key := 2040) t_47.2 rfl (List.mem_singleton.mpr rfl)
  have pk_50 : oP S_49 o 1 = some q_1 := by rw [eS_49, setP_ne (by decide)]; exact pk_40
  have pk_51 : oP S_49 o 3 = some q_18 := by rw [eS_49, setP_ne (by decide)]; exact pk_41
  have ik_52 : oI S_49 o 0 = 0 := by rw [eS_49]; exact ik_42
  have ik_53 : oI S_49 o 2 = 0 := by rw [eS_49]; exact ik_43
  have ik_54 : oI S_49 o 4 = 0 := by rw [eS_49]; exact ik_44
  have ik_55 : oI S_49 o 6 = 0 := by rw [eS_49]; exact ik_45
  have X_56 : oXc [5001] o Z S_49 := by rw [eS_49]; exact oXc.P X_46
  have pk_57 : oP S_49 o 5 = some q_37 := by rw [eS_49, setP_same]
  refine lv_aload_n hx hb dX10_init_31 rfl (lv_at hl 0 rfl) ?_
  refine va_new (ci := 5) (fs := [.null, .null, .int 0]) (C := RX5) (T := TX5) (N := 3) hx hb hts in_wsX10_init_X5 tyX5 tyX5_ok hown (hts (.classLink RX10 27 RX5) iw_X10_init_9) (hts (.instantiable RX5 3) iw_X10_init_10) (hts (.initialized RX5) iw_X10_init_11) hK hP hD hS hA rfl (fun j hj => by rcases (show j = 0 ∨ j = 1 ∨ j = 2 by omega) with rfl | rfl | rfl <;> rfl) (Nat.le_of_ble_eq_true rfl) (Nat.le_of_ble_eq_true rfl) dX10_init_32 (fun q_58 H hP1 hD1 hS => ?_)
  have hnq_58 := add_q hD1
  obtain ⟨S_59, eS_59⟩ : ∃ zq, zq = addO S_49 q_58 35 := ⟨_, rfl⟩
  have hP : va_P (dC, dI) vwCl (oW cq S_59) H := by rw [eS_59]; exact cP (onew hD1 (by rw [oE_35 add_K, add_I, add_P]; rfl)) hP1
  have hD : va_D A (oW cq S_59) := by rw [eS_59]; exact cD (onew hD1 (by rw [oE_35 add_K, add_I, add_P]; rfl)) hD1
  clear hP1 hD1
  have hIS_59 : oInv S_59 := by rw [eS_59]; exact oInv.add hIS_49 hnq_58 (by decide)
  have XS_59 : oX [] S_49 S_59 := by rw [eS_59]; exact oX.add hnq_58
  have nzq_58 : q_58 ∉ oL Z := oXc.nin X_56 hnq_58
  have pk_60 : oP S_59 o 1 = some q_1 := by rw [eS_59, add_Pn hnq_58 (oX.ty XS_49 t_47).1]; exact pk_50
  have pk_61 : oP S_59 o 3 = some q_18 := by rw [eS_59, add_Pn hnq_58 (oX.ty XS_49 t_47).1]; exact pk_51
  have pk_62 : oP S_59 o 5 = some q_37 := by rw [eS_59, add_Pn hnq_58 (oX.ty XS_49 t_47).1]; exact pk_57
  have ik_63 : oI S_59 o 0 = 0 := by rw [eS_59, add_In hnq_58 (oX.ty XS_49 t_47).1]; exact ik_52
  have ik_64 : oI S_59 o 2 = 0 := by rw [eS_59, add_In hnq_58 (oX.ty XS_49 t_47).1]; exact ik_53
  have ik_65 : oI S_59 o 4 = 0 := by rw [eS_59, add_In hnq_58 (oX.ty XS_49 t_47).1]; exact ik_54
  have ik_66 : oI S_59 o 6 = 0 := by rw [eS_59, add_In hnq_58 (oX.ty XS_49 t_47).1]; exact ik_55
  have X_67 : oXc [5001] o Z S_59 := oXc.st X_56 XS_59 (by decide)
  have tq_58 : oty S_59 q_58 35 := by rw [eS_59]; exact add_ty
  refine W.widen (k := 4) (n := 123) (Nat.le_of_ble_eq_true rfl) (Nat.le_of_ble_eq_true rfl) ?_
  refine lv_dup hx hb dX10_init_35 rfl ?_
  have hFc := o_free hD hS hA
  refine va_callv (va_runI (As := []) (rest := [.ref q_58, .ref o]) ⟨hx, hb, hml, hown, hts⟩ (c_X5_init l dC dI H.size tL tS tG cq S_59 hIS_59 q_58 tq_58 (fun j => by rw [eS_59, add_I])) (cwI 0 hts gX10_init_X5_init rfl rfl rfl (hts (.initialized RX5) iw_X10_init_11) (hts (.methodLink RX10 29 yX5_init) iw_X10_init_12) (hts (.instanceMethod yX5_init) iw_X10_init_13) rfl (by decide +kernel) ⟨(Nat.le_of_ble_eq_true rfl), (Nat.le_of_ble_eq_true rfl)⟩) (pr_SO hP hK hD (hZ.go hS hFc)) rfl rfl hl.1 rfl (lv_room (Nat.le_of_ble_eq_true rfl)) dX10_init_36 ⟨(Nat.le_of_ble_eq_true rfl), (Nat.le_of_ble_eq_true rfl)⟩) hS (fun q _ h => hFc q h) hFc (fun u t H locs ht hvm w_68 hB hz1 hk1 hS => ?_)
  obtain ⟨S_70, rfl⟩ : ∃ z, z = u := ⟨_, rfl⟩
  obtain ⟨hP1, hK1, hD1⟩ := hB
  rw [ht] at hP1
  have hP : va_P (dC, dI) vwCl (oW cq S_70) H := hP1
  have hD : va_D A (oW cq S_70) := hD1.weaken (fun _ _ _ h => hFc _ h)
  clear hP1 hK1 hD1 hk1 hz1 hvm ht hFc
  refine W.widen (k := 26) (n := 533) (Nat.le_of_ble_eq_true rfl) (Nat.le_of_ble_eq_true rfl) ?_
  obtain ⟨hIS_70, XS_70, hx_71⟩ := w_68
  obtain ⟨hxS_70, hcS_70⟩ := hx_71
  have X_72 : oXc [5001] o Z S_70 := oXc.c X_67 XS_70 nzq_58 (by decide)
  have pk_73 : oP S_70 o 1 = some q_1 := by rw [oXc.p XS_70 (ty_ne (oX.ty XS_59 (oX.ty XS_49 t_47)) tq_58 (by decide)) (oX.ty XS_59 (oX.ty XS_49 t_47)) (by decide)]; exact pk_60
  have pk_74 : oP S_70 o 3 = some q_18 := by rw [oXc.p XS_70 (ty_ne (oX.ty XS_59 (oX.ty XS_49 t_47)) tq_58 (by decide)) (oX.ty XS_59 (oX.ty XS_49 t_47)) (by decide)]; exact pk_61
  have pk_75 : oP S_70 o 5 = some q_37 := by rw [oXc.p XS_70 (ty_ne (oX.ty XS_59 (oX.ty XS_49 t_47)) tq_58 (by decide)) (oX.ty XS_59 (oX.ty XS_49 t_47)) (by decide)]; exact pk_62
  have ik_76 : oI S_70 o 0 = 0 := by rw [oXc.i XS_70 (ty_ne (oX.ty XS_59 (oX.ty XS_49 t_47)) tq_58 (by decide)) (oX.ty XS_59 (oX.ty XS_49 t_47)) (by decide)]; exact ik_63
  have ik_77 : oI S_70 o 2 = 0 := by rw [oXc.i XS_70 (ty_ne (oX.ty XS_59 (oX.ty XS_49 t_47)) tq_58 (by decide)) (oX.ty XS_59 (oX.ty XS_49 t_47)) (by decide)]; exact ik_64
  have ik_78 : oI S_70 o 4 = 0 := by rw [oXc.i XS_70 (ty_ne (oX.ty XS_59 (oX.ty XS_49 t_47)) tq_58 (by decide)) (oX.ty XS_59 (oX.ty XS_49 t_47)) (by decide)]; exact ik_65
  have ik_79 : oI S_70 o 6 = 0 := by rw [oXc.i XS_70 (ty_ne (oX.ty XS_59 (oX.ty XS_49 t_47)) tq_58 (by decide)) (oX.ty XS_59 (oX.ty XS_49 t_47)) (by decide)]; exact ik_66
  have t_80 : oty S_70 o 40 := (oXc.ty XS_70 (ty_ne (oX.ty XS_59 (oX.ty XS_49 t_47)) tq_58 (by decide)) (oX.ty XS_59 (oX.ty XS_49 t_47)))
  obtain ⟨q_81, hq_81⟩ := og (cq := cq) t_80.1 (oE_40 t_80.2)
  refine va_putF (D := (dC, dI)) (ci := 10) (v := .ref q_58) (ty := .object "ShipOffice$Law") (C := RX10) (T := TX10) (N := 16) hx hb hts in_wsX10_init_X10 tyX10 tyX10_ok nmX10 hown hK hP hD hS q_81 hq_81 rfl 8 (by decide) (hts (.fieldLink RX10 30 "ShipOffice" "law" "LShipOffice$Law;") iw_X10_init_14) (fun _ h9 => h9) rfl hin rfl (by decide +kernel) rfl rfl (Nat.le_of_ble_eq_true rfl) dX10_init_39 (fun H locs hP1 hD1 hS => ?_)
  obtain ⟨S_82, eS_82⟩ : ∃ zq, zq = setP S_70 o 8 (some q_58) := ⟨_, rfl⟩
  have hP : va_P (dC, dI) vwCl (oW cq S_82) H := by rw [eS_82]; exact cP (oset t_80.1 hq_81 hD rfl (he_40_8 t_80.2) neP) hP1
  have hD : va_D A (oW cq S_82) := by rw [eS_82]; exact cD (oset t_80.1 hq_81 hD rfl (he_40_8 t_80.2) neP) hD1
  clear hP1 hD1
  have hIS_82 : oInv S_82 := by rw [eS_82]; exact oInv.P (k := 40) hIS_70 t_80.2 (by decide) rfl (by decide) hxS_70 (by decide)
  have XS_82 : oX [2040] S_70 S_82 := by rw [eS_82]; exact oX.P (k := 40) (key := 2040) t_80.2 rfl (List.mem_singleton.mpr rfl)
  have pk_83 : oP S_82 o 1 = some q_1 := by rw [eS_82, setP_ne (by decide)]; exact pk_73
  have pk_84 : oP S_82 o 3 = some q_18 := by rw [eS_82, setP_ne (by decide)]; exact pk_74
  have pk_85 : oP S_82 o 5 = some q_37 := by rw [eS_82, setP_ne (by decide)]; exact pk_75
  have ik_86 : oI S_82 o 0 = 0 := by rw [eS_82]; exact ik_76
  have ik_87 : oI S_82 o 2 = 0 := by rw [eS_82]; exact ik_77
  have ik_88 : oI S_82 o 4 = 0 := by rw [eS_82]; exact ik_78
  have ik_89 : oI S_82 o 6 = 0 := by rw [eS_82]; exact ik_79
  have ik_90 : oI S_82 q_58 2 = 0 := by rw [eS_82]; exact hcS_70
  have X_91 : oXc [5001] o Z S_82 := by rw [eS_82]; exact oXc.P X_72
  have pk_92 : oP S_82 o 8 = some q_58 := by rw [eS_82, setP_same]
  refine lv_aload_n hx hb dX10_init_42 rfl (lv_at hl 0 rfl) ?_
  refine va_new (ci := 8) (fs := [.null, .int 0, .null, .int 0, .int 0, .int 0]) (C := RX8) (T := TX8) (N := 6) hx hb hts in_wsX10_init_X8 tyX8 tyX8_ok hown (hts (.classLink RX10 34 RX8) iw_X10_init_15) (hts (.instantiable RX8 6) iw_X10_init_16) (hts (.initialized RX8) iw_X10_init_17) hK hP hD hS hA rfl (fun j hj => by rcases (show j = 0 ∨ j = 1 ∨ j = 2 ∨ j = 3 ∨ j = 4 ∨ j = 5 by omega) with rfl | rfl | rfl | rfl | rfl | rfl <;> rfl) (Nat.le_of_ble_eq_true rfl) (Nat.le_of_ble_eq_true rfl) dX10_init_43 (fun q_93 H hP1 hD1 hS => ?_)
  have hnq_93 := add_q hD1
  obtain ⟨S_94, eS_94⟩ : ∃ zq, zq = addO S_82 q_93 38 := ⟨_, rfl⟩
  have hP : va_P (dC, dI) vwCl (oW cq S_94) H := by rw [eS_94]; exact cP (onew hD1 (by rw [oE_38 add_K, add_I, add_P]; rfl)) hP1
  have hD : va_D A (oW cq S_94) := by rw [eS_94]; exact cD (onew hD1 (by rw [oE_38 add_K, add_I, add_P]; rfl)) hD1
  clear hP1 hD1
  have hIS_94 : oInv S_94 := by rw [eS_94]; exact oInv.add hIS_82 hnq_93 (by decide)
  have XS_94 : oX [] S_82 S_94 := by rw [eS_94]; exact oX.add hnq_93
  have nzq_93 : q_93 ∉ oL Z := oXc.nin X_91 hnq_93
  have pk_95 : oP S_94 o 1 = some q_1 := by rw [eS_94, add_Pn hnq_93 (oX.ty XS_82 t_80).1]; exact pk_83
  have pk_96 : oP S_94 o 3 = some q_18 := by rw [eS_94, add_Pn hnq_93 (oX.ty XS_82 t_80).1]; exact pk_84
  have pk_97 : oP S_94 o 5 = some q_37 := by rw [eS_94, add_Pn hnq_93 (oX.ty XS_82 t_80).1]; exact pk_85
  have pk_98 : oP S_94 o 8 = some q_58 := by rw [eS_94, add_Pn hnq_93 (oX.ty XS_82 t_80).1]; exact pk_92
  have ik_99 : oI S_94 o 0 = 0 := by rw [eS_94, add_In hnq_93 (oX.ty XS_82 t_80).1]; exact ik_86
  have ik_100 : oI S_94 o 2 = 0 := by rw [eS_94, add_In hnq_93 (oX.ty XS_82 t_80).1]; exact ik_87
  have ik_101 : oI S_94 o 4 = 0 := by rw [eS_94, add_In hnq_93 (oX.ty XS_82 t_80).1]; exact ik_88
  have ik_102 : oI S_94 o 6 = 0 := by rw [eS_94, add_In hnq_93 (oX.ty XS_82 t_80).1]; exact ik_89
  have ik_103 : oI S_94 q_58 2 = 0 := by rw [eS_94, add_In hnq_93 (oX.ty XS_82 hxS_70).1]; exact ik_90
  have X_104 : oXc [5001] o Z S_94 := oXc.st X_91 XS_94 (by decide)
  have tq_93 : oty S_94 q_93 38 := by rw [eS_94]; exact add_ty
  refine W.widen (k := 27) (n := 539) (Nat.le_of_ble_eq_true rfl) (Nat.le_of_ble_eq_true rfl) ?_
  refine lv_dup hx hb dX10_init_46 rfl ?_
  have hFc := o_free hD hS hA
  refine va_callv (va_runI (As := []) (rest := [.ref q_93, .ref o]) ⟨hx, hb, hml, hown, hts⟩ (c_X8_init l dC dI H.size cq S_94 hIS_94 q_93 tq_93 (fun j => by rw [eS_94, add_I])) (cwI 0 hts gX10_init_X8_init rfl rfl rfl (hts (.initialized RX8) iw_X10_init_17) (hts (.methodLink RX10 36 yX8_init) iw_X10_init_18) (hts (.instanceMethod yX8_init) iw_X10_init_19) rfl (by decide +kernel) ⟨(Nat.le_of_ble_eq_true rfl), (Nat.le_of_ble_eq_true rfl)⟩) (pr_S hP hK hD) rfl rfl hl.1 rfl (lv_room (Nat.le_of_ble_eq_true rfl)) dX10_init_47 ⟨(Nat.le_of_ble_eq_true rfl), (Nat.le_of_ble_eq_true rfl)⟩) hS (fun q _ h => hFc q h) hFc (fun u t H locs ht hvm w_105 hB hz1 hk1 hS => ?_)
  obtain ⟨S_107, rfl⟩ : ∃ z, z = u := ⟨_, rfl⟩
  obtain ⟨hP1, hK1, hD1⟩ := hB
  rw [ht] at hP1
  have hP : va_P (dC, dI) vwCl (oW cq S_107) H := hP1
  have hD : va_D A (oW cq S_107) := hD1.weaken (fun _ _ _ h => hFc _ h)
  clear hP1 hK1 hD1 hk1 hz1 hvm ht hFc
  refine W.widen (k := 29) (n := 659) (Nat.le_of_ble_eq_true rfl) (Nat.le_of_ble_eq_true rfl) ?_
  obtain ⟨hIS_107, XS_107, hx_108⟩ := w_105
  obtain ⟨hxS_107, hcS_107⟩ := hx_108
  have X_109 : oXc [5001] o Z S_107 := oXc.c X_104 XS_107 nzq_93 (by decide)
  have pk_110 : oP S_107 o 1 = some q_1 := by rw [oXc.p XS_107 (ty_ne (oX.ty XS_94 (oX.ty XS_82 t_80)) tq_93 (by decide)) (oX.ty XS_94 (oX.ty XS_82 t_80)) (by decide)]; exact pk_95
  have pk_111 : oP S_107 o 3 = some q_18 := by rw [oXc.p XS_107 (ty_ne (oX.ty XS_94 (oX.ty XS_82 t_80)) tq_93 (by decide)) (oX.ty XS_94 (oX.ty XS_82 t_80)) (by decide)]; exact pk_96
  have pk_112 : oP S_107 o 5 = some q_37 := by rw [oXc.p XS_107 (ty_ne (oX.ty XS_94 (oX.ty XS_82 t_80)) tq_93 (by decide)) (oX.ty XS_94 (oX.ty XS_82 t_80)) (by decide)]; exact pk_97
  have pk_113 : oP S_107 o 8 = some q_58 := by rw [oXc.p XS_107 (ty_ne (oX.ty XS_94 (oX.ty XS_82 t_80)) tq_93 (by decide)) (oX.ty XS_94 (oX.ty XS_82 t_80)) (by decide)]; exact pk_98
  have ik_114 : oI S_107 o 0 = 0 := by rw [oXc.i XS_107 (ty_ne (oX.ty XS_94 (oX.ty XS_82 t_80)) tq_93 (by decide)) (oX.ty XS_94 (oX.ty XS_82 t_80)) (by decide)]; exact ik_99
  have ik_115 : oI S_107 o 2 = 0 := by rw [oXc.i XS_107 (ty_ne (oX.ty XS_94 (oX.ty XS_82 t_80)) tq_93 (by decide)) (oX.ty XS_94 (oX.ty XS_82 t_80)) (by decide)]; exact ik_100
  have ik_116 : oI S_107 o 4 = 0 := by rw [oXc.i XS_107 (ty_ne (oX.ty XS_94 (oX.ty XS_82 t_80)) tq_93 (by decide)) (oX.ty XS_94 (oX.ty XS_82 t_80)) (by decide)]; exact ik_101
  have ik_117 : oI S_107 o 6 = 0 := by rw [oXc.i XS_107 (ty_ne (oX.ty XS_94 (oX.ty XS_82 t_80)) tq_93 (by decide)) (oX.ty XS_94 (oX.ty XS_82 t_80)) (by decide)]; exact ik_102
  have ik_118 : oI S_107 q_58 2 = 0 := by rw [oXc.i XS_107 (ty_ne (oX.ty XS_94 (oX.ty XS_82 hxS_70)) tq_93 (by decide)) (oX.ty XS_94 (oX.ty XS_82 hxS_70)) (by decide)]; exact ik_103
  have t_119 : oty S_107 o 40 := (oXc.ty XS_107 (ty_ne (oX.ty XS_94 (oX.ty XS_82 t_80)) tq_93 (by decide)) (oX.ty XS_94 (oX.ty XS_82 t_80)))
  obtain ⟨q_120, hq_120⟩ := og (cq := cq) t_119.1 (oE_40 t_119.2)
  refine va_putF (D := (dC, dI)) (ci := 10) (v := .ref q_93) (ty := .object "ShipOffice$Tape") (C := RX10) (T := TX10) (N := 16) hx hb hts in_wsX10_init_X10 tyX10 tyX10_ok nmX10 hown hK hP hD hS q_120 hq_120 rfl 9 (by decide) (hts (.fieldLink RX10 37 "ShipOffice" "tape" "LShipOffice$Tape;") iw_X10_init_20) (fun _ h9 => h9) rfl hin rfl (by decide +kernel) rfl rfl (Nat.le_of_ble_eq_true rfl) dX10_init_50 (fun H locs hP1 hD1 hS => ?_)
  obtain ⟨S_121, eS_121⟩ : ∃ zq, zq = setP S_107 o 9 (some q_93) := ⟨_, rfl⟩
  have hP : va_P (dC, dI) vwCl (oW cq S_121) H := by rw [eS_121]; exact cP (oset t_119.1 hq_120 hD rfl (he_40_9 t_119.2) neP) hP1
  have hD : va_D A (oW cq S_121) := by rw [eS_121]; exact cD (oset t_119.1 hq_120 hD rfl (he_40_9 t_119.2) neP) hD1
  clear hP1 hD1
  have hIS_121 : oInv S_121 := by rw [eS_121]; exact oInv.P (k := 40) hIS_107 t_119.2 (by decide) rfl (by decide) hxS_107 (by decide)
  have XS_121 : oX [2040] S_107 S_121 := by rw [eS_121]; exact oX.P (k := 40) (key := 2040) t_119.2 rfl (List.mem_singleton.mpr rfl)
  have pk_122 : oP S_121 o 1 = some q_1 := by rw [eS_121, setP_ne (by decide)]; exact pk_110
  have pk_123 : oP S_121 o 3 = some q_18 := by rw [eS_121, setP_ne (by decide)]; exact pk_111
  have pk_124 : oP S_121 o 5 = some q_37 := by rw [eS_121, setP_ne (by decide)]; exact pk_112
  have pk_125 : oP S_121 o 8 = some q_58 := by rw [eS_121, setP_ne (by decide)]; exact pk_113
  have ik_126 : oI S_121 o 0 = 0 := by rw [eS_121]; exact ik_114
  have ik_127 : oI S_121 o 2 = 0 := by rw [eS_121]; exact ik_115
  have ik_128 : oI S_121 o 4 = 0 := by rw [eS_121]; exact ik_116
  have ik_129 : oI S_121 o 6 = 0 := by rw [eS_121]; exact ik_117
  have ik_130 : oI S_121 q_58 2 = 0 := by rw [eS_121]; exact ik_118
  have ik_131 : oI S_121 q_93 1 = 0 := by rw [eS_121]; exact hcS_107
  have X_132 : oXc [5001] o Z S_121 := by rw [eS_121]; exact oXc.P X_109
  have pk_133 : oP S_121 o 9 = some q_93 := by rw [eS_121, setP_same]
  refine lv_aload_n hx hb dX10_init_53 rfl (lv_at hl 0 rfl) ?_
  refine va_new (ci := 7) (fs := [.null, .null]) (C := RX7) (T := TX7) (N := 2) hx hb hts in_wsX10_init_X7 tyX7 tyX7_ok hown (hts (.classLink RX10 41 RX7) iw_X10_init_21) (hts (.instantiable RX7 2) iw_X10_init_22) (hts (.initialized RX7) iw_X10_init_23) hK hP hD hS hA rfl (fun j hj => by rcases (show j = 0 ∨ j = 1 by omega) with rfl | rfl <;> rfl) (Nat.le_of_ble_eq_true rfl) (Nat.le_of_ble_eq_true rfl) dX10_init_54 (fun q_134 H hP1 hD1 hS => ?_)
  have hnq_134 := add_q hD1
  obtain ⟨S_135, eS_135⟩ : ∃ zq, zq = addO S_121 q_134 37 := ⟨_, rfl⟩
  have hP : va_P (dC, dI) vwCl (oW cq S_135) H := by rw [eS_135]; exact cP (onew hD1 (by rw [oE_37 add_K, add_P]; rfl)) hP1
  have hD : va_D A (oW cq S_135) := by rw [eS_135]; exact cD (onew hD1 (by rw [oE_37 add_K, add_P]; rfl)) hD1
  clear hP1 hD1
  have hIS_135 : oInv S_135 := by rw [eS_135]; exact oInv.add hIS_121 hnq_134 (by decide)
  have XS_135 : oX [] S_121 S_135 := by rw [eS_135]; exact oX.add hnq_134
  have nzq_134 : q_134 ∉ oL Z := oXc.nin X_132 hnq_134
  have pk_136 : oP S_135 o 1 = some q_1 := by rw [eS_135, add_Pn hnq_134 (oX.ty XS_121 t_119).1]; exact pk_122
  have pk_137 : oP S_135 o 3 = some q_18 := by rw [eS_135, add_Pn hnq_134 (oX.ty XS_121 t_119).1]; exact pk_123
  have pk_138 : oP S_135 o 5 = some q_37 := by rw [eS_135, add_Pn hnq_134 (oX.ty XS_121 t_119).1]; exact pk_124
  have pk_139 : oP S_135 o 8 = some q_58 := by rw [eS_135, add_Pn hnq_134 (oX.ty XS_121 t_119).1]; exact pk_125
  have pk_140 : oP S_135 o 9 = some q_93 := by rw [eS_135, add_Pn hnq_134 (oX.ty XS_121 t_119).1]; exact pk_133
  have ik_141 : oI S_135 o 0 = 0 := by rw [eS_135, add_In hnq_134 (oX.ty XS_121 t_119).1]; exact ik_126
  have ik_142 : oI S_135 o 2 = 0 := by rw [eS_135, add_In hnq_134 (oX.ty XS_121 t_119).1]; exact ik_127
  have ik_143 : oI S_135 o 4 = 0 := by rw [eS_135, add_In hnq_134 (oX.ty XS_121 t_119).1]; exact ik_128
  have ik_144 : oI S_135 o 6 = 0 := by rw [eS_135, add_In hnq_134 (oX.ty XS_121 t_119).1]; exact ik_129
  have ik_145 : oI S_135 q_58 2 = 0 := by rw [eS_135, add_In hnq_134 (oX.ty XS_121 (oXc.ty XS_107 (ty_ne (oX.ty XS_94 (oX.ty XS_82 hxS_70)) tq_93 (by decide)) (oX.ty XS_94 (oX.ty XS_82 hxS_70)))).1]; exact ik_130
  have ik_146 : oI S_135 q_93 1 = 0 := by rw [eS_135, add_In hnq_134 (oX.ty XS_121 hxS_107).1]; exact ik_131
  have X_147 : oXc [5001] o Z S_135 := oXc.st X_132 XS_135 (by decide)
  have tq_134 : oty S_135 q_134 37 := by rw [eS_135]; exact add_ty
  refine W.widen (k := 30) (n := 661) (Nat.le_of_ble_eq_true rfl) (Nat.le_of_ble_eq_true rfl) ?_
  refine lv_dup hx hb dX10_init_57 rfl ?_
  have hFc := o_free hD hS hA
  refine va_callv (va_runI (As := []) (rest := [.ref q_134, .ref o]) ⟨hx, hb, hml, hown, hts⟩ (c_X7_init l dC dI H.size cq S_135 hIS_135 q_134 tq_134) (cwI 0 hts gX10_init_X7_init rfl rfl rfl (hts (.initialized RX7) iw_X10_init_23) (hts (.methodLink RX10 43 yX7_init) iw_X10_init_24) (hts (.instanceMethod yX7_init) iw_X10_init_25) rfl (by decide +kernel) ⟨(Nat.le_of_ble_eq_true rfl), (Nat.le_of_ble_eq_true rfl)⟩) (pr_S hP hK hD) rfl rfl hl.1 rfl (lv_room (Nat.le_of_ble_eq_true rfl)) dX10_init_58 ⟨(Nat.le_of_ble_eq_true rfl), (Nat.le_of_ble_eq_true rfl)⟩) hS (fun q _ h => hFc q h) hFc (fun u t H locs ht hvm w_148 hB hz1 hk1 hS => ?_)
  obtain ⟨S_150, rfl⟩ : ∃ z, z = u := ⟨_, rfl⟩
  obtain ⟨hP1, hK1, hD1⟩ := hB
  rw [ht] at hP1
  have hP : va_P (dC, dI) vwCl (oW cq S_150) H := hP1
  have hD : va_D A (oW cq S_150) := hD1.weaken (fun _ _ _ h => hFc _ h)
  clear hP1 hK1 hD1 hk1 hz1 hvm ht hFc
  refine W.widen (k := 32) (n := 771) (Nat.le_of_ble_eq_true rfl) (Nat.le_of_ble_eq_true rfl) ?_
  obtain ⟨hIS_150, XS_150, hx_151⟩ := w_148
  obtain ⟨hxS_150, hcS_150⟩ := hx_151
  have X_152 : oXc [5001] o Z S_150 := oXc.c X_147 XS_150 nzq_134 (by decide)
  have pk_153 : oP S_150 o 1 = some q_1 := by rw [oXc.p XS_150 (ty_ne (oX.ty XS_135 (oX.ty XS_121 t_119)) tq_134 (by decide)) (oX.ty XS_135 (oX.ty XS_121 t_119)) (by decide)]; exact pk_136
  have pk_154 : oP S_150 o 3 = some q_18 := by rw [oXc.p XS_150 (ty_ne (oX.ty XS_135 (oX.ty XS_121 t_119)) tq_134 (by decide)) (oX.ty XS_135 (oX.ty XS_121 t_119)) (by decide)]; exact pk_137
  have pk_155 : oP S_150 o 5 = some q_37 := by rw [oXc.p XS_150 (ty_ne (oX.ty XS_135 (oX.ty XS_121 t_119)) tq_134 (by decide)) (oX.ty XS_135 (oX.ty XS_121 t_119)) (by decide)]; exact pk_138
  have pk_156 : oP S_150 o 8 = some q_58 := by rw [oXc.p XS_150 (ty_ne (oX.ty XS_135 (oX.ty XS_121 t_119)) tq_134 (by decide)) (oX.ty XS_135 (oX.ty XS_121 t_119)) (by decide)]; exact pk_139
  have pk_157 : oP S_150 o 9 = some q_93 := by rw [oXc.p XS_150 (ty_ne (oX.ty XS_135 (oX.ty XS_121 t_119)) tq_134 (by decide)) (oX.ty XS_135 (oX.ty XS_121 t_119)) (by decide)]; exact pk_140
  have ik_158 : oI S_150 o 0 = 0 := by rw [oXc.i XS_150 (ty_ne (oX.ty XS_135 (oX.ty XS_121 t_119)) tq_134 (by decide)) (oX.ty XS_135 (oX.ty XS_121 t_119)) (by decide)]; exact ik_141
  have ik_159 : oI S_150 o 2 = 0 := by rw [oXc.i XS_150 (ty_ne (oX.ty XS_135 (oX.ty XS_121 t_119)) tq_134 (by decide)) (oX.ty XS_135 (oX.ty XS_121 t_119)) (by decide)]; exact ik_142
  have ik_160 : oI S_150 o 4 = 0 := by rw [oXc.i XS_150 (ty_ne (oX.ty XS_135 (oX.ty XS_121 t_119)) tq_134 (by decide)) (oX.ty XS_135 (oX.ty XS_121 t_119)) (by decide)]; exact ik_143
  have ik_161 : oI S_150 o 6 = 0 := by rw [oXc.i XS_150 (ty_ne (oX.ty XS_135 (oX.ty XS_121 t_119)) tq_134 (by decide)) (oX.ty XS_135 (oX.ty XS_121 t_119)) (by decide)]; exact ik_144
  have ik_162 : oI S_150 q_58 2 = 0 := by rw [oXc.i XS_150 (ty_ne (oX.ty XS_135 (oX.ty XS_121 (oXc.ty XS_107 (ty_ne (oX.ty XS_94 (oX.ty XS_82 hxS_70)) tq_93 (by decide)) (oX.ty XS_94 (oX.ty XS_82 hxS_70))))) tq_134 (by decide)) (oX.ty XS_135 (oX.ty XS_121 (oXc.ty XS_107 (ty_ne (oX.ty XS_94 (oX.ty XS_82 hxS_70)) tq_93 (by decide)) (oX.ty XS_94 (oX.ty XS_82 hxS_70))))) (by decide)]; exact ik_145
  have ik_163 : oI S_150 q_93 1 = 0 := by rw [oXc.i XS_150 (ty_ne (oX.ty XS_135 (oX.ty XS_121 hxS_107)) tq_134 (by decide)) (oX.ty XS_135 (oX.ty XS_121 hxS_107)) (by decide)]; exact ik_146
  obtain ⟨b_164, hb_164⟩ := oInv.nn (i := 0) hIS_150 hxS_150 rfl
  have tb_164 : oty S_150 b_164 200 := oInv.rd hIS_150 hxS_150.2 hb_164 rfl rfl
  have zf_165 : oI S_150 b_164 = fun _ => 0 := hcS_150 b_164 hb_164
  have t_166 : oty S_150 o 40 := (oXc.ty XS_150 (ty_ne (oX.ty XS_135 (oX.ty XS_121 t_119)) tq_134 (by decide)) (oX.ty XS_135 (oX.ty XS_121 t_119)))
  obtain ⟨q_167, hq_167⟩ := og (cq := cq) t_166.1 (oE_40 t_166.2)
  refine va_putF (D := (dC, dI)) (ci := 10) (v := .ref q_134) (ty := .object "ShipOffice$Sea") (C := RX10) (T := TX10) (N := 16) hx hb hts in_wsX10_init_X10 tyX10 tyX10_ok nmX10 hown hK hP hD hS q_167 hq_167 rfl 10 (by decide) (hts (.fieldLink RX10 44 "ShipOffice" "sea" "LShipOffice$Sea;") iw_X10_init_26) (fun _ h9 => h9) rfl hin rfl (by decide +kernel) rfl rfl (Nat.le_of_ble_eq_true rfl) dX10_init_61 (fun H locs hP1 hD1 hS => ?_)
  obtain ⟨S_168, eS_168⟩ : ∃ zq, zq = setP S_150 o 10 (some q_134) := ⟨_, rfl⟩
  have hP : va_P (dC, dI) vwCl (oW cq S_168) H := by rw [eS_168]; exact cP (oset t_166.1 hq_167 hD rfl (he_40_10 t_166.2) neP) hP1
  have hD : va_D A (oW cq S_168) := by rw [eS_168]; exact cD (oset t_166.1 hq_167 hD rfl (he_40_10 t_166.2) neP) hD1
  clear hP1 hD1
  have hIS_168 : oInv S_168 := by rw [eS_168]; exact oInv.P (k := 40) hIS_150 t_166.2 (by decide) rfl (by decide) hxS_150 (by decide)
  have XS_168 : oX [2040] S_150 S_168 := by rw [eS_168]; exact oX.P (k := 40) (key := 2040) t_166.2 rfl (List.mem_singleton.mpr rfl)
  have pk_169 : oP S_168 o 1 = some q_1 := by rw [eS_168, setP_ne (by decide)]; exact pk_153
  have pk_170 : oP S_168 o 3 = some q_18 := by rw [eS_168, setP_ne (by decide)]; exact pk_154
  have pk_171 : oP S_168 o 5 = some q_37 := by rw [eS_168, setP_ne (by decide)]; exact pk_155
  have pk_172 : oP S_168 o 8 = some q_58 := by rw [eS_168, setP_ne (by decide)]; exact pk_156
  have pk_173 : oP S_168 o 9 = some q_93 := by rw [eS_168, setP_ne (by decide)]; exact pk_157
  have pk_174 : oP S_168 q_134 0 = some b_164 := by rw [eS_168, setP_oth (ty_ne hxS_150 t_166 (by decide))]; exact hb_164
  have ik_175 : oI S_168 o 0 = 0 := by rw [eS_168]; exact ik_158
  have ik_176 : oI S_168 o 2 = 0 := by rw [eS_168]; exact ik_159
  have ik_177 : oI S_168 o 4 = 0 := by rw [eS_168]; exact ik_160
  have ik_178 : oI S_168 o 6 = 0 := by rw [eS_168]; exact ik_161
  have ik_179 : oI S_168 q_58 2 = 0 := by rw [eS_168]; exact ik_162
  have ik_180 : oI S_168 q_93 1 = 0 := by rw [eS_168]; exact ik_163
  have zf_181 : oI S_168 b_164 = fun _ => 0 := by rw [eS_168]; exact zf_165
  have X_182 : oXc [5001] o Z S_168 := by rw [eS_168]; exact oXc.P X_152
  have pk_183 : oP S_168 o 10 = some q_134 := by rw [eS_168, setP_same]
  refine lv_aload_n hx hb dX10_init_64 rfl (lv_at hl 0 rfl) ?_
  refine va_new (ci := 4) (fs := [.null, .null, .int 0, .null, .int 0, .int 0]) (C := RX4) (T := TX4) (N := 6) hx hb hts in_wsX10_init_X4 tyX4 tyX4_ok hown (hts (.classLink RX10 48 RX4) iw_X10_init_27) (hts (.instantiable RX4 6) iw_X10_init_28) (hts (.initialized RX4) iw_X10_init_29) hK hP hD hS hA rfl (fun j hj => by rcases (show j = 0 ∨ j = 1 ∨ j = 2 ∨ j = 3 ∨ j = 4 ∨ j = 5 by omega) with rfl | rfl | rfl | rfl | rfl | rfl <;> rfl) (Nat.le_of_ble_eq_true rfl) (Nat.le_of_ble_eq_true rfl) dX10_init_65 (fun q_184 H hP1 hD1 hS => ?_)
  have hnq_184 := add_q hD1
  obtain ⟨S_185, eS_185⟩ : ∃ zq, zq = addO S_168 q_184 34 := ⟨_, rfl⟩
  have hP : va_P (dC, dI) vwCl (oW cq S_185) H := by rw [eS_185]; exact cP (onew hD1 (by rw [oE_34 add_K, add_I, add_P]; rfl)) hP1
  have hD : va_D A (oW cq S_185) := by rw [eS_185]; exact cD (onew hD1 (by rw [oE_34 add_K, add_I, add_P]; rfl)) hD1
  clear hP1 hD1
  have hIS_185 : oInv S_185 := by rw [eS_185]; exact oInv.add hIS_168 hnq_184 (by decide)
  have XS_185 : oX [] S_168 S_185 := by rw [eS_185]; exact oX.add hnq_184
  have nzq_184 : q_184 ∉ oL Z := oXc.nin X_182 hnq_184
  have pk_186 : oP S_185 o 1 = some q_1 := by rw [eS_185, add_Pn hnq_184 (oX.ty XS_168 t_166).1]; exact pk_169
  have pk_187 : oP S_185 o 3 = some q_18 := by rw [eS_185, add_Pn hnq_184 (oX.ty XS_168 t_166).1]; exact pk_170
  have pk_188 : oP S_185 o 5 = some q_37 := by rw [eS_185, add_Pn hnq_184 (oX.ty XS_168 t_166).1]; exact pk_171
  have pk_189 : oP S_185 o 8 = some q_58 := by rw [eS_185, add_Pn hnq_184 (oX.ty XS_168 t_166).1]; exact pk_172
  have pk_190 : oP S_185 o 9 = some q_93 := by rw [eS_185, add_Pn hnq_184 (oX.ty XS_168 t_166).1]; exact pk_173
  have pk_191 : oP S_185 q_134 0 = some b_164 := by rw [eS_185, add_Pn hnq_184 (oX.ty XS_168 hxS_150).1]; exact pk_174
  have pk_192 : oP S_185 o 10 = some q_134 := by rw [eS_185, add_Pn hnq_184 (oX.ty XS_168 t_166).1]; exact pk_183
  have ik_193 : oI S_185 o 0 = 0 := by rw [eS_185, add_In hnq_184 (oX.ty XS_168 t_166).1]; exact ik_175
  have ik_194 : oI S_185 o 2 = 0 := by rw [eS_185, add_In hnq_184 (oX.ty XS_168 t_166).1]; exact ik_176
  have ik_195 : oI S_185 o 4 = 0 := by rw [eS_185, add_In hnq_184 (oX.ty XS_168 t_166).1]; exact ik_177
  have ik_196 : oI S_185 o 6 = 0 := by rw [eS_185, add_In hnq_184 (oX.ty XS_168 t_166).1]; exact ik_178
  have ik_197 : oI S_185 q_58 2 = 0 := by rw [eS_185, add_In hnq_184 (oX.ty XS_168 (oXc.ty XS_150 (ty_ne (oX.ty XS_135 (oX.ty XS_121 (oXc.ty XS_107 (ty_ne (oX.ty XS_94 (oX.ty XS_82 hxS_70)) tq_93 (by decide)) (oX.ty XS_94 (oX.ty XS_82 hxS_70))))) tq_134 (by decide)) (oX.ty XS_135 (oX.ty XS_121 (oXc.ty XS_107 (ty_ne (oX.ty XS_94 (oX.ty XS_82 hxS_70)) tq_93 (by decide)) (oX.ty XS_94 (oX.ty XS_82 hxS_70))))))).1]; exact ik_179
  have ik_198 : oI S_185 q_93 1 = 0 := by rw [eS_185, add_In hnq_184 (oX.ty XS_168 (oXc.ty XS_150 (ty_ne (oX.ty XS_135 (oX.ty XS_121 hxS_107)) tq_134 (by decide)) (oX.ty XS_135 (oX.ty XS_121 hxS_107)))).1]; exact ik_180
  have zf_199 : oI S_185 b_164 = fun _ => 0 := by rw [eS_185, add_If hnq_184 (oX.ty XS_168 tb_164).1]; exact zf_181
  have X_200 : oXc [5001] o Z S_185 := oXc.st X_182 XS_185 (by decide)
  have tq_184 : oty S_185 q_184 34 := by rw [eS_185]; exact add_ty
  refine W.widen (k := 33) (n := 777) (Nat.le_of_ble_eq_true rfl) (Nat.le_of_ble_eq_true rfl) ?_
  refine lv_dup hx hb dX10_init_68 rfl ?_
  have hFc := o_free hD hS hA
  refine va_callv (va_runI (As := []) (rest := [.ref q_184, .ref o]) ⟨hx, hb, hml, hown, hts⟩ (c_X4_init l dC dI H.size cq S_185 hIS_185 q_184 tq_184) (cwI 0 hts gX10_init_X4_init rfl rfl rfl (hts (.initialized RX4) iw_X10_init_29) (hts (.methodLink RX10 50 yX4_init) iw_X10_init_30) (hts (.instanceMethod yX4_init) iw_X10_init_31) rfl (by decide +kernel) ⟨(Nat.le_of_ble_eq_true rfl), (Nat.le_of_ble_eq_true rfl)⟩) (pr_S hP hK hD) rfl rfl hl.1 rfl (lv_room (Nat.le_of_ble_eq_true rfl)) dX10_init_69 ⟨(Nat.le_of_ble_eq_true rfl), (Nat.le_of_ble_eq_true rfl)⟩) hS (fun q _ h => hFc q h) hFc (fun u t H locs ht hvm w_201 hB hz1 hk1 hS => ?_)
  obtain ⟨S_203, rfl⟩ : ∃ z, z = u := ⟨_, rfl⟩
  obtain ⟨hP1, hK1, hD1⟩ := hB
  rw [ht] at hP1
  have hP : va_P (dC, dI) vwCl (oW cq S_203) H := hP1
  have hD : va_D A (oW cq S_203) := hD1.weaken (fun _ _ _ h => hFc _ h)
  clear hP1 hK1 hD1 hk1 hz1 hvm ht hFc
  refine W.widen (k := 36) (n := 874) (Nat.le_of_ble_eq_true rfl) (Nat.le_of_ble_eq_true rfl) ?_
  obtain ⟨hIS_203, XS_203, hx_204⟩ := w_201
  have hxS_203 := hx_204
  have X_205 : oXc [5001] o Z S_203 := oXc.c X_200 XS_203 nzq_184 (by decide)
  have pk_206 : oP S_203 o 1 = some q_1 := by rw [oXc.p XS_203 (ty_ne (oX.ty XS_185 (oX.ty XS_168 t_166)) tq_184 (by decide)) (oX.ty XS_185 (oX.ty XS_168 t_166)) (by decide)]; exact pk_186
  have pk_207 : oP S_203 o 3 = some q_18 := by rw [oXc.p XS_203 (ty_ne (oX.ty XS_185 (oX.ty XS_168 t_166)) tq_184 (by decide)) (oX.ty XS_185 (oX.ty XS_168 t_166)) (by decide)]; exact pk_187
  have pk_208 : oP S_203 o 5 = some q_37 := by rw [oXc.p XS_203 (ty_ne (oX.ty XS_185 (oX.ty XS_168 t_166)) tq_184 (by decide)) (oX.ty XS_185 (oX.ty XS_168 t_166)) (by decide)]; exact pk_188
  have pk_209 : oP S_203 o 8 = some q_58 := by rw [oXc.p XS_203 (ty_ne (oX.ty XS_185 (oX.ty XS_168 t_166)) tq_184 (by decide)) (oX.ty XS_185 (oX.ty XS_168 t_166)) (by decide)]; exact pk_189
  have pk_210 : oP S_203 o 9 = some q_93 := by rw [oXc.p XS_203 (ty_ne (oX.ty XS_185 (oX.ty XS_168 t_166)) tq_184 (by decide)) (oX.ty XS_185 (oX.ty XS_168 t_166)) (by decide)]; exact pk_190
  have pk_211 : oP S_203 q_134 0 = some b_164 := by rw [oXc.p XS_203 (ty_ne (oX.ty XS_185 (oX.ty XS_168 hxS_150)) tq_184 (by decide)) (oX.ty XS_185 (oX.ty XS_168 hxS_150)) (by decide)]; exact pk_191
  have pk_212 : oP S_203 o 10 = some q_134 := by rw [oXc.p XS_203 (ty_ne (oX.ty XS_185 (oX.ty XS_168 t_166)) tq_184 (by decide)) (oX.ty XS_185 (oX.ty XS_168 t_166)) (by decide)]; exact pk_192
  have ik_213 : oI S_203 o 0 = 0 := by rw [oXc.i XS_203 (ty_ne (oX.ty XS_185 (oX.ty XS_168 t_166)) tq_184 (by decide)) (oX.ty XS_185 (oX.ty XS_168 t_166)) (by decide)]; exact ik_193
  have ik_214 : oI S_203 o 2 = 0 := by rw [oXc.i XS_203 (ty_ne (oX.ty XS_185 (oX.ty XS_168 t_166)) tq_184 (by decide)) (oX.ty XS_185 (oX.ty XS_168 t_166)) (by decide)]; exact ik_194
  have ik_215 : oI S_203 o 4 = 0 := by rw [oXc.i XS_203 (ty_ne (oX.ty XS_185 (oX.ty XS_168 t_166)) tq_184 (by decide)) (oX.ty XS_185 (oX.ty XS_168 t_166)) (by decide)]; exact ik_195
  have ik_216 : oI S_203 o 6 = 0 := by rw [oXc.i XS_203 (ty_ne (oX.ty XS_185 (oX.ty XS_168 t_166)) tq_184 (by decide)) (oX.ty XS_185 (oX.ty XS_168 t_166)) (by decide)]; exact ik_196
  have ik_217 : oI S_203 q_58 2 = 0 := by rw [oXc.i XS_203 (ty_ne (oX.ty XS_185 (oX.ty XS_168 (oXc.ty XS_150 (ty_ne (oX.ty XS_135 (oX.ty XS_121 (oXc.ty XS_107 (ty_ne (oX.ty XS_94 (oX.ty XS_82 hxS_70)) tq_93 (by decide)) (oX.ty XS_94 (oX.ty XS_82 hxS_70))))) tq_134 (by decide)) (oX.ty XS_135 (oX.ty XS_121 (oXc.ty XS_107 (ty_ne (oX.ty XS_94 (oX.ty XS_82 hxS_70)) tq_93 (by decide)) (oX.ty XS_94 (oX.ty XS_82 hxS_70)))))))) tq_184 (by decide)) (oX.ty XS_185 (oX.ty XS_168 (oXc.ty XS_150 (ty_ne (oX.ty XS_135 (oX.ty XS_121 (oXc.ty XS_107 (ty_ne (oX.ty XS_94 (oX.ty XS_82 hxS_70)) tq_93 (by decide)) (oX.ty XS_94 (oX.ty XS_82 hxS_70))))) tq_134 (by decide)) (oX.ty XS_135 (oX.ty XS_121 (oXc.ty XS_107 (ty_ne (oX.ty XS_94 (oX.ty XS_82 hxS_70)) tq_93 (by decide)) (oX.ty XS_94 (oX.ty XS_82 hxS_70)))))))) (by decide)]; exact ik_197
  have ik_218 : oI S_203 q_93 1 = 0 := by rw [oXc.i XS_203 (ty_ne (oX.ty XS_185 (oX.ty XS_168 (oXc.ty XS_150 (ty_ne (oX.ty XS_135 (oX.ty XS_121 hxS_107)) tq_134 (by decide)) (oX.ty XS_135 (oX.ty XS_121 hxS_107))))) tq_184 (by decide)) (oX.ty XS_185 (oX.ty XS_168 (oXc.ty XS_150 (ty_ne (oX.ty XS_135 (oX.ty XS_121 hxS_107)) tq_134 (by decide)) (oX.ty XS_135 (oX.ty XS_121 hxS_107))))) (by decide)]; exact ik_198
  have zf_219 : oI S_203 b_164 = fun _ => 0 := by rw [oXc.f XS_203 (ty_ne (oX.ty XS_185 (oX.ty XS_168 tb_164)) tq_184 (by decide)) (oX.ty XS_185 (oX.ty XS_168 tb_164)) (fun _ => nkw (by decide) (by decide) (by decide))]; exact zf_199
  have t_220 : oty S_203 o 40 := (oXc.ty XS_203 (ty_ne (oX.ty XS_185 (oX.ty XS_168 t_166)) tq_184 (by decide)) (oX.ty XS_185 (oX.ty XS_168 t_166)))
  obtain ⟨q_221, hq_221⟩ := og (cq := cq) t_220.1 (oE_40 t_220.2)
  refine va_putF (D := (dC, dI)) (ci := 10) (v := .ref q_184) (ty := .object "ShipOffice$Hiring") (C := RX10) (T := TX10) (N := 16) hx hb hts in_wsX10_init_X10 tyX10 tyX10_ok nmX10 hown hK hP hD hS q_221 hq_221 rfl 11 (by decide) (hts (.fieldLink RX10 51 "ShipOffice" "hiring" "LShipOffice$Hiring;") iw_X10_init_32) (fun _ h9 => h9) rfl hin rfl (by decide +kernel) rfl rfl (Nat.le_of_ble_eq_true rfl) dX10_init_72 (fun H locs hP1 hD1 hS => ?_)
  obtain ⟨S_222, eS_222⟩ : ∃ zq, zq = setP S_203 o 11 (some q_184) := ⟨_, rfl⟩
  have hP : va_P (dC, dI) vwCl (oW cq S_222) H := by rw [eS_222]; exact cP (oset t_220.1 hq_221 hD rfl (he_40_11 t_220.2) neP) hP1
  have hD : va_D A (oW cq S_222) := by rw [eS_222]; exact cD (oset t_220.1 hq_221 hD rfl (he_40_11 t_220.2) neP) hD1
  clear hP1 hD1
  have hIS_222 : oInv S_222 := by rw [eS_222]; exact oInv.P (k := 40) hIS_203 t_220.2 (by decide) rfl (by decide) hxS_203 (by decide)
  have XS_222 : oX [2040] S_203 S_222 := by rw [eS_222]; exact oX.P (k := 40) (key := 2040) t_220.2 rfl (List.mem_singleton.mpr rfl)
  have pk_223 : oP S_222 o 1 = some q_1 := by rw [eS_222, setP_ne (by decide)]; exact pk_206
  have pk_224 : oP S_222 o 3 = some q_18 := by rw [eS_222, setP_ne (by decide)]; exact pk_207
  have pk_225 : oP S_222 o 5 = some q_37 := by rw [eS_222, setP_ne (by decide)]; exact pk_208
  have pk_226 : oP S_222 o 8 = some q_58 := by rw [eS_222, setP_ne (by decide)]; exact pk_209
  have pk_227 : oP S_222 o 9 = some q_93 := by rw [eS_222, setP_ne (by decide)]; exact pk_210
  have pk_228 : oP S_222 q_134 0 = some b_164 := by rw [eS_222, setP_oth (ty_ne (oXc.ty XS_203 (ty_ne (oX.ty XS_185 (oX.ty XS_168 hxS_150)) tq_184 (by decide)) (oX.ty XS_185 (oX.ty XS_168 hxS_150))) t_220 (by decide))]; exact pk_211
  have pk_229 : oP S_222 o 10 = some q_134 := by rw [eS_222, setP_ne (by decide)]; exact pk_212
  have ik_230 : oI S_222 o 0 = 0 := by rw [eS_222]; exact ik_213
  have ik_231 : oI S_222 o 2 = 0 := by rw [eS_222]; exact ik_214
  have ik_232 : oI S_222 o 4 = 0 := by rw [eS_222]; exact ik_215
  have ik_233 : oI S_222 o 6 = 0 := by rw [eS_222]; exact ik_216
  have ik_234 : oI S_222 q_58 2 = 0 := by rw [eS_222]; exact ik_217
  have ik_235 : oI S_222 q_93 1 = 0 := by rw [eS_222]; exact ik_218
  have zf_236 : oI S_222 b_164 = fun _ => 0 := by rw [eS_222]; exact zf_219
  have X_237 : oXc [5001] o Z S_222 := by rw [eS_222]; exact oXc.P X_205
  have pk_238 : oP S_222 o 11 = some q_184 := by rw [eS_222, setP_same]
  refine lv_aload_n hx hb dX10_init_75 rfl (lv_at hl 0 rfl) ?_
  refine va_gets hx hb hZ.1.1 hS hown (hts (.fieldLink RX10 55 "ShipOffice" "LETTERS" "[C") iw_X10_init_33) (fun _ h9 => h9) dX10_init_76 ?_
  refine va_tlen (v := 8) hx hb hZ.1.2.1 hS rfl dX10_init_79 ?_
  refine va_newa (atype := .int) (ty := .int) (a0 := (8, .inl (fun _ => 0))) hx hb (hts (.arrayClass .int) iw_X10_init_34) rfl hK hP hD hS hA (fun _ => rfl) (by decide) (by decide) (by decide) (Nat.le_of_ble_eq_true rfl) (Nat.le_of_ble_eq_true rfl) dX10_init_80 (fun q_239 k_240 H hK1 hP1 hD1 hS => ?_)
  obtain ⟨rfl, -⟩ := lv_ad (k := 0) hK1 rfl
  clear hK1
  have hnq_239 := add_q hD1
  obtain ⟨S_241, eS_241⟩ : ∃ zq, zq = addO S_222 q_239 108 := ⟨_, rfl⟩
  have hP : va_P (dC, dI) vwCl (oW cq S_241) H := by rw [eS_241]; exact cP (onew hD1 (by rw [oE_a1 (n := 8) add_K (by decide), add_I])) hP1
  have hD : va_D A (oW cq S_241) := by rw [eS_241]; exact cD (onew hD1 (by rw [oE_a1 (n := 8) add_K (by decide), add_I])) hD1
  clear hP1 hD1
  have hIS_241 : oInv S_241 := by rw [eS_241]; exact oInv.add hIS_222 hnq_239 (by decide)
  have XS_241 : oX [] S_222 S_241 := by rw [eS_241]; exact oX.add hnq_239
  have nzq_239 : q_239 ∉ oL Z := oXc.nin X_237 hnq_239
  have pk_242 : oP S_241 o 1 = some q_1 := by rw [eS_241, add_Pn hnq_239 (oX.ty XS_222 t_220).1]; exact pk_223
  have pk_243 : oP S_241 o 3 = some q_18 := by rw [eS_241, add_Pn hnq_239 (oX.ty XS_222 t_220).1]; exact pk_224
  have pk_244 : oP S_241 o 5 = some q_37 := by rw [eS_241, add_Pn hnq_239 (oX.ty XS_222 t_220).1]; exact pk_225
  have pk_245 : oP S_241 o 8 = some q_58 := by rw [eS_241, add_Pn hnq_239 (oX.ty XS_222 t_220).1]; exact pk_226
  have pk_246 : oP S_241 o 9 = some q_93 := by rw [eS_241, add_Pn hnq_239 (oX.ty XS_222 t_220).1]; exact pk_227
  have pk_247 : oP S_241 q_134 0 = some b_164 := by rw [eS_241, add_Pn hnq_239 (oX.ty XS_222 (oXc.ty XS_203 (ty_ne (oX.ty XS_185 (oX.ty XS_168 hxS_150)) tq_184 (by decide)) (oX.ty XS_185 (oX.ty XS_168 hxS_150)))).1]; exact pk_228
  have pk_248 : oP S_241 o 10 = some q_134 := by rw [eS_241, add_Pn hnq_239 (oX.ty XS_222 t_220).1]; exact pk_229
  have pk_249 : oP S_241 o 11 = some q_184 := by rw [eS_241, add_Pn hnq_239 (oX.ty XS_222 t_220).1]; exact pk_238
  have ik_250 : oI S_241 o 0 = 0 := by rw [eS_241, add_In hnq_239 (oX.ty XS_222 t_220).1]; exact ik_230
  have ik_251 : oI S_241 o 2 = 0 := by rw [eS_241, add_In hnq_239 (oX.ty XS_222 t_220).1]; exact ik_231
  have ik_252 : oI S_241 o 4 = 0 := by rw [eS_241, add_In hnq_239 (oX.ty XS_222 t_220).1]; exact ik_232
  have ik_253 : oI S_241 o 6 = 0 := by rw [eS_241, add_In hnq_239 (oX.ty XS_222 t_220).1]; exact ik_233
  have ik_254 : oI S_241 q_58 2 = 0 := by rw [eS_241, add_In hnq_239 (oX.ty XS_222 (oXc.ty XS_203 (ty_ne (oX.ty XS_185 (oX.ty XS_168 (oXc.ty XS_150 (ty_ne (oX.ty XS_135 (oX.ty XS_121 (oXc.ty XS_107 (ty_ne (oX.ty XS_94 (oX.ty XS_82 hxS_70)) tq_93 (by decide)) (oX.ty XS_94 (oX.ty XS_82 hxS_70))))) tq_134 (by decide)) (oX.ty XS_135 (oX.ty XS_121 (oXc.ty XS_107 (ty_ne (oX.ty XS_94 (oX.ty XS_82 hxS_70)) tq_93 (by decide)) (oX.ty XS_94 (oX.ty XS_82 hxS_70)))))))) tq_184 (by decide)) (oX.ty XS_185 (oX.ty XS_168 (oXc.ty XS_150 (ty_ne (oX.ty XS_135 (oX.ty XS_121 (oXc.ty XS_107 (ty_ne (oX.ty XS_94 (oX.ty XS_82 hxS_70)) tq_93 (by decide)) (oX.ty XS_94 (oX.ty XS_82 hxS_70))))) tq_134 (by decide)) (oX.ty XS_135 (oX.ty XS_121 (oXc.ty XS_107 (ty_ne (oX.ty XS_94 (oX.ty XS_82 hxS_70)) tq_93 (by decide)) (oX.ty XS_94 (oX.ty XS_82 hxS_70)))))))))).1]; exact ik_234
  have ik_255 : oI S_241 q_93 1 = 0 := by rw [eS_241, add_In hnq_239 (oX.ty XS_222 (oXc.ty XS_203 (ty_ne (oX.ty XS_185 (oX.ty XS_168 (oXc.ty XS_150 (ty_ne (oX.ty XS_135 (oX.ty XS_121 hxS_107)) tq_134 (by decide)) (oX.ty XS_135 (oX.ty XS_121 hxS_107))))) tq_184 (by decide)) (oX.ty XS_185 (oX.ty XS_168 (oXc.ty XS_150 (ty_ne (oX.ty XS_135 (oX.ty XS_121 hxS_107)) tq_134 (by decide)) (oX.ty XS_135 (oX.ty XS_121 hxS_107))))))).1]; exact ik_235
  have zf_256 : oI S_241 b_164 = fun _ => 0 := by rw [eS_241, add_If hnq_239 (oX.ty XS_222 (oXc.ty XS_203 (ty_ne (oX.ty XS_185 (oX.ty XS_168 tb_164)) tq_184 (by decide)) (oX.ty XS_185 (oX.ty XS_168 tb_164)))).1]; exact zf_236
  have X_257 : oXc [5001] o Z S_241 := oXc.st X_237 XS_241 (by decide)
  have tq_239 : oty S_241 q_239 108 := by rw [eS_241]; exact add_ty
  refine W.widen (k := 37) (n := 882) (Nat.le_of_ble_eq_true rfl) (Nat.le_of_ble_eq_true rfl) ?_
  have t_258 : oty S_241 o 40 := (oX.ty XS_241 (oX.ty XS_222 t_220))
  obtain ⟨q_259, hq_259⟩ := og (cq := cq) t_258.1 (oE_40 t_258.2)
  refine va_putF (D := (dC, dI)) (ci := 10) (v := .ref q_239) (ty := .array .int) (C := RX10) (T := TX10) (N := 16) hx hb hts in_wsX10_init_X10 tyX10 tyX10_ok nmX10 hown hK hP hD hS q_259 hq_259 rfl 12 (by decide) (hts (.fieldLink RX10 59 "ShipOffice" "letters" "[I") iw_X10_init_35) (fun _ h9 => h9) rfl hin rfl (by decide +kernel) rfl rfl (Nat.le_of_ble_eq_true rfl) dX10_init_82 (fun H locs hP1 hD1 hS => ?_)
  obtain ⟨S_260, eS_260⟩ : ∃ zq, zq = setP S_241 o 12 (some q_239) := ⟨_, rfl⟩
  have hP : va_P (dC, dI) vwCl (oW cq S_260) H := by rw [eS_260]; exact cP (oset t_258.1 hq_259 hD rfl (he_40_12 t_258.2) neP) hP1
  have hD : va_D A (oW cq S_260) := by rw [eS_260]; exact cD (oset t_258.1 hq_259 hD rfl (he_40_12 t_258.2) neP) hD1
  clear hP1 hD1
  have hIS_260 : oInv S_260 := by rw [eS_260]; exact oInv.P (k := 40) hIS_241 t_258.2 (by decide) rfl (by decide) tq_239 (by decide)
  have XS_260 : oX [2040] S_241 S_260 := by rw [eS_260]; exact oX.P (k := 40) (key := 2040) t_258.2 rfl (List.mem_singleton.mpr rfl)
  have pk_261 : oP S_260 o 1 = some q_1 := by rw [eS_260, setP_ne (by decide)]; exact pk_242
  have pk_262 : oP S_260 o 3 = some q_18 := by rw [eS_260, setP_ne (by decide)]; exact pk_243
  have pk_263 : oP S_260 o 5 = some q_37 := by rw [eS_260, setP_ne (by decide)]; exact pk_244
  have pk_264 : oP S_260 o 8 = some q_58 := by rw [eS_260, setP_ne (by decide)]; exact pk_245
  have pk_265 : oP S_260 o 9 = some q_93 := by rw [eS_260, setP_ne (by decide)]; exact pk_246
  have pk_266 : oP S_260 q_134 0 = some b_164 := by rw [eS_260, setP_oth (ty_ne (oX.ty XS_241 (oX.ty XS_222 (oXc.ty XS_203 (ty_ne (oX.ty XS_185 (oX.ty XS_168 hxS_150)) tq_184 (by decide)) (oX.ty XS_185 (oX.ty XS_168 hxS_150))))) t_258 (by decide))]; exact pk_247
  have pk_267 : oP S_260 o 10 = some q_134 := by rw [eS_260, setP_ne (by decide)]; exact pk_248
  have pk_268 : oP S_260 o 11 = some q_184 := by rw [eS_260, setP_ne (by decide)]; exact pk_249
  have ik_269 : oI S_260 o 0 = 0 := by rw [eS_260]; exact ik_250
  have ik_270 : oI S_260 o 2 = 0 := by rw [eS_260]; exact ik_251
  have ik_271 : oI S_260 o 4 = 0 := by rw [eS_260]; exact ik_252
  have ik_272 : oI S_260 o 6 = 0 := by rw [eS_260]; exact ik_253
  have ik_273 : oI S_260 q_58 2 = 0 := by rw [eS_260]; exact ik_254
  have ik_274 : oI S_260 q_93 1 = 0 := by rw [eS_260]; exact ik_255
  have zf_275 : oI S_260 b_164 = fun _ => 0 := by rw [eS_260]; exact zf_256
  have X_276 : oXc [5001] o Z S_260 := by rw [eS_260]; exact oXc.P X_257
  have pk_277 : oP S_260 o 12 = some q_239 := by rw [eS_260, setP_same]
  refine lv_aload_n hx hb dX10_init_85 rfl (lv_at hl 0 rfl) ?_
  refine lv_bipush (v := 12) hx hb dX10_init_86 (by decide) ?_
  refine va_newa (atype := .int) (ty := .int) (a0 := (12, .inl (fun _ => 0))) hx hb (hts (.arrayClass .int) iw_X10_init_34) rfl hK hP hD hS hA (fun _ => rfl) (by decide) (by decide) (by decide) (Nat.le_of_ble_eq_true rfl) (Nat.le_of_ble_eq_true rfl) dX10_init_88 (fun q_278 k_279 H hK1 hP1 hD1 hS => ?_)
  obtain ⟨rfl, -⟩ := lv_ad (k := 0) hK1 rfl
  clear hK1
  have hnq_278 := add_q hD1
  obtain ⟨S_280, eS_280⟩ : ∃ zq, zq = addO S_260 q_278 112 := ⟨_, rfl⟩
  have hP : va_P (dC, dI) vwCl (oW cq S_280) H := by rw [eS_280]; exact cP (onew hD1 (by rw [oE_a1 (n := 12) add_K (by decide), add_I])) hP1
  have hD : va_D A (oW cq S_280) := by rw [eS_280]; exact cD (onew hD1 (by rw [oE_a1 (n := 12) add_K (by decide), add_I])) hD1
  clear hP1 hD1
  have hIS_280 : oInv S_280 := by rw [eS_280]; exact oInv.add hIS_260 hnq_278 (by decide)
  have XS_280 : oX [] S_260 S_280 := by rw [eS_280]; exact oX.add hnq_278
  have nzq_278 : q_278 ∉ oL Z := oXc.nin X_276 hnq_278
  have pk_281 : oP S_280 o 1 = some q_1 := by rw [eS_280, add_Pn hnq_278 (oX.ty XS_260 t_258).1]; exact pk_261
  have pk_282 : oP S_280 o 3 = some q_18 := by rw [eS_280, add_Pn hnq_278 (oX.ty XS_260 t_258).1]; exact pk_262
  have pk_283 : oP S_280 o 5 = some q_37 := by rw [eS_280, add_Pn hnq_278 (oX.ty XS_260 t_258).1]; exact pk_263
  have pk_284 : oP S_280 o 8 = some q_58 := by rw [eS_280, add_Pn hnq_278 (oX.ty XS_260 t_258).1]; exact pk_264
  have pk_285 : oP S_280 o 9 = some q_93 := by rw [eS_280, add_Pn hnq_278 (oX.ty XS_260 t_258).1]; exact pk_265
  have pk_286 : oP S_280 q_134 0 = some b_164 := by rw [eS_280, add_Pn hnq_278 (oX.ty XS_260 (oX.ty XS_241 (oX.ty XS_222 (oXc.ty XS_203 (ty_ne (oX.ty XS_185 (oX.ty XS_168 hxS_150)) tq_184 (by decide)) (oX.ty XS_185 (oX.ty XS_168 hxS_150)))))).1]; exact pk_266
  have pk_287 : oP S_280 o 10 = some q_134 := by rw [eS_280, add_Pn hnq_278 (oX.ty XS_260 t_258).1]; exact pk_267
  have pk_288 : oP S_280 o 11 = some q_184 := by rw [eS_280, add_Pn hnq_278 (oX.ty XS_260 t_258).1]; exact pk_268
  have pk_289 : oP S_280 o 12 = some q_239 := by rw [eS_280, add_Pn hnq_278 (oX.ty XS_260 t_258).1]; exact pk_277
  have ik_290 : oI S_280 o 0 = 0 := by rw [eS_280, add_In hnq_278 (oX.ty XS_260 t_258).1]; exact ik_269
  have ik_291 : oI S_280 o 2 = 0 := by rw [eS_280, add_In hnq_278 (oX.ty XS_260 t_258).1]; exact ik_270
  have ik_292 : oI S_280 o 4 = 0 := by rw [eS_280, add_In hnq_278 (oX.ty XS_260 t_258).1]; exact ik_271
  have ik_293 : oI S_280 o 6 = 0 := by rw [eS_280, add_In hnq_278 (oX.ty XS_260 t_258).1]; exact ik_272
  have ik_294 : oI S_280 q_58 2 = 0 := by rw [eS_280, add_In hnq_278 (oX.ty XS_260 (oX.ty XS_241 (oX.ty XS_222 (oXc.ty XS_203 (ty_ne (oX.ty XS_185 (oX.ty XS_168 (oXc.ty XS_150 (ty_ne (oX.ty XS_135 (oX.ty XS_121 (oXc.ty XS_107 (ty_ne (oX.ty XS_94 (oX.ty XS_82 hxS_70)) tq_93 (by decide)) (oX.ty XS_94 (oX.ty XS_82 hxS_70))))) tq_134 (by decide)) (oX.ty XS_135 (oX.ty XS_121 (oXc.ty XS_107 (ty_ne (oX.ty XS_94 (oX.ty XS_82 hxS_70)) tq_93 (by decide)) (oX.ty XS_94 (oX.ty XS_82 hxS_70)))))))) tq_184 (by decide)) (oX.ty XS_185 (oX.ty XS_168 (oXc.ty XS_150 (ty_ne (oX.ty XS_135 (oX.ty XS_121 (oXc.ty XS_107 (ty_ne (oX.ty XS_94 (oX.ty XS_82 hxS_70)) tq_93 (by decide)) (oX.ty XS_94 (oX.ty XS_82 hxS_70))))) tq_134 (by decide)) (oX.ty XS_135 (oX.ty XS_121 (oXc.ty XS_107 (ty_ne (oX.ty XS_94 (oX.ty XS_82 hxS_70)) tq_93 (by decide)) (oX.ty XS_94 (oX.ty XS_82 hxS_70)))))))))))).1]; exact ik_273
  have ik_295 : oI S_280 q_93 1 = 0 := by rw [eS_280, add_In hnq_278 (oX.ty XS_260 (oX.ty XS_241 (oX.ty XS_222 (oXc.ty XS_203 (ty_ne (oX.ty XS_185 (oX.ty XS_168 (oXc.ty XS_150 (ty_ne (oX.ty XS_135 (oX.ty XS_121 hxS_107)) tq_134 (by decide)) (oX.ty XS_135 (oX.ty XS_121 hxS_107))))) tq_184 (by decide)) (oX.ty XS_185 (oX.ty XS_168 (oXc.ty XS_150 (ty_ne (oX.ty XS_135 (oX.ty XS_121 hxS_107)) tq_134 (by decide)) (oX.ty XS_135 (oX.ty XS_121 hxS_107))))))))).1]; exact ik_274
  have zf_296 : oI S_280 b_164 = fun _ => 0 := by rw [eS_280, add_If hnq_278 (oX.ty XS_260 (oX.ty XS_241 (oX.ty XS_222 (oXc.ty XS_203 (ty_ne (oX.ty XS_185 (oX.ty XS_168 tb_164)) tq_184 (by decide)) (oX.ty XS_185 (oX.ty XS_168 tb_164)))))).1]; exact zf_275
  have X_297 : oXc [5001] o Z S_280 := oXc.st X_276 XS_280 (by decide)
  have tq_278 : oty S_280 q_278 112 := by rw [eS_280]; exact add_ty
  refine W.widen (k := 38) (n := 894) (Nat.le_of_ble_eq_true rfl) (Nat.le_of_ble_eq_true rfl) ?_
  have t_298 : oty S_280 o 40 := (oX.ty XS_280 (oX.ty XS_260 t_258))
  obtain ⟨q_299, hq_299⟩ := og (cq := cq) t_298.1 (oE_40 t_298.2)
  refine va_putF (D := (dC, dI)) (ci := 10) (v := .ref q_278) (ty := .array .int) (C := RX10) (T := TX10) (N := 16) hx hb hts in_wsX10_init_X10 tyX10 tyX10_ok nmX10 hown hK hP hD hS q_299 hq_299 rfl 13 (by decide) (hts (.fieldLink RX10 63 "ShipOffice" "row" "[I") iw_X10_init_36) (fun _ h9 => h9) rfl hin rfl (by decide +kernel) rfl rfl (Nat.le_of_ble_eq_true rfl) dX10_init_90 (fun H locs hP1 hD1 hS => ?_)
  obtain ⟨S_300, eS_300⟩ : ∃ zq, zq = setP S_280 o 13 (some q_278) := ⟨_, rfl⟩
  have hP : va_P (dC, dI) vwCl (oW cq S_300) H := by rw [eS_300]; exact cP (oset t_298.1 hq_299 hD rfl (he_40_13 t_298.2) neP) hP1
  have hD : va_D A (oW cq S_300) := by rw [eS_300]; exact cD (oset t_298.1 hq_299 hD rfl (he_40_13 t_298.2) neP) hD1
  clear hP1 hD1
  have hIS_300 : oInv S_300 := by rw [eS_300]; exact oInv.P (k := 40) hIS_280 t_298.2 (by decide) rfl (by decide) tq_278 (by decide)
  have XS_300 : oX [2040] S_280 S_300 := by rw [eS_300]; exact oX.P (k := 40) (key := 2040) t_298.2 rfl (List.mem_singleton.mpr rfl)
  have pk_301 : oP S_300 o 1 = some q_1 := by rw [eS_300, setP_ne (by decide)]; exact pk_281
  have pk_302 : oP S_300 o 3 = some q_18 := by rw [eS_300, setP_ne (by decide)]; exact pk_282
  have pk_303 : oP S_300 o 5 = some q_37 := by rw [eS_300, setP_ne (by decide)]; exact pk_283
  have pk_304 : oP S_300 o 8 = some q_58 := by rw [eS_300, setP_ne (by decide)]; exact pk_284
  have pk_305 : oP S_300 o 9 = some q_93 := by rw [eS_300, setP_ne (by decide)]; exact pk_285
  have pk_306 : oP S_300 q_134 0 = some b_164 := by rw [eS_300, setP_oth (ty_ne (oX.ty XS_280 (oX.ty XS_260 (oX.ty XS_241 (oX.ty XS_222 (oXc.ty XS_203 (ty_ne (oX.ty XS_185 (oX.ty XS_168 hxS_150)) tq_184 (by decide)) (oX.ty XS_185 (oX.ty XS_168 hxS_150))))))) t_298 (by decide))]; exact pk_286
  have pk_307 : oP S_300 o 10 = some q_134 := by rw [eS_300, setP_ne (by decide)]; exact pk_287
  have pk_308 : oP S_300 o 11 = some q_184 := by rw [eS_300, setP_ne (by decide)]; exact pk_288
  have pk_309 : oP S_300 o 12 = some q_239 := by rw [eS_300, setP_ne (by decide)]; exact pk_289
  have ik_310 : oI S_300 o 0 = 0 := by rw [eS_300]; exact ik_290
  have ik_311 : oI S_300 o 2 = 0 := by rw [eS_300]; exact ik_291
  have ik_312 : oI S_300 o 4 = 0 := by rw [eS_300]; exact ik_292
  have ik_313 : oI S_300 o 6 = 0 := by rw [eS_300]; exact ik_293
  have ik_314 : oI S_300 q_58 2 = 0 := by rw [eS_300]; exact ik_294
  have ik_315 : oI S_300 q_93 1 = 0 := by rw [eS_300]; exact ik_295
  have zf_316 : oI S_300 b_164 = fun _ => 0 := by rw [eS_300]; exact zf_296
  have X_317 : oXc [5001] o Z S_300 := by rw [eS_300]; exact oXc.P X_297
  have pk_318 : oP S_300 o 13 = some q_278 := by rw [eS_300, setP_same]
  refine lv_aload_n hx hb dX10_init_93 rfl (lv_at hl 0 rfl) ?_
  refine lv_bipush (v := 7) hx hb dX10_init_94 (by decide) ?_
  refine va_newa (atype := .int) (ty := .int) (a0 := (7, .inl (fun _ => 0))) hx hb (hts (.arrayClass .int) iw_X10_init_34) rfl hK hP hD hS hA (fun _ => rfl) (by decide) (by decide) (by decide) (Nat.le_of_ble_eq_true rfl) (Nat.le_of_ble_eq_true rfl) dX10_init_96 (fun q_319 k_320 H hK1 hP1 hD1 hS => ?_)
  obtain ⟨rfl, -⟩ := lv_ad (k := 0) hK1 rfl
  clear hK1
  have hnq_319 := add_q hD1
  obtain ⟨S_321, eS_321⟩ : ∃ zq, zq = addO S_300 q_319 107 := ⟨_, rfl⟩
  have hP : va_P (dC, dI) vwCl (oW cq S_321) H := by rw [eS_321]; exact cP (onew hD1 (by rw [oE_a1 (n := 7) add_K (by decide), add_I])) hP1
  have hD : va_D A (oW cq S_321) := by rw [eS_321]; exact cD (onew hD1 (by rw [oE_a1 (n := 7) add_K (by decide), add_I])) hD1
  clear hP1 hD1
  have hIS_321 : oInv S_321 := by rw [eS_321]; exact oInv.add hIS_300 hnq_319 (by decide)
  have XS_321 : oX [] S_300 S_321 := by rw [eS_321]; exact oX.add hnq_319
  have nzq_319 : q_319 ∉ oL Z := oXc.nin X_317 hnq_319
  have pk_322 : oP S_321 o 1 = some q_1 := by rw [eS_321, add_Pn hnq_319 (oX.ty XS_300 t_298).1]; exact pk_301
  have pk_323 : oP S_321 o 3 = some q_18 := by rw [eS_321, add_Pn hnq_319 (oX.ty XS_300 t_298).1]; exact pk_302
  have pk_324 : oP S_321 o 5 = some q_37 := by rw [eS_321, add_Pn hnq_319 (oX.ty XS_300 t_298).1]; exact pk_303
  have pk_325 : oP S_321 o 8 = some q_58 := by rw [eS_321, add_Pn hnq_319 (oX.ty XS_300 t_298).1]; exact pk_304
  have pk_326 : oP S_321 o 9 = some q_93 := by rw [eS_321, add_Pn hnq_319 (oX.ty XS_300 t_298).1]; exact pk_305
  have pk_327 : oP S_321 q_134 0 = some b_164 := by rw [eS_321, add_Pn hnq_319 (oX.ty XS_300 (oX.ty XS_280 (oX.ty XS_260 (oX.ty XS_241 (oX.ty XS_222 (oXc.ty XS_203 (ty_ne (oX.ty XS_185 (oX.ty XS_168 hxS_150)) tq_184 (by decide)) (oX.ty XS_185 (oX.ty XS_168 hxS_150)))))))).1]; exact pk_306
  have pk_328 : oP S_321 o 10 = some q_134 := by rw [eS_321, add_Pn hnq_319 (oX.ty XS_300 t_298).1]; exact pk_307
  have pk_329 : oP S_321 o 11 = some q_184 := by rw [eS_321, add_Pn hnq_319 (oX.ty XS_300 t_298).1]; exact pk_308
  have pk_330 : oP S_321 o 12 = some q_239 := by rw [eS_321, add_Pn hnq_319 (oX.ty XS_300 t_298).1]; exact pk_309
  have pk_331 : oP S_321 o 13 = some q_278 := by rw [eS_321, add_Pn hnq_319 (oX.ty XS_300 t_298).1]; exact pk_318
  have ik_332 : oI S_321 o 0 = 0 := by rw [eS_321, add_In hnq_319 (oX.ty XS_300 t_298).1]; exact ik_310
  have ik_333 : oI S_321 o 2 = 0 := by rw [eS_321, add_In hnq_319 (oX.ty XS_300 t_298).1]; exact ik_311
  have ik_334 : oI S_321 o 4 = 0 := by rw [eS_321, add_In hnq_319 (oX.ty XS_300 t_298).1]; exact ik_312
  have ik_335 : oI S_321 o 6 = 0 := by rw [eS_321, add_In hnq_319 (oX.ty XS_300 t_298).1]; exact ik_313
  have ik_336 : oI S_321 q_58 2 = 0 := by rw [eS_321, add_In hnq_319 (oX.ty XS_300 (oX.ty XS_280 (oX.ty XS_260 (oX.ty XS_241 (oX.ty XS_222 (oXc.ty XS_203 (ty_ne (oX.ty XS_185 (oX.ty XS_168 (oXc.ty XS_150 (ty_ne (oX.ty XS_135 (oX.ty XS_121 (oXc.ty XS_107 (ty_ne (oX.ty XS_94 (oX.ty XS_82 hxS_70)) tq_93 (by decide)) (oX.ty XS_94 (oX.ty XS_82 hxS_70))))) tq_134 (by decide)) (oX.ty XS_135 (oX.ty XS_121 (oXc.ty XS_107 (ty_ne (oX.ty XS_94 (oX.ty XS_82 hxS_70)) tq_93 (by decide)) (oX.ty XS_94 (oX.ty XS_82 hxS_70)))))))) tq_184 (by decide)) (oX.ty XS_185 (oX.ty XS_168 (oXc.ty XS_150 (ty_ne (oX.ty XS_135 (oX.ty XS_121 (oXc.ty XS_107 (ty_ne (oX.ty XS_94 (oX.ty XS_82 hxS_70)) tq_93 (by decide)) (oX.ty XS_94 (oX.ty XS_82 hxS_70))))) tq_134 (by decide)) (oX.ty XS_135 (oX.ty XS_121 (oXc.ty XS_107 (ty_ne (oX.ty XS_94 (oX.ty XS_82 hxS_70)) tq_93 (by decide)) (oX.ty XS_94 (oX.ty XS_82 hxS_70)))))))))))))).1]; exact ik_314
  have ik_337 : oI S_321 q_93 1 = 0 := by rw [eS_321, add_In hnq_319 (oX.ty XS_300 (oX.ty XS_280 (oX.ty XS_260 (oX.ty XS_241 (oX.ty XS_222 (oXc.ty XS_203 (ty_ne (oX.ty XS_185 (oX.ty XS_168 (oXc.ty XS_150 (ty_ne (oX.ty XS_135 (oX.ty XS_121 hxS_107)) tq_134 (by decide)) (oX.ty XS_135 (oX.ty XS_121 hxS_107))))) tq_184 (by decide)) (oX.ty XS_185 (oX.ty XS_168 (oXc.ty XS_150 (ty_ne (oX.ty XS_135 (oX.ty XS_121 hxS_107)) tq_134 (by decide)) (oX.ty XS_135 (oX.ty XS_121 hxS_107))))))))))).1]; exact ik_315
  have zf_338 : oI S_321 b_164 = fun _ => 0 := by rw [eS_321, add_If hnq_319 (oX.ty XS_300 (oX.ty XS_280 (oX.ty XS_260 (oX.ty XS_241 (oX.ty XS_222 (oXc.ty XS_203 (ty_ne (oX.ty XS_185 (oX.ty XS_168 tb_164)) tq_184 (by decide)) (oX.ty XS_185 (oX.ty XS_168 tb_164)))))))).1]; exact zf_316
  have X_339 : oXc [5001] o Z S_321 := oXc.st X_317 XS_321 (by decide)
  have tq_319 : oty S_321 q_319 107 := by rw [eS_321]; exact add_ty
  refine W.widen (k := 39) (n := 901) (Nat.le_of_ble_eq_true rfl) (Nat.le_of_ble_eq_true rfl) ?_
  have t_340 : oty S_321 o 40 := (oX.ty XS_321 (oX.ty XS_300 t_298))
  obtain ⟨q_341, hq_341⟩ := og (cq := cq) t_340.1 (oE_40 t_340.2)
  refine va_putF (D := (dC, dI)) (ci := 10) (v := .ref q_319) (ty := .array .int) (C := RX10) (T := TX10) (N := 16) hx hb hts in_wsX10_init_X10 tyX10 tyX10_ok nmX10 hown hK hP hD hS q_341 hq_341 rfl 15 (by decide) (hts (.fieldLink RX10 66 "ShipOffice" "refusals" "[I") iw_X10_init_37) (fun _ h9 => h9) rfl hin rfl (by decide +kernel) rfl rfl (Nat.le_of_ble_eq_true rfl) dX10_init_98 (fun H locs hP1 hD1 hS => ?_)
  obtain ⟨S_342, eS_342⟩ : ∃ zq, zq = setP S_321 o 15 (some q_319) := ⟨_, rfl⟩
  have hP : va_P (dC, dI) vwCl (oW cq S_342) H := by rw [eS_342]; exact cP (oset t_340.1 hq_341 hD rfl (he_40_15 t_340.2) neP) hP1
  have hD : va_D A (oW cq S_342) := by rw [eS_342]; exact cD (oset t_340.1 hq_341 hD rfl (he_40_15 t_340.2) neP) hD1
  clear hP1 hD1
  have hIS_342 : oInv S_342 := by rw [eS_342]; exact oInv.P (k := 40) hIS_321 t_340.2 (by decide) rfl (by decide) tq_319 (by decide)
  have XS_342 : oX [2040] S_321 S_342 := by rw [eS_342]; exact oX.P (k := 40) (key := 2040) t_340.2 rfl (List.mem_singleton.mpr rfl)
  have pk_343 : oP S_342 o 1 = some q_1 := by rw [eS_342, setP_ne (by decide)]; exact pk_322
  have pk_344 : oP S_342 o 3 = some q_18 := by rw [eS_342, setP_ne (by decide)]; exact pk_323
  have pk_345 : oP S_342 o 5 = some q_37 := by rw [eS_342, setP_ne (by decide)]; exact pk_324
  have pk_346 : oP S_342 o 8 = some q_58 := by rw [eS_342, setP_ne (by decide)]; exact pk_325
  have pk_347 : oP S_342 o 9 = some q_93 := by rw [eS_342, setP_ne (by decide)]; exact pk_326
  have pk_348 : oP S_342 q_134 0 = some b_164 := by rw [eS_342, setP_oth (ty_ne (oX.ty XS_321 (oX.ty XS_300 (oX.ty XS_280 (oX.ty XS_260 (oX.ty XS_241 (oX.ty XS_222 (oXc.ty XS_203 (ty_ne (oX.ty XS_185 (oX.ty XS_168 hxS_150)) tq_184 (by decide)) (oX.ty XS_185 (oX.ty XS_168 hxS_150))))))))) t_340 (by decide))]; exact pk_327
  have pk_349 : oP S_342 o 10 = some q_134 := by rw [eS_342, setP_ne (by decide)]; exact pk_328
  have pk_350 : oP S_342 o 11 = some q_184 := by rw [eS_342, setP_ne (by decide)]; exact pk_329
  have pk_351 : oP S_342 o 12 = some q_239 := by rw [eS_342, setP_ne (by decide)]; exact pk_330
  have pk_352 : oP S_342 o 13 = some q_278 := by rw [eS_342, setP_ne (by decide)]; exact pk_331
  have ik_353 : oI S_342 o 0 = 0 := by rw [eS_342]; exact ik_332
  have ik_354 : oI S_342 o 2 = 0 := by rw [eS_342]; exact ik_333
  have ik_355 : oI S_342 o 4 = 0 := by rw [eS_342]; exact ik_334
  have ik_356 : oI S_342 o 6 = 0 := by rw [eS_342]; exact ik_335
  have ik_357 : oI S_342 q_58 2 = 0 := by rw [eS_342]; exact ik_336
  have ik_358 : oI S_342 q_93 1 = 0 := by rw [eS_342]; exact ik_337
  have zf_359 : oI S_342 b_164 = fun _ => 0 := by rw [eS_342]; exact zf_338
  have X_360 : oXc [5001] o Z S_342 := by rw [eS_342]; exact oXc.P X_339
  have pk_361 : oP S_342 o 15 = some q_319 := by rw [eS_342, setP_same]
  have t_363 : oty S_342 o 40 := (oX.ty XS_342 t_340)
  obtain ⟨S_362, eS_362⟩ : ∃ zq, zq = setK S_342 o 10 := ⟨_, rfl⟩
  have hP : va_P (dC, dI) vwCl (oW cq S_362) H := by rw [eS_362]; exact cP (ret_W (c := 10) t_363.2 (by decide)) hP
  have hD : va_D A (oW cq S_362) := by rw [eS_362]; exact cD (ret_W (c := 10) t_363.2 (by decide)) hD
  have hIS_362 : oInv S_362 := by rw [eS_362]; exact oInv.ret (c := 10) hIS_342 t_363 (by decide) (fun i hi => by rcases nn_10 hi with rfl | rfl | rfl | rfl | rfl | rfl | rfl | rfl | rfl | rfl <;> first | exact ⟨_, pk_343⟩ | exact ⟨_, pk_344⟩ | exact ⟨_, pk_345⟩ | exact ⟨_, pk_346⟩ | exact ⟨_, pk_347⟩ | exact ⟨_, pk_349⟩ | exact ⟨_, pk_350⟩ | exact ⟨_, pk_351⟩ | exact ⟨_, pk_352⟩ | exact ⟨_, pk_361⟩) (fun i p hp => by rcases ct_10 hp with rfl | rfl | rfl <;> first | (rw [ik_353]; decide) | (rw [ik_354]; decide) | (rw [ik_355]; decide) | (rw [ik_356]; decide)) (fun h => absurd h (by decide)) (fun h => absurd h (by decide)) (fun h => absurd h (by decide))
  have XS_362 : oXc [5001] o Z S_362 := by rw [eS_362]; exact oXc.K X_360
  have tS_362 : oty S_362 o 10 := by rw [eS_362]; exact K_ty t_363.1
  have pk_364 : oP S_362 o 1 = some q_1 := by rw [eS_362]; exact pk_343
  have pk_365 : oP S_362 o 3 = some q_18 := by rw [eS_362]; exact pk_344
  have pk_366 : oP S_362 o 5 = some q_37 := by rw [eS_362]; exact pk_345
  have pk_367 : oP S_362 o 8 = some q_58 := by rw [eS_362]; exact pk_346
  have pk_368 : oP S_362 o 9 = some q_93 := by rw [eS_362]; exact pk_347
  have pk_369 : oP S_362 q_134 0 = some b_164 := by rw [eS_362]; exact pk_348
  have pk_370 : oP S_362 o 10 = some q_134 := by rw [eS_362]; exact pk_349
  have pk_371 : oP S_362 o 11 = some q_184 := by rw [eS_362]; exact pk_350
  have pk_372 : oP S_362 o 12 = some q_239 := by rw [eS_362]; exact pk_351
  have pk_373 : oP S_362 o 13 = some q_278 := by rw [eS_362]; exact pk_352
  have pk_374 : oP S_362 o 15 = some q_319 := by rw [eS_362]; exact pk_361
  have ik_375 : oI S_362 o 0 = 0 := by rw [eS_362]; exact ik_353
  have ik_376 : oI S_362 o 2 = 0 := by rw [eS_362]; exact ik_354
  have ik_377 : oI S_362 o 4 = 0 := by rw [eS_362]; exact ik_355
  have ik_378 : oI S_362 o 6 = 0 := by rw [eS_362]; exact ik_356
  have ik_379 : oI S_362 q_58 2 = 0 := by rw [eS_362]; exact ik_357
  have ik_380 : oI S_362 q_93 1 = 0 := by rw [eS_362]; exact ik_358
  have zf_381 : oI S_362 b_164 = fun _ => 0 := by rw [eS_362]; exact zf_359
  exact W.vret hx hb hr (fun t ht hW => ⟨⟨S_362, rfl, ⟨hIS_362, XS_362, ⟨tS_362, ⟨⟨ik_375, ik_376⟩, (fun sea ml q1 q2 => by rw [pk_370] at q1; cases q1; rw [pk_369] at q2; cases q2; exact zf_381), (fun tp q1 => by rw [pk_368] at q1; cases q1; exact ik_380), fun lw q1 => by rw [pk_367] at q1; cases q1; exact ik_379⟩⟩⟩, ⟨by rw [ht]; exact hP, va_K.moved hW.alike hK, hD⟩⟩, hS.F ht⟩) hS.2.2 dX10_init_101
