abbrev cX5_init : ByteArray := prog_7_method_1_code
def yX5_init : MethodName := ⟨RX5, "<init>", "()V"⟩
abbrev cX10_init : ByteArray := prog_1_method_1_code
def yX10_init : MethodName := ⟨RX10, "<init>", "()V"⟩
theorem gw_X0_init : wsX0_init.all goodWord = true := by decide +kernel
theorem gw_X4_init : wsX4_init.all goodWord = true := by decide +kernel
def wsX5_init_r1 : List Cond := [Cond.methodLink RX5 3 objectInit, Cond.instanceMethod objectInit, Cond.code objectInit ⟨#[0xb1]⟩ 1 none, Cond.classLink RX5 9 RX0, Cond.fieldLink RX5 11 "ShipOffice$Law" "acts" "[LShipOffice$Act;", Cond.fieldLink RX5 17 "ShipOffice$Law" "customs" "[LShipOffice$Act;", Cond.instantiable RX0 5, Cond.initialized RX0, Cond.arrayClass .int, Cond.methodLink RX5 20 yX0_init, Cond.instanceMethod yX0_init, Cond.code yX0_init cX0_init 4 none, Cond.methodLink RX0 1 objectInit, Cond.fieldLink RX0 7 "ShipOffice$Act" "purpose" "I", Cond.fieldLink RX0 13 "ShipOffice$Act" "day" "I", Cond.fieldLink RX0 16 "ShipOffice$Act" "code" "[I", Cond.fieldLink RX0 20 "ShipOffice$Act" "stack" "[I", Cond.fieldLink RX0 33 "ShipOffice$Act" "plainWorth" "I", Cond.methodLink RX0 29 yX0_worth, Cond.instanceMethod yX0_worth, Cond.selects RX0 yX0_worth yX0_worth, Cond.code yX0_worth cX0_worth 8 (some .int), Cond.methodLink RX0 36 yX0_joined, Cond.static yX0_joined]
def wsX5_init_r2 : List Cond := [Cond.code yX0_joined cX0_joined 5 (some .int), Cond.methodLink RX0 40 yX0_held, Cond.static yX0_held, Cond.code yX0_held cX0_held 2 (some .int), Cond.constantLong RX0 44 (1000000000), Cond.constant RX0 46 (1000000000), Cond.constantLong RX0 47 (-1000000000), Cond.constant RX0 49 (-1000000000)]
def wsX5_init : List Cond := .code yX5_init cX5_init 1 none :: ((wsX5_init_r1 ++ wsX5_init_r2) ++ wsX50 ++ wsX00)
theorem gw_X5_init : wsX5_init.all goodWord = true := by decide +kernel
theorem il_X5_init_1 : ∀ w ∈ wsX5_init_r1, w ∈ wsX5_init := fun w h => (List.mem_cons_of_mem _ (List.mem_append_left _ (List.mem_append_left _ (List.mem_append_left _ h))))
theorem il_X5_init_2 : ∀ w ∈ wsX5_init_r2, w ∈ wsX5_init := fun w h => (List.mem_cons_of_mem _ (List.mem_append_left _ (List.mem_append_left _ (List.mem_append_right _ h))))
theorem il_X5_init_4 : ∀ w ∈ wsX00, w ∈ wsX5_init := fun w h => (List.mem_cons_of_mem _ (List.mem_append_right _ h))
theorem iw_X5_init_1 : Cond.methodLink RX5 3 objectInit ∈ wsX5_init := (mmI il_X5_init_1 0 rfl)
theorem iw_X5_init_2 : Cond.instanceMethod objectInit ∈ wsX5_init := (mmI il_X5_init_1 1 rfl)
theorem iw_X5_init_3 : Cond.classLink RX5 9 RX0 ∈ wsX5_init := (mmI il_X5_init_1 3 rfl)
theorem iw_X5_init_4 : Cond.fieldLink RX5 11 "ShipOffice$Law" "acts" "[LShipOffice$Act;" ∈ wsX5_init := (mmI il_X5_init_1 4 rfl)
theorem iw_X5_init_5 : Cond.fieldLink RX5 17 "ShipOffice$Law" "customs" "[LShipOffice$Act;" ∈ wsX5_init := (mmI il_X5_init_1 5 rfl)
theorem iw_X5_init_6 : Cond.instantiable RX0 5 ∈ wsX5_init := (mmI il_X5_init_1 6 rfl)
theorem iw_X5_init_7 : Cond.initialized RX0 ∈ wsX5_init := (mmI il_X5_init_1 7 rfl)
theorem iw_X5_init_8 : Cond.arrayClass .int ∈ wsX5_init := (mmI il_X5_init_1 8 rfl)
theorem iw_X5_init_9 : Cond.methodLink RX5 20 yX0_init ∈ wsX5_init := (mmI il_X5_init_1 9 rfl)
theorem iw_X5_init_10 : Cond.instanceMethod yX0_init ∈ wsX5_init := (mmI il_X5_init_1 10 rfl)
theorem gw_X7_init : wsX7_init.all goodWord = true := by decide +kernel
theorem gw_X8_init : wsX8_init.all goodWord = true := by decide +kernel
def wsX10_init_r1 : List Cond := [Cond.methodLink RX10 3 objectInit, Cond.instanceMethod objectInit, Cond.code objectInit ⟨#[0xb1]⟩ 1 none, Cond.classLink RX10 9 RX6, Cond.fieldLink RX10 11 "ShipOffice" "men" "[LShipOffice$Man;", Cond.classLink RX10 15 RX9, Cond.fieldLink RX10 17 "ShipOffice" "voyages" "[LShipOffice$Voyage;", Cond.classLink RX10 21 RX1, Cond.fieldLink RX10 23 "ShipOffice" "agreements" "[LShipOffice$Agreement;", Cond.classLink RX10 27 RX5, Cond.instantiable RX5 3, Cond.initialized RX5, Cond.fieldLink RX10 30 "ShipOffice" "law" "LShipOffice$Law;", Cond.classLink RX10 34 RX8, Cond.instantiable RX8 6, Cond.initialized RX8, Cond.fieldLink RX10 37 "ShipOffice" "tape" "LShipOffice$Tape;", Cond.classLink RX10 41 RX7, Cond.instantiable RX7 2, Cond.initialized RX7, Cond.fieldLink RX10 44 "ShipOffice" "sea" "LShipOffice$Sea;", Cond.classLink RX10 48 RX4, Cond.instantiable RX4 6, Cond.initialized RX4]
def wsX10_init_r2 : List Cond := [Cond.fieldLink RX10 51 "ShipOffice" "hiring" "LShipOffice$Hiring;", Cond.fieldLink RX10 55 "ShipOffice" "LETTERS" "[C", Cond.arrayClass .int, Cond.fieldLink RX10 59 "ShipOffice" "letters" "[I", Cond.fieldLink RX10 63 "ShipOffice" "row" "[I", Cond.fieldLink RX10 66 "ShipOffice" "refusals" "[I", Cond.methodLink RX10 29 yX5_init, Cond.instanceMethod yX5_init, Cond.code yX5_init cX5_init 1 none, Cond.methodLink RX5 3 objectInit, Cond.classLink RX5 9 RX0, Cond.fieldLink RX5 11 "ShipOffice$Law" "acts" "[LShipOffice$Act;", Cond.fieldLink RX5 17 "ShipOffice$Law" "customs" "[LShipOffice$Act;", Cond.instantiable RX0 5, Cond.initialized RX0, Cond.methodLink RX5 20 yX0_init, Cond.instanceMethod yX0_init, Cond.code yX0_init cX0_init 4 none, Cond.methodLink RX0 1 objectInit, Cond.fieldLink RX0 7 "ShipOffice$Act" "purpose" "I", Cond.fieldLink RX0 13 "ShipOffice$Act" "day" "I", Cond.fieldLink RX0 16 "ShipOffice$Act" "code" "[I", Cond.fieldLink RX0 20 "ShipOffice$Act" "stack" "[I", Cond.fieldLink RX0 33 "ShipOffice$Act" "plainWorth" "I"]
def wsX10_init_r3 : List Cond := [Cond.methodLink RX0 29 yX0_worth, Cond.instanceMethod yX0_worth, Cond.selects RX0 yX0_worth yX0_worth, Cond.code yX0_worth cX0_worth 8 (some .int), Cond.methodLink RX0 36 yX0_joined, Cond.static yX0_joined, Cond.code yX0_joined cX0_joined 5 (some .int), Cond.methodLink RX0 40 yX0_held, Cond.static yX0_held, Cond.code yX0_held cX0_held 2 (some .int), Cond.constantLong RX0 44 (1000000000), Cond.constant RX0 46 (1000000000), Cond.constantLong RX0 47 (-1000000000), Cond.constant RX0 49 (-1000000000), Cond.methodLink RX10 36 yX8_init, Cond.instanceMethod yX8_init, Cond.code yX8_init cX8_init 1 none, Cond.methodLink RX8 3 objectInit, Cond.fieldLink RX8 9 "ShipOffice$Tape" "bytes" "[I", Cond.fieldLink RX8 15 "ShipOffice$Tape" "code" "[I", Cond.methodLink RX10 43 yX7_init, Cond.instanceMethod yX7_init, Cond.code yX7_init cX7_init 1 none, Cond.methodLink RX7 3 objectInit]
def wsX10_init_r4 : List Cond := [Cond.fieldLink RX7 9 "ShipOffice$Sea" "miles" "[I", Cond.fieldLink RX7 15 "ShipOffice$Sea" "least" "[I", Cond.methodLink RX10 50 yX4_init, Cond.instanceMethod yX4_init, Cond.code yX4_init cX4_init 1 none, Cond.methodLink RX4 5 objectInit, Cond.arrayClass .long, Cond.fieldLink RX4 11 "ShipOffice$Hiring" "best" "[J", Cond.fieldLink RX4 15 "ShipOffice$Hiring" "offers" "[I", Cond.fieldLink RX4 19 "ShipOffice$Hiring" "firstPlace" "[I"]
def wsX10_init : List Cond := .code yX10_init cX10_init 1 none :: ((wsX10_init_r1 ++ (wsX10_init_r2 ++ (wsX10_init_r3 ++ wsX10_init_r4))) ++ wsX100 ++ wsX50 ++ wsX80 ++ wsX70 ++ wsX40 ++ wsX00)
theorem il_X10_init_1 : ∀ w ∈ wsX10_init_r1, w ∈ wsX10_init := fun w h => (List.mem_cons_of_mem _ (List.mem_append_left _ (List.mem_append_left _ (List.mem_append_left _ (List.mem_append_left _ (List.mem_append_left _ (List.mem_append_left _ (List.mem_append_left _ h))))))))
theorem il_X10_init_2 : ∀ w ∈ wsX10_init_r2, w ∈ wsX10_init := fun w h => (List.mem_cons_of_mem _ (List.mem_append_left _ (List.mem_append_left _ (List.mem_append_left _ (List.mem_append_left _ (List.mem_append_left _ (List.mem_append_left _ (List.mem_append_right _ (List.mem_append_left _ h)))))))))
theorem il_X10_init_3 : ∀ w ∈ wsX10_init_r3, w ∈ wsX10_init := fun w h => (List.mem_cons_of_mem _ (List.mem_append_left _ (List.mem_append_left _ (List.mem_append_left _ (List.mem_append_left _ (List.mem_append_left _ (List.mem_append_left _ (List.mem_append_right _ (List.mem_append_right _ (List.mem_append_left _ h))))))))))
theorem il_X10_init_4 : ∀ w ∈ wsX10_init_r4, w ∈ wsX10_init := fun w h => (List.mem_cons_of_mem _ (List.mem_append_left _ (List.mem_append_left _ (List.mem_append_left _ (List.mem_append_left _ (List.mem_append_left _ (List.mem_append_left _ (List.mem_append_right _ (List.mem_append_right _ (List.mem_append_right _ h))))))))))
theorem il_X10_init_6 : ∀ w ∈ wsX50, w ∈ wsX10_init := fun w h => (List.mem_cons_of_mem _ (List.mem_append_left _ (List.mem_append_left _ (List.mem_append_left _ (List.mem_append_left _ (List.mem_append_right _ h))))))
theorem il_X10_init_7 : ∀ w ∈ wsX80, w ∈ wsX10_init := fun w h => (List.mem_cons_of_mem _ (List.mem_append_left _ (List.mem_append_left _ (List.mem_append_left _ (List.mem_append_right _ h)))))
theorem il_X10_init_8 : ∀ w ∈ wsX70, w ∈ wsX10_init := fun w h => (List.mem_cons_of_mem _ (List.mem_append_left _ (List.mem_append_left _ (List.mem_append_right _ h))))
theorem il_X10_init_9 : ∀ w ∈ wsX40, w ∈ wsX10_init := fun w h => (List.mem_cons_of_mem _ (List.mem_append_left _ (List.mem_append_right _ h)))
theorem il_X10_init_10 : ∀ w ∈ wsX00, w ∈ wsX10_init := fun w h => (List.mem_cons_of_mem _ (List.mem_append_right _ h))
theorem iw_X10_init_1 : Cond.methodLink RX10 3 objectInit ∈ wsX10_init := (mmI il_X10_init_1 0 rfl)
theorem iw_X10_init_2 : Cond.instanceMethod objectInit ∈ wsX10_init := (mmI il_X10_init_1 1 rfl)
theorem iw_X10_init_3 : Cond.classLink RX10 9 RX6 ∈ wsX10_init := (mmI il_X10_init_1 3 rfl)
theorem iw_X10_init_4 : Cond.fieldLink RX10 11 "ShipOffice" "men" "[LShipOffice$Man;" ∈ wsX10_init := (mmI il_X10_init_1 4 rfl)
theorem iw_X10_init_5 : Cond.classLink RX10 15 RX9 ∈ wsX10_init := (mmI il_X10_init_1 5 rfl)
theorem iw_X10_init_6 : Cond.fieldLink RX10 17 "ShipOffice" "voyages" "[LShipOffice$Voyage;" ∈ wsX10_init := (mmI il_X10_init_1 6 rfl)
theorem iw_X10_init_7 : Cond.classLink RX10 21 RX1 ∈ wsX10_init := (mmI il_X10_init_1 7 rfl)
theorem iw_X10_init_8 : Cond.fieldLink RX10 23 "ShipOffice" "agreements" "[LShipOffice$Agreement;" ∈ wsX10_init := (mmI il_X10_init_1 8 rfl)
theorem iw_X10_init_9 : Cond.classLink RX10 27 RX5 ∈ wsX10_init := (mmI il_X10_init_1 9 rfl)
theorem iw_X10_init_10 : Cond.instantiable RX5 3 ∈ wsX10_init := (mmI il_X10_init_1 10 rfl)
theorem iw_X10_init_11 : Cond.initialized RX5 ∈ wsX10_init := (mmI il_X10_init_1 11 rfl)
theorem iw_X10_init_12 : Cond.methodLink RX10 29 yX5_init ∈ wsX10_init := (mmI il_X10_init_2 6 rfl)
theorem iw_X10_init_13 : Cond.instanceMethod yX5_init ∈ wsX10_init := (mmI il_X10_init_2 7 rfl)
theorem iw_X10_init_14 : Cond.fieldLink RX10 30 "ShipOffice" "law" "LShipOffice$Law;" ∈ wsX10_init := (mmI il_X10_init_1 12 rfl)
theorem iw_X10_init_15 : Cond.classLink RX10 34 RX8 ∈ wsX10_init := (mmI il_X10_init_1 13 rfl)
theorem iw_X10_init_16 : Cond.instantiable RX8 6 ∈ wsX10_init := (mmI il_X10_init_1 14 rfl)
theorem iw_X10_init_17 : Cond.initialized RX8 ∈ wsX10_init := (mmI il_X10_init_1 15 rfl)
theorem iw_X10_init_18 : Cond.methodLink RX10 36 yX8_init ∈ wsX10_init := (mmI il_X10_init_3 14 rfl)
theorem iw_X10_init_19 : Cond.instanceMethod yX8_init ∈ wsX10_init := (mmI il_X10_init_3 15 rfl)
theorem iw_X10_init_20 : Cond.fieldLink RX10 37 "ShipOffice" "tape" "LShipOffice$Tape;" ∈ wsX10_init := (mmI il_X10_init_1 16 rfl)
theorem iw_X10_init_21 : Cond.classLink RX10 41 RX7 ∈ wsX10_init := (mmI il_X10_init_1 17 rfl)
theorem iw_X10_init_22 : Cond.instantiable RX7 2 ∈ wsX10_init := (mmI il_X10_init_1 18 rfl)
theorem iw_X10_init_23 : Cond.initialized RX7 ∈ wsX10_init := (mmI il_X10_init_1 19 rfl)
theorem iw_X10_init_24 : Cond.methodLink RX10 43 yX7_init ∈ wsX10_init := (mmI il_X10_init_3 20 rfl)
theorem iw_X10_init_25 : Cond.instanceMethod yX7_init ∈ wsX10_init := (mmI il_X10_init_3 21 rfl)
theorem iw_X10_init_26 : Cond.fieldLink RX10 44 "ShipOffice" "sea" "LShipOffice$Sea;" ∈ wsX10_init := (mmI il_X10_init_1 20 rfl)
theorem iw_X10_init_27 : Cond.classLink RX10 48 RX4 ∈ wsX10_init := (mmI il_X10_init_1 21 rfl)
theorem iw_X10_init_28 : Cond.instantiable RX4 6 ∈ wsX10_init := (mmI il_X10_init_1 22 rfl)
theorem iw_X10_init_29 : Cond.initialized RX4 ∈ wsX10_init := (mmI il_X10_init_1 23 rfl)
theorem iw_X10_init_30 : Cond.methodLink RX10 50 yX4_init ∈ wsX10_init := (mmI il_X10_init_4 2 rfl)
theorem iw_X10_init_31 : Cond.instanceMethod yX4_init ∈ wsX10_init := (mmI il_X10_init_4 3 rfl)
theorem iw_X10_init_32 : Cond.fieldLink RX10 51 "ShipOffice" "hiring" "LShipOffice$Hiring;" ∈ wsX10_init := (mmI il_X10_init_2 0 rfl)
theorem iw_X10_init_33 : Cond.fieldLink RX10 55 "ShipOffice" "LETTERS" "[C" ∈ wsX10_init := (mmI il_X10_init_2 1 rfl)
theorem iw_X10_init_34 : Cond.arrayClass .int ∈ wsX10_init := (mmI il_X10_init_2 2 rfl)
theorem iw_X10_init_35 : Cond.fieldLink RX10 59 "ShipOffice" "letters" "[I" ∈ wsX10_init := (mmI il_X10_init_2 3 rfl)
theorem iw_X10_init_36 : Cond.fieldLink RX10 63 "ShipOffice" "row" "[I" ∈ wsX10_init := (mmI il_X10_init_2 4 rfl)
theorem iw_X10_init_37 : Cond.fieldLink RX10 66 "ShipOffice" "refusals" "[I" ∈ wsX10_init := (mmI il_X10_init_2 5 rfl)
set_option maxRecDepth 100000 in
theorem ggX5_init_X0_init : GoodIn wsX5_init wsX0_init := goodIn_sub (mmC (mmI il_X5_init_1 11 rfl) (mmA (mmC (mmI il_X5_init_1 12 rfl) (mmC (mmI il_X5_init_1 1 rfl) (mmC (mmI il_X5_init_1 2 rfl) (mmC (mmI il_X5_init_1 13 rfl) (mmC (mmI il_X5_init_1 14 rfl) (mmC (mmI il_X5_init_1 15 rfl) (mmC (mmI il_X5_init_1 8 rfl) (mmC (mmI il_X5_init_1 16 rfl) (mmC (mmI il_X5_init_1 17 rfl) (mmC (mmI il_X5_init_1 18 rfl) (mmC (mmI il_X5_init_1 19 rfl) (mmC (mmI il_X5_init_1 20 rfl) (mmC (mmI il_X5_init_1 7 rfl) (mmC (mmI il_X5_init_1 21 rfl) (mmC (mmI il_X5_init_1 22 rfl) (mmC (mmI il_X5_init_1 23 rfl) (mmC (mmI il_X5_init_2 0 rfl) (mmC (mmI il_X5_init_2 1 rfl) (mmC (mmI il_X5_init_2 2 rfl) (mmC (mmI il_X5_init_2 3 rfl) (mmC (mmI il_X5_init_2 4 rfl) (mmC (mmI il_X5_init_2 5 rfl) (mmC (mmI il_X5_init_2 6 rfl) (mmC (mmI il_X5_init_2 7 rfl) mmN)))))))))))))))))))))))) il_X5_init_4)) gw_X0_init
set_option maxRecDepth 20000 in
theorem gX5_init_X0_init : GoodIn wsX5_init (wsX0_init) := ggX5_init_X0_init
theorem dX5_init_0 : decode cX5_init 0 = .ok (.aload_n 0, 1) := by decide +kernel
theorem dX5_init_1 : decode cX5_init 1 = .ok (.invokespecial 3, 3) := by decide +kernel
theorem dX5_init_4 : decode cX5_init 4 = .ok (.aload_n 0, 1) := by decide +kernel
theorem dX5_init_5 : decode cX5_init 5 = .ok (.bipush 30, 2) := by decide +kernel
theorem dX5_init_7 : decode cX5_init 7 = .ok (.anewarray 9, 3) := by decide +kernel
theorem dX5_init_10 : decode cX5_init 10 = .ok (.putfield 11, 3) := by decide +kernel
theorem dX5_init_13 : decode cX5_init 13 = .ok (.aload_n 0, 1) := by decide +kernel
theorem dX5_init_14 : decode cX5_init 14 = .ok (.iconst 5, 1) := by decide +kernel
theorem dX5_init_15 : decode cX5_init 15 = .ok (.anewarray 9, 3) := by decide +kernel
theorem dX5_init_18 : decode cX5_init 18 = .ok (.putfield 17, 3) := by decide +kernel
theorem dX5_init_21 : decode cX5_init 21 = .ok (.aload_n 0, 1) := by decide +kernel
theorem dX5_init_22 : decode cX5_init 22 = .ok (.getfield 17, 3) := by decide +kernel
theorem dX5_init_25 : decode cX5_init 25 = .ok (.iconst 0, 1) := by decide +kernel
theorem dX5_init_26 : decode cX5_init 26 = .ok (.new 9, 3) := by decide +kernel
theorem dX5_init_29 : decode cX5_init 29 = .ok (.dup, 1) := by decide +kernel
theorem dX5_init_30 : decode cX5_init 30 = .ok (.iconst 0, 1) := by decide +kernel
theorem dX5_init_31 : decode cX5_init 31 = .ok (.iconst (-1), 1) := by decide +kernel
theorem dX5_init_32 : decode cX5_init 32 = .ok (.iconst 1, 1) := by decide +kernel
theorem dX5_init_33 : decode cX5_init 33 = .ok (.newarray .int, 2) := by decide +kernel
theorem dX5_init_35 : decode cX5_init 35 = .ok (.dup, 1) := by decide +kernel
theorem dX5_init_36 : decode cX5_init 36 = .ok (.iconst 0, 1) := by decide +kernel
theorem dX5_init_37 : decode cX5_init 37 = .ok (.iconst 1, 1) := by decide +kernel
theorem dX5_init_38 : decode cX5_init 38 = .ok (.iastore, 1) := by decide +kernel
theorem dX5_init_39 : decode cX5_init 39 = .ok (.invokespecial 20, 3) := by decide +kernel
theorem dX5_init_42 : decode cX5_init 42 = .ok (.aastore, 1) := by decide +kernel
theorem dX5_init_43 : decode cX5_init 43 = .ok (.aload_n 0, 1) := by decide +kernel
theorem dX5_init_44 : decode cX5_init 44 = .ok (.getfield 17, 3) := by decide +kernel
theorem dX5_init_47 : decode cX5_init 47 = .ok (.iconst 1, 1) := by decide +kernel
theorem dX5_init_48 : decode cX5_init 48 = .ok (.new 9, 3) := by decide +kernel
theorem dX5_init_51 : decode cX5_init 51 = .ok (.dup, 1) := by decide +kernel
theorem dX5_init_52 : decode cX5_init 52 = .ok (.iconst 1, 1) := by decide +kernel
theorem dX5_init_53 : decode cX5_init 53 = .ok (.iconst (-1), 1) := by decide +kernel
theorem dX5_init_54 : decode cX5_init 54 = .ok (.iconst 1, 1) := by decide +kernel
theorem dX5_init_55 : decode cX5_init 55 = .ok (.newarray .int, 2) := by decide +kernel
theorem dX5_init_57 : decode cX5_init 57 = .ok (.dup, 1) := by decide +kernel
theorem dX5_init_58 : decode cX5_init 58 = .ok (.iconst 0, 1) := by decide +kernel
theorem dX5_init_59 : decode cX5_init 59 = .ok (.bipush (-6), 2) := by decide +kernel
theorem dX5_init_61 : decode cX5_init 61 = .ok (.iastore, 1) := by decide +kernel
theorem dX5_init_62 : decode cX5_init 62 = .ok (.invokespecial 20, 3) := by decide +kernel
theorem dX5_init_65 : decode cX5_init 65 = .ok (.aastore, 1) := by decide +kernel
theorem dX5_init_66 : decode cX5_init 66 = .ok (.aload_n 0, 1) := by decide +kernel
theorem dX5_init_67 : decode cX5_init 67 = .ok (.getfield 17, 3) := by decide +kernel
theorem dX5_init_70 : decode cX5_init 70 = .ok (.iconst 2, 1) := by decide +kernel
theorem dX5_init_71 : decode cX5_init 71 = .ok (.new 9, 3) := by decide +kernel
theorem dX5_init_74 : decode cX5_init 74 = .ok (.dup, 1) := by decide +kernel
theorem dX5_init_75 : decode cX5_init 75 = .ok (.iconst 2, 1) := by decide +kernel
theorem dX5_init_76 : decode cX5_init 76 = .ok (.iconst (-1), 1) := by decide +kernel
theorem dX5_init_77 : decode cX5_init 77 = .ok (.iconst 1, 1) := by decide +kernel
theorem dX5_init_78 : decode cX5_init 78 = .ok (.newarray .int, 2) := by decide +kernel
theorem dX5_init_80 : decode cX5_init 80 = .ok (.dup, 1) := by decide +kernel
theorem dX5_init_81 : decode cX5_init 81 = .ok (.iconst 0, 1) := by decide +kernel
theorem dX5_init_82 : decode cX5_init 82 = .ok (.bipush 100, 2) := by decide +kernel
theorem dX5_init_84 : decode cX5_init 84 = .ok (.iastore, 1) := by decide +kernel
theorem dX5_init_85 : decode cX5_init 85 = .ok (.invokespecial 20, 3) := by decide +kernel
theorem dX5_init_88 : decode cX5_init 88 = .ok (.aastore, 1) := by decide +kernel
theorem dX5_init_89 : decode cX5_init 89 = .ok (.aload_n 0, 1) := by decide +kernel
theorem dX5_init_90 : decode cX5_init 90 = .ok (.getfield 17, 3) := by decide +kernel
theorem dX5_init_93 : decode cX5_init 93 = .ok (.iconst 3, 1) := by decide +kernel
theorem dX5_init_94 : decode cX5_init 94 = .ok (.new 9, 3) := by decide +kernel
theorem dX5_init_97 : decode cX5_init 97 = .ok (.dup, 1) := by decide +kernel
theorem dX5_init_98 : decode cX5_init 98 = .ok (.iconst 3, 1) := by decide +kernel
theorem dX5_init_99 : decode cX5_init 99 = .ok (.iconst (-1), 1) := by decide +kernel
theorem dX5_init_100 : decode cX5_init 100 = .ok (.iconst 1, 1) := by decide +kernel
theorem dX5_init_101 : decode cX5_init 101 = .ok (.newarray .int, 2) := by decide +kernel
theorem dX5_init_103 : decode cX5_init 103 = .ok (.dup, 1) := by decide +kernel
theorem dX5_init_104 : decode cX5_init 104 = .ok (.iconst 0, 1) := by decide +kernel
theorem dX5_init_105 : decode cX5_init 105 = .ok (.bipush 50, 2) := by decide +kernel
theorem dX5_init_107 : decode cX5_init 107 = .ok (.iastore, 1) := by decide +kernel
theorem dX5_init_108 : decode cX5_init 108 = .ok (.invokespecial 20, 3) := by decide +kernel
theorem dX5_init_111 : decode cX5_init 111 = .ok (.aastore, 1) := by decide +kernel
theorem dX5_init_112 : decode cX5_init 112 = .ok (.aload_n 0, 1) := by decide +kernel
theorem dX5_init_113 : decode cX5_init 113 = .ok (.getfield 17, 3) := by decide +kernel
theorem dX5_init_116 : decode cX5_init 116 = .ok (.iconst 4, 1) := by decide +kernel
theorem dX5_init_117 : decode cX5_init 117 = .ok (.new 9, 3) := by decide +kernel
theorem dX5_init_120 : decode cX5_init 120 = .ok (.dup, 1) := by decide +kernel
theorem dX5_init_121 : decode cX5_init 121 = .ok (.iconst 4, 1) := by decide +kernel
theorem dX5_init_122 : decode cX5_init 122 = .ok (.iconst (-1), 1) := by decide +kernel
theorem dX5_init_123 : decode cX5_init 123 = .ok (.iconst 1, 1) := by decide +kernel
theorem dX5_init_124 : decode cX5_init 124 = .ok (.newarray .int, 2) := by decide +kernel
theorem dX5_init_126 : decode cX5_init 126 = .ok (.dup, 1) := by decide +kernel
theorem dX5_init_127 : decode cX5_init 127 = .ok (.iconst 0, 1) := by decide +kernel
theorem dX5_init_128 : decode cX5_init 128 = .ok (.bipush 90, 2) := by decide +kernel
theorem dX5_init_130 : decode cX5_init 130 = .ok (.iastore, 1) := by decide +kernel
theorem dX5_init_131 : decode cX5_init 131 = .ok (.invokespecial 20, 3) := by decide +kernel
theorem dX5_init_134 : decode cX5_init 134 = .ok (.aastore, 1) := by decide +kernel
theorem dX5_init_135 : decode cX5_init 135 = .ok (.return_, 1) := by decide +kernel
set_option maxRecDepth 100000 in
theorem ggX10_init_X5_init : GoodIn wsX10_init wsX5_init := goodIn_sub (mmC (mmI il_X10_init_2 8 rfl) (mmA (mmA (mmA (mmC (mmI il_X10_init_2 9 rfl) (mmC (mmI il_X10_init_1 1 rfl) (mmC (mmI il_X10_init_1 2 rfl) (mmC (mmI il_X10_init_2 10 rfl) (mmC (mmI il_X10_init_2 11 rfl) (mmC (mmI il_X10_init_2 12 rfl) (mmC (mmI il_X10_init_2 13 rfl) (mmC (mmI il_X10_init_2 14 rfl) (mmC (mmI il_X10_init_2 2 rfl) (mmC (mmI il_X10_init_2 15 rfl) (mmC (mmI il_X10_init_2 16 rfl) (mmC (mmI il_X10_init_2 17 rfl) (mmC (mmI il_X10_init_2 18 rfl) (mmC (mmI il_X10_init_2 19 rfl) (mmC (mmI il_X10_init_2 20 rfl) (mmC (mmI il_X10_init_2 21 rfl) (mmC (mmI il_X10_init_2 22 rfl) (mmC (mmI il_X10_init_2 23 rfl) (mmC (mmI il_X10_init_3 0 rfl) (mmC (mmI il_X10_init_3 1 rfl) (mmC (mmI il_X10_init_3 2 rfl) (mmC (mmI il_X10_init_3 3 rfl) (mmC (mmI il_X10_init_3 4 rfl) (mmC (mmI il_X10_init_3 5 rfl) mmN)))))))))))))))))))))))) (mmC (mmI il_X10_init_3 6 rfl) (mmC (mmI il_X10_init_3 7 rfl) (mmC (mmI il_X10_init_3 8 rfl) (mmC (mmI il_X10_init_3 9 rfl) (mmC (mmI il_X10_init_3 10 rfl) (mmC (mmI il_X10_init_3 11 rfl) (mmC (mmI il_X10_init_3 12 rfl) (mmC (mmI il_X10_init_3 13 rfl) mmN))))))))) il_X10_init_6) il_X10_init_10)) gw_X5_init
set_option maxRecDepth 20000 in
theorem gX10_init_X5_init : GoodIn wsX10_init (wsX5_init) := ggX10_init_X5_init
set_option maxRecDepth 100000 in
theorem ggX10_init_X8_init : GoodIn wsX10_init wsX8_init := goodIn_sub (mmC (mmI il_X10_init_3 16 rfl) (mmA (mmC (mmI il_X10_init_3 17 rfl) (mmC (mmI il_X10_init_1 1 rfl) (mmC (mmI il_X10_init_1 2 rfl) (mmC (mmI il_X10_init_2 2 rfl) (mmC (mmI il_X10_init_3 18 rfl) (mmC (mmI il_X10_init_3 19 rfl) mmN)))))) il_X10_init_7)) gw_X8_init
set_option maxRecDepth 20000 in
theorem gX10_init_X8_init : GoodIn wsX10_init (wsX8_init) := ggX10_init_X8_init
set_option maxRecDepth 100000 in
theorem ggX10_init_X7_init : GoodIn wsX10_init wsX7_init := goodIn_sub (mmC (mmI il_X10_init_3 22 rfl) (mmA (mmC (mmI il_X10_init_3 23 rfl) (mmC (mmI il_X10_init_1 1 rfl) (mmC (mmI il_X10_init_1 2 rfl) (mmC (mmI il_X10_init_2 2 rfl) (mmC (mmI il_X10_init_4 0 rfl) (mmC (mmI il_X10_init_4 1 rfl) mmN)))))) il_X10_init_8)) gw_X7_init
set_option maxRecDepth 20000 in
theorem gX10_init_X7_init : GoodIn wsX10_init (wsX7_init) := ggX10_init_X7_init
set_option maxRecDepth 100000 in
theorem ggX10_init_X4_init : GoodIn wsX10_init wsX4_init := goodIn_sub (mmC (mmI il_X10_init_4 4 rfl) (mmA (mmC (mmI il_X10_init_4 5 rfl) (mmC (mmI il_X10_init_1 1 rfl) (mmC (mmI il_X10_init_1 2 rfl) (mmC (mmI il_X10_init_4 6 rfl) (mmC (mmI il_X10_init_4 7 rfl) (mmC (mmI il_X10_init_2 2 rfl) (mmC (mmI il_X10_init_4 8 rfl) (mmC (mmI il_X10_init_4 9 rfl) mmN)))))))) il_X10_init_9)) gw_X4_init
set_option maxRecDepth 20000 in
theorem gX10_init_X4_init : GoodIn wsX10_init (wsX4_init) := ggX10_init_X4_init
theorem dX10_init_0 : decode cX10_init 0 = .ok (.aload_n 0, 1) := by decide +kernel
theorem dX10_init_1 : decode cX10_init 1 = .ok (.invokespecial 3, 3) := by decide +kernel
theorem dX10_init_4 : decode cX10_init 4 = .ok (.aload_n 0, 1) := by decide +kernel
theorem dX10_init_5 : decode cX10_init 5 = .ok (.bipush 40, 2) := by decide +kernel
theorem dX10_init_7 : decode cX10_init 7 = .ok (.anewarray 9, 3) := by decide +kernel
theorem dX10_init_10 : decode cX10_init 10 = .ok (.putfield 11, 3) := by decide +kernel
theorem dX10_init_13 : decode cX10_init 13 = .ok (.aload_n 0, 1) := by decide +kernel
theorem dX10_init_14 : decode cX10_init 14 = .ok (.bipush 20, 2) := by decide +kernel
theorem dX10_init_16 : decode cX10_init 16 = .ok (.anewarray 15, 3) := by decide +kernel
theorem dX10_init_19 : decode cX10_init 19 = .ok (.putfield 17, 3) := by decide +kernel
theorem dX10_init_22 : decode cX10_init 22 = .ok (.aload_n 0, 1) := by decide +kernel
theorem dX10_init_23 : decode cX10_init 23 = .ok (.bipush 60, 2) := by decide +kernel
theorem dX10_init_25 : decode cX10_init 25 = .ok (.anewarray 21, 3) := by decide +kernel
theorem dX10_init_28 : decode cX10_init 28 = .ok (.putfield 23, 3) := by decide +kernel
theorem dX10_init_31 : decode cX10_init 31 = .ok (.aload_n 0, 1) := by decide +kernel
theorem dX10_init_32 : decode cX10_init 32 = .ok (.new 27, 3) := by decide +kernel
theorem dX10_init_35 : decode cX10_init 35 = .ok (.dup, 1) := by decide +kernel
theorem dX10_init_36 : decode cX10_init 36 = .ok (.invokespecial 29, 3) := by decide +kernel
theorem dX10_init_39 : decode cX10_init 39 = .ok (.putfield 30, 3) := by decide +kernel
theorem dX10_init_42 : decode cX10_init 42 = .ok (.aload_n 0, 1) := by decide +kernel
theorem dX10_init_43 : decode cX10_init 43 = .ok (.new 34, 3) := by decide +kernel
theorem dX10_init_46 : decode cX10_init 46 = .ok (.dup, 1) := by decide +kernel
theorem dX10_init_47 : decode cX10_init 47 = .ok (.invokespecial 36, 3) := by decide +kernel
theorem dX10_init_50 : decode cX10_init 50 = .ok (.putfield 37, 3) := by decide +kernel
theorem dX10_init_53 : decode cX10_init 53 = .ok (.aload_n 0, 1) := by decide +kernel
theorem dX10_init_54 : decode cX10_init 54 = .ok (.new 41, 3) := by decide +kernel
theorem dX10_init_57 : decode cX10_init 57 = .ok (.dup, 1) := by decide +kernel
theorem dX10_init_58 : decode cX10_init 58 = .ok (.invokespecial 43, 3) := by decide +kernel
theorem dX10_init_61 : decode cX10_init 61 = .ok (.putfield 44, 3) := by decide +kernel
theorem dX10_init_64 : decode cX10_init 64 = .ok (.aload_n 0, 1) := by decide +kernel
theorem dX10_init_65 : decode cX10_init 65 = .ok (.new 48, 3) := by decide +kernel
theorem dX10_init_68 : decode cX10_init 68 = .ok (.dup, 1) := by decide +kernel
theorem dX10_init_69 : decode cX10_init 69 = .ok (.invokespecial 50, 3) := by decide +kernel
theorem dX10_init_72 : decode cX10_init 72 = .ok (.putfield 51, 3) := by decide +kernel
theorem dX10_init_75 : decode cX10_init 75 = .ok (.aload_n 0, 1) := by decide +kernel
theorem dX10_init_76 : decode cX10_init 76 = .ok (.getstatic 55, 3) := by decide +kernel
theorem dX10_init_79 : decode cX10_init 79 = .ok (.arraylength, 1) := by decide +kernel
theorem dX10_init_80 : decode cX10_init 80 = .ok (.newarray .int, 2) := by decide +kernel
theorem dX10_init_82 : decode cX10_init 82 = .ok (.putfield 59, 3) := by decide +kernel
theorem dX10_init_85 : decode cX10_init 85 = .ok (.aload_n 0, 1) := by decide +kernel
theorem dX10_init_86 : decode cX10_init 86 = .ok (.bipush 12, 2) := by decide +kernel
theorem dX10_init_88 : decode cX10_init 88 = .ok (.newarray .int, 2) := by decide +kernel
theorem dX10_init_90 : decode cX10_init 90 = .ok (.putfield 63, 3) := by decide +kernel
theorem dX10_init_93 : decode cX10_init 93 = .ok (.aload_n 0, 1) := by decide +kernel
theorem dX10_init_94 : decode cX10_init 94 = .ok (.bipush 7, 2) := by decide +kernel
theorem dX10_init_96 : decode cX10_init 96 = .ok (.newarray .int, 2) := by decide +kernel
theorem dX10_init_98 : decode cX10_init 98 = .ok (.putfield 66, 3) := by decide +kernel
theorem dX10_init_101 : decode cX10_init 101 = .ok (.return_, 1) := by decide +kernel
theorem in_wsX5_init_X5 : ∀ w ∈ wsX50, w ∈ wsX5_init := fun w h => List.mem_cons_of_mem _ (List.mem_append_left _ (List.mem_append_right _ h))
theorem in_wsX5_init_X0 : ∀ w ∈ wsX00, w ∈ wsX5_init := fun w h => List.mem_cons_of_mem _ (List.mem_append_right _ h)
theorem in_wsX10_init_X10 : ∀ w ∈ wsX100, w ∈ wsX10_init := fun w h => List.mem_cons_of_mem _ (List.mem_append_left _ (List.mem_append_left _ (List.mem_append_left _ (List.mem_append_left _ (List.mem_append_left _ (List.mem_append_right _ h))))))
theorem in_wsX10_init_X5 : ∀ w ∈ wsX50, w ∈ wsX10_init := fun w h => List.mem_cons_of_mem _ (List.mem_append_left _ (List.mem_append_left _ (List.mem_append_left _ (List.mem_append_left _ (List.mem_append_right _ h)))))
theorem in_wsX10_init_X8 : ∀ w ∈ wsX80, w ∈ wsX10_init := fun w h => List.mem_cons_of_mem _ (List.mem_append_left _ (List.mem_append_left _ (List.mem_append_left _ (List.mem_append_right _ h))))
theorem in_wsX10_init_X7 : ∀ w ∈ wsX70, w ∈ wsX10_init := fun w h => List.mem_cons_of_mem _ (List.mem_append_left _ (List.mem_append_left _ (List.mem_append_right _ h)))
theorem in_wsX10_init_X4 : ∀ w ∈ wsX40, w ∈ wsX10_init := fun w h => List.mem_cons_of_mem _ (List.mem_append_left _ (List.mem_append_right _ h))
theorem in_obj_wsX5_init : Cond.code objectInit ⟨#[0xb1]⟩ 1 none ∈ wsX5_init := List.mem_of_getElem? (i := 3) rfl
theorem in_obj_wsX10_init : Cond.code objectInit ⟨#[0xb1]⟩ 1 none ∈ wsX10_init := List.mem_of_getElem? (i := 3) rfl

theorem nkw {k i : Nat} {W : List Nat} (h1 : 11 ≤ k) (h2 : k < 300) (h : 2000 + k ∉ W) : wk k i ∉ W := by
  have e : wk k i = 2000 + k := by
    unfold wk
    rw [if_neg (by omega), if_neg (by omega), if_neg (by omega)]
  rw [e]
  exact h