def tyX0 : Nat → FieldType := fun k => match k with
  | 0 => .int
  | 1 => .int
  | 2 => .int
  | 3 => .array .int
  | _ => .array .int
theorem nmX0 : ∀ a, a < 5 → ∀ b, b < 5 → a ≠ b → (TX0 a).2.1 ≠ (TX0 b).2.1 := by decide +kernel
theorem tyX0_ok : ∀ k, k < 5 → parseFieldDescriptor (TX0 k).2.2.1 = some (tyX0 k) := by decide +kernel
abbrev cX4_init : ByteArray := prog_6_method_1_code
def yX4_init : MethodName := ⟨RX4, "<init>", "()V"⟩
def tyX5 : Nat → FieldType := fun k => match k with
  | 0 => .array (.object "ShipOffice$Act")
  | 1 => .array (.object "ShipOffice$Act")
  | _ => .int
theorem nmX5 : ∀ a, a < 3 → ∀ b, b < 3 → a ≠ b → (TX5 a).2.1 ≠ (TX5 b).2.1 := by decide +kernel
theorem tyX5_ok : ∀ k, k < 3 → parseFieldDescriptor (TX5 k).2.2.1 = some (tyX5 k) := by decide +kernel
abbrev cX5_init : ByteArray := prog_7_method_1_code
def yX5_init : MethodName := ⟨RX5, "<init>", "()V"⟩
def tyX7 : Nat → FieldType := fun k => match k with
  | 0 => .array .int
  | _ => .array .int
theorem nmX7 : ∀ a, a < 2 → ∀ b, b < 2 → a ≠ b → (TX7 a).2.1 ≠ (TX7 b).2.1 := by decide +kernel
theorem tyX7_ok : ∀ k, k < 2 → parseFieldDescriptor (TX7 k).2.2.1 = some (tyX7 k) := by decide +kernel
abbrev cX7_init : ByteArray := prog_9_method_1_code
def yX7_init : MethodName := ⟨RX7, "<init>", "()V"⟩
abbrev cX8_init : ByteArray := prog_10_method_1_code
def yX8_init : MethodName := ⟨RX8, "<init>", "()V"⟩
def wsX0_worth : List Cond := .code yX0_worth cX0_worth 8 (some .int) :: ([.fieldLink RX0 16 "ShipOffice$Act" "code" "[I", .fieldLink RX0 20 "ShipOffice$Act" "stack" "[I", .methodLink RX0 36 yX0_joined, .static yX0_joined, .initialized RX0, .code yX0_joined cX0_joined 5 (some .int), .methodLink RX0 40 yX0_held, .static yX0_held, .code yX0_held cX0_held 2 (some .int), .constantLong RX0 44 (1000000000), .constant RX0 46 (1000000000), .constantLong RX0 47 (-1000000000), .constant RX0 49 (-1000000000)] ++ wsX00)
def wsX0_init : List Cond := .code yX0_init cX0_init 4 none :: ([.methodLink RX0 1 objectInit, .instanceMethod objectInit, .code objectInit ⟨#[0xb1]⟩ 1 none, .fieldLink RX0 7 "ShipOffice$Act" "purpose" "I", .fieldLink RX0 13 "ShipOffice$Act" "day" "I", .fieldLink RX0 16 "ShipOffice$Act" "code" "[I", .arrayClass .int, .fieldLink RX0 20 "ShipOffice$Act" "stack" "[I", .fieldLink RX0 33 "ShipOffice$Act" "plainWorth" "I", .methodLink RX0 29 yX0_worth, .instanceMethod yX0_worth, .selects RX0 yX0_worth yX0_worth, .initialized RX0, .code yX0_worth cX0_worth 8 (some .int), .methodLink RX0 36 yX0_joined, .static yX0_joined, .code yX0_joined cX0_joined 5 (some .int), .methodLink RX0 40 yX0_held, .static yX0_held, .code yX0_held cX0_held 2 (some .int), .constantLong RX0 44 (1000000000), .constant RX0 46 (1000000000), .constantLong RX0 47 (-1000000000), .constant RX0 49 (-1000000000)] ++ wsX00)
def wsX4_init : List Cond := .code yX4_init cX4_init 1 none :: ([.methodLink RX4 5 objectInit, .instanceMethod objectInit, .code objectInit ⟨#[0xb1]⟩ 1 none, .arrayClass .long, .fieldLink RX4 11 "ShipOffice$Hiring" "best" "[J", .arrayClass .int, .fieldLink RX4 15 "ShipOffice$Hiring" "offers" "[I", .fieldLink RX4 19 "ShipOffice$Hiring" "firstPlace" "[I"] ++ wsX40)
def wsX5_init_r1 : List Cond := [Cond.methodLink RX5 3 objectInit, Cond.instanceMethod objectInit, Cond.code objectInit ⟨#[0xb1]⟩ 1 none, Cond.classLink RX5 9 RX0, Cond.fieldLink RX5 11 "ShipOffice$Law" "acts" "[LShipOffice$Act;", Cond.fieldLink RX5 17 "ShipOffice$Law" "customs" "[LShipOffice$Act;", Cond.instantiable RX0 5, Cond.initialized RX0, Cond.arrayClass .int, Cond.methodLink RX5 20 yX0_init, Cond.instanceMethod yX0_init, Cond.code yX0_init cX0_init 4 none, Cond.methodLink RX0 1 objectInit, Cond.fieldLink RX0 7 "ShipOffice$Act" "purpose" "I", Cond.fieldLink RX0 13 "ShipOffice$Act" "day" "I", Cond.fieldLink RX0 16 "ShipOffice$Act" "code" "[I", Cond.fieldLink RX0 20 "ShipOffice$Act" "stack" "[I", Cond.fieldLink RX0 33 "ShipOffice$Act" "plainWorth" "I", Cond.methodLink RX0 29 yX0_worth, Cond.instanceMethod yX0_worth, Cond.selects RX0 yX0_worth yX0_worth, Cond.code yX0_worth cX0_worth 8 (some .int), Cond.methodLink RX0 36 yX0_joined, Cond.static yX0_joined]
def wsX5_init_r2 : List Cond := [Cond.code yX0_joined cX0_joined 5 (some .int), Cond.methodLink RX0 40 yX0_held, Cond.static yX0_held, Cond.code yX0_held cX0_held 2 (some .int), Cond.constantLong RX0 44 (1000000000), Cond.constant RX0 46 (1000000000), Cond.constantLong RX0 47 (-1000000000), Cond.constant RX0 49 (-1000000000)]
def wsX5_init : List Cond := .code yX5_init cX5_init 1 none :: ((wsX5_init_r1 ++ wsX5_init_r2) ++ wsX50 ++ wsX00)
def wsX7_init : List Cond := .code yX7_init cX7_init 1 none :: ([.methodLink RX7 3 objectInit, .instanceMethod objectInit, .code objectInit ⟨#[0xb1]⟩ 1 none, .arrayClass .int, .fieldLink RX7 9 "ShipOffice$Sea" "miles" "[I", .fieldLink RX7 15 "ShipOffice$Sea" "least" "[I"] ++ wsX70)
def wsX8_init : List Cond := .code yX8_init cX8_init 1 none :: ([.methodLink RX8 3 objectInit, .instanceMethod objectInit, .code objectInit ⟨#[0xb1]⟩ 1 none, .arrayClass .int, .fieldLink RX8 9 "ShipOffice$Tape" "bytes" "[I", .fieldLink RX8 15 "ShipOffice$Tape" "code" "[I"] ++ wsX80)
set_option maxRecDepth 20000 in
theorem ggX0_init_X0_worth : GoodIn wsX0_init wsX0_worth := goodIn_r _ [14, 6, 8, 15, 16, 13, 17, 18, 19, 20, 21, 22, 23, 24, 25, 26, 27, 28, 29] (by decide +kernel) (by decide +kernel)
set_option maxRecDepth 20000 in
theorem gX0_init_X0_worth : GoodIn wsX0_init (wsV RX0 29 RX0 yX0_worth wsX0_worth) := goodIn_app (goodIn_of _ (by decide +kernel)) ggX0_init_X0_worth
theorem dX0_init_0 : decode cX0_init 0 = .ok (.aload_n 0, 1) := by decide +kernel
theorem dX0_init_1 : decode cX0_init 1 = .ok (.invokespecial 1, 3) := by decide +kernel
theorem dX0_init_4 : decode cX0_init 4 = .ok (.aload_n 0, 1) := by decide +kernel
theorem dX0_init_5 : decode cX0_init 5 = .ok (.iload_n 1, 1) := by decide +kernel
theorem dX0_init_6 : decode cX0_init 6 = .ok (.putfield 7, 3) := by decide +kernel
theorem dX0_init_9 : decode cX0_init 9 = .ok (.aload_n 0, 1) := by decide +kernel
theorem dX0_init_10 : decode cX0_init 10 = .ok (.iload_n 2, 1) := by decide +kernel
theorem dX0_init_11 : decode cX0_init 11 = .ok (.putfield 13, 3) := by decide +kernel
theorem dX0_init_14 : decode cX0_init 14 = .ok (.aload_n 0, 1) := by decide +kernel
theorem dX0_init_15 : decode cX0_init 15 = .ok (.aload_n 3, 1) := by decide +kernel
theorem dX0_init_16 : decode cX0_init 16 = .ok (.putfield 16, 3) := by decide +kernel
theorem dX0_init_19 : decode cX0_init 19 = .ok (.aload_n 0, 1) := by decide +kernel
theorem dX0_init_20 : decode cX0_init 20 = .ok (.aload_n 3, 1) := by decide +kernel
theorem dX0_init_21 : decode cX0_init 21 = .ok (.arraylength, 1) := by decide +kernel
theorem dX0_init_22 : decode cX0_init 22 = .ok (.iconst 1, 1) := by decide +kernel
theorem dX0_init_23 : decode cX0_init 23 = .ok (.iadd, 1) := by decide +kernel
theorem dX0_init_24 : decode cX0_init 24 = .ok (.newarray .int, 2) := by decide +kernel
theorem dX0_init_26 : decode cX0_init 26 = .ok (.putfield 20, 3) := by decide +kernel
theorem dX0_init_29 : decode cX0_init 29 = .ok (.aload_n 0, 1) := by decide +kernel
theorem dX0_init_30 : decode cX0_init 30 = .ok (.aload_n 0, 1) := by decide +kernel
theorem dX0_init_31 : decode cX0_init 31 = .ok (.getstatic 23, 3) := by decide +kernel
theorem dX0_init_34 : decode cX0_init 34 = .ok (.arraylength, 1) := by decide +kernel
theorem dX0_init_35 : decode cX0_init 35 = .ok (.newarray .int, 2) := by decide +kernel
theorem dX0_init_37 : decode cX0_init 37 = .ok (.invokevirtual 29, 3) := by decide +kernel
theorem dX0_init_40 : decode cX0_init 40 = .ok (.putfield 33, 3) := by decide +kernel
theorem dX0_init_43 : decode cX0_init 43 = .ok (.return_, 1) := by decide +kernel
theorem dX0_worth_0 : decode cX0_worth 0 = .ok (.iconst 0, 1) := by decide +kernel
theorem dX0_worth_1 : decode cX0_worth 1 = .ok (.istore_n 2, 1) := by decide +kernel
theorem dX0_worth_2 : decode cX0_worth 2 = .ok (.aload_n 0, 1) := by decide +kernel
theorem dX0_worth_3 : decode cX0_worth 3 = .ok (.getfield 16, 3) := by decide +kernel
theorem dX0_worth_6 : decode cX0_worth 6 = .ok (.astore_n 3, 1) := by decide +kernel
theorem dX0_worth_7 : decode cX0_worth 7 = .ok (.aload_n 3, 1) := by decide +kernel
theorem dX0_worth_8 : decode cX0_worth 8 = .ok (.arraylength, 1) := by decide +kernel
theorem dX0_worth_9 : decode cX0_worth 9 = .ok (.istore 4, 2) := by decide +kernel
theorem dX0_worth_11 : decode cX0_worth 11 = .ok (.iconst 0, 1) := by decide +kernel
theorem dX0_worth_12 : decode cX0_worth 12 = .ok (.istore 5, 2) := by decide +kernel
theorem dX0_worth_14 : decode cX0_worth 14 = .ok (.iload 5, 2) := by decide +kernel
theorem dX0_worth_16 : decode cX0_worth 16 = .ok (.iload 4, 2) := by decide +kernel
theorem dX0_worth_18 : decode cX0_worth 18 = .ok (.if_icmp .ge 110, 3) := by decide +kernel
theorem dX0_worth_21 : decode cX0_worth 21 = .ok (.aload_n 3, 1) := by decide +kernel
theorem dX0_worth_22 : decode cX0_worth 22 = .ok (.iload 5, 2) := by decide +kernel
theorem dX0_worth_24 : decode cX0_worth 24 = .ok (.iaload, 1) := by decide +kernel
theorem dX0_worth_25 : decode cX0_worth 25 = .ok (.istore 6, 2) := by decide +kernel
theorem dX0_worth_27 : decode cX0_worth 27 = .ok (.iload 6, 2) := by decide +kernel
theorem dX0_worth_29 : decode cX0_worth 29 = .ok (.bipush (-11), 2) := by decide +kernel
theorem dX0_worth_31 : decode cX0_worth 31 = .ok (.if_icmp .le 51, 3) := by decide +kernel
theorem dX0_worth_34 : decode cX0_worth 34 = .ok (.iload_n 2, 1) := by decide +kernel
theorem dX0_worth_35 : decode cX0_worth 35 = .ok (.aload_n 0, 1) := by decide +kernel
theorem dX0_worth_36 : decode cX0_worth 36 = .ok (.getfield 20, 3) := by decide +kernel
theorem dX0_worth_39 : decode cX0_worth 39 = .ok (.arraylength, 1) := by decide +kernel
theorem dX0_worth_40 : decode cX0_worth 40 = .ok (.if_icmp .ge 42, 3) := by decide +kernel
theorem dX0_worth_43 : decode cX0_worth 43 = .ok (.iconst (-1), 1) := by decide +kernel
theorem dX0_worth_44 : decode cX0_worth 44 = .ok (.iload 6, 2) := by decide +kernel
theorem dX0_worth_46 : decode cX0_worth 46 = .ok (.isub, 1) := by decide +kernel
theorem dX0_worth_47 : decode cX0_worth 47 = .ok (.istore 7, 2) := by decide +kernel
theorem dX0_worth_49 : decode cX0_worth 49 = .ok (.aload_n 0, 1) := by decide +kernel
theorem dX0_worth_50 : decode cX0_worth 50 = .ok (.getfield 20, 3) := by decide +kernel
theorem dX0_worth_53 : decode cX0_worth 53 = .ok (.iload_n 2, 1) := by decide +kernel
theorem dX0_worth_54 : decode cX0_worth 54 = .ok (.iload 7, 2) := by decide +kernel
theorem dX0_worth_56 : decode cX0_worth 56 = .ok (.ifCond .lt 17, 3) := by decide +kernel
theorem dX0_worth_59 : decode cX0_worth 59 = .ok (.iload 7, 2) := by decide +kernel
theorem dX0_worth_61 : decode cX0_worth 61 = .ok (.aload_n 1, 1) := by decide +kernel
theorem dX0_worth_62 : decode cX0_worth 62 = .ok (.arraylength, 1) := by decide +kernel
theorem dX0_worth_63 : decode cX0_worth 63 = .ok (.if_icmp .ge 10, 3) := by decide +kernel
theorem dX0_worth_66 : decode cX0_worth 66 = .ok (.aload_n 1, 1) := by decide +kernel
theorem dX0_worth_67 : decode cX0_worth 67 = .ok (.iload 7, 2) := by decide +kernel
theorem dX0_worth_69 : decode cX0_worth 69 = .ok (.iaload, 1) := by decide +kernel
theorem dX0_worth_70 : decode cX0_worth 70 = .ok (.goto 5, 3) := by decide +kernel
theorem dX0_worth_73 : decode cX0_worth 73 = .ok (.iload 6, 2) := by decide +kernel
theorem dX0_worth_75 : decode cX0_worth 75 = .ok (.iastore, 1) := by decide +kernel
theorem dX0_worth_76 : decode cX0_worth 76 = .ok (.iinc 2 1, 3) := by decide +kernel
theorem dX0_worth_79 : decode cX0_worth 79 = .ok (.goto 43, 3) := by decide +kernel
theorem dX0_worth_122 : decode cX0_worth 122 = .ok (.iinc 5 1, 3) := by decide +kernel
theorem dX0_worth_125 : decode cX0_worth 125 = .ok (.goto (-111), 3) := by decide +kernel
theorem dX0_worth_128 : decode cX0_worth 128 = .ok (.aload_n 0, 1) := by decide +kernel
theorem dX0_worth_129 : decode cX0_worth 129 = .ok (.getfield 20, 3) := by decide +kernel
theorem dX0_worth_132 : decode cX0_worth 132 = .ok (.iconst 0, 1) := by decide +kernel
theorem dX0_worth_133 : decode cX0_worth 133 = .ok (.iaload, 1) := by decide +kernel
theorem dX0_worth_134 : decode cX0_worth 134 = .ok (.ireturn, 1) := by decide +kernel
theorem dX4_init_0 : decode cX4_init 0 = .ok (.aload_n 0, 1) := by decide +kernel
theorem dX4_init_1 : decode cX4_init 1 = .ok (.invokespecial 5, 3) := by decide +kernel
theorem dX4_init_4 : decode cX4_init 4 = .ok (.aload_n 0, 1) := by decide +kernel
theorem dX4_init_5 : decode cX4_init 5 = .ok (.bipush 81, 2) := by decide +kernel
theorem dX4_init_7 : decode cX4_init 7 = .ok (.newarray .long, 2) := by decide +kernel
theorem dX4_init_9 : decode cX4_init 9 = .ok (.putfield 11, 3) := by decide +kernel
theorem dX4_init_12 : decode cX4_init 12 = .ok (.aload_n 0, 1) := by decide +kernel
theorem dX4_init_13 : decode cX4_init 13 = .ok (.bipush 12, 2) := by decide +kernel
theorem dX4_init_15 : decode cX4_init 15 = .ok (.newarray .int, 2) := by decide +kernel
theorem dX4_init_17 : decode cX4_init 17 = .ok (.putfield 15, 3) := by decide +kernel
theorem dX4_init_20 : decode cX4_init 20 = .ok (.aload_n 0, 1) := by decide +kernel
theorem dX4_init_21 : decode cX4_init 21 = .ok (.iconst 4, 1) := by decide +kernel
theorem dX4_init_22 : decode cX4_init 22 = .ok (.newarray .int, 2) := by decide +kernel
theorem dX4_init_24 : decode cX4_init 24 = .ok (.putfield 19, 3) := by decide +kernel
theorem dX4_init_27 : decode cX4_init 27 = .ok (.return_, 1) := by decide +kernel
set_option maxRecDepth 20000 in
theorem ggX5_init_X0_init : GoodIn wsX5_init wsX0_init := goodIn_r _ [12, 13, 2, 3, 14, 15, 16, 9, 17, 18, 19, 20, 21, 8, 22, 23, 24, 25, 26, 27, 28, 29, 30, 31, 32, 36, 37, 38, 39, 40] (by decide +kernel) (by decide +kernel)
set_option maxRecDepth 20000 in
theorem gX5_init_X0_init : GoodIn wsX5_init (wsX0_init) := ggX5_init_X0_init
theorem dX5_init_0 : decode cX5_init 0 = .ok (.aload_n 0, 1) := by decide +kernel
theorem dX5_init_1 : decode cX5_init 1 = .ok (.invokespecial 3, 3) := by decide +kernel
theorem dX5_init_4 : decode cX5_init 4 = .ok (.aload_n 0, 1) := by decide +kernel
theorem dX5_init_5 : decode cX5_init 5 = .ok (.bipush 30, 2) := by decide +kernel
theorem dX5_init_7 : decode cX5_init 7 = .ok (.anewarray 9, 3) := by decide +kernel
theorem dX5_init_10 : decode cX5_init 10 = .ok (.putfield 11, 3) := by decide +kernel
theorem dX5_init_13 : decode cX5_init 13 = .ok (.aload_n 0, 1) := by decide +kernel
theorem dX5_init_14 : decode cX5_init 14 = .ok (.iconst 5, 1) := by decide +kernel
theorem dX5_init_15 : decode cX5_init 15 = .ok (.anewarray 9, 3) := by decide +kernel
theorem dX5_init_18 : decode cX5_init 18 = .ok (.putfield 17, 3) := by decide +kernel
theorem dX5_init_21 : decode cX5_init 21 = .ok (.aload_n 0, 1) := by decide +kernel
theorem dX5_init_22 : decode cX5_init 22 = .ok (.getfield 17, 3) := by decide +kernel
theorem dX5_init_25 : decode cX5_init 25 = .ok (.iconst 0, 1) := by decide +kernel
theorem dX5_init_26 : decode cX5_init 26 = .ok (.new 9, 3) := by decide +kernel
theorem dX5_init_29 : decode cX5_init 29 = .ok (.dup, 1) := by decide +kernel
theorem dX5_init_30 : decode cX5_init 30 = .ok (.iconst 0, 1) := by decide +kernel
theorem dX5_init_31 : decode cX5_init 31 = .ok (.iconst (-1), 1) := by decide +kernel
theorem dX5_init_32 : decode cX5_init 32 = .ok (.iconst 1, 1) := by decide +kernel
theorem dX5_init_33 : decode cX5_init 33 = .ok (.newarray .int, 2) := by decide +kernel
theorem dX5_init_35 : decode cX5_init 35 = .ok (.dup, 1) := by decide +kernel
theorem dX5_init_36 : decode cX5_init 36 = .ok (.iconst 0, 1) := by decide +kernel
theorem dX5_init_37 : decode cX5_init 37 = .ok (.iconst 1, 1) := by decide +kernel
theorem dX5_init_38 : decode cX5_init 38 = .ok (.iastore, 1) := by decide +kernel
theorem dX5_init_39 : decode cX5_init 39 = .ok (.invokespecial 20, 3) := by decide +kernel
theorem dX5_init_42 : decode cX5_init 42 = .ok (.aastore, 1) := by decide +kernel
theorem dX5_init_43 : decode cX5_init 43 = .ok (.aload_n 0, 1) := by decide +kernel
theorem dX5_init_44 : decode cX5_init 44 = .ok (.getfield 17, 3) := by decide +kernel
theorem dX5_init_47 : decode cX5_init 47 = .ok (.iconst 1, 1) := by decide +kernel
theorem dX5_init_48 : decode cX5_init 48 = .ok (.new 9, 3) := by decide +kernel
theorem dX5_init_51 : decode cX5_init 51 = .ok (.dup, 1) := by decide +kernel
theorem dX5_init_52 : decode cX5_init 52 = .ok (.iconst 1, 1) := by decide +kernel
theorem dX5_init_53 : decode cX5_init 53 = .ok (.iconst (-1), 1) := by decide +kernel
theorem dX5_init_54 : decode cX5_init 54 = .ok (.iconst 1, 1) := by decide +kernel
theorem dX5_init_55 : decode cX5_init 55 = .ok (.newarray .int, 2) := by decide +kernel
theorem dX5_init_57 : decode cX5_init 57 = .ok (.dup, 1) := by decide +kernel
theorem dX5_init_58 : decode cX5_init 58 = .ok (.iconst 0, 1) := by decide +kernel
theorem dX5_init_59 : decode cX5_init 59 = .ok (.bipush (-6), 2) := by decide +kernel
theorem dX5_init_61 : decode cX5_init 61 = .ok (.iastore, 1) := by decide +kernel
theorem dX5_init_62 : decode cX5_init 62 = .ok (.invokespecial 20, 3) := by decide +kernel
theorem dX5_init_65 : decode cX5_init 65 = .ok (.aastore, 1) := by decide +kernel
theorem dX5_init_66 : decode cX5_init 66 = .ok (.aload_n 0, 1) := by decide +kernel
theorem dX5_init_67 : decode cX5_init 67 = .ok (.getfield 17, 3) := by decide +kernel
theorem dX5_init_70 : decode cX5_init 70 = .ok (.iconst 2, 1) := by decide +kernel
theorem dX5_init_71 : decode cX5_init 71 = .ok (.new 9, 3) := by decide +kernel
theorem dX5_init_74 : decode cX5_init 74 = .ok (.dup, 1) := by decide +kernel
theorem dX5_init_75 : decode cX5_init 75 = .ok (.iconst 2, 1) := by decide +kernel
theorem dX5_init_76 : decode cX5_init 76 = .ok (.iconst (-1), 1) := by decide +kernel
theorem dX5_init_77 : decode cX5_init 77 = .ok (.iconst 1, 1) := by decide +kernel
theorem dX5_init_78 : decode cX5_init 78 = .ok (.newarray .int, 2) := by decide +kernel
theorem dX5_init_80 : decode cX5_init 80 = .ok (.dup, 1) := by decide +kernel
theorem dX5_init_81 : decode cX5_init 81 = .ok (.iconst 0, 1) := by decide +kernel
theorem dX5_init_82 : decode cX5_init 82 = .ok (.bipush 100, 2) := by decide +kernel
theorem dX5_init_84 : decode cX5_init 84 = .ok (.iastore, 1) := by decide +kernel
theorem dX5_init_85 : decode cX5_init 85 = .ok (.invokespecial 20, 3) := by decide +kernel
theorem dX5_init_88 : decode cX5_init 88 = .ok (.aastore, 1) := by decide +kernel
theorem dX5_init_89 : decode cX5_init 89 = .ok (.aload_n 0, 1) := by decide +kernel
theorem dX5_init_90 : decode cX5_init 90 = .ok (.getfield 17, 3) := by decide +kernel
theorem dX5_init_93 : decode cX5_init 93 = .ok (.iconst 3, 1) := by decide +kernel
theorem dX5_init_94 : decode cX5_init 94 = .ok (.new 9, 3) := by decide +kernel
theorem dX5_init_97 : decode cX5_init 97 = .ok (.dup, 1) := by decide +kernel
theorem dX5_init_98 : decode cX5_init 98 = .ok (.iconst 3, 1) := by decide +kernel
theorem dX5_init_99 : decode cX5_init 99 = .ok (.iconst (-1), 1) := by decide +kernel
theorem dX5_init_100 : decode cX5_init 100 = .ok (.iconst 1, 1) := by decide +kernel
theorem dX5_init_101 : decode cX5_init 101 = .ok (.newarray .int, 2) := by decide +kernel
theorem dX5_init_103 : decode cX5_init 103 = .ok (.dup, 1) := by decide +kernel
theorem dX5_init_104 : decode cX5_init 104 = .ok (.iconst 0, 1) := by decide +kernel
theorem dX5_init_105 : decode cX5_init 105 = .ok (.bipush 50, 2) := by decide +kernel
theorem dX5_init_107 : decode cX5_init 107 = .ok (.iastore, 1) := by decide +kernel
theorem dX5_init_108 : decode cX5_init 108 = .ok (.invokespecial 20, 3) := by decide +kernel
theorem dX5_init_111 : decode cX5_init 111 = .ok (.aastore, 1) := by decide +kernel
theorem dX5_init_112 : decode cX5_init 112 = .ok (.aload_n 0, 1) := by decide +kernel
theorem dX5_init_113 : decode cX5_init 113 = .ok (.getfield 17, 3) := by decide +kernel
theorem dX5_init_116 : decode cX5_init 116 = .ok (.iconst 4, 1) := by decide +kernel
theorem dX5_init_117 : decode cX5_init 117 = .ok (.new 9, 3) := by decide +kernel
theorem dX5_init_120 : decode cX5_init 120 = .ok (.dup, 1) := by decide +kernel
theorem dX5_init_121 : decode cX5_init 121 = .ok (.iconst 4, 1) := by decide +kernel
theorem dX5_init_122 : decode cX5_init 122 = .ok (.iconst (-1), 1) := by decide +kernel
theorem dX5_init_123 : decode cX5_init 123 = .ok (.iconst 1, 1) := by decide +kernel
theorem dX5_init_124 : decode cX5_init 124 = .ok (.newarray .int, 2) := by decide +kernel
theorem dX5_init_126 : decode cX5_init 126 = .ok (.dup, 1) := by decide +kernel
theorem dX5_init_127 : decode cX5_init 127 = .ok (.iconst 0, 1) := by decide +kernel
theorem dX5_init_128 : decode cX5_init 128 = .ok (.bipush 90, 2) := by decide +kernel
theorem dX5_init_130 : decode cX5_init 130 = .ok (.iastore, 1) := by decide +kernel
theorem dX5_init_131 : decode cX5_init 131 = .ok (.invokespecial 20, 3) := by decide +kernel
theorem dX5_init_134 : decode cX5_init 134 = .ok (.aastore, 1) := by decide +kernel
theorem dX5_init_135 : decode cX5_init 135 = .ok (.return_, 1) := by decide +kernel
theorem dX7_init_0 : decode cX7_init 0 = .ok (.aload_n 0, 1) := by decide +kernel
theorem dX7_init_1 : decode cX7_init 1 = .ok (.invokespecial 3, 3) := by decide +kernel
theorem dX7_init_4 : decode cX7_init 4 = .ok (.aload_n 0, 1) := by decide +kernel
theorem dX7_init_5 : decode cX7_init 5 = .ok (.bipush 100, 2) := by decide +kernel
theorem dX7_init_7 : decode cX7_init 7 = .ok (.newarray .int, 2) := by decide +kernel
theorem dX7_init_9 : decode cX7_init 9 = .ok (.putfield 9, 3) := by decide +kernel
theorem dX7_init_12 : decode cX7_init 12 = .ok (.aload_n 0, 1) := by decide +kernel
theorem dX7_init_13 : decode cX7_init 13 = .ok (.bipush 10, 2) := by decide +kernel
theorem dX7_init_15 : decode cX7_init 15 = .ok (.newarray .int, 2) := by decide +kernel
theorem dX7_init_17 : decode cX7_init 17 = .ok (.putfield 15, 3) := by decide +kernel
theorem dX7_init_20 : decode cX7_init 20 = .ok (.return_, 1) := by decide +kernel
theorem dX8_init_0 : decode cX8_init 0 = .ok (.aload_n 0, 1) := by decide +kernel
theorem dX8_init_1 : decode cX8_init 1 = .ok (.invokespecial 3, 3) := by decide +kernel
theorem dX8_init_4 : decode cX8_init 4 = .ok (.aload_n 0, 1) := by decide +kernel
theorem dX8_init_5 : decode cX8_init 5 = .ok (.bipush 60, 2) := by decide +kernel
theorem dX8_init_7 : decode cX8_init 7 = .ok (.newarray .int, 2) := by decide +kernel
theorem dX8_init_9 : decode cX8_init 9 = .ok (.putfield 9, 3) := by decide +kernel
theorem dX8_init_12 : decode cX8_init 12 = .ok (.aload_n 0, 1) := by decide +kernel
theorem dX8_init_13 : decode cX8_init 13 = .ok (.bipush 60, 2) := by decide +kernel
theorem dX8_init_15 : decode cX8_init 15 = .ok (.newarray .int, 2) := by decide +kernel
theorem dX8_init_17 : decode cX8_init 17 = .ok (.putfield 15, 3) := by decide +kernel
theorem dX8_init_20 : decode cX8_init 20 = .ok (.return_, 1) := by decide +kernel
theorem in_wsX0_worth_X0 : ∀ w ∈ wsX00, w ∈ wsX0_worth := fun w h => List.mem_cons_of_mem _ (List.mem_append_right _ h)
theorem in_wsX0_init_X0 : ∀ w ∈ wsX00, w ∈ wsX0_init := fun w h => List.mem_cons_of_mem _ (List.mem_append_right _ h)
theorem in_wsX5_init_X5 : ∀ w ∈ wsX50, w ∈ wsX5_init := fun w h => List.mem_cons_of_mem _ (List.mem_append_left _ (List.mem_append_right _ h))
theorem in_wsX5_init_X0 : ∀ w ∈ wsX00, w ∈ wsX5_init := fun w h => List.mem_cons_of_mem _ (List.mem_append_right _ h)
theorem in_wsX8_init_X8 : ∀ w ∈ wsX80, w ∈ wsX8_init := fun w h => List.mem_cons_of_mem _ (List.mem_append_right _ h)
theorem in_wsX7_init_X7 : ∀ w ∈ wsX70, w ∈ wsX7_init := fun w h => List.mem_cons_of_mem _ (List.mem_append_right _ h)
theorem in_wsX4_init_X4 : ∀ w ∈ wsX40, w ∈ wsX4_init := fun w h => List.mem_cons_of_mem _ (List.mem_append_right _ h)
theorem in_obj_wsX0_init : Cond.code objectInit ⟨#[0xb1]⟩ 1 none ∈ wsX0_init := List.mem_of_getElem? (i := 3) rfl
theorem in_obj_wsX5_init : Cond.code objectInit ⟨#[0xb1]⟩ 1 none ∈ wsX5_init := List.mem_of_getElem? (i := 3) rfl
theorem in_obj_wsX8_init : Cond.code objectInit ⟨#[0xb1]⟩ 1 none ∈ wsX8_init := List.mem_of_getElem? (i := 3) rfl
theorem in_obj_wsX7_init : Cond.code objectInit ⟨#[0xb1]⟩ 1 none ∈ wsX7_init := List.mem_of_getElem? (i := 3) rfl
theorem in_obj_wsX4_init : Cond.code objectInit ⟨#[0xb1]⟩ 1 none ∈ wsX4_init := List.mem_of_getElem? (i := 3) rfl
set_option maxHeartbeats 4000000 in
set_option maxRecDepth 100000 in
theorem c_X0_worth_1 (l : Launch) (dC : Nat → ClassId) (dI : Nat → Nat → Nat) (sz : Nat) (g1 g2 g3 g4 : Nat) (k2 k3 k4 : ClassId) (x1 : Int32) : Met l yX0_worth wsX0_worth ({ frames := 0, cells := 0, slots := 0, locals := 0 }) (va_Pc [.ref g1, .ref g4] (pcW (dC, dI) [(k2, .int), (k3, .int), (k4, .int)] [(g1, .inr (0, [.int x1, .int (-1), .int 0, .ref g2, .ref g3])), (g2, .inl (k2, 1, .inl (upd (fun _ => 0) (0 : Int32).toNatClampNeg 1))), (g3, .inl (k3, 2, .inl (fun _ => 0))), (g4, .inl (k4, 8, .inl (fun _ => 0)))] sz)) (va_Qi (fun (r : Int32) (u : Unit) => r = 1) (fun u t => va_P (dC, dI) vwCl [(g1, .inr (0, [.int x1, .int (-1), .int 0, .ref g2, .ref g3]))] t.heap ∧ va_K (dC, dI) vwCl [] t ∧ va_D (va_A [(g1, .inr (0, [.int x1, .int (-1), .int 0, .ref g2, .ref g3])), (g2, .inl (k2, 1, .inl (upd (fun _ => 0) (0 : Int32).toNatClampNeg 1))), (g3, .inl (k3, 2, .inl (fun _ => 0))), (g4, .inl (k4, 8, .inl (fun _ => 0)))] sz) [(g1, .inr (0, [.int x1, .int (-1), .int 0, .ref g2, .ref g3]))]) (va_A [(g1, .inr (0, [.int x1, .int (-1), .int 0, .ref g2, .ref g3])), (g2, .inl (k2, 1, .inl (upd (fun _ => 0) (0 : Int32).toNatClampNeg 1))), (g3, .inl (k3, 2, .inl (fun _ => 0))), (g4, .inl (k4, 8, .inl (fun _ => 0)))] sz)) 0 0 (va_A [(g1, .inr (0, [.int x1, .int (-1), .int 0, .ref g2, .ref g3])), (g2, .inl (k2, 1, .inl (upd (fun _ => 0) (0 : Int32).toNatClampNeg 1))), (g3, .inl (k3, 2, .inl (fun _ => 0))), (g4, .inl (k4, 8, .inl (fun _ => 0)))] sz) := by
  refine Met.ofW (cc := cX0_worth) (maxL := 8) (ret := (some .int)) (by decide) rfl ?_
  intro p e s m args below meth c s₁ B hml hv
  obtain ⟨rfl, hsz, hP, hK, hD0⟩ := hv
  have hx := B.exec
  have hb := B.bytes
  have hr := B.returns
  have hts := atoms_spec (ws := wsX0_worth) B.pre
  have hown : s.vm.findClass RX0 = some m.cls := findClass_of_methodNamed B.named
  have hlocks := B.notSynchronized
  subst hsz
  have hD := hD0.self (sz := s.heap.size)
  generalize hAe : va_A [(g1, .inr (0, [.int x1, .int (-1), .int 0, .ref g2, .ref g3])), (g2, .inl (k2, 1, .inl (upd (fun _ => 0) (0 : Int32).toNatClampNeg 1))), (g3, .inl (k3, 2, .inl (fun _ => 0))), (g4, .inl (k4, 8, .inl (fun _ => 0)))] s.heap.size = A at hD ⊢
  have hA : ∀ q : Nat, s.heap.size ≤ q → A q := fun q h => by rw [← hAe]; exact Or.inr h
  have hS : va_S A s.heap s.heap [] := va_S.rf
  have hP : va_P (dC, dI) vwCl [(g1, .inr (0, [.int x1, .int (-1), .int 0, .ref g2, .ref g3])), (g2, .inl (k2, 1, .inl (upd (fun _ => 0) (0 : Int32).toNatClampNeg 1))), (g3, .inl (k3, 2, .inl (fun _ => 0))), (g4, .inl (k4, 8, .inl (fun _ => 0)))] s.heap := hP
  have hl := lv_entry ([.ref g1, .ref g4]) (n := 8) (Nat.le_of_ble_eq_true rfl)
  rw [lg_entry_eq]
  generalize (lg_sl ([.ref g1, .ref g4]) ++ List.replicate (8 - (lg_sl ([.ref g1, .ref g4])).length) Slot.unset).toArray = ls at hl ⊢
  have hl : lv_has ls 8 [(0, .ref g1), (1, .ref g4)] := hl
  refine lv_iconst (v := 0) hx hb dX0_worth_0 (by decide) ?_
  refine lv_istore_n (lv' := [(2, .int 0), (0, .ref g1), (1, .ref g4)]) hx hb dX0_worth_1 rfl hl (by decide) rfl (fun ls hl => ?_)
  refine lv_aload_n hx hb dX0_worth_2 rfl (lv_at hl 1 rfl) ?_
  refine va_get (D := (dC, dI)) (ci := 0) (v := .ref g2) (C := RX0) (T := TX0) (N := 5) hx hb hts in_wsX0_worth_X0 hown hK hP 0 rfl rfl 3 (by decide) (hts (.fieldLink RX0 16 "ShipOffice$Act" "code" "[I") (by decide +kernel)) (fun _ h9 => h9) rfl dX0_worth_3 ?_
  refine lv_astore_n (lv' := [(3, .ref g2), (2, .int 0), (0, .ref g1), (1, .ref g4)]) hx hb dX0_worth_6 rfl hl (by decide) rfl (fun ls hl => ?_)
  refine lv_aload_n hx hb dX0_worth_7 rfl (lv_at hl 0 rfl) ?_
  refine va_alen (v := 1) hx hb hK hP 1 0 rfl rfl (by decide) dX0_worth_8 ?_
  refine lv_istore (lv' := [(4, .int 1), (3, .ref g2), (2, .int 0), (0, .ref g1), (1, .ref g4)]) hx hb dX0_worth_9 hl (by decide) rfl (fun ls hl => ?_)
  refine lv_iconst (v := 0) hx hb dX0_worth_11 (by decide) ?_
  refine lv_istore (lv' := [(5, .int 0), (4, .int 1), (3, .ref g2), (2, .int 0), (0, .ref g1), (1, .ref g4)]) hx hb dX0_worth_12 hl (by decide) rfl (fun ls hl => ?_)
  refine lv_iload hx hb dX0_worth_14 (lv_at hl 0 rfl) ?_
  refine lv_iload hx hb dX0_worth_16 (lv_at hl 1 rfl) ?_
  refine lv_icmp_ge (tgt := 128) hx hb dX0_worth_18 (by decide) (fun c_1 => absurd c_1 (by decide)) (fun _ => ?_)
  refine lv_aload_n hx hb dX0_worth_21 rfl (lv_at hl 2 rfl) ?_
  refine lv_iload hx hb dX0_worth_22 (lv_at hl 0 rfl) ?_
  refine va_iald hx hb hK hP 1 0 rfl rfl (by unfold vp_in; decide) dX0_worth_24 ?_
  refine W.eq (g2 := F0 m 25 ls [.int 1]) rfl ?_
  refine lv_istore (lv' := [(6, .int 1), (5, .int 0), (4, .int 1), (3, .ref g2), (2, .int 0), (0, .ref g1), (1, .ref g4)]) hx hb dX0_worth_25 hl (by decide) rfl (fun ls hl => ?_)
  refine lv_iload hx hb dX0_worth_27 (lv_at hl 0 rfl) ?_
  refine lv_bipush (v := (-11)) hx hb dX0_worth_29 (by decide) ?_
  refine lv_icmp_le (tgt := 82) hx hb dX0_worth_31 (by decide) (fun c_2 => absurd c_2 (by decide)) (fun _ => ?_)
  refine lv_iload_n hx hb dX0_worth_34 rfl (lv_at hl 4 rfl) ?_
  refine lv_aload_n hx hb dX0_worth_35 rfl (lv_at hl 5 rfl) ?_
  refine va_get (D := (dC, dI)) (ci := 0) (v := .ref g3) (C := RX0) (T := TX0) (N := 5) hx hb hts in_wsX0_worth_X0 hown hK hP 0 rfl rfl 4 (by decide) (hts (.fieldLink RX0 20 "ShipOffice$Act" "stack" "[I") (by decide +kernel)) (fun _ h9 => h9) rfl dX0_worth_36 ?_
  refine va_alen (v := 2) hx hb hK hP 2 1 rfl rfl (by decide) dX0_worth_39 ?_
  refine lv_icmp_ge (tgt := 82) hx hb dX0_worth_40 (by decide) (fun c_3 => absurd c_3 (by decide)) (fun _ => ?_)
  refine lv_iconst (v := (-1)) hx hb dX0_worth_43 (by decide) ?_
  refine lv_iload hx hb dX0_worth_44 (lv_at hl 0 rfl) ?_
  refine lv_isub hx hb dX0_worth_46 ?_
  refine lv_topi (fun y ey => ?_)
  obtain rfl : y = (-2) := ey.trans (by decide)
  refine lv_istore (lv' := [(7, .int (-2)), (6, .int 1), (5, .int 0), (4, .int 1), (3, .ref g2), (2, .int 0), (0, .ref g1), (1, .ref g4)]) hx hb dX0_worth_47 hl (by decide) rfl (fun ls hl => ?_)
  refine lv_aload_n hx hb dX0_worth_49 rfl (lv_at hl 6 rfl) ?_
  refine va_get (D := (dC, dI)) (ci := 0) (v := .ref g3) (C := RX0) (T := TX0) (N := 5) hx hb hts in_wsX0_worth_X0 hown hK hP 0 rfl rfl 4 (by decide) (hts (.fieldLink RX0 20 "ShipOffice$Act" "stack" "[I") (by decide +kernel)) (fun _ h9 => h9) rfl dX0_worth_50 ?_
  refine lv_iload_n hx hb dX0_worth_53 rfl (lv_at hl 5 rfl) ?_
  refine lv_iload hx hb dX0_worth_54 (lv_at hl 0 rfl) ?_
  refine lv_if_lt (tgt := 73) hx hb dX0_worth_56 (by decide) (fun _ => ?_) (fun c_4 => absurd c_4 (by decide))
  refine lv_iload hx hb dX0_worth_73 (lv_at hl 1 rfl) ?_
  refine va_iast hx hb hK hP hD hS 2 1 rfl rfl (by unfold vp_in; decide) dX0_worth_75 (fun H locs hP hD hS => ?_)
  have hP : va_P (dC, dI) vwCl [(g1, .inr (0, [.int x1, .int (-1), .int 0, .ref g2, .ref g3])), (g2, .inl (k2, 1, .inl (upd (fun _ => 0) (0 : Int32).toNatClampNeg 1))), (g3, .inl (k3, 2, .inl (upd (fun _ => 0) (0 : Int32).toNatClampNeg 1))), (g4, .inl (k4, 8, .inl (fun _ => 0)))] H := hP
  have hD : va_D A [(g1, .inr (0, [.int x1, .int (-1), .int 0, .ref g2, .ref g3])), (g2, .inl (k2, 1, .inl (upd (fun _ => 0) (0 : Int32).toNatClampNeg 1))), (g3, .inl (k3, 2, .inl (upd (fun _ => 0) (0 : Int32).toNatClampNeg 1))), (g4, .inl (k4, 8, .inl (fun _ => 0)))] := hD
  refine lv_iinc (v := 1) (lv' := [(2, .int 1), (7, .int (-2)), (6, .int 1), (5, .int 0), (4, .int 1), (3, .ref g2), (0, .ref g1), (1, .ref g4)]) hx hb dX0_worth_76 hl (k := 5) rfl (by decide) (by decide) rfl (fun ls hl => ?_)
  refine lv_goto (tgt := 122) hx hb dX0_worth_79 (by decide) ?_
  refine lv_iinc (v := 1) (lv' := [(5, .int 1), (2, .int 1), (7, .int (-2)), (6, .int 1), (4, .int 1), (3, .ref g2), (0, .ref g1), (1, .ref g4)]) hx hb dX0_worth_122 hl (k := 3) rfl (by decide) (by decide) rfl (fun ls hl => ?_)
  refine lv_goto (tgt := 14) hx hb dX0_worth_125 (by decide) ?_
  refine lv_iload hx hb dX0_worth_14 (lv_at hl 0 rfl) ?_
  refine lv_iload hx hb dX0_worth_16 (lv_at hl 4 rfl) ?_
  refine lv_icmp_ge (tgt := 128) hx hb dX0_worth_18 (by decide) (fun _ => ?_) (fun c_5 => absurd c_5 (by decide))
  refine lv_aload_n hx hb dX0_worth_128 rfl (lv_at hl 6 rfl) ?_
  refine va_get (D := (dC, dI)) (ci := 0) (v := .ref g3) (C := RX0) (T := TX0) (N := 5) hx hb hts in_wsX0_worth_X0 hown hK hP 0 rfl rfl 4 (by decide) (hts (.fieldLink RX0 20 "ShipOffice$Act" "stack" "[I") (by decide +kernel)) (fun _ h9 => h9) rfl dX0_worth_129 ?_
  refine lv_iconst (v := 0) hx hb dX0_worth_132 (by decide) ?_
  refine va_iald hx hb hK hP 2 1 rfl rfl (by unfold vp_in; decide) dX0_worth_133 ?_
  refine W.eq (g2 := F0 m 134 ls [.int 1]) rfl ?_
  have hP9 := hP.sub (ws' := [(g1, .inr (0, [.int x1, .int (-1), .int 0, .ref g2, .ref g3]))]) [0] rfl
  have hD9 := hD.sub (ws' := [(g1, .inr (0, [.int x1, .int (-1), .int 0, .ref g2, .ref g3]))]) [0] (by decide) rfl
  have hK9 := hK.sub (tys' := []) [] rfl
  subst hAe
  exact W.iret (v := 1) hx hb hr (fun t ht hW => ⟨⟨1, (), rfl, rfl, ⟨by rw [ht]; exact hP9, va_K.moved hW.alike hK9, hD9⟩⟩, hS.F ht⟩) hS.2.2 dX0_worth_134
set_option maxHeartbeats 4000000 in
set_option maxRecDepth 100000 in
theorem c_X0_worth_m6 (l : Launch) (dC : Nat → ClassId) (dI : Nat → Nat → Nat) (sz : Nat) (g1 g2 g3 g4 : Nat) (k2 k3 k4 : ClassId) (x1 : Int32) : Met l yX0_worth wsX0_worth ({ frames := 0, cells := 0, slots := 0, locals := 0 }) (va_Pc [.ref g1, .ref g4] (pcW (dC, dI) [(k2, .int), (k3, .int), (k4, .int)] [(g1, .inr (0, [.int x1, .int (-1), .int 0, .ref g2, .ref g3])), (g2, .inl (k2, 1, .inl (upd (fun _ => 0) (0 : Int32).toNatClampNeg (-6)))), (g3, .inl (k3, 2, .inl (fun _ => 0))), (g4, .inl (k4, 8, .inl (fun _ => 0)))] sz)) (va_Qi (fun (r : Int32) (u : Unit) => r = 0) (fun u t => va_P (dC, dI) vwCl [(g1, .inr (0, [.int x1, .int (-1), .int 0, .ref g2, .ref g3]))] t.heap ∧ va_K (dC, dI) vwCl [] t ∧ va_D (va_A [(g1, .inr (0, [.int x1, .int (-1), .int 0, .ref g2, .ref g3])), (g2, .inl (k2, 1, .inl (upd (fun _ => 0) (0 : Int32).toNatClampNeg (-6)))), (g3, .inl (k3, 2, .inl (fun _ => 0))), (g4, .inl (k4, 8, .inl (fun _ => 0)))] sz) [(g1, .inr (0, [.int x1, .int (-1), .int 0, .ref g2, .ref g3]))]) (va_A [(g1, .inr (0, [.int x1, .int (-1), .int 0, .ref g2, .ref g3])), (g2, .inl (k2, 1, .inl (upd (fun _ => 0) (0 : Int32).toNatClampNeg (-6)))), (g3, .inl (k3, 2, .inl (fun _ => 0))), (g4, .inl (k4, 8, .inl (fun _ => 0)))] sz)) 0 0 (va_A [(g1, .inr (0, [.int x1, .int (-1), .int 0, .ref g2, .ref g3])), (g2, .inl (k2, 1, .inl (upd (fun _ => 0) (0 : Int32).toNatClampNeg (-6)))), (g3, .inl (k3, 2, .inl (fun _ => 0))), (g4, .inl (k4, 8, .inl (fun _ => 0)))] sz) := by
  refine Met.ofW (cc := cX0_worth) (maxL := 8) (ret := (some .int)) (by decide) rfl ?_
  intro p e s m args below meth c s₁ B hml hv
  obtain ⟨rfl, hsz, hP, hK, hD0⟩ := hv
  have hx := B.exec
  have hb := B.bytes
  have hr := B.returns
  have hts := atoms_spec (ws := wsX0_worth) B.pre
  have hown : s.vm.findClass RX0 = some m.cls := findClass_of_methodNamed B.named
  have hlocks := B.notSynchronized
  subst hsz
  have hD := hD0.self (sz := s.heap.size)
  generalize hAe : va_A [(g1, .inr (0, [.int x1, .int (-1), .int 0, .ref g2, .ref g3])), (g2, .inl (k2, 1, .inl (upd (fun _ => 0) (0 : Int32).toNatClampNeg (-6)))), (g3, .inl (k3, 2, .inl (fun _ => 0))), (g4, .inl (k4, 8, .inl (fun _ => 0)))] s.heap.size = A at hD ⊢
  have hA : ∀ q : Nat, s.heap.size ≤ q → A q := fun q h => by rw [← hAe]; exact Or.inr h
  have hS : va_S A s.heap s.heap [] := va_S.rf
  have hP : va_P (dC, dI) vwCl [(g1, .inr (0, [.int x1, .int (-1), .int 0, .ref g2, .ref g3])), (g2, .inl (k2, 1, .inl (upd (fun _ => 0) (0 : Int32).toNatClampNeg (-6)))), (g3, .inl (k3, 2, .inl (fun _ => 0))), (g4, .inl (k4, 8, .inl (fun _ => 0)))] s.heap := hP
  have hl := lv_entry ([.ref g1, .ref g4]) (n := 8) (Nat.le_of_ble_eq_true rfl)
  rw [lg_entry_eq]
  generalize (lg_sl ([.ref g1, .ref g4]) ++ List.replicate (8 - (lg_sl ([.ref g1, .ref g4])).length) Slot.unset).toArray = ls at hl ⊢
  have hl : lv_has ls 8 [(0, .ref g1), (1, .ref g4)] := hl
  refine lv_iconst (v := 0) hx hb dX0_worth_0 (by decide) ?_
  refine lv_istore_n (lv' := [(2, .int 0), (0, .ref g1), (1, .ref g4)]) hx hb dX0_worth_1 rfl hl (by decide) rfl (fun ls hl => ?_)
  refine lv_aload_n hx hb dX0_worth_2 rfl (lv_at hl 1 rfl) ?_
  refine va_get (D := (dC, dI)) (ci := 0) (v := .ref g2) (C := RX0) (T := TX0) (N := 5) hx hb hts in_wsX0_worth_X0 hown hK hP 0 rfl rfl 3 (by decide) (hts (.fieldLink RX0 16 "ShipOffice$Act" "code" "[I") (by decide +kernel)) (fun _ h9 => h9) rfl dX0_worth_3 ?_
  refine lv_astore_n (lv' := [(3, .ref g2), (2, .int 0), (0, .ref g1), (1, .ref g4)]) hx hb dX0_worth_6 rfl hl (by decide) rfl (fun ls hl => ?_)
  refine lv_aload_n hx hb dX0_worth_7 rfl (lv_at hl 0 rfl) ?_
  refine va_alen (v := 1) hx hb hK hP 1 0 rfl rfl (by decide) dX0_worth_8 ?_
  refine lv_istore (lv' := [(4, .int 1), (3, .ref g2), (2, .int 0), (0, .ref g1), (1, .ref g4)]) hx hb dX0_worth_9 hl (by decide) rfl (fun ls hl => ?_)
  refine lv_iconst (v := 0) hx hb dX0_worth_11 (by decide) ?_
  refine lv_istore (lv' := [(5, .int 0), (4, .int 1), (3, .ref g2), (2, .int 0), (0, .ref g1), (1, .ref g4)]) hx hb dX0_worth_12 hl (by decide) rfl (fun ls hl => ?_)
  refine lv_iload hx hb dX0_worth_14 (lv_at hl 0 rfl) ?_
  refine lv_iload hx hb dX0_worth_16 (lv_at hl 1 rfl) ?_
  refine lv_icmp_ge (tgt := 128) hx hb dX0_worth_18 (by decide) (fun c_1 => absurd c_1 (by decide)) (fun _ => ?_)
  refine lv_aload_n hx hb dX0_worth_21 rfl (lv_at hl 2 rfl) ?_
  refine lv_iload hx hb dX0_worth_22 (lv_at hl 0 rfl) ?_
  refine va_iald hx hb hK hP 1 0 rfl rfl (by unfold vp_in; decide) dX0_worth_24 ?_
  refine W.eq (g2 := F0 m 25 ls [.int (-6)]) rfl ?_
  refine lv_istore (lv' := [(6, .int (-6)), (5, .int 0), (4, .int 1), (3, .ref g2), (2, .int 0), (0, .ref g1), (1, .ref g4)]) hx hb dX0_worth_25 hl (by decide) rfl (fun ls hl => ?_)
  refine lv_iload hx hb dX0_worth_27 (lv_at hl 0 rfl) ?_
  refine lv_bipush (v := (-11)) hx hb dX0_worth_29 (by decide) ?_
  refine lv_icmp_le (tgt := 82) hx hb dX0_worth_31 (by decide) (fun c_2 => absurd c_2 (by decide)) (fun _ => ?_)
  refine lv_iload_n hx hb dX0_worth_34 rfl (lv_at hl 4 rfl) ?_
  refine lv_aload_n hx hb dX0_worth_35 rfl (lv_at hl 5 rfl) ?_
  refine va_get (D := (dC, dI)) (ci := 0) (v := .ref g3) (C := RX0) (T := TX0) (N := 5) hx hb hts in_wsX0_worth_X0 hown hK hP 0 rfl rfl 4 (by decide) (hts (.fieldLink RX0 20 "ShipOffice$Act" "stack" "[I") (by decide +kernel)) (fun _ h9 => h9) rfl dX0_worth_36 ?_
  refine va_alen (v := 2) hx hb hK hP 2 1 rfl rfl (by decide) dX0_worth_39 ?_
  refine lv_icmp_ge (tgt := 82) hx hb dX0_worth_40 (by decide) (fun c_3 => absurd c_3 (by decide)) (fun _ => ?_)
  refine lv_iconst (v := (-1)) hx hb dX0_worth_43 (by decide) ?_
  refine lv_iload hx hb dX0_worth_44 (lv_at hl 0 rfl) ?_
  refine lv_isub hx hb dX0_worth_46 ?_
  refine lv_topi (fun y ey => ?_)
  obtain rfl : y = 5 := ey.trans (by decide)
  refine lv_istore (lv' := [(7, .int 5), (6, .int (-6)), (5, .int 0), (4, .int 1), (3, .ref g2), (2, .int 0), (0, .ref g1), (1, .ref g4)]) hx hb dX0_worth_47 hl (by decide) rfl (fun ls hl => ?_)
  refine lv_aload_n hx hb dX0_worth_49 rfl (lv_at hl 6 rfl) ?_
  refine va_get (D := (dC, dI)) (ci := 0) (v := .ref g3) (C := RX0) (T := TX0) (N := 5) hx hb hts in_wsX0_worth_X0 hown hK hP 0 rfl rfl 4 (by decide) (hts (.fieldLink RX0 20 "ShipOffice$Act" "stack" "[I") (by decide +kernel)) (fun _ h9 => h9) rfl dX0_worth_50 ?_
  refine lv_iload_n hx hb dX0_worth_53 rfl (lv_at hl 5 rfl) ?_
  refine lv_iload hx hb dX0_worth_54 (lv_at hl 0 rfl) ?_
  refine lv_if_lt (tgt := 73) hx hb dX0_worth_56 (by decide) (fun c_4 => absurd c_4 (by decide)) (fun _ => ?_)
  refine lv_iload hx hb dX0_worth_59 (lv_at hl 0 rfl) ?_
  refine lv_aload_n hx hb dX0_worth_61 rfl (lv_at hl 7 rfl) ?_
  refine va_alen (v := 8) hx hb hK hP 3 2 rfl rfl (by decide) dX0_worth_62 ?_
  refine lv_icmp_ge (tgt := 73) hx hb dX0_worth_63 (by decide) (fun c_5 => absurd c_5 (by decide)) (fun _ => ?_)
  refine lv_aload_n hx hb dX0_worth_66 rfl (lv_at hl 7 rfl) ?_
  refine lv_iload hx hb dX0_worth_67 (lv_at hl 0 rfl) ?_
  refine va_iald hx hb hK hP 3 2 rfl rfl (by unfold vp_in; decide) dX0_worth_69 ?_
  refine W.eq (g2 := F0 m 70 ls [.int 0, .int 0, .ref g3]) rfl ?_
  refine lv_goto (tgt := 75) hx hb dX0_worth_70 (by decide) ?_
  refine va_iast hx hb hK hP hD hS 2 1 rfl rfl (by unfold vp_in; decide) dX0_worth_75 (fun H locs hP hD hS => ?_)
  have hP : va_P (dC, dI) vwCl [(g1, .inr (0, [.int x1, .int (-1), .int 0, .ref g2, .ref g3])), (g2, .inl (k2, 1, .inl (upd (fun _ => 0) (0 : Int32).toNatClampNeg (-6)))), (g3, .inl (k3, 2, .inl (upd (fun _ => 0) (0 : Int32).toNatClampNeg 0))), (g4, .inl (k4, 8, .inl (fun _ => 0)))] H := hP
  have hD : va_D A [(g1, .inr (0, [.int x1, .int (-1), .int 0, .ref g2, .ref g3])), (g2, .inl (k2, 1, .inl (upd (fun _ => 0) (0 : Int32).toNatClampNeg (-6)))), (g3, .inl (k3, 2, .inl (upd (fun _ => 0) (0 : Int32).toNatClampNeg 0))), (g4, .inl (k4, 8, .inl (fun _ => 0)))] := hD
  refine lv_iinc (v := 1) (lv' := [(2, .int 1), (7, .int 5), (6, .int (-6)), (5, .int 0), (4, .int 1), (3, .ref g2), (0, .ref g1), (1, .ref g4)]) hx hb dX0_worth_76 hl (k := 5) rfl (by decide) (by decide) rfl (fun ls hl => ?_)
  refine lv_goto (tgt := 122) hx hb dX0_worth_79 (by decide) ?_
  refine lv_iinc (v := 1) (lv' := [(5, .int 1), (2, .int 1), (7, .int 5), (6, .int (-6)), (4, .int 1), (3, .ref g2), (0, .ref g1), (1, .ref g4)]) hx hb dX0_worth_122 hl (k := 3) rfl (by decide) (by decide) rfl (fun ls hl => ?_)
  refine lv_goto (tgt := 14) hx hb dX0_worth_125 (by decide) ?_
  refine lv_iload hx hb dX0_worth_14 (lv_at hl 0 rfl) ?_
  refine lv_iload hx hb dX0_worth_16 (lv_at hl 4 rfl) ?_
  refine lv_icmp_ge (tgt := 128) hx hb dX0_worth_18 (by decide) (fun _ => ?_) (fun c_6 => absurd c_6 (by decide))
  refine lv_aload_n hx hb dX0_worth_128 rfl (lv_at hl 6 rfl) ?_
  refine va_get (D := (dC, dI)) (ci := 0) (v := .ref g3) (C := RX0) (T := TX0) (N := 5) hx hb hts in_wsX0_worth_X0 hown hK hP 0 rfl rfl 4 (by decide) (hts (.fieldLink RX0 20 "ShipOffice$Act" "stack" "[I") (by decide +kernel)) (fun _ h9 => h9) rfl dX0_worth_129 ?_
  refine lv_iconst (v := 0) hx hb dX0_worth_132 (by decide) ?_
  refine va_iald hx hb hK hP 2 1 rfl rfl (by unfold vp_in; decide) dX0_worth_133 ?_
  refine W.eq (g2 := F0 m 134 ls [.int 0]) rfl ?_
  have hP9 := hP.sub (ws' := [(g1, .inr (0, [.int x1, .int (-1), .int 0, .ref g2, .ref g3]))]) [0] rfl
  have hD9 := hD.sub (ws' := [(g1, .inr (0, [.int x1, .int (-1), .int 0, .ref g2, .ref g3]))]) [0] (by decide) rfl
  have hK9 := hK.sub (tys' := []) [] rfl
  subst hAe
  exact W.iret (v := 0) hx hb hr (fun t ht hW => ⟨⟨0, (), rfl, rfl, ⟨by rw [ht]; exact hP9, va_K.moved hW.alike hK9, hD9⟩⟩, hS.F ht⟩) hS.2.2 dX0_worth_134
set_option maxHeartbeats 4000000 in
set_option maxRecDepth 100000 in
theorem c_X0_worth_100 (l : Launch) (dC : Nat → ClassId) (dI : Nat → Nat → Nat) (sz : Nat) (g1 g2 g3 g4 : Nat) (k2 k3 k4 : ClassId) (x1 : Int32) : Met l yX0_worth wsX0_worth ({ frames := 0, cells := 0, slots := 0, locals := 0 }) (va_Pc [.ref g1, .ref g4] (pcW (dC, dI) [(k2, .int), (k3, .int), (k4, .int)] [(g1, .inr (0, [.int x1, .int (-1), .int 0, .ref g2, .ref g3])), (g2, .inl (k2, 1, .inl (upd (fun _ => 0) (0 : Int32).toNatClampNeg 100))), (g3, .inl (k3, 2, .inl (fun _ => 0))), (g4, .inl (k4, 8, .inl (fun _ => 0)))] sz)) (va_Qi (fun (r : Int32) (u : Unit) => r = 100) (fun u t => va_P (dC, dI) vwCl [(g1, .inr (0, [.int x1, .int (-1), .int 0, .ref g2, .ref g3]))] t.heap ∧ va_K (dC, dI) vwCl [] t ∧ va_D (va_A [(g1, .inr (0, [.int x1, .int (-1), .int 0, .ref g2, .ref g3])), (g2, .inl (k2, 1, .inl (upd (fun _ => 0) (0 : Int32).toNatClampNeg 100))), (g3, .inl (k3, 2, .inl (fun _ => 0))), (g4, .inl (k4, 8, .inl (fun _ => 0)))] sz) [(g1, .inr (0, [.int x1, .int (-1), .int 0, .ref g2, .ref g3]))]) (va_A [(g1, .inr (0, [.int x1, .int (-1), .int 0, .ref g2, .ref g3])), (g2, .inl (k2, 1, .inl (upd (fun _ => 0) (0 : Int32).toNatClampNeg 100))), (g3, .inl (k3, 2, .inl (fun _ => 0))), (g4, .inl (k4, 8, .inl (fun _ => 0)))] sz)) 0 0 (va_A [(g1, .inr (0, [.int x1, .int (-1), .int 0, .ref g2, .ref g3])), (g2, .inl (k2, 1, .inl (upd (fun _ => 0) (0 : Int32).toNatClampNeg 100))), (g3, .inl (k3, 2, .inl (fun _ => 0))), (g4, .inl (k4, 8, .inl (fun _ => 0)))] sz) := by
  refine Met.ofW (cc := cX0_worth) (maxL := 8) (ret := (some .int)) (by decide) rfl ?_
  intro p e s m args below meth c s₁ B hml hv
  obtain ⟨rfl, hsz, hP, hK, hD0⟩ := hv
  have hx := B.exec
  have hb := B.bytes
  have hr := B.returns
  have hts := atoms_spec (ws := wsX0_worth) B.pre
  have hown : s.vm.findClass RX0 = some m.cls := findClass_of_methodNamed B.named
  have hlocks := B.notSynchronized
  subst hsz
  have hD := hD0.self (sz := s.heap.size)
  generalize hAe : va_A [(g1, .inr (0, [.int x1, .int (-1), .int 0, .ref g2, .ref g3])), (g2, .inl (k2, 1, .inl (upd (fun _ => 0) (0 : Int32).toNatClampNeg 100))), (g3, .inl (k3, 2, .inl (fun _ => 0))), (g4, .inl (k4, 8, .inl (fun _ => 0)))] s.heap.size = A at hD ⊢
  have hA : ∀ q : Nat, s.heap.size ≤ q → A q := fun q h => by rw [← hAe]; exact Or.inr h
  have hS : va_S A s.heap s.heap [] := va_S.rf
  have hP : va_P (dC, dI) vwCl [(g1, .inr (0, [.int x1, .int (-1), .int 0, .ref g2, .ref g3])), (g2, .inl (k2, 1, .inl (upd (fun _ => 0) (0 : Int32).toNatClampNeg 100))), (g3, .inl (k3, 2, .inl (fun _ => 0))), (g4, .inl (k4, 8, .inl (fun _ => 0)))] s.heap := hP
  have hl := lv_entry ([.ref g1, .ref g4]) (n := 8) (Nat.le_of_ble_eq_true rfl)
  rw [lg_entry_eq]
  generalize (lg_sl ([.ref g1, .ref g4]) ++ List.replicate (8 - (lg_sl ([.ref g1, .ref g4])).length) Slot.unset).toArray = ls at hl ⊢
  have hl : lv_has ls 8 [(0, .ref g1), (1, .ref g4)] := hl
  refine lv_iconst (v := 0) hx hb dX0_worth_0 (by decide) ?_
  refine lv_istore_n (lv' := [(2, .int 0), (0, .ref g1), (1, .ref g4)]) hx hb dX0_worth_1 rfl hl (by decide) rfl (fun ls hl => ?_)
  refine lv_aload_n hx hb dX0_worth_2 rfl (lv_at hl 1 rfl) ?_
  refine va_get (D := (dC, dI)) (ci := 0) (v := .ref g2) (C := RX0) (T := TX0) (N := 5) hx hb hts in_wsX0_worth_X0 hown hK hP 0 rfl rfl 3 (by decide) (hts (.fieldLink RX0 16 "ShipOffice$Act" "code" "[I") (by decide +kernel)) (fun _ h9 => h9) rfl dX0_worth_3 ?_
  refine lv_astore_n (lv' := [(3, .ref g2), (2, .int 0), (0, .ref g1), (1, .ref g4)]) hx hb dX0_worth_6 rfl hl (by decide) rfl (fun ls hl => ?_)
  refine lv_aload_n hx hb dX0_worth_7 rfl (lv_at hl 0 rfl) ?_
  refine va_alen (v := 1) hx hb hK hP 1 0 rfl rfl (by decide) dX0_worth_8 ?_
  refine lv_istore (lv' := [(4, .int 1), (3, .ref g2), (2, .int 0), (0, .ref g1), (1, .ref g4)]) hx hb dX0_worth_9 hl (by decide) rfl (fun ls hl => ?_)
  refine lv_iconst (v := 0) hx hb dX0_worth_11 (by decide) ?_
  refine lv_istore (lv' := [(5, .int 0), (4, .int 1), (3, .ref g2), (2, .int 0), (0, .ref g1), (1, .ref g4)]) hx hb dX0_worth_12 hl (by decide) rfl (fun ls hl => ?_)
  refine lv_iload hx hb dX0_worth_14 (lv_at hl 0 rfl) ?_
  refine lv_iload hx hb dX0_worth_16 (lv_at hl 1 rfl) ?_
  refine lv_icmp_ge (tgt := 128) hx hb dX0_worth_18 (by decide) (fun c_1 => absurd c_1 (by decide)) (fun _ => ?_)
  refine lv_aload_n hx hb dX0_worth_21 rfl (lv_at hl 2 rfl) ?_
  refine lv_iload hx hb dX0_worth_22 (lv_at hl 0 rfl) ?_
  refine va_iald hx hb hK hP 1 0 rfl rfl (by unfold vp_in; decide) dX0_worth_24 ?_
  refine W.eq (g2 := F0 m 25 ls [.int 100]) rfl ?_
  refine lv_istore (lv' := [(6, .int 100), (5, .int 0), (4, .int 1), (3, .ref g2), (2, .int 0), (0, .ref g1), (1, .ref g4)]) hx hb dX0_worth_25 hl (by decide) rfl (fun ls hl => ?_)
  refine lv_iload hx hb dX0_worth_27 (lv_at hl 0 rfl) ?_
  refine lv_bipush (v := (-11)) hx hb dX0_worth_29 (by decide) ?_
  refine lv_icmp_le (tgt := 82) hx hb dX0_worth_31 (by decide) (fun c_2 => absurd c_2 (by decide)) (fun _ => ?_)
  refine lv_iload_n hx hb dX0_worth_34 rfl (lv_at hl 4 rfl) ?_
  refine lv_aload_n hx hb dX0_worth_35 rfl (lv_at hl 5 rfl) ?_
  refine va_get (D := (dC, dI)) (ci := 0) (v := .ref g3) (C := RX0) (T := TX0) (N := 5) hx hb hts in_wsX0_worth_X0 hown hK hP 0 rfl rfl 4 (by decide) (hts (.fieldLink RX0 20 "ShipOffice$Act" "stack" "[I") (by decide +kernel)) (fun _ h9 => h9) rfl dX0_worth_36 ?_
  refine va_alen (v := 2) hx hb hK hP 2 1 rfl rfl (by decide) dX0_worth_39 ?_
  refine lv_icmp_ge (tgt := 82) hx hb dX0_worth_40 (by decide) (fun c_3 => absurd c_3 (by decide)) (fun _ => ?_)
  refine lv_iconst (v := (-1)) hx hb dX0_worth_43 (by decide) ?_
  refine lv_iload hx hb dX0_worth_44 (lv_at hl 0 rfl) ?_
  refine lv_isub hx hb dX0_worth_46 ?_
  refine lv_topi (fun y ey => ?_)
  obtain rfl : y = (-101) := ey.trans (by decide)
  refine lv_istore (lv' := [(7, .int (-101)), (6, .int 100), (5, .int 0), (4, .int 1), (3, .ref g2), (2, .int 0), (0, .ref g1), (1, .ref g4)]) hx hb dX0_worth_47 hl (by decide) rfl (fun ls hl => ?_)
  refine lv_aload_n hx hb dX0_worth_49 rfl (lv_at hl 6 rfl) ?_
  refine va_get (D := (dC, dI)) (ci := 0) (v := .ref g3) (C := RX0) (T := TX0) (N := 5) hx hb hts in_wsX0_worth_X0 hown hK hP 0 rfl rfl 4 (by decide) (hts (.fieldLink RX0 20 "ShipOffice$Act" "stack" "[I") (by decide +kernel)) (fun _ h9 => h9) rfl dX0_worth_50 ?_
  refine lv_iload_n hx hb dX0_worth_53 rfl (lv_at hl 5 rfl) ?_
  refine lv_iload hx hb dX0_worth_54 (lv_at hl 0 rfl) ?_
  refine lv_if_lt (tgt := 73) hx hb dX0_worth_56 (by decide) (fun _ => ?_) (fun c_4 => absurd c_4 (by decide))
  refine lv_iload hx hb dX0_worth_73 (lv_at hl 1 rfl) ?_
  refine va_iast hx hb hK hP hD hS 2 1 rfl rfl (by unfold vp_in; decide) dX0_worth_75 (fun H locs hP hD hS => ?_)
  have hP : va_P (dC, dI) vwCl [(g1, .inr (0, [.int x1, .int (-1), .int 0, .ref g2, .ref g3])), (g2, .inl (k2, 1, .inl (upd (fun _ => 0) (0 : Int32).toNatClampNeg 100))), (g3, .inl (k3, 2, .inl (upd (fun _ => 0) (0 : Int32).toNatClampNeg 100))), (g4, .inl (k4, 8, .inl (fun _ => 0)))] H := hP
  have hD : va_D A [(g1, .inr (0, [.int x1, .int (-1), .int 0, .ref g2, .ref g3])), (g2, .inl (k2, 1, .inl (upd (fun _ => 0) (0 : Int32).toNatClampNeg 100))), (g3, .inl (k3, 2, .inl (upd (fun _ => 0) (0 : Int32).toNatClampNeg 100))), (g4, .inl (k4, 8, .inl (fun _ => 0)))] := hD
  refine lv_iinc (v := 1) (lv' := [(2, .int 1), (7, .int (-101)), (6, .int 100), (5, .int 0), (4, .int 1), (3, .ref g2), (0, .ref g1), (1, .ref g4)]) hx hb dX0_worth_76 hl (k := 5) rfl (by decide) (by decide) rfl (fun ls hl => ?_)
  refine lv_goto (tgt := 122) hx hb dX0_worth_79 (by decide) ?_
  refine lv_iinc (v := 1) (lv' := [(5, .int 1), (2, .int 1), (7, .int (-101)), (6, .int 100), (4, .int 1), (3, .ref g2), (0, .ref g1), (1, .ref g4)]) hx hb dX0_worth_122 hl (k := 3) rfl (by decide) (by decide) rfl (fun ls hl => ?_)
  refine lv_goto (tgt := 14) hx hb dX0_worth_125 (by decide) ?_
  refine lv_iload hx hb dX0_worth_14 (lv_at hl 0 rfl) ?_
  refine lv_iload hx hb dX0_worth_16 (lv_at hl 4 rfl) ?_
  refine lv_icmp_ge (tgt := 128) hx hb dX0_worth_18 (by decide) (fun _ => ?_) (fun c_5 => absurd c_5 (by decide))
  refine lv_aload_n hx hb dX0_worth_128 rfl (lv_at hl 6 rfl) ?_
  refine va_get (D := (dC, dI)) (ci := 0) (v := .ref g3) (C := RX0) (T := TX0) (N := 5) hx hb hts in_wsX0_worth_X0 hown hK hP 0 rfl rfl 4 (by decide) (hts (.fieldLink RX0 20 "ShipOffice$Act" "stack" "[I") (by decide +kernel)) (fun _ h9 => h9) rfl dX0_worth_129 ?_
  refine lv_iconst (v := 0) hx hb dX0_worth_132 (by decide) ?_
  refine va_iald hx hb hK hP 2 1 rfl rfl (by unfold vp_in; decide) dX0_worth_133 ?_
  refine W.eq (g2 := F0 m 134 ls [.int 100]) rfl ?_
  have hP9 := hP.sub (ws' := [(g1, .inr (0, [.int x1, .int (-1), .int 0, .ref g2, .ref g3]))]) [0] rfl
  have hD9 := hD.sub (ws' := [(g1, .inr (0, [.int x1, .int (-1), .int 0, .ref g2, .ref g3]))]) [0] (by decide) rfl
  have hK9 := hK.sub (tys' := []) [] rfl
  subst hAe
  exact W.iret (v := 100) hx hb hr (fun t ht hW => ⟨⟨100, (), rfl, rfl, ⟨by rw [ht]; exact hP9, va_K.moved hW.alike hK9, hD9⟩⟩, hS.F ht⟩) hS.2.2 dX0_worth_134
set_option maxHeartbeats 4000000 in
set_option maxRecDepth 100000 in
theorem c_X0_worth_50 (l : Launch) (dC : Nat → ClassId) (dI : Nat → Nat → Nat) (sz : Nat) (g1 g2 g3 g4 : Nat) (k2 k3 k4 : ClassId) (x1 : Int32) : Met l yX0_worth wsX0_worth ({ frames := 0, cells := 0, slots := 0, locals := 0 }) (va_Pc [.ref g1, .ref g4] (pcW (dC, dI) [(k2, .int), (k3, .int), (k4, .int)] [(g1, .inr (0, [.int x1, .int (-1), .int 0, .ref g2, .ref g3])), (g2, .inl (k2, 1, .inl (upd (fun _ => 0) (0 : Int32).toNatClampNeg 50))), (g3, .inl (k3, 2, .inl (fun _ => 0))), (g4, .inl (k4, 8, .inl (fun _ => 0)))] sz)) (va_Qi (fun (r : Int32) (u : Unit) => r = 50) (fun u t => va_P (dC, dI) vwCl [(g1, .inr (0, [.int x1, .int (-1), .int 0, .ref g2, .ref g3]))] t.heap ∧ va_K (dC, dI) vwCl [] t ∧ va_D (va_A [(g1, .inr (0, [.int x1, .int (-1), .int 0, .ref g2, .ref g3])), (g2, .inl (k2, 1, .inl (upd (fun _ => 0) (0 : Int32).toNatClampNeg 50))), (g3, .inl (k3, 2, .inl (fun _ => 0))), (g4, .inl (k4, 8, .inl (fun _ => 0)))] sz) [(g1, .inr (0, [.int x1, .int (-1), .int 0, .ref g2, .ref g3]))]) (va_A [(g1, .inr (0, [.int x1, .int (-1), .int 0, .ref g2, .ref g3])), (g2, .inl (k2, 1, .inl (upd (fun _ => 0) (0 : Int32).toNatClampNeg 50))), (g3, .inl (k3, 2, .inl (fun _ => 0))), (g4, .inl (k4, 8, .inl (fun _ => 0)))] sz)) 0 0 (va_A [(g1, .inr (0, [.int x1, .int (-1), .int 0, .ref g2, .ref g3])), (g2, .inl (k2, 1, .inl (upd (fun _ => 0) (0 : Int32).toNatClampNeg 50))), (g3, .inl (k3, 2, .inl (fun _ => 0))), (g4, .inl (k4, 8, .inl (fun _ => 0)))] sz) := by
  refine Met.ofW (cc := cX0_worth) (maxL := 8) (ret := (some .int)) (by decide) rfl ?_
  intro p e s m args below meth c s₁ B hml hv
  obtain ⟨rfl, hsz, hP, hK, hD0⟩ := hv
  have hx := B.exec
  have hb := B.bytes
  have hr := B.returns
  have hts := atoms_spec (ws := wsX0_worth) B.pre
  have hown : s.vm.findClass RX0 = some m.cls := findClass_of_methodNamed B.named
  have hlocks := B.notSynchronized
  subst hsz
  have hD := hD0.self (sz := s.heap.size)
  generalize hAe : va_A [(g1, .inr (0, [.int x1, .int (-1), .int 0, .ref g2, .ref g3])), (g2, .inl (k2, 1, .inl (upd (fun _ => 0) (0 : Int32).toNatClampNeg 50))), (g3, .inl (k3, 2, .inl (fun _ => 0))), (g4, .inl (k4, 8, .inl (fun _ => 0)))] s.heap.size = A at hD ⊢
  have hA : ∀ q : Nat, s.heap.size ≤ q → A q := fun q h => by rw [← hAe]; exact Or.inr h
  have hS : va_S A s.heap s.heap [] := va_S.rf
  have hP : va_P (dC, dI) vwCl [(g1, .inr (0, [.int x1, .int (-1), .int 0, .ref g2, .ref g3])), (g2, .inl (k2, 1, .inl (upd (fun _ => 0) (0 : Int32).toNatClampNeg 50))), (g3, .inl (k3, 2, .inl (fun _ => 0))), (g4, .inl (k4, 8, .inl (fun _ => 0)))] s.heap := hP
  have hl := lv_entry ([.ref g1, .ref g4]) (n := 8) (Nat.le_of_ble_eq_true rfl)
  rw [lg_entry_eq]
  generalize (lg_sl ([.ref g1, .ref g4]) ++ List.replicate (8 - (lg_sl ([.ref g1, .ref g4])).length) Slot.unset).toArray = ls at hl ⊢
  have hl : lv_has ls 8 [(0, .ref g1), (1, .ref g4)] := hl
  refine lv_iconst (v := 0) hx hb dX0_worth_0 (by decide) ?_
  refine lv_istore_n (lv' := [(2, .int 0), (0, .ref g1), (1, .ref g4)]) hx hb dX0_worth_1 rfl hl (by decide) rfl (fun ls hl => ?_)
  refine lv_aload_n hx hb dX0_worth_2 rfl (lv_at hl 1 rfl) ?_
  refine va_get (D := (dC, dI)) (ci := 0) (v := .ref g2) (C := RX0) (T := TX0) (N := 5) hx hb hts in_wsX0_worth_X0 hown hK hP 0 rfl rfl 3 (by decide) (hts (.fieldLink RX0 16 "ShipOffice$Act" "code" "[I") (by decide +kernel)) (fun _ h9 => h9) rfl dX0_worth_3 ?_
  refine lv_astore_n (lv' := [(3, .ref g2), (2, .int 0), (0, .ref g1), (1, .ref g4)]) hx hb dX0_worth_6 rfl hl (by decide) rfl (fun ls hl => ?_)
  refine lv_aload_n hx hb dX0_worth_7 rfl (lv_at hl 0 rfl) ?_
  refine va_alen (v := 1) hx hb hK hP 1 0 rfl rfl (by decide) dX0_worth_8 ?_
  refine lv_istore (lv' := [(4, .int 1), (3, .ref g2), (2, .int 0), (0, .ref g1), (1, .ref g4)]) hx hb dX0_worth_9 hl (by decide) rfl (fun ls hl => ?_)
  refine lv_iconst (v := 0) hx hb dX0_worth_11 (by decide) ?_
  refine lv_istore (lv' := [(5, .int 0), (4, .int 1), (3, .ref g2), (2, .int 0), (0, .ref g1), (1, .ref g4)]) hx hb dX0_worth_12 hl (by decide) rfl (fun ls hl => ?_)
  refine lv_iload hx hb dX0_worth_14 (lv_at hl 0 rfl) ?_
  refine lv_iload hx hb dX0_worth_16 (lv_at hl 1 rfl) ?_
  refine lv_icmp_ge (tgt := 128) hx hb dX0_worth_18 (by decide) (fun c_1 => absurd c_1 (by decide)) (fun _ => ?_)
  refine lv_aload_n hx hb dX0_worth_21 rfl (lv_at hl 2 rfl) ?_
  refine lv_iload hx hb dX0_worth_22 (lv_at hl 0 rfl) ?_
  refine va_iald hx hb hK hP 1 0 rfl rfl (by unfold vp_in; decide) dX0_worth_24 ?_
  refine W.eq (g2 := F0 m 25 ls [.int 50]) rfl ?_
  refine lv_istore (lv' := [(6, .int 50), (5, .int 0), (4, .int 1), (3, .ref g2), (2, .int 0), (0, .ref g1), (1, .ref g4)]) hx hb dX0_worth_25 hl (by decide) rfl (fun ls hl => ?_)
  refine lv_iload hx hb dX0_worth_27 (lv_at hl 0 rfl) ?_
  refine lv_bipush (v := (-11)) hx hb dX0_worth_29 (by decide) ?_
  refine lv_icmp_le (tgt := 82) hx hb dX0_worth_31 (by decide) (fun c_2 => absurd c_2 (by decide)) (fun _ => ?_)
  refine lv_iload_n hx hb dX0_worth_34 rfl (lv_at hl 4 rfl) ?_
  refine lv_aload_n hx hb dX0_worth_35 rfl (lv_at hl 5 rfl) ?_
  refine va_get (D := (dC, dI)) (ci := 0) (v := .ref g3) (C := RX0) (T := TX0) (N := 5) hx hb hts in_wsX0_worth_X0 hown hK hP 0 rfl rfl 4 (by decide) (hts (.fieldLink RX0 20 "ShipOffice$Act" "stack" "[I") (by decide +kernel)) (fun _ h9 => h9) rfl dX0_worth_36 ?_
  refine va_alen (v := 2) hx hb hK hP 2 1 rfl rfl (by decide) dX0_worth_39 ?_
  refine lv_icmp_ge (tgt := 82) hx hb dX0_worth_40 (by decide) (fun c_3 => absurd c_3 (by decide)) (fun _ => ?_)
  refine lv_iconst (v := (-1)) hx hb dX0_worth_43 (by decide) ?_
  refine lv_iload hx hb dX0_worth_44 (lv_at hl 0 rfl) ?_
  refine lv_isub hx hb dX0_worth_46 ?_
  refine lv_topi (fun y ey => ?_)
  obtain rfl : y = (-51) := ey.trans (by decide)
  refine lv_istore (lv' := [(7, .int (-51)), (6, .int 50), (5, .int 0), (4, .int 1), (3, .ref g2), (2, .int 0), (0, .ref g1), (1, .ref g4)]) hx hb dX0_worth_47 hl (by decide) rfl (fun ls hl => ?_)
  refine lv_aload_n hx hb dX0_worth_49 rfl (lv_at hl 6 rfl) ?_
  refine va_get (D := (dC, dI)) (ci := 0) (v := .ref g3) (C := RX0) (T := TX0) (N := 5) hx hb hts in_wsX0_worth_X0 hown hK hP 0 rfl rfl 4 (by decide) (hts (.fieldLink RX0 20 "ShipOffice$Act" "stack" "[I") (by decide +kernel)) (fun _ h9 => h9) rfl dX0_worth_50 ?_
  refine lv_iload_n hx hb dX0_worth_53 rfl (lv_at hl 5 rfl) ?_
  refine lv_iload hx hb dX0_worth_54 (lv_at hl 0 rfl) ?_
  refine lv_if_lt (tgt := 73) hx hb dX0_worth_56 (by decide) (fun _ => ?_) (fun c_4 => absurd c_4 (by decide))
  refine lv_iload hx hb dX0_worth_73 (lv_at hl 1 rfl) ?_
  refine va_iast hx hb hK hP hD hS 2 1 rfl rfl (by unfold vp_in; decide) dX0_worth_75 (fun H locs hP hD hS => ?_)
  have hP : va_P (dC, dI) vwCl [(g1, .inr (0, [.int x1, .int (-1), .int 0, .ref g2, .ref g3])), (g2, .inl (k2, 1, .inl (upd (fun _ => 0) (0 : Int32).toNatClampNeg 50))), (g3, .inl (k3, 2, .inl (upd (fun _ => 0) (0 : Int32).toNatClampNeg 50))), (g4, .inl (k4, 8, .inl (fun _ => 0)))] H := hP
  have hD : va_D A [(g1, .inr (0, [.int x1, .int (-1), .int 0, .ref g2, .ref g3])), (g2, .inl (k2, 1, .inl (upd (fun _ => 0) (0 : Int32).toNatClampNeg 50))), (g3, .inl (k3, 2, .inl (upd (fun _ => 0) (0 : Int32).toNatClampNeg 50))), (g4, .inl (k4, 8, .inl (fun _ => 0)))] := hD
  refine lv_iinc (v := 1) (lv' := [(2, .int 1), (7, .int (-51)), (6, .int 50), (5, .int 0), (4, .int 1), (3, .ref g2), (0, .ref g1), (1, .ref g4)]) hx hb dX0_worth_76 hl (k := 5) rfl (by decide) (by decide) rfl (fun ls hl => ?_)
  refine lv_goto (tgt := 122) hx hb dX0_worth_79 (by decide) ?_
  refine lv_iinc (v := 1) (lv' := [(5, .int 1), (2, .int 1), (7, .int (-51)), (6, .int 50), (4, .int 1), (3, .ref g2), (0, .ref g1), (1, .ref g4)]) hx hb dX0_worth_122 hl (k := 3) rfl (by decide) (by decide) rfl (fun ls hl => ?_)
  refine lv_goto (tgt := 14) hx hb dX0_worth_125 (by decide) ?_
  refine lv_iload hx hb dX0_worth_14 (lv_at hl 0 rfl) ?_
  refine lv_iload hx hb dX0_worth_16 (lv_at hl 4 rfl) ?_
  refine lv_icmp_ge (tgt := 128) hx hb dX0_worth_18 (by decide) (fun _ => ?_) (fun c_5 => absurd c_5 (by decide))
  refine lv_aload_n hx hb dX0_worth_128 rfl (lv_at hl 6 rfl) ?_
  refine va_get (D := (dC, dI)) (ci := 0) (v := .ref g3) (C := RX0) (T := TX0) (N := 5) hx hb hts in_wsX0_worth_X0 hown hK hP 0 rfl rfl 4 (by decide) (hts (.fieldLink RX0 20 "ShipOffice$Act" "stack" "[I") (by decide +kernel)) (fun _ h9 => h9) rfl dX0_worth_129 ?_
  refine lv_iconst (v := 0) hx hb dX0_worth_132 (by decide) ?_
  refine va_iald hx hb hK hP 2 1 rfl rfl (by unfold vp_in; decide) dX0_worth_133 ?_
  refine W.eq (g2 := F0 m 134 ls [.int 50]) rfl ?_
  have hP9 := hP.sub (ws' := [(g1, .inr (0, [.int x1, .int (-1), .int 0, .ref g2, .ref g3]))]) [0] rfl
  have hD9 := hD.sub (ws' := [(g1, .inr (0, [.int x1, .int (-1), .int 0, .ref g2, .ref g3]))]) [0] (by decide) rfl
  have hK9 := hK.sub (tys' := []) [] rfl
  subst hAe
  exact W.iret (v := 50) hx hb hr (fun t ht hW => ⟨⟨50, (), rfl, rfl, ⟨by rw [ht]; exact hP9, va_K.moved hW.alike hK9, hD9⟩⟩, hS.F ht⟩) hS.2.2 dX0_worth_134
set_option maxHeartbeats 4000000 in
set_option maxRecDepth 100000 in
theorem c_X0_worth_90 (l : Launch) (dC : Nat → ClassId) (dI : Nat → Nat → Nat) (sz : Nat) (g1 g2 g3 g4 : Nat) (k2 k3 k4 : ClassId) (x1 : Int32) : Met l yX0_worth wsX0_worth ({ frames := 0, cells := 0, slots := 0, locals := 0 }) (va_Pc [.ref g1, .ref g4] (pcW (dC, dI) [(k2, .int), (k3, .int), (k4, .int)] [(g1, .inr (0, [.int x1, .int (-1), .int 0, .ref g2, .ref g3])), (g2, .inl (k2, 1, .inl (upd (fun _ => 0) (0 : Int32).toNatClampNeg 90))), (g3, .inl (k3, 2, .inl (fun _ => 0))), (g4, .inl (k4, 8, .inl (fun _ => 0)))] sz)) (va_Qi (fun (r : Int32) (u : Unit) => r = 90) (fun u t => va_P (dC, dI) vwCl [(g1, .inr (0, [.int x1, .int (-1), .int 0, .ref g2, .ref g3]))] t.heap ∧ va_K (dC, dI) vwCl [] t ∧ va_D (va_A [(g1, .inr (0, [.int x1, .int (-1), .int 0, .ref g2, .ref g3])), (g2, .inl (k2, 1, .inl (upd (fun _ => 0) (0 : Int32).toNatClampNeg 90))), (g3, .inl (k3, 2, .inl (fun _ => 0))), (g4, .inl (k4, 8, .inl (fun _ => 0)))] sz) [(g1, .inr (0, [.int x1, .int (-1), .int 0, .ref g2, .ref g3]))]) (va_A [(g1, .inr (0, [.int x1, .int (-1), .int 0, .ref g2, .ref g3])), (g2, .inl (k2, 1, .inl (upd (fun _ => 0) (0 : Int32).toNatClampNeg 90))), (g3, .inl (k3, 2, .inl (fun _ => 0))), (g4, .inl (k4, 8, .inl (fun _ => 0)))] sz)) 0 0 (va_A [(g1, .inr (0, [.int x1, .int (-1), .int 0, .ref g2, .ref g3])), (g2, .inl (k2, 1, .inl (upd (fun _ => 0) (0 : Int32).toNatClampNeg 90))), (g3, .inl (k3, 2, .inl (fun _ => 0))), (g4, .inl (k4, 8, .inl (fun _ => 0)))] sz) := by
  refine Met.ofW (cc := cX0_worth) (maxL := 8) (ret := (some .int)) (by decide) rfl ?_
  intro p e s m args below meth c s₁ B hml hv
  obtain ⟨rfl, hsz, hP, hK, hD0⟩ := hv
  have hx := B.exec
  have hb := B.bytes
  have hr := B.returns
  have hts := atoms_spec (ws := wsX0_worth) B.pre
  have hown : s.vm.findClass RX0 = some m.cls := findClass_of_methodNamed B.named
  have hlocks := B.notSynchronized
  subst hsz
  have hD := hD0.self (sz := s.heap.size)
  generalize hAe : va_A [(g1, .inr (0, [.int x1, .int (-1), .int 0, .ref g2, .ref g3])), (g2, .inl (k2, 1, .inl (upd (fun _ => 0) (0 : Int32).toNatClampNeg 90))), (g3, .inl (k3, 2, .inl (fun _ => 0))), (g4, .inl (k4, 8, .inl (fun _ => 0)))] s.heap.size = A at hD ⊢
  have hA : ∀ q : Nat, s.heap.size ≤ q → A q := fun q h => by rw [← hAe]; exact Or.inr h
  have hS : va_S A s.heap s.heap [] := va_S.rf
  have hP : va_P (dC, dI) vwCl [(g1, .inr (0, [.int x1, .int (-1), .int 0, .ref g2, .ref g3])), (g2, .inl (k2, 1, .inl (upd (fun _ => 0) (0 : Int32).toNatClampNeg 90))), (g3, .inl (k3, 2, .inl (fun _ => 0))), (g4, .inl (k4, 8, .inl (fun _ => 0)))] s.heap := hP
  have hl := lv_entry ([.ref g1, .ref g4]) (n := 8) (Nat.le_of_ble_eq_true rfl)
  rw [lg_entry_eq]
  generalize (lg_sl ([.ref g1, .ref g4]) ++ List.replicate (8 - (lg_sl ([.ref g1, .ref g4])).length) Slot.unset).toArray = ls at hl ⊢
  have hl : lv_has ls 8 [(0, .ref g1), (1, .ref g4)] := hl
  refine lv_iconst (v := 0) hx hb dX0_worth_0 (by decide) ?_
  refine lv_istore_n (lv' := [(2, .int 0), (0, .ref g1), (1, .ref g4)]) hx hb dX0_worth_1 rfl hl (by decide) rfl (fun ls hl => ?_)
  refine lv_aload_n hx hb dX0_worth_2 rfl (lv_at hl 1 rfl) ?_
  refine va_get (D := (dC, dI)) (ci := 0) (v := .ref g2) (C := RX0) (T := TX0) (N := 5) hx hb hts in_wsX0_worth_X0 hown hK hP 0 rfl rfl 3 (by decide) (hts (.fieldLink RX0 16 "ShipOffice$Act" "code" "[I") (by decide +kernel)) (fun _ h9 => h9) rfl dX0_worth_3 ?_
  refine lv_astore_n (lv' := [(3, .ref g2), (2, .int 0), (0, .ref g1), (1, .ref g4)]) hx hb dX0_worth_6 rfl hl (by decide) rfl (fun ls hl => ?_)
  refine lv_aload_n hx hb dX0_worth_7 rfl (lv_at hl 0 rfl) ?_
  refine va_alen (v := 1) hx hb hK hP 1 0 rfl rfl (by decide) dX0_worth_8 ?_
  refine lv_istore (lv' := [(4, .int 1), (3, .ref g2), (2, .int 0), (0, .ref g1), (1, .ref g4)]) hx hb dX0_worth_9 hl (by decide) rfl (fun ls hl => ?_)
  refine lv_iconst (v := 0) hx hb dX0_worth_11 (by decide) ?_
  refine lv_istore (lv' := [(5, .int 0), (4, .int 1), (3, .ref g2), (2, .int 0), (0, .ref g1), (1, .ref g4)]) hx hb dX0_worth_12 hl (by decide) rfl (fun ls hl => ?_)
  refine lv_iload hx hb dX0_worth_14 (lv_at hl 0 rfl) ?_
  refine lv_iload hx hb dX0_worth_16 (lv_at hl 1 rfl) ?_
  refine lv_icmp_ge (tgt := 128) hx hb dX0_worth_18 (by decide) (fun c_1 => absurd c_1 (by decide)) (fun _ => ?_)
  refine lv_aload_n hx hb dX0_worth_21 rfl (lv_at hl 2 rfl) ?_
  refine lv_iload hx hb dX0_worth_22 (lv_at hl 0 rfl) ?_
  refine va_iald hx hb hK hP 1 0 rfl rfl (by unfold vp_in; decide) dX0_worth_24 ?_
  refine W.eq (g2 := F0 m 25 ls [.int 90]) rfl ?_
  refine lv_istore (lv' := [(6, .int 90), (5, .int 0), (4, .int 1), (3, .ref g2), (2, .int 0), (0, .ref g1), (1, .ref g4)]) hx hb dX0_worth_25 hl (by decide) rfl (fun ls hl => ?_)
  refine lv_iload hx hb dX0_worth_27 (lv_at hl 0 rfl) ?_
  refine lv_bipush (v := (-11)) hx hb dX0_worth_29 (by decide) ?_
  refine lv_icmp_le (tgt := 82) hx hb dX0_worth_31 (by decide) (fun c_2 => absurd c_2 (by decide)) (fun _ => ?_)
  refine lv_iload_n hx hb dX0_worth_34 rfl (lv_at hl 4 rfl) ?_
  refine lv_aload_n hx hb dX0_worth_35 rfl (lv_at hl 5 rfl) ?_
  refine va_get (D := (dC, dI)) (ci := 0) (v := .ref g3) (C := RX0) (T := TX0) (N := 5) hx hb hts in_wsX0_worth_X0 hown hK hP 0 rfl rfl 4 (by decide) (hts (.fieldLink RX0 20 "ShipOffice$Act" "stack" "[I") (by decide +kernel)) (fun _ h9 => h9) rfl dX0_worth_36 ?_
  refine va_alen (v := 2) hx hb hK hP 2 1 rfl rfl (by decide) dX0_worth_39 ?_
  refine lv_icmp_ge (tgt := 82) hx hb dX0_worth_40 (by decide) (fun c_3 => absurd c_3 (by decide)) (fun _ => ?_)
  refine lv_iconst (v := (-1)) hx hb dX0_worth_43 (by decide) ?_
  refine lv_iload hx hb dX0_worth_44 (lv_at hl 0 rfl) ?_
  refine lv_isub hx hb dX0_worth_46 ?_
  refine lv_topi (fun y ey => ?_)
  obtain rfl : y = (-91) := ey.trans (by decide)
  refine lv_istore (lv' := [(7, .int (-91)), (6, .int 90), (5, .int 0), (4, .int 1), (3, .ref g2), (2, .int 0), (0, .ref g1), (1, .ref g4)]) hx hb dX0_worth_47 hl (by decide) rfl (fun ls hl => ?_)
  refine lv_aload_n hx hb dX0_worth_49 rfl (lv_at hl 6 rfl) ?_
  refine va_get (D := (dC, dI)) (ci := 0) (v := .ref g3) (C := RX0) (T := TX0) (N := 5) hx hb hts in_wsX0_worth_X0 hown hK hP 0 rfl rfl 4 (by decide) (hts (.fieldLink RX0 20 "ShipOffice$Act" "stack" "[I") (by decide +kernel)) (fun _ h9 => h9) rfl dX0_worth_50 ?_
  refine lv_iload_n hx hb dX0_worth_53 rfl (lv_at hl 5 rfl) ?_
  refine lv_iload hx hb dX0_worth_54 (lv_at hl 0 rfl) ?_
  refine lv_if_lt (tgt := 73) hx hb dX0_worth_56 (by decide) (fun _ => ?_) (fun c_4 => absurd c_4 (by decide))
  refine lv_iload hx hb dX0_worth_73 (lv_at hl 1 rfl) ?_
  refine va_iast hx hb hK hP hD hS 2 1 rfl rfl (by unfold vp_in; decide) dX0_worth_75 (fun H locs hP hD hS => ?_)
  have hP : va_P (dC, dI) vwCl [(g1, .inr (0, [.int x1, .int (-1), .int 0, .ref g2, .ref g3])), (g2, .inl (k2, 1, .inl (upd (fun _ => 0) (0 : Int32).toNatClampNeg 90))), (g3, .inl (k3, 2, .inl (upd (fun _ => 0) (0 : Int32).toNatClampNeg 90))), (g4, .inl (k4, 8, .inl (fun _ => 0)))] H := hP
  have hD : va_D A [(g1, .inr (0, [.int x1, .int (-1), .int 0, .ref g2, .ref g3])), (g2, .inl (k2, 1, .inl (upd (fun _ => 0) (0 : Int32).toNatClampNeg 90))), (g3, .inl (k3, 2, .inl (upd (fun _ => 0) (0 : Int32).toNatClampNeg 90))), (g4, .inl (k4, 8, .inl (fun _ => 0)))] := hD
  refine lv_iinc (v := 1) (lv' := [(2, .int 1), (7, .int (-91)), (6, .int 90), (5, .int 0), (4, .int 1), (3, .ref g2), (0, .ref g1), (1, .ref g4)]) hx hb dX0_worth_76 hl (k := 5) rfl (by decide) (by decide) rfl (fun ls hl => ?_)
  refine lv_goto (tgt := 122) hx hb dX0_worth_79 (by decide) ?_
  refine lv_iinc (v := 1) (lv' := [(5, .int 1), (2, .int 1), (7, .int (-91)), (6, .int 90), (4, .int 1), (3, .ref g2), (0, .ref g1), (1, .ref g4)]) hx hb dX0_worth_122 hl (k := 3) rfl (by decide) (by decide) rfl (fun ls hl => ?_)
  refine lv_goto (tgt := 14) hx hb dX0_worth_125 (by decide) ?_
  refine lv_iload hx hb dX0_worth_14 (lv_at hl 0 rfl) ?_
  refine lv_iload hx hb dX0_worth_16 (lv_at hl 4 rfl) ?_
  refine lv_icmp_ge (tgt := 128) hx hb dX0_worth_18 (by decide) (fun _ => ?_) (fun c_5 => absurd c_5 (by decide))
  refine lv_aload_n hx hb dX0_worth_128 rfl (lv_at hl 6 rfl) ?_
  refine va_get (D := (dC, dI)) (ci := 0) (v := .ref g3) (C := RX0) (T := TX0) (N := 5) hx hb hts in_wsX0_worth_X0 hown hK hP 0 rfl rfl 4 (by decide) (hts (.fieldLink RX0 20 "ShipOffice$Act" "stack" "[I") (by decide +kernel)) (fun _ h9 => h9) rfl dX0_worth_129 ?_
  refine lv_iconst (v := 0) hx hb dX0_worth_132 (by decide) ?_
  refine va_iald hx hb hK hP 2 1 rfl rfl (by unfold vp_in; decide) dX0_worth_133 ?_
  refine W.eq (g2 := F0 m 134 ls [.int 90]) rfl ?_
  have hP9 := hP.sub (ws' := [(g1, .inr (0, [.int x1, .int (-1), .int 0, .ref g2, .ref g3]))]) [0] rfl
  have hD9 := hD.sub (ws' := [(g1, .inr (0, [.int x1, .int (-1), .int 0, .ref g2, .ref g3]))]) [0] (by decide) rfl
  have hK9 := hK.sub (tys' := []) [] rfl
  subst hAe
  exact W.iret (v := 90) hx hb hr (fun t ht hW => ⟨⟨90, (), rfl, rfl, ⟨by rw [ht]; exact hP9, va_K.moved hW.alike hK9, hD9⟩⟩, hS.F ht⟩) hS.2.2 dX0_worth_134
set_option maxHeartbeats 4000000 in
set_option maxRecDepth 100000 in
theorem c_X0_init_1 (l : Launch) (dC : Nat → ClassId) (dI : Nat → Nat → Nat) (sz : Nat) (tL tS : Nat) (g1 g2 : Nat) (k2 : ClassId) (x1 : Int32) : Met l yX0_init wsX0_init ({ frames := 1, cells := 2, slots := 10, locals := 27 }) (va_Pc [.ref g1, .int x1, .int (-1), .ref g2] (pcS (dC, dI) [(k2, .int)] [(g1, .inr (0, [.int 0, .int 0, .int 0, .null, .null])), (g2, .inl (k2, 1, .inl (upd (fun _ => 0) (0 : Int32).toNatClampNeg 1)))] sz tL tS [(g1, .inr (0, [.int 0, .int 0, .int 0, .null, .null])), (g2, .inl (k2, 1, .inl (upd (fun _ => 0) (0 : Int32).toNatClampNeg 1)))])) (va_Qv (fun (u : Nat) => True) (fun u t => va_P (dC, dI) vwCl [(g1, .inr (0, [.int x1, .int (-1), .int 1, .ref g2, .ref u]))] t.heap ∧ va_K (dC, dI) vwCl [] t ∧ va_D (va_A [(g1, .inr (0, [.int 0, .int 0, .int 0, .null, .null])), (g2, .inl (k2, 1, .inl (upd (fun _ => 0) (0 : Int32).toNatClampNeg 1)))] sz) [(g1, .inr (0, [.int x1, .int (-1), .int 1, .ref g2, .ref u]))]) (va_A [(g1, .inr (0, [.int 0, .int 0, .int 0, .null, .null])), (g2, .inl (k2, 1, .inl (upd (fun _ => 0) (0 : Int32).toNatClampNeg 1)))] sz)) 2 10 (va_A [(g1, .inr (0, [.int 0, .int 0, .int 0, .null, .null])), (g2, .inl (k2, 1, .inl (upd (fun _ => 0) (0 : Int32).toNatClampNeg 1)))] sz) := by
  refine Met.ofW (cc := cX0_init) (maxL := 4) (ret := none) (by decide) rfl ?_
  intro p e s m args below meth c s₁ B hml hv
  obtain ⟨rfl, ⟨hsz, hP, hK, hD0⟩, hZ⟩ := hv
  have hx := B.exec
  have hb := B.bytes
  have hr := B.returns
  have hts := atoms_spec (ws := wsX0_init) B.pre
  have hown : s.vm.findClass RX0 = some m.cls := findClass_of_methodNamed B.named
  have hlocks := B.notSynchronized
  have hin : meth.name = "<init>" := (name_of_methodNamed B.named B.method).1
  subst hsz
  have hD := hD0.self (sz := s.heap.size)
  generalize hAe : va_A [(g1, .inr (0, [.int 0, .int 0, .int 0, .null, .null])), (g2, .inl (k2, 1, .inl (upd (fun _ => 0) (0 : Int32).toNatClampNeg 1)))] s.heap.size = A at hD hZ ⊢
  have hA : ∀ q : Nat, s.heap.size ≤ q → A q := fun q h => by rw [← hAe]; exact Or.inr h
  have hS : va_S A s.heap s.heap [] := va_S.rf
  have hP : va_P (dC, dI) vwCl [(g1, .inr (0, [.int 0, .int 0, .int 0, .null, .null])), (g2, .inl (k2, 1, .inl (upd (fun _ => 0) (0 : Int32).toNatClampNeg 1)))] s.heap := hP
  have hl := lv_entry ([.ref g1, .int x1, .int (-1), .ref g2]) (n := 4) (Nat.le_of_ble_eq_true rfl)
  rw [lg_entry_eq]
  generalize (lg_sl ([.ref g1, .int x1, .int (-1), .ref g2]) ++ List.replicate (4 - (lg_sl ([.ref g1, .int x1, .int (-1), .ref g2])).length) Slot.unset).toArray = ls at hl ⊢
  have hl : lv_has ls 4 [(0, .ref g1), (1, .int x1), (2, .int (-1)), (3, .ref g2)] := hl
  refine lv_aload_n hx hb dX0_init_0 rfl (lv_at hl 0 rfl) ?_
  refine W.objInit hx hb hown (hts (.methodLink RX0 1 objectInit) (by decide +kernel)) (hts (.instanceMethod objectInit) (by decide +kernel)) (hts (.code objectInit ⟨#[0xb1]⟩ 1 none) (in_obj_wsX0_init)) rfl (by rw [hml]; exact hl.1) rfl dX0_init_1 (Nat.le_of_ble_eq_true rfl) (Nat.le_of_ble_eq_true rfl) ?_
  refine W.eq (g2 := F0 m 4 ls []) rfl ?_
  refine lv_aload_n hx hb dX0_init_4 rfl (lv_at hl 0 rfl) ?_
  refine lv_iload_n hx hb dX0_init_5 rfl (lv_at hl 1 rfl) ?_
  refine va_putF (D := (dC, dI)) (ci := 0) (v := .int x1) (ty := .int) (C := RX0) (T := TX0) (N := 5) hx hb hts in_wsX0_init_X0 tyX0 tyX0_ok nmX0 hown hK hP hD hS 0 rfl rfl 0 (by decide) (hts (.fieldLink RX0 7 "ShipOffice$Act" "purpose" "I") (by decide +kernel)) (fun _ h9 => h9) rfl hin rfl (by decide +kernel) rfl rfl (Nat.le_of_ble_eq_true rfl) dX0_init_6 (fun H locs hP hD hS => ?_)
  have hP : va_P (dC, dI) vwCl [(g1, .inr (0, [.int x1, .int 0, .int 0, .null, .null])), (g2, .inl (k2, 1, .inl (upd (fun _ => 0) (0 : Int32).toNatClampNeg 1)))] H := hP
  have hD : va_D A [(g1, .inr (0, [.int x1, .int 0, .int 0, .null, .null])), (g2, .inl (k2, 1, .inl (upd (fun _ => 0) (0 : Int32).toNatClampNeg 1)))] := hD
  refine lv_aload_n hx hb dX0_init_9 rfl (lv_at hl 0 rfl) ?_
  refine lv_iload_n hx hb dX0_init_10 rfl (lv_at hl 2 rfl) ?_
  refine va_putF (D := (dC, dI)) (ci := 0) (v := .int (-1)) (ty := .int) (C := RX0) (T := TX0) (N := 5) hx hb hts in_wsX0_init_X0 tyX0 tyX0_ok nmX0 hown hK hP hD hS 0 rfl rfl 1 (by decide) (hts (.fieldLink RX0 13 "ShipOffice$Act" "day" "I") (by decide +kernel)) (fun _ h9 => h9) rfl hin rfl (by decide +kernel) rfl rfl (Nat.le_of_ble_eq_true rfl) dX0_init_11 (fun H locs hP hD hS => ?_)
  have hP : va_P (dC, dI) vwCl [(g1, .inr (0, [.int x1, .int (-1), .int 0, .null, .null])), (g2, .inl (k2, 1, .inl (upd (fun _ => 0) (0 : Int32).toNatClampNeg 1)))] H := hP
  have hD : va_D A [(g1, .inr (0, [.int x1, .int (-1), .int 0, .null, .null])), (g2, .inl (k2, 1, .inl (upd (fun _ => 0) (0 : Int32).toNatClampNeg 1)))] := hD
  refine lv_aload_n hx hb dX0_init_14 rfl (lv_at hl 0 rfl) ?_
  refine lv_aload_n hx hb dX0_init_15 rfl (lv_at hl 3 rfl) ?_
  refine va_putF (D := (dC, dI)) (ci := 0) (v := .ref g2) (ty := .array .int) (C := RX0) (T := TX0) (N := 5) hx hb hts in_wsX0_init_X0 tyX0 tyX0_ok nmX0 hown hK hP hD hS 0 rfl rfl 3 (by decide) (hts (.fieldLink RX0 16 "ShipOffice$Act" "code" "[I") (by decide +kernel)) (fun _ h9 => h9) rfl hin rfl (by decide +kernel) rfl rfl (Nat.le_of_ble_eq_true rfl) dX0_init_16 (fun H locs hP hD hS => ?_)
  have hP : va_P (dC, dI) vwCl [(g1, .inr (0, [.int x1, .int (-1), .int 0, .ref g2, .null])), (g2, .inl (k2, 1, .inl (upd (fun _ => 0) (0 : Int32).toNatClampNeg 1)))] H := hP
  have hD : va_D A [(g1, .inr (0, [.int x1, .int (-1), .int 0, .ref g2, .null])), (g2, .inl (k2, 1, .inl (upd (fun _ => 0) (0 : Int32).toNatClampNeg 1)))] := hD
  refine lv_aload_n hx hb dX0_init_19 rfl (lv_at hl 0 rfl) ?_
  refine lv_aload_n hx hb dX0_init_20 rfl (lv_at hl 3 rfl) ?_
  refine va_alen (v := 1) hx hb hK hP 1 0 rfl rfl (by decide) dX0_init_21 ?_
  refine lv_iconst (v := 1) hx hb dX0_init_22 (by decide) ?_
  refine lv_iadd hx hb dX0_init_23 ?_
  refine lv_topi (fun y ey => ?_)
  obtain rfl : y = 2 := ey.trans (by decide)
  refine va_newa (atype := .int) (ty := .int) (a0 := (2, .inl (fun _ => 0))) hx hb (hts (.arrayClass .int) (by decide +kernel)) rfl hK hP hD hS hA (fun _ => rfl) (by decide) (by decide) (by decide) (Nat.le_of_ble_eq_true rfl) (Nat.le_of_ble_eq_true rfl) dX0_init_24 (fun q_1 k_2 H hK hP hD hS => ?_)
  have hP : va_P (dC, dI) vwCl [(g1, .inr (0, [.int x1, .int (-1), .int 0, .ref g2, .null])), (g2, .inl (k2, 1, .inl (upd (fun _ => 0) (0 : Int32).toNatClampNeg 1))), (q_1, .inl (k_2, 2, .inl (fun _ => 0)))] H := hP
  have hD : va_D A [(g1, .inr (0, [.int x1, .int (-1), .int 0, .ref g2, .null])), (g2, .inl (k2, 1, .inl (upd (fun _ => 0) (0 : Int32).toNatClampNeg 1))), (q_1, .inl (k_2, 2, .inl (fun _ => 0)))] := hD
  have hK : va_K (dC, dI) vwCl [(k2, .int), (k_2, .int)] s := hK
  refine W.widen (k := 1) (n := 2) (Nat.le_of_ble_eq_true rfl) (Nat.le_of_ble_eq_true rfl) ?_
  refine va_putF (D := (dC, dI)) (ci := 0) (v := .ref q_1) (ty := .array .int) (C := RX0) (T := TX0) (N := 5) hx hb hts in_wsX0_init_X0 tyX0 tyX0_ok nmX0 hown hK hP hD hS 0 rfl rfl 4 (by decide) (hts (.fieldLink RX0 20 "ShipOffice$Act" "stack" "[I") (by decide +kernel)) (fun _ h9 => h9) rfl hin rfl (by decide +kernel) rfl rfl (Nat.le_of_ble_eq_true rfl) dX0_init_26 (fun H locs hP hD hS => ?_)
  have hP : va_P (dC, dI) vwCl [(g1, .inr (0, [.int x1, .int (-1), .int 0, .ref g2, .ref q_1])), (g2, .inl (k2, 1, .inl (upd (fun _ => 0) (0 : Int32).toNatClampNeg 1))), (q_1, .inl (k_2, 2, .inl (fun _ => 0)))] H := hP
  have hD : va_D A [(g1, .inr (0, [.int x1, .int (-1), .int 0, .ref g2, .ref q_1])), (g2, .inl (k2, 1, .inl (upd (fun _ => 0) (0 : Int32).toNatClampNeg 1))), (q_1, .inl (k_2, 2, .inl (fun _ => 0)))] := hD
  refine lv_aload_n hx hb dX0_init_29 rfl (lv_at hl 0 rfl) ?_
  refine lv_aload_n hx hb dX0_init_30 rfl (lv_at hl 0 rfl) ?_
  refine va_getsN hx hb hZ.1 hS hown (va_Nw.use rfl hZ.2.2.2.2.1) (fun _ h9 => h9) dX0_init_31 ?_
  refine va_tlen (v := 8) hx hb hZ.2.1 hS rfl dX0_init_34 ?_
  refine va_newa (atype := .int) (ty := .int) (a0 := (8, .inl (fun _ => 0))) hx hb (hts (.arrayClass .int) (by decide +kernel)) rfl hK hP hD hS hA (fun _ => rfl) (by decide) (by decide) (by decide) (Nat.le_of_ble_eq_true rfl) (Nat.le_of_ble_eq_true rfl) dX0_init_35 (fun q_3 k_4 H hK hP hD hS => ?_)
  have hP : va_P (dC, dI) vwCl [(g1, .inr (0, [.int x1, .int (-1), .int 0, .ref g2, .ref q_1])), (g2, .inl (k2, 1, .inl (upd (fun _ => 0) (0 : Int32).toNatClampNeg 1))), (q_1, .inl (k_2, 2, .inl (fun _ => 0))), (q_3, .inl (k_4, 8, .inl (fun _ => 0)))] H := hP
  have hD : va_D A [(g1, .inr (0, [.int x1, .int (-1), .int 0, .ref g2, .ref q_1])), (g2, .inl (k2, 1, .inl (upd (fun _ => 0) (0 : Int32).toNatClampNeg 1))), (q_1, .inl (k_2, 2, .inl (fun _ => 0))), (q_3, .inl (k_4, 8, .inl (fun _ => 0)))] := hD
  have hK : va_K (dC, dI) vwCl [(k2, .int), (k_2, .int), (k_4, .int)] s := hK
  refine W.widen (k := 2) (n := 10) (Nat.le_of_ble_eq_true rfl) (Nat.le_of_ble_eq_true rfl) ?_
  have hPc := hP.sub (ws' := [(g1, .inr (0, [.int x1, .int (-1), .int 0, .ref g2, .ref q_1])), (g2, .inl (k2, 1, .inl (upd (fun _ => 0) (0 : Int32).toNatClampNeg 1))), (q_1, .inl (k_2, 2, .inl (fun _ => 0))), (q_3, .inl (k_4, 8, .inl (fun _ => 0)))]) [0, 1, 2, 3] rfl
  have hDc := hD.sub (ws' := [(g1, .inr (0, [.int x1, .int (-1), .int 0, .ref g2, .ref q_1])), (g2, .inl (k2, 1, .inl (upd (fun _ => 0) (0 : Int32).toNatClampNeg 1))), (q_1, .inl (k_2, 2, .inl (fun _ => 0))), (q_3, .inl (k_4, 8, .inl (fun _ => 0)))]) [0, 1, 2, 3] (by decide) rfl
  have hKc := hK.sub (tys' := [(k2, .int), (k_2, .int), (k_4, .int)]) [0, 1, 2] rfl
  have hFc := va_free (wc := [(g1, .inr (0, [.int x1, .int (-1), .int 0, .ref g2, .ref q_1])), (g2, .inl (k2, 1, .inl (upd (fun _ => 0) (0 : Int32).toNatClampNeg 1))), (q_1, .inl (k_2, 2, .inl (fun _ => 0))), (q_3, .inl (k_4, 8, .inl (fun _ => 0)))]) hD hS hA [0, 1, 2, 3] rfl
  refine va_calli (va_runV (As := [.ref q_3]) (rest := [.ref g1]) ⟨hx, hb, hml, hown, hts⟩ (c_X0_worth_1 l dC dI H.size g1 g2 q_1 q_3 k2 k_2 k_4 x1) (cwV 1 hts gX0_init_X0_worth rfl rfl rfl (by decide +kernel) ⟨(Nat.le_of_ble_eq_true rfl), (Nat.le_of_ble_eq_true rfl)⟩) (pr_V (r := (RX0, TX0, 5)) hPc hKc hDc 0 0 rfl rfl) rfl rfl hl.1 rfl (lv_room (Nat.le_of_ble_eq_true rfl)) dX0_init_37 ⟨(Nat.le_of_ble_eq_true rfl), (Nat.le_of_ble_eq_true rfl)⟩) hS (fun q _ h => hFc q h) hFc (fun r_6 u t H locs ht hvm w_5 hB hz1 hk1 hS => ?_)
  obtain ⟨hP1, hK1, hD1⟩ := hB
  rw [ht] at hP1
  have hK1 := va_K.moved hvm.symm hK1
  obtain ⟨hP, hD⟩ := va_join (wr := []) (w1 := [(g1, .inr (0, [.int x1, .int (-1), .int 0, .ref g2, .ref q_1]))]) hP hD [0, 1, 2, 3] [] rfl rfl (by decide) (by decide) hk1 hFc hP1 hD1
  have hK := hK.app hK1
  have hP : va_P (dC, dI) vwCl [(g1, .inr (0, [.int x1, .int (-1), .int 0, .ref g2, .ref q_1]))] H := hP
  have hD : va_D A [(g1, .inr (0, [.int x1, .int (-1), .int 0, .ref g2, .ref q_1]))] := hD
  have hK : va_K (dC, dI) vwCl [(k2, .int), (k_2, .int), (k_4, .int)] s := hK
  clear hP1 hK1 hD1 hk1 hz1 hvm ht hPc hDc hKc hFc
  subst w_5
  refine va_putF (D := (dC, dI)) (ci := 0) (v := .int 1) (ty := .int) (C := RX0) (T := TX0) (N := 5) hx hb hts in_wsX0_init_X0 tyX0 tyX0_ok nmX0 hown hK hP hD hS 0 rfl rfl 2 (by decide) (hts (.fieldLink RX0 33 "ShipOffice$Act" "plainWorth" "I") (by decide +kernel)) (fun _ h9 => h9) rfl hin rfl (by decide +kernel) rfl rfl (Nat.le_of_ble_eq_true rfl) dX0_init_40 (fun H locs hP hD hS => ?_)
  have hP : va_P (dC, dI) vwCl [(g1, .inr (0, [.int x1, .int (-1), .int 1, .ref g2, .ref q_1]))] H := hP
  have hD : va_D A [(g1, .inr (0, [.int x1, .int (-1), .int 1, .ref g2, .ref q_1]))] := hD
  have hP9 := hP.sub (ws' := [(g1, .inr (0, [.int x1, .int (-1), .int 1, .ref g2, .ref q_1]))]) [0] rfl
  have hD9 := hD.sub (ws' := [(g1, .inr (0, [.int x1, .int (-1), .int 1, .ref g2, .ref q_1]))]) [0] (by decide) rfl
  have hK9 := hK.sub (tys' := []) [] rfl
  subst hAe
  exact W.vret hx hb hr (fun t ht hW => ⟨⟨q_1, rfl, trivial, ⟨by rw [ht]; exact hP9, va_K.moved hW.alike hK9, hD9⟩⟩, hS.F ht⟩) hS.2.2 dX0_init_43
set_option maxHeartbeats 4000000 in
set_option maxRecDepth 100000 in
theorem c_X0_init_m6 (l : Launch) (dC : Nat → ClassId) (dI : Nat → Nat → Nat) (sz : Nat) (tL tS : Nat) (g1 g2 : Nat) (k2 : ClassId) (x1 : Int32) : Met l yX0_init wsX0_init ({ frames := 1, cells := 2, slots := 10, locals := 27 }) (va_Pc [.ref g1, .int x1, .int (-1), .ref g2] (pcS (dC, dI) [(k2, .int)] [(g1, .inr (0, [.int 0, .int 0, .int 0, .null, .null])), (g2, .inl (k2, 1, .inl (upd (fun _ => 0) (0 : Int32).toNatClampNeg (-6))))] sz tL tS [(g1, .inr (0, [.int 0, .int 0, .int 0, .null, .null])), (g2, .inl (k2, 1, .inl (upd (fun _ => 0) (0 : Int32).toNatClampNeg (-6))))])) (va_Qv (fun (u : Nat) => True) (fun u t => va_P (dC, dI) vwCl [(g1, .inr (0, [.int x1, .int (-1), .int 0, .ref g2, .ref u]))] t.heap ∧ va_K (dC, dI) vwCl [] t ∧ va_D (va_A [(g1, .inr (0, [.int 0, .int 0, .int 0, .null, .null])), (g2, .inl (k2, 1, .inl (upd (fun _ => 0) (0 : Int32).toNatClampNeg (-6))))] sz) [(g1, .inr (0, [.int x1, .int (-1), .int 0, .ref g2, .ref u]))]) (va_A [(g1, .inr (0, [.int 0, .int 0, .int 0, .null, .null])), (g2, .inl (k2, 1, .inl (upd (fun _ => 0) (0 : Int32).toNatClampNeg (-6))))] sz)) 2 10 (va_A [(g1, .inr (0, [.int 0, .int 0, .int 0, .null, .null])), (g2, .inl (k2, 1, .inl (upd (fun _ => 0) (0 : Int32).toNatClampNeg (-6))))] sz) := by
  refine Met.ofW (cc := cX0_init) (maxL := 4) (ret := none) (by decide) rfl ?_
  intro p e s m args below meth c s₁ B hml hv
  obtain ⟨rfl, ⟨hsz, hP, hK, hD0⟩, hZ⟩ := hv
  have hx := B.exec
  have hb := B.bytes
  have hr := B.returns
  have hts := atoms_spec (ws := wsX0_init) B.pre
  have hown : s.vm.findClass RX0 = some m.cls := findClass_of_methodNamed B.named
  have hlocks := B.notSynchronized
  have hin : meth.name = "<init>" := (name_of_methodNamed B.named B.method).1
  subst hsz
  have hD := hD0.self (sz := s.heap.size)
  generalize hAe : va_A [(g1, .inr (0, [.int 0, .int 0, .int 0, .null, .null])), (g2, .inl (k2, 1, .inl (upd (fun _ => 0) (0 : Int32).toNatClampNeg (-6))))] s.heap.size = A at hD hZ ⊢
  have hA : ∀ q : Nat, s.heap.size ≤ q → A q := fun q h => by rw [← hAe]; exact Or.inr h
  have hS : va_S A s.heap s.heap [] := va_S.rf
  have hP : va_P (dC, dI) vwCl [(g1, .inr (0, [.int 0, .int 0, .int 0, .null, .null])), (g2, .inl (k2, 1, .inl (upd (fun _ => 0) (0 : Int32).toNatClampNeg (-6))))] s.heap := hP
  have hl := lv_entry ([.ref g1, .int x1, .int (-1), .ref g2]) (n := 4) (Nat.le_of_ble_eq_true rfl)
  rw [lg_entry_eq]
  generalize (lg_sl ([.ref g1, .int x1, .int (-1), .ref g2]) ++ List.replicate (4 - (lg_sl ([.ref g1, .int x1, .int (-1), .ref g2])).length) Slot.unset).toArray = ls at hl ⊢
  have hl : lv_has ls 4 [(0, .ref g1), (1, .int x1), (2, .int (-1)), (3, .ref g2)] := hl
  refine lv_aload_n hx hb dX0_init_0 rfl (lv_at hl 0 rfl) ?_
  refine W.objInit hx hb hown (hts (.methodLink RX0 1 objectInit) (by decide +kernel)) (hts (.instanceMethod objectInit) (by decide +kernel)) (hts (.code objectInit ⟨#[0xb1]⟩ 1 none) (in_obj_wsX0_init)) rfl (by rw [hml]; exact hl.1) rfl dX0_init_1 (Nat.le_of_ble_eq_true rfl) (Nat.le_of_ble_eq_true rfl) ?_
  refine W.eq (g2 := F0 m 4 ls []) rfl ?_
  refine lv_aload_n hx hb dX0_init_4 rfl (lv_at hl 0 rfl) ?_
  refine lv_iload_n hx hb dX0_init_5 rfl (lv_at hl 1 rfl) ?_
  refine va_putF (D := (dC, dI)) (ci := 0) (v := .int x1) (ty := .int) (C := RX0) (T := TX0) (N := 5) hx hb hts in_wsX0_init_X0 tyX0 tyX0_ok nmX0 hown hK hP hD hS 0 rfl rfl 0 (by decide) (hts (.fieldLink RX0 7 "ShipOffice$Act" "purpose" "I") (by decide +kernel)) (fun _ h9 => h9) rfl hin rfl (by decide +kernel) rfl rfl (Nat.le_of_ble_eq_true rfl) dX0_init_6 (fun H locs hP hD hS => ?_)
  have hP : va_P (dC, dI) vwCl [(g1, .inr (0, [.int x1, .int 0, .int 0, .null, .null])), (g2, .inl (k2, 1, .inl (upd (fun _ => 0) (0 : Int32).toNatClampNeg (-6))))] H := hP
  have hD : va_D A [(g1, .inr (0, [.int x1, .int 0, .int 0, .null, .null])), (g2, .inl (k2, 1, .inl (upd (fun _ => 0) (0 : Int32).toNatClampNeg (-6))))] := hD
  refine lv_aload_n hx hb dX0_init_9 rfl (lv_at hl 0 rfl) ?_
  refine lv_iload_n hx hb dX0_init_10 rfl (lv_at hl 2 rfl) ?_
  refine va_putF (D := (dC, dI)) (ci := 0) (v := .int (-1)) (ty := .int) (C := RX0) (T := TX0) (N := 5) hx hb hts in_wsX0_init_X0 tyX0 tyX0_ok nmX0 hown hK hP hD hS 0 rfl rfl 1 (by decide) (hts (.fieldLink RX0 13 "ShipOffice$Act" "day" "I") (by decide +kernel)) (fun _ h9 => h9) rfl hin rfl (by decide +kernel) rfl rfl (Nat.le_of_ble_eq_true rfl) dX0_init_11 (fun H locs hP hD hS => ?_)
  have hP : va_P (dC, dI) vwCl [(g1, .inr (0, [.int x1, .int (-1), .int 0, .null, .null])), (g2, .inl (k2, 1, .inl (upd (fun _ => 0) (0 : Int32).toNatClampNeg (-6))))] H := hP
  have hD : va_D A [(g1, .inr (0, [.int x1, .int (-1), .int 0, .null, .null])), (g2, .inl (k2, 1, .inl (upd (fun _ => 0) (0 : Int32).toNatClampNeg (-6))))] := hD
  refine lv_aload_n hx hb dX0_init_14 rfl (lv_at hl 0 rfl) ?_
  refine lv_aload_n hx hb dX0_init_15 rfl (lv_at hl 3 rfl) ?_
  refine va_putF (D := (dC, dI)) (ci := 0) (v := .ref g2) (ty := .array .int) (C := RX0) (T := TX0) (N := 5) hx hb hts in_wsX0_init_X0 tyX0 tyX0_ok nmX0 hown hK hP hD hS 0 rfl rfl 3 (by decide) (hts (.fieldLink RX0 16 "ShipOffice$Act" "code" "[I") (by decide +kernel)) (fun _ h9 => h9) rfl hin rfl (by decide +kernel) rfl rfl (Nat.le_of_ble_eq_true rfl) dX0_init_16 (fun H locs hP hD hS => ?_)
  have hP : va_P (dC, dI) vwCl [(g1, .inr (0, [.int x1, .int (-1), .int 0, .ref g2, .null])), (g2, .inl (k2, 1, .inl (upd (fun _ => 0) (0 : Int32).toNatClampNeg (-6))))] H := hP
  have hD : va_D A [(g1, .inr (0, [.int x1, .int (-1), .int 0, .ref g2, .null])), (g2, .inl (k2, 1, .inl (upd (fun _ => 0) (0 : Int32).toNatClampNeg (-6))))] := hD
  refine lv_aload_n hx hb dX0_init_19 rfl (lv_at hl 0 rfl) ?_
  refine lv_aload_n hx hb dX0_init_20 rfl (lv_at hl 3 rfl) ?_
  refine va_alen (v := 1) hx hb hK hP 1 0 rfl rfl (by decide) dX0_init_21 ?_
  refine lv_iconst (v := 1) hx hb dX0_init_22 (by decide) ?_
  refine lv_iadd hx hb dX0_init_23 ?_
  refine lv_topi (fun y ey => ?_)
  obtain rfl : y = 2 := ey.trans (by decide)
  refine va_newa (atype := .int) (ty := .int) (a0 := (2, .inl (fun _ => 0))) hx hb (hts (.arrayClass .int) (by decide +kernel)) rfl hK hP hD hS hA (fun _ => rfl) (by decide) (by decide) (by decide) (Nat.le_of_ble_eq_true rfl) (Nat.le_of_ble_eq_true rfl) dX0_init_24 (fun q_1 k_2 H hK hP hD hS => ?_)
  have hP : va_P (dC, dI) vwCl [(g1, .inr (0, [.int x1, .int (-1), .int 0, .ref g2, .null])), (g2, .inl (k2, 1, .inl (upd (fun _ => 0) (0 : Int32).toNatClampNeg (-6)))), (q_1, .inl (k_2, 2, .inl (fun _ => 0)))] H := hP
  have hD : va_D A [(g1, .inr (0, [.int x1, .int (-1), .int 0, .ref g2, .null])), (g2, .inl (k2, 1, .inl (upd (fun _ => 0) (0 : Int32).toNatClampNeg (-6)))), (q_1, .inl (k_2, 2, .inl (fun _ => 0)))] := hD
  have hK : va_K (dC, dI) vwCl [(k2, .int), (k_2, .int)] s := hK
  refine W.widen (k := 1) (n := 2) (Nat.le_of_ble_eq_true rfl) (Nat.le_of_ble_eq_true rfl) ?_
  refine va_putF (D := (dC, dI)) (ci := 0) (v := .ref q_1) (ty := .array .int) (C := RX0) (T := TX0) (N := 5) hx hb hts in_wsX0_init_X0 tyX0 tyX0_ok nmX0 hown hK hP hD hS 0 rfl rfl 4 (by decide) (hts (.fieldLink RX0 20 "ShipOffice$Act" "stack" "[I") (by decide +kernel)) (fun _ h9 => h9) rfl hin rfl (by decide +kernel) rfl rfl (Nat.le_of_ble_eq_true rfl) dX0_init_26 (fun H locs hP hD hS => ?_)
  have hP : va_P (dC, dI) vwCl [(g1, .inr (0, [.int x1, .int (-1), .int 0, .ref g2, .ref q_1])), (g2, .inl (k2, 1, .inl (upd (fun _ => 0) (0 : Int32).toNatClampNeg (-6)))), (q_1, .inl (k_2, 2, .inl (fun _ => 0)))] H := hP
  have hD : va_D A [(g1, .inr (0, [.int x1, .int (-1), .int 0, .ref g2, .ref q_1])), (g2, .inl (k2, 1, .inl (upd (fun _ => 0) (0 : Int32).toNatClampNeg (-6)))), (q_1, .inl (k_2, 2, .inl (fun _ => 0)))] := hD
  refine lv_aload_n hx hb dX0_init_29 rfl (lv_at hl 0 rfl) ?_
  refine lv_aload_n hx hb dX0_init_30 rfl (lv_at hl 0 rfl) ?_
  refine va_getsN hx hb hZ.1 hS hown (va_Nw.use rfl hZ.2.2.2.2.1) (fun _ h9 => h9) dX0_init_31 ?_
  refine va_tlen (v := 8) hx hb hZ.2.1 hS rfl dX0_init_34 ?_
  refine va_newa (atype := .int) (ty := .int) (a0 := (8, .inl (fun _ => 0))) hx hb (hts (.arrayClass .int) (by decide +kernel)) rfl hK hP hD hS hA (fun _ => rfl) (by decide) (by decide) (by decide) (Nat.le_of_ble_eq_true rfl) (Nat.le_of_ble_eq_true rfl) dX0_init_35 (fun q_3 k_4 H hK hP hD hS => ?_)
  have hP : va_P (dC, dI) vwCl [(g1, .inr (0, [.int x1, .int (-1), .int 0, .ref g2, .ref q_1])), (g2, .inl (k2, 1, .inl (upd (fun _ => 0) (0 : Int32).toNatClampNeg (-6)))), (q_1, .inl (k_2, 2, .inl (fun _ => 0))), (q_3, .inl (k_4, 8, .inl (fun _ => 0)))] H := hP
  have hD : va_D A [(g1, .inr (0, [.int x1, .int (-1), .int 0, .ref g2, .ref q_1])), (g2, .inl (k2, 1, .inl (upd (fun _ => 0) (0 : Int32).toNatClampNeg (-6)))), (q_1, .inl (k_2, 2, .inl (fun _ => 0))), (q_3, .inl (k_4, 8, .inl (fun _ => 0)))] := hD
  have hK : va_K (dC, dI) vwCl [(k2, .int), (k_2, .int), (k_4, .int)] s := hK
  refine W.widen (k := 2) (n := 10) (Nat.le_of_ble_eq_true rfl) (Nat.le_of_ble_eq_true rfl) ?_
  have hPc := hP.sub (ws' := [(g1, .inr (0, [.int x1, .int (-1), .int 0, .ref g2, .ref q_1])), (g2, .inl (k2, 1, .inl (upd (fun _ => 0) (0 : Int32).toNatClampNeg (-6)))), (q_1, .inl (k_2, 2, .inl (fun _ => 0))), (q_3, .inl (k_4, 8, .inl (fun _ => 0)))]) [0, 1, 2, 3] rfl
  have hDc := hD.sub (ws' := [(g1, .inr (0, [.int x1, .int (-1), .int 0, .ref g2, .ref q_1])), (g2, .inl (k2, 1, .inl (upd (fun _ => 0) (0 : Int32).toNatClampNeg (-6)))), (q_1, .inl (k_2, 2, .inl (fun _ => 0))), (q_3, .inl (k_4, 8, .inl (fun _ => 0)))]) [0, 1, 2, 3] (by decide) rfl
  have hKc := hK.sub (tys' := [(k2, .int), (k_2, .int), (k_4, .int)]) [0, 1, 2] rfl
  have hFc := va_free (wc := [(g1, .inr (0, [.int x1, .int (-1), .int 0, .ref g2, .ref q_1])), (g2, .inl (k2, 1, .inl (upd (fun _ => 0) (0 : Int32).toNatClampNeg (-6)))), (q_1, .inl (k_2, 2, .inl (fun _ => 0))), (q_3, .inl (k_4, 8, .inl (fun _ => 0)))]) hD hS hA [0, 1, 2, 3] rfl
  refine va_calli (va_runV (As := [.ref q_3]) (rest := [.ref g1]) ⟨hx, hb, hml, hown, hts⟩ (c_X0_worth_m6 l dC dI H.size g1 g2 q_1 q_3 k2 k_2 k_4 x1) (cwV 1 hts gX0_init_X0_worth rfl rfl rfl (by decide +kernel) ⟨(Nat.le_of_ble_eq_true rfl), (Nat.le_of_ble_eq_true rfl)⟩) (pr_V (r := (RX0, TX0, 5)) hPc hKc hDc 0 0 rfl rfl) rfl rfl hl.1 rfl (lv_room (Nat.le_of_ble_eq_true rfl)) dX0_init_37 ⟨(Nat.le_of_ble_eq_true rfl), (Nat.le_of_ble_eq_true rfl)⟩) hS (fun q _ h => hFc q h) hFc (fun r_6 u t H locs ht hvm w_5 hB hz1 hk1 hS => ?_)
  obtain ⟨hP1, hK1, hD1⟩ := hB
  rw [ht] at hP1
  have hK1 := va_K.moved hvm.symm hK1
  obtain ⟨hP, hD⟩ := va_join (wr := []) (w1 := [(g1, .inr (0, [.int x1, .int (-1), .int 0, .ref g2, .ref q_1]))]) hP hD [0, 1, 2, 3] [] rfl rfl (by decide) (by decide) hk1 hFc hP1 hD1
  have hK := hK.app hK1
  have hP : va_P (dC, dI) vwCl [(g1, .inr (0, [.int x1, .int (-1), .int 0, .ref g2, .ref q_1]))] H := hP
  have hD : va_D A [(g1, .inr (0, [.int x1, .int (-1), .int 0, .ref g2, .ref q_1]))] := hD
  have hK : va_K (dC, dI) vwCl [(k2, .int), (k_2, .int), (k_4, .int)] s := hK
  clear hP1 hK1 hD1 hk1 hz1 hvm ht hPc hDc hKc hFc
  subst w_5
  refine va_putF (D := (dC, dI)) (ci := 0) (v := .int 0) (ty := .int) (C := RX0) (T := TX0) (N := 5) hx hb hts in_wsX0_init_X0 tyX0 tyX0_ok nmX0 hown hK hP hD hS 0 rfl rfl 2 (by decide) (hts (.fieldLink RX0 33 "ShipOffice$Act" "plainWorth" "I") (by decide +kernel)) (fun _ h9 => h9) rfl hin rfl (by decide +kernel) rfl rfl (Nat.le_of_ble_eq_true rfl) dX0_init_40 (fun H locs hP hD hS => ?_)
  have hP : va_P (dC, dI) vwCl [(g1, .inr (0, [.int x1, .int (-1), .int 0, .ref g2, .ref q_1]))] H := hP
  have hD : va_D A [(g1, .inr (0, [.int x1, .int (-1), .int 0, .ref g2, .ref q_1]))] := hD
  have hP9 := hP.sub (ws' := [(g1, .inr (0, [.int x1, .int (-1), .int 0, .ref g2, .ref q_1]))]) [0] rfl
  have hD9 := hD.sub (ws' := [(g1, .inr (0, [.int x1, .int (-1), .int 0, .ref g2, .ref q_1]))]) [0] (by decide) rfl
  have hK9 := hK.sub (tys' := []) [] rfl
  subst hAe
  exact W.vret hx hb hr (fun t ht hW => ⟨⟨q_1, rfl, trivial, ⟨by rw [ht]; exact hP9, va_K.moved hW.alike hK9, hD9⟩⟩, hS.F ht⟩) hS.2.2 dX0_init_43
set_option maxHeartbeats 4000000 in
set_option maxRecDepth 100000 in
theorem c_X0_init_100 (l : Launch) (dC : Nat → ClassId) (dI : Nat → Nat → Nat) (sz : Nat) (tL tS : Nat) (g1 g2 : Nat) (k2 : ClassId) (x1 : Int32) : Met l yX0_init wsX0_init ({ frames := 1, cells := 2, slots := 10, locals := 27 }) (va_Pc [.ref g1, .int x1, .int (-1), .ref g2] (pcS (dC, dI) [(k2, .int)] [(g1, .inr (0, [.int 0, .int 0, .int 0, .null, .null])), (g2, .inl (k2, 1, .inl (upd (fun _ => 0) (0 : Int32).toNatClampNeg 100)))] sz tL tS [(g1, .inr (0, [.int 0, .int 0, .int 0, .null, .null])), (g2, .inl (k2, 1, .inl (upd (fun _ => 0) (0 : Int32).toNatClampNeg 100)))])) (va_Qv (fun (u : Nat) => True) (fun u t => va_P (dC, dI) vwCl [(g1, .inr (0, [.int x1, .int (-1), .int 100, .ref g2, .ref u]))] t.heap ∧ va_K (dC, dI) vwCl [] t ∧ va_D (va_A [(g1, .inr (0, [.int 0, .int 0, .int 0, .null, .null])), (g2, .inl (k2, 1, .inl (upd (fun _ => 0) (0 : Int32).toNatClampNeg 100)))] sz) [(g1, .inr (0, [.int x1, .int (-1), .int 100, .ref g2, .ref u]))]) (va_A [(g1, .inr (0, [.int 0, .int 0, .int 0, .null, .null])), (g2, .inl (k2, 1, .inl (upd (fun _ => 0) (0 : Int32).toNatClampNeg 100)))] sz)) 2 10 (va_A [(g1, .inr (0, [.int 0, .int 0, .int 0, .null, .null])), (g2, .inl (k2, 1, .inl (upd (fun _ => 0) (0 : Int32).toNatClampNeg 100)))] sz) := by
  refine Met.ofW (cc := cX0_init) (maxL := 4) (ret := none) (by decide) rfl ?_
  intro p e s m args below meth c s₁ B hml hv
  obtain ⟨rfl, ⟨hsz, hP, hK, hD0⟩, hZ⟩ := hv
  have hx := B.exec
  have hb := B.bytes
  have hr := B.returns
  have hts := atoms_spec (ws := wsX0_init) B.pre
  have hown : s.vm.findClass RX0 = some m.cls := findClass_of_methodNamed B.named
  have hlocks := B.notSynchronized
  have hin : meth.name = "<init>" := (name_of_methodNamed B.named B.method).1
  subst hsz
  have hD := hD0.self (sz := s.heap.size)
  generalize hAe : va_A [(g1, .inr (0, [.int 0, .int 0, .int 0, .null, .null])), (g2, .inl (k2, 1, .inl (upd (fun _ => 0) (0 : Int32).toNatClampNeg 100)))] s.heap.size = A at hD hZ ⊢
  have hA : ∀ q : Nat, s.heap.size ≤ q → A q := fun q h => by rw [← hAe]; exact Or.inr h
  have hS : va_S A s.heap s.heap [] := va_S.rf
  have hP : va_P (dC, dI) vwCl [(g1, .inr (0, [.int 0, .int 0, .int 0, .null, .null])), (g2, .inl (k2, 1, .inl (upd (fun _ => 0) (0 : Int32).toNatClampNeg 100)))] s.heap := hP
  have hl := lv_entry ([.ref g1, .int x1, .int (-1), .ref g2]) (n := 4) (Nat.le_of_ble_eq_true rfl)
  rw [lg_entry_eq]
  generalize (lg_sl ([.ref g1, .int x1, .int (-1), .ref g2]) ++ List.replicate (4 - (lg_sl ([.ref g1, .int x1, .int (-1), .ref g2])).length) Slot.unset).toArray = ls at hl ⊢
  have hl : lv_has ls 4 [(0, .ref g1), (1, .int x1), (2, .int (-1)), (3, .ref g2)] := hl
  refine lv_aload_n hx hb dX0_init_0 rfl (lv_at hl 0 rfl) ?_
  refine W.objInit hx hb hown (hts (.methodLink RX0 1 objectInit) (by decide +kernel)) (hts (.instanceMethod objectInit) (by decide +kernel)) (hts (.code objectInit ⟨#[0xb1]⟩ 1 none) (in_obj_wsX0_init)) rfl (by rw [hml]; exact hl.1) rfl dX0_init_1 (Nat.le_of_ble_eq_true rfl) (Nat.le_of_ble_eq_true rfl) ?_
  refine W.eq (g2 := F0 m 4 ls []) rfl ?_
  refine lv_aload_n hx hb dX0_init_4 rfl (lv_at hl 0 rfl) ?_
  refine lv_iload_n hx hb dX0_init_5 rfl (lv_at hl 1 rfl) ?_
  refine va_putF (D := (dC, dI)) (ci := 0) (v := .int x1) (ty := .int) (C := RX0) (T := TX0) (N := 5) hx hb hts in_wsX0_init_X0 tyX0 tyX0_ok nmX0 hown hK hP hD hS 0 rfl rfl 0 (by decide) (hts (.fieldLink RX0 7 "ShipOffice$Act" "purpose" "I") (by decide +kernel)) (fun _ h9 => h9) rfl hin rfl (by decide +kernel) rfl rfl (Nat.le_of_ble_eq_true rfl) dX0_init_6 (fun H locs hP hD hS => ?_)
  have hP : va_P (dC, dI) vwCl [(g1, .inr (0, [.int x1, .int 0, .int 0, .null, .null])), (g2, .inl (k2, 1, .inl (upd (fun _ => 0) (0 : Int32).toNatClampNeg 100)))] H := hP
  have hD : va_D A [(g1, .inr (0, [.int x1, .int 0, .int 0, .null, .null])), (g2, .inl (k2, 1, .inl (upd (fun _ => 0) (0 : Int32).toNatClampNeg 100)))] := hD
  refine lv_aload_n hx hb dX0_init_9 rfl (lv_at hl 0 rfl) ?_
  refine lv_iload_n hx hb dX0_init_10 rfl (lv_at hl 2 rfl) ?_
  refine va_putF (D := (dC, dI)) (ci := 0) (v := .int (-1)) (ty := .int) (C := RX0) (T := TX0) (N := 5) hx hb hts in_wsX0_init_X0 tyX0 tyX0_ok nmX0 hown hK hP hD hS 0 rfl rfl 1 (by decide) (hts (.fieldLink RX0 13 "ShipOffice$Act" "day" "I") (by decide +kernel)) (fun _ h9 => h9) rfl hin rfl (by decide +kernel) rfl rfl (Nat.le_of_ble_eq_true rfl) dX0_init_11 (fun H locs hP hD hS => ?_)
  have hP : va_P (dC, dI) vwCl [(g1, .inr (0, [.int x1, .int (-1), .int 0, .null, .null])), (g2, .inl (k2, 1, .inl (upd (fun _ => 0) (0 : Int32).toNatClampNeg 100)))] H := hP
  have hD : va_D A [(g1, .inr (0, [.int x1, .int (-1), .int 0, .null, .null])), (g2, .inl (k2, 1, .inl (upd (fun _ => 0) (0 : Int32).toNatClampNeg 100)))] := hD
  refine lv_aload_n hx hb dX0_init_14 rfl (lv_at hl 0 rfl) ?_
  refine lv_aload_n hx hb dX0_init_15 rfl (lv_at hl 3 rfl) ?_
  refine va_putF (D := (dC, dI)) (ci := 0) (v := .ref g2) (ty := .array .int) (C := RX0) (T := TX0) (N := 5) hx hb hts in_wsX0_init_X0 tyX0 tyX0_ok nmX0 hown hK hP hD hS 0 rfl rfl 3 (by decide) (hts (.fieldLink RX0 16 "ShipOffice$Act" "code" "[I") (by decide +kernel)) (fun _ h9 => h9) rfl hin rfl (by decide +kernel) rfl rfl (Nat.le_of_ble_eq_true rfl) dX0_init_16 (fun H locs hP hD hS => ?_)
  have hP : va_P (dC, dI) vwCl [(g1, .inr (0, [.int x1, .int (-1), .int 0, .ref g2, .null])), (g2, .inl (k2, 1, .inl (upd (fun _ => 0) (0 : Int32).toNatClampNeg 100)))] H := hP
  have hD : va_D A [(g1, .inr (0, [.int x1, .int (-1), .int 0, .ref g2, .null])), (g2, .inl (k2, 1, .inl (upd (fun _ => 0) (0 : Int32).toNatClampNeg 100)))] := hD
  refine lv_aload_n hx hb dX0_init_19 rfl (lv_at hl 0 rfl) ?_
  refine lv_aload_n hx hb dX0_init_20 rfl (lv_at hl 3 rfl) ?_
  refine va_alen (v := 1) hx hb hK hP 1 0 rfl rfl (by decide) dX0_init_21 ?_
  refine lv_iconst (v := 1) hx hb dX0_init_22 (by decide) ?_
  refine lv_iadd hx hb dX0_init_23 ?_
  refine lv_topi (fun y ey => ?_)
  obtain rfl : y = 2 := ey.trans (by decide)
  refine va_newa (atype := .int) (ty := .int) (a0 := (2, .inl (fun _ => 0))) hx hb (hts (.arrayClass .int) (by decide +kernel)) rfl hK hP hD hS hA (fun _ => rfl) (by decide) (by decide) (by decide) (Nat.le_of_ble_eq_true rfl) (Nat.le_of_ble_eq_true rfl) dX0_init_24 (fun q_1 k_2 H hK hP hD hS => ?_)
  have hP : va_P (dC, dI) vwCl [(g1, .inr (0, [.int x1, .int (-1), .int 0, .ref g2, .null])), (g2, .inl (k2, 1, .inl (upd (fun _ => 0) (0 : Int32).toNatClampNeg 100))), (q_1, .inl (k_2, 2, .inl (fun _ => 0)))] H := hP
  have hD : va_D A [(g1, .inr (0, [.int x1, .int (-1), .int 0, .ref g2, .null])), (g2, .inl (k2, 1, .inl (upd (fun _ => 0) (0 : Int32).toNatClampNeg 100))), (q_1, .inl (k_2, 2, .inl (fun _ => 0)))] := hD
  have hK : va_K (dC, dI) vwCl [(k2, .int), (k_2, .int)] s := hK
  refine W.widen (k := 1) (n := 2) (Nat.le_of_ble_eq_true rfl) (Nat.le_of_ble_eq_true rfl) ?_
  refine va_putF (D := (dC, dI)) (ci := 0) (v := .ref q_1) (ty := .array .int) (C := RX0) (T := TX0) (N := 5) hx hb hts in_wsX0_init_X0 tyX0 tyX0_ok nmX0 hown hK hP hD hS 0 rfl rfl 4 (by decide) (hts (.fieldLink RX0 20 "ShipOffice$Act" "stack" "[I") (by decide +kernel)) (fun _ h9 => h9) rfl hin rfl (by decide +kernel) rfl rfl (Nat.le_of_ble_eq_true rfl) dX0_init_26 (fun H locs hP hD hS => ?_)
  have hP : va_P (dC, dI) vwCl [(g1, .inr (0, [.int x1, .int (-1), .int 0, .ref g2, .ref q_1])), (g2, .inl (k2, 1, .inl (upd (fun _ => 0) (0 : Int32).toNatClampNeg 100))), (q_1, .inl (k_2, 2, .inl (fun _ => 0)))] H := hP
  have hD : va_D A [(g1, .inr (0, [.int x1, .int (-1), .int 0, .ref g2, .ref q_1])), (g2, .inl (k2, 1, .inl (upd (fun _ => 0) (0 : Int32).toNatClampNeg 100))), (q_1, .inl (k_2, 2, .inl (fun _ => 0)))] := hD
  refine lv_aload_n hx hb dX0_init_29 rfl (lv_at hl 0 rfl) ?_
  refine lv_aload_n hx hb dX0_init_30 rfl (lv_at hl 0 rfl) ?_
  refine va_getsN hx hb hZ.1 hS hown (va_Nw.use rfl hZ.2.2.2.2.1) (fun _ h9 => h9) dX0_init_31 ?_
  refine va_tlen (v := 8) hx hb hZ.2.1 hS rfl dX0_init_34 ?_
  refine va_newa (atype := .int) (ty := .int) (a0 := (8, .inl (fun _ => 0))) hx hb (hts (.arrayClass .int) (by decide +kernel)) rfl hK hP hD hS hA (fun _ => rfl) (by decide) (by decide) (by decide) (Nat.le_of_ble_eq_true rfl) (Nat.le_of_ble_eq_true rfl) dX0_init_35 (fun q_3 k_4 H hK hP hD hS => ?_)
  have hP : va_P (dC, dI) vwCl [(g1, .inr (0, [.int x1, .int (-1), .int 0, .ref g2, .ref q_1])), (g2, .inl (k2, 1, .inl (upd (fun _ => 0) (0 : Int32).toNatClampNeg 100))), (q_1, .inl (k_2, 2, .inl (fun _ => 0))), (q_3, .inl (k_4, 8, .inl (fun _ => 0)))] H := hP
  have hD : va_D A [(g1, .inr (0, [.int x1, .int (-1), .int 0, .ref g2, .ref q_1])), (g2, .inl (k2, 1, .inl (upd (fun _ => 0) (0 : Int32).toNatClampNeg 100))), (q_1, .inl (k_2, 2, .inl (fun _ => 0))), (q_3, .inl (k_4, 8, .inl (fun _ => 0)))] := hD
  have hK : va_K (dC, dI) vwCl [(k2, .int), (k_2, .int), (k_4, .int)] s := hK
  refine W.widen (k := 2) (n := 10) (Nat.le_of_ble_eq_true rfl) (Nat.le_of_ble_eq_true rfl) ?_
  have hPc := hP.sub (ws' := [(g1, .inr (0, [.int x1, .int (-1), .int 0, .ref g2, .ref q_1])), (g2, .inl (k2, 1, .inl (upd (fun _ => 0) (0 : Int32).toNatClampNeg 100))), (q_1, .inl (k_2, 2, .inl (fun _ => 0))), (q_3, .inl (k_4, 8, .inl (fun _ => 0)))]) [0, 1, 2, 3] rfl
  have hDc := hD.sub (ws' := [(g1, .inr (0, [.int x1, .int (-1), .int 0, .ref g2, .ref q_1])), (g2, .inl (k2, 1, .inl (upd (fun _ => 0) (0 : Int32).toNatClampNeg 100))), (q_1, .inl (k_2, 2, .inl (fun _ => 0))), (q_3, .inl (k_4, 8, .inl (fun _ => 0)))]) [0, 1, 2, 3] (by decide) rfl
  have hKc := hK.sub (tys' := [(k2, .int), (k_2, .int), (k_4, .int)]) [0, 1, 2] rfl
  have hFc := va_free (wc := [(g1, .inr (0, [.int x1, .int (-1), .int 0, .ref g2, .ref q_1])), (g2, .inl (k2, 1, .inl (upd (fun _ => 0) (0 : Int32).toNatClampNeg 100))), (q_1, .inl (k_2, 2, .inl (fun _ => 0))), (q_3, .inl (k_4, 8, .inl (fun _ => 0)))]) hD hS hA [0, 1, 2, 3] rfl
  refine va_calli (va_runV (As := [.ref q_3]) (rest := [.ref g1]) ⟨hx, hb, hml, hown, hts⟩ (c_X0_worth_100 l dC dI H.size g1 g2 q_1 q_3 k2 k_2 k_4 x1) (cwV 1 hts gX0_init_X0_worth rfl rfl rfl (by decide +kernel) ⟨(Nat.le_of_ble_eq_true rfl), (Nat.le_of_ble_eq_true rfl)⟩) (pr_V (r := (RX0, TX0, 5)) hPc hKc hDc 0 0 rfl rfl) rfl rfl hl.1 rfl (lv_room (Nat.le_of_ble_eq_true rfl)) dX0_init_37 ⟨(Nat.le_of_ble_eq_true rfl), (Nat.le_of_ble_eq_true rfl)⟩) hS (fun q _ h => hFc q h) hFc (fun r_6 u t H locs ht hvm w_5 hB hz1 hk1 hS => ?_)
  obtain ⟨hP1, hK1, hD1⟩ := hB
  rw [ht] at hP1
  have hK1 := va_K.moved hvm.symm hK1
  obtain ⟨hP, hD⟩ := va_join (wr := []) (w1 := [(g1, .inr (0, [.int x1, .int (-1), .int 0, .ref g2, .ref q_1]))]) hP hD [0, 1, 2, 3] [] rfl rfl (by decide) (by decide) hk1 hFc hP1 hD1
  have hK := hK.app hK1
  have hP : va_P (dC, dI) vwCl [(g1, .inr (0, [.int x1, .int (-1), .int 0, .ref g2, .ref q_1]))] H := hP
  have hD : va_D A [(g1, .inr (0, [.int x1, .int (-1), .int 0, .ref g2, .ref q_1]))] := hD
  have hK : va_K (dC, dI) vwCl [(k2, .int), (k_2, .int), (k_4, .int)] s := hK
  clear hP1 hK1 hD1 hk1 hz1 hvm ht hPc hDc hKc hFc
  subst w_5
  refine va_putF (D := (dC, dI)) (ci := 0) (v := .int 100) (ty := .int) (C := RX0) (T := TX0) (N := 5) hx hb hts in_wsX0_init_X0 tyX0 tyX0_ok nmX0 hown hK hP hD hS 0 rfl rfl 2 (by decide) (hts (.fieldLink RX0 33 "ShipOffice$Act" "plainWorth" "I") (by decide +kernel)) (fun _ h9 => h9) rfl hin rfl (by decide +kernel) rfl rfl (Nat.le_of_ble_eq_true rfl) dX0_init_40 (fun H locs hP hD hS => ?_)
  have hP : va_P (dC, dI) vwCl [(g1, .inr (0, [.int x1, .int (-1), .int 100, .ref g2, .ref q_1]))] H := hP
  have hD : va_D A [(g1, .inr (0, [.int x1, .int (-1), .int 100, .ref g2, .ref q_1]))] := hD
  have hP9 := hP.sub (ws' := [(g1, .inr (0, [.int x1, .int (-1), .int 100, .ref g2, .ref q_1]))]) [0] rfl
  have hD9 := hD.sub (ws' := [(g1, .inr (0, [.int x1, .int (-1), .int 100, .ref g2, .ref q_1]))]) [0] (by decide) rfl
  have hK9 := hK.sub (tys' := []) [] rfl
  subst hAe
  exact W.vret hx hb hr (fun t ht hW => ⟨⟨q_1, rfl, trivial, ⟨by rw [ht]; exact hP9, va_K.moved hW.alike hK9, hD9⟩⟩, hS.F ht⟩) hS.2.2 dX0_init_43
set_option maxHeartbeats 4000000 in
set_option maxRecDepth 100000 in
theorem c_X0_init_50 (l : Launch) (dC : Nat → ClassId) (dI : Nat → Nat → Nat) (sz : Nat) (tL tS : Nat) (g1 g2 : Nat) (k2 : ClassId) (x1 : Int32) : Met l yX0_init wsX0_init ({ frames := 1, cells := 2, slots := 10, locals := 27 }) (va_Pc [.ref g1, .int x1, .int (-1), .ref g2] (pcS (dC, dI) [(k2, .int)] [(g1, .inr (0, [.int 0, .int 0, .int 0, .null, .null])), (g2, .inl (k2, 1, .inl (upd (fun _ => 0) (0 : Int32).toNatClampNeg 50)))] sz tL tS [(g1, .inr (0, [.int 0, .int 0, .int 0, .null, .null])), (g2, .inl (k2, 1, .inl (upd (fun _ => 0) (0 : Int32).toNatClampNeg 50)))])) (va_Qv (fun (u : Nat) => True) (fun u t => va_P (dC, dI) vwCl [(g1, .inr (0, [.int x1, .int (-1), .int 50, .ref g2, .ref u]))] t.heap ∧ va_K (dC, dI) vwCl [] t ∧ va_D (va_A [(g1, .inr (0, [.int 0, .int 0, .int 0, .null, .null])), (g2, .inl (k2, 1, .inl (upd (fun _ => 0) (0 : Int32).toNatClampNeg 50)))] sz) [(g1, .inr (0, [.int x1, .int (-1), .int 50, .ref g2, .ref u]))]) (va_A [(g1, .inr (0, [.int 0, .int 0, .int 0, .null, .null])), (g2, .inl (k2, 1, .inl (upd (fun _ => 0) (0 : Int32).toNatClampNeg 50)))] sz)) 2 10 (va_A [(g1, .inr (0, [.int 0, .int 0, .int 0, .null, .null])), (g2, .inl (k2, 1, .inl (upd (fun _ => 0) (0 : Int32).toNatClampNeg 50)))] sz) := by
  refine Met.ofW (cc := cX0_init) (maxL := 4) (ret := none) (by decide) rfl ?_
  intro p e s m args below meth c s₁ B hml hv
  obtain ⟨rfl, ⟨hsz, hP, hK, hD0⟩, hZ⟩ := hv
  have hx := B.exec
  have hb := B.bytes
  have hr := B.returns
  have hts := atoms_spec (ws := wsX0_init) B.pre
  have hown : s.vm.findClass RX0 = some m.cls := findClass_of_methodNamed B.named
  have hlocks := B.notSynchronized
  have hin : meth.name = "<init>" := (name_of_methodNamed B.named B.method).1
  subst hsz
  have hD := hD0.self (sz := s.heap.size)
  generalize hAe : va_A [(g1, .inr (0, [.int 0, .int 0, .int 0, .null, .null])), (g2, .inl (k2, 1, .inl (upd (fun _ => 0) (0 : Int32).toNatClampNeg 50)))] s.heap.size = A at hD hZ ⊢
  have hA : ∀ q : Nat, s.heap.size ≤ q → A q := fun q h => by rw [← hAe]; exact Or.inr h
  have hS : va_S A s.heap s.heap [] := va_S.rf
  have hP : va_P (dC, dI) vwCl [(g1, .inr (0, [.int 0, .int 0, .int 0, .null, .null])), (g2, .inl (k2, 1, .inl (upd (fun _ => 0) (0 : Int32).toNatClampNeg 50)))] s.heap := hP
  have hl := lv_entry ([.ref g1, .int x1, .int (-1), .ref g2]) (n := 4) (Nat.le_of_ble_eq_true rfl)
  rw [lg_entry_eq]
  generalize (lg_sl ([.ref g1, .int x1, .int (-1), .ref g2]) ++ List.replicate (4 - (lg_sl ([.ref g1, .int x1, .int (-1), .ref g2])).length) Slot.unset).toArray = ls at hl ⊢
  have hl : lv_has ls 4 [(0, .ref g1), (1, .int x1), (2, .int (-1)), (3, .ref g2)] := hl
  refine lv_aload_n hx hb dX0_init_0 rfl (lv_at hl 0 rfl) ?_
  refine W.objInit hx hb hown (hts (.methodLink RX0 1 objectInit) (by decide +kernel)) (hts (.instanceMethod objectInit) (by decide +kernel)) (hts (.code objectInit ⟨#[0xb1]⟩ 1 none) (in_obj_wsX0_init)) rfl (by rw [hml]; exact hl.1) rfl dX0_init_1 (Nat.le_of_ble_eq_true rfl) (Nat.le_of_ble_eq_true rfl) ?_
  refine W.eq (g2 := F0 m 4 ls []) rfl ?_
  refine lv_aload_n hx hb dX0_init_4 rfl (lv_at hl 0 rfl) ?_
  refine lv_iload_n hx hb dX0_init_5 rfl (lv_at hl 1 rfl) ?_
  refine va_putF (D := (dC, dI)) (ci := 0) (v := .int x1) (ty := .int) (C := RX0) (T := TX0) (N := 5) hx hb hts in_wsX0_init_X0 tyX0 tyX0_ok nmX0 hown hK hP hD hS 0 rfl rfl 0 (by decide) (hts (.fieldLink RX0 7 "ShipOffice$Act" "purpose" "I") (by decide +kernel)) (fun _ h9 => h9) rfl hin rfl (by decide +kernel) rfl rfl (Nat.le_of_ble_eq_true rfl) dX0_init_6 (fun H locs hP hD hS => ?_)
  have hP : va_P (dC, dI) vwCl [(g1, .inr (0, [.int x1, .int 0, .int 0, .null, .null])), (g2, .inl (k2, 1, .inl (upd (fun _ => 0) (0 : Int32).toNatClampNeg 50)))] H := hP
  have hD : va_D A [(g1, .inr (0, [.int x1, .int 0, .int 0, .null, .null])), (g2, .inl (k2, 1, .inl (upd (fun _ => 0) (0 : Int32).toNatClampNeg 50)))] := hD
  refine lv_aload_n hx hb dX0_init_9 rfl (lv_at hl 0 rfl) ?_
  refine lv_iload_n hx hb dX0_init_10 rfl (lv_at hl 2 rfl) ?_
  refine va_putF (D := (dC, dI)) (ci := 0) (v := .int (-1)) (ty := .int) (C := RX0) (T := TX0) (N := 5) hx hb hts in_wsX0_init_X0 tyX0 tyX0_ok nmX0 hown hK hP hD hS 0 rfl rfl 1 (by decide) (hts (.fieldLink RX0 13 "ShipOffice$Act" "day" "I") (by decide +kernel)) (fun _ h9 => h9) rfl hin rfl (by decide +kernel) rfl rfl (Nat.le_of_ble_eq_true rfl) dX0_init_11 (fun H locs hP hD hS => ?_)
  have hP : va_P (dC, dI) vwCl [(g1, .inr (0, [.int x1, .int (-1), .int 0, .null, .null])), (g2, .inl (k2, 1, .inl (upd (fun _ => 0) (0 : Int32).toNatClampNeg 50)))] H := hP
  have hD : va_D A [(g1, .inr (0, [.int x1, .int (-1), .int 0, .null, .null])), (g2, .inl (k2, 1, .inl (upd (fun _ => 0) (0 : Int32).toNatClampNeg 50)))] := hD
  refine lv_aload_n hx hb dX0_init_14 rfl (lv_at hl 0 rfl) ?_
  refine lv_aload_n hx hb dX0_init_15 rfl (lv_at hl 3 rfl) ?_
  refine va_putF (D := (dC, dI)) (ci := 0) (v := .ref g2) (ty := .array .int) (C := RX0) (T := TX0) (N := 5) hx hb hts in_wsX0_init_X0 tyX0 tyX0_ok nmX0 hown hK hP hD hS 0 rfl rfl 3 (by decide) (hts (.fieldLink RX0 16 "ShipOffice$Act" "code" "[I") (by decide +kernel)) (fun _ h9 => h9) rfl hin rfl (by decide +kernel) rfl rfl (Nat.le_of_ble_eq_true rfl) dX0_init_16 (fun H locs hP hD hS => ?_)
  have hP : va_P (dC, dI) vwCl [(g1, .inr (0, [.int x1, .int (-1), .int 0, .ref g2, .null])), (g2, .inl (k2, 1, .inl (upd (fun _ => 0) (0 : Int32).toNatClampNeg 50)))] H := hP
  have hD : va_D A [(g1, .inr (0, [.int x1, .int (-1), .int 0, .ref g2, .null])), (g2, .inl (k2, 1, .inl (upd (fun _ => 0) (0 : Int32).toNatClampNeg 50)))] := hD
  refine lv_aload_n hx hb dX0_init_19 rfl (lv_at hl 0 rfl) ?_
  refine lv_aload_n hx hb dX0_init_20 rfl (lv_at hl 3 rfl) ?_
  refine va_alen (v := 1) hx hb hK hP 1 0 rfl rfl (by decide) dX0_init_21 ?_
  refine lv_iconst (v := 1) hx hb dX0_init_22 (by decide) ?_
  refine lv_iadd hx hb dX0_init_23 ?_
  refine lv_topi (fun y ey => ?_)
  obtain rfl : y = 2 := ey.trans (by decide)
  refine va_newa (atype := .int) (ty := .int) (a0 := (2, .inl (fun _ => 0))) hx hb (hts (.arrayClass .int) (by decide +kernel)) rfl hK hP hD hS hA (fun _ => rfl) (by decide) (by decide) (by decide) (Nat.le_of_ble_eq_true rfl) (Nat.le_of_ble_eq_true rfl) dX0_init_24 (fun q_1 k_2 H hK hP hD hS => ?_)
  have hP : va_P (dC, dI) vwCl [(g1, .inr (0, [.int x1, .int (-1), .int 0, .ref g2, .null])), (g2, .inl (k2, 1, .inl (upd (fun _ => 0) (0 : Int32).toNatClampNeg 50))), (q_1, .inl (k_2, 2, .inl (fun _ => 0)))] H := hP
  have hD : va_D A [(g1, .inr (0, [.int x1, .int (-1), .int 0, .ref g2, .null])), (g2, .inl (k2, 1, .inl (upd (fun _ => 0) (0 : Int32).toNatClampNeg 50))), (q_1, .inl (k_2, 2, .inl (fun _ => 0)))] := hD
  have hK : va_K (dC, dI) vwCl [(k2, .int), (k_2, .int)] s := hK
  refine W.widen (k := 1) (n := 2) (Nat.le_of_ble_eq_true rfl) (Nat.le_of_ble_eq_true rfl) ?_
  refine va_putF (D := (dC, dI)) (ci := 0) (v := .ref q_1) (ty := .array .int) (C := RX0) (T := TX0) (N := 5) hx hb hts in_wsX0_init_X0 tyX0 tyX0_ok nmX0 hown hK hP hD hS 0 rfl rfl 4 (by decide) (hts (.fieldLink RX0 20 "ShipOffice$Act" "stack" "[I") (by decide +kernel)) (fun _ h9 => h9) rfl hin rfl (by decide +kernel) rfl rfl (Nat.le_of_ble_eq_true rfl) dX0_init_26 (fun H locs hP hD hS => ?_)
  have hP : va_P (dC, dI) vwCl [(g1, .inr (0, [.int x1, .int (-1), .int 0, .ref g2, .ref q_1])), (g2, .inl (k2, 1, .inl (upd (fun _ => 0) (0 : Int32).toNatClampNeg 50))), (q_1, .inl (k_2, 2, .inl (fun _ => 0)))] H := hP
  have hD : va_D A [(g1, .inr (0, [.int x1, .int (-1), .int 0, .ref g2, .ref q_1])), (g2, .inl (k2, 1, .inl (upd (fun _ => 0) (0 : Int32).toNatClampNeg 50))), (q_1, .inl (k_2, 2, .inl (fun _ => 0)))] := hD
  refine lv_aload_n hx hb dX0_init_29 rfl (lv_at hl 0 rfl) ?_
  refine lv_aload_n hx hb dX0_init_30 rfl (lv_at hl 0 rfl) ?_
  refine va_getsN hx hb hZ.1 hS hown (va_Nw.use rfl hZ.2.2.2.2.1) (fun _ h9 => h9) dX0_init_31 ?_
  refine va_tlen (v := 8) hx hb hZ.2.1 hS rfl dX0_init_34 ?_
  refine va_newa (atype := .int) (ty := .int) (a0 := (8, .inl (fun _ => 0))) hx hb (hts (.arrayClass .int) (by decide +kernel)) rfl hK hP hD hS hA (fun _ => rfl) (by decide) (by decide) (by decide) (Nat.le_of_ble_eq_true rfl) (Nat.le_of_ble_eq_true rfl) dX0_init_35 (fun q_3 k_4 H hK hP hD hS => ?_)
  have hP : va_P (dC, dI) vwCl [(g1, .inr (0, [.int x1, .int (-1), .int 0, .ref g2, .ref q_1])), (g2, .inl (k2, 1, .inl (upd (fun _ => 0) (0 : Int32).toNatClampNeg 50))), (q_1, .inl (k_2, 2, .inl (fun _ => 0))), (q_3, .inl (k_4, 8, .inl (fun _ => 0)))] H := hP
  have hD : va_D A [(g1, .inr (0, [.int x1, .int (-1), .int 0, .ref g2, .ref q_1])), (g2, .inl (k2, 1, .inl (upd (fun _ => 0) (0 : Int32).toNatClampNeg 50))), (q_1, .inl (k_2, 2, .inl (fun _ => 0))), (q_3, .inl (k_4, 8, .inl (fun _ => 0)))] := hD
  have hK : va_K (dC, dI) vwCl [(k2, .int), (k_2, .int), (k_4, .int)] s := hK
  refine W.widen (k := 2) (n := 10) (Nat.le_of_ble_eq_true rfl) (Nat.le_of_ble_eq_true rfl) ?_
  have hPc := hP.sub (ws' := [(g1, .inr (0, [.int x1, .int (-1), .int 0, .ref g2, .ref q_1])), (g2, .inl (k2, 1, .inl (upd (fun _ => 0) (0 : Int32).toNatClampNeg 50))), (q_1, .inl (k_2, 2, .inl (fun _ => 0))), (q_3, .inl (k_4, 8, .inl (fun _ => 0)))]) [0, 1, 2, 3] rfl
  have hDc := hD.sub (ws' := [(g1, .inr (0, [.int x1, .int (-1), .int 0, .ref g2, .ref q_1])), (g2, .inl (k2, 1, .inl (upd (fun _ => 0) (0 : Int32).toNatClampNeg 50))), (q_1, .inl (k_2, 2, .inl (fun _ => 0))), (q_3, .inl (k_4, 8, .inl (fun _ => 0)))]) [0, 1, 2, 3] (by decide) rfl
  have hKc := hK.sub (tys' := [(k2, .int), (k_2, .int), (k_4, .int)]) [0, 1, 2] rfl
  have hFc := va_free (wc := [(g1, .inr (0, [.int x1, .int (-1), .int 0, .ref g2, .ref q_1])), (g2, .inl (k2, 1, .inl (upd (fun _ => 0) (0 : Int32).toNatClampNeg 50))), (q_1, .inl (k_2, 2, .inl (fun _ => 0))), (q_3, .inl (k_4, 8, .inl (fun _ => 0)))]) hD hS hA [0, 1, 2, 3] rfl
  refine va_calli (va_runV (As := [.ref q_3]) (rest := [.ref g1]) ⟨hx, hb, hml, hown, hts⟩ (c_X0_worth_50 l dC dI H.size g1 g2 q_1 q_3 k2 k_2 k_4 x1) (cwV 1 hts gX0_init_X0_worth rfl rfl rfl (by decide +kernel) ⟨(Nat.le_of_ble_eq_true rfl), (Nat.le_of_ble_eq_true rfl)⟩) (pr_V (r := (RX0, TX0, 5)) hPc hKc hDc 0 0 rfl rfl) rfl rfl hl.1 rfl (lv_room (Nat.le_of_ble_eq_true rfl)) dX0_init_37 ⟨(Nat.le_of_ble_eq_true rfl), (Nat.le_of_ble_eq_true rfl)⟩) hS (fun q _ h => hFc q h) hFc (fun r_6 u t H locs ht hvm w_5 hB hz1 hk1 hS => ?_)
  obtain ⟨hP1, hK1, hD1⟩ := hB
  rw [ht] at hP1
  have hK1 := va_K.moved hvm.symm hK1
  obtain ⟨hP, hD⟩ := va_join (wr := []) (w1 := [(g1, .inr (0, [.int x1, .int (-1), .int 0, .ref g2, .ref q_1]))]) hP hD [0, 1, 2, 3] [] rfl rfl (by decide) (by decide) hk1 hFc hP1 hD1
  have hK := hK.app hK1
  have hP : va_P (dC, dI) vwCl [(g1, .inr (0, [.int x1, .int (-1), .int 0, .ref g2, .ref q_1]))] H := hP
  have hD : va_D A [(g1, .inr (0, [.int x1, .int (-1), .int 0, .ref g2, .ref q_1]))] := hD
  have hK : va_K (dC, dI) vwCl [(k2, .int), (k_2, .int), (k_4, .int)] s := hK
  clear hP1 hK1 hD1 hk1 hz1 hvm ht hPc hDc hKc hFc
  subst w_5
  refine va_putF (D := (dC, dI)) (ci := 0) (v := .int 50) (ty := .int) (C := RX0) (T := TX0) (N := 5) hx hb hts in_wsX0_init_X0 tyX0 tyX0_ok nmX0 hown hK hP hD hS 0 rfl rfl 2 (by decide) (hts (.fieldLink RX0 33 "ShipOffice$Act" "plainWorth" "I") (by decide +kernel)) (fun _ h9 => h9) rfl hin rfl (by decide +kernel) rfl rfl (Nat.le_of_ble_eq_true rfl) dX0_init_40 (fun H locs hP hD hS => ?_)
  have hP : va_P (dC, dI) vwCl [(g1, .inr (0, [.int x1, .int (-1), .int 50, .ref g2, .ref q_1]))] H := hP
  have hD : va_D A [(g1, .inr (0, [.int x1, .int (-1), .int 50, .ref g2, .ref q_1]))] := hD
  have hP9 := hP.sub (ws' := [(g1, .inr (0, [.int x1, .int (-1), .int 50, .ref g2, .ref q_1]))]) [0] rfl
  have hD9 := hD.sub (ws' := [(g1, .inr (0, [.int x1, .int (-1), .int 50, .ref g2, .ref q_1]))]) [0] (by decide) rfl
  have hK9 := hK.sub (tys' := []) [] rfl
  subst hAe
  exact W.vret hx hb hr (fun t ht hW => ⟨⟨q_1, rfl, trivial, ⟨by rw [ht]; exact hP9, va_K.moved hW.alike hK9, hD9⟩⟩, hS.F ht⟩) hS.2.2 dX0_init_43
set_option maxHeartbeats 4000000 in
set_option maxRecDepth 100000 in
theorem c_X0_init_90 (l : Launch) (dC : Nat → ClassId) (dI : Nat → Nat → Nat) (sz : Nat) (tL tS : Nat) (g1 g2 : Nat) (k2 : ClassId) (x1 : Int32) : Met l yX0_init wsX0_init ({ frames := 1, cells := 2, slots := 10, locals := 27 }) (va_Pc [.ref g1, .int x1, .int (-1), .ref g2] (pcS (dC, dI) [(k2, .int)] [(g1, .inr (0, [.int 0, .int 0, .int 0, .null, .null])), (g2, .inl (k2, 1, .inl (upd (fun _ => 0) (0 : Int32).toNatClampNeg 90)))] sz tL tS [(g1, .inr (0, [.int 0, .int 0, .int 0, .null, .null])), (g2, .inl (k2, 1, .inl (upd (fun _ => 0) (0 : Int32).toNatClampNeg 90)))])) (va_Qv (fun (u : Nat) => True) (fun u t => va_P (dC, dI) vwCl [(g1, .inr (0, [.int x1, .int (-1), .int 90, .ref g2, .ref u]))] t.heap ∧ va_K (dC, dI) vwCl [] t ∧ va_D (va_A [(g1, .inr (0, [.int 0, .int 0, .int 0, .null, .null])), (g2, .inl (k2, 1, .inl (upd (fun _ => 0) (0 : Int32).toNatClampNeg 90)))] sz) [(g1, .inr (0, [.int x1, .int (-1), .int 90, .ref g2, .ref u]))]) (va_A [(g1, .inr (0, [.int 0, .int 0, .int 0, .null, .null])), (g2, .inl (k2, 1, .inl (upd (fun _ => 0) (0 : Int32).toNatClampNeg 90)))] sz)) 2 10 (va_A [(g1, .inr (0, [.int 0, .int 0, .int 0, .null, .null])), (g2, .inl (k2, 1, .inl (upd (fun _ => 0) (0 : Int32).toNatClampNeg 90)))] sz) := by
  refine Met.ofW (cc := cX0_init) (maxL := 4) (ret := none) (by decide) rfl ?_
  intro p e s m args below meth c s₁ B hml hv
  obtain ⟨rfl, ⟨hsz, hP, hK, hD0⟩, hZ⟩ := hv
  have hx := B.exec
  have hb := B.bytes
  have hr := B.returns
  have hts := atoms_spec (ws := wsX0_init) B.pre
  have hown : s.vm.findClass RX0 = some m.cls := findClass_of_methodNamed B.named
  have hlocks := B.notSynchronized
  have hin : meth.name = "<init>" := (name_of_methodNamed B.named B.method).1
  subst hsz
  have hD := hD0.self (sz := s.heap.size)
  generalize hAe : va_A [(g1, .inr (0, [.int 0, .int 0, .int 0, .null, .null])), (g2, .inl (k2, 1, .inl (upd (fun _ => 0) (0 : Int32).toNatClampNeg 90)))] s.heap.size = A at hD hZ ⊢
  have hA : ∀ q : Nat, s.heap.size ≤ q → A q := fun q h => by rw [← hAe]; exact Or.inr h
  have hS : va_S A s.heap s.heap [] := va_S.rf
  have hP : va_P (dC, dI) vwCl [(g1, .inr (0, [.int 0, .int 0, .int 0, .null, .null])), (g2, .inl (k2, 1, .inl (upd (fun _ => 0) (0 : Int32).toNatClampNeg 90)))] s.heap := hP
  have hl := lv_entry ([.ref g1, .int x1, .int (-1), .ref g2]) (n := 4) (Nat.le_of_ble_eq_true rfl)
  rw [lg_entry_eq]
  generalize (lg_sl ([.ref g1, .int x1, .int (-1), .ref g2]) ++ List.replicate (4 - (lg_sl ([.ref g1, .int x1, .int (-1), .ref g2])).length) Slot.unset).toArray = ls at hl ⊢
  have hl : lv_has ls 4 [(0, .ref g1), (1, .int x1), (2, .int (-1)), (3, .ref g2)] := hl
  refine lv_aload_n hx hb dX0_init_0 rfl (lv_at hl 0 rfl) ?_
  refine W.objInit hx hb hown (hts (.methodLink RX0 1 objectInit) (by decide +kernel)) (hts (.instanceMethod objectInit) (by decide +kernel)) (hts (.code objectInit ⟨#[0xb1]⟩ 1 none) (in_obj_wsX0_init)) rfl (by rw [hml]; exact hl.1) rfl dX0_init_1 (Nat.le_of_ble_eq_true rfl) (Nat.le_of_ble_eq_true rfl) ?_
  refine W.eq (g2 := F0 m 4 ls []) rfl ?_
  refine lv_aload_n hx hb dX0_init_4 rfl (lv_at hl 0 rfl) ?_
  refine lv_iload_n hx hb dX0_init_5 rfl (lv_at hl 1 rfl) ?_
  refine va_putF (D := (dC, dI)) (ci := 0) (v := .int x1) (ty := .int) (C := RX0) (T := TX0) (N := 5) hx hb hts in_wsX0_init_X0 tyX0 tyX0_ok nmX0 hown hK hP hD hS 0 rfl rfl 0 (by decide) (hts (.fieldLink RX0 7 "ShipOffice$Act" "purpose" "I") (by decide +kernel)) (fun _ h9 => h9) rfl hin rfl (by decide +kernel) rfl rfl (Nat.le_of_ble_eq_true rfl) dX0_init_6 (fun H locs hP hD hS => ?_)
  have hP : va_P (dC, dI) vwCl [(g1, .inr (0, [.int x1, .int 0, .int 0, .null, .null])), (g2, .inl (k2, 1, .inl (upd (fun _ => 0) (0 : Int32).toNatClampNeg 90)))] H := hP
  have hD : va_D A [(g1, .inr (0, [.int x1, .int 0, .int 0, .null, .null])), (g2, .inl (k2, 1, .inl (upd (fun _ => 0) (0 : Int32).toNatClampNeg 90)))] := hD
  refine lv_aload_n hx hb dX0_init_9 rfl (lv_at hl 0 rfl) ?_
  refine lv_iload_n hx hb dX0_init_10 rfl (lv_at hl 2 rfl) ?_
  refine va_putF (D := (dC, dI)) (ci := 0) (v := .int (-1)) (ty := .int) (C := RX0) (T := TX0) (N := 5) hx hb hts in_wsX0_init_X0 tyX0 tyX0_ok nmX0 hown hK hP hD hS 0 rfl rfl 1 (by decide) (hts (.fieldLink RX0 13 "ShipOffice$Act" "day" "I") (by decide +kernel)) (fun _ h9 => h9) rfl hin rfl (by decide +kernel) rfl rfl (Nat.le_of_ble_eq_true rfl) dX0_init_11 (fun H locs hP hD hS => ?_)
  have hP : va_P (dC, dI) vwCl [(g1, .inr (0, [.int x1, .int (-1), .int 0, .null, .null])), (g2, .inl (k2, 1, .inl (upd (fun _ => 0) (0 : Int32).toNatClampNeg 90)))] H := hP
  have hD : va_D A [(g1, .inr (0, [.int x1, .int (-1), .int 0, .null, .null])), (g2, .inl (k2, 1, .inl (upd (fun _ => 0) (0 : Int32).toNatClampNeg 90)))] := hD
  refine lv_aload_n hx hb dX0_init_14 rfl (lv_at hl 0 rfl) ?_
  refine lv_aload_n hx hb dX0_init_15 rfl (lv_at hl 3 rfl) ?_
  refine va_putF (D := (dC, dI)) (ci := 0) (v := .ref g2) (ty := .array .int) (C := RX0) (T := TX0) (N := 5) hx hb hts in_wsX0_init_X0 tyX0 tyX0_ok nmX0 hown hK hP hD hS 0 rfl rfl 3 (by decide) (hts (.fieldLink RX0 16 "ShipOffice$Act" "code" "[I") (by decide +kernel)) (fun _ h9 => h9) rfl hin rfl (by decide +kernel) rfl rfl (Nat.le_of_ble_eq_true rfl) dX0_init_16 (fun H locs hP hD hS => ?_)
  have hP : va_P (dC, dI) vwCl [(g1, .inr (0, [.int x1, .int (-1), .int 0, .ref g2, .null])), (g2, .inl (k2, 1, .inl (upd (fun _ => 0) (0 : Int32).toNatClampNeg 90)))] H := hP
  have hD : va_D A [(g1, .inr (0, [.int x1, .int (-1), .int 0, .ref g2, .null])), (g2, .inl (k2, 1, .inl (upd (fun _ => 0) (0 : Int32).toNatClampNeg 90)))] := hD
  refine lv_aload_n hx hb dX0_init_19 rfl (lv_at hl 0 rfl) ?_
  refine lv_aload_n hx hb dX0_init_20 rfl (lv_at hl 3 rfl) ?_
  refine va_alen (v := 1) hx hb hK hP 1 0 rfl rfl (by decide) dX0_init_21 ?_
  refine lv_iconst (v := 1) hx hb dX0_init_22 (by decide) ?_
  refine lv_iadd hx hb dX0_init_23 ?_
  refine lv_topi (fun y ey => ?_)
  obtain rfl : y = 2 := ey.trans (by decide)
  refine va_newa (atype := .int) (ty := .int) (a0 := (2, .inl (fun _ => 0))) hx hb (hts (.arrayClass .int) (by decide +kernel)) rfl hK hP hD hS hA (fun _ => rfl) (by decide) (by decide) (by decide) (Nat.le_of_ble_eq_true rfl) (Nat.le_of_ble_eq_true rfl) dX0_init_24 (fun q_1 k_2 H hK hP hD hS => ?_)
  have hP : va_P (dC, dI) vwCl [(g1, .inr (0, [.int x1, .int (-1), .int 0, .ref g2, .null])), (g2, .inl (k2, 1, .inl (upd (fun _ => 0) (0 : Int32).toNatClampNeg 90))), (q_1, .inl (k_2, 2, .inl (fun _ => 0)))] H := hP
  have hD : va_D A [(g1, .inr (0, [.int x1, .int (-1), .int 0, .ref g2, .null])), (g2, .inl (k2, 1, .inl (upd (fun _ => 0) (0 : Int32).toNatClampNeg 90))), (q_1, .inl (k_2, 2, .inl (fun _ => 0)))] := hD
  have hK : va_K (dC, dI) vwCl [(k2, .int), (k_2, .int)] s := hK
  refine W.widen (k := 1) (n := 2) (Nat.le_of_ble_eq_true rfl) (Nat.le_of_ble_eq_true rfl) ?_
  refine va_putF (D := (dC, dI)) (ci := 0) (v := .ref q_1) (ty := .array .int) (C := RX0) (T := TX0) (N := 5) hx hb hts in_wsX0_init_X0 tyX0 tyX0_ok nmX0 hown hK hP hD hS 0 rfl rfl 4 (by decide) (hts (.fieldLink RX0 20 "ShipOffice$Act" "stack" "[I") (by decide +kernel)) (fun _ h9 => h9) rfl hin rfl (by decide +kernel) rfl rfl (Nat.le_of_ble_eq_true rfl) dX0_init_26 (fun H locs hP hD hS => ?_)
  have hP : va_P (dC, dI) vwCl [(g1, .inr (0, [.int x1, .int (-1), .int 0, .ref g2, .ref q_1])), (g2, .inl (k2, 1, .inl (upd (fun _ => 0) (0 : Int32).toNatClampNeg 90))), (q_1, .inl (k_2, 2, .inl (fun _ => 0)))] H := hP
  have hD : va_D A [(g1, .inr (0, [.int x1, .int (-1), .int 0, .ref g2, .ref q_1])), (g2, .inl (k2, 1, .inl (upd (fun _ => 0) (0 : Int32).toNatClampNeg 90))), (q_1, .inl (k_2, 2, .inl (fun _ => 0)))] := hD
  refine lv_aload_n hx hb dX0_init_29 rfl (lv_at hl 0 rfl) ?_
  refine lv_aload_n hx hb dX0_init_30 rfl (lv_at hl 0 rfl) ?_
  refine va_getsN hx hb hZ.1 hS hown (va_Nw.use rfl hZ.2.2.2.2.1) (fun _ h9 => h9) dX0_init_31 ?_
  refine va_tlen (v := 8) hx hb hZ.2.1 hS rfl dX0_init_34 ?_
  refine va_newa (atype := .int) (ty := .int) (a0 := (8, .inl (fun _ => 0))) hx hb (hts (.arrayClass .int) (by decide +kernel)) rfl hK hP hD hS hA (fun _ => rfl) (by decide) (by decide) (by decide) (Nat.le_of_ble_eq_true rfl) (Nat.le_of_ble_eq_true rfl) dX0_init_35 (fun q_3 k_4 H hK hP hD hS => ?_)
  have hP : va_P (dC, dI) vwCl [(g1, .inr (0, [.int x1, .int (-1), .int 0, .ref g2, .ref q_1])), (g2, .inl (k2, 1, .inl (upd (fun _ => 0) (0 : Int32).toNatClampNeg 90))), (q_1, .inl (k_2, 2, .inl (fun _ => 0))), (q_3, .inl (k_4, 8, .inl (fun _ => 0)))] H := hP
  have hD : va_D A [(g1, .inr (0, [.int x1, .int (-1), .int 0, .ref g2, .ref q_1])), (g2, .inl (k2, 1, .inl (upd (fun _ => 0) (0 : Int32).toNatClampNeg 90))), (q_1, .inl (k_2, 2, .inl (fun _ => 0))), (q_3, .inl (k_4, 8, .inl (fun _ => 0)))] := hD
  have hK : va_K (dC, dI) vwCl [(k2, .int), (k_2, .int), (k_4, .int)] s := hK
  refine W.widen (k := 2) (n := 10) (Nat.le_of_ble_eq_true rfl) (Nat.le_of_ble_eq_true rfl) ?_
  have hPc := hP.sub (ws' := [(g1, .inr (0, [.int x1, .int (-1), .int 0, .ref g2, .ref q_1])), (g2, .inl (k2, 1, .inl (upd (fun _ => 0) (0 : Int32).toNatClampNeg 90))), (q_1, .inl (k_2, 2, .inl (fun _ => 0))), (q_3, .inl (k_4, 8, .inl (fun _ => 0)))]) [0, 1, 2, 3] rfl
  have hDc := hD.sub (ws' := [(g1, .inr (0, [.int x1, .int (-1), .int 0, .ref g2, .ref q_1])), (g2, .inl (k2, 1, .inl (upd (fun _ => 0) (0 : Int32).toNatClampNeg 90))), (q_1, .inl (k_2, 2, .inl (fun _ => 0))), (q_3, .inl (k_4, 8, .inl (fun _ => 0)))]) [0, 1, 2, 3] (by decide) rfl
  have hKc := hK.sub (tys' := [(k2, .int), (k_2, .int), (k_4, .int)]) [0, 1, 2] rfl
  have hFc := va_free (wc := [(g1, .inr (0, [.int x1, .int (-1), .int 0, .ref g2, .ref q_1])), (g2, .inl (k2, 1, .inl (upd (fun _ => 0) (0 : Int32).toNatClampNeg 90))), (q_1, .inl (k_2, 2, .inl (fun _ => 0))), (q_3, .inl (k_4, 8, .inl (fun _ => 0)))]) hD hS hA [0, 1, 2, 3] rfl
  refine va_calli (va_runV (As := [.ref q_3]) (rest := [.ref g1]) ⟨hx, hb, hml, hown, hts⟩ (c_X0_worth_90 l dC dI H.size g1 g2 q_1 q_3 k2 k_2 k_4 x1) (cwV 1 hts gX0_init_X0_worth rfl rfl rfl (by decide +kernel) ⟨(Nat.le_of_ble_eq_true rfl), (Nat.le_of_ble_eq_true rfl)⟩) (pr_V (r := (RX0, TX0, 5)) hPc hKc hDc 0 0 rfl rfl) rfl rfl hl.1 rfl (lv_room (Nat.le_of_ble_eq_true rfl)) dX0_init_37 ⟨(Nat.le_of_ble_eq_true rfl), (Nat.le_of_ble_eq_true rfl)⟩) hS (fun q _ h => hFc q h) hFc (fun r_6 u t H locs ht hvm w_5 hB hz1 hk1 hS => ?_)
  obtain ⟨hP1, hK1, hD1⟩ := hB
  rw [ht] at hP1
  have hK1 := va_K.moved hvm.symm hK1
  obtain ⟨hP, hD⟩ := va_join (wr := []) (w1 := [(g1, .inr (0, [.int x1, .int (-1), .int 0, .ref g2, .ref q_1]))]) hP hD [0, 1, 2, 3] [] rfl rfl (by decide) (by decide) hk1 hFc hP1 hD1
  have hK := hK.app hK1
  have hP : va_P (dC, dI) vwCl [(g1, .inr (0, [.int x1, .int (-1), .int 0, .ref g2, .ref q_1]))] H := hP
  have hD : va_D A [(g1, .inr (0, [.int x1, .int (-1), .int 0, .ref g2, .ref q_1]))] := hD
  have hK : va_K (dC, dI) vwCl [(k2, .int), (k_2, .int), (k_4, .int)] s := hK
  clear hP1 hK1 hD1 hk1 hz1 hvm ht hPc hDc hKc hFc
  subst w_5
  refine va_putF (D := (dC, dI)) (ci := 0) (v := .int 90) (ty := .int) (C := RX0) (T := TX0) (N := 5) hx hb hts in_wsX0_init_X0 tyX0 tyX0_ok nmX0 hown hK hP hD hS 0 rfl rfl 2 (by decide) (hts (.fieldLink RX0 33 "ShipOffice$Act" "plainWorth" "I") (by decide +kernel)) (fun _ h9 => h9) rfl hin rfl (by decide +kernel) rfl rfl (Nat.le_of_ble_eq_true rfl) dX0_init_40 (fun H locs hP hD hS => ?_)
  have hP : va_P (dC, dI) vwCl [(g1, .inr (0, [.int x1, .int (-1), .int 90, .ref g2, .ref q_1]))] H := hP
  have hD : va_D A [(g1, .inr (0, [.int x1, .int (-1), .int 90, .ref g2, .ref q_1]))] := hD
  have hP9 := hP.sub (ws' := [(g1, .inr (0, [.int x1, .int (-1), .int 90, .ref g2, .ref q_1]))]) [0] rfl
  have hD9 := hD.sub (ws' := [(g1, .inr (0, [.int x1, .int (-1), .int 90, .ref g2, .ref q_1]))]) [0] (by decide) rfl
  have hK9 := hK.sub (tys' := []) [] rfl
  subst hAe
  exact W.vret hx hb hr (fun t ht hW => ⟨⟨q_1, rfl, trivial, ⟨by rw [ht]; exact hP9, va_K.moved hW.alike hK9, hD9⟩⟩, hS.F ht⟩) hS.2.2 dX0_init_43
set_option maxHeartbeats 4000000 in
set_option maxRecDepth 100000 in
theorem c_X5_init (l : Launch) (dC : Nat → ClassId) (dI : Nat → Nat → Nat) (sz : Nat) (tL tS : Nat) (g1 : Nat) : Met l yX5_init wsX5_init ({ frames := 2, cells := 22, slots := 115, locals := 50 }) (va_Pc [.ref g1] (pcS (dC, dI) [] [(g1, .inr (5, [.null, .null, .int 0]))] sz tL tS [(g1, .inr (5, [.null, .null, .int 0]))])) (va_Qv (fun (u : Nat × Nat) => True) (fun u t => va_P (dC, dI) vwCl [(g1, .inr (5, [.ref u.1, .ref u.2, .int 0]))] t.heap ∧ va_K (dC, dI) vwCl [] t ∧ va_D (va_A [(g1, .inr (5, [.null, .null, .int 0]))] sz) [(g1, .inr (5, [.ref u.1, .ref u.2, .int 0]))]) (va_A [(g1, .inr (5, [.null, .null, .int 0]))] sz)) 22 115 (va_A [(g1, .inr (5, [.null, .null, .int 0]))] sz) := by
  refine Met.ofW (cc := cX5_init) (maxL := 1) (ret := none) (by decide) rfl ?_
  intro p e s m args below meth c s₁ B hml hv
  obtain ⟨rfl, ⟨hsz, hP, hK, hD0⟩, hZ⟩ := hv
  have hx := B.exec
  have hb := B.bytes
  have hr := B.returns
  have hts := atoms_spec (ws := wsX5_init) B.pre
  have hown : s.vm.findClass RX5 = some m.cls := findClass_of_methodNamed B.named
  have hlocks := B.notSynchronized
  have hin : meth.name = "<init>" := (name_of_methodNamed B.named B.method).1
  subst hsz
  have hD := hD0.self (sz := s.heap.size)
  generalize hAe : va_A [(g1, .inr (5, [.null, .null, .int 0]))] s.heap.size = A at hD hZ ⊢
  have hA : ∀ q : Nat, s.heap.size ≤ q → A q := fun q h => by rw [← hAe]; exact Or.inr h
  have hS : va_S A s.heap s.heap [] := va_S.rf
  have hP : va_P (dC, dI) vwCl [(g1, .inr (5, [.null, .null, .int 0]))] s.heap := hP
  have hl := lv_entry ([.ref g1]) (n := 1) (Nat.le_of_ble_eq_true rfl)
  rw [lg_entry_eq]
  generalize (lg_sl ([.ref g1]) ++ List.replicate (1 - (lg_sl ([.ref g1])).length) Slot.unset).toArray = ls at hl ⊢
  have hl : lv_has ls 1 [(0, .ref g1)] := hl
  refine lv_aload_n hx hb dX5_init_0 rfl (lv_at hl 0 rfl) ?_
  refine W.objInit hx hb hown (hts (.methodLink RX5 3 objectInit) (by decide +kernel)) (hts (.instanceMethod objectInit) (by decide +kernel)) (hts (.code objectInit ⟨#[0xb1]⟩ 1 none) (in_obj_wsX5_init)) rfl (by rw [hml]; exact hl.1) rfl dX5_init_1 (Nat.le_of_ble_eq_true rfl) (Nat.le_of_ble_eq_true rfl) ?_
  refine W.eq (g2 := F0 m 4 ls []) rfl ?_
  refine lv_aload_n hx hb dX5_init_4 rfl (lv_at hl 0 rfl) ?_
  refine lv_bipush (v := 30) hx hb dX5_init_5 (by decide) ?_
  refine va_newq (N' := 30) hx hb hown (hts (.classLink RX5 9 RX0) (by decide +kernel)) hZ.2.2.2.2.2.2.1 hK hP hD hS hA (by decide) (by decide) (by decide) (Nat.le_of_ble_eq_true rfl) (Nat.le_of_ble_eq_true rfl) dX5_init_7 (fun q_1 k_2 H hK hP hD hS => ?_)
  have hP : va_P (dC, dI) vwCl [(g1, .inr (5, [.null, .null, .int 0])), (q_1, .inl (k_2, 30, .inr (.inr (.inr (.inr (fun _ => none))))))] H := hP
  have hD : va_D A [(g1, .inr (5, [.null, .null, .int 0])), (q_1, .inl (k_2, 30, .inr (.inr (.inr (.inr (fun _ => none))))))] := hD
  have hK : va_K (dC, dI) vwCl [(k_2, .object RX0)] s := hK
  refine W.widen (k := 1) (n := 30) (Nat.le_of_ble_eq_true rfl) (Nat.le_of_ble_eq_true rfl) ?_
  refine va_putF (D := (dC, dI)) (ci := 5) (v := .ref q_1) (ty := .array (.object "ShipOffice$Act")) (C := RX5) (T := TX5) (N := 3) hx hb hts in_wsX5_init_X5 tyX5 tyX5_ok nmX5 hown hK hP hD hS 0 rfl rfl 0 (by decide) (hts (.fieldLink RX5 11 "ShipOffice$Law" "acts" "[LShipOffice$Act;") (by decide +kernel)) (fun _ h9 => h9) rfl hin rfl (by decide +kernel) rfl rfl (Nat.le_of_ble_eq_true rfl) dX5_init_10 (fun H locs hP hD hS => ?_)
  have hP : va_P (dC, dI) vwCl [(g1, .inr (5, [.ref q_1, .null, .int 0])), (q_1, .inl (k_2, 30, .inr (.inr (.inr (.inr (fun _ => none))))))] H := hP
  have hD : va_D A [(g1, .inr (5, [.ref q_1, .null, .int 0])), (q_1, .inl (k_2, 30, .inr (.inr (.inr (.inr (fun _ => none))))))] := hD
  refine lv_aload_n hx hb dX5_init_13 rfl (lv_at hl 0 rfl) ?_
  refine lv_iconst (v := 5) hx hb dX5_init_14 (by decide) ?_
  refine va_newq (N' := 5) hx hb hown (hts (.classLink RX5 9 RX0) (by decide +kernel)) hZ.2.2.2.2.2.2.1 hK hP hD hS hA (by decide) (by decide) (by decide) (Nat.le_of_ble_eq_true rfl) (Nat.le_of_ble_eq_true rfl) dX5_init_15 (fun q_3 k_4 H hK hP hD hS => ?_)
  have hP : va_P (dC, dI) vwCl [(g1, .inr (5, [.ref q_1, .null, .int 0])), (q_1, .inl (k_2, 30, .inr (.inr (.inr (.inr (fun _ => none)))))), (q_3, .inl (k_4, 5, .inr (.inr (.inr (.inr (fun _ => none))))))] H := hP
  have hD : va_D A [(g1, .inr (5, [.ref q_1, .null, .int 0])), (q_1, .inl (k_2, 30, .inr (.inr (.inr (.inr (fun _ => none)))))), (q_3, .inl (k_4, 5, .inr (.inr (.inr (.inr (fun _ => none))))))] := hD
  have hK : va_K (dC, dI) vwCl [(k_2, .object RX0), (k_4, .object RX0)] s := hK
  refine W.widen (k := 2) (n := 35) (Nat.le_of_ble_eq_true rfl) (Nat.le_of_ble_eq_true rfl) ?_
  refine va_putF (D := (dC, dI)) (ci := 5) (v := .ref q_3) (ty := .array (.object "ShipOffice$Act")) (C := RX5) (T := TX5) (N := 3) hx hb hts in_wsX5_init_X5 tyX5 tyX5_ok nmX5 hown hK hP hD hS 0 rfl rfl 1 (by decide) (hts (.fieldLink RX5 17 "ShipOffice$Law" "customs" "[LShipOffice$Act;") (by decide +kernel)) (fun _ h9 => h9) rfl hin rfl (by decide +kernel) rfl rfl (Nat.le_of_ble_eq_true rfl) dX5_init_18 (fun H locs hP hD hS => ?_)
  have hP : va_P (dC, dI) vwCl [(g1, .inr (5, [.ref q_1, .ref q_3, .int 0])), (q_1, .inl (k_2, 30, .inr (.inr (.inr (.inr (fun _ => none)))))), (q_3, .inl (k_4, 5, .inr (.inr (.inr (.inr (fun _ => none))))))] H := hP
  have hD : va_D A [(g1, .inr (5, [.ref q_1, .ref q_3, .int 0])), (q_1, .inl (k_2, 30, .inr (.inr (.inr (.inr (fun _ => none)))))), (q_3, .inl (k_4, 5, .inr (.inr (.inr (.inr (fun _ => none))))))] := hD
  refine lv_aload_n hx hb dX5_init_21 rfl (lv_at hl 0 rfl) ?_
  refine va_get (D := (dC, dI)) (ci := 5) (v := .ref q_3) (C := RX5) (T := TX5) (N := 3) hx hb hts in_wsX5_init_X5 hown hK hP 0 rfl rfl 1 (by decide) (hts (.fieldLink RX5 17 "ShipOffice$Law" "customs" "[LShipOffice$Act;") (by decide +kernel)) (fun _ h9 => h9) rfl dX5_init_22 ?_
  refine lv_iconst (v := 0) hx hb dX5_init_25 (by decide) ?_
  refine va_new (ci := 0) (fs := [.int 0, .int 0, .int 0, .null, .null]) (C := RX0) (T := TX0) (N := 5) hx hb hts in_wsX5_init_X0 tyX0 tyX0_ok hown (hts (.classLink RX5 9 RX0) (by decide +kernel)) (hts (.instantiable RX0 5) (by decide +kernel)) (hts (.initialized RX0) (by decide +kernel)) hK hP hD hS hA rfl (fun j hj => by rcases (show j = 0 ∨ j = 1 ∨ j = 2 ∨ j = 3 ∨ j = 4 by omega) with rfl | rfl | rfl | rfl | rfl <;> rfl) (Nat.le_of_ble_eq_true rfl) (Nat.le_of_ble_eq_true rfl) dX5_init_26 (fun q_5 H hP hD hS => ?_)
  have hP : va_P (dC, dI) vwCl [(g1, .inr (5, [.ref q_1, .ref q_3, .int 0])), (q_1, .inl (k_2, 30, .inr (.inr (.inr (.inr (fun _ => none)))))), (q_3, .inl (k_4, 5, .inr (.inr (.inr (.inr (fun _ => none)))))), (q_5, .inr (0, [.int 0, .int 0, .int 0, .null, .null]))] H := hP
  have hD : va_D A [(g1, .inr (5, [.ref q_1, .ref q_3, .int 0])), (q_1, .inl (k_2, 30, .inr (.inr (.inr (.inr (fun _ => none)))))), (q_3, .inl (k_4, 5, .inr (.inr (.inr (.inr (fun _ => none)))))), (q_5, .inr (0, [.int 0, .int 0, .int 0, .null, .null]))] := hD
  refine W.widen (k := 3) (n := 40) (Nat.le_of_ble_eq_true rfl) (Nat.le_of_ble_eq_true rfl) ?_
  refine lv_dup hx hb dX5_init_29 rfl ?_
  refine lv_iconst (v := 0) hx hb dX5_init_30 (by decide) ?_
  refine lv_iconst (v := (-1)) hx hb dX5_init_31 (by decide) ?_
  refine lv_iconst (v := 1) hx hb dX5_init_32 (by decide) ?_
  refine va_newa (atype := .int) (ty := .int) (a0 := (1, .inl (fun _ => 0))) hx hb (hts (.arrayClass .int) (by decide +kernel)) rfl hK hP hD hS hA (fun _ => rfl) (by decide) (by decide) (by decide) (Nat.le_of_ble_eq_true rfl) (Nat.le_of_ble_eq_true rfl) dX5_init_33 (fun q_6 k_7 H hK hP hD hS => ?_)
  have hP : va_P (dC, dI) vwCl [(g1, .inr (5, [.ref q_1, .ref q_3, .int 0])), (q_1, .inl (k_2, 30, .inr (.inr (.inr (.inr (fun _ => none)))))), (q_3, .inl (k_4, 5, .inr (.inr (.inr (.inr (fun _ => none)))))), (q_5, .inr (0, [.int 0, .int 0, .int 0, .null, .null])), (q_6, .inl (k_7, 1, .inl (fun _ => 0)))] H := hP
  have hD : va_D A [(g1, .inr (5, [.ref q_1, .ref q_3, .int 0])), (q_1, .inl (k_2, 30, .inr (.inr (.inr (.inr (fun _ => none)))))), (q_3, .inl (k_4, 5, .inr (.inr (.inr (.inr (fun _ => none)))))), (q_5, .inr (0, [.int 0, .int 0, .int 0, .null, .null])), (q_6, .inl (k_7, 1, .inl (fun _ => 0)))] := hD
  have hK : va_K (dC, dI) vwCl [(k_2, .object RX0), (k_4, .object RX0), (k_7, .int)] s := hK
  refine W.widen (k := 4) (n := 41) (Nat.le_of_ble_eq_true rfl) (Nat.le_of_ble_eq_true rfl) ?_
  refine lv_dup hx hb dX5_init_35 rfl ?_
  refine lv_iconst (v := 0) hx hb dX5_init_36 (by decide) ?_
  refine lv_iconst (v := 1) hx hb dX5_init_37 (by decide) ?_
  refine va_iast hx hb hK hP hD hS 4 2 rfl rfl (by unfold vp_in; decide) dX5_init_38 (fun H locs hP hD hS => ?_)
  have hP : va_P (dC, dI) vwCl [(g1, .inr (5, [.ref q_1, .ref q_3, .int 0])), (q_1, .inl (k_2, 30, .inr (.inr (.inr (.inr (fun _ => none)))))), (q_3, .inl (k_4, 5, .inr (.inr (.inr (.inr (fun _ => none)))))), (q_5, .inr (0, [.int 0, .int 0, .int 0, .null, .null])), (q_6, .inl (k_7, 1, .inl (upd (fun _ => 0) (0 : Int32).toNatClampNeg 1)))] H := hP
  have hD : va_D A [(g1, .inr (5, [.ref q_1, .ref q_3, .int 0])), (q_1, .inl (k_2, 30, .inr (.inr (.inr (.inr (fun _ => none)))))), (q_3, .inl (k_4, 5, .inr (.inr (.inr (.inr (fun _ => none)))))), (q_5, .inr (0, [.int 0, .int 0, .int 0, .null, .null])), (q_6, .inl (k_7, 1, .inl (upd (fun _ => 0) (0 : Int32).toNatClampNeg 1)))] := hD
  have hPc := hP.sub (ws' := [(q_5, .inr (0, [.int 0, .int 0, .int 0, .null, .null])), (q_6, .inl (k_7, 1, .inl (upd (fun _ => 0) (0 : Int32).toNatClampNeg 1)))]) [3, 4] rfl
  have hDc := hD.sub (ws' := [(q_5, .inr (0, [.int 0, .int 0, .int 0, .null, .null])), (q_6, .inl (k_7, 1, .inl (upd (fun _ => 0) (0 : Int32).toNatClampNeg 1)))]) [3, 4] (by decide) rfl
  have hKc := hK.sub (tys' := [(k_7, .int)]) [2] rfl
  have hFc := va_free (wc := [(q_5, .inr (0, [.int 0, .int 0, .int 0, .null, .null])), (q_6, .inl (k_7, 1, .inl (upd (fun _ => 0) (0 : Int32).toNatClampNeg 1)))]) hD hS hA [3, 4] rfl
  refine va_callv (va_runI (As := [.int 0, .int (-1), .ref q_6]) (rest := [.ref q_5, .int 0, .ref q_3]) ⟨hx, hb, hml, hown, hts⟩ (c_X0_init_1 l dC dI H.size tL tS q_5 q_6 k_7 0) (cwI 3 hts gX5_init_X0_init rfl rfl rfl (hts (.initialized RX0) (by decide +kernel)) (hts (.methodLink RX5 20 yX0_init) (by decide +kernel)) (hts (.instanceMethod yX0_init) (by decide +kernel)) rfl (by decide +kernel) ⟨(Nat.le_of_ble_eq_true rfl), (Nat.le_of_ble_eq_true rfl)⟩) (pr_SS hPc hKc hDc (hZ.go hS hFc)) rfl rfl hl.1 rfl (lv_room (Nat.le_of_ble_eq_true rfl)) dX5_init_39 ⟨(Nat.le_of_ble_eq_true rfl), (Nat.le_of_ble_eq_true rfl)⟩) hS (fun q _ h => hFc q h) hFc (fun u t H locs ht hvm w_8 hB hz1 hk1 hS => ?_)
  obtain ⟨q_10, rfl⟩ : ∃ z, z = u := ⟨_, rfl⟩
  obtain ⟨hP1, hK1, hD1⟩ := hB
  rw [ht] at hP1
  have hK1 := va_K.moved hvm.symm hK1
  obtain ⟨hP, hD⟩ := va_join (wr := [(g1, .inr (5, [.ref q_1, .ref q_3, .int 0])), (q_1, .inl (k_2, 30, .inr (.inr (.inr (.inr (fun _ => none)))))), (q_3, .inl (k_4, 5, .inr (.inr (.inr (.inr (fun _ => none))))))]) (w1 := [(q_5, .inr (0, [.int 0, .int (-1), .int 1, .ref q_6, .ref q_10]))]) hP hD [3, 4] [0, 1, 2] rfl rfl (by decide) (by decide) hk1 hFc hP1 hD1
  have hK := hK.app hK1
  have hP : va_P (dC, dI) vwCl [(g1, .inr (5, [.ref q_1, .ref q_3, .int 0])), (q_1, .inl (k_2, 30, .inr (.inr (.inr (.inr (fun _ => none)))))), (q_3, .inl (k_4, 5, .inr (.inr (.inr (.inr (fun _ => none)))))), (q_5, .inr (0, [.int 0, .int (-1), .int 1, .ref q_6, .ref q_10]))] H := hP
  have hD : va_D A [(g1, .inr (5, [.ref q_1, .ref q_3, .int 0])), (q_1, .inl (k_2, 30, .inr (.inr (.inr (.inr (fun _ => none)))))), (q_3, .inl (k_4, 5, .inr (.inr (.inr (.inr (fun _ => none)))))), (q_5, .inr (0, [.int 0, .int (-1), .int 1, .ref q_6, .ref q_10]))] := hD
  have hK : va_K (dC, dI) vwCl [(k_2, .object RX0), (k_4, .object RX0), (k_7, .int)] s := hK
  clear hP1 hK1 hD1 hk1 hz1 hvm ht hPc hDc hKc hFc
  refine W.widen (k := 6) (n := 51) (Nat.le_of_ble_eq_true rfl) (Nat.le_of_ble_eq_true rfl) ?_
  refine va_astq (r := (RX0, TX0, 5)) hx hb hK hP hD hS 2 1 3 0 rfl rfl rfl rfl (by unfold vp_in; decide) dX5_init_42 (fun H locs hP hD hS => ?_)
  have hP : va_P (dC, dI) vwCl [(g1, .inr (5, [.ref q_1, .ref q_3, .int 0])), (q_1, .inl (k_2, 30, .inr (.inr (.inr (.inr (fun _ => none)))))), (q_3, .inl (k_4, 5, .inr (.inr (.inr (.inr (va_up (fun _ => none) (0 : Int32).toNatClampNeg (some q_5))))))), (q_5, .inr (0, [.int 0, .int (-1), .int 1, .ref q_6, .ref q_10]))] H := hP
  have hD : va_D A [(g1, .inr (5, [.ref q_1, .ref q_3, .int 0])), (q_1, .inl (k_2, 30, .inr (.inr (.inr (.inr (fun _ => none)))))), (q_3, .inl (k_4, 5, .inr (.inr (.inr (.inr (va_up (fun _ => none) (0 : Int32).toNatClampNeg (some q_5))))))), (q_5, .inr (0, [.int 0, .int (-1), .int 1, .ref q_6, .ref q_10]))] := hD
  refine lv_aload_n hx hb dX5_init_43 rfl (lv_at hl 0 rfl) ?_
  refine va_get (D := (dC, dI)) (ci := 5) (v := .ref q_3) (C := RX5) (T := TX5) (N := 3) hx hb hts in_wsX5_init_X5 hown hK hP 0 rfl rfl 1 (by decide) (hts (.fieldLink RX5 17 "ShipOffice$Law" "customs" "[LShipOffice$Act;") (by decide +kernel)) (fun _ h9 => h9) rfl dX5_init_44 ?_
  refine lv_iconst (v := 1) hx hb dX5_init_47 (by decide) ?_
  refine va_new (ci := 0) (fs := [.int 0, .int 0, .int 0, .null, .null]) (C := RX0) (T := TX0) (N := 5) hx hb hts in_wsX5_init_X0 tyX0 tyX0_ok hown (hts (.classLink RX5 9 RX0) (by decide +kernel)) (hts (.instantiable RX0 5) (by decide +kernel)) (hts (.initialized RX0) (by decide +kernel)) hK hP hD hS hA rfl (fun j hj => by rcases (show j = 0 ∨ j = 1 ∨ j = 2 ∨ j = 3 ∨ j = 4 by omega) with rfl | rfl | rfl | rfl | rfl <;> rfl) (Nat.le_of_ble_eq_true rfl) (Nat.le_of_ble_eq_true rfl) dX5_init_48 (fun q_11 H hP hD hS => ?_)
  have hP : va_P (dC, dI) vwCl [(g1, .inr (5, [.ref q_1, .ref q_3, .int 0])), (q_1, .inl (k_2, 30, .inr (.inr (.inr (.inr (fun _ => none)))))), (q_3, .inl (k_4, 5, .inr (.inr (.inr (.inr (va_up (fun _ => none) (0 : Int32).toNatClampNeg (some q_5))))))), (q_5, .inr (0, [.int 0, .int (-1), .int 1, .ref q_6, .ref q_10])), (q_11, .inr (0, [.int 0, .int 0, .int 0, .null, .null]))] H := hP
  have hD : va_D A [(g1, .inr (5, [.ref q_1, .ref q_3, .int 0])), (q_1, .inl (k_2, 30, .inr (.inr (.inr (.inr (fun _ => none)))))), (q_3, .inl (k_4, 5, .inr (.inr (.inr (.inr (va_up (fun _ => none) (0 : Int32).toNatClampNeg (some q_5))))))), (q_5, .inr (0, [.int 0, .int (-1), .int 1, .ref q_6, .ref q_10])), (q_11, .inr (0, [.int 0, .int 0, .int 0, .null, .null]))] := hD
  refine W.widen (k := 7) (n := 56) (Nat.le_of_ble_eq_true rfl) (Nat.le_of_ble_eq_true rfl) ?_
  refine lv_dup hx hb dX5_init_51 rfl ?_
  refine lv_iconst (v := 1) hx hb dX5_init_52 (by decide) ?_
  refine lv_iconst (v := (-1)) hx hb dX5_init_53 (by decide) ?_
  refine lv_iconst (v := 1) hx hb dX5_init_54 (by decide) ?_
  refine va_newa (atype := .int) (ty := .int) (a0 := (1, .inl (fun _ => 0))) hx hb (hts (.arrayClass .int) (by decide +kernel)) rfl hK hP hD hS hA (fun _ => rfl) (by decide) (by decide) (by decide) (Nat.le_of_ble_eq_true rfl) (Nat.le_of_ble_eq_true rfl) dX5_init_55 (fun q_12 k_13 H hK hP hD hS => ?_)
  have hP : va_P (dC, dI) vwCl [(g1, .inr (5, [.ref q_1, .ref q_3, .int 0])), (q_1, .inl (k_2, 30, .inr (.inr (.inr (.inr (fun _ => none)))))), (q_3, .inl (k_4, 5, .inr (.inr (.inr (.inr (va_up (fun _ => none) (0 : Int32).toNatClampNeg (some q_5))))))), (q_5, .inr (0, [.int 0, .int (-1), .int 1, .ref q_6, .ref q_10])), (q_11, .inr (0, [.int 0, .int 0, .int 0, .null, .null])), (q_12, .inl (k_13, 1, .inl (fun _ => 0)))] H := hP
  have hD : va_D A [(g1, .inr (5, [.ref q_1, .ref q_3, .int 0])), (q_1, .inl (k_2, 30, .inr (.inr (.inr (.inr (fun _ => none)))))), (q_3, .inl (k_4, 5, .inr (.inr (.inr (.inr (va_up (fun _ => none) (0 : Int32).toNatClampNeg (some q_5))))))), (q_5, .inr (0, [.int 0, .int (-1), .int 1, .ref q_6, .ref q_10])), (q_11, .inr (0, [.int 0, .int 0, .int 0, .null, .null])), (q_12, .inl (k_13, 1, .inl (fun _ => 0)))] := hD
  have hK : va_K (dC, dI) vwCl [(k_2, .object RX0), (k_4, .object RX0), (k_7, .int), (k_13, .int)] s := hK
  refine W.widen (k := 8) (n := 57) (Nat.le_of_ble_eq_true rfl) (Nat.le_of_ble_eq_true rfl) ?_
  refine lv_dup hx hb dX5_init_57 rfl ?_
  refine lv_iconst (v := 0) hx hb dX5_init_58 (by decide) ?_
  refine lv_bipush (v := (-6)) hx hb dX5_init_59 (by decide) ?_
  refine va_iast hx hb hK hP hD hS 5 3 rfl rfl (by unfold vp_in; decide) dX5_init_61 (fun H locs hP hD hS => ?_)
  have hP : va_P (dC, dI) vwCl [(g1, .inr (5, [.ref q_1, .ref q_3, .int 0])), (q_1, .inl (k_2, 30, .inr (.inr (.inr (.inr (fun _ => none)))))), (q_3, .inl (k_4, 5, .inr (.inr (.inr (.inr (va_up (fun _ => none) (0 : Int32).toNatClampNeg (some q_5))))))), (q_5, .inr (0, [.int 0, .int (-1), .int 1, .ref q_6, .ref q_10])), (q_11, .inr (0, [.int 0, .int 0, .int 0, .null, .null])), (q_12, .inl (k_13, 1, .inl (upd (fun _ => 0) (0 : Int32).toNatClampNeg (-6))))] H := hP
  have hD : va_D A [(g1, .inr (5, [.ref q_1, .ref q_3, .int 0])), (q_1, .inl (k_2, 30, .inr (.inr (.inr (.inr (fun _ => none)))))), (q_3, .inl (k_4, 5, .inr (.inr (.inr (.inr (va_up (fun _ => none) (0 : Int32).toNatClampNeg (some q_5))))))), (q_5, .inr (0, [.int 0, .int (-1), .int 1, .ref q_6, .ref q_10])), (q_11, .inr (0, [.int 0, .int 0, .int 0, .null, .null])), (q_12, .inl (k_13, 1, .inl (upd (fun _ => 0) (0 : Int32).toNatClampNeg (-6))))] := hD
  have hPc := hP.sub (ws' := [(q_11, .inr (0, [.int 0, .int 0, .int 0, .null, .null])), (q_12, .inl (k_13, 1, .inl (upd (fun _ => 0) (0 : Int32).toNatClampNeg (-6))))]) [4, 5] rfl
  have hDc := hD.sub (ws' := [(q_11, .inr (0, [.int 0, .int 0, .int 0, .null, .null])), (q_12, .inl (k_13, 1, .inl (upd (fun _ => 0) (0 : Int32).toNatClampNeg (-6))))]) [4, 5] (by decide) rfl
  have hKc := hK.sub (tys' := [(k_13, .int)]) [3] rfl
  have hFc := va_free (wc := [(q_11, .inr (0, [.int 0, .int 0, .int 0, .null, .null])), (q_12, .inl (k_13, 1, .inl (upd (fun _ => 0) (0 : Int32).toNatClampNeg (-6))))]) hD hS hA [4, 5] rfl
  refine va_callv (va_runI (As := [.int 1, .int (-1), .ref q_12]) (rest := [.ref q_11, .int 1, .ref q_3]) ⟨hx, hb, hml, hown, hts⟩ (c_X0_init_m6 l dC dI H.size tL tS q_11 q_12 k_13 1) (cwI 3 hts gX5_init_X0_init rfl rfl rfl (hts (.initialized RX0) (by decide +kernel)) (hts (.methodLink RX5 20 yX0_init) (by decide +kernel)) (hts (.instanceMethod yX0_init) (by decide +kernel)) rfl (by decide +kernel) ⟨(Nat.le_of_ble_eq_true rfl), (Nat.le_of_ble_eq_true rfl)⟩) (pr_SS hPc hKc hDc (hZ.go hS hFc)) rfl rfl hl.1 rfl (lv_room (Nat.le_of_ble_eq_true rfl)) dX5_init_62 ⟨(Nat.le_of_ble_eq_true rfl), (Nat.le_of_ble_eq_true rfl)⟩) hS (fun q _ h => hFc q h) hFc (fun u t H locs ht hvm w_14 hB hz1 hk1 hS => ?_)
  obtain ⟨q_16, rfl⟩ : ∃ z, z = u := ⟨_, rfl⟩
  obtain ⟨hP1, hK1, hD1⟩ := hB
  rw [ht] at hP1
  have hK1 := va_K.moved hvm.symm hK1
  obtain ⟨hP, hD⟩ := va_join (wr := [(g1, .inr (5, [.ref q_1, .ref q_3, .int 0])), (q_1, .inl (k_2, 30, .inr (.inr (.inr (.inr (fun _ => none)))))), (q_3, .inl (k_4, 5, .inr (.inr (.inr (.inr (va_up (fun _ => none) (0 : Int32).toNatClampNeg (some q_5))))))), (q_5, .inr (0, [.int 0, .int (-1), .int 1, .ref q_6, .ref q_10]))]) (w1 := [(q_11, .inr (0, [.int 1, .int (-1), .int 0, .ref q_12, .ref q_16]))]) hP hD [4, 5] [0, 1, 2, 3] rfl rfl (by decide) (by decide) hk1 hFc hP1 hD1
  have hK := hK.app hK1
  have hP : va_P (dC, dI) vwCl [(g1, .inr (5, [.ref q_1, .ref q_3, .int 0])), (q_1, .inl (k_2, 30, .inr (.inr (.inr (.inr (fun _ => none)))))), (q_3, .inl (k_4, 5, .inr (.inr (.inr (.inr (va_up (fun _ => none) (0 : Int32).toNatClampNeg (some q_5))))))), (q_5, .inr (0, [.int 0, .int (-1), .int 1, .ref q_6, .ref q_10])), (q_11, .inr (0, [.int 1, .int (-1), .int 0, .ref q_12, .ref q_16]))] H := hP
  have hD : va_D A [(g1, .inr (5, [.ref q_1, .ref q_3, .int 0])), (q_1, .inl (k_2, 30, .inr (.inr (.inr (.inr (fun _ => none)))))), (q_3, .inl (k_4, 5, .inr (.inr (.inr (.inr (va_up (fun _ => none) (0 : Int32).toNatClampNeg (some q_5))))))), (q_5, .inr (0, [.int 0, .int (-1), .int 1, .ref q_6, .ref q_10])), (q_11, .inr (0, [.int 1, .int (-1), .int 0, .ref q_12, .ref q_16]))] := hD
  have hK : va_K (dC, dI) vwCl [(k_2, .object RX0), (k_4, .object RX0), (k_7, .int), (k_13, .int)] s := hK
  clear hP1 hK1 hD1 hk1 hz1 hvm ht hPc hDc hKc hFc
  refine W.widen (k := 10) (n := 67) (Nat.le_of_ble_eq_true rfl) (Nat.le_of_ble_eq_true rfl) ?_
  refine va_astq (r := (RX0, TX0, 5)) hx hb hK hP hD hS 2 1 4 0 rfl rfl rfl rfl (by unfold vp_in; decide) dX5_init_65 (fun H locs hP hD hS => ?_)
  have hP : va_P (dC, dI) vwCl [(g1, .inr (5, [.ref q_1, .ref q_3, .int 0])), (q_1, .inl (k_2, 30, .inr (.inr (.inr (.inr (fun _ => none)))))), (q_3, .inl (k_4, 5, .inr (.inr (.inr (.inr (va_up (va_up (fun _ => none) (0 : Int32).toNatClampNeg (some q_5)) (1 : Int32).toNatClampNeg (some q_11))))))), (q_5, .inr (0, [.int 0, .int (-1), .int 1, .ref q_6, .ref q_10])), (q_11, .inr (0, [.int 1, .int (-1), .int 0, .ref q_12, .ref q_16]))] H := hP
  have hD : va_D A [(g1, .inr (5, [.ref q_1, .ref q_3, .int 0])), (q_1, .inl (k_2, 30, .inr (.inr (.inr (.inr (fun _ => none)))))), (q_3, .inl (k_4, 5, .inr (.inr (.inr (.inr (va_up (va_up (fun _ => none) (0 : Int32).toNatClampNeg (some q_5)) (1 : Int32).toNatClampNeg (some q_11))))))), (q_5, .inr (0, [.int 0, .int (-1), .int 1, .ref q_6, .ref q_10])), (q_11, .inr (0, [.int 1, .int (-1), .int 0, .ref q_12, .ref q_16]))] := hD
  refine lv_aload_n hx hb dX5_init_66 rfl (lv_at hl 0 rfl) ?_
  refine va_get (D := (dC, dI)) (ci := 5) (v := .ref q_3) (C := RX5) (T := TX5) (N := 3) hx hb hts in_wsX5_init_X5 hown hK hP 0 rfl rfl 1 (by decide) (hts (.fieldLink RX5 17 "ShipOffice$Law" "customs" "[LShipOffice$Act;") (by decide +kernel)) (fun _ h9 => h9) rfl dX5_init_67 ?_
  refine lv_iconst (v := 2) hx hb dX5_init_70 (by decide) ?_
  refine va_new (ci := 0) (fs := [.int 0, .int 0, .int 0, .null, .null]) (C := RX0) (T := TX0) (N := 5) hx hb hts in_wsX5_init_X0 tyX0 tyX0_ok hown (hts (.classLink RX5 9 RX0) (by decide +kernel)) (hts (.instantiable RX0 5) (by decide +kernel)) (hts (.initialized RX0) (by decide +kernel)) hK hP hD hS hA rfl (fun j hj => by rcases (show j = 0 ∨ j = 1 ∨ j = 2 ∨ j = 3 ∨ j = 4 by omega) with rfl | rfl | rfl | rfl | rfl <;> rfl) (Nat.le_of_ble_eq_true rfl) (Nat.le_of_ble_eq_true rfl) dX5_init_71 (fun q_17 H hP hD hS => ?_)
  have hP : va_P (dC, dI) vwCl [(g1, .inr (5, [.ref q_1, .ref q_3, .int 0])), (q_1, .inl (k_2, 30, .inr (.inr (.inr (.inr (fun _ => none)))))), (q_3, .inl (k_4, 5, .inr (.inr (.inr (.inr (va_up (va_up (fun _ => none) (0 : Int32).toNatClampNeg (some q_5)) (1 : Int32).toNatClampNeg (some q_11))))))), (q_5, .inr (0, [.int 0, .int (-1), .int 1, .ref q_6, .ref q_10])), (q_11, .inr (0, [.int 1, .int (-1), .int 0, .ref q_12, .ref q_16])), (q_17, .inr (0, [.int 0, .int 0, .int 0, .null, .null]))] H := hP
  have hD : va_D A [(g1, .inr (5, [.ref q_1, .ref q_3, .int 0])), (q_1, .inl (k_2, 30, .inr (.inr (.inr (.inr (fun _ => none)))))), (q_3, .inl (k_4, 5, .inr (.inr (.inr (.inr (va_up (va_up (fun _ => none) (0 : Int32).toNatClampNeg (some q_5)) (1 : Int32).toNatClampNeg (some q_11))))))), (q_5, .inr (0, [.int 0, .int (-1), .int 1, .ref q_6, .ref q_10])), (q_11, .inr (0, [.int 1, .int (-1), .int 0, .ref q_12, .ref q_16])), (q_17, .inr (0, [.int 0, .int 0, .int 0, .null, .null]))] := hD
  refine W.widen (k := 11) (n := 72) (Nat.le_of_ble_eq_true rfl) (Nat.le_of_ble_eq_true rfl) ?_
  refine lv_dup hx hb dX5_init_74 rfl ?_
  refine lv_iconst (v := 2) hx hb dX5_init_75 (by decide) ?_
  refine lv_iconst (v := (-1)) hx hb dX5_init_76 (by decide) ?_
  refine lv_iconst (v := 1) hx hb dX5_init_77 (by decide) ?_
  refine va_newa (atype := .int) (ty := .int) (a0 := (1, .inl (fun _ => 0))) hx hb (hts (.arrayClass .int) (by decide +kernel)) rfl hK hP hD hS hA (fun _ => rfl) (by decide) (by decide) (by decide) (Nat.le_of_ble_eq_true rfl) (Nat.le_of_ble_eq_true rfl) dX5_init_78 (fun q_18 k_19 H hK hP hD hS => ?_)
  have hP : va_P (dC, dI) vwCl [(g1, .inr (5, [.ref q_1, .ref q_3, .int 0])), (q_1, .inl (k_2, 30, .inr (.inr (.inr (.inr (fun _ => none)))))), (q_3, .inl (k_4, 5, .inr (.inr (.inr (.inr (va_up (va_up (fun _ => none) (0 : Int32).toNatClampNeg (some q_5)) (1 : Int32).toNatClampNeg (some q_11))))))), (q_5, .inr (0, [.int 0, .int (-1), .int 1, .ref q_6, .ref q_10])), (q_11, .inr (0, [.int 1, .int (-1), .int 0, .ref q_12, .ref q_16])), (q_17, .inr (0, [.int 0, .int 0, .int 0, .null, .null])), (q_18, .inl (k_19, 1, .inl (fun _ => 0)))] H := hP
  have hD : va_D A [(g1, .inr (5, [.ref q_1, .ref q_3, .int 0])), (q_1, .inl (k_2, 30, .inr (.inr (.inr (.inr (fun _ => none)))))), (q_3, .inl (k_4, 5, .inr (.inr (.inr (.inr (va_up (va_up (fun _ => none) (0 : Int32).toNatClampNeg (some q_5)) (1 : Int32).toNatClampNeg (some q_11))))))), (q_5, .inr (0, [.int 0, .int (-1), .int 1, .ref q_6, .ref q_10])), (q_11, .inr (0, [.int 1, .int (-1), .int 0, .ref q_12, .ref q_16])), (q_17, .inr (0, [.int 0, .int 0, .int 0, .null, .null])), (q_18, .inl (k_19, 1, .inl (fun _ => 0)))] := hD
  have hK : va_K (dC, dI) vwCl [(k_2, .object RX0), (k_4, .object RX0), (k_7, .int), (k_13, .int), (k_19, .int)] s := hK
  refine W.widen (k := 12) (n := 73) (Nat.le_of_ble_eq_true rfl) (Nat.le_of_ble_eq_true rfl) ?_
  refine lv_dup hx hb dX5_init_80 rfl ?_
  refine lv_iconst (v := 0) hx hb dX5_init_81 (by decide) ?_
  refine lv_bipush (v := 100) hx hb dX5_init_82 (by decide) ?_
  refine va_iast hx hb hK hP hD hS 6 4 rfl rfl (by unfold vp_in; decide) dX5_init_84 (fun H locs hP hD hS => ?_)
  have hP : va_P (dC, dI) vwCl [(g1, .inr (5, [.ref q_1, .ref q_3, .int 0])), (q_1, .inl (k_2, 30, .inr (.inr (.inr (.inr (fun _ => none)))))), (q_3, .inl (k_4, 5, .inr (.inr (.inr (.inr (va_up (va_up (fun _ => none) (0 : Int32).toNatClampNeg (some q_5)) (1 : Int32).toNatClampNeg (some q_11))))))), (q_5, .inr (0, [.int 0, .int (-1), .int 1, .ref q_6, .ref q_10])), (q_11, .inr (0, [.int 1, .int (-1), .int 0, .ref q_12, .ref q_16])), (q_17, .inr (0, [.int 0, .int 0, .int 0, .null, .null])), (q_18, .inl (k_19, 1, .inl (upd (fun _ => 0) (0 : Int32).toNatClampNeg 100)))] H := hP
  have hD : va_D A [(g1, .inr (5, [.ref q_1, .ref q_3, .int 0])), (q_1, .inl (k_2, 30, .inr (.inr (.inr (.inr (fun _ => none)))))), (q_3, .inl (k_4, 5, .inr (.inr (.inr (.inr (va_up (va_up (fun _ => none) (0 : Int32).toNatClampNeg (some q_5)) (1 : Int32).toNatClampNeg (some q_11))))))), (q_5, .inr (0, [.int 0, .int (-1), .int 1, .ref q_6, .ref q_10])), (q_11, .inr (0, [.int 1, .int (-1), .int 0, .ref q_12, .ref q_16])), (q_17, .inr (0, [.int 0, .int 0, .int 0, .null, .null])), (q_18, .inl (k_19, 1, .inl (upd (fun _ => 0) (0 : Int32).toNatClampNeg 100)))] := hD
  have hPc := hP.sub (ws' := [(q_17, .inr (0, [.int 0, .int 0, .int 0, .null, .null])), (q_18, .inl (k_19, 1, .inl (upd (fun _ => 0) (0 : Int32).toNatClampNeg 100)))]) [5, 6] rfl
  have hDc := hD.sub (ws' := [(q_17, .inr (0, [.int 0, .int 0, .int 0, .null, .null])), (q_18, .inl (k_19, 1, .inl (upd (fun _ => 0) (0 : Int32).toNatClampNeg 100)))]) [5, 6] (by decide) rfl
  have hKc := hK.sub (tys' := [(k_19, .int)]) [4] rfl
  have hFc := va_free (wc := [(q_17, .inr (0, [.int 0, .int 0, .int 0, .null, .null])), (q_18, .inl (k_19, 1, .inl (upd (fun _ => 0) (0 : Int32).toNatClampNeg 100)))]) hD hS hA [5, 6] rfl
  refine va_callv (va_runI (As := [.int 2, .int (-1), .ref q_18]) (rest := [.ref q_17, .int 2, .ref q_3]) ⟨hx, hb, hml, hown, hts⟩ (c_X0_init_100 l dC dI H.size tL tS q_17 q_18 k_19 2) (cwI 3 hts gX5_init_X0_init rfl rfl rfl (hts (.initialized RX0) (by decide +kernel)) (hts (.methodLink RX5 20 yX0_init) (by decide +kernel)) (hts (.instanceMethod yX0_init) (by decide +kernel)) rfl (by decide +kernel) ⟨(Nat.le_of_ble_eq_true rfl), (Nat.le_of_ble_eq_true rfl)⟩) (pr_SS hPc hKc hDc (hZ.go hS hFc)) rfl rfl hl.1 rfl (lv_room (Nat.le_of_ble_eq_true rfl)) dX5_init_85 ⟨(Nat.le_of_ble_eq_true rfl), (Nat.le_of_ble_eq_true rfl)⟩) hS (fun q _ h => hFc q h) hFc (fun u t H locs ht hvm w_20 hB hz1 hk1 hS => ?_)
  obtain ⟨q_22, rfl⟩ : ∃ z, z = u := ⟨_, rfl⟩
  obtain ⟨hP1, hK1, hD1⟩ := hB
  rw [ht] at hP1
  have hK1 := va_K.moved hvm.symm hK1
  obtain ⟨hP, hD⟩ := va_join (wr := [(g1, .inr (5, [.ref q_1, .ref q_3, .int 0])), (q_1, .inl (k_2, 30, .inr (.inr (.inr (.inr (fun _ => none)))))), (q_3, .inl (k_4, 5, .inr (.inr (.inr (.inr (va_up (va_up (fun _ => none) (0 : Int32).toNatClampNeg (some q_5)) (1 : Int32).toNatClampNeg (some q_11))))))), (q_5, .inr (0, [.int 0, .int (-1), .int 1, .ref q_6, .ref q_10])), (q_11, .inr (0, [.int 1, .int (-1), .int 0, .ref q_12, .ref q_16]))]) (w1 := [(q_17, .inr (0, [.int 2, .int (-1), .int 100, .ref q_18, .ref q_22]))]) hP hD [5, 6] [0, 1, 2, 3, 4] rfl rfl (by decide) (by decide) hk1 hFc hP1 hD1
  have hK := hK.app hK1
  have hP : va_P (dC, dI) vwCl [(g1, .inr (5, [.ref q_1, .ref q_3, .int 0])), (q_1, .inl (k_2, 30, .inr (.inr (.inr (.inr (fun _ => none)))))), (q_3, .inl (k_4, 5, .inr (.inr (.inr (.inr (va_up (va_up (fun _ => none) (0 : Int32).toNatClampNeg (some q_5)) (1 : Int32).toNatClampNeg (some q_11))))))), (q_5, .inr (0, [.int 0, .int (-1), .int 1, .ref q_6, .ref q_10])), (q_11, .inr (0, [.int 1, .int (-1), .int 0, .ref q_12, .ref q_16])), (q_17, .inr (0, [.int 2, .int (-1), .int 100, .ref q_18, .ref q_22]))] H := hP
  have hD : va_D A [(g1, .inr (5, [.ref q_1, .ref q_3, .int 0])), (q_1, .inl (k_2, 30, .inr (.inr (.inr (.inr (fun _ => none)))))), (q_3, .inl (k_4, 5, .inr (.inr (.inr (.inr (va_up (va_up (fun _ => none) (0 : Int32).toNatClampNeg (some q_5)) (1 : Int32).toNatClampNeg (some q_11))))))), (q_5, .inr (0, [.int 0, .int (-1), .int 1, .ref q_6, .ref q_10])), (q_11, .inr (0, [.int 1, .int (-1), .int 0, .ref q_12, .ref q_16])), (q_17, .inr (0, [.int 2, .int (-1), .int 100, .ref q_18, .ref q_22]))] := hD
  have hK : va_K (dC, dI) vwCl [(k_2, .object RX0), (k_4, .object RX0), (k_7, .int), (k_13, .int), (k_19, .int)] s := hK
  clear hP1 hK1 hD1 hk1 hz1 hvm ht hPc hDc hKc hFc
  refine W.widen (k := 14) (n := 83) (Nat.le_of_ble_eq_true rfl) (Nat.le_of_ble_eq_true rfl) ?_
  refine va_astq (r := (RX0, TX0, 5)) hx hb hK hP hD hS 2 1 5 0 rfl rfl rfl rfl (by unfold vp_in; decide) dX5_init_88 (fun H locs hP hD hS => ?_)
  have hP : va_P (dC, dI) vwCl [(g1, .inr (5, [.ref q_1, .ref q_3, .int 0])), (q_1, .inl (k_2, 30, .inr (.inr (.inr (.inr (fun _ => none)))))), (q_3, .inl (k_4, 5, .inr (.inr (.inr (.inr (va_up (va_up (va_up (fun _ => none) (0 : Int32).toNatClampNeg (some q_5)) (1 : Int32).toNatClampNeg (some q_11)) (2 : Int32).toNatClampNeg (some q_17))))))), (q_5, .inr (0, [.int 0, .int (-1), .int 1, .ref q_6, .ref q_10])), (q_11, .inr (0, [.int 1, .int (-1), .int 0, .ref q_12, .ref q_16])), (q_17, .inr (0, [.int 2, .int (-1), .int 100, .ref q_18, .ref q_22]))] H := hP
  have hD : va_D A [(g1, .inr (5, [.ref q_1, .ref q_3, .int 0])), (q_1, .inl (k_2, 30, .inr (.inr (.inr (.inr (fun _ => none)))))), (q_3, .inl (k_4, 5, .inr (.inr (.inr (.inr (va_up (va_up (va_up (fun _ => none) (0 : Int32).toNatClampNeg (some q_5)) (1 : Int32).toNatClampNeg (some q_11)) (2 : Int32).toNatClampNeg (some q_17))))))), (q_5, .inr (0, [.int 0, .int (-1), .int 1, .ref q_6, .ref q_10])), (q_11, .inr (0, [.int 1, .int (-1), .int 0, .ref q_12, .ref q_16])), (q_17, .inr (0, [.int 2, .int (-1), .int 100, .ref q_18, .ref q_22]))] := hD
  refine lv_aload_n hx hb dX5_init_89 rfl (lv_at hl 0 rfl) ?_
  refine va_get (D := (dC, dI)) (ci := 5) (v := .ref q_3) (C := RX5) (T := TX5) (N := 3) hx hb hts in_wsX5_init_X5 hown hK hP 0 rfl rfl 1 (by decide) (hts (.fieldLink RX5 17 "ShipOffice$Law" "customs" "[LShipOffice$Act;") (by decide +kernel)) (fun _ h9 => h9) rfl dX5_init_90 ?_
  refine lv_iconst (v := 3) hx hb dX5_init_93 (by decide) ?_
  refine va_new (ci := 0) (fs := [.int 0, .int 0, .int 0, .null, .null]) (C := RX0) (T := TX0) (N := 5) hx hb hts in_wsX5_init_X0 tyX0 tyX0_ok hown (hts (.classLink RX5 9 RX0) (by decide +kernel)) (hts (.instantiable RX0 5) (by decide +kernel)) (hts (.initialized RX0) (by decide +kernel)) hK hP hD hS hA rfl (fun j hj => by rcases (show j = 0 ∨ j = 1 ∨ j = 2 ∨ j = 3 ∨ j = 4 by omega) with rfl | rfl | rfl | rfl | rfl <;> rfl) (Nat.le_of_ble_eq_true rfl) (Nat.le_of_ble_eq_true rfl) dX5_init_94 (fun q_23 H hP hD hS => ?_)
  have hP : va_P (dC, dI) vwCl [(g1, .inr (5, [.ref q_1, .ref q_3, .int 0])), (q_1, .inl (k_2, 30, .inr (.inr (.inr (.inr (fun _ => none)))))), (q_3, .inl (k_4, 5, .inr (.inr (.inr (.inr (va_up (va_up (va_up (fun _ => none) (0 : Int32).toNatClampNeg (some q_5)) (1 : Int32).toNatClampNeg (some q_11)) (2 : Int32).toNatClampNeg (some q_17))))))), (q_5, .inr (0, [.int 0, .int (-1), .int 1, .ref q_6, .ref q_10])), (q_11, .inr (0, [.int 1, .int (-1), .int 0, .ref q_12, .ref q_16])), (q_17, .inr (0, [.int 2, .int (-1), .int 100, .ref q_18, .ref q_22])), (q_23, .inr (0, [.int 0, .int 0, .int 0, .null, .null]))] H := hP
  have hD : va_D A [(g1, .inr (5, [.ref q_1, .ref q_3, .int 0])), (q_1, .inl (k_2, 30, .inr (.inr (.inr (.inr (fun _ => none)))))), (q_3, .inl (k_4, 5, .inr (.inr (.inr (.inr (va_up (va_up (va_up (fun _ => none) (0 : Int32).toNatClampNeg (some q_5)) (1 : Int32).toNatClampNeg (some q_11)) (2 : Int32).toNatClampNeg (some q_17))))))), (q_5, .inr (0, [.int 0, .int (-1), .int 1, .ref q_6, .ref q_10])), (q_11, .inr (0, [.int 1, .int (-1), .int 0, .ref q_12, .ref q_16])), (q_17, .inr (0, [.int 2, .int (-1), .int 100, .ref q_18, .ref q_22])), (q_23, .inr (0, [.int 0, .int 0, .int 0, .null, .null]))] := hD
  refine W.widen (k := 15) (n := 88) (Nat.le_of_ble_eq_true rfl) (Nat.le_of_ble_eq_true rfl) ?_
  refine lv_dup hx hb dX5_init_97 rfl ?_
  refine lv_iconst (v := 3) hx hb dX5_init_98 (by decide) ?_
  refine lv_iconst (v := (-1)) hx hb dX5_init_99 (by decide) ?_
  refine lv_iconst (v := 1) hx hb dX5_init_100 (by decide) ?_
  refine va_newa (atype := .int) (ty := .int) (a0 := (1, .inl (fun _ => 0))) hx hb (hts (.arrayClass .int) (by decide +kernel)) rfl hK hP hD hS hA (fun _ => rfl) (by decide) (by decide) (by decide) (Nat.le_of_ble_eq_true rfl) (Nat.le_of_ble_eq_true rfl) dX5_init_101 (fun q_24 k_25 H hK hP hD hS => ?_)
  have hP : va_P (dC, dI) vwCl [(g1, .inr (5, [.ref q_1, .ref q_3, .int 0])), (q_1, .inl (k_2, 30, .inr (.inr (.inr (.inr (fun _ => none)))))), (q_3, .inl (k_4, 5, .inr (.inr (.inr (.inr (va_up (va_up (va_up (fun _ => none) (0 : Int32).toNatClampNeg (some q_5)) (1 : Int32).toNatClampNeg (some q_11)) (2 : Int32).toNatClampNeg (some q_17))))))), (q_5, .inr (0, [.int 0, .int (-1), .int 1, .ref q_6, .ref q_10])), (q_11, .inr (0, [.int 1, .int (-1), .int 0, .ref q_12, .ref q_16])), (q_17, .inr (0, [.int 2, .int (-1), .int 100, .ref q_18, .ref q_22])), (q_23, .inr (0, [.int 0, .int 0, .int 0, .null, .null])), (q_24, .inl (k_25, 1, .inl (fun _ => 0)))] H := hP
  have hD : va_D A [(g1, .inr (5, [.ref q_1, .ref q_3, .int 0])), (q_1, .inl (k_2, 30, .inr (.inr (.inr (.inr (fun _ => none)))))), (q_3, .inl (k_4, 5, .inr (.inr (.inr (.inr (va_up (va_up (va_up (fun _ => none) (0 : Int32).toNatClampNeg (some q_5)) (1 : Int32).toNatClampNeg (some q_11)) (2 : Int32).toNatClampNeg (some q_17))))))), (q_5, .inr (0, [.int 0, .int (-1), .int 1, .ref q_6, .ref q_10])), (q_11, .inr (0, [.int 1, .int (-1), .int 0, .ref q_12, .ref q_16])), (q_17, .inr (0, [.int 2, .int (-1), .int 100, .ref q_18, .ref q_22])), (q_23, .inr (0, [.int 0, .int 0, .int 0, .null, .null])), (q_24, .inl (k_25, 1, .inl (fun _ => 0)))] := hD
  have hK : va_K (dC, dI) vwCl [(k_2, .object RX0), (k_4, .object RX0), (k_7, .int), (k_13, .int), (k_19, .int), (k_25, .int)] s := hK
  refine W.widen (k := 16) (n := 89) (Nat.le_of_ble_eq_true rfl) (Nat.le_of_ble_eq_true rfl) ?_
  refine lv_dup hx hb dX5_init_103 rfl ?_
  refine lv_iconst (v := 0) hx hb dX5_init_104 (by decide) ?_
  refine lv_bipush (v := 50) hx hb dX5_init_105 (by decide) ?_
  refine va_iast hx hb hK hP hD hS 7 5 rfl rfl (by unfold vp_in; decide) dX5_init_107 (fun H locs hP hD hS => ?_)
  have hP : va_P (dC, dI) vwCl [(g1, .inr (5, [.ref q_1, .ref q_3, .int 0])), (q_1, .inl (k_2, 30, .inr (.inr (.inr (.inr (fun _ => none)))))), (q_3, .inl (k_4, 5, .inr (.inr (.inr (.inr (va_up (va_up (va_up (fun _ => none) (0 : Int32).toNatClampNeg (some q_5)) (1 : Int32).toNatClampNeg (some q_11)) (2 : Int32).toNatClampNeg (some q_17))))))), (q_5, .inr (0, [.int 0, .int (-1), .int 1, .ref q_6, .ref q_10])), (q_11, .inr (0, [.int 1, .int (-1), .int 0, .ref q_12, .ref q_16])), (q_17, .inr (0, [.int 2, .int (-1), .int 100, .ref q_18, .ref q_22])), (q_23, .inr (0, [.int 0, .int 0, .int 0, .null, .null])), (q_24, .inl (k_25, 1, .inl (upd (fun _ => 0) (0 : Int32).toNatClampNeg 50)))] H := hP
  have hD : va_D A [(g1, .inr (5, [.ref q_1, .ref q_3, .int 0])), (q_1, .inl (k_2, 30, .inr (.inr (.inr (.inr (fun _ => none)))))), (q_3, .inl (k_4, 5, .inr (.inr (.inr (.inr (va_up (va_up (va_up (fun _ => none) (0 : Int32).toNatClampNeg (some q_5)) (1 : Int32).toNatClampNeg (some q_11)) (2 : Int32).toNatClampNeg (some q_17))))))), (q_5, .inr (0, [.int 0, .int (-1), .int 1, .ref q_6, .ref q_10])), (q_11, .inr (0, [.int 1, .int (-1), .int 0, .ref q_12, .ref q_16])), (q_17, .inr (0, [.int 2, .int (-1), .int 100, .ref q_18, .ref q_22])), (q_23, .inr (0, [.int 0, .int 0, .int 0, .null, .null])), (q_24, .inl (k_25, 1, .inl (upd (fun _ => 0) (0 : Int32).toNatClampNeg 50)))] := hD
  have hPc := hP.sub (ws' := [(q_23, .inr (0, [.int 0, .int 0, .int 0, .null, .null])), (q_24, .inl (k_25, 1, .inl (upd (fun _ => 0) (0 : Int32).toNatClampNeg 50)))]) [6, 7] rfl
  have hDc := hD.sub (ws' := [(q_23, .inr (0, [.int 0, .int 0, .int 0, .null, .null])), (q_24, .inl (k_25, 1, .inl (upd (fun _ => 0) (0 : Int32).toNatClampNeg 50)))]) [6, 7] (by decide) rfl
  have hKc := hK.sub (tys' := [(k_25, .int)]) [5] rfl
  have hFc := va_free (wc := [(q_23, .inr (0, [.int 0, .int 0, .int 0, .null, .null])), (q_24, .inl (k_25, 1, .inl (upd (fun _ => 0) (0 : Int32).toNatClampNeg 50)))]) hD hS hA [6, 7] rfl
  refine va_callv (va_runI (As := [.int 3, .int (-1), .ref q_24]) (rest := [.ref q_23, .int 3, .ref q_3]) ⟨hx, hb, hml, hown, hts⟩ (c_X0_init_50 l dC dI H.size tL tS q_23 q_24 k_25 3) (cwI 3 hts gX5_init_X0_init rfl rfl rfl (hts (.initialized RX0) (by decide +kernel)) (hts (.methodLink RX5 20 yX0_init) (by decide +kernel)) (hts (.instanceMethod yX0_init) (by decide +kernel)) rfl (by decide +kernel) ⟨(Nat.le_of_ble_eq_true rfl), (Nat.le_of_ble_eq_true rfl)⟩) (pr_SS hPc hKc hDc (hZ.go hS hFc)) rfl rfl hl.1 rfl (lv_room (Nat.le_of_ble_eq_true rfl)) dX5_init_108 ⟨(Nat.le_of_ble_eq_true rfl), (Nat.le_of_ble_eq_true rfl)⟩) hS (fun q _ h => hFc q h) hFc (fun u t H locs ht hvm w_26 hB hz1 hk1 hS => ?_)
  obtain ⟨q_28, rfl⟩ : ∃ z, z = u := ⟨_, rfl⟩
  obtain ⟨hP1, hK1, hD1⟩ := hB
  rw [ht] at hP1
  have hK1 := va_K.moved hvm.symm hK1
  obtain ⟨hP, hD⟩ := va_join (wr := [(g1, .inr (5, [.ref q_1, .ref q_3, .int 0])), (q_1, .inl (k_2, 30, .inr (.inr (.inr (.inr (fun _ => none)))))), (q_3, .inl (k_4, 5, .inr (.inr (.inr (.inr (va_up (va_up (va_up (fun _ => none) (0 : Int32).toNatClampNeg (some q_5)) (1 : Int32).toNatClampNeg (some q_11)) (2 : Int32).toNatClampNeg (some q_17))))))), (q_5, .inr (0, [.int 0, .int (-1), .int 1, .ref q_6, .ref q_10])), (q_11, .inr (0, [.int 1, .int (-1), .int 0, .ref q_12, .ref q_16])), (q_17, .inr (0, [.int 2, .int (-1), .int 100, .ref q_18, .ref q_22]))]) (w1 := [(q_23, .inr (0, [.int 3, .int (-1), .int 50, .ref q_24, .ref q_28]))]) hP hD [6, 7] [0, 1, 2, 3, 4, 5] rfl rfl (by decide) (by decide) hk1 hFc hP1 hD1
  have hK := hK.app hK1
  have hP : va_P (dC, dI) vwCl [(g1, .inr (5, [.ref q_1, .ref q_3, .int 0])), (q_1, .inl (k_2, 30, .inr (.inr (.inr (.inr (fun _ => none)))))), (q_3, .inl (k_4, 5, .inr (.inr (.inr (.inr (va_up (va_up (va_up (fun _ => none) (0 : Int32).toNatClampNeg (some q_5)) (1 : Int32).toNatClampNeg (some q_11)) (2 : Int32).toNatClampNeg (some q_17))))))), (q_5, .inr (0, [.int 0, .int (-1), .int 1, .ref q_6, .ref q_10])), (q_11, .inr (0, [.int 1, .int (-1), .int 0, .ref q_12, .ref q_16])), (q_17, .inr (0, [.int 2, .int (-1), .int 100, .ref q_18, .ref q_22])), (q_23, .inr (0, [.int 3, .int (-1), .int 50, .ref q_24, .ref q_28]))] H := hP
  have hD : va_D A [(g1, .inr (5, [.ref q_1, .ref q_3, .int 0])), (q_1, .inl (k_2, 30, .inr (.inr (.inr (.inr (fun _ => none)))))), (q_3, .inl (k_4, 5, .inr (.inr (.inr (.inr (va_up (va_up (va_up (fun _ => none) (0 : Int32).toNatClampNeg (some q_5)) (1 : Int32).toNatClampNeg (some q_11)) (2 : Int32).toNatClampNeg (some q_17))))))), (q_5, .inr (0, [.int 0, .int (-1), .int 1, .ref q_6, .ref q_10])), (q_11, .inr (0, [.int 1, .int (-1), .int 0, .ref q_12, .ref q_16])), (q_17, .inr (0, [.int 2, .int (-1), .int 100, .ref q_18, .ref q_22])), (q_23, .inr (0, [.int 3, .int (-1), .int 50, .ref q_24, .ref q_28]))] := hD
  have hK : va_K (dC, dI) vwCl [(k_2, .object RX0), (k_4, .object RX0), (k_7, .int), (k_13, .int), (k_19, .int), (k_25, .int)] s := hK
  clear hP1 hK1 hD1 hk1 hz1 hvm ht hPc hDc hKc hFc
  refine W.widen (k := 18) (n := 99) (Nat.le_of_ble_eq_true rfl) (Nat.le_of_ble_eq_true rfl) ?_
  refine va_astq (r := (RX0, TX0, 5)) hx hb hK hP hD hS 2 1 6 0 rfl rfl rfl rfl (by unfold vp_in; decide) dX5_init_111 (fun H locs hP hD hS => ?_)
  have hP : va_P (dC, dI) vwCl [(g1, .inr (5, [.ref q_1, .ref q_3, .int 0])), (q_1, .inl (k_2, 30, .inr (.inr (.inr (.inr (fun _ => none)))))), (q_3, .inl (k_4, 5, .inr (.inr (.inr (.inr (va_up (va_up (va_up (va_up (fun _ => none) (0 : Int32).toNatClampNeg (some q_5)) (1 : Int32).toNatClampNeg (some q_11)) (2 : Int32).toNatClampNeg (some q_17)) (3 : Int32).toNatClampNeg (some q_23))))))), (q_5, .inr (0, [.int 0, .int (-1), .int 1, .ref q_6, .ref q_10])), (q_11, .inr (0, [.int 1, .int (-1), .int 0, .ref q_12, .ref q_16])), (q_17, .inr (0, [.int 2, .int (-1), .int 100, .ref q_18, .ref q_22])), (q_23, .inr (0, [.int 3, .int (-1), .int 50, .ref q_24, .ref q_28]))] H := hP
  have hD : va_D A [(g1, .inr (5, [.ref q_1, .ref q_3, .int 0])), (q_1, .inl (k_2, 30, .inr (.inr (.inr (.inr (fun _ => none)))))), (q_3, .inl (k_4, 5, .inr (.inr (.inr (.inr (va_up (va_up (va_up (va_up (fun _ => none) (0 : Int32).toNatClampNeg (some q_5)) (1 : Int32).toNatClampNeg (some q_11)) (2 : Int32).toNatClampNeg (some q_17)) (3 : Int32).toNatClampNeg (some q_23))))))), (q_5, .inr (0, [.int 0, .int (-1), .int 1, .ref q_6, .ref q_10])), (q_11, .inr (0, [.int 1, .int (-1), .int 0, .ref q_12, .ref q_16])), (q_17, .inr (0, [.int 2, .int (-1), .int 100, .ref q_18, .ref q_22])), (q_23, .inr (0, [.int 3, .int (-1), .int 50, .ref q_24, .ref q_28]))] := hD
  refine lv_aload_n hx hb dX5_init_112 rfl (lv_at hl 0 rfl) ?_
  refine va_get (D := (dC, dI)) (ci := 5) (v := .ref q_3) (C := RX5) (T := TX5) (N := 3) hx hb hts in_wsX5_init_X5 hown hK hP 0 rfl rfl 1 (by decide) (hts (.fieldLink RX5 17 "ShipOffice$Law" "customs" "[LShipOffice$Act;") (by decide +kernel)) (fun _ h9 => h9) rfl dX5_init_113 ?_
  refine lv_iconst (v := 4) hx hb dX5_init_116 (by decide) ?_
  refine va_new (ci := 0) (fs := [.int 0, .int 0, .int 0, .null, .null]) (C := RX0) (T := TX0) (N := 5) hx hb hts in_wsX5_init_X0 tyX0 tyX0_ok hown (hts (.classLink RX5 9 RX0) (by decide +kernel)) (hts (.instantiable RX0 5) (by decide +kernel)) (hts (.initialized RX0) (by decide +kernel)) hK hP hD hS hA rfl (fun j hj => by rcases (show j = 0 ∨ j = 1 ∨ j = 2 ∨ j = 3 ∨ j = 4 by omega) with rfl | rfl | rfl | rfl | rfl <;> rfl) (Nat.le_of_ble_eq_true rfl) (Nat.le_of_ble_eq_true rfl) dX5_init_117 (fun q_29 H hP hD hS => ?_)
  have hP : va_P (dC, dI) vwCl [(g1, .inr (5, [.ref q_1, .ref q_3, .int 0])), (q_1, .inl (k_2, 30, .inr (.inr (.inr (.inr (fun _ => none)))))), (q_3, .inl (k_4, 5, .inr (.inr (.inr (.inr (va_up (va_up (va_up (va_up (fun _ => none) (0 : Int32).toNatClampNeg (some q_5)) (1 : Int32).toNatClampNeg (some q_11)) (2 : Int32).toNatClampNeg (some q_17)) (3 : Int32).toNatClampNeg (some q_23))))))), (q_5, .inr (0, [.int 0, .int (-1), .int 1, .ref q_6, .ref q_10])), (q_11, .inr (0, [.int 1, .int (-1), .int 0, .ref q_12, .ref q_16])), (q_17, .inr (0, [.int 2, .int (-1), .int 100, .ref q_18, .ref q_22])), (q_23, .inr (0, [.int 3, .int (-1), .int 50, .ref q_24, .ref q_28])), (q_29, .inr (0, [.int 0, .int 0, .int 0, .null, .null]))] H := hP
  have hD : va_D A [(g1, .inr (5, [.ref q_1, .ref q_3, .int 0])), (q_1, .inl (k_2, 30, .inr (.inr (.inr (.inr (fun _ => none)))))), (q_3, .inl (k_4, 5, .inr (.inr (.inr (.inr (va_up (va_up (va_up (va_up (fun _ => none) (0 : Int32).toNatClampNeg (some q_5)) (1 : Int32).toNatClampNeg (some q_11)) (2 : Int32).toNatClampNeg (some q_17)) (3 : Int32).toNatClampNeg (some q_23))))))), (q_5, .inr (0, [.int 0, .int (-1), .int 1, .ref q_6, .ref q_10])), (q_11, .inr (0, [.int 1, .int (-1), .int 0, .ref q_12, .ref q_16])), (q_17, .inr (0, [.int 2, .int (-1), .int 100, .ref q_18, .ref q_22])), (q_23, .inr (0, [.int 3, .int (-1), .int 50, .ref q_24, .ref q_28])), (q_29, .inr (0, [.int 0, .int 0, .int 0, .null, .null]))] := hD
  refine W.widen (k := 19) (n := 104) (Nat.le_of_ble_eq_true rfl) (Nat.le_of_ble_eq_true rfl) ?_
  refine lv_dup hx hb dX5_init_120 rfl ?_
  refine lv_iconst (v := 4) hx hb dX5_init_121 (by decide) ?_
  refine lv_iconst (v := (-1)) hx hb dX5_init_122 (by decide) ?_
  refine lv_iconst (v := 1) hx hb dX5_init_123 (by decide) ?_
  refine va_newa (atype := .int) (ty := .int) (a0 := (1, .inl (fun _ => 0))) hx hb (hts (.arrayClass .int) (by decide +kernel)) rfl hK hP hD hS hA (fun _ => rfl) (by decide) (by decide) (by decide) (Nat.le_of_ble_eq_true rfl) (Nat.le_of_ble_eq_true rfl) dX5_init_124 (fun q_30 k_31 H hK hP hD hS => ?_)
  have hP : va_P (dC, dI) vwCl [(g1, .inr (5, [.ref q_1, .ref q_3, .int 0])), (q_1, .inl (k_2, 30, .inr (.inr (.inr (.inr (fun _ => none)))))), (q_3, .inl (k_4, 5, .inr (.inr (.inr (.inr (va_up (va_up (va_up (va_up (fun _ => none) (0 : Int32).toNatClampNeg (some q_5)) (1 : Int32).toNatClampNeg (some q_11)) (2 : Int32).toNatClampNeg (some q_17)) (3 : Int32).toNatClampNeg (some q_23))))))), (q_5, .inr (0, [.int 0, .int (-1), .int 1, .ref q_6, .ref q_10])), (q_11, .inr (0, [.int 1, .int (-1), .int 0, .ref q_12, .ref q_16])), (q_17, .inr (0, [.int 2, .int (-1), .int 100, .ref q_18, .ref q_22])), (q_23, .inr (0, [.int 3, .int (-1), .int 50, .ref q_24, .ref q_28])), (q_29, .inr (0, [.int 0, .int 0, .int 0, .null, .null])), (q_30, .inl (k_31, 1, .inl (fun _ => 0)))] H := hP
  have hD : va_D A [(g1, .inr (5, [.ref q_1, .ref q_3, .int 0])), (q_1, .inl (k_2, 30, .inr (.inr (.inr (.inr (fun _ => none)))))), (q_3, .inl (k_4, 5, .inr (.inr (.inr (.inr (va_up (va_up (va_up (va_up (fun _ => none) (0 : Int32).toNatClampNeg (some q_5)) (1 : Int32).toNatClampNeg (some q_11)) (2 : Int32).toNatClampNeg (some q_17)) (3 : Int32).toNatClampNeg (some q_23))))))), (q_5, .inr (0, [.int 0, .int (-1), .int 1, .ref q_6, .ref q_10])), (q_11, .inr (0, [.int 1, .int (-1), .int 0, .ref q_12, .ref q_16])), (q_17, .inr (0, [.int 2, .int (-1), .int 100, .ref q_18, .ref q_22])), (q_23, .inr (0, [.int 3, .int (-1), .int 50, .ref q_24, .ref q_28])), (q_29, .inr (0, [.int 0, .int 0, .int 0, .null, .null])), (q_30, .inl (k_31, 1, .inl (fun _ => 0)))] := hD
  have hK : va_K (dC, dI) vwCl [(k_2, .object RX0), (k_4, .object RX0), (k_7, .int), (k_13, .int), (k_19, .int), (k_25, .int), (k_31, .int)] s := hK
  refine W.widen (k := 20) (n := 105) (Nat.le_of_ble_eq_true rfl) (Nat.le_of_ble_eq_true rfl) ?_
  refine lv_dup hx hb dX5_init_126 rfl ?_
  refine lv_iconst (v := 0) hx hb dX5_init_127 (by decide) ?_
  refine lv_bipush (v := 90) hx hb dX5_init_128 (by decide) ?_
  refine va_iast hx hb hK hP hD hS 8 6 rfl rfl (by unfold vp_in; decide) dX5_init_130 (fun H locs hP hD hS => ?_)
  have hP : va_P (dC, dI) vwCl [(g1, .inr (5, [.ref q_1, .ref q_3, .int 0])), (q_1, .inl (k_2, 30, .inr (.inr (.inr (.inr (fun _ => none)))))), (q_3, .inl (k_4, 5, .inr (.inr (.inr (.inr (va_up (va_up (va_up (va_up (fun _ => none) (0 : Int32).toNatClampNeg (some q_5)) (1 : Int32).toNatClampNeg (some q_11)) (2 : Int32).toNatClampNeg (some q_17)) (3 : Int32).toNatClampNeg (some q_23))))))), (q_5, .inr (0, [.int 0, .int (-1), .int 1, .ref q_6, .ref q_10])), (q_11, .inr (0, [.int 1, .int (-1), .int 0, .ref q_12, .ref q_16])), (q_17, .inr (0, [.int 2, .int (-1), .int 100, .ref q_18, .ref q_22])), (q_23, .inr (0, [.int 3, .int (-1), .int 50, .ref q_24, .ref q_28])), (q_29, .inr (0, [.int 0, .int 0, .int 0, .null, .null])), (q_30, .inl (k_31, 1, .inl (upd (fun _ => 0) (0 : Int32).toNatClampNeg 90)))] H := hP
  have hD : va_D A [(g1, .inr (5, [.ref q_1, .ref q_3, .int 0])), (q_1, .inl (k_2, 30, .inr (.inr (.inr (.inr (fun _ => none)))))), (q_3, .inl (k_4, 5, .inr (.inr (.inr (.inr (va_up (va_up (va_up (va_up (fun _ => none) (0 : Int32).toNatClampNeg (some q_5)) (1 : Int32).toNatClampNeg (some q_11)) (2 : Int32).toNatClampNeg (some q_17)) (3 : Int32).toNatClampNeg (some q_23))))))), (q_5, .inr (0, [.int 0, .int (-1), .int 1, .ref q_6, .ref q_10])), (q_11, .inr (0, [.int 1, .int (-1), .int 0, .ref q_12, .ref q_16])), (q_17, .inr (0, [.int 2, .int (-1), .int 100, .ref q_18, .ref q_22])), (q_23, .inr (0, [.int 3, .int (-1), .int 50, .ref q_24, .ref q_28])), (q_29, .inr (0, [.int 0, .int 0, .int 0, .null, .null])), (q_30, .inl (k_31, 1, .inl (upd (fun _ => 0) (0 : Int32).toNatClampNeg 90)))] := hD
  have hPc := hP.sub (ws' := [(q_29, .inr (0, [.int 0, .int 0, .int 0, .null, .null])), (q_30, .inl (k_31, 1, .inl (upd (fun _ => 0) (0 : Int32).toNatClampNeg 90)))]) [7, 8] rfl
  have hDc := hD.sub (ws' := [(q_29, .inr (0, [.int 0, .int 0, .int 0, .null, .null])), (q_30, .inl (k_31, 1, .inl (upd (fun _ => 0) (0 : Int32).toNatClampNeg 90)))]) [7, 8] (by decide) rfl
  have hKc := hK.sub (tys' := [(k_31, .int)]) [6] rfl
  have hFc := va_free (wc := [(q_29, .inr (0, [.int 0, .int 0, .int 0, .null, .null])), (q_30, .inl (k_31, 1, .inl (upd (fun _ => 0) (0 : Int32).toNatClampNeg 90)))]) hD hS hA [7, 8] rfl
  refine va_callv (va_runI (As := [.int 4, .int (-1), .ref q_30]) (rest := [.ref q_29, .int 4, .ref q_3]) ⟨hx, hb, hml, hown, hts⟩ (c_X0_init_90 l dC dI H.size tL tS q_29 q_30 k_31 4) (cwI 3 hts gX5_init_X0_init rfl rfl rfl (hts (.initialized RX0) (by decide +kernel)) (hts (.methodLink RX5 20 yX0_init) (by decide +kernel)) (hts (.instanceMethod yX0_init) (by decide +kernel)) rfl (by decide +kernel) ⟨(Nat.le_of_ble_eq_true rfl), (Nat.le_of_ble_eq_true rfl)⟩) (pr_SS hPc hKc hDc (hZ.go hS hFc)) rfl rfl hl.1 rfl (lv_room (Nat.le_of_ble_eq_true rfl)) dX5_init_131 ⟨(Nat.le_of_ble_eq_true rfl), (Nat.le_of_ble_eq_true rfl)⟩) hS (fun q _ h => hFc q h) hFc (fun u t H locs ht hvm w_32 hB hz1 hk1 hS => ?_)
  obtain ⟨q_34, rfl⟩ : ∃ z, z = u := ⟨_, rfl⟩
  obtain ⟨hP1, hK1, hD1⟩ := hB
  rw [ht] at hP1
  have hK1 := va_K.moved hvm.symm hK1
  obtain ⟨hP, hD⟩ := va_join (wr := [(g1, .inr (5, [.ref q_1, .ref q_3, .int 0])), (q_1, .inl (k_2, 30, .inr (.inr (.inr (.inr (fun _ => none)))))), (q_3, .inl (k_4, 5, .inr (.inr (.inr (.inr (va_up (va_up (va_up (va_up (fun _ => none) (0 : Int32).toNatClampNeg (some q_5)) (1 : Int32).toNatClampNeg (some q_11)) (2 : Int32).toNatClampNeg (some q_17)) (3 : Int32).toNatClampNeg (some q_23))))))), (q_5, .inr (0, [.int 0, .int (-1), .int 1, .ref q_6, .ref q_10])), (q_11, .inr (0, [.int 1, .int (-1), .int 0, .ref q_12, .ref q_16])), (q_17, .inr (0, [.int 2, .int (-1), .int 100, .ref q_18, .ref q_22])), (q_23, .inr (0, [.int 3, .int (-1), .int 50, .ref q_24, .ref q_28]))]) (w1 := [(q_29, .inr (0, [.int 4, .int (-1), .int 90, .ref q_30, .ref q_34]))]) hP hD [7, 8] [0, 1, 2, 3, 4, 5, 6] rfl rfl (by decide) (by decide) hk1 hFc hP1 hD1
  have hK := hK.app hK1
  have hP : va_P (dC, dI) vwCl [(g1, .inr (5, [.ref q_1, .ref q_3, .int 0])), (q_1, .inl (k_2, 30, .inr (.inr (.inr (.inr (fun _ => none)))))), (q_3, .inl (k_4, 5, .inr (.inr (.inr (.inr (va_up (va_up (va_up (va_up (fun _ => none) (0 : Int32).toNatClampNeg (some q_5)) (1 : Int32).toNatClampNeg (some q_11)) (2 : Int32).toNatClampNeg (some q_17)) (3 : Int32).toNatClampNeg (some q_23))))))), (q_5, .inr (0, [.int 0, .int (-1), .int 1, .ref q_6, .ref q_10])), (q_11, .inr (0, [.int 1, .int (-1), .int 0, .ref q_12, .ref q_16])), (q_17, .inr (0, [.int 2, .int (-1), .int 100, .ref q_18, .ref q_22])), (q_23, .inr (0, [.int 3, .int (-1), .int 50, .ref q_24, .ref q_28])), (q_29, .inr (0, [.int 4, .int (-1), .int 90, .ref q_30, .ref q_34]))] H := hP
  have hD : va_D A [(g1, .inr (5, [.ref q_1, .ref q_3, .int 0])), (q_1, .inl (k_2, 30, .inr (.inr (.inr (.inr (fun _ => none)))))), (q_3, .inl (k_4, 5, .inr (.inr (.inr (.inr (va_up (va_up (va_up (va_up (fun _ => none) (0 : Int32).toNatClampNeg (some q_5)) (1 : Int32).toNatClampNeg (some q_11)) (2 : Int32).toNatClampNeg (some q_17)) (3 : Int32).toNatClampNeg (some q_23))))))), (q_5, .inr (0, [.int 0, .int (-1), .int 1, .ref q_6, .ref q_10])), (q_11, .inr (0, [.int 1, .int (-1), .int 0, .ref q_12, .ref q_16])), (q_17, .inr (0, [.int 2, .int (-1), .int 100, .ref q_18, .ref q_22])), (q_23, .inr (0, [.int 3, .int (-1), .int 50, .ref q_24, .ref q_28])), (q_29, .inr (0, [.int 4, .int (-1), .int 90, .ref q_30, .ref q_34]))] := hD
  have hK : va_K (dC, dI) vwCl [(k_2, .object RX0), (k_4, .object RX0), (k_7, .int), (k_13, .int), (k_19, .int), (k_25, .int), (k_31, .int)] s := hK
  clear hP1 hK1 hD1 hk1 hz1 hvm ht hPc hDc hKc hFc
  refine W.widen (k := 22) (n := 115) (Nat.le_of_ble_eq_true rfl) (Nat.le_of_ble_eq_true rfl) ?_
  refine va_astq (r := (RX0, TX0, 5)) hx hb hK hP hD hS 2 1 7 0 rfl rfl rfl rfl (by unfold vp_in; decide) dX5_init_134 (fun H locs hP hD hS => ?_)
  have hP : va_P (dC, dI) vwCl [(g1, .inr (5, [.ref q_1, .ref q_3, .int 0])), (q_1, .inl (k_2, 30, .inr (.inr (.inr (.inr (fun _ => none)))))), (q_3, .inl (k_4, 5, .inr (.inr (.inr (.inr (va_up (va_up (va_up (va_up (va_up (fun _ => none) (0 : Int32).toNatClampNeg (some q_5)) (1 : Int32).toNatClampNeg (some q_11)) (2 : Int32).toNatClampNeg (some q_17)) (3 : Int32).toNatClampNeg (some q_23)) (4 : Int32).toNatClampNeg (some q_29))))))), (q_5, .inr (0, [.int 0, .int (-1), .int 1, .ref q_6, .ref q_10])), (q_11, .inr (0, [.int 1, .int (-1), .int 0, .ref q_12, .ref q_16])), (q_17, .inr (0, [.int 2, .int (-1), .int 100, .ref q_18, .ref q_22])), (q_23, .inr (0, [.int 3, .int (-1), .int 50, .ref q_24, .ref q_28])), (q_29, .inr (0, [.int 4, .int (-1), .int 90, .ref q_30, .ref q_34]))] H := hP
  have hD : va_D A [(g1, .inr (5, [.ref q_1, .ref q_3, .int 0])), (q_1, .inl (k_2, 30, .inr (.inr (.inr (.inr (fun _ => none)))))), (q_3, .inl (k_4, 5, .inr (.inr (.inr (.inr (va_up (va_up (va_up (va_up (va_up (fun _ => none) (0 : Int32).toNatClampNeg (some q_5)) (1 : Int32).toNatClampNeg (some q_11)) (2 : Int32).toNatClampNeg (some q_17)) (3 : Int32).toNatClampNeg (some q_23)) (4 : Int32).toNatClampNeg (some q_29))))))), (q_5, .inr (0, [.int 0, .int (-1), .int 1, .ref q_6, .ref q_10])), (q_11, .inr (0, [.int 1, .int (-1), .int 0, .ref q_12, .ref q_16])), (q_17, .inr (0, [.int 2, .int (-1), .int 100, .ref q_18, .ref q_22])), (q_23, .inr (0, [.int 3, .int (-1), .int 50, .ref q_24, .ref q_28])), (q_29, .inr (0, [.int 4, .int (-1), .int 90, .ref q_30, .ref q_34]))] := hD
  have hP9 := hP.sub (ws' := [(g1, .inr (5, [.ref q_1, .ref q_3, .int 0]))]) [0] rfl
  have hD9 := hD.sub (ws' := [(g1, .inr (5, [.ref q_1, .ref q_3, .int 0]))]) [0] (by decide) rfl
  have hK9 := hK.sub (tys' := []) [] rfl
  subst hAe
  exact W.vret hx hb hr (fun t ht hW => ⟨⟨(q_1, q_3), rfl, trivial, ⟨by rw [ht]; exact hP9, va_K.moved hW.alike hK9, hD9⟩⟩, hS.F ht⟩) hS.2.2 dX5_init_135
set_option maxHeartbeats 4000000 in
set_option maxRecDepth 100000 in
theorem c_X8_init (l : Launch) (dC : Nat → ClassId) (dI : Nat → Nat → Nat) (sz : Nat) (g1 : Nat) : Met l yX8_init wsX8_init ({ frames := 1, cells := 2, slots := 120, locals := 14 }) (va_Pc [.ref g1] (pcW (dC, dI) [] [(g1, .inr (8, [.null, .int 0, .null, .int 0, .int 0, .int 0]))] sz)) (va_Qv (fun (u : Nat × ClassId × Nat) => True) (fun u t => va_P (dC, dI) vwCl [(g1, .inr (8, [.ref u.1, .int 0, .ref u.2.2, .int 0, .int 0, .int 0])), (u.1, .inl (u.2.1, 60, .inl (fun _ => 0)))] t.heap ∧ va_K (dC, dI) vwCl [(u.2.1, .int)] t ∧ va_D (va_A [(g1, .inr (8, [.null, .int 0, .null, .int 0, .int 0, .int 0]))] sz) [(g1, .inr (8, [.ref u.1, .int 0, .ref u.2.2, .int 0, .int 0, .int 0])), (u.1, .inl (u.2.1, 60, .inl (fun _ => 0)))]) (va_A [(g1, .inr (8, [.null, .int 0, .null, .int 0, .int 0, .int 0]))] sz)) 2 120 (va_A [(g1, .inr (8, [.null, .int 0, .null, .int 0, .int 0, .int 0]))] sz) := by
  refine Met.ofW (cc := cX8_init) (maxL := 1) (ret := none) (by decide) rfl ?_
  intro p e s m args below meth c s₁ B hml hv
  obtain ⟨rfl, hsz, hP, hK, hD0⟩ := hv
  have hx := B.exec
  have hb := B.bytes
  have hr := B.returns
  have hts := atoms_spec (ws := wsX8_init) B.pre
  have hown : s.vm.findClass RX8 = some m.cls := findClass_of_methodNamed B.named
  have hlocks := B.notSynchronized
  have hin : meth.name = "<init>" := (name_of_methodNamed B.named B.method).1
  subst hsz
  have hD := hD0.self (sz := s.heap.size)
  generalize hAe : va_A [(g1, .inr (8, [.null, .int 0, .null, .int 0, .int 0, .int 0]))] s.heap.size = A at hD ⊢
  have hA : ∀ q : Nat, s.heap.size ≤ q → A q := fun q h => by rw [← hAe]; exact Or.inr h
  have hS : va_S A s.heap s.heap [] := va_S.rf
  have hP : va_P (dC, dI) vwCl [(g1, .inr (8, [.null, .int 0, .null, .int 0, .int 0, .int 0]))] s.heap := hP
  have hl := lv_entry ([.ref g1]) (n := 1) (Nat.le_of_ble_eq_true rfl)
  rw [lg_entry_eq]
  generalize (lg_sl ([.ref g1]) ++ List.replicate (1 - (lg_sl ([.ref g1])).length) Slot.unset).toArray = ls at hl ⊢
  have hl : lv_has ls 1 [(0, .ref g1)] := hl
  refine lv_aload_n hx hb dX8_init_0 rfl (lv_at hl 0 rfl) ?_
  refine W.objInit hx hb hown (hts (.methodLink RX8 3 objectInit) (by decide +kernel)) (hts (.instanceMethod objectInit) (by decide +kernel)) (hts (.code objectInit ⟨#[0xb1]⟩ 1 none) (in_obj_wsX8_init)) rfl (by rw [hml]; exact hl.1) rfl dX8_init_1 (Nat.le_of_ble_eq_true rfl) (Nat.le_of_ble_eq_true rfl) ?_
  refine W.eq (g2 := F0 m 4 ls []) rfl ?_
  refine lv_aload_n hx hb dX8_init_4 rfl (lv_at hl 0 rfl) ?_
  refine lv_bipush (v := 60) hx hb dX8_init_5 (by decide) ?_
  refine va_newa (atype := .int) (ty := .int) (a0 := (60, .inl (fun _ => 0))) hx hb (hts (.arrayClass .int) (by decide +kernel)) rfl hK hP hD hS hA (fun _ => rfl) (by decide) (by decide) (by decide) (Nat.le_of_ble_eq_true rfl) (Nat.le_of_ble_eq_true rfl) dX8_init_7 (fun q_1 k_2 H hK hP hD hS => ?_)
  have hP : va_P (dC, dI) vwCl [(g1, .inr (8, [.null, .int 0, .null, .int 0, .int 0, .int 0])), (q_1, .inl (k_2, 60, .inl (fun _ => 0)))] H := hP
  have hD : va_D A [(g1, .inr (8, [.null, .int 0, .null, .int 0, .int 0, .int 0])), (q_1, .inl (k_2, 60, .inl (fun _ => 0)))] := hD
  have hK : va_K (dC, dI) vwCl [(k_2, .int)] s := hK
  refine W.widen (k := 1) (n := 60) (Nat.le_of_ble_eq_true rfl) (Nat.le_of_ble_eq_true rfl) ?_
  refine va_putF (D := (dC, dI)) (ci := 8) (v := .ref q_1) (ty := .array .int) (C := RX8) (T := TX8) (N := 6) hx hb hts in_wsX8_init_X8 tyX8 tyX8_ok nmX8 hown hK hP hD hS 0 rfl rfl 0 (by decide) (hts (.fieldLink RX8 9 "ShipOffice$Tape" "bytes" "[I") (by decide +kernel)) (fun _ h9 => h9) rfl hin rfl (by decide +kernel) rfl rfl (Nat.le_of_ble_eq_true rfl) dX8_init_9 (fun H locs hP hD hS => ?_)
  have hP : va_P (dC, dI) vwCl [(g1, .inr (8, [.ref q_1, .int 0, .null, .int 0, .int 0, .int 0])), (q_1, .inl (k_2, 60, .inl (fun _ => 0)))] H := hP
  have hD : va_D A [(g1, .inr (8, [.ref q_1, .int 0, .null, .int 0, .int 0, .int 0])), (q_1, .inl (k_2, 60, .inl (fun _ => 0)))] := hD
  refine lv_aload_n hx hb dX8_init_12 rfl (lv_at hl 0 rfl) ?_
  refine lv_bipush (v := 60) hx hb dX8_init_13 (by decide) ?_
  refine va_newa (atype := .int) (ty := .int) (a0 := (60, .inl (fun _ => 0))) hx hb (hts (.arrayClass .int) (by decide +kernel)) rfl hK hP hD hS hA (fun _ => rfl) (by decide) (by decide) (by decide) (Nat.le_of_ble_eq_true rfl) (Nat.le_of_ble_eq_true rfl) dX8_init_15 (fun q_3 k_4 H hK hP hD hS => ?_)
  have hP : va_P (dC, dI) vwCl [(g1, .inr (8, [.ref q_1, .int 0, .null, .int 0, .int 0, .int 0])), (q_1, .inl (k_2, 60, .inl (fun _ => 0))), (q_3, .inl (k_4, 60, .inl (fun _ => 0)))] H := hP
  have hD : va_D A [(g1, .inr (8, [.ref q_1, .int 0, .null, .int 0, .int 0, .int 0])), (q_1, .inl (k_2, 60, .inl (fun _ => 0))), (q_3, .inl (k_4, 60, .inl (fun _ => 0)))] := hD
  have hK : va_K (dC, dI) vwCl [(k_2, .int), (k_4, .int)] s := hK
  refine W.widen (k := 2) (n := 120) (Nat.le_of_ble_eq_true rfl) (Nat.le_of_ble_eq_true rfl) ?_
  refine va_putF (D := (dC, dI)) (ci := 8) (v := .ref q_3) (ty := .array .int) (C := RX8) (T := TX8) (N := 6) hx hb hts in_wsX8_init_X8 tyX8 tyX8_ok nmX8 hown hK hP hD hS 0 rfl rfl 2 (by decide) (hts (.fieldLink RX8 15 "ShipOffice$Tape" "code" "[I") (by decide +kernel)) (fun _ h9 => h9) rfl hin rfl (by decide +kernel) rfl rfl (Nat.le_of_ble_eq_true rfl) dX8_init_17 (fun H locs hP hD hS => ?_)
  have hP : va_P (dC, dI) vwCl [(g1, .inr (8, [.ref q_1, .int 0, .ref q_3, .int 0, .int 0, .int 0])), (q_1, .inl (k_2, 60, .inl (fun _ => 0))), (q_3, .inl (k_4, 60, .inl (fun _ => 0)))] H := hP
  have hD : va_D A [(g1, .inr (8, [.ref q_1, .int 0, .ref q_3, .int 0, .int 0, .int 0])), (q_1, .inl (k_2, 60, .inl (fun _ => 0))), (q_3, .inl (k_4, 60, .inl (fun _ => 0)))] := hD
  have hP9 := hP.sub (ws' := [(g1, .inr (8, [.ref q_1, .int 0, .ref q_3, .int 0, .int 0, .int 0])), (q_1, .inl (k_2, 60, .inl (fun _ => 0)))]) [0, 1] rfl
  have hD9 := hD.sub (ws' := [(g1, .inr (8, [.ref q_1, .int 0, .ref q_3, .int 0, .int 0, .int 0])), (q_1, .inl (k_2, 60, .inl (fun _ => 0)))]) [0, 1] (by decide) rfl
  have hK9 := hK.sub (tys' := [(k_2, .int)]) [0] rfl
  subst hAe
  exact W.vret hx hb hr (fun t ht hW => ⟨⟨(q_1, k_2, q_3), rfl, trivial, ⟨by rw [ht]; exact hP9, va_K.moved hW.alike hK9, hD9⟩⟩, hS.F ht⟩) hS.2.2 dX8_init_20
set_option maxHeartbeats 4000000 in
set_option maxRecDepth 100000 in
theorem c_X7_init (l : Launch) (dC : Nat → ClassId) (dI : Nat → Nat → Nat) (sz : Nat) (g1 : Nat) : Met l yX7_init wsX7_init ({ frames := 1, cells := 2, slots := 110, locals := 14 }) (va_Pc [.ref g1] (pcW (dC, dI) [] [(g1, .inr (7, [.null, .null]))] sz)) (va_Qv (fun (u : Nat × ClassId × Nat) => True) (fun u t => va_P (dC, dI) vwCl [(g1, .inr (7, [.ref u.1, .ref u.2.2])), (u.1, .inl (u.2.1, 100, .inl (fun _ => 0)))] t.heap ∧ va_K (dC, dI) vwCl [(u.2.1, .int)] t ∧ va_D (va_A [(g1, .inr (7, [.null, .null]))] sz) [(g1, .inr (7, [.ref u.1, .ref u.2.2])), (u.1, .inl (u.2.1, 100, .inl (fun _ => 0)))]) (va_A [(g1, .inr (7, [.null, .null]))] sz)) 2 110 (va_A [(g1, .inr (7, [.null, .null]))] sz) := by
  refine Met.ofW (cc := cX7_init) (maxL := 1) (ret := none) (by decide) rfl ?_
  intro p e s m args below meth c s₁ B hml hv
  obtain ⟨rfl, hsz, hP, hK, hD0⟩ := hv
  have hx := B.exec
  have hb := B.bytes
  have hr := B.returns
  have hts := atoms_spec (ws := wsX7_init) B.pre
  have hown : s.vm.findClass RX7 = some m.cls := findClass_of_methodNamed B.named
  have hlocks := B.notSynchronized
  have hin : meth.name = "<init>" := (name_of_methodNamed B.named B.method).1
  subst hsz
  have hD := hD0.self (sz := s.heap.size)
  generalize hAe : va_A [(g1, .inr (7, [.null, .null]))] s.heap.size = A at hD ⊢
  have hA : ∀ q : Nat, s.heap.size ≤ q → A q := fun q h => by rw [← hAe]; exact Or.inr h
  have hS : va_S A s.heap s.heap [] := va_S.rf
  have hP : va_P (dC, dI) vwCl [(g1, .inr (7, [.null, .null]))] s.heap := hP
  have hl := lv_entry ([.ref g1]) (n := 1) (Nat.le_of_ble_eq_true rfl)
  rw [lg_entry_eq]
  generalize (lg_sl ([.ref g1]) ++ List.replicate (1 - (lg_sl ([.ref g1])).length) Slot.unset).toArray = ls at hl ⊢
  have hl : lv_has ls 1 [(0, .ref g1)] := hl
  refine lv_aload_n hx hb dX7_init_0 rfl (lv_at hl 0 rfl) ?_
  refine W.objInit hx hb hown (hts (.methodLink RX7 3 objectInit) (by decide +kernel)) (hts (.instanceMethod objectInit) (by decide +kernel)) (hts (.code objectInit ⟨#[0xb1]⟩ 1 none) (in_obj_wsX7_init)) rfl (by rw [hml]; exact hl.1) rfl dX7_init_1 (Nat.le_of_ble_eq_true rfl) (Nat.le_of_ble_eq_true rfl) ?_
  refine W.eq (g2 := F0 m 4 ls []) rfl ?_
  refine lv_aload_n hx hb dX7_init_4 rfl (lv_at hl 0 rfl) ?_
  refine lv_bipush (v := 100) hx hb dX7_init_5 (by decide) ?_
  refine va_newa (atype := .int) (ty := .int) (a0 := (100, .inl (fun _ => 0))) hx hb (hts (.arrayClass .int) (by decide +kernel)) rfl hK hP hD hS hA (fun _ => rfl) (by decide) (by decide) (by decide) (Nat.le_of_ble_eq_true rfl) (Nat.le_of_ble_eq_true rfl) dX7_init_7 (fun q_1 k_2 H hK hP hD hS => ?_)
  have hP : va_P (dC, dI) vwCl [(g1, .inr (7, [.null, .null])), (q_1, .inl (k_2, 100, .inl (fun _ => 0)))] H := hP
  have hD : va_D A [(g1, .inr (7, [.null, .null])), (q_1, .inl (k_2, 100, .inl (fun _ => 0)))] := hD
  have hK : va_K (dC, dI) vwCl [(k_2, .int)] s := hK
  refine W.widen (k := 1) (n := 100) (Nat.le_of_ble_eq_true rfl) (Nat.le_of_ble_eq_true rfl) ?_
  refine va_putF (D := (dC, dI)) (ci := 7) (v := .ref q_1) (ty := .array .int) (C := RX7) (T := TX7) (N := 2) hx hb hts in_wsX7_init_X7 tyX7 tyX7_ok nmX7 hown hK hP hD hS 0 rfl rfl 0 (by decide) (hts (.fieldLink RX7 9 "ShipOffice$Sea" "miles" "[I") (by decide +kernel)) (fun _ h9 => h9) rfl hin rfl (by decide +kernel) rfl rfl (Nat.le_of_ble_eq_true rfl) dX7_init_9 (fun H locs hP hD hS => ?_)
  have hP : va_P (dC, dI) vwCl [(g1, .inr (7, [.ref q_1, .null])), (q_1, .inl (k_2, 100, .inl (fun _ => 0)))] H := hP
  have hD : va_D A [(g1, .inr (7, [.ref q_1, .null])), (q_1, .inl (k_2, 100, .inl (fun _ => 0)))] := hD
  refine lv_aload_n hx hb dX7_init_12 rfl (lv_at hl 0 rfl) ?_
  refine lv_bipush (v := 10) hx hb dX7_init_13 (by decide) ?_
  refine va_newa (atype := .int) (ty := .int) (a0 := (10, .inl (fun _ => 0))) hx hb (hts (.arrayClass .int) (by decide +kernel)) rfl hK hP hD hS hA (fun _ => rfl) (by decide) (by decide) (by decide) (Nat.le_of_ble_eq_true rfl) (Nat.le_of_ble_eq_true rfl) dX7_init_15 (fun q_3 k_4 H hK hP hD hS => ?_)
  have hP : va_P (dC, dI) vwCl [(g1, .inr (7, [.ref q_1, .null])), (q_1, .inl (k_2, 100, .inl (fun _ => 0))), (q_3, .inl (k_4, 10, .inl (fun _ => 0)))] H := hP
  have hD : va_D A [(g1, .inr (7, [.ref q_1, .null])), (q_1, .inl (k_2, 100, .inl (fun _ => 0))), (q_3, .inl (k_4, 10, .inl (fun _ => 0)))] := hD
  have hK : va_K (dC, dI) vwCl [(k_2, .int), (k_4, .int)] s := hK
  refine W.widen (k := 2) (n := 110) (Nat.le_of_ble_eq_true rfl) (Nat.le_of_ble_eq_true rfl) ?_
  refine va_putF (D := (dC, dI)) (ci := 7) (v := .ref q_3) (ty := .array .int) (C := RX7) (T := TX7) (N := 2) hx hb hts in_wsX7_init_X7 tyX7 tyX7_ok nmX7 hown hK hP hD hS 0 rfl rfl 1 (by decide) (hts (.fieldLink RX7 15 "ShipOffice$Sea" "least" "[I") (by decide +kernel)) (fun _ h9 => h9) rfl hin rfl (by decide +kernel) rfl rfl (Nat.le_of_ble_eq_true rfl) dX7_init_17 (fun H locs hP hD hS => ?_)
  have hP : va_P (dC, dI) vwCl [(g1, .inr (7, [.ref q_1, .ref q_3])), (q_1, .inl (k_2, 100, .inl (fun _ => 0))), (q_3, .inl (k_4, 10, .inl (fun _ => 0)))] H := hP
  have hD : va_D A [(g1, .inr (7, [.ref q_1, .ref q_3])), (q_1, .inl (k_2, 100, .inl (fun _ => 0))), (q_3, .inl (k_4, 10, .inl (fun _ => 0)))] := hD
  have hP9 := hP.sub (ws' := [(g1, .inr (7, [.ref q_1, .ref q_3])), (q_1, .inl (k_2, 100, .inl (fun _ => 0)))]) [0, 1] rfl
  have hD9 := hD.sub (ws' := [(g1, .inr (7, [.ref q_1, .ref q_3])), (q_1, .inl (k_2, 100, .inl (fun _ => 0)))]) [0, 1] (by decide) rfl
  have hK9 := hK.sub (tys' := [(k_2, .int)]) [0] rfl
  subst hAe
  exact W.vret hx hb hr (fun t ht hW => ⟨⟨(q_1, k_2, q_3), rfl, trivial, ⟨by rw [ht]; exact hP9, va_K.moved hW.alike hK9, hD9⟩⟩, hS.F ht⟩) hS.2.2 dX7_init_20
set_option maxHeartbeats 4000000 in
set_option maxRecDepth 100000 in
theorem c_X4_init (l : Launch) (dC : Nat → ClassId) (dI : Nat → Nat → Nat) (sz : Nat) (g1 : Nat) : Met l yX4_init wsX4_init ({ frames := 1, cells := 3, slots := 97, locals := 14 }) (va_Pc [.ref g1] (pcW (dC, dI) [] [(g1, .inr (4, [.null, .null, .int 0, .null, .int 0, .int 0]))] sz)) (va_Qv (fun (u : Nat × ClassId × Nat × Nat × ClassId) => True) (fun u t => va_P (dC, dI) vwCl [(g1, .inr (4, [.ref u.1, .ref u.2.2.1, .int 0, .ref u.2.2.2.1, .int 0, .int 0])), (u.1, .inl (u.2.1, 81, .inr (.inl (fun _ => 0)))), (u.2.2.2.1, .inl (u.2.2.2.2, 4, .inl (fun _ => 0)))] t.heap ∧ va_K (dC, dI) vwCl [(u.2.1, .long), (u.2.2.2.2, .int)] t ∧ va_D (va_A [(g1, .inr (4, [.null, .null, .int 0, .null, .int 0, .int 0]))] sz) [(g1, .inr (4, [.ref u.1, .ref u.2.2.1, .int 0, .ref u.2.2.2.1, .int 0, .int 0])), (u.1, .inl (u.2.1, 81, .inr (.inl (fun _ => 0)))), (u.2.2.2.1, .inl (u.2.2.2.2, 4, .inl (fun _ => 0)))]) (va_A [(g1, .inr (4, [.null, .null, .int 0, .null, .int 0, .int 0]))] sz)) 3 97 (va_A [(g1, .inr (4, [.null, .null, .int 0, .null, .int 0, .int 0]))] sz) := by
  refine Met.ofW (cc := cX4_init) (maxL := 1) (ret := none) (by decide) rfl ?_
  intro p e s m args below meth c s₁ B hml hv
  obtain ⟨rfl, hsz, hP, hK, hD0⟩ := hv
  have hx := B.exec
  have hb := B.bytes
  have hr := B.returns
  have hts := atoms_spec (ws := wsX4_init) B.pre
  have hown : s.vm.findClass RX4 = some m.cls := findClass_of_methodNamed B.named
  have hlocks := B.notSynchronized
  have hin : meth.name = "<init>" := (name_of_methodNamed B.named B.method).1
  subst hsz
  have hD := hD0.self (sz := s.heap.size)
  generalize hAe : va_A [(g1, .inr (4, [.null, .null, .int 0, .null, .int 0, .int 0]))] s.heap.size = A at hD ⊢
  have hA : ∀ q : Nat, s.heap.size ≤ q → A q := fun q h => by rw [← hAe]; exact Or.inr h
  have hS : va_S A s.heap s.heap [] := va_S.rf
  have hP : va_P (dC, dI) vwCl [(g1, .inr (4, [.null, .null, .int 0, .null, .int 0, .int 0]))] s.heap := hP
  have hl := lv_entry ([.ref g1]) (n := 1) (Nat.le_of_ble_eq_true rfl)
  rw [lg_entry_eq]
  generalize (lg_sl ([.ref g1]) ++ List.replicate (1 - (lg_sl ([.ref g1])).length) Slot.unset).toArray = ls at hl ⊢
  have hl : lv_has ls 1 [(0, .ref g1)] := hl
  refine lv_aload_n hx hb dX4_init_0 rfl (lv_at hl 0 rfl) ?_
  refine W.objInit hx hb hown (hts (.methodLink RX4 5 objectInit) (by decide +kernel)) (hts (.instanceMethod objectInit) (by decide +kernel)) (hts (.code objectInit ⟨#[0xb1]⟩ 1 none) (in_obj_wsX4_init)) rfl (by rw [hml]; exact hl.1) rfl dX4_init_1 (Nat.le_of_ble_eq_true rfl) (Nat.le_of_ble_eq_true rfl) ?_
  refine W.eq (g2 := F0 m 4 ls []) rfl ?_
  refine lv_aload_n hx hb dX4_init_4 rfl (lv_at hl 0 rfl) ?_
  refine lv_bipush (v := 81) hx hb dX4_init_5 (by decide) ?_
  refine va_newa (atype := .long) (ty := .long) (a0 := (81, .inr (.inl (fun _ => 0)))) hx hb (hts (.arrayClass .long) (by decide +kernel)) rfl hK hP hD hS hA (fun _ => rfl) (by decide) (by decide) (by decide) (Nat.le_of_ble_eq_true rfl) (Nat.le_of_ble_eq_true rfl) dX4_init_7 (fun q_1 k_2 H hK hP hD hS => ?_)
  have hP : va_P (dC, dI) vwCl [(g1, .inr (4, [.null, .null, .int 0, .null, .int 0, .int 0])), (q_1, .inl (k_2, 81, .inr (.inl (fun _ => 0))))] H := hP
  have hD : va_D A [(g1, .inr (4, [.null, .null, .int 0, .null, .int 0, .int 0])), (q_1, .inl (k_2, 81, .inr (.inl (fun _ => 0))))] := hD
  have hK : va_K (dC, dI) vwCl [(k_2, .long)] s := hK
  refine W.widen (k := 1) (n := 81) (Nat.le_of_ble_eq_true rfl) (Nat.le_of_ble_eq_true rfl) ?_
  refine va_putF (D := (dC, dI)) (ci := 4) (v := .ref q_1) (ty := .array .long) (C := RX4) (T := TX4) (N := 6) hx hb hts in_wsX4_init_X4 tyX4 tyX4_ok nmX4 hown hK hP hD hS 0 rfl rfl 0 (by decide) (hts (.fieldLink RX4 11 "ShipOffice$Hiring" "best" "[J") (by decide +kernel)) (fun _ h9 => h9) rfl hin rfl (by decide +kernel) rfl rfl (Nat.le_of_ble_eq_true rfl) dX4_init_9 (fun H locs hP hD hS => ?_)
  have hP : va_P (dC, dI) vwCl [(g1, .inr (4, [.ref q_1, .null, .int 0, .null, .int 0, .int 0])), (q_1, .inl (k_2, 81, .inr (.inl (fun _ => 0))))] H := hP
  have hD : va_D A [(g1, .inr (4, [.ref q_1, .null, .int 0, .null, .int 0, .int 0])), (q_1, .inl (k_2, 81, .inr (.inl (fun _ => 0))))] := hD
  refine lv_aload_n hx hb dX4_init_12 rfl (lv_at hl 0 rfl) ?_
  refine lv_bipush (v := 12) hx hb dX4_init_13 (by decide) ?_
  refine va_newa (atype := .int) (ty := .int) (a0 := (12, .inl (fun _ => 0))) hx hb (hts (.arrayClass .int) (by decide +kernel)) rfl hK hP hD hS hA (fun _ => rfl) (by decide) (by decide) (by decide) (Nat.le_of_ble_eq_true rfl) (Nat.le_of_ble_eq_true rfl) dX4_init_15 (fun q_3 k_4 H hK hP hD hS => ?_)
  have hP : va_P (dC, dI) vwCl [(g1, .inr (4, [.ref q_1, .null, .int 0, .null, .int 0, .int 0])), (q_1, .inl (k_2, 81, .inr (.inl (fun _ => 0)))), (q_3, .inl (k_4, 12, .inl (fun _ => 0)))] H := hP
  have hD : va_D A [(g1, .inr (4, [.ref q_1, .null, .int 0, .null, .int 0, .int 0])), (q_1, .inl (k_2, 81, .inr (.inl (fun _ => 0)))), (q_3, .inl (k_4, 12, .inl (fun _ => 0)))] := hD
  have hK : va_K (dC, dI) vwCl [(k_2, .long), (k_4, .int)] s := hK
  refine W.widen (k := 2) (n := 93) (Nat.le_of_ble_eq_true rfl) (Nat.le_of_ble_eq_true rfl) ?_
  refine va_putF (D := (dC, dI)) (ci := 4) (v := .ref q_3) (ty := .array .int) (C := RX4) (T := TX4) (N := 6) hx hb hts in_wsX4_init_X4 tyX4 tyX4_ok nmX4 hown hK hP hD hS 0 rfl rfl 1 (by decide) (hts (.fieldLink RX4 15 "ShipOffice$Hiring" "offers" "[I") (by decide +kernel)) (fun _ h9 => h9) rfl hin rfl (by decide +kernel) rfl rfl (Nat.le_of_ble_eq_true rfl) dX4_init_17 (fun H locs hP hD hS => ?_)
  have hP : va_P (dC, dI) vwCl [(g1, .inr (4, [.ref q_1, .ref q_3, .int 0, .null, .int 0, .int 0])), (q_1, .inl (k_2, 81, .inr (.inl (fun _ => 0)))), (q_3, .inl (k_4, 12, .inl (fun _ => 0)))] H := hP
  have hD : va_D A [(g1, .inr (4, [.ref q_1, .ref q_3, .int 0, .null, .int 0, .int 0])), (q_1, .inl (k_2, 81, .inr (.inl (fun _ => 0)))), (q_3, .inl (k_4, 12, .inl (fun _ => 0)))] := hD
  refine lv_aload_n hx hb dX4_init_20 rfl (lv_at hl 0 rfl) ?_
  refine lv_iconst (v := 4) hx hb dX4_init_21 (by decide) ?_
  refine va_newa (atype := .int) (ty := .int) (a0 := (4, .inl (fun _ => 0))) hx hb (hts (.arrayClass .int) (by decide +kernel)) rfl hK hP hD hS hA (fun _ => rfl) (by decide) (by decide) (by decide) (Nat.le_of_ble_eq_true rfl) (Nat.le_of_ble_eq_true rfl) dX4_init_22 (fun q_5 k_6 H hK hP hD hS => ?_)
  have hP : va_P (dC, dI) vwCl [(g1, .inr (4, [.ref q_1, .ref q_3, .int 0, .null, .int 0, .int 0])), (q_1, .inl (k_2, 81, .inr (.inl (fun _ => 0)))), (q_3, .inl (k_4, 12, .inl (fun _ => 0))), (q_5, .inl (k_6, 4, .inl (fun _ => 0)))] H := hP
  have hD : va_D A [(g1, .inr (4, [.ref q_1, .ref q_3, .int 0, .null, .int 0, .int 0])), (q_1, .inl (k_2, 81, .inr (.inl (fun _ => 0)))), (q_3, .inl (k_4, 12, .inl (fun _ => 0))), (q_5, .inl (k_6, 4, .inl (fun _ => 0)))] := hD
  have hK : va_K (dC, dI) vwCl [(k_2, .long), (k_4, .int), (k_6, .int)] s := hK
  refine W.widen (k := 3) (n := 97) (Nat.le_of_ble_eq_true rfl) (Nat.le_of_ble_eq_true rfl) ?_
  refine va_putF (D := (dC, dI)) (ci := 4) (v := .ref q_5) (ty := .array .int) (C := RX4) (T := TX4) (N := 6) hx hb hts in_wsX4_init_X4 tyX4 tyX4_ok nmX4 hown hK hP hD hS 0 rfl rfl 3 (by decide) (hts (.fieldLink RX4 19 "ShipOffice$Hiring" "firstPlace" "[I") (by decide +kernel)) (fun _ h9 => h9) rfl hin rfl (by decide +kernel) rfl rfl (Nat.le_of_ble_eq_true rfl) dX4_init_24 (fun H locs hP hD hS => ?_)
  have hP : va_P (dC, dI) vwCl [(g1, .inr (4, [.ref q_1, .ref q_3, .int 0, .ref q_5, .int 0, .int 0])), (q_1, .inl (k_2, 81, .inr (.inl (fun _ => 0)))), (q_3, .inl (k_4, 12, .inl (fun _ => 0))), (q_5, .inl (k_6, 4, .inl (fun _ => 0)))] H := hP
  have hD : va_D A [(g1, .inr (4, [.ref q_1, .ref q_3, .int 0, .ref q_5, .int 0, .int 0])), (q_1, .inl (k_2, 81, .inr (.inl (fun _ => 0)))), (q_3, .inl (k_4, 12, .inl (fun _ => 0))), (q_5, .inl (k_6, 4, .inl (fun _ => 0)))] := hD
  have hP9 := hP.sub (ws' := [(g1, .inr (4, [.ref q_1, .ref q_3, .int 0, .ref q_5, .int 0, .int 0])), (q_1, .inl (k_2, 81, .inr (.inl (fun _ => 0)))), (q_5, .inl (k_6, 4, .inl (fun _ => 0)))]) [0, 1, 3] rfl
  have hD9 := hD.sub (ws' := [(g1, .inr (4, [.ref q_1, .ref q_3, .int 0, .ref q_5, .int 0, .int 0])), (q_1, .inl (k_2, 81, .inr (.inl (fun _ => 0)))), (q_5, .inl (k_6, 4, .inl (fun _ => 0)))]) [0, 1, 3] (by decide) rfl
  have hK9 := hK.sub (tys' := [(k_2, .long), (k_6, .int)]) [0, 2] rfl
  subst hAe
  exact W.vret hx hb hr (fun t ht hW => ⟨⟨(q_1, k_2, q_3, q_5, k_6), rfl, trivial, ⟨by rw [ht]; exact hP9, va_K.moved hW.alike hK9, hD9⟩⟩, hS.F ht⟩) hS.2.2 dX4_init_27
