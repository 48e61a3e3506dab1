abbrev cX5_init : ByteArray := prog_7_method_1_code
def yX5_init : MethodName := ⟨RX5, "<init>", "()V"⟩
abbrev cX10_init : ByteArray := prog_1_method_1_code
def yX10_init : MethodName := ⟨RX10, "<init>", "()V"⟩
def wsX5_init_r1 : List Cond := [Cond.methodLink RX5 3 objectInit, Cond.instanceMethod objectInit, Cond.code objectInit ⟨#[0xb1]⟩ 1 none, Cond.classLink RX5 9 RX0, Cond.fieldLink RX5 11 "ShipOffice$Law" "acts" "[LShipOffice$Act;", Cond.fieldLink RX5 17 "ShipOffice$Law" "customs" "[LShipOffice$Act;", Cond.instantiable RX0 5, Cond.initialized RX0, Cond.arrayClass .int, Cond.methodLink RX5 20 yX0_init, Cond.instanceMethod yX0_init, Cond.code yX0_init cX0_init 4 none, Cond.methodLink RX0 1 objectInit, Cond.fieldLink RX0 7 "ShipOffice$Act" "purpose" "I", Cond.fieldLink RX0 13 "ShipOffice$Act" "day" "I", Cond.fieldLink RX0 16 "ShipOffice$Act" "code" "[I", Cond.fieldLink RX0 20 "ShipOffice$Act" "stack" "[I", Cond.fieldLink RX0 33 "ShipOffice$Act" "plainWorth" "I", Cond.methodLink RX0 29 yX0_worth, Cond.instanceMethod yX0_worth, Cond.selects RX0 yX0_worth yX0_worth, Cond.code yX0_worth cX0_worth 8 (some .int), Cond.methodLink RX0 36 yX0_joined, Cond.static yX0_joined]
def wsX5_init_r2 : List Cond := [Cond.code yX0_joined cX0_joined 5 (some .int), Cond.methodLink RX0 40 yX0_held, Cond.static yX0_held, Cond.code yX0_held cX0_held 2 (some .int), Cond.constantLong RX0 44 (1000000000), Cond.constant RX0 46 (1000000000), Cond.constantLong RX0 47 (-1000000000), Cond.constant RX0 49 (-1000000000)]
def wsX5_init : List Cond := .code yX5_init cX5_init 1 none :: ((wsX5_init_r1 ++ wsX5_init_r2) ++ wsX50 ++ wsX00)
def wsX10_init_r1 : List Cond := [Cond.methodLink RX10 3 objectInit, Cond.instanceMethod objectInit, Cond.code objectInit ⟨#[0xb1]⟩ 1 none, Cond.classLink RX10 9 RX6, Cond.fieldLink RX10 11 "ShipOffice" "men" "[LShipOffice$Man;", Cond.classLink RX10 15 RX9, Cond.fieldLink RX10 17 "ShipOffice" "voyages" "[LShipOffice$Voyage;", Cond.classLink RX10 21 RX1, Cond.fieldLink RX10 23 "ShipOffice" "agreements" "[LShipOffice$Agreement;", Cond.classLink RX10 27 RX5, Cond.instantiable RX5 3, Cond.initialized RX5, Cond.fieldLink RX10 30 "ShipOffice" "law" "LShipOffice$Law;", Cond.classLink RX10 34 RX8, Cond.instantiable RX8 6, Cond.initialized RX8, Cond.fieldLink RX10 37 "ShipOffice" "tape" "LShipOffice$Tape;", Cond.classLink RX10 41 RX7, Cond.instantiable RX7 2, Cond.initialized RX7, Cond.fieldLink RX10 44 "ShipOffice" "sea" "LShipOffice$Sea;", Cond.classLink RX10 48 RX4, Cond.instantiable RX4 6, Cond.initialized RX4]
def wsX10_init_r2 : List Cond := [Cond.fieldLink RX10 51 "ShipOffice" "hiring" "LShipOffice$Hiring;", Cond.fieldLink RX10 55 "ShipOffice" "LETTERS" "[C", Cond.arrayClass .int, Cond.fieldLink RX10 59 "ShipOffice" "letters" "[I", Cond.fieldLink RX10 63 "ShipOffice" "row" "[I", Cond.fieldLink RX10 66 "ShipOffice" "refusals" "[I", Cond.methodLink RX10 29 yX5_init, Cond.instanceMethod yX5_init, Cond.code yX5_init cX5_init 1 none, Cond.methodLink RX5 3 objectInit, Cond.classLink RX5 9 RX0, Cond.fieldLink RX5 11 "ShipOffice$Law" "acts" "[LShipOffice$Act;", Cond.fieldLink RX5 17 "ShipOffice$Law" "customs" "[LShipOffice$Act;", Cond.instantiable RX0 5, Cond.initialized RX0, Cond.methodLink RX5 20 yX0_init, Cond.instanceMethod yX0_init, Cond.code yX0_init cX0_init 4 none, Cond.methodLink RX0 1 objectInit, Cond.fieldLink RX0 7 "ShipOffice$Act" "purpose" "I", Cond.fieldLink RX0 13 "ShipOffice$Act" "day" "I", Cond.fieldLink RX0 16 "ShipOffice$Act" "code" "[I", Cond.fieldLink RX0 20 "ShipOffice$Act" "stack" "[I", Cond.fieldLink RX0 33 "ShipOffice$Act" "plainWorth" "I"]
def wsX10_init_r3 : List Cond := [Cond.methodLink RX0 29 yX0_worth, Cond.instanceMethod yX0_worth, Cond.selects RX0 yX0_worth yX0_worth, Cond.code yX0_worth cX0_worth 8 (some .int), Cond.methodLink RX0 36 yX0_joined, Cond.static yX0_joined, Cond.code yX0_joined cX0_joined 5 (some .int), Cond.methodLink RX0 40 yX0_held, Cond.static yX0_held, Cond.code yX0_held cX0_held 2 (some .int), Cond.constantLong RX0 44 (1000000000), Cond.constant RX0 46 (1000000000), Cond.constantLong RX0 47 (-1000000000), Cond.constant RX0 49 (-1000000000), Cond.methodLink RX10 36 yX8_init, Cond.instanceMethod yX8_init, Cond.code yX8_init cX8_init 1 none, Cond.methodLink RX8 3 objectInit, Cond.fieldLink RX8 9 "ShipOffice$Tape" "bytes" "[I", Cond.fieldLink RX8 15 "ShipOffice$Tape" "code" "[I", Cond.methodLink RX10 43 yX7_init, Cond.instanceMethod yX7_init, Cond.code yX7_init cX7_init 1 none, Cond.methodLink RX7 3 objectInit]
def wsX10_init_r4 : List Cond := [Cond.fieldLink RX7 9 "ShipOffice$Sea" "miles" "[I", Cond.fieldLink RX7 15 "ShipOffice$Sea" "least" "[I", Cond.methodLink RX10 50 yX4_init, Cond.instanceMethod yX4_init, Cond.code yX4_init cX4_init 1 none, Cond.methodLink RX4 5 objectInit, Cond.arrayClass .long, Cond.fieldLink RX4 11 "ShipOffice$Hiring" "best" "[J", Cond.fieldLink RX4 15 "ShipOffice$Hiring" "offers" "[I", Cond.fieldLink RX4 19 "ShipOffice$Hiring" "firstPlace" "[I"]
def wsX10_init : List Cond := .code yX10_init cX10_init 1 none :: ((wsX10_init_r1 ++ (wsX10_init_r2 ++ (wsX10_init_r3 ++ wsX10_init_r4))) ++ wsX100 ++ wsX50 ++ wsX80 ++ wsX70 ++ wsX40 ++ wsX00)
set_option maxRecDepth 20000 in
theorem ggX5_init_X0_init : GoodIn wsX5_init wsX0_init := goodIn_r _ [12, 13, 2, 3, 14, 15, 16, 9, 17, 18, 19, 20, 21, 8, 22, 23, 24, 25, 26, 27, 28, 29, 30, 31, 32, 36, 37, 38, 39, 40] (by decide +kernel) (by decide +kernel)
set_option maxRecDepth 20000 in
theorem gX5_init_X0_init : GoodIn wsX5_init (wsX0_init) := ggX5_init_X0_init
theorem dX5_init_0 : decode cX5_init 0 = .ok (.aload_n 0, 1) := by decide +kernel
theorem dX5_init_1 : decode cX5_init 1 = .ok (.invokespecial 3, 3) := by decide +kernel
theorem dX5_init_4 : decode cX5_init 4 = .ok (.aload_n 0, 1) := by decide +kernel
theorem dX5_init_5 : decode cX5_init 5 = .ok (.bipush 30, 2) := by decide +kernel
theorem dX5_init_7 : decode cX5_init 7 = .ok (.anewarray 9, 3) := by decide +kernel
theorem dX5_init_10 : decode cX5_init 10 = .ok (.putfield 11, 3) := by decide +kernel
theorem dX5_init_13 : decode cX5_init 13 = .ok (.aload_n 0, 1) := by decide +kernel
theorem dX5_init_14 : decode cX5_init 14 = .ok (.iconst 5, 1) := by decide +kernel
theorem dX5_init_15 : decode cX5_init 15 = .ok (.anewarray 9, 3) := by decide +kernel
theorem dX5_init_18 : decode cX5_init 18 = .ok (.putfield 17, 3) := by decide +kernel
theorem dX5_init_21 : decode cX5_init 21 = .ok (.aload_n 0, 1) := by decide +kernel
theorem dX5_init_22 : decode cX5_init 22 = .ok (.getfield 17, 3) := by decide +kernel
theorem dX5_init_25 : decode cX5_init 25 = .ok (.iconst 0, 1) := by decide +kernel
theorem dX5_init_26 : decode cX5_init 26 = .ok (.new 9, 3) := by decide +kernel
theorem dX5_init_29 : decode cX5_init 29 = .ok (.dup, 1) := by decide +kernel
theorem dX5_init_30 : decode cX5_init 30 = .ok (.iconst 0, 1) := by decide +kernel
theorem dX5_init_31 : decode cX5_init 31 = .ok (.iconst (-1), 1) := by decide +kernel
theorem dX5_init_32 : decode cX5_init 32 = .ok (.iconst 1, 1) := by decide +kernel
theorem dX5_init_33 : decode cX5_init 33 = .ok (.newarray .int, 2) := by decide +kernel
theorem dX5_init_35 : decode cX5_init 35 = .ok (.dup, 1) := by decide +kernel
theorem dX5_init_36 : decode cX5_init 36 = .ok (.iconst 0, 1) := by decide +kernel
theorem dX5_init_37 : decode cX5_init 37 = .ok (.iconst 1, 1) := by decide +kernel
theorem dX5_init_38 : decode cX5_init 38 = .ok (.iastore, 1) := by decide +kernel
theorem dX5_init_39 : decode cX5_init 39 = .ok (.invokespecial 20, 3) := by decide +kernel
theorem dX5_init_42 : decode cX5_init 42 = .ok (.aastore, 1) := by decide +kernel
theorem dX5_init_43 : decode cX5_init 43 = .ok (.aload_n 0, 1) := by decide +kernel
theorem dX5_init_44 : decode cX5_init 44 = .ok (.getfield 17, 3) := by decide +kernel
theorem dX5_init_47 : decode cX5_init 47 = .ok (.iconst 1, 1) := by decide +kernel
theorem dX5_init_48 : decode cX5_init 48 = .ok (.new 9, 3) := by decide +kernel
theorem dX5_init_51 : decode cX5_init 51 = .ok (.dup, 1) := by decide +kernel
theorem dX5_init_52 : decode cX5_init 52 = .ok (.iconst 1, 1) := by decide +kernel
theorem dX5_init_53 : decode cX5_init 53 = .ok (.iconst (-1), 1) := by decide +kernel
theorem dX5_init_54 : decode cX5_init 54 = .ok (.iconst 1, 1) := by decide +kernel
theorem dX5_init_55 : decode cX5_init 55 = .ok (.newarray .int, 2) := by decide +kernel
theorem dX5_init_57 : decode cX5_init 57 = .ok (.dup, 1) := by decide +kernel
theorem dX5_init_58 : decode cX5_init 58 = .ok (.iconst 0, 1) := by decide +kernel
theorem dX5_init_59 : decode cX5_init 59 = .ok (.bipush (-6), 2) := by decide +kernel
theorem dX5_init_61 : decode cX5_init 61 = .ok (.iastore, 1) := by decide +kernel
theorem dX5_init_62 : decode cX5_init 62 = .ok (.invokespecial 20, 3) := by decide +kernel
theorem dX5_init_65 : decode cX5_init 65 = .ok (.aastore, 1) := by decide +kernel
theorem dX5_init_66 : decode cX5_init 66 = .ok (.aload_n 0, 1) := by decide +kernel
theorem dX5_init_67 : decode cX5_init 67 = .ok (.getfield 17, 3) := by decide +kernel
theorem dX5_init_70 : decode cX5_init 70 = .ok (.iconst 2, 1) := by decide +kernel
theorem dX5_init_71 : decode cX5_init 71 = .ok (.new 9, 3) := by decide +kernel
theorem dX5_init_74 : decode cX5_init 74 = .ok (.dup, 1) := by decide +kernel
theorem dX5_init_75 : decode cX5_init 75 = .ok (.iconst 2, 1) := by decide +kernel
theorem dX5_init_76 : decode cX5_init 76 = .ok (.iconst (-1), 1) := by decide +kernel
theorem dX5_init_77 : decode cX5_init 77 = .ok (.iconst 1, 1) := by decide +kernel
theorem dX5_init_78 : decode cX5_init 78 = .ok (.newarray .int, 2) := by decide +kernel
theorem dX5_init_80 : decode cX5_init 80 = .ok (.dup, 1) := by decide +kernel
theorem dX5_init_81 : decode cX5_init 81 = .ok (.iconst 0, 1) := by decide +kernel
theorem dX5_init_82 : decode cX5_init 82 = .ok (.bipush 100, 2) := by decide +kernel
theorem dX5_init_84 : decode cX5_init 84 = .ok (.iastore, 1) := by decide +kernel
theorem dX5_init_85 : decode cX5_init 85 = .ok (.invokespecial 20, 3) := by decide +kernel
theorem dX5_init_88 : decode cX5_init 88 = .ok (.aastore, 1) := by decide +kernel
theorem dX5_init_89 : decode cX5_init 89 = .ok (.aload_n 0, 1) := by decide +kernel
theorem dX5_init_90 : decode cX5_init 90 = .ok (.getfield 17, 3) := by decide +kernel
theorem dX5_init_93 : decode cX5_init 93 = .ok (.iconst 3, 1) := by decide +kernel
theorem dX5_init_94 : decode cX5_init 94 = .ok (.new 9, 3) := by decide +kernel
theorem dX5_init_97 : decode cX5_init 97 = .ok (.dup, 1) := by decide +kernel
theorem dX5_init_98 : decode cX5_init 98 = .ok (.iconst 3, 1) := by decide +kernel
theorem dX5_init_99 : decode cX5_init 99 = .ok (.iconst (-1), 1) := by decide +kernel
theorem dX5_init_100 : decode cX5_init 100 = .ok (.iconst 1, 1) := by decide +kernel
theorem dX5_init_101 : decode cX5_init 101 = .ok (.newarray .int, 2) := by decide +kernel
theorem dX5_init_103 : decode cX5_init 103 = .ok (.dup, 1) := by decide +kernel
theorem dX5_init_104 : decode cX5_init 104 = .ok (.iconst 0, 1) := by decide +kernel
theorem dX5_init_105 : decode cX5_init 105 = .ok (.bipush 50, 2) := by decide +kernel
theorem dX5_init_107 : decode cX5_init 107 = .ok (.iastore, 1) := by decide +kernel
theorem dX5_init_108 : decode cX5_init 108 = .ok (.invokespecial 20, 3) := by decide +kernel
theorem dX5_init_111 : decode cX5_init 111 = .ok (.aastore, 1) := by decide +kernel
theorem dX5_init_112 : decode cX5_init 112 = .ok (.aload_n 0, 1) := by decide +kernel
theorem dX5_init_113 : decode cX5_init 113 = .ok (.getfield 17, 3) := by decide +kernel
theorem dX5_init_116 : decode cX5_init 116 = .ok (.iconst 4, 1) := by decide +kernel
theorem dX5_init_117 : decode cX5_init 117 = .ok (.new 9, 3) := by decide +kernel
theorem dX5_init_120 : decode cX5_init 120 = .ok (.dup, 1) := by decide +kernel
theorem dX5_init_121 : decode cX5_init 121 = .ok (.iconst 4, 1) := by decide +kernel
theorem dX5_init_122 : decode cX5_init 122 = .ok (.iconst (-1), 1) := by decide +kernel
theorem dX5_init_123 : decode cX5_init 123 = .ok (.iconst 1, 1) := by decide +kernel
theorem dX5_init_124 : decode cX5_init 124 = .ok (.newarray .int, 2) := by decide +kernel
theorem dX5_init_126 : decode cX5_init 126 = .ok (.dup, 1) := by decide +kernel
theorem dX5_init_127 : decode cX5_init 127 = .ok (.iconst 0, 1) := by decide +kernel
theorem dX5_init_128 : decode cX5_init 128 = .ok (.bipush 90, 2) := by decide +kernel
theorem dX5_init_130 : decode cX5_init 130 = .ok (.iastore, 1) := by decide +kernel
theorem dX5_init_131 : decode cX5_init 131 = .ok (.invokespecial 20, 3) := by decide +kernel
theorem dX5_init_134 : decode cX5_init 134 = .ok (.aastore, 1) := by decide +kernel
theorem dX5_init_135 : decode cX5_init 135 = .ok (.return_, 1) := by decide +kernel
set_option maxRecDepth 20000 in
theorem ggX10_init_X5_init : GoodIn wsX10_init wsX5_init := goodIn_r _ [33, 34, 2, 3, 35, 36, 37, 38, 39, 27, 40, 41, 42, 43, 44, 45, 46, 47, 48, 49, 50, 51, 52, 53, 54, 55, 56, 57, 58, 59, 60, 61, 62, 99, 100, 101, 116, 117, 118, 119, 120] (by decide +kernel) (by decide +kernel)
set_option maxRecDepth 20000 in
theorem gX10_init_X5_init : GoodIn wsX10_init (wsX5_init) := ggX10_init_X5_init
set_option maxRecDepth 20000 in
theorem ggX10_init_X8_init : GoodIn wsX10_init wsX8_init := goodIn_r _ [65, 66, 2, 3, 27, 67, 68, 102, 103, 104, 105, 106, 107] (by decide +kernel) (by decide +kernel)
set_option maxRecDepth 20000 in
theorem gX10_init_X8_init : GoodIn wsX10_init (wsX8_init) := ggX10_init_X8_init
set_option maxRecDepth 20000 in
theorem ggX10_init_X7_init : GoodIn wsX10_init wsX7_init := goodIn_r _ [71, 72, 2, 3, 27, 73, 74, 108, 109] (by decide +kernel) (by decide +kernel)
set_option maxRecDepth 20000 in
theorem gX10_init_X7_init : GoodIn wsX10_init (wsX7_init) := ggX10_init_X7_init
set_option maxRecDepth 20000 in
theorem ggX10_init_X4_init : GoodIn wsX10_init wsX4_init := goodIn_r _ [77, 78, 2, 3, 79, 80, 27, 81, 82, 110, 111, 112, 113, 114, 115] (by decide +kernel) (by decide +kernel)
set_option maxRecDepth 20000 in
theorem gX10_init_X4_init : GoodIn wsX10_init (wsX4_init) := ggX10_init_X4_init
theorem dX10_init_0 : decode cX10_init 0 = .ok (.aload_n 0, 1) := by decide +kernel
theorem dX10_init_1 : decode cX10_init 1 = .ok (.invokespecial 3, 3) := by decide +kernel
theorem dX10_init_4 : decode cX10_init 4 = .ok (.aload_n 0, 1) := by decide +kernel
theorem dX10_init_5 : decode cX10_init 5 = .ok (.bipush 40, 2) := by decide +kernel
theorem dX10_init_7 : decode cX10_init 7 = .ok (.anewarray 9, 3) := by decide +kernel
theorem dX10_init_10 : decode cX10_init 10 = .ok (.putfield 11, 3) := by decide +kernel
theorem dX10_init_13 : decode cX10_init 13 = .ok (.aload_n 0, 1) := by decide +kernel
theorem dX10_init_14 : decode cX10_init 14 = .ok (.bipush 20, 2) := by decide +kernel
theorem dX10_init_16 : decode cX10_init 16 = .ok (.anewarray 15, 3) := by decide +kernel
theorem dX10_init_19 : decode cX10_init 19 = .ok (.putfield 17, 3) := by decide +kernel
theorem dX10_init_22 : decode cX10_init 22 = .ok (.aload_n 0, 1) := by decide +kernel
theorem dX10_init_23 : decode cX10_init 23 = .ok (.bipush 60, 2) := by decide +kernel
theorem dX10_init_25 : decode cX10_init 25 = .ok (.anewarray 21, 3) := by decide +kernel
theorem dX10_init_28 : decode cX10_init 28 = .ok (.putfield 23, 3) := by decide +kernel
theorem dX10_init_31 : decode cX10_init 31 = .ok (.aload_n 0, 1) := by decide +kernel
theorem dX10_init_32 : decode cX10_init 32 = .ok (.new 27, 3) := by decide +kernel
theorem dX10_init_35 : decode cX10_init 35 = .ok (.dup, 1) := by decide +kernel
theorem dX10_init_36 : decode cX10_init 36 = .ok (.invokespecial 29, 3) := by decide +kernel
theorem dX10_init_39 : decode cX10_init 39 = .ok (.putfield 30, 3) := by decide +kernel
theorem dX10_init_42 : decode cX10_init 42 = .ok (.aload_n 0, 1) := by decide +kernel
theorem dX10_init_43 : decode cX10_init 43 = .ok (.new 34, 3) := by decide +kernel
theorem dX10_init_46 : decode cX10_init 46 = .ok (.dup, 1) := by decide +kernel
theorem dX10_init_47 : decode cX10_init 47 = .ok (.invokespecial 36, 3) := by decide +kernel
theorem dX10_init_50 : decode cX10_init 50 = .ok (.putfield 37, 3) := by decide +kernel
theorem dX10_init_53 : decode cX10_init 53 = .ok (.aload_n 0, 1) := by decide +kernel
theorem dX10_init_54 : decode cX10_init 54 = .ok (.new 41, 3) := by decide +kernel
theorem dX10_init_57 : decode cX10_init 57 = .ok (.dup, 1) := by decide +kernel
theorem dX10_init_58 : decode cX10_init 58 = .ok (.invokespecial 43, 3) := by decide +kernel
theorem dX10_init_61 : decode cX10_init 61 = .ok (.putfield 44, 3) := by decide +kernel
theorem dX10_init_64 : decode cX10_init 64 = .ok (.aload_n 0, 1) := by decide +kernel
theorem dX10_init_65 : decode cX10_init 65 = .ok (.new 48, 3) := by decide +kernel
theorem dX10_init_68 : decode cX10_init 68 = .ok (.dup, 1) := by decide +kernel
theorem dX10_init_69 : decode cX10_init 69 = .ok (.invokespecial 50, 3) := by decide +kernel
theorem dX10_init_72 : decode cX10_init 72 = .ok (.putfield 51, 3) := by decide +kernel
theorem dX10_init_75 : decode cX10_init 75 = .ok (.aload_n 0, 1) := by decide +kernel
theorem dX10_init_76 : decode cX10_init 76 = .ok (.getstatic 55, 3) := by decide +kernel
theorem dX10_init_79 : decode cX10_init 79 = .ok (.arraylength, 1) := by decide +kernel
theorem dX10_init_80 : decode cX10_init 80 = .ok (.newarray .int, 2) := by decide +kernel
theorem dX10_init_82 : decode cX10_init 82 = .ok (.putfield 59, 3) := by decide +kernel
theorem dX10_init_85 : decode cX10_init 85 = .ok (.aload_n 0, 1) := by decide +kernel
theorem dX10_init_86 : decode cX10_init 86 = .ok (.bipush 12, 2) := by decide +kernel
theorem dX10_init_88 : decode cX10_init 88 = .ok (.newarray .int, 2) := by decide +kernel
theorem dX10_init_90 : decode cX10_init 90 = .ok (.putfield 63, 3) := by decide +kernel
theorem dX10_init_93 : decode cX10_init 93 = .ok (.aload_n 0, 1) := by decide +kernel
theorem dX10_init_94 : decode cX10_init 94 = .ok (.bipush 7, 2) := by decide +kernel
theorem dX10_init_96 : decode cX10_init 96 = .ok (.newarray .int, 2) := by decide +kernel
theorem dX10_init_98 : decode cX10_init 98 = .ok (.putfield 66, 3) := by decide +kernel
theorem dX10_init_101 : decode cX10_init 101 = .ok (.return_, 1) := by decide +kernel
theorem in_wsX5_init_X5 : ∀ w ∈ wsX50, w ∈ wsX5_init := fun w h => List.mem_cons_of_mem _ (List.mem_append_left _ (List.mem_append_right _ h))
theorem in_wsX5_init_X0 : ∀ w ∈ wsX00, w ∈ wsX5_init := fun w h => List.mem_cons_of_mem _ (List.mem_append_right _ h)
theorem in_wsX10_init_X10 : ∀ w ∈ wsX100, w ∈ wsX10_init := fun w h => List.mem_cons_of_mem _ (List.mem_append_left _ (List.mem_append_left _ (List.mem_append_left _ (List.mem_append_left _ (List.mem_append_left _ (List.mem_append_right _ h))))))
theorem in_wsX10_init_X5 : ∀ w ∈ wsX50, w ∈ wsX10_init := fun w h => List.mem_cons_of_mem _ (List.mem_append_left _ (List.mem_append_left _ (List.mem_append_left _ (List.mem_append_left _ (List.mem_append_right _ h)))))
theorem in_wsX10_init_X8 : ∀ w ∈ wsX80, w ∈ wsX10_init := fun w h => List.mem_cons_of_mem _ (List.mem_append_left _ (List.mem_append_left _ (List.mem_append_left _ (List.mem_append_right _ h))))
theorem in_wsX10_init_X7 : ∀ w ∈ wsX70, w ∈ wsX10_init := fun w h => List.mem_cons_of_mem _ (List.mem_append_left _ (List.mem_append_left _ (List.mem_append_right _ h)))
theorem in_wsX10_init_X4 : ∀ w ∈ wsX40, w ∈ wsX10_init := fun w h => List.mem_cons_of_mem _ (List.mem_append_left _ (List.mem_append_right _ h))
theorem in_obj_wsX5_init : Cond.code objectInit ⟨#[0xb1]⟩ 1 none ∈ wsX5_init := List.mem_of_getElem? (i := 3) rfl
theorem in_obj_wsX10_init : Cond.code objectInit ⟨#[0xb1]⟩ 1 none ∈ wsX10_init := List.mem_of_getElem? (i := 3) rfl
set_option maxHeartbeats 4000000 in
set_option maxRecDepth 100000 in
theorem c_X5_init (l : Launch) (dC : Nat → ClassId) (dI : Nat → Nat → Nat) (sz : Nat) (tL tS tG : Nat) (cq : Nat → ClassId) (Z : oS) (gI : oInv Z) (o : Nat) (to : oty Z o 35) (hz : ∀ j, oI Z o j = 0) : Met l yX5_init wsX5_init ({ frames := 4, cells := 22, slots := 410, locals := 95 }) (va_Pc [.ref o] (pcO (dC, dI) (oT cq) (oW cq Z) sz tL tS tG (oW cq Z))) (va_Qv (fun (u : oS) => oInv u ∧ oXc o Z u ∧ (oty u o 5 ∧ oFr o Z u)) (fun u t => va_P (dC, dI) vwCl (oW cq u) t.heap ∧ va_K (dC, dI) vwCl (oT cq) t ∧ va_D (va_A (oW cq Z) sz) (oW cq u)) (va_A (oW cq Z) sz)) 22 410 (va_A (oW cq Z) sz) := by
  refine Met.ofW (cc := cX5_init) (maxL := 1) (ret := none) (by decide) rfl ?_
  intro p e s m args below meth c s₁ B hml hv
  obtain ⟨rfl, ⟨hsz, hP, hK, hD0⟩, hZ⟩ := hv
  have hx := B.exec
  have hb := B.bytes
  have hr := B.returns
  have hts := atoms_spec (ws := wsX5_init) B.pre
  have hown : s.vm.findClass RX5 = some m.cls := findClass_of_methodNamed B.named
  have hlocks := B.notSynchronized
  have hin : meth.name = "<init>" := (name_of_methodNamed B.named B.method).1
  subst hsz
  have hD := hD0.self (sz := s.heap.size)
  generalize hAe : va_A (oW cq Z) s.heap.size = A at hD hZ ⊢
  have hA : ∀ q : Nat, s.heap.size ≤ q → A q := fun q h => by rw [← hAe]; exact Or.inr h
  have hS : va_S A s.heap s.heap [] := va_S.rf
  have hP : va_P (dC, dI) vwCl (oW cq Z) s.heap := hP
  have hl := lv_entry ([.ref o]) (n := 1) (Nat.le_of_ble_eq_true rfl)
  rw [lg_entry_eq]
  generalize (lg_sl ([.ref o]) ++ List.replicate (1 - (lg_sl ([.ref o])).length) Slot.unset).toArray = ls at hl ⊢
  have hl : lv_has ls 1 [(0, .ref o)] := hl
  refine lv_aload_n hx hb dX5_init_0 rfl (lv_at hl 0 rfl) ?_
  refine W.objInit hx hb hown (hts (.methodLink RX5 3 objectInit) (by decide +kernel)) (hts (.instanceMethod objectInit) (by decide +kernel)) (hts (.code objectInit ⟨#[0xb1]⟩ 1 none) (in_obj_wsX5_init)) rfl (by rw [hml]; exact hl.1) rfl dX5_init_1 (Nat.le_of_ble_eq_true rfl) (Nat.le_of_ble_eq_true rfl) ?_
  refine W.eq (g2 := F0 m 4 ls []) rfl ?_
  refine lv_aload_n hx hb dX5_init_4 rfl (lv_at hl 0 rfl) ?_
  refine lv_bipush (v := 30) hx hb dX5_init_5 (by decide) ?_
  refine va_newq (N' := 30) hx hb hown (hts (.classLink RX5 9 RX0) (by decide +kernel)) hZ.1.2.2.2.2.2.2.1 hK hP hD hS hA (by decide) (by decide) (by decide) (Nat.le_of_ble_eq_true rfl) (Nat.le_of_ble_eq_true rfl) dX5_init_7 (fun q_1 k_2 H hK1 hP1 hD1 hS => ?_)
  obtain ⟨rfl, -⟩ := lv_ad (k := 2) hK1 rfl
  clear hK1
  have hnq_1 := add_q hD1
  obtain ⟨S_3, eS_3⟩ : ∃ zq, zq = addO Z q_1 12 := ⟨_, rfl⟩
  have hP : va_P (dC, dI) vwCl (oW cq S_3) H := by rw [eS_3]; exact cP (onew hD1 (by rw [oE_12 add_K, add_P])) hP1
  have hD : va_D A (oW cq S_3) := by rw [eS_3]; exact cD (onew hD1 (by rw [oE_12 add_K, add_P])) hD1
  clear hP1 hD1
  have hIS_3 : oInv S_3 := by rw [eS_3]; exact oInv.add gI hnq_1 (by decide)
  have XS_3 : oX Z S_3 := by rw [eS_3]; exact oX.add hnq_1
  have ik_4 : oI S_3 o 2 = 0 := by rw [eS_3, add_In hnq_1 to.1]; exact (hz 2)
  have FS_3 : oFr o Z S_3 := by rw [eS_3]; exact oFr.add oFr.rf oX.rf hnq_1
  have X_5 : oX Z S_3 := XS_3
  have tq_1 : oty S_3 q_1 12 := by rw [eS_3]; exact add_ty
  refine W.widen (k := 1) (n := 30) (Nat.le_of_ble_eq_true rfl) (Nat.le_of_ble_eq_true rfl) ?_
  have t_6 : oty S_3 o 35 := (oX.ty XS_3 to)
  obtain ⟨q_7, hq_7⟩ := og (cq := cq) t_6.1 (oE_35 t_6.2)
  refine va_putF (D := (dC, dI)) (ci := 5) (v := .ref q_1) (ty := .array (.object "ShipOffice$Act")) (C := RX5) (T := TX5) (N := 3) hx hb hts in_wsX5_init_X5 tyX5 tyX5_ok nmX5 hown hK hP hD hS q_7 hq_7 rfl 0 (by decide) (hts (.fieldLink RX5 11 "ShipOffice$Law" "acts" "[LShipOffice$Act;") (by decide +kernel)) (fun _ h9 => h9) rfl hin rfl (by decide +kernel) rfl rfl (Nat.le_of_ble_eq_true rfl) dX5_init_10 (fun H locs hP1 hD1 hS => ?_)
  obtain ⟨S_8, eS_8⟩ : ∃ zq, zq = setP S_3 o 0 (some q_1) := ⟨_, rfl⟩
  have hP : va_P (dC, dI) vwCl (oW cq S_8) H := by rw [eS_8]; exact cP (oset t_6.1 hq_7 hD rfl (he_35_0 t_6.2) neP) hP1
  have hD : va_D A (oW cq S_8) := by rw [eS_8]; exact cD (oset t_6.1 hq_7 hD rfl (he_35_0 t_6.2) neP) hD1
  clear hP1 hD1
  have hIS_8 : oInv S_8 := by rw [eS_8]; exact oInv.P (k := 35) hIS_3 t_6.2 (by decide) rfl (by decide) tq_1 (by decide)
  have XS_8 : oX S_3 S_8 := by rw [eS_8]; exact oX.P
  have ik_9 : oI S_8 o 2 = 0 := by rw [eS_8]; exact ik_4
  have FS_8 : oFr o Z S_8 := by rw [eS_8]; exact oFr.P FS_3
  have X_10 : oX Z S_8 := oX.tr X_5 XS_8
  have pk_11 : oP S_8 o 0 = some q_1 := by rw [eS_8, setP_same]
  refine lv_aload_n hx hb dX5_init_13 rfl (lv_at hl 0 rfl) ?_
  refine lv_iconst (v := 5) hx hb dX5_init_14 (by decide) ?_
  refine va_newq (N' := 5) hx hb hown (hts (.classLink RX5 9 RX0) (by decide +kernel)) hZ.1.2.2.2.2.2.2.1 hK hP hD hS hA (by decide) (by decide) (by decide) (Nat.le_of_ble_eq_true rfl) (Nat.le_of_ble_eq_true rfl) dX5_init_15 (fun q_12 k_13 H hK1 hP1 hD1 hS => ?_)
  obtain ⟨rfl, -⟩ := lv_ad (k := 2) hK1 rfl
  clear hK1
  have hnq_12 := add_q hD1
  obtain ⟨S_14, eS_14⟩ : ∃ zq, zq = addO S_8 q_12 13 := ⟨_, rfl⟩
  have hP : va_P (dC, dI) vwCl (oW cq S_14) H := by rw [eS_14]; exact cP (onew hD1 (by rw [oE_13 add_K, add_P])) hP1
  have hD : va_D A (oW cq S_14) := by rw [eS_14]; exact cD (onew hD1 (by rw [oE_13 add_K, add_P])) hD1
  clear hP1 hD1
  have hIS_14 : oInv S_14 := by rw [eS_14]; exact oInv.add hIS_8 hnq_12 (by decide)
  have XS_14 : oX S_8 S_14 := by rw [eS_14]; exact oX.add hnq_12
  have pk_15 : oP S_14 o 0 = some q_1 := by rw [eS_14, add_Pn hnq_12 (oX.ty XS_8 t_6).1]; exact pk_11
  have ik_16 : oI S_14 o 2 = 0 := by rw [eS_14, add_In hnq_12 (oX.ty XS_8 t_6).1]; exact ik_9
  have FS_14 : oFr o Z S_14 := by rw [eS_14]; exact oFr.add FS_8 X_10 hnq_12
  have X_17 : oX Z S_14 := oX.tr X_10 XS_14
  have tq_12 : oty S_14 q_12 13 := by rw [eS_14]; exact add_ty
  refine W.widen (k := 2) (n := 35) (Nat.le_of_ble_eq_true rfl) (Nat.le_of_ble_eq_true rfl) ?_
  have t_18 : oty S_14 o 35 := (oX.ty XS_14 (oX.ty XS_8 t_6))
  obtain ⟨q_19, hq_19⟩ := og (cq := cq) t_18.1 (oE_35 t_18.2)
  refine va_putF (D := (dC, dI)) (ci := 5) (v := .ref q_12) (ty := .array (.object "ShipOffice$Act")) (C := RX5) (T := TX5) (N := 3) hx hb hts in_wsX5_init_X5 tyX5 tyX5_ok nmX5 hown hK hP hD hS q_19 hq_19 rfl 1 (by decide) (hts (.fieldLink RX5 17 "ShipOffice$Law" "customs" "[LShipOffice$Act;") (by decide +kernel)) (fun _ h9 => h9) rfl hin rfl (by decide +kernel) rfl rfl (Nat.le_of_ble_eq_true rfl) dX5_init_18 (fun H locs hP1 hD1 hS => ?_)
  obtain ⟨S_20, eS_20⟩ : ∃ zq, zq = setP S_14 o 1 (some q_12) := ⟨_, rfl⟩
  have hP : va_P (dC, dI) vwCl (oW cq S_20) H := by rw [eS_20]; exact cP (oset t_18.1 hq_19 hD rfl (he_35_1 t_18.2) neP) hP1
  have hD : va_D A (oW cq S_20) := by rw [eS_20]; exact cD (oset t_18.1 hq_19 hD rfl (he_35_1 t_18.2) neP) hD1
  clear hP1 hD1
  have hIS_20 : oInv S_20 := by rw [eS_20]; exact oInv.P (k := 35) hIS_14 t_18.2 (by decide) rfl (by decide) tq_12 (by decide)
  have XS_20 : oX S_14 S_20 := by rw [eS_20]; exact oX.P
  have pk_21 : oP S_20 o 0 = some q_1 := by rw [eS_20, setP_ne (by decide)]; exact pk_15
  have ik_22 : oI S_20 o 2 = 0 := by rw [eS_20]; exact ik_16
  have FS_20 : oFr o Z S_20 := by rw [eS_20]; exact oFr.P FS_14
  have X_23 : oX Z S_20 := oX.tr X_17 XS_20
  have pk_24 : oP S_20 o 1 = some q_12 := by rw [eS_20, setP_same]
  refine lv_aload_n hx hb dX5_init_21 rfl (lv_at hl 0 rfl) ?_
  have t_25 : oty S_20 o 35 := (oX.ty XS_20 t_18)
  obtain ⟨q_26, hq_26⟩ := og (cq := cq) t_25.1 (oE_35 t_25.2)
  refine va_get (D := (dC, dI)) (ci := 5) (v := .ref q_12) (C := RX5) (T := TX5) (N := 3) hx hb hts in_wsX5_init_X5 hown hK hP q_26 hq_26 rfl 1 (by decide) (hts (.fieldLink RX5 17 "ShipOffice$Law" "customs" "[LShipOffice$Act;") (by decide +kernel)) (fun _ h9 => h9) (o_rd pk_24) dX5_init_22 ?_
  refine lv_iconst (v := 0) hx hb dX5_init_25 (by decide) ?_
  refine va_new (ci := 0) (fs := [.int 0, .int 0, .int 0, .null, .null]) (C := RX0) (T := TX0) (N := 5) hx hb hts in_wsX5_init_X0 tyX0 tyX0_ok hown (hts (.classLink RX5 9 RX0) (by decide +kernel)) (hts (.instantiable RX0 5) (by decide +kernel)) (hts (.initialized RX0) (by decide +kernel)) hK hP hD hS hA rfl (fun j hj => by rcases (show j = 0 ∨ j = 1 ∨ j = 2 ∨ j = 3 ∨ j = 4 by omega) with rfl | rfl | rfl | rfl | rfl <;> rfl) (Nat.le_of_ble_eq_true rfl) (Nat.le_of_ble_eq_true rfl) dX5_init_26 (fun q_27 H hP1 hD1 hS => ?_)
  have hnq_27 := add_q hD1
  obtain ⟨S_28, eS_28⟩ : ∃ zq, zq = addO S_20 q_27 30 := ⟨_, rfl⟩
  have hP : va_P (dC, dI) vwCl (oW cq S_28) H := by rw [eS_28]; exact cP (onew hD1 (by rw [oE_30 add_K, add_I, add_P]; rfl)) hP1
  have hD : va_D A (oW cq S_28) := by rw [eS_28]; exact cD (onew hD1 (by rw [oE_30 add_K, add_I, add_P]; rfl)) hD1
  clear hP1 hD1
  have hIS_28 : oInv S_28 := by rw [eS_28]; exact oInv.add hIS_20 hnq_27 (by decide)
  have XS_28 : oX S_20 S_28 := by rw [eS_28]; exact oX.add hnq_27
  have pk_29 : oP S_28 o 0 = some q_1 := by rw [eS_28, add_Pn hnq_27 t_25.1]; exact pk_21
  have pk_30 : oP S_28 o 1 = some q_12 := by rw [eS_28, add_Pn hnq_27 t_25.1]; exact pk_24
  have ik_31 : oI S_28 o 2 = 0 := by rw [eS_28, add_In hnq_27 t_25.1]; exact ik_22
  have FS_28 : oFr o Z S_28 := by rw [eS_28]; exact oFr.add FS_20 X_23 hnq_27
  have X_32 : oX Z S_28 := oX.tr X_23 XS_28
  have tq_27 : oty S_28 q_27 30 := by rw [eS_28]; exact add_ty
  refine W.widen (k := 3) (n := 40) (Nat.le_of_ble_eq_true rfl) (Nat.le_of_ble_eq_true rfl) ?_
  refine lv_dup hx hb dX5_init_29 rfl ?_
  refine lv_iconst (v := 0) hx hb dX5_init_30 (by decide) ?_
  refine lv_iconst (v := (-1)) hx hb dX5_init_31 (by decide) ?_
  refine lv_iconst (v := 1) hx hb dX5_init_32 (by decide) ?_
  refine va_newa (atype := .int) (ty := .int) (a0 := (1, .inl (fun _ => 0))) hx hb (hts (.arrayClass .int) (by decide +kernel)) rfl hK hP hD hS hA (fun _ => rfl) (by decide) (by decide) (by decide) (Nat.le_of_ble_eq_true rfl) (Nat.le_of_ble_eq_true rfl) dX5_init_33 (fun q_33 k_34 H hK1 hP1 hD1 hS => ?_)
  obtain ⟨rfl, -⟩ := lv_ad (k := 0) hK1 rfl
  clear hK1
  have hnq_33 := add_q hD1
  obtain ⟨S_35, eS_35⟩ : ∃ zq, zq = addO S_28 q_33 101 := ⟨_, rfl⟩
  have hP : va_P (dC, dI) vwCl (oW cq S_35) H := by rw [eS_35]; exact cP (onew hD1 (by rw [oE_ar (n := 1) add_K, add_I])) hP1
  have hD : va_D A (oW cq S_35) := by rw [eS_35]; exact cD (onew hD1 (by rw [oE_ar (n := 1) add_K, add_I])) hD1
  clear hP1 hD1
  have hIS_35 : oInv S_35 := by rw [eS_35]; exact oInv.add hIS_28 hnq_33 (by decide)
  have XS_35 : oX S_28 S_35 := by rw [eS_35]; exact oX.add hnq_33
  have pk_36 : oP S_35 o 0 = some q_1 := by rw [eS_35, add_Pn hnq_33 (oX.ty XS_28 t_25).1]; exact pk_29
  have pk_37 : oP S_35 o 1 = some q_12 := by rw [eS_35, add_Pn hnq_33 (oX.ty XS_28 t_25).1]; exact pk_30
  have ik_38 : oI S_35 o 2 = 0 := by rw [eS_35, add_In hnq_33 (oX.ty XS_28 t_25).1]; exact ik_31
  have FS_35 : oFr o Z S_35 := by rw [eS_35]; exact oFr.add FS_28 X_32 hnq_33
  have X_39 : oX Z S_35 := oX.tr X_32 XS_35
  have tq_33 : oty S_35 q_33 101 := by rw [eS_35]; exact add_ty
  refine W.widen (k := 4) (n := 41) (Nat.le_of_ble_eq_true rfl) (Nat.le_of_ble_eq_true rfl) ?_
  refine lv_dup hx hb dX5_init_35 rfl ?_
  refine lv_iconst (v := 0) hx hb dX5_init_36 (by decide) ?_
  refine lv_iconst (v := 1) hx hb dX5_init_37 (by decide) ?_
  obtain ⟨q_40, hq_40⟩ := og (cq := cq) tq_33.1 (oE_ar (n := 1) tq_33.2)
  refine va_iast hx hb hK hP hD hS q_40 0 hq_40 rfl (by unfold vp_in; decide) dX5_init_38 (fun H locs hP1 hD1 hS => ?_)
  obtain ⟨S_41, eS_41⟩ : ∃ zq, zq = setI S_35 q_33 (0 : Int32).toNatClampNeg 1 := ⟨_, rfl⟩
  have hP : va_P (dC, dI) vwCl (oW cq S_41) H := by rw [eS_41]; exact cP (oset tq_33.1 hq_40 hD rfl (he_ar (n := 1) tq_33.2) neI) hP1
  have hD : va_D A (oW cq S_41) := by rw [eS_41]; exact cD (oset tq_33.1 hq_40 hD rfl (he_ar (n := 1) tq_33.2) neI) hD1
  clear hP1 hD1
  have hIS_41 : oInv S_41 := by rw [eS_41]; exact oInv.A (n := 1) hIS_35 tq_33.2
  have XS_41 : oX S_35 S_41 := by rw [eS_41]; exact oX.I (k := 101) tq_33.2 (fun h => absurd h (by decide))
  have pk_42 : oP S_41 o 0 = some q_1 := by rw [eS_41]; exact pk_36
  have pk_43 : oP S_41 o 1 = some q_12 := by rw [eS_41]; exact pk_37
  have ik_44 : oI S_41 o 2 = 0 := by rw [eS_41, setI_oth (ty_ne (oX.ty XS_35 (oX.ty XS_28 t_25)) tq_33 (by decide))]; exact ik_38
  have FS_41 : oFr o Z S_41 := by rw [eS_41]; exact oFr.In FS_35 (oX.nin X_32 hnq_33)
  have X_45 : oX Z S_41 := oX.tr X_39 XS_41
  have t_46 : oty S_41 q_27 30 := (oX.ty XS_41 (oX.ty XS_35 tq_27))
  have t_47 : oty S_41 q_33 101 := (oX.ty XS_41 tq_33)
  have hFc := o_free hD hS hA
  refine va_callv (va_runI (As := [.int 0, .int (-1), .ref q_33]) (rest := [.ref q_27, .int 0, .ref q_12]) ⟨hx, hb, hml, hown, hts⟩ (c_X0_init l dC dI H.size tL tS tG cq S_41 hIS_41 q_27 t_46 0 (-1) 1 (by decide) q_33 t_47) (cwI 3 hts gX5_init_X0_init rfl rfl rfl (hts (.initialized RX0) (by decide +kernel)) (hts (.methodLink RX5 20 yX0_init) (by decide +kernel)) (hts (.instanceMethod yX0_init) (by decide +kernel)) rfl (by decide +kernel) ⟨(Nat.le_of_ble_eq_true rfl), (Nat.le_of_ble_eq_true rfl)⟩) (pr_SO hP hK hD (hZ.go hS hFc)) rfl rfl hl.1 rfl (lv_room (Nat.le_of_ble_eq_true rfl)) dX5_init_39 ⟨(Nat.le_of_ble_eq_true rfl), (Nat.le_of_ble_eq_true rfl)⟩) hS (fun q _ h => hFc q h) hFc (fun u t H locs ht hvm w_48 hB hz1 hk1 hS => ?_)
  obtain ⟨S_50, rfl⟩ : ∃ z, z = u := ⟨_, rfl⟩
  obtain ⟨hP1, hK1, hD1⟩ := hB
  rw [ht] at hP1
  have hP : va_P (dC, dI) vwCl (oW cq S_50) H := hP1
  have hD : va_D A (oW cq S_50) := hD1.weaken (fun _ _ _ h => hFc _ h)
  clear hP1 hK1 hD1 hk1 hz1 hvm ht hFc
  refine W.widen (k := 6) (n := 110) (Nat.le_of_ble_eq_true rfl) (Nat.le_of_ble_eq_true rfl) ?_
  obtain ⟨hIS_50, XS_50, hx_51⟩ := w_48
  obtain ⟨hxS_50, FS_50⟩ := hx_51
  have X_52 : oX Z S_50 := oX.c X_45 XS_50 (oX.nin X_23 hnq_27)
  have GS_50 : oFr o Z S_50 := oFr.c FS_41 X_45 FS_50 (oX.nin X_23 hnq_27)
  have pk_53 : oP S_50 o 0 = some q_1 := by rw [(FS_50 o (oX.ty XS_41 (oX.ty XS_35 (oX.ty XS_28 t_25))).1 (ty_ne (oX.ty XS_41 (oX.ty XS_35 (oX.ty XS_28 t_25))) t_46 (by decide))).2]; exact pk_42
  have pk_54 : oP S_50 o 1 = some q_12 := by rw [(FS_50 o (oX.ty XS_41 (oX.ty XS_35 (oX.ty XS_28 t_25))).1 (ty_ne (oX.ty XS_41 (oX.ty XS_35 (oX.ty XS_28 t_25))) t_46 (by decide))).2]; exact pk_43
  have ik_55 : oI S_50 o 2 = 0 := by rw [(FS_50 o (oX.ty XS_41 (oX.ty XS_35 (oX.ty XS_28 t_25))).1 (ty_ne (oX.ty XS_41 (oX.ty XS_35 (oX.ty XS_28 t_25))) t_46 (by decide))).1 (by rw [(oX.ty XS_41 (oX.ty XS_35 (oX.ty XS_28 t_25))).2]; decide)]; exact ik_44
  have t_56 : oty S_50 q_12 13 := (oXc.ty XS_50 (ty_ne (oX.ty XS_41 (oX.ty XS_35 (oX.ty XS_28 (oX.ty XS_20 tq_12)))) t_46 (by decide)) (oX.ty XS_41 (oX.ty XS_35 (oX.ty XS_28 (oX.ty XS_20 tq_12)))))
  obtain ⟨q_57, hq_57⟩ := og (cq := cq) t_56.1 (oE_13 t_56.2)
  obtain ⟨q_58, hq_58⟩ := og (cq := cq) hxS_50.1 (oE_0 hxS_50.2)
  refine va_astq (r := (RX0, TX0, 5)) hx hb hK hP hD hS q_57 2 q_58 0 hq_57 rfl hq_58 rfl (by unfold vp_in; decide) dX5_init_42 (fun H locs hP1 hD1 hS => ?_)
  obtain ⟨S_59, eS_59⟩ : ∃ zq, zq = setP S_50 q_12 (0 : Int32).toNatClampNeg (some q_27) := ⟨_, rfl⟩
  have hP : va_P (dC, dI) vwCl (oW cq S_59) H := by rw [eS_59]; exact cP (oset t_56.1 hq_57 hD rfl (he_13 t_56.2) neP) hP1
  have hD : va_D A (oW cq S_59) := by rw [eS_59]; exact cD (oset t_56.1 hq_57 hD rfl (he_13 t_56.2) neP) hD1
  clear hP1 hD1
  have hIS_59 : oInv S_59 := by rw [eS_59]; exact oInv.P (k := 13) hIS_50 t_56.2 (by decide) rfl (fun h => absurd h.1 (by decide)) hxS_50 (show 0 ≤ 0 ∧ 0 ≤ 0 from ⟨Nat.le_refl _, Nat.le_refl _⟩)
  have XS_59 : oX S_50 S_59 := by rw [eS_59]; exact oX.P
  have pk_60 : oP S_59 o 0 = some q_1 := by rw [eS_59, setP_oth (ty_ne (oXc.ty XS_50 (ty_ne (oX.ty XS_41 (oX.ty XS_35 (oX.ty XS_28 t_25))) t_46 (by decide)) (oX.ty XS_41 (oX.ty XS_35 (oX.ty XS_28 t_25)))) t_56 (by decide))]; exact pk_53
  have pk_61 : oP S_59 o 1 = some q_12 := by rw [eS_59, setP_oth (ty_ne (oXc.ty XS_50 (ty_ne (oX.ty XS_41 (oX.ty XS_35 (oX.ty XS_28 t_25))) t_46 (by decide)) (oX.ty XS_41 (oX.ty XS_35 (oX.ty XS_28 t_25)))) t_56 (by decide))]; exact pk_54
  have ik_62 : oI S_59 o 2 = 0 := by rw [eS_59]; exact ik_55
  have FS_59 : oFr o Z S_59 := by rw [eS_59]; exact oFr.Pn GS_50 (oX.nin X_10 hnq_12)
  have X_63 : oX Z S_59 := oX.tr X_52 XS_59
  have pk_64 : oP S_59 q_12 0 = some q_27 := by rw [eS_59]; exact setP_same
  refine lv_aload_n hx hb dX5_init_43 rfl (lv_at hl 0 rfl) ?_
  have t_65 : oty S_59 o 35 := (oX.ty XS_59 (oXc.ty XS_50 (ty_ne (oX.ty XS_41 (oX.ty XS_35 (oX.ty XS_28 t_25))) t_46 (by decide)) (oX.ty XS_41 (oX.ty XS_35 (oX.ty XS_28 t_25)))))
  obtain ⟨q_66, hq_66⟩ := og (cq := cq) t_65.1 (oE_35 t_65.2)
  refine va_get (D := (dC, dI)) (ci := 5) (v := .ref q_12) (C := RX5) (T := TX5) (N := 3) hx hb hts in_wsX5_init_X5 hown hK hP q_66 hq_66 rfl 1 (by decide) (hts (.fieldLink RX5 17 "ShipOffice$Law" "customs" "[LShipOffice$Act;") (by decide +kernel)) (fun _ h9 => h9) (o_rd pk_61) dX5_init_44 ?_
  refine lv_iconst (v := 1) hx hb dX5_init_47 (by decide) ?_
  refine va_new (ci := 0) (fs := [.int 0, .int 0, .int 0, .null, .null]) (C := RX0) (T := TX0) (N := 5) hx hb hts in_wsX5_init_X0 tyX0 tyX0_ok hown (hts (.classLink RX5 9 RX0) (by decide +kernel)) (hts (.instantiable RX0 5) (by decide +kernel)) (hts (.initialized RX0) (by decide +kernel)) hK hP hD hS hA rfl (fun j hj => by rcases (show j = 0 ∨ j = 1 ∨ j = 2 ∨ j = 3 ∨ j = 4 by omega) with rfl | rfl | rfl | rfl | rfl <;> rfl) (Nat.le_of_ble_eq_true rfl) (Nat.le_of_ble_eq_true rfl) dX5_init_48 (fun q_67 H hP1 hD1 hS => ?_)
  have hnq_67 := add_q hD1
  obtain ⟨S_68, eS_68⟩ : ∃ zq, zq = addO S_59 q_67 30 := ⟨_, rfl⟩
  have hP : va_P (dC, dI) vwCl (oW cq S_68) H := by rw [eS_68]; exact cP (onew hD1 (by rw [oE_30 add_K, add_I, add_P]; rfl)) hP1
  have hD : va_D A (oW cq S_68) := by rw [eS_68]; exact cD (onew hD1 (by rw [oE_30 add_K, add_I, add_P]; rfl)) hD1
  clear hP1 hD1
  have hIS_68 : oInv S_68 := by rw [eS_68]; exact oInv.add hIS_59 hnq_67 (by decide)
  have XS_68 : oX S_59 S_68 := by rw [eS_68]; exact oX.add hnq_67
  have pk_69 : oP S_68 o 0 = some q_1 := by rw [eS_68, add_Pn hnq_67 t_65.1]; exact pk_60
  have pk_70 : oP S_68 o 1 = some q_12 := by rw [eS_68, add_Pn hnq_67 t_65.1]; exact pk_61
  have pk_71 : oP S_68 q_12 0 = some q_27 := by rw [eS_68, add_Pn hnq_67 (oX.ty XS_59 t_56).1]; exact pk_64
  have ik_72 : oI S_68 o 2 = 0 := by rw [eS_68, add_In hnq_67 t_65.1]; exact ik_62
  have FS_68 : oFr o Z S_68 := by rw [eS_68]; exact oFr.add FS_59 X_63 hnq_67
  have X_73 : oX Z S_68 := oX.tr X_63 XS_68
  have tq_67 : oty S_68 q_67 30 := by rw [eS_68]; exact add_ty
  refine W.widen (k := 7) (n := 115) (Nat.le_of_ble_eq_true rfl) (Nat.le_of_ble_eq_true rfl) ?_
  refine lv_dup hx hb dX5_init_51 rfl ?_
  refine lv_iconst (v := 1) hx hb dX5_init_52 (by decide) ?_
  refine lv_iconst (v := (-1)) hx hb dX5_init_53 (by decide) ?_
  refine lv_iconst (v := 1) hx hb dX5_init_54 (by decide) ?_
  refine va_newa (atype := .int) (ty := .int) (a0 := (1, .inl (fun _ => 0))) hx hb (hts (.arrayClass .int) (by decide +kernel)) rfl hK hP hD hS hA (fun _ => rfl) (by decide) (by decide) (by decide) (Nat.le_of_ble_eq_true rfl) (Nat.le_of_ble_eq_true rfl) dX5_init_55 (fun q_74 k_75 H hK1 hP1 hD1 hS => ?_)
  obtain ⟨rfl, -⟩ := lv_ad (k := 0) hK1 rfl
  clear hK1
  have hnq_74 := add_q hD1
  obtain ⟨S_76, eS_76⟩ : ∃ zq, zq = addO S_68 q_74 101 := ⟨_, rfl⟩
  have hP : va_P (dC, dI) vwCl (oW cq S_76) H := by rw [eS_76]; exact cP (onew hD1 (by rw [oE_ar (n := 1) add_K, add_I])) hP1
  have hD : va_D A (oW cq S_76) := by rw [eS_76]; exact cD (onew hD1 (by rw [oE_ar (n := 1) add_K, add_I])) hD1
  clear hP1 hD1
  have hIS_76 : oInv S_76 := by rw [eS_76]; exact oInv.add hIS_68 hnq_74 (by decide)
  have XS_76 : oX S_68 S_76 := by rw [eS_76]; exact oX.add hnq_74
  have pk_77 : oP S_76 o 0 = some q_1 := by rw [eS_76, add_Pn hnq_74 (oX.ty XS_68 t_65).1]; exact pk_69
  have pk_78 : oP S_76 o 1 = some q_12 := by rw [eS_76, add_Pn hnq_74 (oX.ty XS_68 t_65).1]; exact pk_70
  have pk_79 : oP S_76 q_12 0 = some q_27 := by rw [eS_76, add_Pn hnq_74 (oX.ty XS_68 (oX.ty XS_59 t_56)).1]; exact pk_71
  have ik_80 : oI S_76 o 2 = 0 := by rw [eS_76, add_In hnq_74 (oX.ty XS_68 t_65).1]; exact ik_72
  have FS_76 : oFr o Z S_76 := by rw [eS_76]; exact oFr.add FS_68 X_73 hnq_74
  have X_81 : oX Z S_76 := oX.tr X_73 XS_76
  have tq_74 : oty S_76 q_74 101 := by rw [eS_76]; exact add_ty
  refine W.widen (k := 8) (n := 116) (Nat.le_of_ble_eq_true rfl) (Nat.le_of_ble_eq_true rfl) ?_
  refine lv_dup hx hb dX5_init_57 rfl ?_
  refine lv_iconst (v := 0) hx hb dX5_init_58 (by decide) ?_
  refine lv_bipush (v := (-6)) hx hb dX5_init_59 (by decide) ?_
  obtain ⟨q_82, hq_82⟩ := og (cq := cq) tq_74.1 (oE_ar (n := 1) tq_74.2)
  refine va_iast hx hb hK hP hD hS q_82 0 hq_82 rfl (by unfold vp_in; decide) dX5_init_61 (fun H locs hP1 hD1 hS => ?_)
  obtain ⟨S_83, eS_83⟩ : ∃ zq, zq = setI S_76 q_74 (0 : Int32).toNatClampNeg (-6) := ⟨_, rfl⟩
  have hP : va_P (dC, dI) vwCl (oW cq S_83) H := by rw [eS_83]; exact cP (oset tq_74.1 hq_82 hD rfl (he_ar (n := 1) tq_74.2) neI) hP1
  have hD : va_D A (oW cq S_83) := by rw [eS_83]; exact cD (oset tq_74.1 hq_82 hD rfl (he_ar (n := 1) tq_74.2) neI) hD1
  clear hP1 hD1
  have hIS_83 : oInv S_83 := by rw [eS_83]; exact oInv.A (n := 1) hIS_76 tq_74.2
  have XS_83 : oX S_76 S_83 := by rw [eS_83]; exact oX.I (k := 101) tq_74.2 (fun h => absurd h (by decide))
  have pk_84 : oP S_83 o 0 = some q_1 := by rw [eS_83]; exact pk_77
  have pk_85 : oP S_83 o 1 = some q_12 := by rw [eS_83]; exact pk_78
  have pk_86 : oP S_83 q_12 0 = some q_27 := by rw [eS_83]; exact pk_79
  have ik_87 : oI S_83 o 2 = 0 := by rw [eS_83, setI_oth (ty_ne (oX.ty XS_76 (oX.ty XS_68 t_65)) tq_74 (by decide))]; exact ik_80
  have FS_83 : oFr o Z S_83 := by rw [eS_83]; exact oFr.In FS_76 (oX.nin X_73 hnq_74)
  have X_88 : oX Z S_83 := oX.tr X_81 XS_83
  have t_89 : oty S_83 q_67 30 := (oX.ty XS_83 (oX.ty XS_76 tq_67))
  have t_90 : oty S_83 q_74 101 := (oX.ty XS_83 tq_74)
  have hFc := o_free hD hS hA
  refine va_callv (va_runI (As := [.int 1, .int (-1), .ref q_74]) (rest := [.ref q_67, .int 1, .ref q_12]) ⟨hx, hb, hml, hown, hts⟩ (c_X0_init l dC dI H.size tL tS tG cq S_83 hIS_83 q_67 t_89 1 (-1) 1 (by decide) q_74 t_90) (cwI 3 hts gX5_init_X0_init rfl rfl rfl (hts (.initialized RX0) (by decide +kernel)) (hts (.methodLink RX5 20 yX0_init) (by decide +kernel)) (hts (.instanceMethod yX0_init) (by decide +kernel)) rfl (by decide +kernel) ⟨(Nat.le_of_ble_eq_true rfl), (Nat.le_of_ble_eq_true rfl)⟩) (pr_SO hP hK hD (hZ.go hS hFc)) rfl rfl hl.1 rfl (lv_room (Nat.le_of_ble_eq_true rfl)) dX5_init_62 ⟨(Nat.le_of_ble_eq_true rfl), (Nat.le_of_ble_eq_true rfl)⟩) hS (fun q _ h => hFc q h) hFc (fun u t H locs ht hvm w_91 hB hz1 hk1 hS => ?_)
  obtain ⟨S_93, rfl⟩ : ∃ z, z = u := ⟨_, rfl⟩
  obtain ⟨hP1, hK1, hD1⟩ := hB
  rw [ht] at hP1
  have hP : va_P (dC, dI) vwCl (oW cq S_93) H := hP1
  have hD : va_D A (oW cq S_93) := hD1.weaken (fun _ _ _ h => hFc _ h)
  clear hP1 hK1 hD1 hk1 hz1 hvm ht hFc
  refine W.widen (k := 10) (n := 185) (Nat.le_of_ble_eq_true rfl) (Nat.le_of_ble_eq_true rfl) ?_
  obtain ⟨hIS_93, XS_93, hx_94⟩ := w_91
  obtain ⟨hxS_93, FS_93⟩ := hx_94
  have X_95 : oX Z S_93 := oX.c X_88 XS_93 (oX.nin X_63 hnq_67)
  have GS_93 : oFr o Z S_93 := oFr.c FS_83 X_88 FS_93 (oX.nin X_63 hnq_67)
  have pk_96 : oP S_93 o 0 = some q_1 := by rw [(FS_93 o (oX.ty XS_83 (oX.ty XS_76 (oX.ty XS_68 t_65))).1 (ty_ne (oX.ty XS_83 (oX.ty XS_76 (oX.ty XS_68 t_65))) t_89 (by decide))).2]; exact pk_84
  have pk_97 : oP S_93 o 1 = some q_12 := by rw [(FS_93 o (oX.ty XS_83 (oX.ty XS_76 (oX.ty XS_68 t_65))).1 (ty_ne (oX.ty XS_83 (oX.ty XS_76 (oX.ty XS_68 t_65))) t_89 (by decide))).2]; exact pk_85
  have pk_98 : oP S_93 q_12 0 = some q_27 := by rw [(FS_93 q_12 (oX.ty XS_83 (oX.ty XS_76 (oX.ty XS_68 (oX.ty XS_59 t_56)))).1 (ty_ne (oX.ty XS_83 (oX.ty XS_76 (oX.ty XS_68 (oX.ty XS_59 t_56)))) t_89 (by decide))).2]; exact pk_86
  have ik_99 : oI S_93 o 2 = 0 := by rw [(FS_93 o (oX.ty XS_83 (oX.ty XS_76 (oX.ty XS_68 t_65))).1 (ty_ne (oX.ty XS_83 (oX.ty XS_76 (oX.ty XS_68 t_65))) t_89 (by decide))).1 (by rw [(oX.ty XS_83 (oX.ty XS_76 (oX.ty XS_68 t_65))).2]; decide)]; exact ik_87
  have t_100 : oty S_93 q_12 13 := (oXc.ty XS_93 (ty_ne (oX.ty XS_83 (oX.ty XS_76 (oX.ty XS_68 (oX.ty XS_59 t_56)))) t_89 (by decide)) (oX.ty XS_83 (oX.ty XS_76 (oX.ty XS_68 (oX.ty XS_59 t_56)))))
  obtain ⟨q_101, hq_101⟩ := og (cq := cq) t_100.1 (oE_13 t_100.2)
  obtain ⟨q_102, hq_102⟩ := og (cq := cq) hxS_93.1 (oE_0 hxS_93.2)
  refine va_astq (r := (RX0, TX0, 5)) hx hb hK hP hD hS q_101 2 q_102 0 hq_101 rfl hq_102 rfl (by unfold vp_in; decide) dX5_init_65 (fun H locs hP1 hD1 hS => ?_)
  obtain ⟨S_103, eS_103⟩ : ∃ zq, zq = setP S_93 q_12 (1 : Int32).toNatClampNeg (some q_67) := ⟨_, rfl⟩
  have hP : va_P (dC, dI) vwCl (oW cq S_103) H := by rw [eS_103]; exact cP (oset t_100.1 hq_101 hD rfl (he_13 t_100.2) neP) hP1
  have hD : va_D A (oW cq S_103) := by rw [eS_103]; exact cD (oset t_100.1 hq_101 hD rfl (he_13 t_100.2) neP) hD1
  clear hP1 hD1
  have hIS_103 : oInv S_103 := by rw [eS_103]; exact oInv.P (k := 13) hIS_93 t_100.2 (by decide) rfl (fun h => absurd h.1 (by decide)) hxS_93 (show 0 ≤ 0 ∧ 0 ≤ 0 from ⟨Nat.le_refl _, Nat.le_refl _⟩)
  have XS_103 : oX S_93 S_103 := by rw [eS_103]; exact oX.P
  have pk_104 : oP S_103 o 0 = some q_1 := by rw [eS_103, setP_oth (ty_ne (oXc.ty XS_93 (ty_ne (oX.ty XS_83 (oX.ty XS_76 (oX.ty XS_68 t_65))) t_89 (by decide)) (oX.ty XS_83 (oX.ty XS_76 (oX.ty XS_68 t_65)))) t_100 (by decide))]; exact pk_96
  have pk_105 : oP S_103 o 1 = some q_12 := by rw [eS_103, setP_oth (ty_ne (oXc.ty XS_93 (ty_ne (oX.ty XS_83 (oX.ty XS_76 (oX.ty XS_68 t_65))) t_89 (by decide)) (oX.ty XS_83 (oX.ty XS_76 (oX.ty XS_68 t_65)))) t_100 (by decide))]; exact pk_97
  have pk_106 : oP S_103 q_12 0 = some q_27 := by rw [eS_103, setP_ne (by decide)]; exact pk_98
  have ik_107 : oI S_103 o 2 = 0 := by rw [eS_103]; exact ik_99
  have FS_103 : oFr o Z S_103 := by rw [eS_103]; exact oFr.Pn GS_93 (oX.nin X_10 hnq_12)
  have X_108 : oX Z S_103 := oX.tr X_95 XS_103
  have pk_109 : oP S_103 q_12 1 = some q_67 := by rw [eS_103]; exact setP_same
  refine lv_aload_n hx hb dX5_init_66 rfl (lv_at hl 0 rfl) ?_
  have t_110 : oty S_103 o 35 := (oX.ty XS_103 (oXc.ty XS_93 (ty_ne (oX.ty XS_83 (oX.ty XS_76 (oX.ty XS_68 t_65))) t_89 (by decide)) (oX.ty XS_83 (oX.ty XS_76 (oX.ty XS_68 t_65)))))
  obtain ⟨q_111, hq_111⟩ := og (cq := cq) t_110.1 (oE_35 t_110.2)
  refine va_get (D := (dC, dI)) (ci := 5) (v := .ref q_12) (C := RX5) (T := TX5) (N := 3) hx hb hts in_wsX5_init_X5 hown hK hP q_111 hq_111 rfl 1 (by decide) (hts (.fieldLink RX5 17 "ShipOffice$Law" "customs" "[LShipOffice$Act;") (by decide +kernel)) (fun _ h9 => h9) (o_rd pk_105) dX5_init_67 ?_
  refine lv_iconst (v := 2) hx hb dX5_init_70 (by decide) ?_
  refine va_new (ci := 0) (fs := [.int 0, .int 0, .int 0, .null, .null]) (C := RX0) (T := TX0) (N := 5) hx hb hts in_wsX5_init_X0 tyX0 tyX0_ok hown (hts (.classLink RX5 9 RX0) (by decide +kernel)) (hts (.instantiable RX0 5) (by decide +kernel)) (hts (.initialized RX0) (by decide +kernel)) hK hP hD hS hA rfl (fun j hj => by rcases (show j = 0 ∨ j = 1 ∨ j = 2 ∨ j = 3 ∨ j = 4 by omega) with rfl | rfl | rfl | rfl | rfl <;> rfl) (Nat.le_of_ble_eq_true rfl) (Nat.le_of_ble_eq_true rfl) dX5_init_71 (fun q_112 H hP1 hD1 hS => ?_)
  have hnq_112 := add_q hD1
  obtain ⟨S_113, eS_113⟩ : ∃ zq, zq = addO S_103 q_112 30 := ⟨_, rfl⟩
  have hP : va_P (dC, dI) vwCl (oW cq S_113) H := by rw [eS_113]; exact cP (onew hD1 (by rw [oE_30 add_K, add_I, add_P]; rfl)) hP1
  have hD : va_D A (oW cq S_113) := by rw [eS_113]; exact cD (onew hD1 (by rw [oE_30 add_K, add_I, add_P]; rfl)) hD1
  clear hP1 hD1
  have hIS_113 : oInv S_113 := by rw [eS_113]; exact oInv.add hIS_103 hnq_112 (by decide)
  have XS_113 : oX S_103 S_113 := by rw [eS_113]; exact oX.add hnq_112
  have pk_114 : oP S_113 o 0 = some q_1 := by rw [eS_113, add_Pn hnq_112 t_110.1]; exact pk_104
  have pk_115 : oP S_113 o 1 = some q_12 := by rw [eS_113, add_Pn hnq_112 t_110.1]; exact pk_105
  have pk_116 : oP S_113 q_12 0 = some q_27 := by rw [eS_113, add_Pn hnq_112 (oX.ty XS_103 t_100).1]; exact pk_106
  have pk_117 : oP S_113 q_12 1 = some q_67 := by rw [eS_113, add_Pn hnq_112 (oX.ty XS_103 t_100).1]; exact pk_109
  have ik_118 : oI S_113 o 2 = 0 := by rw [eS_113, add_In hnq_112 t_110.1]; exact ik_107
  have FS_113 : oFr o Z S_113 := by rw [eS_113]; exact oFr.add FS_103 X_108 hnq_112
  have X_119 : oX Z S_113 := oX.tr X_108 XS_113
  have tq_112 : oty S_113 q_112 30 := by rw [eS_113]; exact add_ty
  refine W.widen (k := 11) (n := 190) (Nat.le_of_ble_eq_true rfl) (Nat.le_of_ble_eq_true rfl) ?_
  refine lv_dup hx hb dX5_init_74 rfl ?_
  refine lv_iconst (v := 2) hx hb dX5_init_75 (by decide) ?_
  refine lv_iconst (v := (-1)) hx hb dX5_init_76 (by decide) ?_
  refine lv_iconst (v := 1) hx hb dX5_init_77 (by decide) ?_
  refine va_newa (atype := .int) (ty := .int) (a0 := (1, .inl (fun _ => 0))) hx hb (hts (.arrayClass .int) (by decide +kernel)) rfl hK hP hD hS hA (fun _ => rfl) (by decide) (by decide) (by decide) (Nat.le_of_ble_eq_true rfl) (Nat.le_of_ble_eq_true rfl) dX5_init_78 (fun q_120 k_121 H hK1 hP1 hD1 hS => ?_)
  obtain ⟨rfl, -⟩ := lv_ad (k := 0) hK1 rfl
  clear hK1
  have hnq_120 := add_q hD1
  obtain ⟨S_122, eS_122⟩ : ∃ zq, zq = addO S_113 q_120 101 := ⟨_, rfl⟩
  have hP : va_P (dC, dI) vwCl (oW cq S_122) H := by rw [eS_122]; exact cP (onew hD1 (by rw [oE_ar (n := 1) add_K, add_I])) hP1
  have hD : va_D A (oW cq S_122) := by rw [eS_122]; exact cD (onew hD1 (by rw [oE_ar (n := 1) add_K, add_I])) hD1
  clear hP1 hD1
  have hIS_122 : oInv S_122 := by rw [eS_122]; exact oInv.add hIS_113 hnq_120 (by decide)
  have XS_122 : oX S_113 S_122 := by rw [eS_122]; exact oX.add hnq_120
  have pk_123 : oP S_122 o 0 = some q_1 := by rw [eS_122, add_Pn hnq_120 (oX.ty XS_113 t_110).1]; exact pk_114
  have pk_124 : oP S_122 o 1 = some q_12 := by rw [eS_122, add_Pn hnq_120 (oX.ty XS_113 t_110).1]; exact pk_115
  have pk_125 : oP S_122 q_12 0 = some q_27 := by rw [eS_122, add_Pn hnq_120 (oX.ty XS_113 (oX.ty XS_103 t_100)).1]; exact pk_116
  have pk_126 : oP S_122 q_12 1 = some q_67 := by rw [eS_122, add_Pn hnq_120 (oX.ty XS_113 (oX.ty XS_103 t_100)).1]; exact pk_117
  have ik_127 : oI S_122 o 2 = 0 := by rw [eS_122, add_In hnq_120 (oX.ty XS_113 t_110).1]; exact ik_118
  have FS_122 : oFr o Z S_122 := by rw [eS_122]; exact oFr.add FS_113 X_119 hnq_120
  have X_128 : oX Z S_122 := oX.tr X_119 XS_122
  have tq_120 : oty S_122 q_120 101 := by rw [eS_122]; exact add_ty
  refine W.widen (k := 12) (n := 191) (Nat.le_of_ble_eq_true rfl) (Nat.le_of_ble_eq_true rfl) ?_
  refine lv_dup hx hb dX5_init_80 rfl ?_
  refine lv_iconst (v := 0) hx hb dX5_init_81 (by decide) ?_
  refine lv_bipush (v := 100) hx hb dX5_init_82 (by decide) ?_
  obtain ⟨q_129, hq_129⟩ := og (cq := cq) tq_120.1 (oE_ar (n := 1) tq_120.2)
  refine va_iast hx hb hK hP hD hS q_129 0 hq_129 rfl (by unfold vp_in; decide) dX5_init_84 (fun H locs hP1 hD1 hS => ?_)
  obtain ⟨S_130, eS_130⟩ : ∃ zq, zq = setI S_122 q_120 (0 : Int32).toNatClampNeg 100 := ⟨_, rfl⟩
  have hP : va_P (dC, dI) vwCl (oW cq S_130) H := by rw [eS_130]; exact cP (oset tq_120.1 hq_129 hD rfl (he_ar (n := 1) tq_120.2) neI) hP1
  have hD : va_D A (oW cq S_130) := by rw [eS_130]; exact cD (oset tq_120.1 hq_129 hD rfl (he_ar (n := 1) tq_120.2) neI) hD1
  clear hP1 hD1
  have hIS_130 : oInv S_130 := by rw [eS_130]; exact oInv.A (n := 1) hIS_122 tq_120.2
  have XS_130 : oX S_122 S_130 := by rw [eS_130]; exact oX.I (k := 101) tq_120.2 (fun h => absurd h (by decide))
  have pk_131 : oP S_130 o 0 = some q_1 := by rw [eS_130]; exact pk_123
  have pk_132 : oP S_130 o 1 = some q_12 := by rw [eS_130]; exact pk_124
  have pk_133 : oP S_130 q_12 0 = some q_27 := by rw [eS_130]; exact pk_125
  have pk_134 : oP S_130 q_12 1 = some q_67 := by rw [eS_130]; exact pk_126
  have ik_135 : oI S_130 o 2 = 0 := by rw [eS_130, setI_oth (ty_ne (oX.ty XS_122 (oX.ty XS_113 t_110)) tq_120 (by decide))]; exact ik_127
  have FS_130 : oFr o Z S_130 := by rw [eS_130]; exact oFr.In FS_122 (oX.nin X_119 hnq_120)
  have X_136 : oX Z S_130 := oX.tr X_128 XS_130
  have t_137 : oty S_130 q_112 30 := (oX.ty XS_130 (oX.ty XS_122 tq_112))
  have t_138 : oty S_130 q_120 101 := (oX.ty XS_130 tq_120)
  have hFc := o_free hD hS hA
  refine va_callv (va_runI (As := [.int 2, .int (-1), .ref q_120]) (rest := [.ref q_112, .int 2, .ref q_12]) ⟨hx, hb, hml, hown, hts⟩ (c_X0_init l dC dI H.size tL tS tG cq S_130 hIS_130 q_112 t_137 2 (-1) 1 (by decide) q_120 t_138) (cwI 3 hts gX5_init_X0_init rfl rfl rfl (hts (.initialized RX0) (by decide +kernel)) (hts (.methodLink RX5 20 yX0_init) (by decide +kernel)) (hts (.instanceMethod yX0_init) (by decide +kernel)) rfl (by decide +kernel) ⟨(Nat.le_of_ble_eq_true rfl), (Nat.le_of_ble_eq_true rfl)⟩) (pr_SO hP hK hD (hZ.go hS hFc)) rfl rfl hl.1 rfl (lv_room (Nat.le_of_ble_eq_true rfl)) dX5_init_85 ⟨(Nat.le_of_ble_eq_true rfl), (Nat.le_of_ble_eq_true rfl)⟩) hS (fun q _ h => hFc q h) hFc (fun u t H locs ht hvm w_139 hB hz1 hk1 hS => ?_)
  obtain ⟨S_141, rfl⟩ : ∃ z, z = u := ⟨_, rfl⟩
  obtain ⟨hP1, hK1, hD1⟩ := hB
  rw [ht] at hP1
  have hP : va_P (dC, dI) vwCl (oW cq S_141) H := hP1
  have hD : va_D A (oW cq S_141) := hD1.weaken (fun _ _ _ h => hFc _ h)
  clear hP1 hK1 hD1 hk1 hz1 hvm ht hFc
  refine W.widen (k := 14) (n := 260) (Nat.le_of_ble_eq_true rfl) (Nat.le_of_ble_eq_true rfl) ?_
  obtain ⟨hIS_141, XS_141, hx_142⟩ := w_139
  obtain ⟨hxS_141, FS_141⟩ := hx_142
  have X_143 : oX Z S_141 := oX.c X_136 XS_141 (oX.nin X_108 hnq_112)
  have GS_141 : oFr o Z S_141 := oFr.c FS_130 X_136 FS_141 (oX.nin X_108 hnq_112)
  have pk_144 : oP S_141 o 0 = some q_1 := by rw [(FS_141 o (oX.ty XS_130 (oX.ty XS_122 (oX.ty XS_113 t_110))).1 (ty_ne (oX.ty XS_130 (oX.ty XS_122 (oX.ty XS_113 t_110))) t_137 (by decide))).2]; exact pk_131
  have pk_145 : oP S_141 o 1 = some q_12 := by rw [(FS_141 o (oX.ty XS_130 (oX.ty XS_122 (oX.ty XS_113 t_110))).1 (ty_ne (oX.ty XS_130 (oX.ty XS_122 (oX.ty XS_113 t_110))) t_137 (by decide))).2]; exact pk_132
  have pk_146 : oP S_141 q_12 0 = some q_27 := by rw [(FS_141 q_12 (oX.ty XS_130 (oX.ty XS_122 (oX.ty XS_113 (oX.ty XS_103 t_100)))).1 (ty_ne (oX.ty XS_130 (oX.ty XS_122 (oX.ty XS_113 (oX.ty XS_103 t_100)))) t_137 (by decide))).2]; exact pk_133
  have pk_147 : oP S_141 q_12 1 = some q_67 := by rw [(FS_141 q_12 (oX.ty XS_130 (oX.ty XS_122 (oX.ty XS_113 (oX.ty XS_103 t_100)))).1 (ty_ne (oX.ty XS_130 (oX.ty XS_122 (oX.ty XS_113 (oX.ty XS_103 t_100)))) t_137 (by decide))).2]; exact pk_134
  have ik_148 : oI S_141 o 2 = 0 := by rw [(FS_141 o (oX.ty XS_130 (oX.ty XS_122 (oX.ty XS_113 t_110))).1 (ty_ne (oX.ty XS_130 (oX.ty XS_122 (oX.ty XS_113 t_110))) t_137 (by decide))).1 (by rw [(oX.ty XS_130 (oX.ty XS_122 (oX.ty XS_113 t_110))).2]; decide)]; exact ik_135
  have t_149 : oty S_141 q_12 13 := (oXc.ty XS_141 (ty_ne (oX.ty XS_130 (oX.ty XS_122 (oX.ty XS_113 (oX.ty XS_103 t_100)))) t_137 (by decide)) (oX.ty XS_130 (oX.ty XS_122 (oX.ty XS_113 (oX.ty XS_103 t_100)))))
  obtain ⟨q_150, hq_150⟩ := og (cq := cq) t_149.1 (oE_13 t_149.2)
  obtain ⟨q_151, hq_151⟩ := og (cq := cq) hxS_141.1 (oE_0 hxS_141.2)
  refine va_astq (r := (RX0, TX0, 5)) hx hb hK hP hD hS q_150 2 q_151 0 hq_150 rfl hq_151 rfl (by unfold vp_in; decide) dX5_init_88 (fun H locs hP1 hD1 hS => ?_)
  obtain ⟨S_152, eS_152⟩ : ∃ zq, zq = setP S_141 q_12 (2 : Int32).toNatClampNeg (some q_112) := ⟨_, rfl⟩
  have hP : va_P (dC, dI) vwCl (oW cq S_152) H := by rw [eS_152]; exact cP (oset t_149.1 hq_150 hD rfl (he_13 t_149.2) neP) hP1
  have hD : va_D A (oW cq S_152) := by rw [eS_152]; exact cD (oset t_149.1 hq_150 hD rfl (he_13 t_149.2) neP) hD1
  clear hP1 hD1
  have hIS_152 : oInv S_152 := by rw [eS_152]; exact oInv.P (k := 13) hIS_141 t_149.2 (by decide) rfl (fun h => absurd h.1 (by decide)) hxS_141 (show 0 ≤ 0 ∧ 0 ≤ 0 from ⟨Nat.le_refl _, Nat.le_refl _⟩)
  have XS_152 : oX S_141 S_152 := by rw [eS_152]; exact oX.P
  have pk_153 : oP S_152 o 0 = some q_1 := by rw [eS_152, setP_oth (ty_ne (oXc.ty XS_141 (ty_ne (oX.ty XS_130 (oX.ty XS_122 (oX.ty XS_113 t_110))) t_137 (by decide)) (oX.ty XS_130 (oX.ty XS_122 (oX.ty XS_113 t_110)))) t_149 (by decide))]; exact pk_144
  have pk_154 : oP S_152 o 1 = some q_12 := by rw [eS_152, setP_oth (ty_ne (oXc.ty XS_141 (ty_ne (oX.ty XS_130 (oX.ty XS_122 (oX.ty XS_113 t_110))) t_137 (by decide)) (oX.ty XS_130 (oX.ty XS_122 (oX.ty XS_113 t_110)))) t_149 (by decide))]; exact pk_145
  have pk_155 : oP S_152 q_12 0 = some q_27 := by rw [eS_152, setP_ne (by decide)]; exact pk_146
  have pk_156 : oP S_152 q_12 1 = some q_67 := by rw [eS_152, setP_ne (by decide)]; exact pk_147
  have ik_157 : oI S_152 o 2 = 0 := by rw [eS_152]; exact ik_148
  have FS_152 : oFr o Z S_152 := by rw [eS_152]; exact oFr.Pn GS_141 (oX.nin X_10 hnq_12)
  have X_158 : oX Z S_152 := oX.tr X_143 XS_152
  have pk_159 : oP S_152 q_12 2 = some q_112 := by rw [eS_152]; exact setP_same
  refine lv_aload_n hx hb dX5_init_89 rfl (lv_at hl 0 rfl) ?_
  have t_160 : oty S_152 o 35 := (oX.ty XS_152 (oXc.ty XS_141 (ty_ne (oX.ty XS_130 (oX.ty XS_122 (oX.ty XS_113 t_110))) t_137 (by decide)) (oX.ty XS_130 (oX.ty XS_122 (oX.ty XS_113 t_110)))))
  obtain ⟨q_161, hq_161⟩ := og (cq := cq) t_160.1 (oE_35 t_160.2)
  refine va_get (D := (dC, dI)) (ci := 5) (v := .ref q_12) (C := RX5) (T := TX5) (N := 3) hx hb hts in_wsX5_init_X5 hown hK hP q_161 hq_161 rfl 1 (by decide) (hts (.fieldLink RX5 17 "ShipOffice$Law" "customs" "[LShipOffice$Act;") (by decide +kernel)) (fun _ h9 => h9) (o_rd pk_154) dX5_init_90 ?_
  refine lv_iconst (v := 3) hx hb dX5_init_93 (by decide) ?_
  refine va_new (ci := 0) (fs := [.int 0, .int 0, .int 0, .null, .null]) (C := RX0) (T := TX0) (N := 5) hx hb hts in_wsX5_init_X0 tyX0 tyX0_ok hown (hts (.classLink RX5 9 RX0) (by decide +kernel)) (hts (.instantiable RX0 5) (by decide +kernel)) (hts (.initialized RX0) (by decide +kernel)) hK hP hD hS hA rfl (fun j hj => by rcases (show j = 0 ∨ j = 1 ∨ j = 2 ∨ j = 3 ∨ j = 4 by omega) with rfl | rfl | rfl | rfl | rfl <;> rfl) (Nat.le_of_ble_eq_true rfl) (Nat.le_of_ble_eq_true rfl) dX5_init_94 (fun q_162 H hP1 hD1 hS => ?_)
  have hnq_162 := add_q hD1
  obtain ⟨S_163, eS_163⟩ : ∃ zq, zq = addO S_152 q_162 30 := ⟨_, rfl⟩
  have hP : va_P (dC, dI) vwCl (oW cq S_163) H := by rw [eS_163]; exact cP (onew hD1 (by rw [oE_30 add_K, add_I, add_P]; rfl)) hP1
  have hD : va_D A (oW cq S_163) := by rw [eS_163]; exact cD (onew hD1 (by rw [oE_30 add_K, add_I, add_P]; rfl)) hD1
  clear hP1 hD1
  have hIS_163 : oInv S_163 := by rw [eS_163]; exact oInv.add hIS_152 hnq_162 (by decide)
  have XS_163 : oX S_152 S_163 := by rw [eS_163]; exact oX.add hnq_162
  have pk_164 : oP S_163 o 0 = some q_1 := by rw [eS_163, add_Pn hnq_162 t_160.1]; exact pk_153
  have pk_165 : oP S_163 o 1 = some q_12 := by rw [eS_163, add_Pn hnq_162 t_160.1]; exact pk_154
  have pk_166 : oP S_163 q_12 0 = some q_27 := by rw [eS_163, add_Pn hnq_162 (oX.ty XS_152 t_149).1]; exact pk_155
  have pk_167 : oP S_163 q_12 1 = some q_67 := by rw [eS_163, add_Pn hnq_162 (oX.ty XS_152 t_149).1]; exact pk_156
  have pk_168 : oP S_163 q_12 2 = some q_112 := by rw [eS_163, add_Pn hnq_162 (oX.ty XS_152 t_149).1]; exact pk_159
  have ik_169 : oI S_163 o 2 = 0 := by rw [eS_163, add_In hnq_162 t_160.1]; exact ik_157
  have FS_163 : oFr o Z S_163 := by rw [eS_163]; exact oFr.add FS_152 X_158 hnq_162
  have X_170 : oX Z S_163 := oX.tr X_158 XS_163
  have tq_162 : oty S_163 q_162 30 := by rw [eS_163]; exact add_ty
  refine W.widen (k := 15) (n := 265) (Nat.le_of_ble_eq_true rfl) (Nat.le_of_ble_eq_true rfl) ?_
  refine lv_dup hx hb dX5_init_97 rfl ?_
  refine lv_iconst (v := 3) hx hb dX5_init_98 (by decide) ?_
  refine lv_iconst (v := (-1)) hx hb dX5_init_99 (by decide) ?_
  refine lv_iconst (v := 1) hx hb dX5_init_100 (by decide) ?_
  refine va_newa (atype := .int) (ty := .int) (a0 := (1, .inl (fun _ => 0))) hx hb (hts (.arrayClass .int) (by decide +kernel)) rfl hK hP hD hS hA (fun _ => rfl) (by decide) (by decide) (by decide) (Nat.le_of_ble_eq_true rfl) (Nat.le_of_ble_eq_true rfl) dX5_init_101 (fun q_171 k_172 H hK1 hP1 hD1 hS => ?_)
  obtain ⟨rfl, -⟩ := lv_ad (k := 0) hK1 rfl
  clear hK1
  have hnq_171 := add_q hD1
  obtain ⟨S_173, eS_173⟩ : ∃ zq, zq = addO S_163 q_171 101 := ⟨_, rfl⟩
  have hP : va_P (dC, dI) vwCl (oW cq S_173) H := by rw [eS_173]; exact cP (onew hD1 (by rw [oE_ar (n := 1) add_K, add_I])) hP1
  have hD : va_D A (oW cq S_173) := by rw [eS_173]; exact cD (onew hD1 (by rw [oE_ar (n := 1) add_K, add_I])) hD1
  clear hP1 hD1
  have hIS_173 : oInv S_173 := by rw [eS_173]; exact oInv.add hIS_163 hnq_171 (by decide)
  have XS_173 : oX S_163 S_173 := by rw [eS_173]; exact oX.add hnq_171
  have pk_174 : oP S_173 o 0 = some q_1 := by rw [eS_173, add_Pn hnq_171 (oX.ty XS_163 t_160).1]; exact pk_164
  have pk_175 : oP S_173 o 1 = some q_12 := by rw [eS_173, add_Pn hnq_171 (oX.ty XS_163 t_160).1]; exact pk_165
  have pk_176 : oP S_173 q_12 0 = some q_27 := by rw [eS_173, add_Pn hnq_171 (oX.ty XS_163 (oX.ty XS_152 t_149)).1]; exact pk_166
  have pk_177 : oP S_173 q_12 1 = some q_67 := by rw [eS_173, add_Pn hnq_171 (oX.ty XS_163 (oX.ty XS_152 t_149)).1]; exact pk_167
  have pk_178 : oP S_173 q_12 2 = some q_112 := by rw [eS_173, add_Pn hnq_171 (oX.ty XS_163 (oX.ty XS_152 t_149)).1]; exact pk_168
  have ik_179 : oI S_173 o 2 = 0 := by rw [eS_173, add_In hnq_171 (oX.ty XS_163 t_160).1]; exact ik_169
  have FS_173 : oFr o Z S_173 := by rw [eS_173]; exact oFr.add FS_163 X_170 hnq_171
  have X_180 : oX Z S_173 := oX.tr X_170 XS_173
  have tq_171 : oty S_173 q_171 101 := by rw [eS_173]; exact add_ty
  refine W.widen (k := 16) (n := 266) (Nat.le_of_ble_eq_true rfl) (Nat.le_of_ble_eq_true rfl) ?_
  refine lv_dup hx hb dX5_init_103 rfl ?_
  refine lv_iconst (v := 0) hx hb dX5_init_104 (by decide) ?_
  refine lv_bipush (v := 50) hx hb dX5_init_105 (by decide) ?_
  obtain ⟨q_181, hq_181⟩ := og (cq := cq) tq_171.1 (oE_ar (n := 1) tq_171.2)
  refine va_iast hx hb hK hP hD hS q_181 0 hq_181 rfl (by unfold vp_in; decide) dX5_init_107 (fun H locs hP1 hD1 hS => ?_)
  obtain ⟨S_182, eS_182⟩ : ∃ zq, zq = setI S_173 q_171 (0 : Int32).toNatClampNeg 50 := ⟨_, rfl⟩
  have hP : va_P (dC, dI) vwCl (oW cq S_182) H := by rw [eS_182]; exact cP (oset tq_171.1 hq_181 hD rfl (he_ar (n := 1) tq_171.2) neI) hP1
  have hD : va_D A (oW cq S_182) := by rw [eS_182]; exact cD (oset tq_171.1 hq_181 hD rfl (he_ar (n := 1) tq_171.2) neI) hD1
  clear hP1 hD1
  have hIS_182 : oInv S_182 := by rw [eS_182]; exact oInv.A (n := 1) hIS_173 tq_171.2
  have XS_182 : oX S_173 S_182 := by rw [eS_182]; exact oX.I (k := 101) tq_171.2 (fun h => absurd h (by decide))
  have pk_183 : oP S_182 o 0 = some q_1 := by rw [eS_182]; exact pk_174
  have pk_184 : oP S_182 o 1 = some q_12 := by rw [eS_182]; exact pk_175
  have pk_185 : oP S_182 q_12 0 = some q_27 := by rw [eS_182]; exact pk_176
  have pk_186 : oP S_182 q_12 1 = some q_67 := by rw [eS_182]; exact pk_177
  have pk_187 : oP S_182 q_12 2 = some q_112 := by rw [eS_182]; exact pk_178
  have ik_188 : oI S_182 o 2 = 0 := by rw [eS_182, setI_oth (ty_ne (oX.ty XS_173 (oX.ty XS_163 t_160)) tq_171 (by decide))]; exact ik_179
  have FS_182 : oFr o Z S_182 := by rw [eS_182]; exact oFr.In FS_173 (oX.nin X_170 hnq_171)
  have X_189 : oX Z S_182 := oX.tr X_180 XS_182
  have t_190 : oty S_182 q_162 30 := (oX.ty XS_182 (oX.ty XS_173 tq_162))
  have t_191 : oty S_182 q_171 101 := (oX.ty XS_182 tq_171)
  have hFc := o_free hD hS hA
  refine va_callv (va_runI (As := [.int 3, .int (-1), .ref q_171]) (rest := [.ref q_162, .int 3, .ref q_12]) ⟨hx, hb, hml, hown, hts⟩ (c_X0_init l dC dI H.size tL tS tG cq S_182 hIS_182 q_162 t_190 3 (-1) 1 (by decide) q_171 t_191) (cwI 3 hts gX5_init_X0_init rfl rfl rfl (hts (.initialized RX0) (by decide +kernel)) (hts (.methodLink RX5 20 yX0_init) (by decide +kernel)) (hts (.instanceMethod yX0_init) (by decide +kernel)) rfl (by decide +kernel) ⟨(Nat.le_of_ble_eq_true rfl), (Nat.le_of_ble_eq_true rfl)⟩) (pr_SO hP hK hD (hZ.go hS hFc)) rfl rfl hl.1 rfl (lv_room (Nat.le_of_ble_eq_true rfl)) dX5_init_108 ⟨(Nat.le_of_ble_eq_true rfl), (Nat.le_of_ble_eq_true rfl)⟩) hS (fun q _ h => hFc q h) hFc (fun u t H locs ht hvm w_192 hB hz1 hk1 hS => ?_)
  obtain ⟨S_194, rfl⟩ : ∃ z, z = u := ⟨_, rfl⟩
  obtain ⟨hP1, hK1, hD1⟩ := hB
  rw [ht] at hP1
  have hP : va_P (dC, dI) vwCl (oW cq S_194) H := hP1
  have hD : va_D A (oW cq S_194) := hD1.weaken (fun _ _ _ h => hFc _ h)
  clear hP1 hK1 hD1 hk1 hz1 hvm ht hFc
  refine W.widen (k := 18) (n := 335) (Nat.le_of_ble_eq_true rfl) (Nat.le_of_ble_eq_true rfl) ?_
  obtain ⟨hIS_194, XS_194, hx_195⟩ := w_192
  obtain ⟨hxS_194, FS_194⟩ := hx_195
  have X_196 : oX Z S_194 := oX.c X_189 XS_194 (oX.nin X_158 hnq_162)
  have GS_194 : oFr o Z S_194 := oFr.c FS_182 X_189 FS_194 (oX.nin X_158 hnq_162)
  have pk_197 : oP S_194 o 0 = some q_1 := by rw [(FS_194 o (oX.ty XS_182 (oX.ty XS_173 (oX.ty XS_163 t_160))).1 (ty_ne (oX.ty XS_182 (oX.ty XS_173 (oX.ty XS_163 t_160))) t_190 (by decide))).2]; exact pk_183
  have pk_198 : oP S_194 o 1 = some q_12 := by rw [(FS_194 o (oX.ty XS_182 (oX.ty XS_173 (oX.ty XS_163 t_160))).1 (ty_ne (oX.ty XS_182 (oX.ty XS_173 (oX.ty XS_163 t_160))) t_190 (by decide))).2]; exact pk_184
  have pk_199 : oP S_194 q_12 0 = some q_27 := by rw [(FS_194 q_12 (oX.ty XS_182 (oX.ty XS_173 (oX.ty XS_163 (oX.ty XS_152 t_149)))).1 (ty_ne (oX.ty XS_182 (oX.ty XS_173 (oX.ty XS_163 (oX.ty XS_152 t_149)))) t_190 (by decide))).2]; exact pk_185
  have pk_200 : oP S_194 q_12 1 = some q_67 := by rw [(FS_194 q_12 (oX.ty XS_182 (oX.ty XS_173 (oX.ty XS_163 (oX.ty XS_152 t_149)))).1 (ty_ne (oX.ty XS_182 (oX.ty XS_173 (oX.ty XS_163 (oX.ty XS_152 t_149)))) t_190 (by decide))).2]; exact pk_186
  have pk_201 : oP S_194 q_12 2 = some q_112 := by rw [(FS_194 q_12 (oX.ty XS_182 (oX.ty XS_173 (oX.ty XS_163 (oX.ty XS_152 t_149)))).1 (ty_ne (oX.ty XS_182 (oX.ty XS_173 (oX.ty XS_163 (oX.ty XS_152 t_149)))) t_190 (by decide))).2]; exact pk_187
  have ik_202 : oI S_194 o 2 = 0 := by rw [(FS_194 o (oX.ty XS_182 (oX.ty XS_173 (oX.ty XS_163 t_160))).1 (ty_ne (oX.ty XS_182 (oX.ty XS_173 (oX.ty XS_163 t_160))) t_190 (by decide))).1 (by rw [(oX.ty XS_182 (oX.ty XS_173 (oX.ty XS_163 t_160))).2]; decide)]; exact ik_188
  have t_203 : oty S_194 q_12 13 := (oXc.ty XS_194 (ty_ne (oX.ty XS_182 (oX.ty XS_173 (oX.ty XS_163 (oX.ty XS_152 t_149)))) t_190 (by decide)) (oX.ty XS_182 (oX.ty XS_173 (oX.ty XS_163 (oX.ty XS_152 t_149)))))
  obtain ⟨q_204, hq_204⟩ := og (cq := cq) t_203.1 (oE_13 t_203.2)
  obtain ⟨q_205, hq_205⟩ := og (cq := cq) hxS_194.1 (oE_0 hxS_194.2)
  refine va_astq (r := (RX0, TX0, 5)) hx hb hK hP hD hS q_204 2 q_205 0 hq_204 rfl hq_205 rfl (by unfold vp_in; decide) dX5_init_111 (fun H locs hP1 hD1 hS => ?_)
  obtain ⟨S_206, eS_206⟩ : ∃ zq, zq = setP S_194 q_12 (3 : Int32).toNatClampNeg (some q_162) := ⟨_, rfl⟩
  have hP : va_P (dC, dI) vwCl (oW cq S_206) H := by rw [eS_206]; exact cP (oset t_203.1 hq_204 hD rfl (he_13 t_203.2) neP) hP1
  have hD : va_D A (oW cq S_206) := by rw [eS_206]; exact cD (oset t_203.1 hq_204 hD rfl (he_13 t_203.2) neP) hD1
  clear hP1 hD1
  have hIS_206 : oInv S_206 := by rw [eS_206]; exact oInv.P (k := 13) hIS_194 t_203.2 (by decide) rfl (fun h => absurd h.1 (by decide)) hxS_194 (show 0 ≤ 0 ∧ 0 ≤ 0 from ⟨Nat.le_refl _, Nat.le_refl _⟩)
  have XS_206 : oX S_194 S_206 := by rw [eS_206]; exact oX.P
  have pk_207 : oP S_206 o 0 = some q_1 := by rw [eS_206, setP_oth (ty_ne (oXc.ty XS_194 (ty_ne (oX.ty XS_182 (oX.ty XS_173 (oX.ty XS_163 t_160))) t_190 (by decide)) (oX.ty XS_182 (oX.ty XS_173 (oX.ty XS_163 t_160)))) t_203 (by decide))]; exact pk_197
  have pk_208 : oP S_206 o 1 = some q_12 := by rw [eS_206, setP_oth (ty_ne (oXc.ty XS_194 (ty_ne (oX.ty XS_182 (oX.ty XS_173 (oX.ty XS_163 t_160))) t_190 (by decide)) (oX.ty XS_182 (oX.ty XS_173 (oX.ty XS_163 t_160)))) t_203 (by decide))]; exact pk_198
  have pk_209 : oP S_206 q_12 0 = some q_27 := by rw [eS_206, setP_ne (by decide)]; exact pk_199
  have pk_210 : oP S_206 q_12 1 = some q_67 := by rw [eS_206, setP_ne (by decide)]; exact pk_200
  have pk_211 : oP S_206 q_12 2 = some q_112 := by rw [eS_206, setP_ne (by decide)]; exact pk_201
  have ik_212 : oI S_206 o 2 = 0 := by rw [eS_206]; exact ik_202
  have FS_206 : oFr o Z S_206 := by rw [eS_206]; exact oFr.Pn GS_194 (oX.nin X_10 hnq_12)
  have X_213 : oX Z S_206 := oX.tr X_196 XS_206
  have pk_214 : oP S_206 q_12 3 = some q_162 := by rw [eS_206]; exact setP_same
  refine lv_aload_n hx hb dX5_init_112 rfl (lv_at hl 0 rfl) ?_
  have t_215 : oty S_206 o 35 := (oX.ty XS_206 (oXc.ty XS_194 (ty_ne (oX.ty XS_182 (oX.ty XS_173 (oX.ty XS_163 t_160))) t_190 (by decide)) (oX.ty XS_182 (oX.ty XS_173 (oX.ty XS_163 t_160)))))
  obtain ⟨q_216, hq_216⟩ := og (cq := cq) t_215.1 (oE_35 t_215.2)
  refine va_get (D := (dC, dI)) (ci := 5) (v := .ref q_12) (C := RX5) (T := TX5) (N := 3) hx hb hts in_wsX5_init_X5 hown hK hP q_216 hq_216 rfl 1 (by decide) (hts (.fieldLink RX5 17 "ShipOffice$Law" "customs" "[LShipOffice$Act;") (by decide +kernel)) (fun _ h9 => h9) (o_rd pk_208) dX5_init_113 ?_
  refine lv_iconst (v := 4) hx hb dX5_init_116 (by decide) ?_
  refine va_new (ci := 0) (fs := [.int 0, .int 0, .int 0, .null, .null]) (C := RX0) (T := TX0) (N := 5) hx hb hts in_wsX5_init_X0 tyX0 tyX0_ok hown (hts (.classLink RX5 9 RX0) (by decide +kernel)) (hts (.instantiable RX0 5) (by decide +kernel)) (hts (.initialized RX0) (by decide +kernel)) hK hP hD hS hA rfl (fun j hj => by rcases (show j = 0 ∨ j = 1 ∨ j = 2 ∨ j = 3 ∨ j = 4 by omega) with rfl | rfl | rfl | rfl | rfl <;> rfl) (Nat.le_of_ble_eq_true rfl) (Nat.le_of_ble_eq_true rfl) dX5_init_117 (fun q_217 H hP1 hD1 hS => ?_)
  have hnq_217 := add_q hD1
  obtain ⟨S_218, eS_218⟩ : ∃ zq, zq = addO S_206 q_217 30 := ⟨_, rfl⟩
  have hP : va_P (dC, dI) vwCl (oW cq S_218) H := by rw [eS_218]; exact cP (onew hD1 (by rw [oE_30 add_K, add_I, add_P]; rfl)) hP1
  have hD : va_D A (oW cq S_218) := by rw [eS_218]; exact cD (onew hD1 (by rw [oE_30 add_K, add_I, add_P]; rfl)) hD1
  clear hP1 hD1
  have hIS_218 : oInv S_218 := by rw [eS_218]; exact oInv.add hIS_206 hnq_217 (by decide)
  have XS_218 : oX S_206 S_218 := by rw [eS_218]; exact oX.add hnq_217
  have pk_219 : oP S_218 o 0 = some q_1 := by rw [eS_218, add_Pn hnq_217 t_215.1]; exact pk_207
  have pk_220 : oP S_218 o 1 = some q_12 := by rw [eS_218, add_Pn hnq_217 t_215.1]; exact pk_208
  have pk_221 : oP S_218 q_12 0 = some q_27 := by rw [eS_218, add_Pn hnq_217 (oX.ty XS_206 t_203).1]; exact pk_209
  have pk_222 : oP S_218 q_12 1 = some q_67 := by rw [eS_218, add_Pn hnq_217 (oX.ty XS_206 t_203).1]; exact pk_210
  have pk_223 : oP S_218 q_12 2 = some q_112 := by rw [eS_218, add_Pn hnq_217 (oX.ty XS_206 t_203).1]; exact pk_211
  have pk_224 : oP S_218 q_12 3 = some q_162 := by rw [eS_218, add_Pn hnq_217 (oX.ty XS_206 t_203).1]; exact pk_214
  have ik_225 : oI S_218 o 2 = 0 := by rw [eS_218, add_In hnq_217 t_215.1]; exact ik_212
  have FS_218 : oFr o Z S_218 := by rw [eS_218]; exact oFr.add FS_206 X_213 hnq_217
  have X_226 : oX Z S_218 := oX.tr X_213 XS_218
  have tq_217 : oty S_218 q_217 30 := by rw [eS_218]; exact add_ty
  refine W.widen (k := 19) (n := 340) (Nat.le_of_ble_eq_true rfl) (Nat.le_of_ble_eq_true rfl) ?_
  refine lv_dup hx hb dX5_init_120 rfl ?_
  refine lv_iconst (v := 4) hx hb dX5_init_121 (by decide) ?_
  refine lv_iconst (v := (-1)) hx hb dX5_init_122 (by decide) ?_
  refine lv_iconst (v := 1) hx hb dX5_init_123 (by decide) ?_
  refine va_newa (atype := .int) (ty := .int) (a0 := (1, .inl (fun _ => 0))) hx hb (hts (.arrayClass .int) (by decide +kernel)) rfl hK hP hD hS hA (fun _ => rfl) (by decide) (by decide) (by decide) (Nat.le_of_ble_eq_true rfl) (Nat.le_of_ble_eq_true rfl) dX5_init_124 (fun q_227 k_228 H hK1 hP1 hD1 hS => ?_)
  obtain ⟨rfl, -⟩ := lv_ad (k := 0) hK1 rfl
  clear hK1
  have hnq_227 := add_q hD1
  obtain ⟨S_229, eS_229⟩ : ∃ zq, zq = addO S_218 q_227 101 := ⟨_, rfl⟩
  have hP : va_P (dC, dI) vwCl (oW cq S_229) H := by rw [eS_229]; exact cP (onew hD1 (by rw [oE_ar (n := 1) add_K, add_I])) hP1
  have hD : va_D A (oW cq S_229) := by rw [eS_229]; exact cD (onew hD1 (by rw [oE_ar (n := 1) add_K, add_I])) hD1
  clear hP1 hD1
  have hIS_229 : oInv S_229 := by rw [eS_229]; exact oInv.add hIS_218 hnq_227 (by decide)
  have XS_229 : oX S_218 S_229 := by rw [eS_229]; exact oX.add hnq_227
  have pk_230 : oP S_229 o 0 = some q_1 := by rw [eS_229, add_Pn hnq_227 (oX.ty XS_218 t_215).1]; exact pk_219
  have pk_231 : oP S_229 o 1 = some q_12 := by rw [eS_229, add_Pn hnq_227 (oX.ty XS_218 t_215).1]; exact pk_220
  have pk_232 : oP S_229 q_12 0 = some q_27 := by rw [eS_229, add_Pn hnq_227 (oX.ty XS_218 (oX.ty XS_206 t_203)).1]; exact pk_221
  have pk_233 : oP S_229 q_12 1 = some q_67 := by rw [eS_229, add_Pn hnq_227 (oX.ty XS_218 (oX.ty XS_206 t_203)).1]; exact pk_222
  have pk_234 : oP S_229 q_12 2 = some q_112 := by rw [eS_229, add_Pn hnq_227 (oX.ty XS_218 (oX.ty XS_206 t_203)).1]; exact pk_223
  have pk_235 : oP S_229 q_12 3 = some q_162 := by rw [eS_229, add_Pn hnq_227 (oX.ty XS_218 (oX.ty XS_206 t_203)).1]; exact pk_224
  have ik_236 : oI S_229 o 2 = 0 := by rw [eS_229, add_In hnq_227 (oX.ty XS_218 t_215).1]; exact ik_225
  have FS_229 : oFr o Z S_229 := by rw [eS_229]; exact oFr.add FS_218 X_226 hnq_227
  have X_237 : oX Z S_229 := oX.tr X_226 XS_229
  have tq_227 : oty S_229 q_227 101 := by rw [eS_229]; exact add_ty
  refine W.widen (k := 20) (n := 341) (Nat.le_of_ble_eq_true rfl) (Nat.le_of_ble_eq_true rfl) ?_
  refine lv_dup hx hb dX5_init_126 rfl ?_
  refine lv_iconst (v := 0) hx hb dX5_init_127 (by decide) ?_
  refine lv_bipush (v := 90) hx hb dX5_init_128 (by decide) ?_
  obtain ⟨q_238, hq_238⟩ := og (cq := cq) tq_227.1 (oE_ar (n := 1) tq_227.2)
  refine va_iast hx hb hK hP hD hS q_238 0 hq_238 rfl (by unfold vp_in; decide) dX5_init_130 (fun H locs hP1 hD1 hS => ?_)
  obtain ⟨S_239, eS_239⟩ : ∃ zq, zq = setI S_229 q_227 (0 : Int32).toNatClampNeg 90 := ⟨_, rfl⟩
  have hP : va_P (dC, dI) vwCl (oW cq S_239) H := by rw [eS_239]; exact cP (oset tq_227.1 hq_238 hD rfl (he_ar (n := 1) tq_227.2) neI) hP1
  have hD : va_D A (oW cq S_239) := by rw [eS_239]; exact cD (oset tq_227.1 hq_238 hD rfl (he_ar (n := 1) tq_227.2) neI) hD1
  clear hP1 hD1
  have hIS_239 : oInv S_239 := by rw [eS_239]; exact oInv.A (n := 1) hIS_229 tq_227.2
  have XS_239 : oX S_229 S_239 := by rw [eS_239]; exact oX.I (k := 101) tq_227.2 (fun h => absurd h (by decide))
  have pk_240 : oP S_239 o 0 = some q_1 := by rw [eS_239]; exact pk_230
  have pk_241 : oP S_239 o 1 = some q_12 := by rw [eS_239]; exact pk_231
  have pk_242 : oP S_239 q_12 0 = some q_27 := by rw [eS_239]; exact pk_232
  have pk_243 : oP S_239 q_12 1 = some q_67 := by rw [eS_239]; exact pk_233
  have pk_244 : oP S_239 q_12 2 = some q_112 := by rw [eS_239]; exact pk_234
  have pk_245 : oP S_239 q_12 3 = some q_162 := by rw [eS_239]; exact pk_235
  have ik_246 : oI S_239 o 2 = 0 := by rw [eS_239, setI_oth (ty_ne (oX.ty XS_229 (oX.ty XS_218 t_215)) tq_227 (by decide))]; exact ik_236
  have FS_239 : oFr o Z S_239 := by rw [eS_239]; exact oFr.In FS_229 (oX.nin X_226 hnq_227)
  have X_247 : oX Z S_239 := oX.tr X_237 XS_239
  have t_248 : oty S_239 q_217 30 := (oX.ty XS_239 (oX.ty XS_229 tq_217))
  have t_249 : oty S_239 q_227 101 := (oX.ty XS_239 tq_227)
  have hFc := o_free hD hS hA
  refine va_callv (va_runI (As := [.int 4, .int (-1), .ref q_227]) (rest := [.ref q_217, .int 4, .ref q_12]) ⟨hx, hb, hml, hown, hts⟩ (c_X0_init l dC dI H.size tL tS tG cq S_239 hIS_239 q_217 t_248 4 (-1) 1 (by decide) q_227 t_249) (cwI 3 hts gX5_init_X0_init rfl rfl rfl (hts (.initialized RX0) (by decide +kernel)) (hts (.methodLink RX5 20 yX0_init) (by decide +kernel)) (hts (.instanceMethod yX0_init) (by decide +kernel)) rfl (by decide +kernel) ⟨(Nat.le_of_ble_eq_true rfl), (Nat.le_of_ble_eq_true rfl)⟩) (pr_SO hP hK hD (hZ.go hS hFc)) rfl rfl hl.1 rfl (lv_room (Nat.le_of_ble_eq_true rfl)) dX5_init_131 ⟨(Nat.le_of_ble_eq_true rfl), (Nat.le_of_ble_eq_true rfl)⟩) hS (fun q _ h => hFc q h) hFc (fun u t H locs ht hvm w_250 hB hz1 hk1 hS => ?_)
  obtain ⟨S_252, rfl⟩ : ∃ z, z = u := ⟨_, rfl⟩
  obtain ⟨hP1, hK1, hD1⟩ := hB
  rw [ht] at hP1
  have hP : va_P (dC, dI) vwCl (oW cq S_252) H := hP1
  have hD : va_D A (oW cq S_252) := hD1.weaken (fun _ _ _ h => hFc _ h)
  clear hP1 hK1 hD1 hk1 hz1 hvm ht hFc
  refine W.widen (k := 22) (n := 410) (Nat.le_of_ble_eq_true rfl) (Nat.le_of_ble_eq_true rfl) ?_
  obtain ⟨hIS_252, XS_252, hx_253⟩ := w_250
  obtain ⟨hxS_252, FS_252⟩ := hx_253
  have X_254 : oX Z S_252 := oX.c X_247 XS_252 (oX.nin X_213 hnq_217)
  have GS_252 : oFr o Z S_252 := oFr.c FS_239 X_247 FS_252 (oX.nin X_213 hnq_217)
  have pk_255 : oP S_252 o 0 = some q_1 := by rw [(FS_252 o (oX.ty XS_239 (oX.ty XS_229 (oX.ty XS_218 t_215))).1 (ty_ne (oX.ty XS_239 (oX.ty XS_229 (oX.ty XS_218 t_215))) t_248 (by decide))).2]; exact pk_240
  have pk_256 : oP S_252 o 1 = some q_12 := by rw [(FS_252 o (oX.ty XS_239 (oX.ty XS_229 (oX.ty XS_218 t_215))).1 (ty_ne (oX.ty XS_239 (oX.ty XS_229 (oX.ty XS_218 t_215))) t_248 (by decide))).2]; exact pk_241
  have pk_257 : oP S_252 q_12 0 = some q_27 := by rw [(FS_252 q_12 (oX.ty XS_239 (oX.ty XS_229 (oX.ty XS_218 (oX.ty XS_206 t_203)))).1 (ty_ne (oX.ty XS_239 (oX.ty XS_229 (oX.ty XS_218 (oX.ty XS_206 t_203)))) t_248 (by decide))).2]; exact pk_242
  have pk_258 : oP S_252 q_12 1 = some q_67 := by rw [(FS_252 q_12 (oX.ty XS_239 (oX.ty XS_229 (oX.ty XS_218 (oX.ty XS_206 t_203)))).1 (ty_ne (oX.ty XS_239 (oX.ty XS_229 (oX.ty XS_218 (oX.ty XS_206 t_203)))) t_248 (by decide))).2]; exact pk_243
  have pk_259 : oP S_252 q_12 2 = some q_112 := by rw [(FS_252 q_12 (oX.ty XS_239 (oX.ty XS_229 (oX.ty XS_218 (oX.ty XS_206 t_203)))).1 (ty_ne (oX.ty XS_239 (oX.ty XS_229 (oX.ty XS_218 (oX.ty XS_206 t_203)))) t_248 (by decide))).2]; exact pk_244
  have pk_260 : oP S_252 q_12 3 = some q_162 := by rw [(FS_252 q_12 (oX.ty XS_239 (oX.ty XS_229 (oX.ty XS_218 (oX.ty XS_206 t_203)))).1 (ty_ne (oX.ty XS_239 (oX.ty XS_229 (oX.ty XS_218 (oX.ty XS_206 t_203)))) t_248 (by decide))).2]; exact pk_245
  have ik_261 : oI S_252 o 2 = 0 := by rw [(FS_252 o (oX.ty XS_239 (oX.ty XS_229 (oX.ty XS_218 t_215))).1 (ty_ne (oX.ty XS_239 (oX.ty XS_229 (oX.ty XS_218 t_215))) t_248 (by decide))).1 (by rw [(oX.ty XS_239 (oX.ty XS_229 (oX.ty XS_218 t_215))).2]; decide)]; exact ik_246
  have t_262 : oty S_252 q_12 13 := (oXc.ty XS_252 (ty_ne (oX.ty XS_239 (oX.ty XS_229 (oX.ty XS_218 (oX.ty XS_206 t_203)))) t_248 (by decide)) (oX.ty XS_239 (oX.ty XS_229 (oX.ty XS_218 (oX.ty XS_206 t_203)))))
  obtain ⟨q_263, hq_263⟩ := og (cq := cq) t_262.1 (oE_13 t_262.2)
  obtain ⟨q_264, hq_264⟩ := og (cq := cq) hxS_252.1 (oE_0 hxS_252.2)
  refine va_astq (r := (RX0, TX0, 5)) hx hb hK hP hD hS q_263 2 q_264 0 hq_263 rfl hq_264 rfl (by unfold vp_in; decide) dX5_init_134 (fun H locs hP1 hD1 hS => ?_)
  obtain ⟨S_265, eS_265⟩ : ∃ zq, zq = setP S_252 q_12 (4 : Int32).toNatClampNeg (some q_217) := ⟨_, rfl⟩
  have hP : va_P (dC, dI) vwCl (oW cq S_265) H := by rw [eS_265]; exact cP (oset t_262.1 hq_263 hD rfl (he_13 t_262.2) neP) hP1
  have hD : va_D A (oW cq S_265) := by rw [eS_265]; exact cD (oset t_262.1 hq_263 hD rfl (he_13 t_262.2) neP) hD1
  clear hP1 hD1
  have hIS_265 : oInv S_265 := by rw [eS_265]; exact oInv.P (k := 13) hIS_252 t_262.2 (by decide) rfl (fun h => absurd h.1 (by decide)) hxS_252 (show 0 ≤ 0 ∧ 0 ≤ 0 from ⟨Nat.le_refl _, Nat.le_refl _⟩)
  have XS_265 : oX S_252 S_265 := by rw [eS_265]; exact oX.P
  have pk_266 : oP S_265 o 0 = some q_1 := by rw [eS_265, setP_oth (ty_ne (oXc.ty XS_252 (ty_ne (oX.ty XS_239 (oX.ty XS_229 (oX.ty XS_218 t_215))) t_248 (by decide)) (oX.ty XS_239 (oX.ty XS_229 (oX.ty XS_218 t_215)))) t_262 (by decide))]; exact pk_255
  have pk_267 : oP S_265 o 1 = some q_12 := by rw [eS_265, setP_oth (ty_ne (oXc.ty XS_252 (ty_ne (oX.ty XS_239 (oX.ty XS_229 (oX.ty XS_218 t_215))) t_248 (by decide)) (oX.ty XS_239 (oX.ty XS_229 (oX.ty XS_218 t_215)))) t_262 (by decide))]; exact pk_256
  have pk_268 : oP S_265 q_12 0 = some q_27 := by rw [eS_265, setP_ne (by decide)]; exact pk_257
  have pk_269 : oP S_265 q_12 1 = some q_67 := by rw [eS_265, setP_ne (by decide)]; exact pk_258
  have pk_270 : oP S_265 q_12 2 = some q_112 := by rw [eS_265, setP_ne (by decide)]; exact pk_259
  have pk_271 : oP S_265 q_12 3 = some q_162 := by rw [eS_265, setP_ne (by decide)]; exact pk_260
  have ik_272 : oI S_265 o 2 = 0 := by rw [eS_265]; exact ik_261
  have FS_265 : oFr o Z S_265 := by rw [eS_265]; exact oFr.Pn GS_252 (oX.nin X_10 hnq_12)
  have X_273 : oX Z S_265 := oX.tr X_254 XS_265
  have pk_274 : oP S_265 q_12 4 = some q_217 := by rw [eS_265]; exact setP_same
  have t_276 : oty S_265 o 35 := (oX.ty XS_265 (oXc.ty XS_252 (ty_ne (oX.ty XS_239 (oX.ty XS_229 (oX.ty XS_218 t_215))) t_248 (by decide)) (oX.ty XS_239 (oX.ty XS_229 (oX.ty XS_218 t_215)))))
  obtain ⟨S_275, eS_275⟩ : ∃ zq, zq = setK S_265 o 5 := ⟨_, rfl⟩
  have hP : va_P (dC, dI) vwCl (oW cq S_275) H := by rw [eS_275]; exact cP (ret_W (c := 5) t_276.2 (by decide)) hP
  have hD : va_D A (oW cq S_275) := by rw [eS_275]; exact cD (ret_W (c := 5) t_276.2 (by decide)) hD
  have hIS_275 : oInv S_275 := by rw [eS_275]; exact oInv.ret (c := 5) hIS_265 t_276 (by decide) (fun i hi => by rcases nn_5 hi with rfl | rfl <;> first | exact ⟨_, pk_266⟩ | exact ⟨_, pk_267⟩) (fun i p hp => by rcases ct_5 hp with rfl <;> first | (rw [ik_272]; decide)) (fun _ r hr k hk => by rw [pk_267] at hr; cases hr; rcases (show k = 0 ∨ k = 1 ∨ k = 2 ∨ k = 3 ∨ k = 4 by omega) with rfl | rfl | rfl | rfl | rfl <;> first | exact ⟨_, pk_268⟩ | exact ⟨_, pk_269⟩ | exact ⟨_, pk_270⟩ | exact ⟨_, pk_271⟩ | exact ⟨_, pk_274⟩) (fun h => absurd h (by decide)) (fun h => absurd h (by decide))
  have XS_275 : oXc o Z S_275 := by rw [eS_275]; exact oXc.ret X_273
  have tS_275 : oty S_275 o 5 := by rw [eS_275]; exact K_ty t_276.1
  have FS_275 : oFr o Z S_275 := by rw [eS_275]; exact oFr.K FS_265
  exact W.vret hx hb hr (fun t ht hW => ⟨⟨S_275, rfl, ⟨hIS_275, XS_275, ⟨tS_275, FS_275⟩⟩, ⟨by rw [ht]; exact hP, va_K.moved hW.alike hK, hD⟩⟩, hS.F ht⟩) hS.2.2 dX5_init_135
set_option maxHeartbeats 4000000 in
set_option maxRecDepth 100000 in
theorem c_X10_init (l : Launch) (dC : Nat → ClassId) (dI : Nat → Nat → Nat) (sz : Nat) (tL tS tG : Nat) (cq : Nat → ClassId) (Z : oS) (gI : oInv Z) (o : Nat) (to : oty Z o 40) (hz : ∀ j, oI Z o j = 0) : Met l yX10_init wsX10_init ({ frames := 5, cells := 39, slots := 901, locals := 115 }) (va_Pc [.ref o] (pcO (dC, dI) (oT cq) (oW cq Z) sz tL tS tG (oW cq Z))) (va_Qv (fun (u : oS) => oInv u ∧ oXc o Z u ∧ (oty u o 10 ∧ oI u o 0 = 0)) (fun u t => va_P (dC, dI) vwCl (oW cq u) t.heap ∧ va_K (dC, dI) vwCl (oT cq) t ∧ va_D (va_A (oW cq Z) sz) (oW cq u)) (va_A (oW cq Z) sz)) 39 901 (va_A (oW cq Z) sz) := by
  refine Met.ofW (cc := cX10_init) (maxL := 1) (ret := none) (by decide) rfl ?_
  intro p e s m args below meth c s₁ B hml hv
  obtain ⟨rfl, ⟨hsz, hP, hK, hD0⟩, hZ⟩ := hv
  have hx := B.exec
  have hb := B.bytes
  have hr := B.returns
  have hts := atoms_spec (ws := wsX10_init) B.pre
  have hown : s.vm.findClass RX10 = some m.cls := findClass_of_methodNamed B.named
  have hlocks := B.notSynchronized
  have hin : meth.name = "<init>" := (name_of_methodNamed B.named B.method).1
  subst hsz
  have hD := hD0.self (sz := s.heap.size)
  generalize hAe : va_A (oW cq Z) s.heap.size = A at hD hZ ⊢
  have hA : ∀ q : Nat, s.heap.size ≤ q → A q := fun q h => by rw [← hAe]; exact Or.inr h
  have hS : va_S A s.heap s.heap [] := va_S.rf
  have hP : va_P (dC, dI) vwCl (oW cq Z) s.heap := hP
  have hl := lv_entry ([.ref o]) (n := 1) (Nat.le_of_ble_eq_true rfl)
  rw [lg_entry_eq]
  generalize (lg_sl ([.ref o]) ++ List.replicate (1 - (lg_sl ([.ref o])).length) Slot.unset).toArray = ls at hl ⊢
  have hl : lv_has ls 1 [(0, .ref o)] := hl
  refine lv_aload_n hx hb dX10_init_0 rfl (lv_at hl 0 rfl) ?_
  refine W.objInit hx hb hown (hts (.methodLink RX10 3 objectInit) (by decide +kernel)) (hts (.instanceMethod objectInit) (by decide +kernel)) (hts (.code objectInit ⟨#[0xb1]⟩ 1 none) (in_obj_wsX10_init)) rfl (by rw [hml]; exact hl.1) rfl dX10_init_1 (Nat.le_of_ble_eq_true rfl) (Nat.le_of_ble_eq_true rfl) ?_
  refine W.eq (g2 := F0 m 4 ls []) rfl ?_
  refine lv_aload_n hx hb dX10_init_4 rfl (lv_at hl 0 rfl) ?_
  refine lv_bipush (v := 40) hx hb dX10_init_5 (by decide) ?_
  refine va_newq (N' := 40) hx hb hown (hts (.classLink RX10 9 RX6) (by decide +kernel)) hZ.1.2.2.2.2.2.2.2.1 hK hP hD hS hA (by decide) (by decide) (by decide) (Nat.le_of_ble_eq_true rfl) (Nat.le_of_ble_eq_true rfl) dX10_init_7 (fun q_1 k_2 H hK1 hP1 hD1 hS => ?_)
  obtain ⟨rfl, -⟩ := lv_ad (k := 3) hK1 rfl
  clear hK1
  have hnq_1 := add_q hD1
  obtain ⟨S_3, eS_3⟩ : ∃ zq, zq = addO Z q_1 14 := ⟨_, rfl⟩
  have hP : va_P (dC, dI) vwCl (oW cq S_3) H := by rw [eS_3]; exact cP (onew hD1 (by rw [oE_14 add_K, add_P])) hP1
  have hD : va_D A (oW cq S_3) := by rw [eS_3]; exact cD (onew hD1 (by rw [oE_14 add_K, add_P])) hD1
  clear hP1 hD1
  have hIS_3 : oInv S_3 := by rw [eS_3]; exact oInv.add gI hnq_1 (by decide)
  have XS_3 : oX Z S_3 := by rw [eS_3]; exact oX.add hnq_1
  have ik_4 : oI S_3 o 0 = 0 := by rw [eS_3, add_In hnq_1 to.1]; exact (hz 0)
  have ik_5 : oI S_3 o 2 = 0 := by rw [eS_3, add_In hnq_1 to.1]; exact (hz 2)
  have ik_6 : oI S_3 o 4 = 0 := by rw [eS_3, add_In hnq_1 to.1]; exact (hz 4)
  have ik_7 : oI S_3 o 6 = 0 := by rw [eS_3, add_In hnq_1 to.1]; exact (hz 6)
  have X_8 : oX Z S_3 := XS_3
  have tq_1 : oty S_3 q_1 14 := by rw [eS_3]; exact add_ty
  refine W.widen (k := 1) (n := 40) (Nat.le_of_ble_eq_true rfl) (Nat.le_of_ble_eq_true rfl) ?_
  have t_9 : oty S_3 o 40 := (oX.ty XS_3 to)
  obtain ⟨q_10, hq_10⟩ := og (cq := cq) t_9.1 (oE_40 t_9.2)
  refine va_putF (D := (dC, dI)) (ci := 10) (v := .ref q_1) (ty := .array (.object "ShipOffice$Man")) (C := RX10) (T := TX10) (N := 16) hx hb hts in_wsX10_init_X10 tyX10 tyX10_ok nmX10 hown hK hP hD hS q_10 hq_10 rfl 1 (by decide) (hts (.fieldLink RX10 11 "ShipOffice" "men" "[LShipOffice$Man;") (by decide +kernel)) (fun _ h9 => h9) rfl hin rfl (by decide +kernel) rfl rfl (Nat.le_of_ble_eq_true rfl) dX10_init_10 (fun H locs hP1 hD1 hS => ?_)
  obtain ⟨S_11, eS_11⟩ : ∃ zq, zq = setP S_3 o 1 (some q_1) := ⟨_, rfl⟩
  have hP : va_P (dC, dI) vwCl (oW cq S_11) H := by rw [eS_11]; exact cP (oset t_9.1 hq_10 hD rfl (he_40_1 t_9.2) neP) hP1
  have hD : va_D A (oW cq S_11) := by rw [eS_11]; exact cD (oset t_9.1 hq_10 hD rfl (he_40_1 t_9.2) neP) hD1
  clear hP1 hD1
  have hIS_11 : oInv S_11 := by rw [eS_11]; exact oInv.P (k := 40) hIS_3 t_9.2 (by decide) rfl (by decide) tq_1 (by decide)
  have XS_11 : oX S_3 S_11 := by rw [eS_11]; exact oX.P
  have ik_12 : oI S_11 o 0 = 0 := by rw [eS_11]; exact ik_4
  have ik_13 : oI S_11 o 2 = 0 := by rw [eS_11]; exact ik_5
  have ik_14 : oI S_11 o 4 = 0 := by rw [eS_11]; exact ik_6
  have ik_15 : oI S_11 o 6 = 0 := by rw [eS_11]; exact ik_7
  have X_16 : oX Z S_11 := oX.tr X_8 XS_11
  have pk_17 : oP S_11 o 1 = some q_1 := by rw [eS_11, setP_same]
  refine lv_aload_n hx hb dX10_init_13 rfl (lv_at hl 0 rfl) ?_
  refine lv_bipush (v := 20) hx hb dX10_init_14 (by decide) ?_
  refine va_newq (N' := 20) hx hb hown (hts (.classLink RX10 15 RX9) (by decide +kernel)) hZ.1.2.2.2.2.2.2.2.2.1 hK hP hD hS hA (by decide) (by decide) (by decide) (Nat.le_of_ble_eq_true rfl) (Nat.le_of_ble_eq_true rfl) dX10_init_16 (fun q_18 k_19 H hK1 hP1 hD1 hS => ?_)
  obtain ⟨rfl, -⟩ := lv_ad (k := 4) hK1 rfl
  clear hK1
  have hnq_18 := add_q hD1
  obtain ⟨S_20, eS_20⟩ : ∃ zq, zq = addO S_11 q_18 15 := ⟨_, rfl⟩
  have hP : va_P (dC, dI) vwCl (oW cq S_20) H := by rw [eS_20]; exact cP (onew hD1 (by rw [oE_15 add_K, add_P])) hP1
  have hD : va_D A (oW cq S_20) := by rw [eS_20]; exact cD (onew hD1 (by rw [oE_15 add_K, add_P])) hD1
  clear hP1 hD1
  have hIS_20 : oInv S_20 := by rw [eS_20]; exact oInv.add hIS_11 hnq_18 (by decide)
  have XS_20 : oX S_11 S_20 := by rw [eS_20]; exact oX.add hnq_18
  have pk_21 : oP S_20 o 1 = some q_1 := by rw [eS_20, add_Pn hnq_18 (oX.ty XS_11 t_9).1]; exact pk_17
  have ik_22 : oI S_20 o 0 = 0 := by rw [eS_20, add_In hnq_18 (oX.ty XS_11 t_9).1]; exact ik_12
  have ik_23 : oI S_20 o 2 = 0 := by rw [eS_20, add_In hnq_18 (oX.ty XS_11 t_9).1]; exact ik_13
  have ik_24 : oI S_20 o 4 = 0 := by rw [eS_20, add_In hnq_18 (oX.ty XS_11 t_9).1]; exact ik_14
  have ik_25 : oI S_20 o 6 = 0 := by rw [eS_20, add_In hnq_18 (oX.ty XS_11 t_9).1]; exact ik_15
  have X_26 : oX Z S_20 := oX.tr X_16 XS_20
  have tq_18 : oty S_20 q_18 15 := by rw [eS_20]; exact add_ty
  refine W.widen (k := 2) (n := 60) (Nat.le_of_ble_eq_true rfl) (Nat.le_of_ble_eq_true rfl) ?_
  have t_27 : oty S_20 o 40 := (oX.ty XS_20 (oX.ty XS_11 t_9))
  obtain ⟨q_28, hq_28⟩ := og (cq := cq) t_27.1 (oE_40 t_27.2)
  refine va_putF (D := (dC, dI)) (ci := 10) (v := .ref q_18) (ty := .array (.object "ShipOffice$Voyage")) (C := RX10) (T := TX10) (N := 16) hx hb hts in_wsX10_init_X10 tyX10 tyX10_ok nmX10 hown hK hP hD hS q_28 hq_28 rfl 3 (by decide) (hts (.fieldLink RX10 17 "ShipOffice" "voyages" "[LShipOffice$Voyage;") (by decide +kernel)) (fun _ h9 => h9) rfl hin rfl (by decide +kernel) rfl rfl (Nat.le_of_ble_eq_true rfl) dX10_init_19 (fun H locs hP1 hD1 hS => ?_)
  obtain ⟨S_29, eS_29⟩ : ∃ zq, zq = setP S_20 o 3 (some q_18) := ⟨_, rfl⟩
  have hP : va_P (dC, dI) vwCl (oW cq S_29) H := by rw [eS_29]; exact cP (oset t_27.1 hq_28 hD rfl (he_40_3 t_27.2) neP) hP1
  have hD : va_D A (oW cq S_29) := by rw [eS_29]; exact cD (oset t_27.1 hq_28 hD rfl (he_40_3 t_27.2) neP) hD1
  clear hP1 hD1
  have hIS_29 : oInv S_29 := by rw [eS_29]; exact oInv.P (k := 40) hIS_20 t_27.2 (by decide) rfl (by decide) tq_18 (by decide)
  have XS_29 : oX S_20 S_29 := by rw [eS_29]; exact oX.P
  have pk_30 : oP S_29 o 1 = some q_1 := by rw [eS_29, setP_ne (by decide)]; exact pk_21
  have ik_31 : oI S_29 o 0 = 0 := by rw [eS_29]; exact ik_22
  have ik_32 : oI S_29 o 2 = 0 := by rw [eS_29]; exact ik_23
  have ik_33 : oI S_29 o 4 = 0 := by rw [eS_29]; exact ik_24
  have ik_34 : oI S_29 o 6 = 0 := by rw [eS_29]; exact ik_25
  have X_35 : oX Z S_29 := oX.tr X_26 XS_29
  have pk_36 : oP S_29 o 3 = some q_18 := by rw [eS_29, setP_same]
  refine lv_aload_n hx hb dX10_init_22 rfl (lv_at hl 0 rfl) ?_
  refine lv_bipush (v := 60) hx hb dX10_init_23 (by decide) ?_
  refine va_newq (N' := 60) hx hb hown (hts (.classLink RX10 21 RX1) (by decide +kernel)) hZ.1.2.2.2.2.2.2.2.2.2 hK hP hD hS hA (by decide) (by decide) (by decide) (Nat.le_of_ble_eq_true rfl) (Nat.le_of_ble_eq_true rfl) dX10_init_25 (fun q_37 k_38 H hK1 hP1 hD1 hS => ?_)
  obtain ⟨rfl, -⟩ := lv_ad (k := 5) hK1 rfl
  clear hK1
  have hnq_37 := add_q hD1
  obtain ⟨S_39, eS_39⟩ : ∃ zq, zq = addO S_29 q_37 16 := ⟨_, rfl⟩
  have hP : va_P (dC, dI) vwCl (oW cq S_39) H := by rw [eS_39]; exact cP (onew hD1 (by rw [oE_16 add_K, add_P])) hP1
  have hD : va_D A (oW cq S_39) := by rw [eS_39]; exact cD (onew hD1 (by rw [oE_16 add_K, add_P])) hD1
  clear hP1 hD1
  have hIS_39 : oInv S_39 := by rw [eS_39]; exact oInv.add hIS_29 hnq_37 (by decide)
  have XS_39 : oX S_29 S_39 := by rw [eS_39]; exact oX.add hnq_37
  have pk_40 : oP S_39 o 1 = some q_1 := by rw [eS_39, add_Pn hnq_37 (oX.ty XS_29 t_27).1]; exact pk_30
  have pk_41 : oP S_39 o 3 = some q_18 := by rw [eS_39, add_Pn hnq_37 (oX.ty XS_29 t_27).1]; exact pk_36
  have ik_42 : oI S_39 o 0 = 0 := by rw [eS_39, add_In hnq_37 (oX.ty XS_29 t_27).1]; exact ik_31
  have ik_43 : oI S_39 o 2 = 0 := by rw [eS_39, add_In hnq_37 (oX.ty XS_29 t_27).1]; exact ik_32
  have ik_44 : oI S_39 o 4 = 0 := by rw [eS_39, add_In hnq_37 (oX.ty XS_29 t_27).1]; exact ik_33
  have ik_45 : oI S_39 o 6 = 0 := by rw [eS_39, add_In hnq_37 (oX.ty XS_29 t_27).1]; exact ik_34
  have X_46 : oX Z S_39 := oX.tr X_35 XS_39
  have tq_37 : oty S_39 q_37 16 := by rw [eS_39]; exact add_ty
  refine W.widen (k := 3) (n := 120) (Nat.le_of_ble_eq_true rfl) (Nat.le_of_ble_eq_true rfl) ?_
  have t_47 : oty S_39 o 40 := (oX.ty XS_39 (oX.ty XS_29 t_27))
  obtain ⟨q_48, hq_48⟩ := og (cq := cq) t_47.1 (oE_40 t_47.2)
  refine va_putF (D := (dC, dI)) (ci := 10) (v := .ref q_37) (ty := .array (.object "ShipOffice$Agreement")) (C := RX10) (T := TX10) (N := 16) hx hb hts in_wsX10_init_X10 tyX10 tyX10_ok nmX10 hown hK hP hD hS q_48 hq_48 rfl 5 (by decide) (hts (.fieldLink RX10 23 "ShipOffice" "agreements" "[LShipOffice$Agreement;") (by decide +kernel)) (fun _ h9 => h9) rfl hin rfl (by decide +kernel) rfl rfl (Nat.le_of_ble_eq_true rfl) dX10_init_28 (fun H locs hP1 hD1 hS => ?_)
  obtain ⟨S_49, eS_49⟩ : ∃ zq, zq = setP S_39 o 5 (some q_37) := ⟨_, rfl⟩
  have hP : va_P (dC, dI) vwCl (oW cq S_49) H := by rw [eS_49]; exact cP (oset t_47.1 hq_48 hD rfl (he_40_5 t_47.2) neP) hP1
  have hD : va_D A (oW cq S_49) := by rw [eS_49]; exact cD (oset t_47.1 hq_48 hD rfl (he_40_5 t_47.2) neP) hD1
  clear hP1 hD1
  have hIS_49 : oInv S_49 := by rw [eS_49]; exact oInv.P (k := 40) hIS_39 t_47.2 (by decide) rfl (by decide) tq_37 (by decide)
  have XS_49 : oX S_39 S_49 := by rw [eS_49]; exact oX.P
  have pk_50 : oP S_49 o 1 = some q_1 := by rw [eS_49, setP_ne (by decide)]; exact pk_40
  have pk_51 : oP S_49 o 3 = some q_18 := by rw [eS_49, setP_ne (by decide)]; exact pk_41
  have ik_52 : oI S_49 o 0 = 0 := by rw [eS_49]; exact ik_42
  have ik_53 : oI S_49 o 2 = 0 := by rw [eS_49]; exact ik_43
  have ik_54 : oI S_49 o 4 = 0 := by rw [eS_49]; exact ik_44
  have ik_55 : oI S_49 o 6 = 0 := by rw [eS_49]; exact ik_45
  have X_56 : oX Z S_49 := oX.tr X_46 XS_49
  have pk_57 : oP S_49 o 5 = some q_37 := by rw [eS_49, setP_same]
  refine lv_aload_n hx hb dX10_init_31 rfl (lv_at hl 0 rfl) ?_
  refine va_new (ci := 5) (fs := [.null, .null, .int 0]) (C := RX5) (T := TX5) (N := 3) hx hb hts in_wsX10_init_X5 tyX5 tyX5_ok hown (hts (.classLink RX10 27 RX5) (by decide +kernel)) (hts (.instantiable RX5 3) (by decide +kernel)) (hts (.initialized RX5) (by decide +kernel)) hK hP hD hS hA rfl (fun j hj => by rcases (show j = 0 ∨ j = 1 ∨ j = 2 by omega) with rfl | rfl | rfl <;> rfl) (Nat.le_of_ble_eq_true rfl) (Nat.le_of_ble_eq_true rfl) dX10_init_32 (fun q_58 H hP1 hD1 hS => ?_)
  have hnq_58 := add_q hD1
  obtain ⟨S_59, eS_59⟩ : ∃ zq, zq = addO S_49 q_58 35 := ⟨_, rfl⟩
  have hP : va_P (dC, dI) vwCl (oW cq S_59) H := by rw [eS_59]; exact cP (onew hD1 (by rw [oE_35 add_K, add_I, add_P]; rfl)) hP1
  have hD : va_D A (oW cq S_59) := by rw [eS_59]; exact cD (onew hD1 (by rw [oE_35 add_K, add_I, add_P]; rfl)) hD1
  clear hP1 hD1
  have hIS_59 : oInv S_59 := by rw [eS_59]; exact oInv.add hIS_49 hnq_58 (by decide)
  have XS_59 : oX S_49 S_59 := by rw [eS_59]; exact oX.add hnq_58
  have pk_60 : oP S_59 o 1 = some q_1 := by rw [eS_59, add_Pn hnq_58 (oX.ty XS_49 t_47).1]; exact pk_50
  have pk_61 : oP S_59 o 3 = some q_18 := by rw [eS_59, add_Pn hnq_58 (oX.ty XS_49 t_47).1]; exact pk_51
  have pk_62 : oP S_59 o 5 = some q_37 := by rw [eS_59, add_Pn hnq_58 (oX.ty XS_49 t_47).1]; exact pk_57
  have ik_63 : oI S_59 o 0 = 0 := by rw [eS_59, add_In hnq_58 (oX.ty XS_49 t_47).1]; exact ik_52
  have ik_64 : oI S_59 o 2 = 0 := by rw [eS_59, add_In hnq_58 (oX.ty XS_49 t_47).1]; exact ik_53
  have ik_65 : oI S_59 o 4 = 0 := by rw [eS_59, add_In hnq_58 (oX.ty XS_49 t_47).1]; exact ik_54
  have ik_66 : oI S_59 o 6 = 0 := by rw [eS_59, add_In hnq_58 (oX.ty XS_49 t_47).1]; exact ik_55
  have X_67 : oX Z S_59 := oX.tr X_56 XS_59
  have tq_58 : oty S_59 q_58 35 := by rw [eS_59]; exact add_ty
  refine W.widen (k := 4) (n := 123) (Nat.le_of_ble_eq_true rfl) (Nat.le_of_ble_eq_true rfl) ?_
  refine lv_dup hx hb dX10_init_35 rfl ?_
  have hFc := o_free hD hS hA
  refine va_callv (va_runI (As := []) (rest := [.ref q_58, .ref o]) ⟨hx, hb, hml, hown, hts⟩ (c_X5_init l dC dI H.size tL tS tG cq S_59 hIS_59 q_58 tq_58 (fun j => by rw [eS_59, add_I])) (cwI 0 hts gX10_init_X5_init rfl rfl rfl (hts (.initialized RX5) (by decide +kernel)) (hts (.methodLink RX10 29 yX5_init) (by decide +kernel)) (hts (.instanceMethod yX5_init) (by decide +kernel)) rfl (by decide +kernel) ⟨(Nat.le_of_ble_eq_true rfl), (Nat.le_of_ble_eq_true rfl)⟩) (pr_SO hP hK hD (hZ.go hS hFc)) rfl rfl hl.1 rfl (lv_room (Nat.le_of_ble_eq_true rfl)) dX10_init_36 ⟨(Nat.le_of_ble_eq_true rfl), (Nat.le_of_ble_eq_true rfl)⟩) hS (fun q _ h => hFc q h) hFc (fun u t H locs ht hvm w_68 hB hz1 hk1 hS => ?_)
  obtain ⟨S_70, rfl⟩ : ∃ z, z = u := ⟨_, rfl⟩
  obtain ⟨hP1, hK1, hD1⟩ := hB
  rw [ht] at hP1
  have hP : va_P (dC, dI) vwCl (oW cq S_70) H := hP1
  have hD : va_D A (oW cq S_70) := hD1.weaken (fun _ _ _ h => hFc _ h)
  clear hP1 hK1 hD1 hk1 hz1 hvm ht hFc
  refine W.widen (k := 26) (n := 533) (Nat.le_of_ble_eq_true rfl) (Nat.le_of_ble_eq_true rfl) ?_
  obtain ⟨hIS_70, XS_70, hx_71⟩ := w_68
  obtain ⟨hxS_70, FS_70⟩ := hx_71
  have X_72 : oX Z S_70 := oX.c X_67 XS_70 (oX.nin X_56 hnq_58)
  have pk_73 : oP S_70 o 1 = some q_1 := by rw [(FS_70 o (oX.ty XS_59 (oX.ty XS_49 t_47)).1 (ty_ne (oX.ty XS_59 (oX.ty XS_49 t_47)) tq_58 (by decide))).2]; exact pk_60
  have pk_74 : oP S_70 o 3 = some q_18 := by rw [(FS_70 o (oX.ty XS_59 (oX.ty XS_49 t_47)).1 (ty_ne (oX.ty XS_59 (oX.ty XS_49 t_47)) tq_58 (by decide))).2]; exact pk_61
  have pk_75 : oP S_70 o 5 = some q_37 := by rw [(FS_70 o (oX.ty XS_59 (oX.ty XS_49 t_47)).1 (ty_ne (oX.ty XS_59 (oX.ty XS_49 t_47)) tq_58 (by decide))).2]; exact pk_62
  have ik_76 : oI S_70 o 0 = 0 := by rw [(FS_70 o (oX.ty XS_59 (oX.ty XS_49 t_47)).1 (ty_ne (oX.ty XS_59 (oX.ty XS_49 t_47)) tq_58 (by decide))).1 (by rw [(oX.ty XS_59 (oX.ty XS_49 t_47)).2]; decide)]; exact ik_63
  have ik_77 : oI S_70 o 2 = 0 := by rw [(FS_70 o (oX.ty XS_59 (oX.ty XS_49 t_47)).1 (ty_ne (oX.ty XS_59 (oX.ty XS_49 t_47)) tq_58 (by decide))).1 (by rw [(oX.ty XS_59 (oX.ty XS_49 t_47)).2]; decide)]; exact ik_64
  have ik_78 : oI S_70 o 4 = 0 := by rw [(FS_70 o (oX.ty XS_59 (oX.ty XS_49 t_47)).1 (ty_ne (oX.ty XS_59 (oX.ty XS_49 t_47)) tq_58 (by decide))).1 (by rw [(oX.ty XS_59 (oX.ty XS_49 t_47)).2]; decide)]; exact ik_65
  have ik_79 : oI S_70 o 6 = 0 := by rw [(FS_70 o (oX.ty XS_59 (oX.ty XS_49 t_47)).1 (ty_ne (oX.ty XS_59 (oX.ty XS_49 t_47)) tq_58 (by decide))).1 (by rw [(oX.ty XS_59 (oX.ty XS_49 t_47)).2]; decide)]; exact ik_66
  have t_80 : oty S_70 o 40 := (oXc.ty XS_70 (ty_ne (oX.ty XS_59 (oX.ty XS_49 t_47)) tq_58 (by decide)) (oX.ty XS_59 (oX.ty XS_49 t_47)))
  obtain ⟨q_81, hq_81⟩ := og (cq := cq) t_80.1 (oE_40 t_80.2)
  refine va_putF (D := (dC, dI)) (ci := 10) (v := .ref q_58) (ty := .object "ShipOffice$Law") (C := RX10) (T := TX10) (N := 16) hx hb hts in_wsX10_init_X10 tyX10 tyX10_ok nmX10 hown hK hP hD hS q_81 hq_81 rfl 8 (by decide) (hts (.fieldLink RX10 30 "ShipOffice" "law" "LShipOffice$Law;") (by decide +kernel)) (fun _ h9 => h9) rfl hin rfl (by decide +kernel) rfl rfl (Nat.le_of_ble_eq_true rfl) dX10_init_39 (fun H locs hP1 hD1 hS => ?_)
  obtain ⟨S_82, eS_82⟩ : ∃ zq, zq = setP S_70 o 8 (some q_58) := ⟨_, rfl⟩
  have hP : va_P (dC, dI) vwCl (oW cq S_82) H := by rw [eS_82]; exact cP (oset t_80.1 hq_81 hD rfl (he_40_8 t_80.2) neP) hP1
  have hD : va_D A (oW cq S_82) := by rw [eS_82]; exact cD (oset t_80.1 hq_81 hD rfl (he_40_8 t_80.2) neP) hD1
  clear hP1 hD1
  have hIS_82 : oInv S_82 := by rw [eS_82]; exact oInv.P (k := 40) hIS_70 t_80.2 (by decide) rfl (by decide) hxS_70 (by decide)
  have XS_82 : oX S_70 S_82 := by rw [eS_82]; exact oX.P
  have pk_83 : oP S_82 o 1 = some q_1 := by rw [eS_82, setP_ne (by decide)]; exact pk_73
  have pk_84 : oP S_82 o 3 = some q_18 := by rw [eS_82, setP_ne (by decide)]; exact pk_74
  have pk_85 : oP S_82 o 5 = some q_37 := by rw [eS_82, setP_ne (by decide)]; exact pk_75
  have ik_86 : oI S_82 o 0 = 0 := by rw [eS_82]; exact ik_76
  have ik_87 : oI S_82 o 2 = 0 := by rw [eS_82]; exact ik_77
  have ik_88 : oI S_82 o 4 = 0 := by rw [eS_82]; exact ik_78
  have ik_89 : oI S_82 o 6 = 0 := by rw [eS_82]; exact ik_79
  have X_90 : oX Z S_82 := oX.tr X_72 XS_82
  have pk_91 : oP S_82 o 8 = some q_58 := by rw [eS_82, setP_same]
  refine lv_aload_n hx hb dX10_init_42 rfl (lv_at hl 0 rfl) ?_
  refine va_new (ci := 8) (fs := [.null, .int 0, .null, .int 0, .int 0, .int 0]) (C := RX8) (T := TX8) (N := 6) hx hb hts in_wsX10_init_X8 tyX8 tyX8_ok hown (hts (.classLink RX10 34 RX8) (by decide +kernel)) (hts (.instantiable RX8 6) (by decide +kernel)) (hts (.initialized RX8) (by decide +kernel)) hK hP hD hS hA rfl (fun j hj => by rcases (show j = 0 ∨ j = 1 ∨ j = 2 ∨ j = 3 ∨ j = 4 ∨ j = 5 by omega) with rfl | rfl | rfl | rfl | rfl | rfl <;> rfl) (Nat.le_of_ble_eq_true rfl) (Nat.le_of_ble_eq_true rfl) dX10_init_43 (fun q_92 H hP1 hD1 hS => ?_)
  have hnq_92 := add_q hD1
  obtain ⟨S_93, eS_93⟩ : ∃ zq, zq = addO S_82 q_92 38 := ⟨_, rfl⟩
  have hP : va_P (dC, dI) vwCl (oW cq S_93) H := by rw [eS_93]; exact cP (onew hD1 (by rw [oE_38 add_K, add_I, add_P]; rfl)) hP1
  have hD : va_D A (oW cq S_93) := by rw [eS_93]; exact cD (onew hD1 (by rw [oE_38 add_K, add_I, add_P]; rfl)) hD1
  clear hP1 hD1
  have hIS_93 : oInv S_93 := by rw [eS_93]; exact oInv.add hIS_82 hnq_92 (by decide)
  have XS_93 : oX S_82 S_93 := by rw [eS_93]; exact oX.add hnq_92
  have pk_94 : oP S_93 o 1 = some q_1 := by rw [eS_93, add_Pn hnq_92 (oX.ty XS_82 t_80).1]; exact pk_83
  have pk_95 : oP S_93 o 3 = some q_18 := by rw [eS_93, add_Pn hnq_92 (oX.ty XS_82 t_80).1]; exact pk_84
  have pk_96 : oP S_93 o 5 = some q_37 := by rw [eS_93, add_Pn hnq_92 (oX.ty XS_82 t_80).1]; exact pk_85
  have pk_97 : oP S_93 o 8 = some q_58 := by rw [eS_93, add_Pn hnq_92 (oX.ty XS_82 t_80).1]; exact pk_91
  have ik_98 : oI S_93 o 0 = 0 := by rw [eS_93, add_In hnq_92 (oX.ty XS_82 t_80).1]; exact ik_86
  have ik_99 : oI S_93 o 2 = 0 := by rw [eS_93, add_In hnq_92 (oX.ty XS_82 t_80).1]; exact ik_87
  have ik_100 : oI S_93 o 4 = 0 := by rw [eS_93, add_In hnq_92 (oX.ty XS_82 t_80).1]; exact ik_88
  have ik_101 : oI S_93 o 6 = 0 := by rw [eS_93, add_In hnq_92 (oX.ty XS_82 t_80).1]; exact ik_89
  have X_102 : oX Z S_93 := oX.tr X_90 XS_93
  have tq_92 : oty S_93 q_92 38 := by rw [eS_93]; exact add_ty
  refine W.widen (k := 27) (n := 539) (Nat.le_of_ble_eq_true rfl) (Nat.le_of_ble_eq_true rfl) ?_
  refine lv_dup hx hb dX10_init_46 rfl ?_
  have hFc := o_free hD hS hA
  refine va_callv (va_runI (As := []) (rest := [.ref q_92, .ref o]) ⟨hx, hb, hml, hown, hts⟩ (c_X8_init l dC dI H.size cq S_93 hIS_93 q_92 tq_92) (cwI 0 hts gX10_init_X8_init rfl rfl rfl (hts (.initialized RX8) (by decide +kernel)) (hts (.methodLink RX10 36 yX8_init) (by decide +kernel)) (hts (.instanceMethod yX8_init) (by decide +kernel)) rfl (by decide +kernel) ⟨(Nat.le_of_ble_eq_true rfl), (Nat.le_of_ble_eq_true rfl)⟩) (pr_S hP hK hD) rfl rfl hl.1 rfl (lv_room (Nat.le_of_ble_eq_true rfl)) dX10_init_47 ⟨(Nat.le_of_ble_eq_true rfl), (Nat.le_of_ble_eq_true rfl)⟩) hS (fun q _ h => hFc q h) hFc (fun u t H locs ht hvm w_103 hB hz1 hk1 hS => ?_)
  obtain ⟨S_105, rfl⟩ : ∃ z, z = u := ⟨_, rfl⟩
  obtain ⟨hP1, hK1, hD1⟩ := hB
  rw [ht] at hP1
  have hP : va_P (dC, dI) vwCl (oW cq S_105) H := hP1
  have hD : va_D A (oW cq S_105) := hD1.weaken (fun _ _ _ h => hFc _ h)
  clear hP1 hK1 hD1 hk1 hz1 hvm ht hFc
  refine W.widen (k := 29) (n := 659) (Nat.le_of_ble_eq_true rfl) (Nat.le_of_ble_eq_true rfl) ?_
  obtain ⟨hIS_105, XS_105, hx_106⟩ := w_103
  obtain ⟨hxS_105, FS_105⟩ := hx_106
  have X_107 : oX Z S_105 := oX.c X_102 XS_105 (oX.nin X_90 hnq_92)
  have pk_108 : oP S_105 o 1 = some q_1 := by rw [(FS_105 o (oX.ty XS_93 (oX.ty XS_82 t_80)).1 (ty_ne (oX.ty XS_93 (oX.ty XS_82 t_80)) tq_92 (by decide))).2]; exact pk_94
  have pk_109 : oP S_105 o 3 = some q_18 := by rw [(FS_105 o (oX.ty XS_93 (oX.ty XS_82 t_80)).1 (ty_ne (oX.ty XS_93 (oX.ty XS_82 t_80)) tq_92 (by decide))).2]; exact pk_95
  have pk_110 : oP S_105 o 5 = some q_37 := by rw [(FS_105 o (oX.ty XS_93 (oX.ty XS_82 t_80)).1 (ty_ne (oX.ty XS_93 (oX.ty XS_82 t_80)) tq_92 (by decide))).2]; exact pk_96
  have pk_111 : oP S_105 o 8 = some q_58 := by rw [(FS_105 o (oX.ty XS_93 (oX.ty XS_82 t_80)).1 (ty_ne (oX.ty XS_93 (oX.ty XS_82 t_80)) tq_92 (by decide))).2]; exact pk_97
  have ik_112 : oI S_105 o 0 = 0 := by rw [(FS_105 o (oX.ty XS_93 (oX.ty XS_82 t_80)).1 (ty_ne (oX.ty XS_93 (oX.ty XS_82 t_80)) tq_92 (by decide))).1 (by rw [(oX.ty XS_93 (oX.ty XS_82 t_80)).2]; decide)]; exact ik_98
  have ik_113 : oI S_105 o 2 = 0 := by rw [(FS_105 o (oX.ty XS_93 (oX.ty XS_82 t_80)).1 (ty_ne (oX.ty XS_93 (oX.ty XS_82 t_80)) tq_92 (by decide))).1 (by rw [(oX.ty XS_93 (oX.ty XS_82 t_80)).2]; decide)]; exact ik_99
  have ik_114 : oI S_105 o 4 = 0 := by rw [(FS_105 o (oX.ty XS_93 (oX.ty XS_82 t_80)).1 (ty_ne (oX.ty XS_93 (oX.ty XS_82 t_80)) tq_92 (by decide))).1 (by rw [(oX.ty XS_93 (oX.ty XS_82 t_80)).2]; decide)]; exact ik_100
  have ik_115 : oI S_105 o 6 = 0 := by rw [(FS_105 o (oX.ty XS_93 (oX.ty XS_82 t_80)).1 (ty_ne (oX.ty XS_93 (oX.ty XS_82 t_80)) tq_92 (by decide))).1 (by rw [(oX.ty XS_93 (oX.ty XS_82 t_80)).2]; decide)]; exact ik_101
  have t_116 : oty S_105 o 40 := (oXc.ty XS_105 (ty_ne (oX.ty XS_93 (oX.ty XS_82 t_80)) tq_92 (by decide)) (oX.ty XS_93 (oX.ty XS_82 t_80)))
  obtain ⟨q_117, hq_117⟩ := og (cq := cq) t_116.1 (oE_40 t_116.2)
  refine va_putF (D := (dC, dI)) (ci := 10) (v := .ref q_92) (ty := .object "ShipOffice$Tape") (C := RX10) (T := TX10) (N := 16) hx hb hts in_wsX10_init_X10 tyX10 tyX10_ok nmX10 hown hK hP hD hS q_117 hq_117 rfl 9 (by decide) (hts (.fieldLink RX10 37 "ShipOffice" "tape" "LShipOffice$Tape;") (by decide +kernel)) (fun _ h9 => h9) rfl hin rfl (by decide +kernel) rfl rfl (Nat.le_of_ble_eq_true rfl) dX10_init_50 (fun H locs hP1 hD1 hS => ?_)
  obtain ⟨S_118, eS_118⟩ : ∃ zq, zq = setP S_105 o 9 (some q_92) := ⟨_, rfl⟩
  have hP : va_P (dC, dI) vwCl (oW cq S_118) H := by rw [eS_118]; exact cP (oset t_116.1 hq_117 hD rfl (he_40_9 t_116.2) neP) hP1
  have hD : va_D A (oW cq S_118) := by rw [eS_118]; exact cD (oset t_116.1 hq_117 hD rfl (he_40_9 t_116.2) neP) hD1
  clear hP1 hD1
  have hIS_118 : oInv S_118 := by rw [eS_118]; exact oInv.P (k := 40) hIS_105 t_116.2 (by decide) rfl (by decide) hxS_105 (by decide)
  have XS_118 : oX S_105 S_118 := by rw [eS_118]; exact oX.P
  have pk_119 : oP S_118 o 1 = some q_1 := by rw [eS_118, setP_ne (by decide)]; exact pk_108
  have pk_120 : oP S_118 o 3 = some q_18 := by rw [eS_118, setP_ne (by decide)]; exact pk_109
  have pk_121 : oP S_118 o 5 = some q_37 := by rw [eS_118, setP_ne (by decide)]; exact pk_110
  have pk_122 : oP S_118 o 8 = some q_58 := by rw [eS_118, setP_ne (by decide)]; exact pk_111
  have ik_123 : oI S_118 o 0 = 0 := by rw [eS_118]; exact ik_112
  have ik_124 : oI S_118 o 2 = 0 := by rw [eS_118]; exact ik_113
  have ik_125 : oI S_118 o 4 = 0 := by rw [eS_118]; exact ik_114
  have ik_126 : oI S_118 o 6 = 0 := by rw [eS_118]; exact ik_115
  have X_127 : oX Z S_118 := oX.tr X_107 XS_118
  have pk_128 : oP S_118 o 9 = some q_92 := by rw [eS_118, setP_same]
  refine lv_aload_n hx hb dX10_init_53 rfl (lv_at hl 0 rfl) ?_
  refine va_new (ci := 7) (fs := [.null, .null]) (C := RX7) (T := TX7) (N := 2) hx hb hts in_wsX10_init_X7 tyX7 tyX7_ok hown (hts (.classLink RX10 41 RX7) (by decide +kernel)) (hts (.instantiable RX7 2) (by decide +kernel)) (hts (.initialized RX7) (by decide +kernel)) hK hP hD hS hA rfl (fun j hj => by rcases (show j = 0 ∨ j = 1 by omega) with rfl | rfl <;> rfl) (Nat.le_of_ble_eq_true rfl) (Nat.le_of_ble_eq_true rfl) dX10_init_54 (fun q_129 H hP1 hD1 hS => ?_)
  have hnq_129 := add_q hD1
  obtain ⟨S_130, eS_130⟩ : ∃ zq, zq = addO S_118 q_129 37 := ⟨_, rfl⟩
  have hP : va_P (dC, dI) vwCl (oW cq S_130) H := by rw [eS_130]; exact cP (onew hD1 (by rw [oE_37 add_K, add_P]; rfl)) hP1
  have hD : va_D A (oW cq S_130) := by rw [eS_130]; exact cD (onew hD1 (by rw [oE_37 add_K, add_P]; rfl)) hD1
  clear hP1 hD1
  have hIS_130 : oInv S_130 := by rw [eS_130]; exact oInv.add hIS_118 hnq_129 (by decide)
  have XS_130 : oX S_118 S_130 := by rw [eS_130]; exact oX.add hnq_129
  have pk_131 : oP S_130 o 1 = some q_1 := by rw [eS_130, add_Pn hnq_129 (oX.ty XS_118 t_116).1]; exact pk_119
  have pk_132 : oP S_130 o 3 = some q_18 := by rw [eS_130, add_Pn hnq_129 (oX.ty XS_118 t_116).1]; exact pk_120
  have pk_133 : oP S_130 o 5 = some q_37 := by rw [eS_130, add_Pn hnq_129 (oX.ty XS_118 t_116).1]; exact pk_121
  have pk_134 : oP S_130 o 8 = some q_58 := by rw [eS_130, add_Pn hnq_129 (oX.ty XS_118 t_116).1]; exact pk_122
  have pk_135 : oP S_130 o 9 = some q_92 := by rw [eS_130, add_Pn hnq_129 (oX.ty XS_118 t_116).1]; exact pk_128
  have ik_136 : oI S_130 o 0 = 0 := by rw [eS_130, add_In hnq_129 (oX.ty XS_118 t_116).1]; exact ik_123
  have ik_137 : oI S_130 o 2 = 0 := by rw [eS_130, add_In hnq_129 (oX.ty XS_118 t_116).1]; exact ik_124
  have ik_138 : oI S_130 o 4 = 0 := by rw [eS_130, add_In hnq_129 (oX.ty XS_118 t_116).1]; exact ik_125
  have ik_139 : oI S_130 o 6 = 0 := by rw [eS_130, add_In hnq_129 (oX.ty XS_118 t_116).1]; exact ik_126
  have X_140 : oX Z S_130 := oX.tr X_127 XS_130
  have tq_129 : oty S_130 q_129 37 := by rw [eS_130]; exact add_ty
  refine W.widen (k := 30) (n := 661) (Nat.le_of_ble_eq_true rfl) (Nat.le_of_ble_eq_true rfl) ?_
  refine lv_dup hx hb dX10_init_57 rfl ?_
  have hFc := o_free hD hS hA
  refine va_callv (va_runI (As := []) (rest := [.ref q_129, .ref o]) ⟨hx, hb, hml, hown, hts⟩ (c_X7_init l dC dI H.size cq S_130 hIS_130 q_129 tq_129) (cwI 0 hts gX10_init_X7_init rfl rfl rfl (hts (.initialized RX7) (by decide +kernel)) (hts (.methodLink RX10 43 yX7_init) (by decide +kernel)) (hts (.instanceMethod yX7_init) (by decide +kernel)) rfl (by decide +kernel) ⟨(Nat.le_of_ble_eq_true rfl), (Nat.le_of_ble_eq_true rfl)⟩) (pr_S hP hK hD) rfl rfl hl.1 rfl (lv_room (Nat.le_of_ble_eq_true rfl)) dX10_init_58 ⟨(Nat.le_of_ble_eq_true rfl), (Nat.le_of_ble_eq_true rfl)⟩) hS (fun q _ h => hFc q h) hFc (fun u t H locs ht hvm w_141 hB hz1 hk1 hS => ?_)
  obtain ⟨S_143, rfl⟩ : ∃ z, z = u := ⟨_, rfl⟩
  obtain ⟨hP1, hK1, hD1⟩ := hB
  rw [ht] at hP1
  have hP : va_P (dC, dI) vwCl (oW cq S_143) H := hP1
  have hD : va_D A (oW cq S_143) := hD1.weaken (fun _ _ _ h => hFc _ h)
  clear hP1 hK1 hD1 hk1 hz1 hvm ht hFc
  refine W.widen (k := 32) (n := 771) (Nat.le_of_ble_eq_true rfl) (Nat.le_of_ble_eq_true rfl) ?_
  obtain ⟨hIS_143, XS_143, hx_144⟩ := w_141
  obtain ⟨hxS_143, FS_143⟩ := hx_144
  have X_145 : oX Z S_143 := oX.c X_140 XS_143 (oX.nin X_127 hnq_129)
  have pk_146 : oP S_143 o 1 = some q_1 := by rw [(FS_143 o (oX.ty XS_130 (oX.ty XS_118 t_116)).1 (ty_ne (oX.ty XS_130 (oX.ty XS_118 t_116)) tq_129 (by decide))).2]; exact pk_131
  have pk_147 : oP S_143 o 3 = some q_18 := by rw [(FS_143 o (oX.ty XS_130 (oX.ty XS_118 t_116)).1 (ty_ne (oX.ty XS_130 (oX.ty XS_118 t_116)) tq_129 (by decide))).2]; exact pk_132
  have pk_148 : oP S_143 o 5 = some q_37 := by rw [(FS_143 o (oX.ty XS_130 (oX.ty XS_118 t_116)).1 (ty_ne (oX.ty XS_130 (oX.ty XS_118 t_116)) tq_129 (by decide))).2]; exact pk_133
  have pk_149 : oP S_143 o 8 = some q_58 := by rw [(FS_143 o (oX.ty XS_130 (oX.ty XS_118 t_116)).1 (ty_ne (oX.ty XS_130 (oX.ty XS_118 t_116)) tq_129 (by decide))).2]; exact pk_134
  have pk_150 : oP S_143 o 9 = some q_92 := by rw [(FS_143 o (oX.ty XS_130 (oX.ty XS_118 t_116)).1 (ty_ne (oX.ty XS_130 (oX.ty XS_118 t_116)) tq_129 (by decide))).2]; exact pk_135
  have ik_151 : oI S_143 o 0 = 0 := by rw [(FS_143 o (oX.ty XS_130 (oX.ty XS_118 t_116)).1 (ty_ne (oX.ty XS_130 (oX.ty XS_118 t_116)) tq_129 (by decide))).1 (by rw [(oX.ty XS_130 (oX.ty XS_118 t_116)).2]; decide)]; exact ik_136
  have ik_152 : oI S_143 o 2 = 0 := by rw [(FS_143 o (oX.ty XS_130 (oX.ty XS_118 t_116)).1 (ty_ne (oX.ty XS_130 (oX.ty XS_118 t_116)) tq_129 (by decide))).1 (by rw [(oX.ty XS_130 (oX.ty XS_118 t_116)).2]; decide)]; exact ik_137
  have ik_153 : oI S_143 o 4 = 0 := by rw [(FS_143 o (oX.ty XS_130 (oX.ty XS_118 t_116)).1 (ty_ne (oX.ty XS_130 (oX.ty XS_118 t_116)) tq_129 (by decide))).1 (by rw [(oX.ty XS_130 (oX.ty XS_118 t_116)).2]; decide)]; exact ik_138
  have ik_154 : oI S_143 o 6 = 0 := by rw [(FS_143 o (oX.ty XS_130 (oX.ty XS_118 t_116)).1 (ty_ne (oX.ty XS_130 (oX.ty XS_118 t_116)) tq_129 (by decide))).1 (by rw [(oX.ty XS_130 (oX.ty XS_118 t_116)).2]; decide)]; exact ik_139
  have t_155 : oty S_143 o 40 := (oXc.ty XS_143 (ty_ne (oX.ty XS_130 (oX.ty XS_118 t_116)) tq_129 (by decide)) (oX.ty XS_130 (oX.ty XS_118 t_116)))
  obtain ⟨q_156, hq_156⟩ := og (cq := cq) t_155.1 (oE_40 t_155.2)
  refine va_putF (D := (dC, dI)) (ci := 10) (v := .ref q_129) (ty := .object "ShipOffice$Sea") (C := RX10) (T := TX10) (N := 16) hx hb hts in_wsX10_init_X10 tyX10 tyX10_ok nmX10 hown hK hP hD hS q_156 hq_156 rfl 10 (by decide) (hts (.fieldLink RX10 44 "ShipOffice" "sea" "LShipOffice$Sea;") (by decide +kernel)) (fun _ h9 => h9) rfl hin rfl (by decide +kernel) rfl rfl (Nat.le_of_ble_eq_true rfl) dX10_init_61 (fun H locs hP1 hD1 hS => ?_)
  obtain ⟨S_157, eS_157⟩ : ∃ zq, zq = setP S_143 o 10 (some q_129) := ⟨_, rfl⟩
  have hP : va_P (dC, dI) vwCl (oW cq S_157) H := by rw [eS_157]; exact cP (oset t_155.1 hq_156 hD rfl (he_40_10 t_155.2) neP) hP1
  have hD : va_D A (oW cq S_157) := by rw [eS_157]; exact cD (oset t_155.1 hq_156 hD rfl (he_40_10 t_155.2) neP) hD1
  clear hP1 hD1
  have hIS_157 : oInv S_157 := by rw [eS_157]; exact oInv.P (k := 40) hIS_143 t_155.2 (by decide) rfl (by decide) hxS_143 (by decide)
  have XS_157 : oX S_143 S_157 := by rw [eS_157]; exact oX.P
  have pk_158 : oP S_157 o 1 = some q_1 := by rw [eS_157, setP_ne (by decide)]; exact pk_146
  have pk_159 : oP S_157 o 3 = some q_18 := by rw [eS_157, setP_ne (by decide)]; exact pk_147
  have pk_160 : oP S_157 o 5 = some q_37 := by rw [eS_157, setP_ne (by decide)]; exact pk_148
  have pk_161 : oP S_157 o 8 = some q_58 := by rw [eS_157, setP_ne (by decide)]; exact pk_149
  have pk_162 : oP S_157 o 9 = some q_92 := by rw [eS_157, setP_ne (by decide)]; exact pk_150
  have ik_163 : oI S_157 o 0 = 0 := by rw [eS_157]; exact ik_151
  have ik_164 : oI S_157 o 2 = 0 := by rw [eS_157]; exact ik_152
  have ik_165 : oI S_157 o 4 = 0 := by rw [eS_157]; exact ik_153
  have ik_166 : oI S_157 o 6 = 0 := by rw [eS_157]; exact ik_154
  have X_167 : oX Z S_157 := oX.tr X_145 XS_157
  have pk_168 : oP S_157 o 10 = some q_129 := by rw [eS_157, setP_same]
  refine lv_aload_n hx hb dX10_init_64 rfl (lv_at hl 0 rfl) ?_
  refine va_new (ci := 4) (fs := [.null, .null, .int 0, .null, .int 0, .int 0]) (C := RX4) (T := TX4) (N := 6) hx hb hts in_wsX10_init_X4 tyX4 tyX4_ok hown (hts (.classLink RX10 48 RX4) (by decide +kernel)) (hts (.instantiable RX4 6) (by decide +kernel)) (hts (.initialized RX4) (by decide +kernel)) hK hP hD hS hA rfl (fun j hj => by rcases (show j = 0 ∨ j = 1 ∨ j = 2 ∨ j = 3 ∨ j = 4 ∨ j = 5 by omega) with rfl | rfl | rfl | rfl | rfl | rfl <;> rfl) (Nat.le_of_ble_eq_true rfl) (Nat.le_of_ble_eq_true rfl) dX10_init_65 (fun q_169 H hP1 hD1 hS => ?_)
  have hnq_169 := add_q hD1
  obtain ⟨S_170, eS_170⟩ : ∃ zq, zq = addO S_157 q_169 34 := ⟨_, rfl⟩
  have hP : va_P (dC, dI) vwCl (oW cq S_170) H := by rw [eS_170]; exact cP (onew hD1 (by rw [oE_34 add_K, add_I, add_P]; rfl)) hP1
  have hD : va_D A (oW cq S_170) := by rw [eS_170]; exact cD (onew hD1 (by rw [oE_34 add_K, add_I, add_P]; rfl)) hD1
  clear hP1 hD1
  have hIS_170 : oInv S_170 := by rw [eS_170]; exact oInv.add hIS_157 hnq_169 (by decide)
  have XS_170 : oX S_157 S_170 := by rw [eS_170]; exact oX.add hnq_169
  have pk_171 : oP S_170 o 1 = some q_1 := by rw [eS_170, add_Pn hnq_169 (oX.ty XS_157 t_155).1]; exact pk_158
  have pk_172 : oP S_170 o 3 = some q_18 := by rw [eS_170, add_Pn hnq_169 (oX.ty XS_157 t_155).1]; exact pk_159
  have pk_173 : oP S_170 o 5 = some q_37 := by rw [eS_170, add_Pn hnq_169 (oX.ty XS_157 t_155).1]; exact pk_160
  have pk_174 : oP S_170 o 8 = some q_58 := by rw [eS_170, add_Pn hnq_169 (oX.ty XS_157 t_155).1]; exact pk_161
  have pk_175 : oP S_170 o 9 = some q_92 := by rw [eS_170, add_Pn hnq_169 (oX.ty XS_157 t_155).1]; exact pk_162
  have pk_176 : oP S_170 o 10 = some q_129 := by rw [eS_170, add_Pn hnq_169 (oX.ty XS_157 t_155).1]; exact pk_168
  have ik_177 : oI S_170 o 0 = 0 := by rw [eS_170, add_In hnq_169 (oX.ty XS_157 t_155).1]; exact ik_163
  have ik_178 : oI S_170 o 2 = 0 := by rw [eS_170, add_In hnq_169 (oX.ty XS_157 t_155).1]; exact ik_164
  have ik_179 : oI S_170 o 4 = 0 := by rw [eS_170, add_In hnq_169 (oX.ty XS_157 t_155).1]; exact ik_165
  have ik_180 : oI S_170 o 6 = 0 := by rw [eS_170, add_In hnq_169 (oX.ty XS_157 t_155).1]; exact ik_166
  have X_181 : oX Z S_170 := oX.tr X_167 XS_170
  have tq_169 : oty S_170 q_169 34 := by rw [eS_170]; exact add_ty
  refine W.widen (k := 33) (n := 777) (Nat.le_of_ble_eq_true rfl) (Nat.le_of_ble_eq_true rfl) ?_
  refine lv_dup hx hb dX10_init_68 rfl ?_
  have hFc := o_free hD hS hA
  refine va_callv (va_runI (As := []) (rest := [.ref q_169, .ref o]) ⟨hx, hb, hml, hown, hts⟩ (c_X4_init l dC dI H.size cq S_170 hIS_170 q_169 tq_169) (cwI 0 hts gX10_init_X4_init rfl rfl rfl (hts (.initialized RX4) (by decide +kernel)) (hts (.methodLink RX10 50 yX4_init) (by decide +kernel)) (hts (.instanceMethod yX4_init) (by decide +kernel)) rfl (by decide +kernel) ⟨(Nat.le_of_ble_eq_true rfl), (Nat.le_of_ble_eq_true rfl)⟩) (pr_S hP hK hD) rfl rfl hl.1 rfl (lv_room (Nat.le_of_ble_eq_true rfl)) dX10_init_69 ⟨(Nat.le_of_ble_eq_true rfl), (Nat.le_of_ble_eq_true rfl)⟩) hS (fun q _ h => hFc q h) hFc (fun u t H locs ht hvm w_182 hB hz1 hk1 hS => ?_)
  obtain ⟨S_184, rfl⟩ : ∃ z, z = u := ⟨_, rfl⟩
  obtain ⟨hP1, hK1, hD1⟩ := hB
  rw [ht] at hP1
  have hP : va_P (dC, dI) vwCl (oW cq S_184) H := hP1
  have hD : va_D A (oW cq S_184) := hD1.weaken (fun _ _ _ h => hFc _ h)
  clear hP1 hK1 hD1 hk1 hz1 hvm ht hFc
  refine W.widen (k := 36) (n := 874) (Nat.le_of_ble_eq_true rfl) (Nat.le_of_ble_eq_true rfl) ?_
  obtain ⟨hIS_184, XS_184, hx_185⟩ := w_182
  obtain ⟨hxS_184, FS_184⟩ := hx_185
  have X_186 : oX Z S_184 := oX.c X_181 XS_184 (oX.nin X_167 hnq_169)
  have pk_187 : oP S_184 o 1 = some q_1 := by rw [(FS_184 o (oX.ty XS_170 (oX.ty XS_157 t_155)).1 (ty_ne (oX.ty XS_170 (oX.ty XS_157 t_155)) tq_169 (by decide))).2]; exact pk_171
  have pk_188 : oP S_184 o 3 = some q_18 := by rw [(FS_184 o (oX.ty XS_170 (oX.ty XS_157 t_155)).1 (ty_ne (oX.ty XS_170 (oX.ty XS_157 t_155)) tq_169 (by decide))).2]; exact pk_172
  have pk_189 : oP S_184 o 5 = some q_37 := by rw [(FS_184 o (oX.ty XS_170 (oX.ty XS_157 t_155)).1 (ty_ne (oX.ty XS_170 (oX.ty XS_157 t_155)) tq_169 (by decide))).2]; exact pk_173
  have pk_190 : oP S_184 o 8 = some q_58 := by rw [(FS_184 o (oX.ty XS_170 (oX.ty XS_157 t_155)).1 (ty_ne (oX.ty XS_170 (oX.ty XS_157 t_155)) tq_169 (by decide))).2]; exact pk_174
  have pk_191 : oP S_184 o 9 = some q_92 := by rw [(FS_184 o (oX.ty XS_170 (oX.ty XS_157 t_155)).1 (ty_ne (oX.ty XS_170 (oX.ty XS_157 t_155)) tq_169 (by decide))).2]; exact pk_175
  have pk_192 : oP S_184 o 10 = some q_129 := by rw [(FS_184 o (oX.ty XS_170 (oX.ty XS_157 t_155)).1 (ty_ne (oX.ty XS_170 (oX.ty XS_157 t_155)) tq_169 (by decide))).2]; exact pk_176
  have ik_193 : oI S_184 o 0 = 0 := by rw [(FS_184 o (oX.ty XS_170 (oX.ty XS_157 t_155)).1 (ty_ne (oX.ty XS_170 (oX.ty XS_157 t_155)) tq_169 (by decide))).1 (by rw [(oX.ty XS_170 (oX.ty XS_157 t_155)).2]; decide)]; exact ik_177
  have ik_194 : oI S_184 o 2 = 0 := by rw [(FS_184 o (oX.ty XS_170 (oX.ty XS_157 t_155)).1 (ty_ne (oX.ty XS_170 (oX.ty XS_157 t_155)) tq_169 (by decide))).1 (by rw [(oX.ty XS_170 (oX.ty XS_157 t_155)).2]; decide)]; exact ik_178
  have ik_195 : oI S_184 o 4 = 0 := by rw [(FS_184 o (oX.ty XS_170 (oX.ty XS_157 t_155)).1 (ty_ne (oX.ty XS_170 (oX.ty XS_157 t_155)) tq_169 (by decide))).1 (by rw [(oX.ty XS_170 (oX.ty XS_157 t_155)).2]; decide)]; exact ik_179
  have ik_196 : oI S_184 o 6 = 0 := by rw [(FS_184 o (oX.ty XS_170 (oX.ty XS_157 t_155)).1 (ty_ne (oX.ty XS_170 (oX.ty XS_157 t_155)) tq_169 (by decide))).1 (by rw [(oX.ty XS_170 (oX.ty XS_157 t_155)).2]; decide)]; exact ik_180
  have t_197 : oty S_184 o 40 := (oXc.ty XS_184 (ty_ne (oX.ty XS_170 (oX.ty XS_157 t_155)) tq_169 (by decide)) (oX.ty XS_170 (oX.ty XS_157 t_155)))
  obtain ⟨q_198, hq_198⟩ := og (cq := cq) t_197.1 (oE_40 t_197.2)
  refine va_putF (D := (dC, dI)) (ci := 10) (v := .ref q_169) (ty := .object "ShipOffice$Hiring") (C := RX10) (T := TX10) (N := 16) hx hb hts in_wsX10_init_X10 tyX10 tyX10_ok nmX10 hown hK hP hD hS q_198 hq_198 rfl 11 (by decide) (hts (.fieldLink RX10 51 "ShipOffice" "hiring" "LShipOffice$Hiring;") (by decide +kernel)) (fun _ h9 => h9) rfl hin rfl (by decide +kernel) rfl rfl (Nat.le_of_ble_eq_true rfl) dX10_init_72 (fun H locs hP1 hD1 hS => ?_)
  obtain ⟨S_199, eS_199⟩ : ∃ zq, zq = setP S_184 o 11 (some q_169) := ⟨_, rfl⟩
  have hP : va_P (dC, dI) vwCl (oW cq S_199) H := by rw [eS_199]; exact cP (oset t_197.1 hq_198 hD rfl (he_40_11 t_197.2) neP) hP1
  have hD : va_D A (oW cq S_199) := by rw [eS_199]; exact cD (oset t_197.1 hq_198 hD rfl (he_40_11 t_197.2) neP) hD1
  clear hP1 hD1
  have hIS_199 : oInv S_199 := by rw [eS_199]; exact oInv.P (k := 40) hIS_184 t_197.2 (by decide) rfl (by decide) hxS_184 (by decide)
  have XS_199 : oX S_184 S_199 := by rw [eS_199]; exact oX.P
  have pk_200 : oP S_199 o 1 = some q_1 := by rw [eS_199, setP_ne (by decide)]; exact pk_187
  have pk_201 : oP S_199 o 3 = some q_18 := by rw [eS_199, setP_ne (by decide)]; exact pk_188
  have pk_202 : oP S_199 o 5 = some q_37 := by rw [eS_199, setP_ne (by decide)]; exact pk_189
  have pk_203 : oP S_199 o 8 = some q_58 := by rw [eS_199, setP_ne (by decide)]; exact pk_190
  have pk_204 : oP S_199 o 9 = some q_92 := by rw [eS_199, setP_ne (by decide)]; exact pk_191
  have pk_205 : oP S_199 o 10 = some q_129 := by rw [eS_199, setP_ne (by decide)]; exact pk_192
  have ik_206 : oI S_199 o 0 = 0 := by rw [eS_199]; exact ik_193
  have ik_207 : oI S_199 o 2 = 0 := by rw [eS_199]; exact ik_194
  have ik_208 : oI S_199 o 4 = 0 := by rw [eS_199]; exact ik_195
  have ik_209 : oI S_199 o 6 = 0 := by rw [eS_199]; exact ik_196
  have X_210 : oX Z S_199 := oX.tr X_186 XS_199
  have pk_211 : oP S_199 o 11 = some q_169 := by rw [eS_199, setP_same]
  refine lv_aload_n hx hb dX10_init_75 rfl (lv_at hl 0 rfl) ?_
  refine va_gets hx hb hZ.1.1 hS hown (hts (.fieldLink RX10 55 "ShipOffice" "LETTERS" "[C") (by decide +kernel)) (fun _ h9 => h9) dX10_init_76 ?_
  refine va_tlen (v := 8) hx hb hZ.1.2.1 hS rfl dX10_init_79 ?_
  refine va_newa (atype := .int) (ty := .int) (a0 := (8, .inl (fun _ => 0))) hx hb (hts (.arrayClass .int) (by decide +kernel)) rfl hK hP hD hS hA (fun _ => rfl) (by decide) (by decide) (by decide) (Nat.le_of_ble_eq_true rfl) (Nat.le_of_ble_eq_true rfl) dX10_init_80 (fun q_212 k_213 H hK1 hP1 hD1 hS => ?_)
  obtain ⟨rfl, -⟩ := lv_ad (k := 0) hK1 rfl
  clear hK1
  have hnq_212 := add_q hD1
  obtain ⟨S_214, eS_214⟩ : ∃ zq, zq = addO S_199 q_212 108 := ⟨_, rfl⟩
  have hP : va_P (dC, dI) vwCl (oW cq S_214) H := by rw [eS_214]; exact cP (onew hD1 (by rw [oE_ar (n := 8) add_K, add_I])) hP1
  have hD : va_D A (oW cq S_214) := by rw [eS_214]; exact cD (onew hD1 (by rw [oE_ar (n := 8) add_K, add_I])) hD1
  clear hP1 hD1
  have hIS_214 : oInv S_214 := by rw [eS_214]; exact oInv.add hIS_199 hnq_212 (by decide)
  have XS_214 : oX S_199 S_214 := by rw [eS_214]; exact oX.add hnq_212
  have pk_215 : oP S_214 o 1 = some q_1 := by rw [eS_214, add_Pn hnq_212 (oX.ty XS_199 t_197).1]; exact pk_200
  have pk_216 : oP S_214 o 3 = some q_18 := by rw [eS_214, add_Pn hnq_212 (oX.ty XS_199 t_197).1]; exact pk_201
  have pk_217 : oP S_214 o 5 = some q_37 := by rw [eS_214, add_Pn hnq_212 (oX.ty XS_199 t_197).1]; exact pk_202
  have pk_218 : oP S_214 o 8 = some q_58 := by rw [eS_214, add_Pn hnq_212 (oX.ty XS_199 t_197).1]; exact pk_203
  have pk_219 : oP S_214 o 9 = some q_92 := by rw [eS_214, add_Pn hnq_212 (oX.ty XS_199 t_197).1]; exact pk_204
  have pk_220 : oP S_214 o 10 = some q_129 := by rw [eS_214, add_Pn hnq_212 (oX.ty XS_199 t_197).1]; exact pk_205
  have pk_221 : oP S_214 o 11 = some q_169 := by rw [eS_214, add_Pn hnq_212 (oX.ty XS_199 t_197).1]; exact pk_211
  have ik_222 : oI S_214 o 0 = 0 := by rw [eS_214, add_In hnq_212 (oX.ty XS_199 t_197).1]; exact ik_206
  have ik_223 : oI S_214 o 2 = 0 := by rw [eS_214, add_In hnq_212 (oX.ty XS_199 t_197).1]; exact ik_207
  have ik_224 : oI S_214 o 4 = 0 := by rw [eS_214, add_In hnq_212 (oX.ty XS_199 t_197).1]; exact ik_208
  have ik_225 : oI S_214 o 6 = 0 := by rw [eS_214, add_In hnq_212 (oX.ty XS_199 t_197).1]; exact ik_209
  have X_226 : oX Z S_214 := oX.tr X_210 XS_214
  have tq_212 : oty S_214 q_212 108 := by rw [eS_214]; exact add_ty
  refine W.widen (k := 37) (n := 882) (Nat.le_of_ble_eq_true rfl) (Nat.le_of_ble_eq_true rfl) ?_
  have t_227 : oty S_214 o 40 := (oX.ty XS_214 (oX.ty XS_199 t_197))
  obtain ⟨q_228, hq_228⟩ := og (cq := cq) t_227.1 (oE_40 t_227.2)
  refine va_putF (D := (dC, dI)) (ci := 10) (v := .ref q_212) (ty := .array .int) (C := RX10) (T := TX10) (N := 16) hx hb hts in_wsX10_init_X10 tyX10 tyX10_ok nmX10 hown hK hP hD hS q_228 hq_228 rfl 12 (by decide) (hts (.fieldLink RX10 59 "ShipOffice" "letters" "[I") (by decide +kernel)) (fun _ h9 => h9) rfl hin rfl (by decide +kernel) rfl rfl (Nat.le_of_ble_eq_true rfl) dX10_init_82 (fun H locs hP1 hD1 hS => ?_)
  obtain ⟨S_229, eS_229⟩ : ∃ zq, zq = setP S_214 o 12 (some q_212) := ⟨_, rfl⟩
  have hP : va_P (dC, dI) vwCl (oW cq S_229) H := by rw [eS_229]; exact cP (oset t_227.1 hq_228 hD rfl (he_40_12 t_227.2) neP) hP1
  have hD : va_D A (oW cq S_229) := by rw [eS_229]; exact cD (oset t_227.1 hq_228 hD rfl (he_40_12 t_227.2) neP) hD1
  clear hP1 hD1
  have hIS_229 : oInv S_229 := by rw [eS_229]; exact oInv.P (k := 40) hIS_214 t_227.2 (by decide) rfl (by decide) tq_212 (by decide)
  have XS_229 : oX S_214 S_229 := by rw [eS_229]; exact oX.P
  have pk_230 : oP S_229 o 1 = some q_1 := by rw [eS_229, setP_ne (by decide)]; exact pk_215
  have pk_231 : oP S_229 o 3 = some q_18 := by rw [eS_229, setP_ne (by decide)]; exact pk_216
  have pk_232 : oP S_229 o 5 = some q_37 := by rw [eS_229, setP_ne (by decide)]; exact pk_217
  have pk_233 : oP S_229 o 8 = some q_58 := by rw [eS_229, setP_ne (by decide)]; exact pk_218
  have pk_234 : oP S_229 o 9 = some q_92 := by rw [eS_229, setP_ne (by decide)]; exact pk_219
  have pk_235 : oP S_229 o 10 = some q_129 := by rw [eS_229, setP_ne (by decide)]; exact pk_220
  have pk_236 : oP S_229 o 11 = some q_169 := by rw [eS_229, setP_ne (by decide)]; exact pk_221
  have ik_237 : oI S_229 o 0 = 0 := by rw [eS_229]; exact ik_222
  have ik_238 : oI S_229 o 2 = 0 := by rw [eS_229]; exact ik_223
  have ik_239 : oI S_229 o 4 = 0 := by rw [eS_229]; exact ik_224
  have ik_240 : oI S_229 o 6 = 0 := by rw [eS_229]; exact ik_225
  have X_241 : oX Z S_229 := oX.tr X_226 XS_229
  have pk_242 : oP S_229 o 12 = some q_212 := by rw [eS_229, setP_same]
  refine lv_aload_n hx hb dX10_init_85 rfl (lv_at hl 0 rfl) ?_
  refine lv_bipush (v := 12) hx hb dX10_init_86 (by decide) ?_
  refine va_newa (atype := .int) (ty := .int) (a0 := (12, .inl (fun _ => 0))) hx hb (hts (.arrayClass .int) (by decide +kernel)) rfl hK hP hD hS hA (fun _ => rfl) (by decide) (by decide) (by decide) (Nat.le_of_ble_eq_true rfl) (Nat.le_of_ble_eq_true rfl) dX10_init_88 (fun q_243 k_244 H hK1 hP1 hD1 hS => ?_)
  obtain ⟨rfl, -⟩ := lv_ad (k := 0) hK1 rfl
  clear hK1
  have hnq_243 := add_q hD1
  obtain ⟨S_245, eS_245⟩ : ∃ zq, zq = addO S_229 q_243 112 := ⟨_, rfl⟩
  have hP : va_P (dC, dI) vwCl (oW cq S_245) H := by rw [eS_245]; exact cP (onew hD1 (by rw [oE_ar (n := 12) add_K, add_I])) hP1
  have hD : va_D A (oW cq S_245) := by rw [eS_245]; exact cD (onew hD1 (by rw [oE_ar (n := 12) add_K, add_I])) hD1
  clear hP1 hD1
  have hIS_245 : oInv S_245 := by rw [eS_245]; exact oInv.add hIS_229 hnq_243 (by decide)
  have XS_245 : oX S_229 S_245 := by rw [eS_245]; exact oX.add hnq_243
  have pk_246 : oP S_245 o 1 = some q_1 := by rw [eS_245, add_Pn hnq_243 (oX.ty XS_229 t_227).1]; exact pk_230
  have pk_247 : oP S_245 o 3 = some q_18 := by rw [eS_245, add_Pn hnq_243 (oX.ty XS_229 t_227).1]; exact pk_231
  have pk_248 : oP S_245 o 5 = some q_37 := by rw [eS_245, add_Pn hnq_243 (oX.ty XS_229 t_227).1]; exact pk_232
  have pk_249 : oP S_245 o 8 = some q_58 := by rw [eS_245, add_Pn hnq_243 (oX.ty XS_229 t_227).1]; exact pk_233
  have pk_250 : oP S_245 o 9 = some q_92 := by rw [eS_245, add_Pn hnq_243 (oX.ty XS_229 t_227).1]; exact pk_234
  have pk_251 : oP S_245 o 10 = some q_129 := by rw [eS_245, add_Pn hnq_243 (oX.ty XS_229 t_227).1]; exact pk_235
  have pk_252 : oP S_245 o 11 = some q_169 := by rw [eS_245, add_Pn hnq_243 (oX.ty XS_229 t_227).1]; exact pk_236
  have pk_253 : oP S_245 o 12 = some q_212 := by rw [eS_245, add_Pn hnq_243 (oX.ty XS_229 t_227).1]; exact pk_242
  have ik_254 : oI S_245 o 0 = 0 := by rw [eS_245, add_In hnq_243 (oX.ty XS_229 t_227).1]; exact ik_237
  have ik_255 : oI S_245 o 2 = 0 := by rw [eS_245, add_In hnq_243 (oX.ty XS_229 t_227).1]; exact ik_238
  have ik_256 : oI S_245 o 4 = 0 := by rw [eS_245, add_In hnq_243 (oX.ty XS_229 t_227).1]; exact ik_239
  have ik_257 : oI S_245 o 6 = 0 := by rw [eS_245, add_In hnq_243 (oX.ty XS_229 t_227).1]; exact ik_240
  have X_258 : oX Z S_245 := oX.tr X_241 XS_245
  have tq_243 : oty S_245 q_243 112 := by rw [eS_245]; exact add_ty
  refine W.widen (k := 38) (n := 894) (Nat.le_of_ble_eq_true rfl) (Nat.le_of_ble_eq_true rfl) ?_
  have t_259 : oty S_245 o 40 := (oX.ty XS_245 (oX.ty XS_229 t_227))
  obtain ⟨q_260, hq_260⟩ := og (cq := cq) t_259.1 (oE_40 t_259.2)
  refine va_putF (D := (dC, dI)) (ci := 10) (v := .ref q_243) (ty := .array .int) (C := RX10) (T := TX10) (N := 16) hx hb hts in_wsX10_init_X10 tyX10 tyX10_ok nmX10 hown hK hP hD hS q_260 hq_260 rfl 13 (by decide) (hts (.fieldLink RX10 63 "ShipOffice" "row" "[I") (by decide +kernel)) (fun _ h9 => h9) rfl hin rfl (by decide +kernel) rfl rfl (Nat.le_of_ble_eq_true rfl) dX10_init_90 (fun H locs hP1 hD1 hS => ?_)
  obtain ⟨S_261, eS_261⟩ : ∃ zq, zq = setP S_245 o 13 (some q_243) := ⟨_, rfl⟩
  have hP : va_P (dC, dI) vwCl (oW cq S_261) H := by rw [eS_261]; exact cP (oset t_259.1 hq_260 hD rfl (he_40_13 t_259.2) neP) hP1
  have hD : va_D A (oW cq S_261) := by rw [eS_261]; exact cD (oset t_259.1 hq_260 hD rfl (he_40_13 t_259.2) neP) hD1
  clear hP1 hD1
  have hIS_261 : oInv S_261 := by rw [eS_261]; exact oInv.P (k := 40) hIS_245 t_259.2 (by decide) rfl (by decide) tq_243 (by decide)
  have XS_261 : oX S_245 S_261 := by rw [eS_261]; exact oX.P
  have pk_262 : oP S_261 o 1 = some q_1 := by rw [eS_261, setP_ne (by decide)]; exact pk_246
  have pk_263 : oP S_261 o 3 = some q_18 := by rw [eS_261, setP_ne (by decide)]; exact pk_247
  have pk_264 : oP S_261 o 5 = some q_37 := by rw [eS_261, setP_ne (by decide)]; exact pk_248
  have pk_265 : oP S_261 o 8 = some q_58 := by rw [eS_261, setP_ne (by decide)]; exact pk_249
  have pk_266 : oP S_261 o 9 = some q_92 := by rw [eS_261, setP_ne (by decide)]; exact pk_250
  have pk_267 : oP S_261 o 10 = some q_129 := by rw [eS_261, setP_ne (by decide)]; exact pk_251
  have pk_268 : oP S_261 o 11 = some q_169 := by rw [eS_261, setP_ne (by decide)]; exact pk_252
  have pk_269 : oP S_261 o 12 = some q_212 := by rw [eS_261, setP_ne (by decide)]; exact pk_253
  have ik_270 : oI S_261 o 0 = 0 := by rw [eS_261]; exact ik_254
  have ik_271 : oI S_261 o 2 = 0 := by rw [eS_261]; exact ik_255
  have ik_272 : oI S_261 o 4 = 0 := by rw [eS_261]; exact ik_256
  have ik_273 : oI S_261 o 6 = 0 := by rw [eS_261]; exact ik_257
  have X_274 : oX Z S_261 := oX.tr X_258 XS_261
  have pk_275 : oP S_261 o 13 = some q_243 := by rw [eS_261, setP_same]
  refine lv_aload_n hx hb dX10_init_93 rfl (lv_at hl 0 rfl) ?_
  refine lv_bipush (v := 7) hx hb dX10_init_94 (by decide) ?_
  refine va_newa (atype := .int) (ty := .int) (a0 := (7, .inl (fun _ => 0))) hx hb (hts (.arrayClass .int) (by decide +kernel)) rfl hK hP hD hS hA (fun _ => rfl) (by decide) (by decide) (by decide) (Nat.le_of_ble_eq_true rfl) (Nat.le_of_ble_eq_true rfl) dX10_init_96 (fun q_276 k_277 H hK1 hP1 hD1 hS => ?_)
  obtain ⟨rfl, -⟩ := lv_ad (k := 0) hK1 rfl
  clear hK1
  have hnq_276 := add_q hD1
  obtain ⟨S_278, eS_278⟩ : ∃ zq, zq = addO S_261 q_276 107 := ⟨_, rfl⟩
  have hP : va_P (dC, dI) vwCl (oW cq S_278) H := by rw [eS_278]; exact cP (onew hD1 (by rw [oE_ar (n := 7) add_K, add_I])) hP1
  have hD : va_D A (oW cq S_278) := by rw [eS_278]; exact cD (onew hD1 (by rw [oE_ar (n := 7) add_K, add_I])) hD1
  clear hP1 hD1
  have hIS_278 : oInv S_278 := by rw [eS_278]; exact oInv.add hIS_261 hnq_276 (by decide)
  have XS_278 : oX S_261 S_278 := by rw [eS_278]; exact oX.add hnq_276
  have pk_279 : oP S_278 o 1 = some q_1 := by rw [eS_278, add_Pn hnq_276 (oX.ty XS_261 t_259).1]; exact pk_262
  have pk_280 : oP S_278 o 3 = some q_18 := by rw [eS_278, add_Pn hnq_276 (oX.ty XS_261 t_259).1]; exact pk_263
  have pk_281 : oP S_278 o 5 = some q_37 := by rw [eS_278, add_Pn hnq_276 (oX.ty XS_261 t_259).1]; exact pk_264
  have pk_282 : oP S_278 o 8 = some q_58 := by rw [eS_278, add_Pn hnq_276 (oX.ty XS_261 t_259).1]; exact pk_265
  have pk_283 : oP S_278 o 9 = some q_92 := by rw [eS_278, add_Pn hnq_276 (oX.ty XS_261 t_259).1]; exact pk_266
  have pk_284 : oP S_278 o 10 = some q_129 := by rw [eS_278, add_Pn hnq_276 (oX.ty XS_261 t_259).1]; exact pk_267
  have pk_285 : oP S_278 o 11 = some q_169 := by rw [eS_278, add_Pn hnq_276 (oX.ty XS_261 t_259).1]; exact pk_268
  have pk_286 : oP S_278 o 12 = some q_212 := by rw [eS_278, add_Pn hnq_276 (oX.ty XS_261 t_259).1]; exact pk_269
  have pk_287 : oP S_278 o 13 = some q_243 := by rw [eS_278, add_Pn hnq_276 (oX.ty XS_261 t_259).1]; exact pk_275
  have ik_288 : oI S_278 o 0 = 0 := by rw [eS_278, add_In hnq_276 (oX.ty XS_261 t_259).1]; exact ik_270
  have ik_289 : oI S_278 o 2 = 0 := by rw [eS_278, add_In hnq_276 (oX.ty XS_261 t_259).1]; exact ik_271
  have ik_290 : oI S_278 o 4 = 0 := by rw [eS_278, add_In hnq_276 (oX.ty XS_261 t_259).1]; exact ik_272
  have ik_291 : oI S_278 o 6 = 0 := by rw [eS_278, add_In hnq_276 (oX.ty XS_261 t_259).1]; exact ik_273
  have X_292 : oX Z S_278 := oX.tr X_274 XS_278
  have tq_276 : oty S_278 q_276 107 := by rw [eS_278]; exact add_ty
  refine W.widen (k := 39) (n := 901) (Nat.le_of_ble_eq_true rfl) (Nat.le_of_ble_eq_true rfl) ?_
  have t_293 : oty S_278 o 40 := (oX.ty XS_278 (oX.ty XS_261 t_259))
  obtain ⟨q_294, hq_294⟩ := og (cq := cq) t_293.1 (oE_40 t_293.2)
  refine va_putF (D := (dC, dI)) (ci := 10) (v := .ref q_276) (ty := .array .int) (C := RX10) (T := TX10) (N := 16) hx hb hts in_wsX10_init_X10 tyX10 tyX10_ok nmX10 hown hK hP hD hS q_294 hq_294 rfl 15 (by decide) (hts (.fieldLink RX10 66 "ShipOffice" "refusals" "[I") (by decide +kernel)) (fun _ h9 => h9) rfl hin rfl (by decide +kernel) rfl rfl (Nat.le_of_ble_eq_true rfl) dX10_init_98 (fun H locs hP1 hD1 hS => ?_)
  obtain ⟨S_295, eS_295⟩ : ∃ zq, zq = setP S_278 o 15 (some q_276) := ⟨_, rfl⟩
  have hP : va_P (dC, dI) vwCl (oW cq S_295) H := by rw [eS_295]; exact cP (oset t_293.1 hq_294 hD rfl (he_40_15 t_293.2) neP) hP1
  have hD : va_D A (oW cq S_295) := by rw [eS_295]; exact cD (oset t_293.1 hq_294 hD rfl (he_40_15 t_293.2) neP) hD1
  clear hP1 hD1
  have hIS_295 : oInv S_295 := by rw [eS_295]; exact oInv.P (k := 40) hIS_278 t_293.2 (by decide) rfl (by decide) tq_276 (by decide)
  have XS_295 : oX S_278 S_295 := by rw [eS_295]; exact oX.P
  have pk_296 : oP S_295 o 1 = some q_1 := by rw [eS_295, setP_ne (by decide)]; exact pk_279
  have pk_297 : oP S_295 o 3 = some q_18 := by rw [eS_295, setP_ne (by decide)]; exact pk_280
  have pk_298 : oP S_295 o 5 = some q_37 := by rw [eS_295, setP_ne (by decide)]; exact pk_281
  have pk_299 : oP S_295 o 8 = some q_58 := by rw [eS_295, setP_ne (by decide)]; exact pk_282
  have pk_300 : oP S_295 o 9 = some q_92 := by rw [eS_295, setP_ne (by decide)]; exact pk_283
  have pk_301 : oP S_295 o 10 = some q_129 := by rw [eS_295, setP_ne (by decide)]; exact pk_284
  have pk_302 : oP S_295 o 11 = some q_169 := by rw [eS_295, setP_ne (by decide)]; exact pk_285
  have pk_303 : oP S_295 o 12 = some q_212 := by rw [eS_295, setP_ne (by decide)]; exact pk_286
  have pk_304 : oP S_295 o 13 = some q_243 := by rw [eS_295, setP_ne (by decide)]; exact pk_287
  have ik_305 : oI S_295 o 0 = 0 := by rw [eS_295]; exact ik_288
  have ik_306 : oI S_295 o 2 = 0 := by rw [eS_295]; exact ik_289
  have ik_307 : oI S_295 o 4 = 0 := by rw [eS_295]; exact ik_290
  have ik_308 : oI S_295 o 6 = 0 := by rw [eS_295]; exact ik_291
  have X_309 : oX Z S_295 := oX.tr X_292 XS_295
  have pk_310 : oP S_295 o 15 = some q_276 := by rw [eS_295, setP_same]
  have t_312 : oty S_295 o 40 := (oX.ty XS_295 t_293)
  obtain ⟨S_311, eS_311⟩ : ∃ zq, zq = setK S_295 o 10 := ⟨_, rfl⟩
  have hP : va_P (dC, dI) vwCl (oW cq S_311) H := by rw [eS_311]; exact cP (ret_W (c := 10) t_312.2 (by decide)) hP
  have hD : va_D A (oW cq S_311) := by rw [eS_311]; exact cD (ret_W (c := 10) t_312.2 (by decide)) hD
  have hIS_311 : oInv S_311 := by rw [eS_311]; exact oInv.ret (c := 10) hIS_295 t_312 (by decide) (fun i hi => by rcases nn_10 hi with rfl | rfl | rfl | rfl | rfl | rfl | rfl | rfl | rfl | rfl <;> first | exact ⟨_, pk_296⟩ | exact ⟨_, pk_297⟩ | exact ⟨_, pk_298⟩ | exact ⟨_, pk_299⟩ | exact ⟨_, pk_300⟩ | exact ⟨_, pk_301⟩ | exact ⟨_, pk_302⟩ | exact ⟨_, pk_303⟩ | exact ⟨_, pk_304⟩ | exact ⟨_, pk_310⟩) (fun i p hp => by rcases ct_10 hp with rfl | rfl | rfl <;> first | (rw [ik_305]; decide) | (rw [ik_306]; decide) | (rw [ik_307]; decide) | (rw [ik_308]; decide)) (fun h => absurd h (by decide)) (fun h => absurd h (by decide)) (fun h => absurd h (by decide))
  have XS_311 : oXc o Z S_311 := by rw [eS_311]; exact oXc.ret X_309
  have tS_311 : oty S_311 o 10 := by rw [eS_311]; exact K_ty t_312.1
  have n0S_311 : oI S_311 o 0 = 0 := by rw [eS_311]; exact ik_305
  exact W.vret hx hb hr (fun t ht hW => ⟨⟨S_311, rfl, ⟨hIS_311, XS_311, ⟨tS_311, n0S_311⟩⟩, ⟨by rw [ht]; exact hP, va_K.moved hW.alike hK, hD⟩⟩, hS.F ht⟩) hS.2.2 dX10_init_101
