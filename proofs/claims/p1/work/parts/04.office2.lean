def tyX6 : Nat → FieldType := fun k => match k with
  | 0 => .int
  | 1 => .int
  | 2 => .int
  | 3 => .int
  | 4 => .array .int
  | _ => .int
theorem nmX6 : ∀ a, a < 6 → ∀ b, b < 6 → a ≠ b → (TX6 a).2.1 ≠ (TX6 b).2.1 := by decide +kernel
theorem tyX6_ok : ∀ k, k < 6 → parseFieldDescriptor (TX6 k).2.2.1 = some (tyX6 k) := by decide +kernel
abbrev cX6_init : ByteArray := prog_8_method_1_code
def yX6_init : MethodName := ⟨RX6, "<init>", "(IIII)V"⟩
abbrev cX6_isAlike : ByteArray := prog_8_method_4_code
def yX6_isAlike : MethodName := ⟨RX6, "isAlike", "(LShipOffice$Man;)Z"⟩
abbrev cX6_digitsApart : ByteArray := prog_8_method_5_code
def yX6_digitsApart : MethodName := ⟨RX6, "digitsApart", "(II)I"⟩
abbrev cX7_join : ByteArray := prog_9_method_2_code
def yX7_join : MethodName := ⟨RX7, "join", "(III)I"⟩
def tyX9 : Nat → FieldType := fun k => match k with
  | 0 => .int
  | 1 => .int
  | 2 => .int
  | 3 => .int
  | 4 => .boolean
  | 5 => .int
  | 6 => .int
  | 7 => .int
  | 8 => .int
  | _ => .object "ShipOffice$Happening"
theorem nmX9 : ∀ a, a < 10 → ∀ b, b < 10 → a ≠ b → (TX9 a).2.1 ≠ (TX9 b).2.1 := by decide +kernel
theorem tyX9_ok : ∀ k, k < 10 → parseFieldDescriptor (TX9 k).2.2.1 = some (tyX9 k) := by decide +kernel
abbrev cX9_init : ByteArray := prog_11_method_1_code
def yX9_init : MethodName := ⟨RX9, "<init>", "(IIII)V"⟩
def tyX10 : Nat → FieldType := fun k => match k with
  | 0 => .int
  | 1 => .array (.object "ShipOffice$Man")
  | 2 => .int
  | 3 => .array (.object "ShipOffice$Voyage")
  | 4 => .int
  | 5 => .array (.object "ShipOffice$Agreement")
  | 6 => .int
  | 7 => .int
  | 8 => .object "ShipOffice$Law"
  | 9 => .object "ShipOffice$Tape"
  | 10 => .object "ShipOffice$Sea"
  | 11 => .object "ShipOffice$Hiring"
  | 12 => .array .int
  | 13 => .array .int
  | 14 => .int
  | _ => .array .int
theorem nmX10 : ∀ a, a < 16 → ∀ b, b < 16 → a ≠ b → (TX10 a).2.1 ≠ (TX10 b).2.1 := by decide +kernel
theorem tyX10_ok : ∀ k, k < 16 → parseFieldDescriptor (TX10 k).2.2.1 = some (tyX10 k) := by decide +kernel
abbrev cX10_days : ByteArray := prog_1_method_2_code
def yX10_days : MethodName := ⟨RX10, "days", "(I)I"⟩
abbrev cX10_miles : ByteArray := prog_1_method_3_code
def yX10_miles : MethodName := ⟨RX10, "miles", "(III)I"⟩
abbrev cX10_man : ByteArray := prog_1_method_4_code
def yX10_man : MethodName := ⟨RX10, "man", "(III)I"⟩
abbrev cX10_voyage : ByteArray := prog_1_method_5_code
def yX10_voyage : MethodName := ⟨RX10, "voyage", "(II)I"⟩
abbrev cX10_put : ByteArray := prog_1_method_34_code
def yX10_put : MethodName := ⟨RX10, "put", "(I)I"⟩
abbrev cX10_joinGroups : ByteArray := prog_1_method_47_code
def yX10_joinGroups : MethodName := ⟨RX10, "joinGroups", "(LShipOffice$Man;)V"⟩
abbrev cX10_mergeGroups : ByteArray := prog_1_method_48_code
def yX10_mergeGroups : MethodName := ⟨RX10, "mergeGroups", "(II)V"⟩
abbrev cX10_hasVoyage : ByteArray := prog_1_method_49_code
def yX10_hasVoyage : MethodName := ⟨RX10, "hasVoyage", "(I)Z"⟩
def wsX6_init : List Cond := .code yX6_init cX6_init 5 none :: ([.methodLink RX6 3 objectInit, .instanceMethod objectInit, .code objectInit ⟨#[0xb1]⟩ 1 none, .arrayClass .int, .fieldLink RX6 9 "ShipOffice$Man" "wages" "[I", .fieldLink RX6 15 "ShipOffice$Man" "number" "I", .fieldLink RX6 19 "ShipOffice$Man" "name" "I", .fieldLink RX6 22 "ShipOffice$Man" "marks" "I", .fieldLink RX6 25 "ShipOffice$Man" "born" "I", .fieldLink RX6 28 "ShipOffice$Man" "leastAlike" "I"] ++ wsX60)
def wsX6_isAlike : List Cond := .code yX6_isAlike cX6_isAlike 2 (some .boolean) :: ([.fieldLink RX6 22 "ShipOffice$Man" "marks" "I", .fieldLink RX6 19 "ShipOffice$Man" "name" "I", .methodLink RX6 31 yX6_digitsApart, .static yX6_digitsApart, .initialized RX6, .code yX6_digitsApart cX6_digitsApart 6 (some .int)] ++ wsX60)
def wsX7_join : List Cond := .code yX7_join cX7_join 5 (some .int) :: ([.fieldLink RX7 9 "ShipOffice$Sea" "miles" "[I"] ++ wsX70)
def wsX9_init : List Cond := .code yX9_init cX9_init 5 none :: ([.methodLink RX9 3 objectInit, .instanceMethod objectInit, .code objectInit ⟨#[0xb1]⟩ 1 none, .constant RX9 9 (1000000), .fieldLink RX9 10 "ShipOffice$Voyage" "sailedDay" "I", .fieldLink RX9 16 "ShipOffice$Voyage" "sailedTold" "I", .fieldLink RX9 19 "ShipOffice$Voyage" "lostDay" "I", .fieldLink RX9 22 "ShipOffice$Voyage" "lostTold" "I", .fieldLink RX9 25 "ShipOffice$Voyage" "number" "I", .fieldLink RX9 28 "ShipOffice$Voyage" "ship" "I", .fieldLink RX9 31 "ShipOffice$Voyage" "port" "I", .fieldLink RX9 34 "ShipOffice$Voyage" "openedOn" "I"] ++ wsX90)
def wsX10_days : List Cond := .code yX10_days cX10_days 2 (some .int) :: ([.fieldLink RX10 73 "ShipOffice" "now" "I", .methodLink RX10 69 yX10_refuse, .instanceMethod yX10_refuse, .selects RX10 yX10_refuse yX10_refuse, .initialized RX10, .code yX10_refuse cX10_refuse 2 (some .int), .fieldLink RX10 66 "ShipOffice" "refusals" "[I"] ++ wsX100)
def wsX10_isPort : List Cond := .code yX10_isPort cX10_isPort 1 (some .boolean) :: ([])
def wsX10_miles : List Cond := .code yX10_miles cX10_miles 4 (some .int) :: ([.fieldLink RX10 44 "ShipOffice" "sea" "LShipOffice$Sea;", .methodLink RX10 77 yX10_isPort, .static yX10_isPort, .initialized RX10, .code yX10_isPort cX10_isPort 1 (some .boolean), .methodLink RX10 69 yX10_refuse, .instanceMethod yX10_refuse, .selects RX10 yX10_refuse yX10_refuse, .code yX10_refuse cX10_refuse 2 (some .int), .fieldLink RX10 66 "ShipOffice" "refusals" "[I", .methodLink RX10 81 yX7_join, .instanceMethod yX7_join, .selects RX7 yX7_join yX7_join, .initialized RX7, .code yX7_join cX7_join 5 (some .int), .fieldLink RX7 9 "ShipOffice$Sea" "miles" "[I"] ++ wsX100 ++ wsX70)
def wsX10_mergeGroups : List Cond := .code yX10_mergeGroups cX10_mergeGroups 6 none :: ([.methodLink RX10 378 Lib.Math.min.name, .static Lib.Math.min.name, .initialized "java/lang/Math", .code Lib.Math.min.name Lib.Math.min.code 2 (some .int), .methodLink RX10 383 Lib.Math.max.name, .static Lib.Math.max.name, .code Lib.Math.max.name Lib.Math.max.code 2 (some .int), .fieldLink RX10 86 "ShipOffice" "manCount" "I", .fieldLink RX10 11 "ShipOffice" "men" "[LShipOffice$Man;", .fieldLink RX10 311 "ShipOffice$Man" "leastAlike" "I"] ++ wsX100 ++ wsX60)
def wsX10_joinGroups_r1 : List Cond := [Cond.fieldLink RX10 86 "ShipOffice" "manCount" "I", Cond.fieldLink RX10 11 "ShipOffice" "men" "[LShipOffice$Man;", Cond.fieldLink RX10 311 "ShipOffice$Man" "leastAlike" "I", Cond.methodLink RX10 371 yX6_isAlike, Cond.instanceMethod yX6_isAlike, Cond.selects RX6 yX6_isAlike yX6_isAlike, Cond.initialized RX6, Cond.code yX6_isAlike cX6_isAlike 2 (some .boolean), Cond.fieldLink RX6 22 "ShipOffice$Man" "marks" "I", Cond.fieldLink RX6 19 "ShipOffice$Man" "name" "I", Cond.methodLink RX6 31 yX6_digitsApart, Cond.static yX6_digitsApart, Cond.code yX6_digitsApart cX6_digitsApart 6 (some .int), Cond.methodLink RX10 374 yX10_mergeGroups, Cond.instanceMethod yX10_mergeGroups, Cond.selects RX10 yX10_mergeGroups yX10_mergeGroups, Cond.initialized RX10, Cond.code yX10_mergeGroups cX10_mergeGroups 6 none, Cond.methodLink RX10 378 Lib.Math.min.name, Cond.static Lib.Math.min.name, Cond.initialized "java/lang/Math", Cond.code Lib.Math.min.name Lib.Math.min.code 2 (some .int), Cond.methodLink RX10 383 Lib.Math.max.name, Cond.static Lib.Math.max.name]
def wsX10_joinGroups_r2 : List Cond := [Cond.code Lib.Math.max.name Lib.Math.max.code 2 (some .int)]
def wsX10_joinGroups : List Cond := .code yX10_joinGroups cX10_joinGroups 3 none :: ((wsX10_joinGroups_r1 ++ wsX10_joinGroups_r2) ++ wsX100 ++ wsX60)
def wsX10_man_r1 : List Cond := [Cond.constant RX10 85 (99999), Cond.fieldLink RX10 73 "ShipOffice" "now" "I", Cond.fieldLink RX10 86 "ShipOffice" "manCount" "I", Cond.fieldLink RX10 11 "ShipOffice" "men" "[LShipOffice$Man;", Cond.classLink RX10 9 RX6, Cond.instantiable RX6 6, Cond.initialized RX6, Cond.methodLink RX10 69 yX10_refuse, Cond.instanceMethod yX10_refuse, Cond.selects RX10 yX10_refuse yX10_refuse, Cond.initialized RX10, Cond.code yX10_refuse cX10_refuse 2 (some .int), Cond.fieldLink RX10 66 "ShipOffice" "refusals" "[I", Cond.methodLink RX10 89 yX6_init, Cond.instanceMethod yX6_init, Cond.code yX6_init cX6_init 5 none, Cond.methodLink RX6 3 objectInit, Cond.instanceMethod objectInit, Cond.code objectInit ⟨#[0xb1]⟩ 1 none, Cond.arrayClass .int, Cond.fieldLink RX6 9 "ShipOffice$Man" "wages" "[I", Cond.fieldLink RX6 15 "ShipOffice$Man" "number" "I", Cond.fieldLink RX6 19 "ShipOffice$Man" "name" "I", Cond.fieldLink RX6 22 "ShipOffice$Man" "marks" "I"]
def wsX10_man_r2 : List Cond := [Cond.fieldLink RX6 25 "ShipOffice$Man" "born" "I", Cond.fieldLink RX6 28 "ShipOffice$Man" "leastAlike" "I", Cond.methodLink RX10 92 yX10_joinGroups, Cond.instanceMethod yX10_joinGroups, Cond.selects RX10 yX10_joinGroups yX10_joinGroups, Cond.code yX10_joinGroups cX10_joinGroups 3 none, Cond.fieldLink RX10 311 "ShipOffice$Man" "leastAlike" "I", Cond.methodLink RX10 371 yX6_isAlike, Cond.instanceMethod yX6_isAlike, Cond.selects RX6 yX6_isAlike yX6_isAlike, Cond.code yX6_isAlike cX6_isAlike 2 (some .boolean), Cond.methodLink RX6 31 yX6_digitsApart, Cond.static yX6_digitsApart, Cond.code yX6_digitsApart cX6_digitsApart 6 (some .int), Cond.methodLink RX10 374 yX10_mergeGroups, Cond.instanceMethod yX10_mergeGroups, Cond.selects RX10 yX10_mergeGroups yX10_mergeGroups, Cond.code yX10_mergeGroups cX10_mergeGroups 6 none, Cond.methodLink RX10 378 Lib.Math.min.name, Cond.static Lib.Math.min.name, Cond.initialized "java/lang/Math", Cond.code Lib.Math.min.name Lib.Math.min.code 2 (some .int), Cond.methodLink RX10 383 Lib.Math.max.name, Cond.static Lib.Math.max.name]
def wsX10_man_r3 : List Cond := [Cond.code Lib.Math.max.name Lib.Math.max.code 2 (some .int)]
def wsX10_man : List Cond := .code yX10_man cX10_man 4 (some .int) :: ((wsX10_man_r1 ++ (wsX10_man_r2 ++ wsX10_man_r3)) ++ wsX100 ++ wsX60)
def wsX10_hasVoyage : List Cond := .code yX10_hasVoyage cX10_hasVoyage 3 (some .boolean) :: ([.fieldLink RX10 99 "ShipOffice" "voyageCount" "I", .fieldLink RX10 17 "ShipOffice" "voyages" "[LShipOffice$Voyage;", .fieldLink RX10 386 "ShipOffice$Voyage" "ship" "I", .fieldLink RX10 107 "ShipOffice$Voyage" "isOver" "Z"] ++ wsX100 ++ wsX90)
def wsX10_voyage_r1 : List Cond := [Cond.fieldLink RX10 99 "ShipOffice" "voyageCount" "I", Cond.fieldLink RX10 17 "ShipOffice" "voyages" "[LShipOffice$Voyage;", Cond.classLink RX10 15 RX9, Cond.instantiable RX9 10, Cond.initialized RX9, Cond.fieldLink RX10 73 "ShipOffice" "now" "I", Cond.methodLink RX10 77 yX10_isPort, Cond.static yX10_isPort, Cond.initialized RX10, Cond.code yX10_isPort cX10_isPort 1 (some .boolean), Cond.methodLink RX10 69 yX10_refuse, Cond.instanceMethod yX10_refuse, Cond.selects RX10 yX10_refuse yX10_refuse, Cond.code yX10_refuse cX10_refuse 2 (some .int), Cond.fieldLink RX10 66 "ShipOffice" "refusals" "[I", Cond.methodLink RX10 96 yX10_hasVoyage, Cond.instanceMethod yX10_hasVoyage, Cond.selects RX10 yX10_hasVoyage yX10_hasVoyage, Cond.code yX10_hasVoyage cX10_hasVoyage 3 (some .boolean), Cond.fieldLink RX10 386 "ShipOffice$Voyage" "ship" "I", Cond.fieldLink RX10 107 "ShipOffice$Voyage" "isOver" "Z", Cond.methodLink RX10 102 yX9_init, Cond.instanceMethod yX9_init, Cond.code yX9_init cX9_init 5 none]
def wsX10_voyage_r2 : List Cond := [Cond.methodLink RX9 3 objectInit, Cond.instanceMethod objectInit, Cond.code objectInit ⟨#[0xb1]⟩ 1 none, Cond.constant RX9 9 (1000000), Cond.fieldLink RX9 10 "ShipOffice$Voyage" "sailedDay" "I", Cond.fieldLink RX9 16 "ShipOffice$Voyage" "sailedTold" "I", Cond.fieldLink RX9 19 "ShipOffice$Voyage" "lostDay" "I", Cond.fieldLink RX9 22 "ShipOffice$Voyage" "lostTold" "I", Cond.fieldLink RX9 25 "ShipOffice$Voyage" "number" "I", Cond.fieldLink RX9 28 "ShipOffice$Voyage" "ship" "I", Cond.fieldLink RX9 31 "ShipOffice$Voyage" "port" "I", Cond.fieldLink RX9 34 "ShipOffice$Voyage" "openedOn" "I"]
def wsX10_voyage : List Cond := .code yX10_voyage cX10_voyage 3 (some .int) :: ((wsX10_voyage_r1 ++ wsX10_voyage_r2) ++ wsX100 ++ wsX90)
def wsX10_put : List Cond := .code yX10_put cX10_put 2 (some .int) :: ([.fieldLink RX10 353 "ShipOffice" "rowCount" "I", .fieldLink RX10 63 "ShipOffice" "row" "[I", .methodLink RX10 69 yX10_refuse, .instanceMethod yX10_refuse, .selects RX10 yX10_refuse yX10_refuse, .initialized RX10, .code yX10_refuse cX10_refuse 2 (some .int), .fieldLink RX10 66 "ShipOffice" "refusals" "[I"] ++ wsX100)
theorem dX6_init_0 : decode cX6_init 0 = .ok (.aload_n 0, 1) := by decide +kernel
theorem dX6_init_1 : decode cX6_init 1 = .ok (.invokespecial 3, 3) := by decide +kernel
theorem dX6_init_4 : decode cX6_init 4 = .ok (.aload_n 0, 1) := by decide +kernel
theorem dX6_init_5 : decode cX6_init 5 = .ok (.iconst 4, 1) := by decide +kernel
theorem dX6_init_6 : decode cX6_init 6 = .ok (.newarray .int, 2) := by decide +kernel
theorem dX6_init_8 : decode cX6_init 8 = .ok (.putfield 9, 3) := by decide +kernel
theorem dX6_init_11 : decode cX6_init 11 = .ok (.aload_n 0, 1) := by decide +kernel
theorem dX6_init_12 : decode cX6_init 12 = .ok (.iload_n 1, 1) := by decide +kernel
theorem dX6_init_13 : decode cX6_init 13 = .ok (.putfield 15, 3) := by decide +kernel
theorem dX6_init_16 : decode cX6_init 16 = .ok (.aload_n 0, 1) := by decide +kernel
theorem dX6_init_17 : decode cX6_init 17 = .ok (.iload_n 2, 1) := by decide +kernel
theorem dX6_init_18 : decode cX6_init 18 = .ok (.putfield 19, 3) := by decide +kernel
theorem dX6_init_21 : decode cX6_init 21 = .ok (.aload_n 0, 1) := by decide +kernel
theorem dX6_init_22 : decode cX6_init 22 = .ok (.iload_n 3, 1) := by decide +kernel
theorem dX6_init_23 : decode cX6_init 23 = .ok (.putfield 22, 3) := by decide +kernel
theorem dX6_init_26 : decode cX6_init 26 = .ok (.aload_n 0, 1) := by decide +kernel
theorem dX6_init_27 : decode cX6_init 27 = .ok (.iload 4, 2) := by decide +kernel
theorem dX6_init_29 : decode cX6_init 29 = .ok (.putfield 25, 3) := by decide +kernel
theorem dX6_init_32 : decode cX6_init 32 = .ok (.aload_n 0, 1) := by decide +kernel
theorem dX6_init_33 : decode cX6_init 33 = .ok (.iload_n 1, 1) := by decide +kernel
theorem dX6_init_34 : decode cX6_init 34 = .ok (.putfield 28, 3) := by decide +kernel
theorem dX6_init_37 : decode cX6_init 37 = .ok (.return_, 1) := by decide +kernel
theorem dX6_isAlike_0 : decode cX6_isAlike 0 = .ok (.aload_n 0, 1) := by decide +kernel
theorem dX6_isAlike_1 : decode cX6_isAlike 1 = .ok (.getfield 22, 3) := by decide +kernel
theorem dX6_isAlike_4 : decode cX6_isAlike 4 = .ok (.aload_n 1, 1) := by decide +kernel
theorem dX6_isAlike_5 : decode cX6_isAlike 5 = .ok (.getfield 22, 3) := by decide +kernel
theorem dX6_isAlike_8 : decode cX6_isAlike 8 = .ok (.if_icmp .eq 29, 3) := by decide +kernel
theorem dX6_isAlike_37 : decode cX6_isAlike 37 = .ok (.iconst 1, 1) := by decide +kernel
theorem dX6_isAlike_38 : decode cX6_isAlike 38 = .ok (.goto 4, 3) := by decide +kernel
theorem dX6_isAlike_42 : decode cX6_isAlike 42 = .ok (.ireturn, 1) := by decide +kernel
theorem dX7_join_0 : decode cX7_join 0 = .ok (.aload_n 0, 1) := by decide +kernel
theorem dX7_join_1 : decode cX7_join 1 = .ok (.getfield 9, 3) := by decide +kernel
theorem dX7_join_4 : decode cX7_join 4 = .ok (.iload_n 1, 1) := by decide +kernel
theorem dX7_join_5 : decode cX7_join 5 = .ok (.bipush 10, 2) := by decide +kernel
theorem dX7_join_7 : decode cX7_join 7 = .ok (.imul, 1) := by decide +kernel
theorem dX7_join_8 : decode cX7_join 8 = .ok (.iload_n 2, 1) := by decide +kernel
theorem dX7_join_9 : decode cX7_join 9 = .ok (.iadd, 1) := by decide +kernel
theorem dX7_join_10 : decode cX7_join 10 = .ok (.iaload, 1) := by decide +kernel
theorem dX7_join_11 : decode cX7_join 11 = .ok (.istore 4, 2) := by decide +kernel
theorem dX7_join_13 : decode cX7_join 13 = .ok (.aload_n 0, 1) := by decide +kernel
theorem dX7_join_14 : decode cX7_join 14 = .ok (.getfield 9, 3) := by decide +kernel
theorem dX7_join_17 : decode cX7_join 17 = .ok (.iload_n 1, 1) := by decide +kernel
theorem dX7_join_18 : decode cX7_join 18 = .ok (.bipush 10, 2) := by decide +kernel
theorem dX7_join_20 : decode cX7_join 20 = .ok (.imul, 1) := by decide +kernel
theorem dX7_join_21 : decode cX7_join 21 = .ok (.iload_n 2, 1) := by decide +kernel
theorem dX7_join_22 : decode cX7_join 22 = .ok (.iadd, 1) := by decide +kernel
theorem dX7_join_23 : decode cX7_join 23 = .ok (.iload_n 3, 1) := by decide +kernel
theorem dX7_join_24 : decode cX7_join 24 = .ok (.iastore, 1) := by decide +kernel
theorem dX7_join_25 : decode cX7_join 25 = .ok (.aload_n 0, 1) := by decide +kernel
theorem dX7_join_26 : decode cX7_join 26 = .ok (.getfield 9, 3) := by decide +kernel
theorem dX7_join_29 : decode cX7_join 29 = .ok (.iload_n 2, 1) := by decide +kernel
theorem dX7_join_30 : decode cX7_join 30 = .ok (.bipush 10, 2) := by decide +kernel
theorem dX7_join_32 : decode cX7_join 32 = .ok (.imul, 1) := by decide +kernel
theorem dX7_join_33 : decode cX7_join 33 = .ok (.iload_n 1, 1) := by decide +kernel
theorem dX7_join_34 : decode cX7_join 34 = .ok (.iadd, 1) := by decide +kernel
theorem dX7_join_35 : decode cX7_join 35 = .ok (.iload_n 3, 1) := by decide +kernel
theorem dX7_join_36 : decode cX7_join 36 = .ok (.iastore, 1) := by decide +kernel
theorem dX7_join_37 : decode cX7_join 37 = .ok (.iload 4, 2) := by decide +kernel
theorem dX7_join_39 : decode cX7_join 39 = .ok (.ireturn, 1) := by decide +kernel
theorem dX9_init_0 : decode cX9_init 0 = .ok (.aload_n 0, 1) := by decide +kernel
theorem dX9_init_1 : decode cX9_init 1 = .ok (.invokespecial 3, 3) := by decide +kernel
theorem dX9_init_4 : decode cX9_init 4 = .ok (.aload_n 0, 1) := by decide +kernel
theorem dX9_init_5 : decode cX9_init 5 = .ok (.ldc 9, 2) := by decide +kernel
theorem dX9_init_7 : decode cX9_init 7 = .ok (.putfield 10, 3) := by decide +kernel
theorem dX9_init_10 : decode cX9_init 10 = .ok (.aload_n 0, 1) := by decide +kernel
theorem dX9_init_11 : decode cX9_init 11 = .ok (.ldc 9, 2) := by decide +kernel
theorem dX9_init_13 : decode cX9_init 13 = .ok (.putfield 16, 3) := by decide +kernel
theorem dX9_init_16 : decode cX9_init 16 = .ok (.aload_n 0, 1) := by decide +kernel
theorem dX9_init_17 : decode cX9_init 17 = .ok (.ldc 9, 2) := by decide +kernel
theorem dX9_init_19 : decode cX9_init 19 = .ok (.putfield 19, 3) := by decide +kernel
theorem dX9_init_22 : decode cX9_init 22 = .ok (.aload_n 0, 1) := by decide +kernel
theorem dX9_init_23 : decode cX9_init 23 = .ok (.ldc 9, 2) := by decide +kernel
theorem dX9_init_25 : decode cX9_init 25 = .ok (.putfield 22, 3) := by decide +kernel
theorem dX9_init_28 : decode cX9_init 28 = .ok (.aload_n 0, 1) := by decide +kernel
theorem dX9_init_29 : decode cX9_init 29 = .ok (.iload_n 1, 1) := by decide +kernel
theorem dX9_init_30 : decode cX9_init 30 = .ok (.putfield 25, 3) := by decide +kernel
theorem dX9_init_33 : decode cX9_init 33 = .ok (.aload_n 0, 1) := by decide +kernel
theorem dX9_init_34 : decode cX9_init 34 = .ok (.iload_n 2, 1) := by decide +kernel
theorem dX9_init_35 : decode cX9_init 35 = .ok (.putfield 28, 3) := by decide +kernel
theorem dX9_init_38 : decode cX9_init 38 = .ok (.aload_n 0, 1) := by decide +kernel
theorem dX9_init_39 : decode cX9_init 39 = .ok (.iload_n 3, 1) := by decide +kernel
theorem dX9_init_40 : decode cX9_init 40 = .ok (.putfield 31, 3) := by decide +kernel
theorem dX9_init_43 : decode cX9_init 43 = .ok (.aload_n 0, 1) := by decide +kernel
theorem dX9_init_44 : decode cX9_init 44 = .ok (.iload 4, 2) := by decide +kernel
theorem dX9_init_46 : decode cX9_init 46 = .ok (.putfield 34, 3) := by decide +kernel
theorem dX9_init_49 : decode cX9_init 49 = .ok (.return_, 1) := by decide +kernel
set_option maxRecDepth 20000 in
theorem ggX10_days_X10_refuse : GoodIn wsX10_days wsX10_refuse := goodIn_r _ [6, 7, 8, 9, 10, 11, 12, 13, 14, 15, 16, 17, 18, 19, 20, 21, 22, 23] (by decide +kernel) (by decide +kernel)
set_option maxRecDepth 20000 in
theorem gX10_days_X10_refuse : GoodIn wsX10_days (wsV RX10 69 RX10 yX10_refuse wsX10_refuse) := goodIn_app (goodIn_of _ (by decide +kernel)) ggX10_days_X10_refuse
theorem dX10_days_0 : decode cX10_days 0 = .ok (.iload_n 1, 1) := by decide +kernel
theorem dX10_days_1 : decode cX10_days 1 = .ok (.iconst 1, 1) := by decide +kernel
theorem dX10_days_2 : decode cX10_days 2 = .ok (.if_icmp .ge 10, 3) := by decide +kernel
theorem dX10_days_5 : decode cX10_days 5 = .ok (.aload_n 0, 1) := by decide +kernel
theorem dX10_days_6 : decode cX10_days 6 = .ok (.bipush (-4), 2) := by decide +kernel
theorem dX10_days_8 : decode cX10_days 8 = .ok (.invokevirtual 69, 3) := by decide +kernel
theorem dX10_days_11 : decode cX10_days 11 = .ok (.ireturn, 1) := by decide +kernel
theorem dX10_days_12 : decode cX10_days 12 = .ok (.iload_n 1, 1) := by decide +kernel
theorem dX10_days_13 : decode cX10_days 13 = .ok (.sipush 3000, 3) := by decide +kernel
theorem dX10_days_16 : decode cX10_days 16 = .ok (.aload_n 0, 1) := by decide +kernel
theorem dX10_days_17 : decode cX10_days 17 = .ok (.getfield 73, 3) := by decide +kernel
theorem dX10_days_20 : decode cX10_days 20 = .ok (.isub, 1) := by decide +kernel
theorem dX10_days_21 : decode cX10_days 21 = .ok (.if_icmp .le 10, 3) := by decide +kernel
theorem dX10_days_24 : decode cX10_days 24 = .ok (.aload_n 0, 1) := by decide +kernel
theorem dX10_days_25 : decode cX10_days 25 = .ok (.bipush (-6), 2) := by decide +kernel
theorem dX10_days_27 : decode cX10_days 27 = .ok (.invokevirtual 69, 3) := by decide +kernel
theorem dX10_days_30 : decode cX10_days 30 = .ok (.ireturn, 1) := by decide +kernel
theorem dX10_days_31 : decode cX10_days 31 = .ok (.aload_n 0, 1) := by decide +kernel
theorem dX10_days_32 : decode cX10_days 32 = .ok (.dup, 1) := by decide +kernel
theorem dX10_days_33 : decode cX10_days 33 = .ok (.getfield 73, 3) := by decide +kernel
theorem dX10_days_36 : decode cX10_days 36 = .ok (.iload_n 1, 1) := by decide +kernel
theorem dX10_days_37 : decode cX10_days 37 = .ok (.iadd, 1) := by decide +kernel
theorem dX10_days_38 : decode cX10_days 38 = .ok (.putfield 73, 3) := by decide +kernel
theorem dX10_days_41 : decode cX10_days 41 = .ok (.aload_n 0, 1) := by decide +kernel
theorem dX10_days_42 : decode cX10_days 42 = .ok (.getfield 73, 3) := by decide +kernel
theorem dX10_days_45 : decode cX10_days 45 = .ok (.ireturn, 1) := by decide +kernel
set_option maxRecDepth 20000 in
theorem ggX10_miles_X10_isPort : GoodIn wsX10_miles wsX10_isPort := goodIn_r _ [5] (by decide +kernel) (by decide +kernel)
set_option maxRecDepth 20000 in
theorem gX10_miles_X10_isPort : GoodIn wsX10_miles (va_wsS RX10 77 yX10_isPort wsX10_isPort) := goodIn_app (goodIn_of _ (by decide +kernel)) ggX10_miles_X10_isPort
set_option maxRecDepth 20000 in
theorem ggX10_miles_X10_refuse : GoodIn wsX10_miles wsX10_refuse := goodIn_r _ [9, 10, 17, 18, 19, 20, 21, 22, 23, 24, 25, 26, 27, 28, 29, 30, 31, 32] (by decide +kernel) (by decide +kernel)
set_option maxRecDepth 20000 in
theorem gX10_miles_X10_refuse : GoodIn wsX10_miles (wsV RX10 69 RX10 yX10_refuse wsX10_refuse) := goodIn_app (goodIn_of _ (by decide +kernel)) ggX10_miles_X10_refuse
set_option maxRecDepth 20000 in
theorem ggX10_miles_X7_join : GoodIn wsX10_miles wsX7_join := goodIn_r _ [15, 16, 33, 34] (by decide +kernel) (by decide +kernel)
set_option maxRecDepth 20000 in
theorem gX10_miles_X7_join : GoodIn wsX10_miles (wsV RX10 81 RX7 yX7_join wsX7_join) := goodIn_app (goodIn_of _ (by decide +kernel)) ggX10_miles_X7_join
theorem dX10_miles_0 : decode cX10_miles 0 = .ok (.iload_n 1, 1) := by decide +kernel
theorem dX10_miles_1 : decode cX10_miles 1 = .ok (.invokestatic 77, 3) := by decide +kernel
theorem dX10_miles_4 : decode cX10_miles 4 = .ok (.ifCond .eq 15, 3) := by decide +kernel
theorem dX10_miles_7 : decode cX10_miles 7 = .ok (.iload_n 2, 1) := by decide +kernel
theorem dX10_miles_8 : decode cX10_miles 8 = .ok (.invokestatic 77, 3) := by decide +kernel
theorem dX10_miles_11 : decode cX10_miles 11 = .ok (.ifCond .eq 8, 3) := by decide +kernel
theorem dX10_miles_14 : decode cX10_miles 14 = .ok (.iload_n 1, 1) := by decide +kernel
theorem dX10_miles_15 : decode cX10_miles 15 = .ok (.iload_n 2, 1) := by decide +kernel
theorem dX10_miles_16 : decode cX10_miles 16 = .ok (.if_icmp .ne 9, 3) := by decide +kernel
theorem dX10_miles_19 : decode cX10_miles 19 = .ok (.aload_n 0, 1) := by decide +kernel
theorem dX10_miles_20 : decode cX10_miles 20 = .ok (.iconst (-1), 1) := by decide +kernel
theorem dX10_miles_21 : decode cX10_miles 21 = .ok (.invokevirtual 69, 3) := by decide +kernel
theorem dX10_miles_24 : decode cX10_miles 24 = .ok (.ireturn, 1) := by decide +kernel
theorem dX10_miles_25 : decode cX10_miles 25 = .ok (.iload_n 3, 1) := by decide +kernel
theorem dX10_miles_26 : decode cX10_miles 26 = .ok (.ifCond .ge 10, 3) := by decide +kernel
theorem dX10_miles_29 : decode cX10_miles 29 = .ok (.aload_n 0, 1) := by decide +kernel
theorem dX10_miles_30 : decode cX10_miles 30 = .ok (.bipush (-4), 2) := by decide +kernel
theorem dX10_miles_32 : decode cX10_miles 32 = .ok (.invokevirtual 69, 3) := by decide +kernel
theorem dX10_miles_35 : decode cX10_miles 35 = .ok (.ireturn, 1) := by decide +kernel
theorem dX10_miles_36 : decode cX10_miles 36 = .ok (.iload_n 3, 1) := by decide +kernel
theorem dX10_miles_37 : decode cX10_miles 37 = .ok (.sipush 9999, 3) := by decide +kernel
theorem dX10_miles_40 : decode cX10_miles 40 = .ok (.if_icmp .le 10, 3) := by decide +kernel
theorem dX10_miles_43 : decode cX10_miles 43 = .ok (.aload_n 0, 1) := by decide +kernel
theorem dX10_miles_44 : decode cX10_miles 44 = .ok (.bipush (-6), 2) := by decide +kernel
theorem dX10_miles_46 : decode cX10_miles 46 = .ok (.invokevirtual 69, 3) := by decide +kernel
theorem dX10_miles_49 : decode cX10_miles 49 = .ok (.ireturn, 1) := by decide +kernel
theorem dX10_miles_50 : decode cX10_miles 50 = .ok (.aload_n 0, 1) := by decide +kernel
theorem dX10_miles_51 : decode cX10_miles 51 = .ok (.getfield 44, 3) := by decide +kernel
theorem dX10_miles_54 : decode cX10_miles 54 = .ok (.iload_n 1, 1) := by decide +kernel
theorem dX10_miles_55 : decode cX10_miles 55 = .ok (.iload_n 2, 1) := by decide +kernel
theorem dX10_miles_56 : decode cX10_miles 56 = .ok (.iload_n 3, 1) := by decide +kernel
theorem dX10_miles_57 : decode cX10_miles 57 = .ok (.invokevirtual 81, 3) := by decide +kernel
theorem dX10_miles_60 : decode cX10_miles 60 = .ok (.ireturn, 1) := by decide +kernel
set_option maxRecDepth 20000 in
theorem ggX10_man_X10_refuse : GoodIn wsX10_man wsX10_refuse := goodIn_r _ [12, 13, 50, 51, 52, 53, 54, 55, 56, 57, 58, 59, 60, 61, 62, 63, 64, 65] (by decide +kernel) (by decide +kernel)
set_option maxRecDepth 20000 in
theorem gX10_man_X10_refuse : GoodIn wsX10_man (wsV RX10 69 RX10 yX10_refuse wsX10_refuse) := goodIn_app (goodIn_of _ (by decide +kernel)) ggX10_man_X10_refuse
set_option maxRecDepth 20000 in
theorem ggX10_man_X6_init : GoodIn wsX10_man wsX6_init := goodIn_r _ [16, 17, 18, 19, 20, 21, 22, 23, 24, 25, 26, 66, 67, 68, 69, 70, 71] (by decide +kernel) (by decide +kernel)
set_option maxRecDepth 20000 in
theorem gX10_man_X6_init : GoodIn wsX10_man (wsX6_init) := ggX10_man_X6_init
set_option maxRecDepth 20000 in
theorem ggX10_man_X10_joinGroups : GoodIn wsX10_man wsX10_joinGroups := goodIn_r _ [30, 3, 4, 31, 32, 33, 34, 7, 35, 24, 23, 36, 37, 38, 39, 40, 41, 11, 42, 43, 44, 45, 46, 47, 48, 49, 50, 51, 52, 53, 54, 55, 56, 57, 58, 59, 60, 61, 62, 63, 64, 65, 66, 67, 68, 69, 70, 71] (by decide +kernel) (by decide +kernel)
set_option maxRecDepth 20000 in
theorem gX10_man_X10_joinGroups : GoodIn wsX10_man (wsV RX10 92 RX10 yX10_joinGroups wsX10_joinGroups) := goodIn_app (goodIn_of _ (by decide +kernel)) ggX10_man_X10_joinGroups
theorem dX10_man_0 : decode cX10_man 0 = .ok (.iload_n 1, 1) := by decide +kernel
theorem dX10_man_1 : decode cX10_man 1 = .ok (.ifCond .lt 14, 3) := by decide +kernel
theorem dX10_man_4 : decode cX10_man 4 = .ok (.iload_n 2, 1) := by decide +kernel
theorem dX10_man_5 : decode cX10_man 5 = .ok (.ifCond .lt 10, 3) := by decide +kernel
theorem dX10_man_8 : decode cX10_man 8 = .ok (.iload_n 3, 1) := by decide +kernel
theorem dX10_man_9 : decode cX10_man 9 = .ok (.sipush (-30000), 3) := by decide +kernel
theorem dX10_man_12 : decode cX10_man 12 = .ok (.if_icmp .ge 10, 3) := by decide +kernel
theorem dX10_man_15 : decode cX10_man 15 = .ok (.aload_n 0, 1) := by decide +kernel
theorem dX10_man_16 : decode cX10_man 16 = .ok (.bipush (-4), 2) := by decide +kernel
theorem dX10_man_18 : decode cX10_man 18 = .ok (.invokevirtual 69, 3) := by decide +kernel
theorem dX10_man_21 : decode cX10_man 21 = .ok (.ireturn, 1) := by decide +kernel
theorem dX10_man_22 : decode cX10_man 22 = .ok (.iload_n 1, 1) := by decide +kernel
theorem dX10_man_23 : decode cX10_man 23 = .ok (.sipush 9999, 3) := by decide +kernel
theorem dX10_man_26 : decode cX10_man 26 = .ok (.if_icmp .gt 26, 3) := by decide +kernel
theorem dX10_man_29 : decode cX10_man 29 = .ok (.iload_n 2, 1) := by decide +kernel
theorem dX10_man_30 : decode cX10_man 30 = .ok (.ldc 85, 2) := by decide +kernel
theorem dX10_man_32 : decode cX10_man 32 = .ok (.if_icmp .gt 20, 3) := by decide +kernel
theorem dX10_man_35 : decode cX10_man 35 = .ok (.iload_n 3, 1) := by decide +kernel
theorem dX10_man_36 : decode cX10_man 36 = .ok (.aload_n 0, 1) := by decide +kernel
theorem dX10_man_37 : decode cX10_man 37 = .ok (.getfield 73, 3) := by decide +kernel
theorem dX10_man_40 : decode cX10_man 40 = .ok (.if_icmp .gt 12, 3) := by decide +kernel
theorem dX10_man_43 : decode cX10_man 43 = .ok (.aload_n 0, 1) := by decide +kernel
theorem dX10_man_44 : decode cX10_man 44 = .ok (.getfield 86, 3) := by decide +kernel
theorem dX10_man_47 : decode cX10_man 47 = .ok (.bipush 40, 2) := by decide +kernel
theorem dX10_man_49 : decode cX10_man 49 = .ok (.if_icmp .lt 10, 3) := by decide +kernel
theorem dX10_man_52 : decode cX10_man 52 = .ok (.aload_n 0, 1) := by decide +kernel
theorem dX10_man_53 : decode cX10_man 53 = .ok (.bipush (-6), 2) := by decide +kernel
theorem dX10_man_55 : decode cX10_man 55 = .ok (.invokevirtual 69, 3) := by decide +kernel
theorem dX10_man_58 : decode cX10_man 58 = .ok (.ireturn, 1) := by decide +kernel
theorem dX10_man_59 : decode cX10_man 59 = .ok (.aload_n 0, 1) := by decide +kernel
theorem dX10_man_60 : decode cX10_man 60 = .ok (.getfield 11, 3) := by decide +kernel
theorem dX10_man_63 : decode cX10_man 63 = .ok (.aload_n 0, 1) := by decide +kernel
theorem dX10_man_64 : decode cX10_man 64 = .ok (.getfield 86, 3) := by decide +kernel
theorem dX10_man_67 : decode cX10_man 67 = .ok (.new 9, 3) := by decide +kernel
theorem dX10_man_70 : decode cX10_man 70 = .ok (.dup, 1) := by decide +kernel
theorem dX10_man_71 : decode cX10_man 71 = .ok (.aload_n 0, 1) := by decide +kernel
theorem dX10_man_72 : decode cX10_man 72 = .ok (.getfield 86, 3) := by decide +kernel
theorem dX10_man_75 : decode cX10_man 75 = .ok (.iload_n 1, 1) := by decide +kernel
theorem dX10_man_76 : decode cX10_man 76 = .ok (.iload_n 2, 1) := by decide +kernel
theorem dX10_man_77 : decode cX10_man 77 = .ok (.iload_n 3, 1) := by decide +kernel
theorem dX10_man_78 : decode cX10_man 78 = .ok (.invokespecial 89, 3) := by decide +kernel
theorem dX10_man_81 : decode cX10_man 81 = .ok (.aastore, 1) := by decide +kernel
theorem dX10_man_82 : decode cX10_man 82 = .ok (.aload_n 0, 1) := by decide +kernel
theorem dX10_man_83 : decode cX10_man 83 = .ok (.dup, 1) := by decide +kernel
theorem dX10_man_84 : decode cX10_man 84 = .ok (.getfield 86, 3) := by decide +kernel
theorem dX10_man_87 : decode cX10_man 87 = .ok (.iconst 1, 1) := by decide +kernel
theorem dX10_man_88 : decode cX10_man 88 = .ok (.iadd, 1) := by decide +kernel
theorem dX10_man_89 : decode cX10_man 89 = .ok (.putfield 86, 3) := by decide +kernel
theorem dX10_man_92 : decode cX10_man 92 = .ok (.aload_n 0, 1) := by decide +kernel
theorem dX10_man_93 : decode cX10_man 93 = .ok (.aload_n 0, 1) := by decide +kernel
theorem dX10_man_94 : decode cX10_man 94 = .ok (.getfield 11, 3) := by decide +kernel
theorem dX10_man_97 : decode cX10_man 97 = .ok (.aload_n 0, 1) := by decide +kernel
theorem dX10_man_98 : decode cX10_man 98 = .ok (.getfield 86, 3) := by decide +kernel
theorem dX10_man_101 : decode cX10_man 101 = .ok (.iconst 1, 1) := by decide +kernel
theorem dX10_man_102 : decode cX10_man 102 = .ok (.isub, 1) := by decide +kernel
theorem dX10_man_103 : decode cX10_man 103 = .ok (.aaload, 1) := by decide +kernel
theorem dX10_man_104 : decode cX10_man 104 = .ok (.invokevirtual 92, 3) := by decide +kernel
theorem dX10_man_107 : decode cX10_man 107 = .ok (.aload_n 0, 1) := by decide +kernel
theorem dX10_man_108 : decode cX10_man 108 = .ok (.getfield 86, 3) := by decide +kernel
theorem dX10_man_111 : decode cX10_man 111 = .ok (.iconst 1, 1) := by decide +kernel
theorem dX10_man_112 : decode cX10_man 112 = .ok (.isub, 1) := by decide +kernel
theorem dX10_man_113 : decode cX10_man 113 = .ok (.ireturn, 1) := by decide +kernel
set_option maxRecDepth 20000 in
theorem ggX10_voyage_X10_isPort : GoodIn wsX10_voyage wsX10_isPort := goodIn_r _ [10] (by decide +kernel) (by decide +kernel)
set_option maxRecDepth 20000 in
theorem gX10_voyage_X10_isPort : GoodIn wsX10_voyage (va_wsS RX10 77 yX10_isPort wsX10_isPort) := goodIn_app (goodIn_of _ (by decide +kernel)) ggX10_voyage_X10_isPort
set_option maxRecDepth 20000 in
theorem ggX10_voyage_X10_refuse : GoodIn wsX10_voyage wsX10_refuse := goodIn_r _ [14, 15, 37, 38, 39, 40, 41, 42, 43, 44, 45, 46, 47, 48, 49, 50, 51, 52] (by decide +kernel) (by decide +kernel)
set_option maxRecDepth 20000 in
theorem gX10_voyage_X10_refuse : GoodIn wsX10_voyage (wsV RX10 69 RX10 yX10_refuse wsX10_refuse) := goodIn_app (goodIn_of _ (by decide +kernel)) ggX10_voyage_X10_refuse
set_option maxRecDepth 20000 in
theorem ggX10_voyage_X10_hasVoyage : GoodIn wsX10_voyage wsX10_hasVoyage := goodIn_r _ [19, 1, 2, 20, 21, 37, 38, 39, 40, 41, 42, 43, 44, 45, 46, 47, 48, 49, 50, 51, 52, 53, 54, 55, 56, 57, 58, 59, 60, 61, 62] (by decide +kernel) (by decide +kernel)
set_option maxRecDepth 20000 in
theorem gX10_voyage_X10_hasVoyage : GoodIn wsX10_voyage (wsV RX10 96 RX10 yX10_hasVoyage wsX10_hasVoyage) := goodIn_app (goodIn_of _ (by decide +kernel)) ggX10_voyage_X10_hasVoyage
set_option maxRecDepth 20000 in
theorem ggX10_voyage_X9_init : GoodIn wsX10_voyage wsX9_init := goodIn_r _ [24, 25, 26, 27, 28, 29, 30, 31, 32, 33, 34, 35, 36, 53, 54, 55, 56, 57, 58, 59, 60, 61, 62] (by decide +kernel) (by decide +kernel)
set_option maxRecDepth 20000 in
theorem gX10_voyage_X9_init : GoodIn wsX10_voyage (wsX9_init) := ggX10_voyage_X9_init
theorem dX10_voyage_0 : decode cX10_voyage 0 = .ok (.iload_n 1, 1) := by decide +kernel
theorem dX10_voyage_1 : decode cX10_voyage 1 = .ok (.ifCond .lt 16, 3) := by decide +kernel
theorem dX10_voyage_4 : decode cX10_voyage 4 = .ok (.iload_n 1, 1) := by decide +kernel
theorem dX10_voyage_5 : decode cX10_voyage 5 = .ok (.bipush 10, 2) := by decide +kernel
theorem dX10_voyage_7 : decode cX10_voyage 7 = .ok (.if_icmp .ge 10, 3) := by decide +kernel
theorem dX10_voyage_10 : decode cX10_voyage 10 = .ok (.iload_n 2, 1) := by decide +kernel
theorem dX10_voyage_11 : decode cX10_voyage 11 = .ok (.invokestatic 77, 3) := by decide +kernel
theorem dX10_voyage_14 : decode cX10_voyage 14 = .ok (.ifCond .ne 9, 3) := by decide +kernel
theorem dX10_voyage_17 : decode cX10_voyage 17 = .ok (.aload_n 0, 1) := by decide +kernel
theorem dX10_voyage_18 : decode cX10_voyage 18 = .ok (.iconst (-1), 1) := by decide +kernel
theorem dX10_voyage_19 : decode cX10_voyage 19 = .ok (.invokevirtual 69, 3) := by decide +kernel
theorem dX10_voyage_22 : decode cX10_voyage 22 = .ok (.ireturn, 1) := by decide +kernel
theorem dX10_voyage_23 : decode cX10_voyage 23 = .ok (.aload_n 0, 1) := by decide +kernel
theorem dX10_voyage_24 : decode cX10_voyage 24 = .ok (.iload_n 1, 1) := by decide +kernel
theorem dX10_voyage_25 : decode cX10_voyage 25 = .ok (.invokevirtual 96, 3) := by decide +kernel
theorem dX10_voyage_28 : decode cX10_voyage 28 = .ok (.ifCond .eq 10, 3) := by decide +kernel
theorem dX10_voyage_38 : decode cX10_voyage 38 = .ok (.aload_n 0, 1) := by decide +kernel
theorem dX10_voyage_39 : decode cX10_voyage 39 = .ok (.getfield 99, 3) := by decide +kernel
theorem dX10_voyage_42 : decode cX10_voyage 42 = .ok (.bipush 20, 2) := by decide +kernel
theorem dX10_voyage_44 : decode cX10_voyage 44 = .ok (.if_icmp .lt 10, 3) := by decide +kernel
theorem dX10_voyage_54 : decode cX10_voyage 54 = .ok (.aload_n 0, 1) := by decide +kernel
theorem dX10_voyage_55 : decode cX10_voyage 55 = .ok (.getfield 17, 3) := by decide +kernel
theorem dX10_voyage_58 : decode cX10_voyage 58 = .ok (.aload_n 0, 1) := by decide +kernel
theorem dX10_voyage_59 : decode cX10_voyage 59 = .ok (.getfield 99, 3) := by decide +kernel
theorem dX10_voyage_62 : decode cX10_voyage 62 = .ok (.new 15, 3) := by decide +kernel
theorem dX10_voyage_65 : decode cX10_voyage 65 = .ok (.dup, 1) := by decide +kernel
theorem dX10_voyage_66 : decode cX10_voyage 66 = .ok (.aload_n 0, 1) := by decide +kernel
theorem dX10_voyage_67 : decode cX10_voyage 67 = .ok (.getfield 99, 3) := by decide +kernel
theorem dX10_voyage_70 : decode cX10_voyage 70 = .ok (.iload_n 1, 1) := by decide +kernel
theorem dX10_voyage_71 : decode cX10_voyage 71 = .ok (.iload_n 2, 1) := by decide +kernel
theorem dX10_voyage_72 : decode cX10_voyage 72 = .ok (.aload_n 0, 1) := by decide +kernel
theorem dX10_voyage_73 : decode cX10_voyage 73 = .ok (.getfield 73, 3) := by decide +kernel
theorem dX10_voyage_76 : decode cX10_voyage 76 = .ok (.invokespecial 102, 3) := by decide +kernel
theorem dX10_voyage_79 : decode cX10_voyage 79 = .ok (.aastore, 1) := by decide +kernel
theorem dX10_voyage_80 : decode cX10_voyage 80 = .ok (.aload_n 0, 1) := by decide +kernel
theorem dX10_voyage_81 : decode cX10_voyage 81 = .ok (.dup, 1) := by decide +kernel
theorem dX10_voyage_82 : decode cX10_voyage 82 = .ok (.getfield 99, 3) := by decide +kernel
theorem dX10_voyage_85 : decode cX10_voyage 85 = .ok (.iconst 1, 1) := by decide +kernel
theorem dX10_voyage_86 : decode cX10_voyage 86 = .ok (.iadd, 1) := by decide +kernel
theorem dX10_voyage_87 : decode cX10_voyage 87 = .ok (.putfield 99, 3) := by decide +kernel
theorem dX10_voyage_90 : decode cX10_voyage 90 = .ok (.aload_n 0, 1) := by decide +kernel
theorem dX10_voyage_91 : decode cX10_voyage 91 = .ok (.getfield 99, 3) := by decide +kernel
theorem dX10_voyage_94 : decode cX10_voyage 94 = .ok (.iconst 1, 1) := by decide +kernel
theorem dX10_voyage_95 : decode cX10_voyage 95 = .ok (.isub, 1) := by decide +kernel
theorem dX10_voyage_96 : decode cX10_voyage 96 = .ok (.ireturn, 1) := by decide +kernel
theorem dX10_put_0 : decode cX10_put 0 = .ok (.aload_n 0, 1) := by decide +kernel
theorem dX10_put_1 : decode cX10_put 1 = .ok (.getfield 353, 3) := by decide +kernel
theorem dX10_put_4 : decode cX10_put 4 = .ok (.bipush 12, 2) := by decide +kernel
theorem dX10_put_6 : decode cX10_put 6 = .ok (.if_icmp .lt 10, 3) := by decide +kernel
theorem dX10_put_16 : decode cX10_put 16 = .ok (.aload_n 0, 1) := by decide +kernel
theorem dX10_put_17 : decode cX10_put 17 = .ok (.getfield 63, 3) := by decide +kernel
theorem dX10_put_20 : decode cX10_put 20 = .ok (.aload_n 0, 1) := by decide +kernel
theorem dX10_put_21 : decode cX10_put 21 = .ok (.getfield 353, 3) := by decide +kernel
theorem dX10_put_24 : decode cX10_put 24 = .ok (.iload_n 1, 1) := by decide +kernel
theorem dX10_put_25 : decode cX10_put 25 = .ok (.iastore, 1) := by decide +kernel
theorem dX10_put_26 : decode cX10_put 26 = .ok (.aload_n 0, 1) := by decide +kernel
theorem dX10_put_27 : decode cX10_put 27 = .ok (.dup, 1) := by decide +kernel
theorem dX10_put_28 : decode cX10_put 28 = .ok (.getfield 353, 3) := by decide +kernel
theorem dX10_put_31 : decode cX10_put 31 = .ok (.iconst 1, 1) := by decide +kernel
theorem dX10_put_32 : decode cX10_put 32 = .ok (.iadd, 1) := by decide +kernel
theorem dX10_put_33 : decode cX10_put 33 = .ok (.putfield 353, 3) := by decide +kernel
theorem dX10_put_36 : decode cX10_put 36 = .ok (.aload_n 0, 1) := by decide +kernel
theorem dX10_put_37 : decode cX10_put 37 = .ok (.getfield 353, 3) := by decide +kernel
theorem dX10_put_40 : decode cX10_put 40 = .ok (.ireturn, 1) := by decide +kernel
theorem dX10_isPort_0 : decode cX10_isPort 0 = .ok (.iload_n 0, 1) := by decide +kernel
theorem dX10_isPort_1 : decode cX10_isPort 1 = .ok (.ifCond .lt 13, 3) := by decide +kernel
theorem dX10_isPort_4 : decode cX10_isPort 4 = .ok (.iload_n 0, 1) := by decide +kernel
theorem dX10_isPort_5 : decode cX10_isPort 5 = .ok (.bipush 10, 2) := by decide +kernel
theorem dX10_isPort_7 : decode cX10_isPort 7 = .ok (.if_icmp .ge 7, 3) := by decide +kernel
theorem dX10_isPort_10 : decode cX10_isPort 10 = .ok (.iconst 1, 1) := by decide +kernel
theorem dX10_isPort_11 : decode cX10_isPort 11 = .ok (.goto 4, 3) := by decide +kernel
theorem dX10_isPort_14 : decode cX10_isPort 14 = .ok (.iconst 0, 1) := by decide +kernel
theorem dX10_isPort_15 : decode cX10_isPort 15 = .ok (.ireturn, 1) := by decide +kernel
set_option maxRecDepth 20000 in
theorem ggX10_joinGroups_X6_isAlike : GoodIn wsX10_joinGroups wsX6_isAlike := goodIn_r _ [8, 9, 10, 11, 12, 7, 13, 42, 43, 44, 45, 46, 47] (by decide +kernel) (by decide +kernel)
set_option maxRecDepth 20000 in
theorem gX10_joinGroups_X6_isAlike : GoodIn wsX10_joinGroups (wsV RX10 371 RX6 yX6_isAlike wsX6_isAlike) := goodIn_app (goodIn_of _ (by decide +kernel)) ggX10_joinGroups_X6_isAlike
set_option maxRecDepth 20000 in
theorem ggX10_joinGroups_X10_mergeGroups : GoodIn wsX10_joinGroups wsX10_mergeGroups := goodIn_r _ [18, 19, 20, 21, 22, 23, 24, 25, 1, 2, 3, 26, 27, 28, 29, 30, 31, 32, 33, 34, 35, 36, 37, 38, 39, 40, 41, 42, 43, 44, 45, 46, 47] (by decide +kernel) (by decide +kernel)
set_option maxRecDepth 20000 in
theorem gX10_joinGroups_X10_mergeGroups : GoodIn wsX10_joinGroups (wsV RX10 374 RX10 yX10_mergeGroups wsX10_mergeGroups) := goodIn_app (goodIn_of _ (by decide +kernel)) ggX10_joinGroups_X10_mergeGroups
theorem dX10_joinGroups_0 : decode cX10_joinGroups 0 = .ok (.iconst 0, 1) := by decide +kernel
theorem dX10_joinGroups_1 : decode cX10_joinGroups 1 = .ok (.istore_n 2, 1) := by decide +kernel
theorem dX10_joinGroups_2 : decode cX10_joinGroups 2 = .ok (.iload_n 2, 1) := by decide +kernel
theorem dX10_joinGroups_3 : decode cX10_joinGroups 3 = .ok (.aload_n 0, 1) := by decide +kernel
theorem dX10_joinGroups_4 : decode cX10_joinGroups 4 = .ok (.getfield 86, 3) := by decide +kernel
theorem dX10_joinGroups_7 : decode cX10_joinGroups 7 = .ok (.if_icmp .ge 39, 3) := by decide +kernel
theorem dX10_joinGroups_10 : decode cX10_joinGroups 10 = .ok (.aload_n 1, 1) := by decide +kernel
theorem dX10_joinGroups_11 : decode cX10_joinGroups 11 = .ok (.aload_n 0, 1) := by decide +kernel
theorem dX10_joinGroups_12 : decode cX10_joinGroups 12 = .ok (.getfield 11, 3) := by decide +kernel
theorem dX10_joinGroups_15 : decode cX10_joinGroups 15 = .ok (.iload_n 2, 1) := by decide +kernel
theorem dX10_joinGroups_16 : decode cX10_joinGroups 16 = .ok (.aaload, 1) := by decide +kernel
theorem dX10_joinGroups_17 : decode cX10_joinGroups 17 = .ok (.invokevirtual 371, 3) := by decide +kernel
theorem dX10_joinGroups_20 : decode cX10_joinGroups 20 = .ok (.ifCond .eq 20, 3) := by decide +kernel
theorem dX10_joinGroups_23 : decode cX10_joinGroups 23 = .ok (.aload_n 0, 1) := by decide +kernel
theorem dX10_joinGroups_24 : decode cX10_joinGroups 24 = .ok (.aload_n 1, 1) := by decide +kernel
theorem dX10_joinGroups_25 : decode cX10_joinGroups 25 = .ok (.getfield 311, 3) := by decide +kernel
theorem dX10_joinGroups_28 : decode cX10_joinGroups 28 = .ok (.aload_n 0, 1) := by decide +kernel
theorem dX10_joinGroups_29 : decode cX10_joinGroups 29 = .ok (.getfield 11, 3) := by decide +kernel
theorem dX10_joinGroups_32 : decode cX10_joinGroups 32 = .ok (.iload_n 2, 1) := by decide +kernel
theorem dX10_joinGroups_33 : decode cX10_joinGroups 33 = .ok (.aaload, 1) := by decide +kernel
theorem dX10_joinGroups_34 : decode cX10_joinGroups 34 = .ok (.getfield 311, 3) := by decide +kernel
theorem dX10_joinGroups_37 : decode cX10_joinGroups 37 = .ok (.invokevirtual 374, 3) := by decide +kernel
theorem dX10_joinGroups_40 : decode cX10_joinGroups 40 = .ok (.iinc 2 1, 3) := by decide +kernel
theorem dX10_joinGroups_43 : decode cX10_joinGroups 43 = .ok (.goto (-41), 3) := by decide +kernel
theorem dX10_joinGroups_46 : decode cX10_joinGroups 46 = .ok (.return_, 1) := by decide +kernel
theorem dX10_mergeGroups_0 : decode cX10_mergeGroups 0 = .ok (.iload_n 1, 1) := by decide +kernel
theorem dX10_mergeGroups_1 : decode cX10_mergeGroups 1 = .ok (.iload_n 2, 1) := by decide +kernel
theorem dX10_mergeGroups_2 : decode cX10_mergeGroups 2 = .ok (.invokestatic 378, 3) := by decide +kernel
theorem dX10_mergeGroups_5 : decode cX10_mergeGroups 5 = .ok (.istore_n 3, 1) := by decide +kernel
theorem dX10_mergeGroups_6 : decode cX10_mergeGroups 6 = .ok (.iload_n 1, 1) := by decide +kernel
theorem dX10_mergeGroups_7 : decode cX10_mergeGroups 7 = .ok (.iload_n 2, 1) := by decide +kernel
theorem dX10_mergeGroups_8 : decode cX10_mergeGroups 8 = .ok (.invokestatic 383, 3) := by decide +kernel
theorem dX10_mergeGroups_11 : decode cX10_mergeGroups 11 = .ok (.istore 4, 2) := by decide +kernel
theorem dX10_mergeGroups_13 : decode cX10_mergeGroups 13 = .ok (.iconst 0, 1) := by decide +kernel
theorem dX10_mergeGroups_14 : decode cX10_mergeGroups 14 = .ok (.istore 5, 2) := by decide +kernel
theorem dX10_mergeGroups_16 : decode cX10_mergeGroups 16 = .ok (.iload 5, 2) := by decide +kernel
theorem dX10_mergeGroups_18 : decode cX10_mergeGroups 18 = .ok (.aload_n 0, 1) := by decide +kernel
theorem dX10_mergeGroups_19 : decode cX10_mergeGroups 19 = .ok (.getfield 86, 3) := by decide +kernel
theorem dX10_mergeGroups_22 : decode cX10_mergeGroups 22 = .ok (.if_icmp .ge 35, 3) := by decide +kernel
theorem dX10_mergeGroups_25 : decode cX10_mergeGroups 25 = .ok (.aload_n 0, 1) := by decide +kernel
theorem dX10_mergeGroups_26 : decode cX10_mergeGroups 26 = .ok (.getfield 11, 3) := by decide +kernel
theorem dX10_mergeGroups_29 : decode cX10_mergeGroups 29 = .ok (.iload 5, 2) := by decide +kernel
theorem dX10_mergeGroups_31 : decode cX10_mergeGroups 31 = .ok (.aaload, 1) := by decide +kernel
theorem dX10_mergeGroups_32 : decode cX10_mergeGroups 32 = .ok (.getfield 311, 3) := by decide +kernel
theorem dX10_mergeGroups_35 : decode cX10_mergeGroups 35 = .ok (.iload 4, 2) := by decide +kernel
theorem dX10_mergeGroups_37 : decode cX10_mergeGroups 37 = .ok (.if_icmp .ne 14, 3) := by decide +kernel
theorem dX10_mergeGroups_40 : decode cX10_mergeGroups 40 = .ok (.aload_n 0, 1) := by decide +kernel
theorem dX10_mergeGroups_41 : decode cX10_mergeGroups 41 = .ok (.getfield 11, 3) := by decide +kernel
theorem dX10_mergeGroups_44 : decode cX10_mergeGroups 44 = .ok (.iload 5, 2) := by decide +kernel
theorem dX10_mergeGroups_46 : decode cX10_mergeGroups 46 = .ok (.aaload, 1) := by decide +kernel
theorem dX10_mergeGroups_47 : decode cX10_mergeGroups 47 = .ok (.iload_n 3, 1) := by decide +kernel
theorem dX10_mergeGroups_48 : decode cX10_mergeGroups 48 = .ok (.putfield 311, 3) := by decide +kernel
theorem dX10_mergeGroups_51 : decode cX10_mergeGroups 51 = .ok (.iinc 5 1, 3) := by decide +kernel
theorem dX10_mergeGroups_54 : decode cX10_mergeGroups 54 = .ok (.goto (-38), 3) := by decide +kernel
theorem dX10_mergeGroups_57 : decode cX10_mergeGroups 57 = .ok (.return_, 1) := by decide +kernel
theorem dX10_hasVoyage_0 : decode cX10_hasVoyage 0 = .ok (.iconst 0, 1) := by decide +kernel
theorem dX10_hasVoyage_1 : decode cX10_hasVoyage 1 = .ok (.istore_n 2, 1) := by decide +kernel
theorem dX10_hasVoyage_2 : decode cX10_hasVoyage 2 = .ok (.iload_n 2, 1) := by decide +kernel
theorem dX10_hasVoyage_3 : decode cX10_hasVoyage 3 = .ok (.aload_n 0, 1) := by decide +kernel
theorem dX10_hasVoyage_4 : decode cX10_hasVoyage 4 = .ok (.getfield 99, 3) := by decide +kernel
theorem dX10_hasVoyage_7 : decode cX10_hasVoyage 7 = .ok (.if_icmp .ge 36, 3) := by decide +kernel
theorem dX10_hasVoyage_43 : decode cX10_hasVoyage 43 = .ok (.iconst 0, 1) := by decide +kernel
theorem dX10_hasVoyage_44 : decode cX10_hasVoyage 44 = .ok (.ireturn, 1) := by decide +kernel
theorem in_wsX10_days_X10 : ∀ w ∈ wsX100, w ∈ wsX10_days := fun w h => List.mem_cons_of_mem _ (List.mem_append_right _ h)
theorem in_wsX7_join_X7 : ∀ w ∈ wsX70, w ∈ wsX7_join := fun w h => List.mem_cons_of_mem _ (List.mem_append_right _ h)
theorem in_wsX10_miles_X10 : ∀ w ∈ wsX100, w ∈ wsX10_miles := fun w h => List.mem_cons_of_mem _ (List.mem_append_left _ (List.mem_append_right _ h))
theorem in_wsX6_init_X6 : ∀ w ∈ wsX60, w ∈ wsX6_init := fun w h => List.mem_cons_of_mem _ (List.mem_append_right _ h)
theorem in_wsX6_isAlike_X6 : ∀ w ∈ wsX60, w ∈ wsX6_isAlike := fun w h => List.mem_cons_of_mem _ (List.mem_append_right _ h)
theorem in_wsX10_mergeGroups_X10 : ∀ w ∈ wsX100, w ∈ wsX10_mergeGroups := fun w h => List.mem_cons_of_mem _ (List.mem_append_left _ (List.mem_append_right _ h))
theorem in_wsX10_mergeGroups_X6 : ∀ w ∈ wsX60, w ∈ wsX10_mergeGroups := fun w h => List.mem_cons_of_mem _ (List.mem_append_right _ h)
theorem in_wsX10_joinGroups_X10 : ∀ w ∈ wsX100, w ∈ wsX10_joinGroups := fun w h => List.mem_cons_of_mem _ (List.mem_append_left _ (List.mem_append_right _ h))
theorem in_wsX10_joinGroups_X6 : ∀ w ∈ wsX60, w ∈ wsX10_joinGroups := fun w h => List.mem_cons_of_mem _ (List.mem_append_right _ h)
theorem in_wsX10_man_X10 : ∀ w ∈ wsX100, w ∈ wsX10_man := fun w h => List.mem_cons_of_mem _ (List.mem_append_left _ (List.mem_append_right _ h))
theorem in_wsX10_man_X6 : ∀ w ∈ wsX60, w ∈ wsX10_man := fun w h => List.mem_cons_of_mem _ (List.mem_append_right _ h)
theorem in_wsX10_hasVoyage_X10 : ∀ w ∈ wsX100, w ∈ wsX10_hasVoyage := fun w h => List.mem_cons_of_mem _ (List.mem_append_left _ (List.mem_append_right _ h))
theorem in_wsX9_init_X9 : ∀ w ∈ wsX90, w ∈ wsX9_init := fun w h => List.mem_cons_of_mem _ (List.mem_append_right _ h)
theorem in_wsX10_voyage_X10 : ∀ w ∈ wsX100, w ∈ wsX10_voyage := fun w h => List.mem_cons_of_mem _ (List.mem_append_left _ (List.mem_append_right _ h))
theorem in_wsX10_voyage_X9 : ∀ w ∈ wsX90, w ∈ wsX10_voyage := fun w h => List.mem_cons_of_mem _ (List.mem_append_right _ h)
theorem in_wsX10_put_X10 : ∀ w ∈ wsX100, w ∈ wsX10_put := fun w h => List.mem_cons_of_mem _ (List.mem_append_right _ h)
theorem in_obj_wsX6_init : Cond.code objectInit ⟨#[0xb1]⟩ 1 none ∈ wsX6_init := List.mem_of_getElem? (i := 3) rfl
theorem in_obj_wsX9_init : Cond.code objectInit ⟨#[0xb1]⟩ 1 none ∈ wsX9_init := List.mem_of_getElem? (i := 3) rfl
theorem i_lt (a b : Int32) : a < b ↔ a.toInt < b.toInt := Int32.lt_iff_toInt_lt
theorem i_le (a b : Int32) : a ≤ b ↔ a.toInt ≤ b.toInt := Int32.le_iff_toInt_le
theorem feq {n a b : Int32} (h : ¬ n ≤ a) (h2 : n ≤ b) (h3 : b.toInt = a.toInt + 1) : n = b := by
  rw [i_le] at h h2
  exact Int32.toInt_inj.mp (by omega)
theorem ile_of_nlt {n a b : Int32} (h : ¬ a < n) (h3 : a.toInt ≤ b.toInt) : n ≤ b := by
  rw [i_lt] at h
  rw [i_le]
  omega
theorem nle_of_le {n a b : Int32} (h : a ≤ n) (h3 : b.toInt < a.toInt) : ¬ n ≤ b := by
  rw [i_le] at h
  rw [i_le]
  omega
theorem isI_lt {v : Int32} (n : Int32) (h : v < 0) : isI v n = 0 := by simp [isI, h]
theorem isI_ge {v n : Int32} (h : n ≤ v) : isI v n = 0 := by
  unfold isI
  split
  · rfl
  · simp [h]
theorem isI_in {v n : Int32} (h : ¬ v < 0) (h2 : ¬ n ≤ v) : isI v n = 1 := by simp [isI, h, h2]
theorem isI_nz {v n : Int32} (h : ¬ isI v n = 0) : 0 ≤ v.toInt ∧ v.toInt < n.toInt := by
  unfold isI at h
  split at h
  · exact absurd rfl h
  · rename_i h1
    split at h
    · exact absurd rfl h
    · rename_i h2
      rw [i_lt] at h1
      rw [i_le] at h2
      exact ⟨by have : (0 : Int32).toInt = 0 := by decide
                omega, by omega⟩
theorem ten_of {v : Int32} (h : ¬ isI v 10 = 0) : ∃ j : Nat, j < 10 ∧ v = nI j := by
  have h1 := isI_nz h
  have h2 : (10 : Int32).toInt = 10 := by decide
  exact vp_in_of (n := 10) (vp_in_iff.mpr ⟨h1.1, by omega⟩) (by decide)
theorem nI10 : (10 : Int32) = nI 10 := by decide
theorem mi_in {a b : Int32} (h : ¬ isI a 10 = 0) (h2 : ¬ isI b 10 = 0) : vp_in ((a * 10) + b) 100 := by
  obtain ⟨i, hi, rfl⟩ := ten_of h
  obtain ⟨j, hj, rfl⟩ := ten_of h2
  rw [nI10, pk_mul, nI_add]
  exact vp_in_nI (by omega) (by decide)
theorem mi_in2 {a b : Int32} (h : ¬ isI a 10 = 0) (h2 : ¬ isI b 10 = 0) : vp_in ((10 * a) + b) 100 := by
  obtain ⟨i, hi, rfl⟩ := ten_of h
  obtain ⟨j, hj, rfl⟩ := ten_of h2
  rw [nI10, pk_mul, nI_add]
  exact vp_in_nI (by omega) (by decide)
/-- the answers of the first call on a fresh object -/
def sp_days (n : Int32) : Int32 := if 1 ≤ n then (if n ≤ 3000 then n else -6) else -4
def sp_miles (a b v : Int32) : Int32 := if isI a 10 = 0 then -1 else if isI b 10 = 0 then -1 else if a = b then -1 else if 0 ≤ v then (if v ≤ 9999 then 0 else -6) else -4
def sp_man (a b d : Int32) : Int32 := if a < 0 then -4 else if b < 0 then -4 else if -30000 ≤ d then (if 9999 < a then -6 else if 99999 < b then -6 else if 0 < d then -6 else 0) else -4
def sp_voyage (a b : Int32) : Int32 := if isI a 10 = 0 then -1 else if isI b 10 = 0 then -1 else 0
def sp_feed (n : Int32) : Int32 := if 1 ≤ n then (if 8 < n then -6 else n) else -4
def sp_act (a d : Int32) : Int32 := if isI a 5 = 0 then -2 else if 0 ≤ d then (if 3000 < d then -6 else -20) else -4
def sp_count (w : Int32) : Int32 := if w < 0 then -9 else if 18 ≤ w then -9 else if w = 10 then -9 else 0
set_option maxHeartbeats 4000000 in
set_option maxRecDepth 100000 in
theorem c_X10_days (l : Launch) (dC : Nat → ClassId) (dI : Nat → Nat → Nat) (sz : Nat) (h0 : Nat) (q : Nat → Nat) (cq : Nat → ClassId) (a1 : Int32) : Met l yX10_days wsX10_days ({ frames := 1, cells := 0, slots := 0, locals := 21 }) (va_Pc [.ref h0, .int a1] (pcW (dC, dI) [((cq 15), .int)] [(h0, .inr (10, oF q)), ((q 15), .inl ((cq 15), 7, .inl (fun _ => 0)))] sz)) (va_Qi (fun (r : Int32) (u : Unit) => r = sp_days a1) (fun _ _ => True) (va_A [(h0, .inr (10, oF q)), ((q 15), .inl ((cq 15), 7, .inl (fun _ => 0)))] sz)) 0 0 (va_A [(h0, .inr (10, oF q)), ((q 15), .inl ((cq 15), 7, .inl (fun _ => 0)))] sz) := by
  refine Met.ofW (cc := cX10_days) (maxL := 2) (ret := (some .int)) (by decide) rfl ?_
  intro p e s m args below meth c s₁ B hml hv
  obtain ⟨rfl, hsz, hP, hK, hD0⟩ := hv
  have hx := B.exec
  have hb := B.bytes
  have hr := B.returns
  have hts := atoms_spec (ws := wsX10_days) B.pre
  have hown : s.vm.findClass RX10 = some m.cls := findClass_of_methodNamed B.named
  have hlocks := B.notSynchronized
  subst hsz
  have hD := hD0.self (sz := s.heap.size)
  generalize hAe : va_A [(h0, .inr (10, oF q)), ((q 15), .inl ((cq 15), 7, .inl (fun _ => 0)))] s.heap.size = A at hD ⊢
  have hA : ∀ q : Nat, s.heap.size ≤ q → A q := fun q h => by rw [← hAe]; exact Or.inr h
  have hS : va_S A s.heap s.heap [] := va_S.rf
  have hP : va_P (dC, dI) vwCl [(h0, .inr (10, oF q)), ((q 15), .inl ((cq 15), 7, .inl (fun _ => 0)))] s.heap := hP
  have hl := lv_entry ([.ref h0, .int a1]) (n := 2) (Nat.le_of_ble_eq_true rfl)
  rw [lg_entry_eq]
  generalize (lg_sl ([.ref h0, .int a1]) ++ List.replicate (2 - (lg_sl ([.ref h0, .int a1])).length) Slot.unset).toArray = ls at hl ⊢
  have hl : lv_has ls 2 [(0, .ref h0), (1, .int a1)] := hl
  refine lv_iload_n hx hb dX10_days_0 rfl (lv_at hl 1 rfl) ?_
  refine lv_iconst (v := 1) hx hb dX10_days_1 (by decide) ?_
  refine lv_icmp_ge (tgt := 12) hx hb dX10_days_2 (by decide) (fun c_1 => ?_) (fun c_1 => ?_)
  · refine lv_iload_n hx hb dX10_days_12 rfl (lv_at hl 1 rfl) ?_
    refine lv_sipush (v := 3000) hx hb dX10_days_13 (by decide) ?_
    refine lv_aload_n hx hb dX10_days_16 rfl (lv_at hl 0 rfl) ?_
    refine va_get (D := (dC, dI)) (ci := 10) (v := .int 0) (C := RX10) (T := TX10) (N := 16) hx hb hts in_wsX10_days_X10 hown hK hP 0 rfl rfl 0 (by decide) (hts (.fieldLink RX10 73 "ShipOffice" "now" "I") (by decide +kernel)) (fun _ h9 => h9) rfl dX10_days_17 ?_
    refine lv_isub hx hb dX10_days_20 ?_
    refine lv_topi (fun y ey => ?_)
    obtain rfl : y = 3000 := ey.trans (by decide)
    refine lv_icmp_le (tgt := 31) hx hb dX10_days_21 (by decide) (fun c_2 => ?_) (fun c_2 => ?_)
    · refine lv_aload_n hx hb dX10_days_31 rfl (lv_at hl 0 rfl) ?_
      refine lv_dup hx hb dX10_days_32 rfl ?_
      refine va_get (D := (dC, dI)) (ci := 10) (v := .int 0) (C := RX10) (T := TX10) (N := 16) hx hb hts in_wsX10_days_X10 hown hK hP 0 rfl rfl 0 (by decide) (hts (.fieldLink RX10 73 "ShipOffice" "now" "I") (by decide +kernel)) (fun _ h9 => h9) rfl dX10_days_33 ?_
      refine lv_iload_n hx hb dX10_days_36 rfl (lv_at hl 1 rfl) ?_
      refine lv_iadd hx hb dX10_days_37 ?_
      refine va_put (D := (dC, dI)) (ci := 10) (v := .int (0 + a1)) (ty := .int) (C := RX10) (T := TX10) (N := 16) hx hb hts in_wsX10_days_X10 tyX10 tyX10_ok nmX10 hown hK hP hD hS 0 rfl rfl 0 (by decide) (hts (.fieldLink RX10 73 "ShipOffice" "now" "I") (by decide +kernel)) (fun _ h9 => h9) rfl (by decide +kernel) rfl rfl (Nat.le_of_ble_eq_true rfl) dX10_days_38 (fun H locs hP hD hS => ?_)
      have hP : va_P (dC, dI) vwCl [(h0, .inr (10, ((oF q).set 0 (.int (0 + a1))))), ((q 15), .inl ((cq 15), 7, .inl (fun _ => 0)))] H := hP
      have hD : va_D A [(h0, .inr (10, ((oF q).set 0 (.int (0 + a1))))), ((q 15), .inl ((cq 15), 7, .inl (fun _ => 0)))] := hD
      refine lv_aload_n hx hb dX10_days_41 rfl (lv_at hl 0 rfl) ?_
      refine va_get (D := (dC, dI)) (ci := 10) (v := .int (0 + a1)) (C := RX10) (T := TX10) (N := 16) hx hb hts in_wsX10_days_X10 hown hK hP 0 rfl rfl 0 (by decide) (hts (.fieldLink RX10 73 "ShipOffice" "now" "I") (by decide +kernel)) (fun _ h9 => h9) rfl dX10_days_42 ?_
      exact W.iret (v := (0 + a1)) hx hb hr (fun t ht hW => ⟨⟨(0 + a1), (), rfl, (by simp [sp_days, c_1, c_2]), trivial⟩, hS.F ht⟩) hS.2.2 dX10_days_45
    · refine lv_aload_n hx hb dX10_days_24 rfl (lv_at hl 0 rfl) ?_
      refine lv_bipush (v := (-6)) hx hb dX10_days_25 (by decide) ?_
      have hPc := hP.sub (ws' := [(h0, .inr (10, oF q)), ((q 15), .inl ((cq 15), 7, .inl (fun _ => 0)))]) [0, 1] rfl
      have hDc := hD.sub (ws' := [(h0, .inr (10, oF q)), ((q 15), .inl ((cq 15), 7, .inl (fun _ => 0)))]) [0, 1] (by decide) rfl
      have hKc := hK.sub (tys' := [((cq 15), .int)]) [0] rfl
      have hFc := va_free (wc := [(h0, .inr (10, oF q)), ((q 15), .inl ((cq 15), 7, .inl (fun _ => 0)))]) hD hS hA [0, 1] rfl
      refine va_calli (va_runV (As := [.int (-6)]) (rest := []) ⟨hx, hb, hml, hown, hts⟩ (c_X10_refuse l dC dI s.heap.size h0 q cq (-6) (by unfold vp_in; decide)) (cwV 1 hts gX10_days_X10_refuse rfl rfl rfl (by decide +kernel) ⟨(Nat.le_of_ble_eq_true rfl), (Nat.le_of_ble_eq_true rfl)⟩) (pr_V (r := (RX10, TX10, 16)) hPc hKc hDc 0 10 rfl rfl) rfl rfl hl.1 rfl (lv_room (Nat.le_of_ble_eq_true rfl)) dX10_days_27 ⟨(Nat.le_of_ble_eq_true rfl), (Nat.le_of_ble_eq_true rfl)⟩) hS (fun q _ h => hFc q h) hFc (fun r_4 u t H locs ht hvm w_3 hB hz1 hk1 hS => ?_)
      subst w_3
      exact W.iret (v := (-6)) hx hb hr (fun t ht hW => ⟨⟨(-6), (), rfl, (by simp [sp_days, c_1, c_2]), trivial⟩, hS.F ht⟩) hS.2.2 dX10_days_30
  · refine lv_aload_n hx hb dX10_days_5 rfl (lv_at hl 0 rfl) ?_
    refine lv_bipush (v := (-4)) hx hb dX10_days_6 (by decide) ?_
    have hPc := hP.sub (ws' := [(h0, .inr (10, oF q)), ((q 15), .inl ((cq 15), 7, .inl (fun _ => 0)))]) [0, 1] rfl
    have hDc := hD.sub (ws' := [(h0, .inr (10, oF q)), ((q 15), .inl ((cq 15), 7, .inl (fun _ => 0)))]) [0, 1] (by decide) rfl
    have hKc := hK.sub (tys' := [((cq 15), .int)]) [0] rfl
    have hFc := va_free (wc := [(h0, .inr (10, oF q)), ((q 15), .inl ((cq 15), 7, .inl (fun _ => 0)))]) hD hS hA [0, 1] rfl
    refine va_calli (va_runV (As := [.int (-4)]) (rest := []) ⟨hx, hb, hml, hown, hts⟩ (c_X10_refuse l dC dI s.heap.size h0 q cq (-4) (by unfold vp_in; decide)) (cwV 1 hts gX10_days_X10_refuse rfl rfl rfl (by decide +kernel) ⟨(Nat.le_of_ble_eq_true rfl), (Nat.le_of_ble_eq_true rfl)⟩) (pr_V (r := (RX10, TX10, 16)) hPc hKc hDc 0 10 rfl rfl) rfl rfl hl.1 rfl (lv_room (Nat.le_of_ble_eq_true rfl)) dX10_days_8 ⟨(Nat.le_of_ble_eq_true rfl), (Nat.le_of_ble_eq_true rfl)⟩) hS (fun q _ h => hFc q h) hFc (fun r_6 u t H locs ht hvm w_5 hB hz1 hk1 hS => ?_)
    subst w_5
    exact W.iret (v := (-4)) hx hb hr (fun t ht hW => ⟨⟨(-4), (), rfl, (by simp [sp_days, c_1]), trivial⟩, hS.F ht⟩) hS.2.2 dX10_days_11
set_option maxHeartbeats 4000000 in
set_option maxRecDepth 100000 in
theorem c_X10_isPort (l : Launch) (dC : Nat → ClassId) (dI : Nat → Nat → Nat) (sz : Nat) (n : Int32) : Met l yX10_isPort wsX10_isPort ({ frames := 0, cells := 0, slots := 0, locals := 0 }) (va_Pc [.int n] (pcW (dC, dI) [] [] sz)) (va_Qi (fun (r : Int32) (u : Unit) => r = isI n 10) (fun _ _ => True) (va_A [] sz)) 0 0 (va_A [] sz) := by
  refine Met.ofW (cc := cX10_isPort) (maxL := 1) (ret := (some .boolean)) (by decide) rfl ?_
  intro p e s m args below meth c s₁ B hml hv
  obtain ⟨rfl, hsz, hP, hK, hD0⟩ := hv
  have hx := B.exec
  have hb := B.bytes
  have hr := B.returns
  have hts := atoms_spec (ws := wsX10_isPort) B.pre
  have hown : s.vm.findClass RX10 = some m.cls := findClass_of_methodNamed B.named
  have hlocks := B.notSynchronized
  subst hsz
  have hD := hD0
  generalize hAe : va_A [] s.heap.size = A at ⊢
  have hA : ∀ q : Nat, s.heap.size ≤ q → A q := fun q h => by rw [← hAe]; exact Or.inr h
  have hS : va_S A s.heap s.heap [] := va_S.rf
  have hP : va_P (dC, dI) vwCl [] s.heap := hP
  have hl := lv_entry ([.int n]) (n := 1) (Nat.le_of_ble_eq_true rfl)
  rw [lg_entry_eq]
  generalize (lg_sl ([.int n]) ++ List.replicate (1 - (lg_sl ([.int n])).length) Slot.unset).toArray = ls at hl ⊢
  have hl : lv_has ls 1 [(0, .int n)] := hl
  refine lv_iload_n hx hb dX10_isPort_0 rfl (lv_at hl 0 rfl) ?_
  refine lv_if_lt (tgt := 14) hx hb dX10_isPort_1 (by decide) (fun c_1 => ?_) (fun c_1 => ?_)
  · refine lv_iconst (v := 0) hx hb dX10_isPort_14 (by decide) ?_
    exact W.zret (v := 0) hx hb hr rfl (fun t ht hW => ⟨⟨0, (), rfl, (by simp [isI, c_1]), trivial⟩, hS.F ht⟩) hS.2.2 dX10_isPort_15
  · refine lv_iload_n hx hb dX10_isPort_4 rfl (lv_at hl 0 rfl) ?_
    refine lv_bipush (v := 10) hx hb dX10_isPort_5 (by decide) ?_
    refine lv_icmp_ge (tgt := 14) hx hb dX10_isPort_7 (by decide) (fun c_2 => ?_) (fun c_2 => ?_)
    · refine lv_iconst (v := 0) hx hb dX10_isPort_14 (by decide) ?_
      exact W.zret (v := 0) hx hb hr rfl (fun t ht hW => ⟨⟨0, (), rfl, (by simp [isI, c_1, c_2]), trivial⟩, hS.F ht⟩) hS.2.2 dX10_isPort_15
    · refine lv_iconst (v := 1) hx hb dX10_isPort_10 (by decide) ?_
      refine lv_goto (tgt := 15) hx hb dX10_isPort_11 (by decide) ?_
      exact W.zret (v := 1) hx hb hr rfl (fun t ht hW => ⟨⟨1, (), rfl, (by simp [isI, c_1, c_2]), trivial⟩, hS.F ht⟩) hS.2.2 dX10_isPort_15
set_option maxHeartbeats 4000000 in
set_option maxRecDepth 100000 in
theorem c_X7_join (l : Launch) (dC : Nat → ClassId) (dI : Nat → Nat → Nat) (sz : Nat) (h0 : Nat) (q : Nat → Nat) (cq : Nat → ClassId) (a b v : Int32) (h1 : vp_in ((a * 10) + b) 100) (h2 : vp_in ((b * 10) + a) 100) : Met l yX7_join wsX7_join ({ frames := 0, cells := 0, slots := 0, locals := 0 }) (va_Pc [.ref (q 10), .int a, .int b, .int v] (pcW (dC, dI) [((cq 100), .int)] [((q 10), .inr (7, [.ref (q 100), .ref (q 101)])), ((q 100), .inl ((cq 100), 100, .inl (fun _ => 0)))] sz)) (va_Qi (fun (r : Int32) (u : Unit) => r = 0) (fun _ _ => True) (va_A [((q 10), .inr (7, [.ref (q 100), .ref (q 101)])), ((q 100), .inl ((cq 100), 100, .inl (fun _ => 0)))] sz)) 0 0 (va_A [((q 10), .inr (7, [.ref (q 100), .ref (q 101)])), ((q 100), .inl ((cq 100), 100, .inl (fun _ => 0)))] sz) := by
  refine Met.ofW (cc := cX7_join) (maxL := 5) (ret := (some .int)) (by decide) rfl ?_
  intro p e s m args below meth c s₁ B hml hv
  obtain ⟨rfl, hsz, hP, hK, hD0⟩ := hv
  have hx := B.exec
  have hb := B.bytes
  have hr := B.returns
  have hts := atoms_spec (ws := wsX7_join) B.pre
  have hown : s.vm.findClass RX7 = some m.cls := findClass_of_methodNamed B.named
  have hlocks := B.notSynchronized
  subst hsz
  have hD := hD0.self (sz := s.heap.size)
  generalize hAe : va_A [((q 10), .inr (7, [.ref (q 100), .ref (q 101)])), ((q 100), .inl ((cq 100), 100, .inl (fun _ => 0)))] s.heap.size = A at hD ⊢
  have hA : ∀ q : Nat, s.heap.size ≤ q → A q := fun q h => by rw [← hAe]; exact Or.inr h
  have hS : va_S A s.heap s.heap [] := va_S.rf
  have hP : va_P (dC, dI) vwCl [((q 10), .inr (7, [.ref (q 100), .ref (q 101)])), ((q 100), .inl ((cq 100), 100, .inl (fun _ => 0)))] s.heap := hP
  have hl := lv_entry ([.ref (q 10), .int a, .int b, .int v]) (n := 5) (Nat.le_of_ble_eq_true rfl)
  rw [lg_entry_eq]
  generalize (lg_sl ([.ref (q 10), .int a, .int b, .int v]) ++ List.replicate (5 - (lg_sl ([.ref (q 10), .int a, .int b, .int v])).length) Slot.unset).toArray = ls at hl ⊢
  have hl : lv_has ls 5 [(0, .ref (q 10)), (1, .int a), (2, .int b), (3, .int v)] := hl
  refine lv_aload_n hx hb dX7_join_0 rfl (lv_at hl 0 rfl) ?_
  refine va_get (D := (dC, dI)) (ci := 7) (v := .ref (q 100)) (C := RX7) (T := TX7) (N := 2) hx hb hts in_wsX7_join_X7 hown hK hP 0 rfl rfl 0 (by decide) (hts (.fieldLink RX7 9 "ShipOffice$Sea" "miles" "[I") (by decide +kernel)) (fun _ h9 => h9) rfl dX7_join_1 ?_
  refine lv_iload_n hx hb dX7_join_4 rfl (lv_at hl 1 rfl) ?_
  refine lv_bipush (v := 10) hx hb dX7_join_5 (by decide) ?_
  refine lv_imul hx hb dX7_join_7 ?_
  refine lv_iload_n hx hb dX7_join_8 rfl (lv_at hl 2 rfl) ?_
  refine lv_iadd hx hb dX7_join_9 ?_
  refine va_iald hx hb hK hP 1 0 rfl rfl h1 dX7_join_10 ?_
  refine W.eq (g2 := F0 m 11 ls [.int 0]) rfl ?_
  refine lv_istore (lv' := [(4, .int 0), (0, .ref (q 10)), (1, .int a), (2, .int b), (3, .int v)]) hx hb dX7_join_11 hl (by decide) rfl (fun ls hl => ?_)
  refine lv_aload_n hx hb dX7_join_13 rfl (lv_at hl 1 rfl) ?_
  refine va_get (D := (dC, dI)) (ci := 7) (v := .ref (q 100)) (C := RX7) (T := TX7) (N := 2) hx hb hts in_wsX7_join_X7 hown hK hP 0 rfl rfl 0 (by decide) (hts (.fieldLink RX7 9 "ShipOffice$Sea" "miles" "[I") (by decide +kernel)) (fun _ h9 => h9) rfl dX7_join_14 ?_
  refine lv_iload_n hx hb dX7_join_17 rfl (lv_at hl 2 rfl) ?_
  refine lv_bipush (v := 10) hx hb dX7_join_18 (by decide) ?_
  refine lv_imul hx hb dX7_join_20 ?_
  refine lv_iload_n hx hb dX7_join_21 rfl (lv_at hl 3 rfl) ?_
  refine lv_iadd hx hb dX7_join_22 ?_
  refine lv_iload_n hx hb dX7_join_23 rfl (lv_at hl 4 rfl) ?_
  refine va_iast hx hb hK hP hD hS 1 0 rfl rfl h1 dX7_join_24 (fun H locs hP hD hS => ?_)
  have hP : va_P (dC, dI) vwCl [((q 10), .inr (7, [.ref (q 100), .ref (q 101)])), ((q 100), .inl ((cq 100), 100, .inl (upd (fun _ => 0) ((a * 10) + b : Int32).toNatClampNeg v)))] H := hP
  have hD : va_D A [((q 10), .inr (7, [.ref (q 100), .ref (q 101)])), ((q 100), .inl ((cq 100), 100, .inl (upd (fun _ => 0) ((a * 10) + b : Int32).toNatClampNeg v)))] := hD
  refine lv_aload_n hx hb dX7_join_25 rfl (lv_at hl 1 rfl) ?_
  refine va_get (D := (dC, dI)) (ci := 7) (v := .ref (q 100)) (C := RX7) (T := TX7) (N := 2) hx hb hts in_wsX7_join_X7 hown hK hP 0 rfl rfl 0 (by decide) (hts (.fieldLink RX7 9 "ShipOffice$Sea" "miles" "[I") (by decide +kernel)) (fun _ h9 => h9) rfl dX7_join_26 ?_
  refine lv_iload_n hx hb dX7_join_29 rfl (lv_at hl 3 rfl) ?_
  refine lv_bipush (v := 10) hx hb dX7_join_30 (by decide) ?_
  refine lv_imul hx hb dX7_join_32 ?_
  refine lv_iload_n hx hb dX7_join_33 rfl (lv_at hl 2 rfl) ?_
  refine lv_iadd hx hb dX7_join_34 ?_
  refine lv_iload_n hx hb dX7_join_35 rfl (lv_at hl 4 rfl) ?_
  refine va_iast hx hb hK hP hD hS 1 0 rfl rfl h2 dX7_join_36 (fun H locs hP hD hS => ?_)
  have hP : va_P (dC, dI) vwCl [((q 10), .inr (7, [.ref (q 100), .ref (q 101)])), ((q 100), .inl ((cq 100), 100, .inl (upd (upd (fun _ => 0) ((a * 10) + b : Int32).toNatClampNeg v) ((b * 10) + a : Int32).toNatClampNeg v)))] H := hP
  have hD : va_D A [((q 10), .inr (7, [.ref (q 100), .ref (q 101)])), ((q 100), .inl ((cq 100), 100, .inl (upd (upd (fun _ => 0) ((a * 10) + b : Int32).toNatClampNeg v) ((b * 10) + a : Int32).toNatClampNeg v)))] := hD
  refine lv_iload hx hb dX7_join_37 (lv_at hl 0 rfl) ?_
  exact W.iret (v := 0) hx hb hr (fun t ht hW => ⟨⟨0, (), rfl, rfl, trivial⟩, hS.F ht⟩) hS.2.2 dX7_join_39
set_option maxHeartbeats 4000000 in
set_option maxRecDepth 100000 in
theorem c_X10_miles (l : Launch) (dC : Nat → ClassId) (dI : Nat → Nat → Nat) (sz : Nat) (h0 : Nat) (q : Nat → Nat) (cq : Nat → ClassId) (a1 : Int32) (a2 : Int32) (a3 : Int32) : Met l yX10_miles wsX10_miles ({ frames := 1, cells := 0, slots := 0, locals := 24 }) (va_Pc [.ref h0, .int a1, .int a2, .int a3] (pcW (dC, dI) [((cq 15), .int), ((cq 100), .int)] [(h0, .inr (10, oF q)), ((q 15), .inl ((cq 15), 7, .inl (fun _ => 0))), ((q 10), .inr (7, [.ref (q 100), .ref (q 101)])), ((q 100), .inl ((cq 100), 100, .inl (fun _ => 0)))] sz)) (va_Qi (fun (r : Int32) (u : Unit) => r = sp_miles a1 a2 a3) (fun _ _ => True) (va_A [(h0, .inr (10, oF q)), ((q 15), .inl ((cq 15), 7, .inl (fun _ => 0))), ((q 10), .inr (7, [.ref (q 100), .ref (q 101)])), ((q 100), .inl ((cq 100), 100, .inl (fun _ => 0)))] sz)) 0 0 (va_A [(h0, .inr (10, oF q)), ((q 15), .inl ((cq 15), 7, .inl (fun _ => 0))), ((q 10), .inr (7, [.ref (q 100), .ref (q 101)])), ((q 100), .inl ((cq 100), 100, .inl (fun _ => 0)))] sz) := by
  refine Met.ofW (cc := cX10_miles) (maxL := 4) (ret := (some .int)) (by decide) rfl ?_
  intro p e s m args below meth c s₁ B hml hv
  obtain ⟨rfl, hsz, hP, hK, hD0⟩ := hv
  have hx := B.exec
  have hb := B.bytes
  have hr := B.returns
  have hts := atoms_spec (ws := wsX10_miles) B.pre
  have hown : s.vm.findClass RX10 = some m.cls := findClass_of_methodNamed B.named
  have hlocks := B.notSynchronized
  subst hsz
  have hD := hD0.self (sz := s.heap.size)
  generalize hAe : va_A [(h0, .inr (10, oF q)), ((q 15), .inl ((cq 15), 7, .inl (fun _ => 0))), ((q 10), .inr (7, [.ref (q 100), .ref (q 101)])), ((q 100), .inl ((cq 100), 100, .inl (fun _ => 0)))] s.heap.size = A at hD ⊢
  have hA : ∀ q : Nat, s.heap.size ≤ q → A q := fun q h => by rw [← hAe]; exact Or.inr h
  have hS : va_S A s.heap s.heap [] := va_S.rf
  have hP : va_P (dC, dI) vwCl [(h0, .inr (10, oF q)), ((q 15), .inl ((cq 15), 7, .inl (fun _ => 0))), ((q 10), .inr (7, [.ref (q 100), .ref (q 101)])), ((q 100), .inl ((cq 100), 100, .inl (fun _ => 0)))] s.heap := hP
  have hl := lv_entry ([.ref h0, .int a1, .int a2, .int a3]) (n := 4) (Nat.le_of_ble_eq_true rfl)
  rw [lg_entry_eq]
  generalize (lg_sl ([.ref h0, .int a1, .int a2, .int a3]) ++ List.replicate (4 - (lg_sl ([.ref h0, .int a1, .int a2, .int a3])).length) Slot.unset).toArray = ls at hl ⊢
  have hl : lv_has ls 4 [(0, .ref h0), (1, .int a1), (2, .int a2), (3, .int a3)] := hl
  refine lv_iload_n hx hb dX10_miles_0 rfl (lv_at hl 1 rfl) ?_
  have hPc := hP.sub (ws' := []) [] rfl
  have hDc := hD.sub (ws' := []) [] (by decide) rfl
  have hKc := hK.sub (tys' := []) [] rfl
  have hFc : ∀ q, va_A [] s.heap.size q → A q := pu_free hS hA
  refine va_calli (va_runS (As := [.int a1]) (rest := []) ⟨hx, hb, hml, hown, hts⟩ (c_X10_isPort l dC dI s.heap.size a1) (va_cwS 1 hts gX10_miles_X10_isPort rfl rfl rfl (by decide +kernel) ⟨(Nat.le_of_ble_eq_true rfl), (Nat.le_of_ble_eq_true rfl)⟩) (pr_S hPc hKc hDc) rfl rfl hl.1 rfl (lv_room (Nat.le_of_ble_eq_true rfl)) dX10_miles_1 ⟨(Nat.le_of_ble_eq_true rfl), (Nat.le_of_ble_eq_true rfl)⟩) hS (fun q _ h => hFc q h) hFc (fun r_2 u t H locs ht hvm w_1 hB hz1 hk1 hS => ?_)
  have hP := pu_keep hP hk1
  clear hk1 hz1 hvm hB hPc hDc hKc hFc ht
  subst w_1
  refine lv_if_eq (tgt := 19) hx hb dX10_miles_4 (by decide) (fun c_3 => ?_) (fun c_3 => ?_)
  · refine lv_aload_n hx hb dX10_miles_19 rfl (lv_at hl 0 rfl) ?_
    refine lv_iconst (v := (-1)) hx hb dX10_miles_20 (by decide) ?_
    have hPc := hP.sub (ws' := [(h0, .inr (10, oF q)), ((q 15), .inl ((cq 15), 7, .inl (fun _ => 0)))]) [0, 1] rfl
    have hDc := hD.sub (ws' := [(h0, .inr (10, oF q)), ((q 15), .inl ((cq 15), 7, .inl (fun _ => 0)))]) [0, 1] (by decide) rfl
    have hKc := hK.sub (tys' := [((cq 15), .int)]) [0] rfl
    have hFc := va_free (wc := [(h0, .inr (10, oF q)), ((q 15), .inl ((cq 15), 7, .inl (fun _ => 0)))]) hD hS hA [0, 1] rfl
    refine va_calli (va_runV (As := [.int (-1)]) (rest := []) ⟨hx, hb, hml, hown, hts⟩ (c_X10_refuse l dC dI H.size h0 q cq (-1) (by unfold vp_in; decide)) (cwV 1 hts gX10_miles_X10_refuse rfl rfl rfl (by decide +kernel) ⟨(Nat.le_of_ble_eq_true rfl), (Nat.le_of_ble_eq_true rfl)⟩) (pr_V (r := (RX10, TX10, 16)) hPc hKc hDc 0 10 rfl rfl) rfl rfl hl.1 rfl (lv_room (Nat.le_of_ble_eq_true rfl)) dX10_miles_21 ⟨(Nat.le_of_ble_eq_true rfl), (Nat.le_of_ble_eq_true rfl)⟩) hS (fun q _ h => hFc q h) hFc (fun r_5 u t H locs ht hvm w_4 hB hz1 hk1 hS => ?_)
    subst w_4
    exact W.iret (v := (-1)) hx hb hr (fun t ht hW => ⟨⟨(-1), (), rfl, (by simp [sp_miles, c_3]), trivial⟩, hS.F ht⟩) hS.2.2 dX10_miles_24
  · refine lv_iload_n hx hb dX10_miles_7 rfl (lv_at hl 2 rfl) ?_
    have hPc := hP.sub (ws' := []) [] rfl
    have hDc := hD.sub (ws' := []) [] (by decide) rfl
    have hKc := hK.sub (tys' := []) [] rfl
    have hFc : ∀ q, va_A [] H.size q → A q := pu_free hS hA
    refine va_calli (va_runS (As := [.int a2]) (rest := []) ⟨hx, hb, hml, hown, hts⟩ (c_X10_isPort l dC dI H.size a2) (va_cwS 1 hts gX10_miles_X10_isPort rfl rfl rfl (by decide +kernel) ⟨(Nat.le_of_ble_eq_true rfl), (Nat.le_of_ble_eq_true rfl)⟩) (pr_S hPc hKc hDc) rfl rfl hl.1 rfl (lv_room (Nat.le_of_ble_eq_true rfl)) dX10_miles_8 ⟨(Nat.le_of_ble_eq_true rfl), (Nat.le_of_ble_eq_true rfl)⟩) hS (fun q _ h => hFc q h) hFc (fun r_7 u t H locs ht hvm w_6 hB hz1 hk1 hS => ?_)
    have hP := pu_keep hP hk1
    clear hk1 hz1 hvm hB hPc hDc hKc hFc ht
    subst w_6
    refine lv_if_eq (tgt := 19) hx hb dX10_miles_11 (by decide) (fun c_8 => ?_) (fun c_8 => ?_)
    · refine lv_aload_n hx hb dX10_miles_19 rfl (lv_at hl 0 rfl) ?_
      refine lv_iconst (v := (-1)) hx hb dX10_miles_20 (by decide) ?_
      have hPc := hP.sub (ws' := [(h0, .inr (10, oF q)), ((q 15), .inl ((cq 15), 7, .inl (fun _ => 0)))]) [0, 1] rfl
      have hDc := hD.sub (ws' := [(h0, .inr (10, oF q)), ((q 15), .inl ((cq 15), 7, .inl (fun _ => 0)))]) [0, 1] (by decide) rfl
      have hKc := hK.sub (tys' := [((cq 15), .int)]) [0] rfl
      have hFc := va_free (wc := [(h0, .inr (10, oF q)), ((q 15), .inl ((cq 15), 7, .inl (fun _ => 0)))]) hD hS hA [0, 1] rfl
      refine va_calli (va_runV (As := [.int (-1)]) (rest := []) ⟨hx, hb, hml, hown, hts⟩ (c_X10_refuse l dC dI H.size h0 q cq (-1) (by unfold vp_in; decide)) (cwV 1 hts gX10_miles_X10_refuse rfl rfl rfl (by decide +kernel) ⟨(Nat.le_of_ble_eq_true rfl), (Nat.le_of_ble_eq_true rfl)⟩) (pr_V (r := (RX10, TX10, 16)) hPc hKc hDc 0 10 rfl rfl) rfl rfl hl.1 rfl (lv_room (Nat.le_of_ble_eq_true rfl)) dX10_miles_21 ⟨(Nat.le_of_ble_eq_true rfl), (Nat.le_of_ble_eq_true rfl)⟩) hS (fun q _ h => hFc q h) hFc (fun r_10 u t H locs ht hvm w_9 hB hz1 hk1 hS => ?_)
      subst w_9
      exact W.iret (v := (-1)) hx hb hr (fun t ht hW => ⟨⟨(-1), (), rfl, (by simp [sp_miles, c_3, c_8]), trivial⟩, hS.F ht⟩) hS.2.2 dX10_miles_24
    · refine lv_iload_n hx hb dX10_miles_14 rfl (lv_at hl 1 rfl) ?_
      refine lv_iload_n hx hb dX10_miles_15 rfl (lv_at hl 2 rfl) ?_
      refine lv_icmp_ne (tgt := 25) hx hb dX10_miles_16 (by decide) (fun c_11 => ?_) (fun c_11 => ?_)
      · refine lv_iload_n hx hb dX10_miles_25 rfl (lv_at hl 3 rfl) ?_
        refine lv_if_ge (tgt := 36) hx hb dX10_miles_26 (by decide) (fun c_12 => ?_) (fun c_12 => ?_)
        · refine lv_iload_n hx hb dX10_miles_36 rfl (lv_at hl 3 rfl) ?_
          refine lv_sipush (v := 9999) hx hb dX10_miles_37 (by decide) ?_
          refine lv_icmp_le (tgt := 50) hx hb dX10_miles_40 (by decide) (fun c_13 => ?_) (fun c_13 => ?_)
          · refine lv_aload_n hx hb dX10_miles_50 rfl (lv_at hl 0 rfl) ?_
            refine va_get (D := (dC, dI)) (ci := 10) (v := .ref (q 10)) (C := RX10) (T := TX10) (N := 16) hx hb hts in_wsX10_miles_X10 hown hK hP 0 rfl rfl 10 (by decide) (hts (.fieldLink RX10 44 "ShipOffice" "sea" "LShipOffice$Sea;") (by decide +kernel)) (fun _ h9 => h9) rfl dX10_miles_51 ?_
            refine lv_iload_n hx hb dX10_miles_54 rfl (lv_at hl 1 rfl) ?_
            refine lv_iload_n hx hb dX10_miles_55 rfl (lv_at hl 2 rfl) ?_
            refine lv_iload_n hx hb dX10_miles_56 rfl (lv_at hl 3 rfl) ?_
            have hPc := hP.sub (ws' := [((q 10), .inr (7, [.ref (q 100), .ref (q 101)])), ((q 100), .inl ((cq 100), 100, .inl (fun _ => 0)))]) [2, 3] rfl
            have hDc := hD.sub (ws' := [((q 10), .inr (7, [.ref (q 100), .ref (q 101)])), ((q 100), .inl ((cq 100), 100, .inl (fun _ => 0)))]) [2, 3] (by decide) rfl
            have hKc := hK.sub (tys' := [((cq 100), .int)]) [1] rfl
            have hFc := va_free (wc := [((q 10), .inr (7, [.ref (q 100), .ref (q 101)])), ((q 100), .inl ((cq 100), 100, .inl (fun _ => 0)))]) hD hS hA [2, 3] rfl
            refine va_calli (va_runV (As := [.int a1, .int a2, .int a3]) (rest := []) ⟨hx, hb, hml, hown, hts⟩ (c_X7_join l dC dI H.size h0 q cq a1 a2 a3 (mi_in c_3 c_8) (mi_in c_8 c_3)) (cwV 3 hts gX10_miles_X7_join rfl rfl rfl (by decide +kernel) ⟨(Nat.le_of_ble_eq_true rfl), (Nat.le_of_ble_eq_true rfl)⟩) (pr_V (r := (RX7, TX7, 2)) hPc hKc hDc 0 7 rfl rfl) rfl rfl hl.1 rfl (lv_room (Nat.le_of_ble_eq_true rfl)) dX10_miles_57 ⟨(Nat.le_of_ble_eq_true rfl), (Nat.le_of_ble_eq_true rfl)⟩) hS (fun q _ h => hFc q h) hFc (fun r_15 u t H locs ht hvm w_14 hB hz1 hk1 hS => ?_)
            subst w_14
            exact W.iret (v := 0) hx hb hr (fun t ht hW => ⟨⟨0, (), rfl, (by simp [sp_miles, c_3, c_8, c_11, c_12, c_13]), trivial⟩, hS.F ht⟩) hS.2.2 dX10_miles_60
          · refine lv_aload_n hx hb dX10_miles_43 rfl (lv_at hl 0 rfl) ?_
            refine lv_bipush (v := (-6)) hx hb dX10_miles_44 (by decide) ?_
            have hPc := hP.sub (ws' := [(h0, .inr (10, oF q)), ((q 15), .inl ((cq 15), 7, .inl (fun _ => 0)))]) [0, 1] rfl
            have hDc := hD.sub (ws' := [(h0, .inr (10, oF q)), ((q 15), .inl ((cq 15), 7, .inl (fun _ => 0)))]) [0, 1] (by decide) rfl
            have hKc := hK.sub (tys' := [((cq 15), .int)]) [0] rfl
            have hFc := va_free (wc := [(h0, .inr (10, oF q)), ((q 15), .inl ((cq 15), 7, .inl (fun _ => 0)))]) hD hS hA [0, 1] rfl
            refine va_calli (va_runV (As := [.int (-6)]) (rest := []) ⟨hx, hb, hml, hown, hts⟩ (c_X10_refuse l dC dI H.size h0 q cq (-6) (by unfold vp_in; decide)) (cwV 1 hts gX10_miles_X10_refuse rfl rfl rfl (by decide +kernel) ⟨(Nat.le_of_ble_eq_true rfl), (Nat.le_of_ble_eq_true rfl)⟩) (pr_V (r := (RX10, TX10, 16)) hPc hKc hDc 0 10 rfl rfl) rfl rfl hl.1 rfl (lv_room (Nat.le_of_ble_eq_true rfl)) dX10_miles_46 ⟨(Nat.le_of_ble_eq_true rfl), (Nat.le_of_ble_eq_true rfl)⟩) hS (fun q _ h => hFc q h) hFc (fun r_17 u t H locs ht hvm w_16 hB hz1 hk1 hS => ?_)
            subst w_16
            exact W.iret (v := (-6)) hx hb hr (fun t ht hW => ⟨⟨(-6), (), rfl, (by simp [sp_miles, c_3, c_8, c_11, c_12, c_13]), trivial⟩, hS.F ht⟩) hS.2.2 dX10_miles_49
        · refine lv_aload_n hx hb dX10_miles_29 rfl (lv_at hl 0 rfl) ?_
          refine lv_bipush (v := (-4)) hx hb dX10_miles_30 (by decide) ?_
          have hPc := hP.sub (ws' := [(h0, .inr (10, oF q)), ((q 15), .inl ((cq 15), 7, .inl (fun _ => 0)))]) [0, 1] rfl
          have hDc := hD.sub (ws' := [(h0, .inr (10, oF q)), ((q 15), .inl ((cq 15), 7, .inl (fun _ => 0)))]) [0, 1] (by decide) rfl
          have hKc := hK.sub (tys' := [((cq 15), .int)]) [0] rfl
          have hFc := va_free (wc := [(h0, .inr (10, oF q)), ((q 15), .inl ((cq 15), 7, .inl (fun _ => 0)))]) hD hS hA [0, 1] rfl
          refine va_calli (va_runV (As := [.int (-4)]) (rest := []) ⟨hx, hb, hml, hown, hts⟩ (c_X10_refuse l dC dI H.size h0 q cq (-4) (by unfold vp_in; decide)) (cwV 1 hts gX10_miles_X10_refuse rfl rfl rfl (by decide +kernel) ⟨(Nat.le_of_ble_eq_true rfl), (Nat.le_of_ble_eq_true rfl)⟩) (pr_V (r := (RX10, TX10, 16)) hPc hKc hDc 0 10 rfl rfl) rfl rfl hl.1 rfl (lv_room (Nat.le_of_ble_eq_true rfl)) dX10_miles_32 ⟨(Nat.le_of_ble_eq_true rfl), (Nat.le_of_ble_eq_true rfl)⟩) hS (fun q _ h => hFc q h) hFc (fun r_19 u t H locs ht hvm w_18 hB hz1 hk1 hS => ?_)
          subst w_18
          exact W.iret (v := (-4)) hx hb hr (fun t ht hW => ⟨⟨(-4), (), rfl, (by simp [sp_miles, c_3, c_8, c_11, c_12]), trivial⟩, hS.F ht⟩) hS.2.2 dX10_miles_35
      · refine lv_aload_n hx hb dX10_miles_19 rfl (lv_at hl 0 rfl) ?_
        refine lv_iconst (v := (-1)) hx hb dX10_miles_20 (by decide) ?_
        have hPc := hP.sub (ws' := [(h0, .inr (10, oF q)), ((q 15), .inl ((cq 15), 7, .inl (fun _ => 0)))]) [0, 1] rfl
        have hDc := hD.sub (ws' := [(h0, .inr (10, oF q)), ((q 15), .inl ((cq 15), 7, .inl (fun _ => 0)))]) [0, 1] (by decide) rfl
        have hKc := hK.sub (tys' := [((cq 15), .int)]) [0] rfl
        have hFc := va_free (wc := [(h0, .inr (10, oF q)), ((q 15), .inl ((cq 15), 7, .inl (fun _ => 0)))]) hD hS hA [0, 1] rfl
        refine va_calli (va_runV (As := [.int (-1)]) (rest := []) ⟨hx, hb, hml, hown, hts⟩ (c_X10_refuse l dC dI H.size h0 q cq (-1) (by unfold vp_in; decide)) (cwV 1 hts gX10_miles_X10_refuse rfl rfl rfl (by decide +kernel) ⟨(Nat.le_of_ble_eq_true rfl), (Nat.le_of_ble_eq_true rfl)⟩) (pr_V (r := (RX10, TX10, 16)) hPc hKc hDc 0 10 rfl rfl) rfl rfl hl.1 rfl (lv_room (Nat.le_of_ble_eq_true rfl)) dX10_miles_21 ⟨(Nat.le_of_ble_eq_true rfl), (Nat.le_of_ble_eq_true rfl)⟩) hS (fun q _ h => hFc q h) hFc (fun r_21 u t H locs ht hvm w_20 hB hz1 hk1 hS => ?_)
        subst w_20
        exact W.iret (v := (-1)) hx hb hr (fun t ht hW => ⟨⟨(-1), (), rfl, (by simp [sp_miles, c_3, c_8, c_11]), trivial⟩, hS.F ht⟩) hS.2.2 dX10_miles_24
set_option maxHeartbeats 4000000 in
set_option maxRecDepth 100000 in
theorem c_X6_init (l : Launch) (dC : Nat → ClassId) (dI : Nat → Nat → Nat) (sz : Nat) (g1 : Nat) (x1 x2 x3 x4 : Int32) : Met l yX6_init wsX6_init ({ frames := 1, cells := 1, slots := 4, locals := 14 }) (va_Pc [.ref g1, .int x1, .int x2, .int x3, .int x4] (pcW (dC, dI) [] [(g1, .inr (6, [.int 0, .int 0, .int 0, .int 0, .null, .int 0]))] sz)) (va_Qv (fun (u : Nat × ClassId) => True) (fun u t => va_P (dC, dI) vwCl [(g1, .inr (6, [.int x1, .int x2, .int x3, .int x4, .ref u.1, .int x1])), (u.1, .inl (u.2, 4, .inl (fun _ => 0)))] t.heap ∧ va_K (dC, dI) vwCl [(u.2, .int)] t ∧ va_D (va_A [(g1, .inr (6, [.int 0, .int 0, .int 0, .int 0, .null, .int 0]))] sz) [(g1, .inr (6, [.int x1, .int x2, .int x3, .int x4, .ref u.1, .int x1])), (u.1, .inl (u.2, 4, .inl (fun _ => 0)))]) (va_A [(g1, .inr (6, [.int 0, .int 0, .int 0, .int 0, .null, .int 0]))] sz)) 1 4 (va_A [(g1, .inr (6, [.int 0, .int 0, .int 0, .int 0, .null, .int 0]))] sz) := by
  refine Met.ofW (cc := cX6_init) (maxL := 5) (ret := none) (by decide) rfl ?_
  intro p e s m args below meth c s₁ B hml hv
  obtain ⟨rfl, hsz, hP, hK, hD0⟩ := hv
  have hx := B.exec
  have hb := B.bytes
  have hr := B.returns
  have hts := atoms_spec (ws := wsX6_init) B.pre
  have hown : s.vm.findClass RX6 = some m.cls := findClass_of_methodNamed B.named
  have hlocks := B.notSynchronized
  have hin : meth.name = "<init>" := (name_of_methodNamed B.named B.method).1
  subst hsz
  have hD := hD0.self (sz := s.heap.size)
  generalize hAe : va_A [(g1, .inr (6, [.int 0, .int 0, .int 0, .int 0, .null, .int 0]))] s.heap.size = A at hD ⊢
  have hA : ∀ q : Nat, s.heap.size ≤ q → A q := fun q h => by rw [← hAe]; exact Or.inr h
  have hS : va_S A s.heap s.heap [] := va_S.rf
  have hP : va_P (dC, dI) vwCl [(g1, .inr (6, [.int 0, .int 0, .int 0, .int 0, .null, .int 0]))] s.heap := hP
  have hl := lv_entry ([.ref g1, .int x1, .int x2, .int x3, .int x4]) (n := 5) (Nat.le_of_ble_eq_true rfl)
  rw [lg_entry_eq]
  generalize (lg_sl ([.ref g1, .int x1, .int x2, .int x3, .int x4]) ++ List.replicate (5 - (lg_sl ([.ref g1, .int x1, .int x2, .int x3, .int x4])).length) Slot.unset).toArray = ls at hl ⊢
  have hl : lv_has ls 5 [(0, .ref g1), (1, .int x1), (2, .int x2), (3, .int x3), (4, .int x4)] := hl
  refine lv_aload_n hx hb dX6_init_0 rfl (lv_at hl 0 rfl) ?_
  refine W.objInit hx hb hown (hts (.methodLink RX6 3 objectInit) (by decide +kernel)) (hts (.instanceMethod objectInit) (by decide +kernel)) (hts (.code objectInit ⟨#[0xb1]⟩ 1 none) (in_obj_wsX6_init)) rfl (by rw [hml]; exact hl.1) rfl dX6_init_1 (Nat.le_of_ble_eq_true rfl) (Nat.le_of_ble_eq_true rfl) ?_
  refine W.eq (g2 := F0 m 4 ls []) rfl ?_
  refine lv_aload_n hx hb dX6_init_4 rfl (lv_at hl 0 rfl) ?_
  refine lv_iconst (v := 4) hx hb dX6_init_5 (by decide) ?_
  refine va_newa (atype := .int) (ty := .int) (a0 := (4, .inl (fun _ => 0))) hx hb (hts (.arrayClass .int) (by decide +kernel)) rfl hK hP hD hS hA (fun _ => rfl) (by decide) (by decide) (by decide) (Nat.le_of_ble_eq_true rfl) (Nat.le_of_ble_eq_true rfl) dX6_init_6 (fun q_1 k_2 H hK hP hD hS => ?_)
  have hP : va_P (dC, dI) vwCl [(g1, .inr (6, [.int 0, .int 0, .int 0, .int 0, .null, .int 0])), (q_1, .inl (k_2, 4, .inl (fun _ => 0)))] H := hP
  have hD : va_D A [(g1, .inr (6, [.int 0, .int 0, .int 0, .int 0, .null, .int 0])), (q_1, .inl (k_2, 4, .inl (fun _ => 0)))] := hD
  have hK : va_K (dC, dI) vwCl [(k_2, .int)] s := hK
  refine W.widen (k := 1) (n := 4) (Nat.le_of_ble_eq_true rfl) (Nat.le_of_ble_eq_true rfl) ?_
  refine va_putF (D := (dC, dI)) (ci := 6) (v := .ref q_1) (ty := .array .int) (C := RX6) (T := TX6) (N := 6) hx hb hts in_wsX6_init_X6 tyX6 tyX6_ok nmX6 hown hK hP hD hS 0 rfl rfl 4 (by decide) (hts (.fieldLink RX6 9 "ShipOffice$Man" "wages" "[I") (by decide +kernel)) (fun _ h9 => h9) rfl hin rfl (by decide +kernel) rfl rfl (Nat.le_of_ble_eq_true rfl) dX6_init_8 (fun H locs hP hD hS => ?_)
  have hP : va_P (dC, dI) vwCl [(g1, .inr (6, [.int 0, .int 0, .int 0, .int 0, .ref q_1, .int 0])), (q_1, .inl (k_2, 4, .inl (fun _ => 0)))] H := hP
  have hD : va_D A [(g1, .inr (6, [.int 0, .int 0, .int 0, .int 0, .ref q_1, .int 0])), (q_1, .inl (k_2, 4, .inl (fun _ => 0)))] := hD
  refine lv_aload_n hx hb dX6_init_11 rfl (lv_at hl 0 rfl) ?_
  refine lv_iload_n hx hb dX6_init_12 rfl (lv_at hl 1 rfl) ?_
  refine va_putF (D := (dC, dI)) (ci := 6) (v := .int x1) (ty := .int) (C := RX6) (T := TX6) (N := 6) hx hb hts in_wsX6_init_X6 tyX6 tyX6_ok nmX6 hown hK hP hD hS 0 rfl rfl 0 (by decide) (hts (.fieldLink RX6 15 "ShipOffice$Man" "number" "I") (by decide +kernel)) (fun _ h9 => h9) rfl hin rfl (by decide +kernel) rfl rfl (Nat.le_of_ble_eq_true rfl) dX6_init_13 (fun H locs hP hD hS => ?_)
  have hP : va_P (dC, dI) vwCl [(g1, .inr (6, [.int x1, .int 0, .int 0, .int 0, .ref q_1, .int 0])), (q_1, .inl (k_2, 4, .inl (fun _ => 0)))] H := hP
  have hD : va_D A [(g1, .inr (6, [.int x1, .int 0, .int 0, .int 0, .ref q_1, .int 0])), (q_1, .inl (k_2, 4, .inl (fun _ => 0)))] := hD
  refine lv_aload_n hx hb dX6_init_16 rfl (lv_at hl 0 rfl) ?_
  refine lv_iload_n hx hb dX6_init_17 rfl (lv_at hl 2 rfl) ?_
  refine va_putF (D := (dC, dI)) (ci := 6) (v := .int x2) (ty := .int) (C := RX6) (T := TX6) (N := 6) hx hb hts in_wsX6_init_X6 tyX6 tyX6_ok nmX6 hown hK hP hD hS 0 rfl rfl 1 (by decide) (hts (.fieldLink RX6 19 "ShipOffice$Man" "name" "I") (by decide +kernel)) (fun _ h9 => h9) rfl hin rfl (by decide +kernel) rfl rfl (Nat.le_of_ble_eq_true rfl) dX6_init_18 (fun H locs hP hD hS => ?_)
  have hP : va_P (dC, dI) vwCl [(g1, .inr (6, [.int x1, .int x2, .int 0, .int 0, .ref q_1, .int 0])), (q_1, .inl (k_2, 4, .inl (fun _ => 0)))] H := hP
  have hD : va_D A [(g1, .inr (6, [.int x1, .int x2, .int 0, .int 0, .ref q_1, .int 0])), (q_1, .inl (k_2, 4, .inl (fun _ => 0)))] := hD
  refine lv_aload_n hx hb dX6_init_21 rfl (lv_at hl 0 rfl) ?_
  refine lv_iload_n hx hb dX6_init_22 rfl (lv_at hl 3 rfl) ?_
  refine va_putF (D := (dC, dI)) (ci := 6) (v := .int x3) (ty := .int) (C := RX6) (T := TX6) (N := 6) hx hb hts in_wsX6_init_X6 tyX6 tyX6_ok nmX6 hown hK hP hD hS 0 rfl rfl 2 (by decide) (hts (.fieldLink RX6 22 "ShipOffice$Man" "marks" "I") (by decide +kernel)) (fun _ h9 => h9) rfl hin rfl (by decide +kernel) rfl rfl (Nat.le_of_ble_eq_true rfl) dX6_init_23 (fun H locs hP hD hS => ?_)
  have hP : va_P (dC, dI) vwCl [(g1, .inr (6, [.int x1, .int x2, .int x3, .int 0, .ref q_1, .int 0])), (q_1, .inl (k_2, 4, .inl (fun _ => 0)))] H := hP
  have hD : va_D A [(g1, .inr (6, [.int x1, .int x2, .int x3, .int 0, .ref q_1, .int 0])), (q_1, .inl (k_2, 4, .inl (fun _ => 0)))] := hD
  refine lv_aload_n hx hb dX6_init_26 rfl (lv_at hl 0 rfl) ?_
  refine lv_iload hx hb dX6_init_27 (lv_at hl 4 rfl) ?_
  refine va_putF (D := (dC, dI)) (ci := 6) (v := .int x4) (ty := .int) (C := RX6) (T := TX6) (N := 6) hx hb hts in_wsX6_init_X6 tyX6 tyX6_ok nmX6 hown hK hP hD hS 0 rfl rfl 3 (by decide) (hts (.fieldLink RX6 25 "ShipOffice$Man" "born" "I") (by decide +kernel)) (fun _ h9 => h9) rfl hin rfl (by decide +kernel) rfl rfl (Nat.le_of_ble_eq_true rfl) dX6_init_29 (fun H locs hP hD hS => ?_)
  have hP : va_P (dC, dI) vwCl [(g1, .inr (6, [.int x1, .int x2, .int x3, .int x4, .ref q_1, .int 0])), (q_1, .inl (k_2, 4, .inl (fun _ => 0)))] H := hP
  have hD : va_D A [(g1, .inr (6, [.int x1, .int x2, .int x3, .int x4, .ref q_1, .int 0])), (q_1, .inl (k_2, 4, .inl (fun _ => 0)))] := hD
  refine lv_aload_n hx hb dX6_init_32 rfl (lv_at hl 0 rfl) ?_
  refine lv_iload_n hx hb dX6_init_33 rfl (lv_at hl 1 rfl) ?_
  refine va_put (D := (dC, dI)) (ci := 6) (v := .int x1) (ty := .int) (C := RX6) (T := TX6) (N := 6) hx hb hts in_wsX6_init_X6 tyX6 tyX6_ok nmX6 hown hK hP hD hS 0 rfl rfl 5 (by decide) (hts (.fieldLink RX6 28 "ShipOffice$Man" "leastAlike" "I") (by decide +kernel)) (fun _ h9 => h9) rfl (by decide +kernel) rfl rfl (Nat.le_of_ble_eq_true rfl) dX6_init_34 (fun H locs hP hD hS => ?_)
  have hP : va_P (dC, dI) vwCl [(g1, .inr (6, [.int x1, .int x2, .int x3, .int x4, .ref q_1, .int x1])), (q_1, .inl (k_2, 4, .inl (fun _ => 0)))] H := hP
  have hD : va_D A [(g1, .inr (6, [.int x1, .int x2, .int x3, .int x4, .ref q_1, .int x1])), (q_1, .inl (k_2, 4, .inl (fun _ => 0)))] := hD
  have hP9 := hP.sub (ws' := [(g1, .inr (6, [.int x1, .int x2, .int x3, .int x4, .ref q_1, .int x1])), (q_1, .inl (k_2, 4, .inl (fun _ => 0)))]) [0, 1] rfl
  have hD9 := hD.sub (ws' := [(g1, .inr (6, [.int x1, .int x2, .int x3, .int x4, .ref q_1, .int x1])), (q_1, .inl (k_2, 4, .inl (fun _ => 0)))]) [0, 1] (by decide) rfl
  have hK9 := hK.sub (tys' := [(k_2, .int)]) [0] rfl
  subst hAe
  exact W.vret hx hb hr (fun t ht hW => ⟨⟨(q_1, k_2), rfl, trivial, ⟨by rw [ht]; exact hP9, va_K.moved hW.alike hK9, hD9⟩⟩, hS.F ht⟩) hS.2.2 dX6_init_37
set_option maxHeartbeats 4000000 in
set_option maxRecDepth 100000 in
theorem c_X6_isAlike (l : Launch) (dC : Nat → ClassId) (dI : Nat → Nat → Nat) (sz : Nat) (g1 g2 : Nat) (x2 x3 x4 : Int32) : Met l yX6_isAlike wsX6_isAlike ({ frames := 0, cells := 0, slots := 0, locals := 0 }) (va_Pc [.ref g1, .ref g1] (pcW (dC, dI) [] [(g1, .inr (6, [.int 0, .int x2, .int x3, .int x4, .ref g2, .int 0]))] sz)) (va_Qi (fun (r : Int32) (u : Unit) => r = 1) (fun _ _ => True) (va_A [] sz)) 0 0 (va_A [] sz) := by
  refine Met.ofW (cc := cX6_isAlike) (maxL := 2) (ret := (some .boolean)) (by decide) rfl ?_
  intro p e s m args below meth c s₁ B hml hv
  obtain ⟨rfl, hsz, hP, hK, hD0⟩ := hv
  have hx := B.exec
  have hb := B.bytes
  have hr := B.returns
  have hts := atoms_spec (ws := wsX6_isAlike) B.pre
  have hown : s.vm.findClass RX6 = some m.cls := findClass_of_methodNamed B.named
  have hlocks := B.notSynchronized
  subst hsz
  have hD := hD0
  generalize hAe : va_A [] s.heap.size = A at ⊢
  have hA : ∀ q : Nat, s.heap.size ≤ q → A q := fun q h => by rw [← hAe]; exact Or.inr h
  have hS : va_S A s.heap s.heap [] := va_S.rf
  have hP : va_P (dC, dI) vwCl [(g1, .inr (6, [.int 0, .int x2, .int x3, .int x4, .ref g2, .int 0]))] s.heap := hP
  have hl := lv_entry ([.ref g1, .ref g1]) (n := 2) (Nat.le_of_ble_eq_true rfl)
  rw [lg_entry_eq]
  generalize (lg_sl ([.ref g1, .ref g1]) ++ List.replicate (2 - (lg_sl ([.ref g1, .ref g1])).length) Slot.unset).toArray = ls at hl ⊢
  have hl : lv_has ls 2 [(0, .ref g1), (1, .ref g1)] := hl
  refine lv_aload_n hx hb dX6_isAlike_0 rfl (lv_at hl 0 rfl) ?_
  refine va_get (D := (dC, dI)) (ci := 6) (v := .int x3) (C := RX6) (T := TX6) (N := 6) hx hb hts in_wsX6_isAlike_X6 hown hK hP 0 rfl rfl 2 (by decide) (hts (.fieldLink RX6 22 "ShipOffice$Man" "marks" "I") (by decide +kernel)) (fun _ h9 => h9) rfl dX6_isAlike_1 ?_
  refine lv_aload_n hx hb dX6_isAlike_4 rfl (lv_at hl 1 rfl) ?_
  refine va_get (D := (dC, dI)) (ci := 6) (v := .int x3) (C := RX6) (T := TX6) (N := 6) hx hb hts in_wsX6_isAlike_X6 hown hK hP 0 rfl rfl 2 (by decide) (hts (.fieldLink RX6 22 "ShipOffice$Man" "marks" "I") (by decide +kernel)) (fun _ h9 => h9) rfl dX6_isAlike_5 ?_
  refine lv_icmp_eq (tgt := 37) hx hb dX6_isAlike_8 (by decide) (fun c_1 => ?_) (fun c_1 => absurd c_1 (fun h => h rfl))
  refine lv_iconst (v := 1) hx hb dX6_isAlike_37 (by decide) ?_
  refine lv_goto (tgt := 42) hx hb dX6_isAlike_38 (by decide) ?_
  exact W.zret (v := 1) hx hb hr rfl (fun t ht hW => ⟨⟨1, (), rfl, rfl, trivial⟩, hS.F ht⟩) hS.2.2 dX6_isAlike_42
set_option maxHeartbeats 4000000 in
set_option maxRecDepth 100000 in
theorem c_X10_mergeGroups (l : Launch) (dC : Nat → ClassId) (dI : Nat → Nat → Nat) (sz : Nat) (h0 : Nat) (q : Nat → Nat) (cq : Nat → ClassId) (g1 g2 : Nat) (x2 x3 x4 : Int32) : Met l yX10_mergeGroups wsX10_mergeGroups ({ frames := 1, cells := 0, slots := 0, locals := 16 }) (va_Pc [.ref h0, .int 0, .int 0] (pcW (dC, dI) [((cq 1), .object RX6)] [(h0, .inr (10, ((oF q).set 2 (.int 1)))), ((q 1), .inl ((cq 1), 40, .inr (.inr (.inr (.inr (va_up (fun _ => none) (0 : Int32).toNatClampNeg (some g1))))))), (g1, .inr (6, [.int 0, .int x2, .int x3, .int x4, .ref g2, .int 0]))] sz)) (va_Qv (fun (u : Unit) => True) (fun u t => va_P (dC, dI) vwCl [(h0, .inr (10, ((oF q).set 2 (.int 1)))), ((q 1), .inl ((cq 1), 40, .inr (.inr (.inr (.inr (va_up (fun _ => none) (0 : Int32).toNatClampNeg (some g1))))))), (g1, .inr (6, [.int 0, .int x2, .int x3, .int x4, .ref g2, .int 0]))] t.heap ∧ va_K (dC, dI) vwCl [((cq 1), .object RX6)] t ∧ va_D (va_A [(h0, .inr (10, ((oF q).set 2 (.int 1)))), ((q 1), .inl ((cq 1), 40, .inr (.inr (.inr (.inr (va_up (fun _ => none) (0 : Int32).toNatClampNeg (some g1))))))), (g1, .inr (6, [.int 0, .int x2, .int x3, .int x4, .ref g2, .int 0]))] sz) [(h0, .inr (10, ((oF q).set 2 (.int 1)))), ((q 1), .inl ((cq 1), 40, .inr (.inr (.inr (.inr (va_up (fun _ => none) (0 : Int32).toNatClampNeg (some g1))))))), (g1, .inr (6, [.int 0, .int x2, .int x3, .int x4, .ref g2, .int 0]))]) (va_A [(h0, .inr (10, ((oF q).set 2 (.int 1)))), ((q 1), .inl ((cq 1), 40, .inr (.inr (.inr (.inr (va_up (fun _ => none) (0 : Int32).toNatClampNeg (some g1))))))), (g1, .inr (6, [.int 0, .int x2, .int x3, .int x4, .ref g2, .int 0]))] sz)) 0 0 (va_A [(h0, .inr (10, ((oF q).set 2 (.int 1)))), ((q 1), .inl ((cq 1), 40, .inr (.inr (.inr (.inr (va_up (fun _ => none) (0 : Int32).toNatClampNeg (some g1))))))), (g1, .inr (6, [.int 0, .int x2, .int x3, .int x4, .ref g2, .int 0]))] sz) := by
  refine Met.ofW (cc := cX10_mergeGroups) (maxL := 6) (ret := none) (by decide) rfl ?_
  intro p e s m args below meth c s₁ B hml hv
  obtain ⟨rfl, hsz, hP, hK, hD0⟩ := hv
  have hx := B.exec
  have hb := B.bytes
  have hr := B.returns
  have hts := atoms_spec (ws := wsX10_mergeGroups) B.pre
  have hown : s.vm.findClass RX10 = some m.cls := findClass_of_methodNamed B.named
  have hlocks := B.notSynchronized
  subst hsz
  have hD := hD0.self (sz := s.heap.size)
  generalize hAe : va_A [(h0, .inr (10, ((oF q).set 2 (.int 1)))), ((q 1), .inl ((cq 1), 40, .inr (.inr (.inr (.inr (va_up (fun _ => none) (0 : Int32).toNatClampNeg (some g1))))))), (g1, .inr (6, [.int 0, .int x2, .int x3, .int x4, .ref g2, .int 0]))] s.heap.size = A at hD ⊢
  have hA : ∀ q : Nat, s.heap.size ≤ q → A q := fun q h => by rw [← hAe]; exact Or.inr h
  have hS : va_S A s.heap s.heap [] := va_S.rf
  have hP : va_P (dC, dI) vwCl [(h0, .inr (10, ((oF q).set 2 (.int 1)))), ((q 1), .inl ((cq 1), 40, .inr (.inr (.inr (.inr (va_up (fun _ => none) (0 : Int32).toNatClampNeg (some g1))))))), (g1, .inr (6, [.int 0, .int x2, .int x3, .int x4, .ref g2, .int 0]))] s.heap := hP
  have hl := lv_entry ([.ref h0, .int 0, .int 0]) (n := 6) (Nat.le_of_ble_eq_true rfl)
  rw [lg_entry_eq]
  generalize (lg_sl ([.ref h0, .int 0, .int 0]) ++ List.replicate (6 - (lg_sl ([.ref h0, .int 0, .int 0])).length) Slot.unset).toArray = ls at hl ⊢
  have hl : lv_has ls 6 [(0, .ref h0), (1, .int 0), (2, .int 0)] := hl
  refine lv_iload_n hx hb dX10_mergeGroups_0 rfl (lv_at hl 1 rfl) ?_
  refine lv_iload_n hx hb dX10_mergeGroups_1 rfl (lv_at hl 2 rfl) ?_
  refine va_mmin hx hb (by rw [hml]; exact hl.1.symm) hown (hts (.methodLink RX10 378 Lib.Math.min.name) (by decide +kernel)) (hts (.static Lib.Math.min.name) (by decide +kernel)) (hts (.initialized "java/lang/Math") (by decide +kernel)) (hts (.code Lib.Math.min.name Lib.Math.min.code 2 (some .int)) (by decide +kernel)) (Nat.le_of_ble_eq_true rfl) (Nat.le_of_ble_eq_true rfl) (Nat.le_of_ble_eq_true rfl) (Nat.le_of_ble_eq_true rfl) dX10_mergeGroups_2 ?_
  refine lv_topi (fun y ey => ?_)
  obtain rfl : y = 0 := ey.trans (by decide)
  refine lv_istore_n (lv' := [(3, .int 0), (0, .ref h0), (1, .int 0), (2, .int 0)]) hx hb dX10_mergeGroups_5 rfl hl (by decide) rfl (fun ls hl => ?_)
  refine lv_iload_n hx hb dX10_mergeGroups_6 rfl (lv_at hl 2 rfl) ?_
  refine lv_iload_n hx hb dX10_mergeGroups_7 rfl (lv_at hl 3 rfl) ?_
  refine va_mmax hx hb (by rw [hml]; exact hl.1.symm) hown (hts (.methodLink RX10 383 Lib.Math.max.name) (by decide +kernel)) (hts (.static Lib.Math.max.name) (by decide +kernel)) (hts (.initialized "java/lang/Math") (by decide +kernel)) (hts (.code Lib.Math.max.name Lib.Math.max.code 2 (some .int)) (by decide +kernel)) (Nat.le_of_ble_eq_true rfl) (Nat.le_of_ble_eq_true rfl) (Nat.le_of_ble_eq_true rfl) (Nat.le_of_ble_eq_true rfl) dX10_mergeGroups_8 ?_
  refine lv_topi (fun y ey => ?_)
  obtain rfl : y = 0 := ey.trans (by decide)
  refine lv_istore (lv' := [(4, .int 0), (3, .int 0), (0, .ref h0), (1, .int 0), (2, .int 0)]) hx hb dX10_mergeGroups_11 hl (by decide) rfl (fun ls hl => ?_)
  refine lv_iconst (v := 0) hx hb dX10_mergeGroups_13 (by decide) ?_
  refine lv_istore (lv' := [(5, .int 0), (4, .int 0), (3, .int 0), (0, .ref h0), (1, .int 0), (2, .int 0)]) hx hb dX10_mergeGroups_14 hl (by decide) rfl (fun ls hl => ?_)
  refine lv_iload hx hb dX10_mergeGroups_16 (lv_at hl 0 rfl) ?_
  refine lv_aload_n hx hb dX10_mergeGroups_18 rfl (lv_at hl 3 rfl) ?_
  refine va_get (D := (dC, dI)) (ci := 10) (v := .int 1) (C := RX10) (T := TX10) (N := 16) hx hb hts in_wsX10_mergeGroups_X10 hown hK hP 0 rfl rfl 2 (by decide) (hts (.fieldLink RX10 86 "ShipOffice" "manCount" "I") (by decide +kernel)) (fun _ h9 => h9) rfl dX10_mergeGroups_19 ?_
  refine lv_icmp_ge (tgt := 57) hx hb dX10_mergeGroups_22 (by decide) (fun c_1 => absurd c_1 (by decide)) (fun _ => ?_)
  refine lv_aload_n hx hb dX10_mergeGroups_25 rfl (lv_at hl 3 rfl) ?_
  refine va_get (D := (dC, dI)) (ci := 10) (v := .ref (q 1)) (C := RX10) (T := TX10) (N := 16) hx hb hts in_wsX10_mergeGroups_X10 hown hK hP 0 rfl rfl 1 (by decide) (hts (.fieldLink RX10 11 "ShipOffice" "men" "[LShipOffice$Man;") (by decide +kernel)) (fun _ h9 => h9) rfl dX10_mergeGroups_26 ?_
  refine lv_iload hx hb dX10_mergeGroups_29 (lv_at hl 0 rfl) ?_
  refine va_aldq hx hb hK hP 1 0 rfl rfl (by unfold vp_in; decide) dX10_mergeGroups_31 ?_
  refine W.eq (g2 := F0 m 32 ls [.ref g1]) rfl ?_
  refine va_get (D := (dC, dI)) (ci := 6) (v := .int 0) (C := RX6) (T := TX6) (N := 6) hx hb hts in_wsX10_mergeGroups_X6 hown hK hP 2 rfl rfl 5 (by decide) (hts (.fieldLink RX10 311 "ShipOffice$Man" "leastAlike" "I") (by decide +kernel)) (fun _ h9 => h9) rfl dX10_mergeGroups_32 ?_
  refine lv_iload hx hb dX10_mergeGroups_35 (lv_at hl 1 rfl) ?_
  refine lv_icmp_ne (tgt := 51) hx hb dX10_mergeGroups_37 (by decide) (fun c_2 => absurd c_2 (by decide)) (fun _ => ?_)
  refine lv_aload_n hx hb dX10_mergeGroups_40 rfl (lv_at hl 3 rfl) ?_
  refine va_get (D := (dC, dI)) (ci := 10) (v := .ref (q 1)) (C := RX10) (T := TX10) (N := 16) hx hb hts in_wsX10_mergeGroups_X10 hown hK hP 0 rfl rfl 1 (by decide) (hts (.fieldLink RX10 11 "ShipOffice" "men" "[LShipOffice$Man;") (by decide +kernel)) (fun _ h9 => h9) rfl dX10_mergeGroups_41 ?_
  refine lv_iload hx hb dX10_mergeGroups_44 (lv_at hl 0 rfl) ?_
  refine va_aldq hx hb hK hP 1 0 rfl rfl (by unfold vp_in; decide) dX10_mergeGroups_46 ?_
  refine W.eq (g2 := F0 m 47 ls [.ref g1]) rfl ?_
  refine lv_iload_n hx hb dX10_mergeGroups_47 rfl (lv_at hl 2 rfl) ?_
  refine va_put (D := (dC, dI)) (ci := 6) (v := .int 0) (ty := .int) (C := RX6) (T := TX6) (N := 6) hx hb hts in_wsX10_mergeGroups_X6 tyX6 tyX6_ok nmX6 hown hK hP hD hS 2 rfl rfl 5 (by decide) (hts (.fieldLink RX10 311 "ShipOffice$Man" "leastAlike" "I") (by decide +kernel)) (fun _ h9 => h9) rfl (by decide +kernel) rfl rfl (Nat.le_of_ble_eq_true rfl) dX10_mergeGroups_48 (fun H locs hP hD hS => ?_)
  have hP : va_P (dC, dI) vwCl [(h0, .inr (10, ((oF q).set 2 (.int 1)))), ((q 1), .inl ((cq 1), 40, .inr (.inr (.inr (.inr (va_up (fun _ => none) (0 : Int32).toNatClampNeg (some g1))))))), (g1, .inr (6, [.int 0, .int x2, .int x3, .int x4, .ref g2, .int 0]))] H := hP
  have hD : va_D A [(h0, .inr (10, ((oF q).set 2 (.int 1)))), ((q 1), .inl ((cq 1), 40, .inr (.inr (.inr (.inr (va_up (fun _ => none) (0 : Int32).toNatClampNeg (some g1))))))), (g1, .inr (6, [.int 0, .int x2, .int x3, .int x4, .ref g2, .int 0]))] := hD
  refine lv_iinc (v := 1) (lv' := [(5, .int 1), (4, .int 0), (3, .int 0), (0, .ref h0), (1, .int 0), (2, .int 0)]) hx hb dX10_mergeGroups_51 hl (k := 0) rfl (by decide) (by decide) rfl (fun ls hl => ?_)
  refine lv_goto (tgt := 16) hx hb dX10_mergeGroups_54 (by decide) ?_
  refine lv_iload hx hb dX10_mergeGroups_16 (lv_at hl 0 rfl) ?_
  refine lv_aload_n hx hb dX10_mergeGroups_18 rfl (lv_at hl 3 rfl) ?_
  refine va_get (D := (dC, dI)) (ci := 10) (v := .int 1) (C := RX10) (T := TX10) (N := 16) hx hb hts in_wsX10_mergeGroups_X10 hown hK hP 0 rfl rfl 2 (by decide) (hts (.fieldLink RX10 86 "ShipOffice" "manCount" "I") (by decide +kernel)) (fun _ h9 => h9) rfl dX10_mergeGroups_19 ?_
  refine lv_icmp_ge (tgt := 57) hx hb dX10_mergeGroups_22 (by decide) (fun _ => ?_) (fun c_3 => absurd c_3 (by decide))
  have hP9 := hP.sub (ws' := [(h0, .inr (10, ((oF q).set 2 (.int 1)))), ((q 1), .inl ((cq 1), 40, .inr (.inr (.inr (.inr (va_up (fun _ => none) (0 : Int32).toNatClampNeg (some g1))))))), (g1, .inr (6, [.int 0, .int x2, .int x3, .int x4, .ref g2, .int 0]))]) [0, 1, 2] rfl
  have hD9 := hD.sub (ws' := [(h0, .inr (10, ((oF q).set 2 (.int 1)))), ((q 1), .inl ((cq 1), 40, .inr (.inr (.inr (.inr (va_up (fun _ => none) (0 : Int32).toNatClampNeg (some g1))))))), (g1, .inr (6, [.int 0, .int x2, .int x3, .int x4, .ref g2, .int 0]))]) [0, 1, 2] (by decide) rfl
  have hK9 := hK.sub (tys' := [((cq 1), .object RX6)]) [0] rfl
  subst hAe
  exact W.vret hx hb hr (fun t ht hW => ⟨⟨(), rfl, trivial, ⟨by rw [ht]; exact hP9, va_K.moved hW.alike hK9, hD9⟩⟩, hS.F ht⟩) hS.2.2 dX10_mergeGroups_57
set_option maxHeartbeats 4000000 in
set_option maxRecDepth 100000 in
theorem c_X10_joinGroups (l : Launch) (dC : Nat → ClassId) (dI : Nat → Nat → Nat) (sz : Nat) (h0 : Nat) (q : Nat → Nat) (cq : Nat → ClassId) (g1 g2 : Nat) (x2 x3 x4 : Int32) : Met l yX10_joinGroups wsX10_joinGroups ({ frames := 2, cells := 0, slots := 0, locals := 41 }) (va_Pc [.ref h0, .ref g1] (pcW (dC, dI) [((cq 1), .object RX6)] [(h0, .inr (10, ((oF q).set 2 (.int 1)))), ((q 1), .inl ((cq 1), 40, .inr (.inr (.inr (.inr (va_up (fun _ => none) (0 : Int32).toNatClampNeg (some g1))))))), (g1, .inr (6, [.int 0, .int x2, .int x3, .int x4, .ref g2, .int 0]))] sz)) (va_Qv (fun (u : Unit) => True) (fun u t => va_P (dC, dI) vwCl [(h0, .inr (10, ((oF q).set 2 (.int 1)))), ((q 1), .inl ((cq 1), 40, .inr (.inr (.inr (.inr (va_up (fun _ => none) (0 : Int32).toNatClampNeg (some g1))))))), (g1, .inr (6, [.int 0, .int x2, .int x3, .int x4, .ref g2, .int 0]))] t.heap ∧ va_K (dC, dI) vwCl [((cq 1), .object RX6)] t ∧ va_D (va_A [(h0, .inr (10, ((oF q).set 2 (.int 1)))), ((q 1), .inl ((cq 1), 40, .inr (.inr (.inr (.inr (va_up (fun _ => none) (0 : Int32).toNatClampNeg (some g1))))))), (g1, .inr (6, [.int 0, .int x2, .int x3, .int x4, .ref g2, .int 0]))] sz) [(h0, .inr (10, ((oF q).set 2 (.int 1)))), ((q 1), .inl ((cq 1), 40, .inr (.inr (.inr (.inr (va_up (fun _ => none) (0 : Int32).toNatClampNeg (some g1))))))), (g1, .inr (6, [.int 0, .int x2, .int x3, .int x4, .ref g2, .int 0]))]) (va_A [(h0, .inr (10, ((oF q).set 2 (.int 1)))), ((q 1), .inl ((cq 1), 40, .inr (.inr (.inr (.inr (va_up (fun _ => none) (0 : Int32).toNatClampNeg (some g1))))))), (g1, .inr (6, [.int 0, .int x2, .int x3, .int x4, .ref g2, .int 0]))] sz)) 0 0 (va_A [(h0, .inr (10, ((oF q).set 2 (.int 1)))), ((q 1), .inl ((cq 1), 40, .inr (.inr (.inr (.inr (va_up (fun _ => none) (0 : Int32).toNatClampNeg (some g1))))))), (g1, .inr (6, [.int 0, .int x2, .int x3, .int x4, .ref g2, .int 0]))] sz) := by
  refine Met.ofW (cc := cX10_joinGroups) (maxL := 3) (ret := none) (by decide) rfl ?_
  intro p e s m args below meth c s₁ B hml hv
  obtain ⟨rfl, hsz, hP, hK, hD0⟩ := hv
  have hx := B.exec
  have hb := B.bytes
  have hr := B.returns
  have hts := atoms_spec (ws := wsX10_joinGroups) B.pre
  have hown : s.vm.findClass RX10 = some m.cls := findClass_of_methodNamed B.named
  have hlocks := B.notSynchronized
  subst hsz
  have hD := hD0.self (sz := s.heap.size)
  generalize hAe : va_A [(h0, .inr (10, ((oF q).set 2 (.int 1)))), ((q 1), .inl ((cq 1), 40, .inr (.inr (.inr (.inr (va_up (fun _ => none) (0 : Int32).toNatClampNeg (some g1))))))), (g1, .inr (6, [.int 0, .int x2, .int x3, .int x4, .ref g2, .int 0]))] s.heap.size = A at hD ⊢
  have hA : ∀ q : Nat, s.heap.size ≤ q → A q := fun q h => by rw [← hAe]; exact Or.inr h
  have hS : va_S A s.heap s.heap [] := va_S.rf
  have hP : va_P (dC, dI) vwCl [(h0, .inr (10, ((oF q).set 2 (.int 1)))), ((q 1), .inl ((cq 1), 40, .inr (.inr (.inr (.inr (va_up (fun _ => none) (0 : Int32).toNatClampNeg (some g1))))))), (g1, .inr (6, [.int 0, .int x2, .int x3, .int x4, .ref g2, .int 0]))] s.heap := hP
  have hl := lv_entry ([.ref h0, .ref g1]) (n := 3) (Nat.le_of_ble_eq_true rfl)
  rw [lg_entry_eq]
  generalize (lg_sl ([.ref h0, .ref g1]) ++ List.replicate (3 - (lg_sl ([.ref h0, .ref g1])).length) Slot.unset).toArray = ls at hl ⊢
  have hl : lv_has ls 3 [(0, .ref h0), (1, .ref g1)] := hl
  refine lv_iconst (v := 0) hx hb dX10_joinGroups_0 (by decide) ?_
  refine lv_istore_n (lv' := [(2, .int 0), (0, .ref h0), (1, .ref g1)]) hx hb dX10_joinGroups_1 rfl hl (by decide) rfl (fun ls hl => ?_)
  refine lv_iload_n hx hb dX10_joinGroups_2 rfl (lv_at hl 0 rfl) ?_
  refine lv_aload_n hx hb dX10_joinGroups_3 rfl (lv_at hl 1 rfl) ?_
  refine va_get (D := (dC, dI)) (ci := 10) (v := .int 1) (C := RX10) (T := TX10) (N := 16) hx hb hts in_wsX10_joinGroups_X10 hown hK hP 0 rfl rfl 2 (by decide) (hts (.fieldLink RX10 86 "ShipOffice" "manCount" "I") (by decide +kernel)) (fun _ h9 => h9) rfl dX10_joinGroups_4 ?_
  refine lv_icmp_ge (tgt := 46) hx hb dX10_joinGroups_7 (by decide) (fun c_1 => absurd c_1 (by decide)) (fun _ => ?_)
  refine lv_aload_n hx hb dX10_joinGroups_10 rfl (lv_at hl 2 rfl) ?_
  refine lv_aload_n hx hb dX10_joinGroups_11 rfl (lv_at hl 1 rfl) ?_
  refine va_get (D := (dC, dI)) (ci := 10) (v := .ref (q 1)) (C := RX10) (T := TX10) (N := 16) hx hb hts in_wsX10_joinGroups_X10 hown hK hP 0 rfl rfl 1 (by decide) (hts (.fieldLink RX10 11 "ShipOffice" "men" "[LShipOffice$Man;") (by decide +kernel)) (fun _ h9 => h9) rfl dX10_joinGroups_12 ?_
  refine lv_iload_n hx hb dX10_joinGroups_15 rfl (lv_at hl 0 rfl) ?_
  refine va_aldq hx hb hK hP 1 0 rfl rfl (by unfold vp_in; decide) dX10_joinGroups_16 ?_
  refine W.eq (g2 := F0 m 17 ls [.ref g1, .ref g1]) rfl ?_
  have hPc := hP.sub (ws' := [(g1, .inr (6, [.int 0, .int x2, .int x3, .int x4, .ref g2, .int 0]))]) [2] rfl
  have hDc := hD.sub (ws' := [(g1, .inr (6, [.int 0, .int x2, .int x3, .int x4, .ref g2, .int 0]))]) [2] (by decide) rfl
  have hKc := hK.sub (tys' := []) [] rfl
  have hFc : ∀ q, va_A [] s.heap.size q → A q := pu_free hS hA
  refine va_calli (va_runV (As := [.ref g1]) (rest := []) ⟨hx, hb, hml, hown, hts⟩ (c_X6_isAlike l dC dI s.heap.size g1 g2 x2 x3 x4) (cwV 1 hts gX10_joinGroups_X6_isAlike rfl rfl rfl (by decide +kernel) ⟨(Nat.le_of_ble_eq_true rfl), (Nat.le_of_ble_eq_true rfl)⟩) (pr_V (r := (RX6, TX6, 6)) hPc hKc hDc 0 6 rfl rfl) rfl rfl hl.1 rfl (lv_room (Nat.le_of_ble_eq_true rfl)) dX10_joinGroups_17 ⟨(Nat.le_of_ble_eq_true rfl), (Nat.le_of_ble_eq_true rfl)⟩) hS (fun q _ h => hFc q h) hFc (fun r_3 u t H locs ht hvm w_2 hB hz1 hk1 hS => ?_)
  have hP := pu_keep hP hk1
  clear hk1 hz1 hvm hB hPc hDc hKc hFc ht
  subst w_2
  refine lv_if_eq (tgt := 40) hx hb dX10_joinGroups_20 (by decide) (fun c_4 => absurd c_4 (by decide)) (fun _ => ?_)
  refine lv_aload_n hx hb dX10_joinGroups_23 rfl (lv_at hl 1 rfl) ?_
  refine lv_aload_n hx hb dX10_joinGroups_24 rfl (lv_at hl 2 rfl) ?_
  refine va_get (D := (dC, dI)) (ci := 6) (v := .int 0) (C := RX6) (T := TX6) (N := 6) hx hb hts in_wsX10_joinGroups_X6 hown hK hP 2 rfl rfl 5 (by decide) (hts (.fieldLink RX10 311 "ShipOffice$Man" "leastAlike" "I") (by decide +kernel)) (fun _ h9 => h9) rfl dX10_joinGroups_25 ?_
  refine lv_aload_n hx hb dX10_joinGroups_28 rfl (lv_at hl 1 rfl) ?_
  refine va_get (D := (dC, dI)) (ci := 10) (v := .ref (q 1)) (C := RX10) (T := TX10) (N := 16) hx hb hts in_wsX10_joinGroups_X10 hown hK hP 0 rfl rfl 1 (by decide) (hts (.fieldLink RX10 11 "ShipOffice" "men" "[LShipOffice$Man;") (by decide +kernel)) (fun _ h9 => h9) rfl dX10_joinGroups_29 ?_
  refine lv_iload_n hx hb dX10_joinGroups_32 rfl (lv_at hl 0 rfl) ?_
  refine va_aldq hx hb hK hP 1 0 rfl rfl (by unfold vp_in; decide) dX10_joinGroups_33 ?_
  refine W.eq (g2 := F0 m 34 ls [.ref g1, .int 0, .ref h0]) rfl ?_
  refine va_get (D := (dC, dI)) (ci := 6) (v := .int 0) (C := RX6) (T := TX6) (N := 6) hx hb hts in_wsX10_joinGroups_X6 hown hK hP 2 rfl rfl 5 (by decide) (hts (.fieldLink RX10 311 "ShipOffice$Man" "leastAlike" "I") (by decide +kernel)) (fun _ h9 => h9) rfl dX10_joinGroups_34 ?_
  have hPc := hP.sub (ws' := [(h0, .inr (10, ((oF q).set 2 (.int 1)))), ((q 1), .inl ((cq 1), 40, .inr (.inr (.inr (.inr (va_up (fun _ => none) (0 : Int32).toNatClampNeg (some g1))))))), (g1, .inr (6, [.int 0, .int x2, .int x3, .int x4, .ref g2, .int 0]))]) [0, 1, 2] rfl
  have hDc := hD.sub (ws' := [(h0, .inr (10, ((oF q).set 2 (.int 1)))), ((q 1), .inl ((cq 1), 40, .inr (.inr (.inr (.inr (va_up (fun _ => none) (0 : Int32).toNatClampNeg (some g1))))))), (g1, .inr (6, [.int 0, .int x2, .int x3, .int x4, .ref g2, .int 0]))]) [0, 1, 2] (by decide) rfl
  have hKc := hK.sub (tys' := [((cq 1), .object RX6)]) [0] rfl
  have hFc := va_free (wc := [(h0, .inr (10, ((oF q).set 2 (.int 1)))), ((q 1), .inl ((cq 1), 40, .inr (.inr (.inr (.inr (va_up (fun _ => none) (0 : Int32).toNatClampNeg (some g1))))))), (g1, .inr (6, [.int 0, .int x2, .int x3, .int x4, .ref g2, .int 0]))]) hD hS hA [0, 1, 2] rfl
  refine va_callv (va_runV (As := [.int 0, .int 0]) (rest := []) ⟨hx, hb, hml, hown, hts⟩ (c_X10_mergeGroups l dC dI H.size h0 q cq g1 g2 x2 x3 x4) (cwV 2 hts gX10_joinGroups_X10_mergeGroups rfl rfl rfl (by decide +kernel) ⟨(Nat.le_of_ble_eq_true rfl), (Nat.le_of_ble_eq_true rfl)⟩) (pr_V (r := (RX10, TX10, 16)) hPc hKc hDc 0 10 rfl rfl) rfl rfl hl.1 rfl (lv_room (Nat.le_of_ble_eq_true rfl)) dX10_joinGroups_37 ⟨(Nat.le_of_ble_eq_true rfl), (Nat.le_of_ble_eq_true rfl)⟩) hS (fun q _ h => hFc q h) hFc (fun u t H locs ht hvm w_5 hB hz1 hk1 hS => ?_)
  obtain ⟨hP1, hK1, hD1⟩ := hB
  rw [ht] at hP1
  have hK1 := va_K.moved hvm.symm hK1
  obtain ⟨hP, hD⟩ := va_join (wr := []) (w1 := [(h0, .inr (10, ((oF q).set 2 (.int 1)))), ((q 1), .inl ((cq 1), 40, .inr (.inr (.inr (.inr (va_up (fun _ => none) (0 : Int32).toNatClampNeg (some g1))))))), (g1, .inr (6, [.int 0, .int x2, .int x3, .int x4, .ref g2, .int 0]))]) hP hD [0, 1, 2] [] rfl rfl (by decide) (by decide) hk1 hFc hP1 hD1
  have hK := hK.app hK1
  have hP : va_P (dC, dI) vwCl [(h0, .inr (10, ((oF q).set 2 (.int 1)))), ((q 1), .inl ((cq 1), 40, .inr (.inr (.inr (.inr (va_up (fun _ => none) (0 : Int32).toNatClampNeg (some g1))))))), (g1, .inr (6, [.int 0, .int x2, .int x3, .int x4, .ref g2, .int 0]))] H := hP
  have hD : va_D A [(h0, .inr (10, ((oF q).set 2 (.int 1)))), ((q 1), .inl ((cq 1), 40, .inr (.inr (.inr (.inr (va_up (fun _ => none) (0 : Int32).toNatClampNeg (some g1))))))), (g1, .inr (6, [.int 0, .int x2, .int x3, .int x4, .ref g2, .int 0]))] := hD
  have hK : va_K (dC, dI) vwCl [((cq 1), .object RX6), ((cq 1), .object RX6)] s := hK
  clear hP1 hK1 hD1 hk1 hz1 hvm ht hPc hDc hKc hFc
  refine lv_iinc (v := 1) (lv' := [(2, .int 1), (0, .ref h0), (1, .ref g1)]) hx hb dX10_joinGroups_40 hl (k := 0) rfl (by decide) (by decide) rfl (fun ls hl => ?_)
  refine lv_goto (tgt := 2) hx hb dX10_joinGroups_43 (by decide) ?_
  refine lv_iload_n hx hb dX10_joinGroups_2 rfl (lv_at hl 0 rfl) ?_
  refine lv_aload_n hx hb dX10_joinGroups_3 rfl (lv_at hl 1 rfl) ?_
  refine va_get (D := (dC, dI)) (ci := 10) (v := .int 1) (C := RX10) (T := TX10) (N := 16) hx hb hts in_wsX10_joinGroups_X10 hown hK hP 0 rfl rfl 2 (by decide) (hts (.fieldLink RX10 86 "ShipOffice" "manCount" "I") (by decide +kernel)) (fun _ h9 => h9) rfl dX10_joinGroups_4 ?_
  refine lv_icmp_ge (tgt := 46) hx hb dX10_joinGroups_7 (by decide) (fun _ => ?_) (fun c_7 => absurd c_7 (by decide))
  have hP9 := hP.sub (ws' := [(h0, .inr (10, ((oF q).set 2 (.int 1)))), ((q 1), .inl ((cq 1), 40, .inr (.inr (.inr (.inr (va_up (fun _ => none) (0 : Int32).toNatClampNeg (some g1))))))), (g1, .inr (6, [.int 0, .int x2, .int x3, .int x4, .ref g2, .int 0]))]) [0, 1, 2] rfl
  have hD9 := hD.sub (ws' := [(h0, .inr (10, ((oF q).set 2 (.int 1)))), ((q 1), .inl ((cq 1), 40, .inr (.inr (.inr (.inr (va_up (fun _ => none) (0 : Int32).toNatClampNeg (some g1))))))), (g1, .inr (6, [.int 0, .int x2, .int x3, .int x4, .ref g2, .int 0]))]) [0, 1, 2] (by decide) rfl
  have hK9 := hK.sub (tys' := [((cq 1), .object RX6)]) [0] rfl
  subst hAe
  exact W.vret hx hb hr (fun t ht hW => ⟨⟨(), rfl, trivial, ⟨by rw [ht]; exact hP9, va_K.moved hW.alike hK9, hD9⟩⟩, hS.F ht⟩) hS.2.2 dX10_joinGroups_46
set_option maxHeartbeats 4000000 in
set_option maxRecDepth 100000 in
theorem c_X10_man (l : Launch) (dC : Nat → ClassId) (dI : Nat → Nat → Nat) (sz : Nat) (h0 : Nat) (q : Nat → Nat) (cq : Nat → ClassId) (a1 : Int32) (a2 : Int32) (a3 : Int32) : Met l yX10_man wsX10_man ({ frames := 3, cells := 2, slots := 10, locals := 63 }) (va_Pc [.ref h0, .int a1, .int a2, .int a3] (pcW (dC, dI) [((cq 15), .int), ((cq 1), .object RX6)] [(h0, .inr (10, oF q)), ((q 15), .inl ((cq 15), 7, .inl (fun _ => 0))), ((q 1), .inl ((cq 1), 40, .inr (.inr (.inr (.inr (fun _ => none))))))] sz)) (va_Qi (fun (r : Int32) (u : Unit) => r = sp_man a1 a2 a3) (fun _ _ => True) (va_A [(h0, .inr (10, oF q)), ((q 15), .inl ((cq 15), 7, .inl (fun _ => 0))), ((q 1), .inl ((cq 1), 40, .inr (.inr (.inr (.inr (fun _ => none))))))] sz)) 2 10 (va_A [(h0, .inr (10, oF q)), ((q 15), .inl ((cq 15), 7, .inl (fun _ => 0))), ((q 1), .inl ((cq 1), 40, .inr (.inr (.inr (.inr (fun _ => none))))))] sz) := by
  refine Met.ofW (cc := cX10_man) (maxL := 4) (ret := (some .int)) (by decide) rfl ?_
  intro p e s m args below meth c s₁ B hml hv
  obtain ⟨rfl, hsz, hP, hK, hD0⟩ := hv
  have hx := B.exec
  have hb := B.bytes
  have hr := B.returns
  have hts := atoms_spec (ws := wsX10_man) B.pre
  have hown : s.vm.findClass RX10 = some m.cls := findClass_of_methodNamed B.named
  have hlocks := B.notSynchronized
  subst hsz
  have hD := hD0.self (sz := s.heap.size)
  generalize hAe : va_A [(h0, .inr (10, oF q)), ((q 15), .inl ((cq 15), 7, .inl (fun _ => 0))), ((q 1), .inl ((cq 1), 40, .inr (.inr (.inr (.inr (fun _ => none))))))] s.heap.size = A at hD ⊢
  have hA : ∀ q : Nat, s.heap.size ≤ q → A q := fun q h => by rw [← hAe]; exact Or.inr h
  have hS : va_S A s.heap s.heap [] := va_S.rf
  have hP : va_P (dC, dI) vwCl [(h0, .inr (10, oF q)), ((q 15), .inl ((cq 15), 7, .inl (fun _ => 0))), ((q 1), .inl ((cq 1), 40, .inr (.inr (.inr (.inr (fun _ => none))))))] s.heap := hP
  have hl := lv_entry ([.ref h0, .int a1, .int a2, .int a3]) (n := 4) (Nat.le_of_ble_eq_true rfl)
  rw [lg_entry_eq]
  generalize (lg_sl ([.ref h0, .int a1, .int a2, .int a3]) ++ List.replicate (4 - (lg_sl ([.ref h0, .int a1, .int a2, .int a3])).length) Slot.unset).toArray = ls at hl ⊢
  have hl : lv_has ls 4 [(0, .ref h0), (1, .int a1), (2, .int a2), (3, .int a3)] := hl
  refine lv_iload_n hx hb dX10_man_0 rfl (lv_at hl 1 rfl) ?_
  refine lv_if_lt (tgt := 15) hx hb dX10_man_1 (by decide) (fun c_1 => ?_) (fun c_1 => ?_)
  · refine lv_aload_n hx hb dX10_man_15 rfl (lv_at hl 0 rfl) ?_
    refine lv_bipush (v := (-4)) hx hb dX10_man_16 (by decide) ?_
    have hPc := hP.sub (ws' := [(h0, .inr (10, oF q)), ((q 15), .inl ((cq 15), 7, .inl (fun _ => 0)))]) [0, 1] rfl
    have hDc := hD.sub (ws' := [(h0, .inr (10, oF q)), ((q 15), .inl ((cq 15), 7, .inl (fun _ => 0)))]) [0, 1] (by decide) rfl
    have hKc := hK.sub (tys' := [((cq 15), .int)]) [0] rfl
    have hFc := va_free (wc := [(h0, .inr (10, oF q)), ((q 15), .inl ((cq 15), 7, .inl (fun _ => 0)))]) hD hS hA [0, 1] rfl
    refine va_calli (va_runV (As := [.int (-4)]) (rest := []) ⟨hx, hb, hml, hown, hts⟩ (c_X10_refuse l dC dI s.heap.size h0 q cq (-4) (by unfold vp_in; decide)) (cwV 1 hts gX10_man_X10_refuse rfl rfl rfl (by decide +kernel) ⟨(Nat.le_of_ble_eq_true rfl), (Nat.le_of_ble_eq_true rfl)⟩) (pr_V (r := (RX10, TX10, 16)) hPc hKc hDc 0 10 rfl rfl) rfl rfl hl.1 rfl (lv_room (Nat.le_of_ble_eq_true rfl)) dX10_man_18 ⟨(Nat.le_of_ble_eq_true rfl), (Nat.le_of_ble_eq_true rfl)⟩) hS (fun q _ h => hFc q h) hFc (fun r_3 u t H locs ht hvm w_2 hB hz1 hk1 hS => ?_)
    subst w_2
    refine W.widen (k := 2) (n := 10) (Nat.le_of_ble_eq_true rfl) (Nat.le_of_ble_eq_true rfl) ?_
    exact W.iret (v := (-4)) hx hb hr (fun t ht hW => ⟨⟨(-4), (), rfl, (by simp [sp_man, c_1]), trivial⟩, hS.F ht⟩) hS.2.2 dX10_man_21
  · refine lv_iload_n hx hb dX10_man_4 rfl (lv_at hl 2 rfl) ?_
    refine lv_if_lt (tgt := 15) hx hb dX10_man_5 (by decide) (fun c_4 => ?_) (fun c_4 => ?_)
    · refine lv_aload_n hx hb dX10_man_15 rfl (lv_at hl 0 rfl) ?_
      refine lv_bipush (v := (-4)) hx hb dX10_man_16 (by decide) ?_
      have hPc := hP.sub (ws' := [(h0, .inr (10, oF q)), ((q 15), .inl ((cq 15), 7, .inl (fun _ => 0)))]) [0, 1] rfl
      have hDc := hD.sub (ws' := [(h0, .inr (10, oF q)), ((q 15), .inl ((cq 15), 7, .inl (fun _ => 0)))]) [0, 1] (by decide) rfl
      have hKc := hK.sub (tys' := [((cq 15), .int)]) [0] rfl
      have hFc := va_free (wc := [(h0, .inr (10, oF q)), ((q 15), .inl ((cq 15), 7, .inl (fun _ => 0)))]) hD hS hA [0, 1] rfl
      refine va_calli (va_runV (As := [.int (-4)]) (rest := []) ⟨hx, hb, hml, hown, hts⟩ (c_X10_refuse l dC dI s.heap.size h0 q cq (-4) (by unfold vp_in; decide)) (cwV 1 hts gX10_man_X10_refuse rfl rfl rfl (by decide +kernel) ⟨(Nat.le_of_ble_eq_true rfl), (Nat.le_of_ble_eq_true rfl)⟩) (pr_V (r := (RX10, TX10, 16)) hPc hKc hDc 0 10 rfl rfl) rfl rfl hl.1 rfl (lv_room (Nat.le_of_ble_eq_true rfl)) dX10_man_18 ⟨(Nat.le_of_ble_eq_true rfl), (Nat.le_of_ble_eq_true rfl)⟩) hS (fun q _ h => hFc q h) hFc (fun r_6 u t H locs ht hvm w_5 hB hz1 hk1 hS => ?_)
      subst w_5
      refine W.widen (k := 2) (n := 10) (Nat.le_of_ble_eq_true rfl) (Nat.le_of_ble_eq_true rfl) ?_
      exact W.iret (v := (-4)) hx hb hr (fun t ht hW => ⟨⟨(-4), (), rfl, (by simp [sp_man, c_1, c_4]), trivial⟩, hS.F ht⟩) hS.2.2 dX10_man_21
    · refine lv_iload_n hx hb dX10_man_8 rfl (lv_at hl 3 rfl) ?_
      refine lv_sipush (v := (-30000)) hx hb dX10_man_9 (by decide) ?_
      refine lv_icmp_ge (tgt := 22) hx hb dX10_man_12 (by decide) (fun c_7 => ?_) (fun c_7 => ?_)
      · refine lv_iload_n hx hb dX10_man_22 rfl (lv_at hl 1 rfl) ?_
        refine lv_sipush (v := 9999) hx hb dX10_man_23 (by decide) ?_
        refine lv_icmp_gt (tgt := 52) hx hb dX10_man_26 (by decide) (fun c_8 => ?_) (fun c_8 => ?_)
        · refine lv_aload_n hx hb dX10_man_52 rfl (lv_at hl 0 rfl) ?_
          refine lv_bipush (v := (-6)) hx hb dX10_man_53 (by decide) ?_
          have hPc := hP.sub (ws' := [(h0, .inr (10, oF q)), ((q 15), .inl ((cq 15), 7, .inl (fun _ => 0)))]) [0, 1] rfl
          have hDc := hD.sub (ws' := [(h0, .inr (10, oF q)), ((q 15), .inl ((cq 15), 7, .inl (fun _ => 0)))]) [0, 1] (by decide) rfl
          have hKc := hK.sub (tys' := [((cq 15), .int)]) [0] rfl
          have hFc := va_free (wc := [(h0, .inr (10, oF q)), ((q 15), .inl ((cq 15), 7, .inl (fun _ => 0)))]) hD hS hA [0, 1] rfl
          refine va_calli (va_runV (As := [.int (-6)]) (rest := []) ⟨hx, hb, hml, hown, hts⟩ (c_X10_refuse l dC dI s.heap.size h0 q cq (-6) (by unfold vp_in; decide)) (cwV 1 hts gX10_man_X10_refuse rfl rfl rfl (by decide +kernel) ⟨(Nat.le_of_ble_eq_true rfl), (Nat.le_of_ble_eq_true rfl)⟩) (pr_V (r := (RX10, TX10, 16)) hPc hKc hDc 0 10 rfl rfl) rfl rfl hl.1 rfl (lv_room (Nat.le_of_ble_eq_true rfl)) dX10_man_55 ⟨(Nat.le_of_ble_eq_true rfl), (Nat.le_of_ble_eq_true rfl)⟩) hS (fun q _ h => hFc q h) hFc (fun r_10 u t H locs ht hvm w_9 hB hz1 hk1 hS => ?_)
          subst w_9
          refine W.widen (k := 2) (n := 10) (Nat.le_of_ble_eq_true rfl) (Nat.le_of_ble_eq_true rfl) ?_
          exact W.iret (v := (-6)) hx hb hr (fun t ht hW => ⟨⟨(-6), (), rfl, (by simp [sp_man, c_1, c_4, c_7, c_8]), trivial⟩, hS.F ht⟩) hS.2.2 dX10_man_58
        · refine lv_iload_n hx hb dX10_man_29 rfl (lv_at hl 2 rfl) ?_
          refine lv_ldc (v := 99999) hx hb hown (hts (.constant RX10 85 (99999)) (by decide +kernel)) dX10_man_30 ?_
          refine lv_icmp_gt (tgt := 52) hx hb dX10_man_32 (by decide) (fun c_11 => ?_) (fun c_11 => ?_)
          · refine lv_aload_n hx hb dX10_man_52 rfl (lv_at hl 0 rfl) ?_
            refine lv_bipush (v := (-6)) hx hb dX10_man_53 (by decide) ?_
            have hPc := hP.sub (ws' := [(h0, .inr (10, oF q)), ((q 15), .inl ((cq 15), 7, .inl (fun _ => 0)))]) [0, 1] rfl
            have hDc := hD.sub (ws' := [(h0, .inr (10, oF q)), ((q 15), .inl ((cq 15), 7, .inl (fun _ => 0)))]) [0, 1] (by decide) rfl
            have hKc := hK.sub (tys' := [((cq 15), .int)]) [0] rfl
            have hFc := va_free (wc := [(h0, .inr (10, oF q)), ((q 15), .inl ((cq 15), 7, .inl (fun _ => 0)))]) hD hS hA [0, 1] rfl
            refine va_calli (va_runV (As := [.int (-6)]) (rest := []) ⟨hx, hb, hml, hown, hts⟩ (c_X10_refuse l dC dI s.heap.size h0 q cq (-6) (by unfold vp_in; decide)) (cwV 1 hts gX10_man_X10_refuse rfl rfl rfl (by decide +kernel) ⟨(Nat.le_of_ble_eq_true rfl), (Nat.le_of_ble_eq_true rfl)⟩) (pr_V (r := (RX10, TX10, 16)) hPc hKc hDc 0 10 rfl rfl) rfl rfl hl.1 rfl (lv_room (Nat.le_of_ble_eq_true rfl)) dX10_man_55 ⟨(Nat.le_of_ble_eq_true rfl), (Nat.le_of_ble_eq_true rfl)⟩) hS (fun q _ h => hFc q h) hFc (fun r_13 u t H locs ht hvm w_12 hB hz1 hk1 hS => ?_)
            subst w_12
            refine W.widen (k := 2) (n := 10) (Nat.le_of_ble_eq_true rfl) (Nat.le_of_ble_eq_true rfl) ?_
            exact W.iret (v := (-6)) hx hb hr (fun t ht hW => ⟨⟨(-6), (), rfl, (by simp [sp_man, c_1, c_4, c_7, c_8, c_11]), trivial⟩, hS.F ht⟩) hS.2.2 dX10_man_58
          · refine lv_iload_n hx hb dX10_man_35 rfl (lv_at hl 3 rfl) ?_
            refine lv_aload_n hx hb dX10_man_36 rfl (lv_at hl 0 rfl) ?_
            refine va_get (D := (dC, dI)) (ci := 10) (v := .int 0) (C := RX10) (T := TX10) (N := 16) hx hb hts in_wsX10_man_X10 hown hK hP 0 rfl rfl 0 (by decide) (hts (.fieldLink RX10 73 "ShipOffice" "now" "I") (by decide +kernel)) (fun _ h9 => h9) rfl dX10_man_37 ?_
            refine lv_icmp_gt (tgt := 52) hx hb dX10_man_40 (by decide) (fun c_14 => ?_) (fun c_14 => ?_)
            · refine lv_aload_n hx hb dX10_man_52 rfl (lv_at hl 0 rfl) ?_
              refine lv_bipush (v := (-6)) hx hb dX10_man_53 (by decide) ?_
              have hPc := hP.sub (ws' := [(h0, .inr (10, oF q)), ((q 15), .inl ((cq 15), 7, .inl (fun _ => 0)))]) [0, 1] rfl
              have hDc := hD.sub (ws' := [(h0, .inr (10, oF q)), ((q 15), .inl ((cq 15), 7, .inl (fun _ => 0)))]) [0, 1] (by decide) rfl
              have hKc := hK.sub (tys' := [((cq 15), .int)]) [0] rfl
              have hFc := va_free (wc := [(h0, .inr (10, oF q)), ((q 15), .inl ((cq 15), 7, .inl (fun _ => 0)))]) hD hS hA [0, 1] rfl
              refine va_calli (va_runV (As := [.int (-6)]) (rest := []) ⟨hx, hb, hml, hown, hts⟩ (c_X10_refuse l dC dI s.heap.size h0 q cq (-6) (by unfold vp_in; decide)) (cwV 1 hts gX10_man_X10_refuse rfl rfl rfl (by decide +kernel) ⟨(Nat.le_of_ble_eq_true rfl), (Nat.le_of_ble_eq_true rfl)⟩) (pr_V (r := (RX10, TX10, 16)) hPc hKc hDc 0 10 rfl rfl) rfl rfl hl.1 rfl (lv_room (Nat.le_of_ble_eq_true rfl)) dX10_man_55 ⟨(Nat.le_of_ble_eq_true rfl), (Nat.le_of_ble_eq_true rfl)⟩) hS (fun q _ h => hFc q h) hFc (fun r_16 u t H locs ht hvm w_15 hB hz1 hk1 hS => ?_)
              subst w_15
              refine W.widen (k := 2) (n := 10) (Nat.le_of_ble_eq_true rfl) (Nat.le_of_ble_eq_true rfl) ?_
              exact W.iret (v := (-6)) hx hb hr (fun t ht hW => ⟨⟨(-6), (), rfl, (by simp [sp_man, c_1, c_4, c_7, c_8, c_11, c_14]), trivial⟩, hS.F ht⟩) hS.2.2 dX10_man_58
            · refine lv_aload_n hx hb dX10_man_43 rfl (lv_at hl 0 rfl) ?_
              refine va_get (D := (dC, dI)) (ci := 10) (v := .int 0) (C := RX10) (T := TX10) (N := 16) hx hb hts in_wsX10_man_X10 hown hK hP 0 rfl rfl 2 (by decide) (hts (.fieldLink RX10 86 "ShipOffice" "manCount" "I") (by decide +kernel)) (fun _ h9 => h9) rfl dX10_man_44 ?_
              refine lv_bipush (v := 40) hx hb dX10_man_47 (by decide) ?_
              refine lv_icmp_lt (tgt := 59) hx hb dX10_man_49 (by decide) (fun _ => ?_) (fun c_17 => absurd c_17 (by decide))
              refine lv_aload_n hx hb dX10_man_59 rfl (lv_at hl 0 rfl) ?_
              refine va_get (D := (dC, dI)) (ci := 10) (v := .ref (q 1)) (C := RX10) (T := TX10) (N := 16) hx hb hts in_wsX10_man_X10 hown hK hP 0 rfl rfl 1 (by decide) (hts (.fieldLink RX10 11 "ShipOffice" "men" "[LShipOffice$Man;") (by decide +kernel)) (fun _ h9 => h9) rfl dX10_man_60 ?_
              refine lv_aload_n hx hb dX10_man_63 rfl (lv_at hl 0 rfl) ?_
              refine va_get (D := (dC, dI)) (ci := 10) (v := .int 0) (C := RX10) (T := TX10) (N := 16) hx hb hts in_wsX10_man_X10 hown hK hP 0 rfl rfl 2 (by decide) (hts (.fieldLink RX10 86 "ShipOffice" "manCount" "I") (by decide +kernel)) (fun _ h9 => h9) rfl dX10_man_64 ?_
              refine va_new (ci := 6) (fs := [.int 0, .int 0, .int 0, .int 0, .null, .int 0]) (C := RX6) (T := TX6) (N := 6) hx hb hts in_wsX10_man_X6 tyX6 tyX6_ok hown (hts (.classLink RX10 9 RX6) (by decide +kernel)) (hts (.instantiable RX6 6) (by decide +kernel)) (hts (.initialized RX6) (by decide +kernel)) hK hP hD hS hA rfl (fun j hj => by rcases (show j = 0 ∨ j = 1 ∨ j = 2 ∨ j = 3 ∨ j = 4 ∨ j = 5 by omega) with rfl | rfl | rfl | rfl | rfl | rfl <;> rfl) (Nat.le_of_ble_eq_true rfl) (Nat.le_of_ble_eq_true rfl) dX10_man_67 (fun q_18 H hP hD hS => ?_)
              have hP : va_P (dC, dI) vwCl [(h0, .inr (10, oF q)), ((q 15), .inl ((cq 15), 7, .inl (fun _ => 0))), ((q 1), .inl ((cq 1), 40, .inr (.inr (.inr (.inr (fun _ => none)))))), (q_18, .inr (6, [.int 0, .int 0, .int 0, .int 0, .null, .int 0]))] H := hP
              have hD : va_D A [(h0, .inr (10, oF q)), ((q 15), .inl ((cq 15), 7, .inl (fun _ => 0))), ((q 1), .inl ((cq 1), 40, .inr (.inr (.inr (.inr (fun _ => none)))))), (q_18, .inr (6, [.int 0, .int 0, .int 0, .int 0, .null, .int 0]))] := hD
              refine W.widen (k := 1) (n := 6) (Nat.le_of_ble_eq_true rfl) (Nat.le_of_ble_eq_true rfl) ?_
              refine lv_dup hx hb dX10_man_70 rfl ?_
              refine lv_aload_n hx hb dX10_man_71 rfl (lv_at hl 0 rfl) ?_
              refine va_get (D := (dC, dI)) (ci := 10) (v := .int 0) (C := RX10) (T := TX10) (N := 16) hx hb hts in_wsX10_man_X10 hown hK hP 0 rfl rfl 2 (by decide) (hts (.fieldLink RX10 86 "ShipOffice" "manCount" "I") (by decide +kernel)) (fun _ h9 => h9) rfl dX10_man_72 ?_
              refine lv_iload_n hx hb dX10_man_75 rfl (lv_at hl 1 rfl) ?_
              refine lv_iload_n hx hb dX10_man_76 rfl (lv_at hl 2 rfl) ?_
              refine lv_iload_n hx hb dX10_man_77 rfl (lv_at hl 3 rfl) ?_
              have hPc := hP.sub (ws' := [(q_18, .inr (6, [.int 0, .int 0, .int 0, .int 0, .null, .int 0]))]) [3] rfl
              have hDc := hD.sub (ws' := [(q_18, .inr (6, [.int 0, .int 0, .int 0, .int 0, .null, .int 0]))]) [3] (by decide) rfl
              have hKc := hK.sub (tys' := []) [] rfl
              have hFc := va_free (wc := [(q_18, .inr (6, [.int 0, .int 0, .int 0, .int 0, .null, .int 0]))]) hD hS hA [3] rfl
              refine va_callv (va_runI (As := [.int 0, .int a1, .int a2, .int a3]) (rest := [.ref q_18, .int 0, .ref (q 1)]) ⟨hx, hb, hml, hown, hts⟩ (c_X6_init l dC dI H.size q_18 0 a1 a2 a3) (cwI 4 hts gX10_man_X6_init rfl rfl rfl (hts (.initialized RX6) (by decide +kernel)) (hts (.methodLink RX10 89 yX6_init) (by decide +kernel)) (hts (.instanceMethod yX6_init) (by decide +kernel)) rfl (by decide +kernel) ⟨(Nat.le_of_ble_eq_true rfl), (Nat.le_of_ble_eq_true rfl)⟩) (pr_S hPc hKc hDc) rfl rfl hl.1 rfl (lv_room (Nat.le_of_ble_eq_true rfl)) dX10_man_78 ⟨(Nat.le_of_ble_eq_true rfl), (Nat.le_of_ble_eq_true rfl)⟩) hS (fun q _ h => hFc q h) hFc (fun u t H locs ht hvm w_19 hB hz1 hk1 hS => ?_)
              obtain ⟨q_21, k_22⟩ := u
              obtain ⟨hP1, hK1, hD1⟩ := hB
              rw [ht] at hP1
              have hK1 := va_K.moved hvm.symm hK1
              obtain ⟨hP, hD⟩ := va_join (wr := [(h0, .inr (10, oF q)), ((q 15), .inl ((cq 15), 7, .inl (fun _ => 0))), ((q 1), .inl ((cq 1), 40, .inr (.inr (.inr (.inr (fun _ => none))))))]) (w1 := [(q_18, .inr (6, [.int 0, .int a1, .int a2, .int a3, .ref q_21, .int 0])), (q_21, .inl (k_22, 4, .inl (fun _ => 0)))]) hP hD [3] [0, 1, 2] rfl rfl (by decide) (by decide) hk1 hFc hP1 hD1
              have hK := hK.app hK1
              have hP : va_P (dC, dI) vwCl [(h0, .inr (10, oF q)), ((q 15), .inl ((cq 15), 7, .inl (fun _ => 0))), ((q 1), .inl ((cq 1), 40, .inr (.inr (.inr (.inr (fun _ => none)))))), (q_18, .inr (6, [.int 0, .int a1, .int a2, .int a3, .ref q_21, .int 0])), (q_21, .inl (k_22, 4, .inl (fun _ => 0)))] H := hP
              have hD : va_D A [(h0, .inr (10, oF q)), ((q 15), .inl ((cq 15), 7, .inl (fun _ => 0))), ((q 1), .inl ((cq 1), 40, .inr (.inr (.inr (.inr (fun _ => none)))))), (q_18, .inr (6, [.int 0, .int a1, .int a2, .int a3, .ref q_21, .int 0])), (q_21, .inl (k_22, 4, .inl (fun _ => 0)))] := hD
              have hK : va_K (dC, dI) vwCl [((cq 15), .int), ((cq 1), .object RX6), (k_22, .int)] s := hK
              clear hP1 hK1 hD1 hk1 hz1 hvm ht hPc hDc hKc hFc
              refine W.widen (k := 2) (n := 10) (Nat.le_of_ble_eq_true rfl) (Nat.le_of_ble_eq_true rfl) ?_
              refine va_astq (r := (RX6, TX6, 6)) hx hb hK hP hD hS 2 1 3 6 rfl rfl rfl rfl (by unfold vp_in; decide) dX10_man_81 (fun H locs hP hD hS => ?_)
              have hP : va_P (dC, dI) vwCl [(h0, .inr (10, oF q)), ((q 15), .inl ((cq 15), 7, .inl (fun _ => 0))), ((q 1), .inl ((cq 1), 40, .inr (.inr (.inr (.inr (va_up (fun _ => none) (0 : Int32).toNatClampNeg (some q_18))))))), (q_18, .inr (6, [.int 0, .int a1, .int a2, .int a3, .ref q_21, .int 0])), (q_21, .inl (k_22, 4, .inl (fun _ => 0)))] H := hP
              have hD : va_D A [(h0, .inr (10, oF q)), ((q 15), .inl ((cq 15), 7, .inl (fun _ => 0))), ((q 1), .inl ((cq 1), 40, .inr (.inr (.inr (.inr (va_up (fun _ => none) (0 : Int32).toNatClampNeg (some q_18))))))), (q_18, .inr (6, [.int 0, .int a1, .int a2, .int a3, .ref q_21, .int 0])), (q_21, .inl (k_22, 4, .inl (fun _ => 0)))] := hD
              refine lv_aload_n hx hb dX10_man_82 rfl (lv_at hl 0 rfl) ?_
              refine lv_dup hx hb dX10_man_83 rfl ?_
              refine va_get (D := (dC, dI)) (ci := 10) (v := .int 0) (C := RX10) (T := TX10) (N := 16) hx hb hts in_wsX10_man_X10 hown hK hP 0 rfl rfl 2 (by decide) (hts (.fieldLink RX10 86 "ShipOffice" "manCount" "I") (by decide +kernel)) (fun _ h9 => h9) rfl dX10_man_84 ?_
              refine lv_iconst (v := 1) hx hb dX10_man_87 (by decide) ?_
              refine lv_iadd hx hb dX10_man_88 ?_
              refine lv_topi (fun y ey => ?_)
              obtain rfl : y = 1 := ey.trans (by decide)
              refine va_put (D := (dC, dI)) (ci := 10) (v := .int 1) (ty := .int) (C := RX10) (T := TX10) (N := 16) hx hb hts in_wsX10_man_X10 tyX10 tyX10_ok nmX10 hown hK hP hD hS 0 rfl rfl 2 (by decide) (hts (.fieldLink RX10 86 "ShipOffice" "manCount" "I") (by decide +kernel)) (fun _ h9 => h9) rfl (by decide +kernel) rfl rfl (Nat.le_of_ble_eq_true rfl) dX10_man_89 (fun H locs hP hD hS => ?_)
              have hP : va_P (dC, dI) vwCl [(h0, .inr (10, ((oF q).set 2 (.int 1)))), ((q 15), .inl ((cq 15), 7, .inl (fun _ => 0))), ((q 1), .inl ((cq 1), 40, .inr (.inr (.inr (.inr (va_up (fun _ => none) (0 : Int32).toNatClampNeg (some q_18))))))), (q_18, .inr (6, [.int 0, .int a1, .int a2, .int a3, .ref q_21, .int 0])), (q_21, .inl (k_22, 4, .inl (fun _ => 0)))] H := hP
              have hD : va_D A [(h0, .inr (10, ((oF q).set 2 (.int 1)))), ((q 15), .inl ((cq 15), 7, .inl (fun _ => 0))), ((q 1), .inl ((cq 1), 40, .inr (.inr (.inr (.inr (va_up (fun _ => none) (0 : Int32).toNatClampNeg (some q_18))))))), (q_18, .inr (6, [.int 0, .int a1, .int a2, .int a3, .ref q_21, .int 0])), (q_21, .inl (k_22, 4, .inl (fun _ => 0)))] := hD
              refine lv_aload_n hx hb dX10_man_92 rfl (lv_at hl 0 rfl) ?_
              refine lv_aload_n hx hb dX10_man_93 rfl (lv_at hl 0 rfl) ?_
              refine va_get (D := (dC, dI)) (ci := 10) (v := .ref (q 1)) (C := RX10) (T := TX10) (N := 16) hx hb hts in_wsX10_man_X10 hown hK hP 0 rfl rfl 1 (by decide) (hts (.fieldLink RX10 11 "ShipOffice" "men" "[LShipOffice$Man;") (by decide +kernel)) (fun _ h9 => h9) rfl dX10_man_94 ?_
              refine lv_aload_n hx hb dX10_man_97 rfl (lv_at hl 0 rfl) ?_
              refine va_get (D := (dC, dI)) (ci := 10) (v := .int 1) (C := RX10) (T := TX10) (N := 16) hx hb hts in_wsX10_man_X10 hown hK hP 0 rfl rfl 2 (by decide) (hts (.fieldLink RX10 86 "ShipOffice" "manCount" "I") (by decide +kernel)) (fun _ h9 => h9) rfl dX10_man_98 ?_
              refine lv_iconst (v := 1) hx hb dX10_man_101 (by decide) ?_
              refine lv_isub hx hb dX10_man_102 ?_
              refine lv_topi (fun y ey => ?_)
              obtain rfl : y = 0 := ey.trans (by decide)
              refine va_aldq hx hb hK hP 2 1 rfl rfl (by unfold vp_in; decide) dX10_man_103 ?_
              refine W.eq (g2 := F0 m 104 ls [.ref q_18, .ref h0]) rfl ?_
              have hPc := hP.sub (ws' := [(h0, .inr (10, ((oF q).set 2 (.int 1)))), ((q 1), .inl ((cq 1), 40, .inr (.inr (.inr (.inr (va_up (fun _ => none) (0 : Int32).toNatClampNeg (some q_18))))))), (q_18, .inr (6, [.int 0, .int a1, .int a2, .int a3, .ref q_21, .int 0]))]) [0, 2, 3] rfl
              have hDc := hD.sub (ws' := [(h0, .inr (10, ((oF q).set 2 (.int 1)))), ((q 1), .inl ((cq 1), 40, .inr (.inr (.inr (.inr (va_up (fun _ => none) (0 : Int32).toNatClampNeg (some q_18))))))), (q_18, .inr (6, [.int 0, .int a1, .int a2, .int a3, .ref q_21, .int 0]))]) [0, 2, 3] (by decide) rfl
              have hKc := hK.sub (tys' := [((cq 1), .object RX6)]) [1] rfl
              have hFc := va_free (wc := [(h0, .inr (10, ((oF q).set 2 (.int 1)))), ((q 1), .inl ((cq 1), 40, .inr (.inr (.inr (.inr (va_up (fun _ => none) (0 : Int32).toNatClampNeg (some q_18))))))), (q_18, .inr (6, [.int 0, .int a1, .int a2, .int a3, .ref q_21, .int 0]))]) hD hS hA [0, 2, 3] rfl
              refine va_callv (va_runV (As := [.ref q_18]) (rest := []) ⟨hx, hb, hml, hown, hts⟩ (c_X10_joinGroups l dC dI H.size h0 q cq q_18 q_21 a1 a2 a3) (cwV 1 hts gX10_man_X10_joinGroups rfl rfl rfl (by decide +kernel) ⟨(Nat.le_of_ble_eq_true rfl), (Nat.le_of_ble_eq_true rfl)⟩) (pr_V (r := (RX10, TX10, 16)) hPc hKc hDc 0 10 rfl rfl) rfl rfl hl.1 rfl (lv_room (Nat.le_of_ble_eq_true rfl)) dX10_man_104 ⟨(Nat.le_of_ble_eq_true rfl), (Nat.le_of_ble_eq_true rfl)⟩) hS (fun q _ h => hFc q h) hFc (fun u t H locs ht hvm w_23 hB hz1 hk1 hS => ?_)
              obtain ⟨hP1, hK1, hD1⟩ := hB
              rw [ht] at hP1
              have hK1 := va_K.moved hvm.symm hK1
              obtain ⟨hP, hD⟩ := va_join (wr := [((q 15), .inl ((cq 15), 7, .inl (fun _ => 0))), (q_21, .inl (k_22, 4, .inl (fun _ => 0)))]) (w1 := [(h0, .inr (10, ((oF q).set 2 (.int 1)))), ((q 1), .inl ((cq 1), 40, .inr (.inr (.inr (.inr (va_up (fun _ => none) (0 : Int32).toNatClampNeg (some q_18))))))), (q_18, .inr (6, [.int 0, .int a1, .int a2, .int a3, .ref q_21, .int 0]))]) hP hD [0, 2, 3] [1, 4] rfl rfl (by decide) (by decide) hk1 hFc hP1 hD1
              have hK := hK.app hK1
              have hP : va_P (dC, dI) vwCl [((q 15), .inl ((cq 15), 7, .inl (fun _ => 0))), (q_21, .inl (k_22, 4, .inl (fun _ => 0))), (h0, .inr (10, ((oF q).set 2 (.int 1)))), ((q 1), .inl ((cq 1), 40, .inr (.inr (.inr (.inr (va_up (fun _ => none) (0 : Int32).toNatClampNeg (some q_18))))))), (q_18, .inr (6, [.int 0, .int a1, .int a2, .int a3, .ref q_21, .int 0]))] H := hP
              have hD : va_D A [((q 15), .inl ((cq 15), 7, .inl (fun _ => 0))), (q_21, .inl (k_22, 4, .inl (fun _ => 0))), (h0, .inr (10, ((oF q).set 2 (.int 1)))), ((q 1), .inl ((cq 1), 40, .inr (.inr (.inr (.inr (va_up (fun _ => none) (0 : Int32).toNatClampNeg (some q_18))))))), (q_18, .inr (6, [.int 0, .int a1, .int a2, .int a3, .ref q_21, .int 0]))] := hD
              have hK : va_K (dC, dI) vwCl [((cq 15), .int), ((cq 1), .object RX6), (k_22, .int), ((cq 1), .object RX6)] s := hK
              clear hP1 hK1 hD1 hk1 hz1 hvm ht hPc hDc hKc hFc
              refine lv_aload_n hx hb dX10_man_107 rfl (lv_at hl 0 rfl) ?_
              refine va_get (D := (dC, dI)) (ci := 10) (v := .int 1) (C := RX10) (T := TX10) (N := 16) hx hb hts in_wsX10_man_X10 hown hK hP 2 rfl rfl 2 (by decide) (hts (.fieldLink RX10 86 "ShipOffice" "manCount" "I") (by decide +kernel)) (fun _ h9 => h9) rfl dX10_man_108 ?_
              refine lv_iconst (v := 1) hx hb dX10_man_111 (by decide) ?_
              refine lv_isub hx hb dX10_man_112 ?_
              refine lv_topi (fun y ey => ?_)
              obtain rfl : y = 0 := ey.trans (by decide)
              exact W.iret (v := 0) hx hb hr (fun t ht hW => ⟨⟨0, (), rfl, (by simp [sp_man, c_1, c_4, c_7, c_8, c_11, c_14]), trivial⟩, hS.F ht⟩) hS.2.2 dX10_man_113
      · refine lv_aload_n hx hb dX10_man_15 rfl (lv_at hl 0 rfl) ?_
        refine lv_bipush (v := (-4)) hx hb dX10_man_16 (by decide) ?_
        have hPc := hP.sub (ws' := [(h0, .inr (10, oF q)), ((q 15), .inl ((cq 15), 7, .inl (fun _ => 0)))]) [0, 1] rfl
        have hDc := hD.sub (ws' := [(h0, .inr (10, oF q)), ((q 15), .inl ((cq 15), 7, .inl (fun _ => 0)))]) [0, 1] (by decide) rfl
        have hKc := hK.sub (tys' := [((cq 15), .int)]) [0] rfl
        have hFc := va_free (wc := [(h0, .inr (10, oF q)), ((q 15), .inl ((cq 15), 7, .inl (fun _ => 0)))]) hD hS hA [0, 1] rfl
        refine va_calli (va_runV (As := [.int (-4)]) (rest := []) ⟨hx, hb, hml, hown, hts⟩ (c_X10_refuse l dC dI s.heap.size h0 q cq (-4) (by unfold vp_in; decide)) (cwV 1 hts gX10_man_X10_refuse rfl rfl rfl (by decide +kernel) ⟨(Nat.le_of_ble_eq_true rfl), (Nat.le_of_ble_eq_true rfl)⟩) (pr_V (r := (RX10, TX10, 16)) hPc hKc hDc 0 10 rfl rfl) rfl rfl hl.1 rfl (lv_room (Nat.le_of_ble_eq_true rfl)) dX10_man_18 ⟨(Nat.le_of_ble_eq_true rfl), (Nat.le_of_ble_eq_true rfl)⟩) hS (fun q _ h => hFc q h) hFc (fun r_26 u t H locs ht hvm w_25 hB hz1 hk1 hS => ?_)
        subst w_25
        refine W.widen (k := 2) (n := 10) (Nat.le_of_ble_eq_true rfl) (Nat.le_of_ble_eq_true rfl) ?_
        exact W.iret (v := (-4)) hx hb hr (fun t ht hW => ⟨⟨(-4), (), rfl, (by simp [sp_man, c_1, c_4, c_7]), trivial⟩, hS.F ht⟩) hS.2.2 dX10_man_21
set_option maxHeartbeats 4000000 in
set_option maxRecDepth 100000 in
theorem c_X10_hasVoyage (l : Launch) (dC : Nat → ClassId) (dI : Nat → Nat → Nat) (sz : Nat) (h0 : Nat) (q : Nat → Nat) (cq : Nat → ClassId) (n : Int32) : Met l yX10_hasVoyage wsX10_hasVoyage ({ frames := 0, cells := 0, slots := 0, locals := 0 }) (va_Pc [.ref h0, .int n] (pcW (dC, dI) [] [(h0, .inr (10, oF q))] sz)) (va_Qi (fun (r : Int32) (u : Unit) => r = 0) (fun _ _ => True) (va_A [] sz)) 0 0 (va_A [] sz) := by
  refine Met.ofW (cc := cX10_hasVoyage) (maxL := 3) (ret := (some .boolean)) (by decide) rfl ?_
  intro p e s m args below meth c s₁ B hml hv
  obtain ⟨rfl, hsz, hP, hK, hD0⟩ := hv
  have hx := B.exec
  have hb := B.bytes
  have hr := B.returns
  have hts := atoms_spec (ws := wsX10_hasVoyage) B.pre
  have hown : s.vm.findClass RX10 = some m.cls := findClass_of_methodNamed B.named
  have hlocks := B.notSynchronized
  subst hsz
  have hD := hD0
  generalize hAe : va_A [] s.heap.size = A at ⊢
  have hA : ∀ q : Nat, s.heap.size ≤ q → A q := fun q h => by rw [← hAe]; exact Or.inr h
  have hS : va_S A s.heap s.heap [] := va_S.rf
  have hP : va_P (dC, dI) vwCl [(h0, .inr (10, oF q))] s.heap := hP
  have hl := lv_entry ([.ref h0, .int n]) (n := 3) (Nat.le_of_ble_eq_true rfl)
  rw [lg_entry_eq]
  generalize (lg_sl ([.ref h0, .int n]) ++ List.replicate (3 - (lg_sl ([.ref h0, .int n])).length) Slot.unset).toArray = ls at hl ⊢
  have hl : lv_has ls 3 [(0, .ref h0), (1, .int n)] := hl
  refine lv_iconst (v := 0) hx hb dX10_hasVoyage_0 (by decide) ?_
  refine lv_istore_n (lv' := [(2, .int 0), (0, .ref h0), (1, .int n)]) hx hb dX10_hasVoyage_1 rfl hl (by decide) rfl (fun ls hl => ?_)
  refine lv_iload_n hx hb dX10_hasVoyage_2 rfl (lv_at hl 0 rfl) ?_
  refine lv_aload_n hx hb dX10_hasVoyage_3 rfl (lv_at hl 1 rfl) ?_
  refine va_get (D := (dC, dI)) (ci := 10) (v := .int 0) (C := RX10) (T := TX10) (N := 16) hx hb hts in_wsX10_hasVoyage_X10 hown hK hP 0 rfl rfl 4 (by decide) (hts (.fieldLink RX10 99 "ShipOffice" "voyageCount" "I") (by decide +kernel)) (fun _ h9 => h9) rfl dX10_hasVoyage_4 ?_
  refine lv_icmp_ge (tgt := 43) hx hb dX10_hasVoyage_7 (by decide) (fun _ => ?_) (fun c_1 => absurd c_1 (by decide))
  refine lv_iconst (v := 0) hx hb dX10_hasVoyage_43 (by decide) ?_
  exact W.zret (v := 0) hx hb hr rfl (fun t ht hW => ⟨⟨0, (), rfl, rfl, trivial⟩, hS.F ht⟩) hS.2.2 dX10_hasVoyage_44
set_option maxHeartbeats 4000000 in
set_option maxRecDepth 100000 in
theorem c_X9_init (l : Launch) (dC : Nat → ClassId) (dI : Nat → Nat → Nat) (sz : Nat) (g1 : Nat) (x1 x2 x3 x4 : Int32) : Met l yX9_init wsX9_init ({ frames := 1, cells := 0, slots := 0, locals := 14 }) (va_Pc [.ref g1, .int x1, .int x2, .int x3, .int x4] (pcW (dC, dI) [] [(g1, .inr (9, [.int 0, .int 0, .int 0, .int 0, .int 0, .int 0, .int 0, .int 0, .int 0, .null]))] sz)) (va_Qv (fun (u : Unit) => True) (fun u t => va_P (dC, dI) vwCl [(g1, .inr (9, [.int x1, .int x2, .int x3, .int x4, .int 0, .int 1000000, .int 1000000, .int 1000000, .int 1000000, .null]))] t.heap ∧ va_K (dC, dI) vwCl [] t ∧ va_D (va_A [(g1, .inr (9, [.int 0, .int 0, .int 0, .int 0, .int 0, .int 0, .int 0, .int 0, .int 0, .null]))] sz) [(g1, .inr (9, [.int x1, .int x2, .int x3, .int x4, .int 0, .int 1000000, .int 1000000, .int 1000000, .int 1000000, .null]))]) (va_A [(g1, .inr (9, [.int 0, .int 0, .int 0, .int 0, .int 0, .int 0, .int 0, .int 0, .int 0, .null]))] sz)) 0 0 (va_A [(g1, .inr (9, [.int 0, .int 0, .int 0, .int 0, .int 0, .int 0, .int 0, .int 0, .int 0, .null]))] sz) := by
  refine Met.ofW (cc := cX9_init) (maxL := 5) (ret := none) (by decide) rfl ?_
  intro p e s m args below meth c s₁ B hml hv
  obtain ⟨rfl, hsz, hP, hK, hD0⟩ := hv
  have hx := B.exec
  have hb := B.bytes
  have hr := B.returns
  have hts := atoms_spec (ws := wsX9_init) B.pre
  have hown : s.vm.findClass RX9 = some m.cls := findClass_of_methodNamed B.named
  have hlocks := B.notSynchronized
  have hin : meth.name = "<init>" := (name_of_methodNamed B.named B.method).1
  subst hsz
  have hD := hD0.self (sz := s.heap.size)
  generalize hAe : va_A [(g1, .inr (9, [.int 0, .int 0, .int 0, .int 0, .int 0, .int 0, .int 0, .int 0, .int 0, .null]))] s.heap.size = A at hD ⊢
  have hA : ∀ q : Nat, s.heap.size ≤ q → A q := fun q h => by rw [← hAe]; exact Or.inr h
  have hS : va_S A s.heap s.heap [] := va_S.rf
  have hP : va_P (dC, dI) vwCl [(g1, .inr (9, [.int 0, .int 0, .int 0, .int 0, .int 0, .int 0, .int 0, .int 0, .int 0, .null]))] s.heap := hP
  have hl := lv_entry ([.ref g1, .int x1, .int x2, .int x3, .int x4]) (n := 5) (Nat.le_of_ble_eq_true rfl)
  rw [lg_entry_eq]
  generalize (lg_sl ([.ref g1, .int x1, .int x2, .int x3, .int x4]) ++ List.replicate (5 - (lg_sl ([.ref g1, .int x1, .int x2, .int x3, .int x4])).length) Slot.unset).toArray = ls at hl ⊢
  have hl : lv_has ls 5 [(0, .ref g1), (1, .int x1), (2, .int x2), (3, .int x3), (4, .int x4)] := hl
  refine lv_aload_n hx hb dX9_init_0 rfl (lv_at hl 0 rfl) ?_
  refine W.objInit hx hb hown (hts (.methodLink RX9 3 objectInit) (by decide +kernel)) (hts (.instanceMethod objectInit) (by decide +kernel)) (hts (.code objectInit ⟨#[0xb1]⟩ 1 none) (in_obj_wsX9_init)) rfl (by rw [hml]; exact hl.1) rfl dX9_init_1 (Nat.le_of_ble_eq_true rfl) (Nat.le_of_ble_eq_true rfl) ?_
  refine W.eq (g2 := F0 m 4 ls []) rfl ?_
  refine lv_aload_n hx hb dX9_init_4 rfl (lv_at hl 0 rfl) ?_
  refine lv_ldc (v := 1000000) hx hb hown (hts (.constant RX9 9 (1000000)) (by decide +kernel)) dX9_init_5 ?_
  refine va_put (D := (dC, dI)) (ci := 9) (v := .int 1000000) (ty := .int) (C := RX9) (T := TX9) (N := 10) hx hb hts in_wsX9_init_X9 tyX9 tyX9_ok nmX9 hown hK hP hD hS 0 rfl rfl 5 (by decide) (hts (.fieldLink RX9 10 "ShipOffice$Voyage" "sailedDay" "I") (by decide +kernel)) (fun _ h9 => h9) rfl (by decide +kernel) rfl rfl (Nat.le_of_ble_eq_true rfl) dX9_init_7 (fun H locs hP hD hS => ?_)
  have hP : va_P (dC, dI) vwCl [(g1, .inr (9, [.int 0, .int 0, .int 0, .int 0, .int 0, .int 1000000, .int 0, .int 0, .int 0, .null]))] H := hP
  have hD : va_D A [(g1, .inr (9, [.int 0, .int 0, .int 0, .int 0, .int 0, .int 1000000, .int 0, .int 0, .int 0, .null]))] := hD
  refine lv_aload_n hx hb dX9_init_10 rfl (lv_at hl 0 rfl) ?_
  refine lv_ldc (v := 1000000) hx hb hown (hts (.constant RX9 9 (1000000)) (by decide +kernel)) dX9_init_11 ?_
  refine va_put (D := (dC, dI)) (ci := 9) (v := .int 1000000) (ty := .int) (C := RX9) (T := TX9) (N := 10) hx hb hts in_wsX9_init_X9 tyX9 tyX9_ok nmX9 hown hK hP hD hS 0 rfl rfl 6 (by decide) (hts (.fieldLink RX9 16 "ShipOffice$Voyage" "sailedTold" "I") (by decide +kernel)) (fun _ h9 => h9) rfl (by decide +kernel) rfl rfl (Nat.le_of_ble_eq_true rfl) dX9_init_13 (fun H locs hP hD hS => ?_)
  have hP : va_P (dC, dI) vwCl [(g1, .inr (9, [.int 0, .int 0, .int 0, .int 0, .int 0, .int 1000000, .int 1000000, .int 0, .int 0, .null]))] H := hP
  have hD : va_D A [(g1, .inr (9, [.int 0, .int 0, .int 0, .int 0, .int 0, .int 1000000, .int 1000000, .int 0, .int 0, .null]))] := hD
  refine lv_aload_n hx hb dX9_init_16 rfl (lv_at hl 0 rfl) ?_
  refine lv_ldc (v := 1000000) hx hb hown (hts (.constant RX9 9 (1000000)) (by decide +kernel)) dX9_init_17 ?_
  refine va_put (D := (dC, dI)) (ci := 9) (v := .int 1000000) (ty := .int) (C := RX9) (T := TX9) (N := 10) hx hb hts in_wsX9_init_X9 tyX9 tyX9_ok nmX9 hown hK hP hD hS 0 rfl rfl 7 (by decide) (hts (.fieldLink RX9 19 "ShipOffice$Voyage" "lostDay" "I") (by decide +kernel)) (fun _ h9 => h9) rfl (by decide +kernel) rfl rfl (Nat.le_of_ble_eq_true rfl) dX9_init_19 (fun H locs hP hD hS => ?_)
  have hP : va_P (dC, dI) vwCl [(g1, .inr (9, [.int 0, .int 0, .int 0, .int 0, .int 0, .int 1000000, .int 1000000, .int 1000000, .int 0, .null]))] H := hP
  have hD : va_D A [(g1, .inr (9, [.int 0, .int 0, .int 0, .int 0, .int 0, .int 1000000, .int 1000000, .int 1000000, .int 0, .null]))] := hD
  refine lv_aload_n hx hb dX9_init_22 rfl (lv_at hl 0 rfl) ?_
  refine lv_ldc (v := 1000000) hx hb hown (hts (.constant RX9 9 (1000000)) (by decide +kernel)) dX9_init_23 ?_
  refine va_put (D := (dC, dI)) (ci := 9) (v := .int 1000000) (ty := .int) (C := RX9) (T := TX9) (N := 10) hx hb hts in_wsX9_init_X9 tyX9 tyX9_ok nmX9 hown hK hP hD hS 0 rfl rfl 8 (by decide) (hts (.fieldLink RX9 22 "ShipOffice$Voyage" "lostTold" "I") (by decide +kernel)) (fun _ h9 => h9) rfl (by decide +kernel) rfl rfl (Nat.le_of_ble_eq_true rfl) dX9_init_25 (fun H locs hP hD hS => ?_)
  have hP : va_P (dC, dI) vwCl [(g1, .inr (9, [.int 0, .int 0, .int 0, .int 0, .int 0, .int 1000000, .int 1000000, .int 1000000, .int 1000000, .null]))] H := hP
  have hD : va_D A [(g1, .inr (9, [.int 0, .int 0, .int 0, .int 0, .int 0, .int 1000000, .int 1000000, .int 1000000, .int 1000000, .null]))] := hD
  refine lv_aload_n hx hb dX9_init_28 rfl (lv_at hl 0 rfl) ?_
  refine lv_iload_n hx hb dX9_init_29 rfl (lv_at hl 1 rfl) ?_
  refine va_putF (D := (dC, dI)) (ci := 9) (v := .int x1) (ty := .int) (C := RX9) (T := TX9) (N := 10) hx hb hts in_wsX9_init_X9 tyX9 tyX9_ok nmX9 hown hK hP hD hS 0 rfl rfl 0 (by decide) (hts (.fieldLink RX9 25 "ShipOffice$Voyage" "number" "I") (by decide +kernel)) (fun _ h9 => h9) rfl hin rfl (by decide +kernel) rfl rfl (Nat.le_of_ble_eq_true rfl) dX9_init_30 (fun H locs hP hD hS => ?_)
  have hP : va_P (dC, dI) vwCl [(g1, .inr (9, [.int x1, .int 0, .int 0, .int 0, .int 0, .int 1000000, .int 1000000, .int 1000000, .int 1000000, .null]))] H := hP
  have hD : va_D A [(g1, .inr (9, [.int x1, .int 0, .int 0, .int 0, .int 0, .int 1000000, .int 1000000, .int 1000000, .int 1000000, .null]))] := hD
  refine lv_aload_n hx hb dX9_init_33 rfl (lv_at hl 0 rfl) ?_
  refine lv_iload_n hx hb dX9_init_34 rfl (lv_at hl 2 rfl) ?_
  refine va_putF (D := (dC, dI)) (ci := 9) (v := .int x2) (ty := .int) (C := RX9) (T := TX9) (N := 10) hx hb hts in_wsX9_init_X9 tyX9 tyX9_ok nmX9 hown hK hP hD hS 0 rfl rfl 1 (by decide) (hts (.fieldLink RX9 28 "ShipOffice$Voyage" "ship" "I") (by decide +kernel)) (fun _ h9 => h9) rfl hin rfl (by decide +kernel) rfl rfl (Nat.le_of_ble_eq_true rfl) dX9_init_35 (fun H locs hP hD hS => ?_)
  have hP : va_P (dC, dI) vwCl [(g1, .inr (9, [.int x1, .int x2, .int 0, .int 0, .int 0, .int 1000000, .int 1000000, .int 1000000, .int 1000000, .null]))] H := hP
  have hD : va_D A [(g1, .inr (9, [.int x1, .int x2, .int 0, .int 0, .int 0, .int 1000000, .int 1000000, .int 1000000, .int 1000000, .null]))] := hD
  refine lv_aload_n hx hb dX9_init_38 rfl (lv_at hl 0 rfl) ?_
  refine lv_iload_n hx hb dX9_init_39 rfl (lv_at hl 3 rfl) ?_
  refine va_putF (D := (dC, dI)) (ci := 9) (v := .int x3) (ty := .int) (C := RX9) (T := TX9) (N := 10) hx hb hts in_wsX9_init_X9 tyX9 tyX9_ok nmX9 hown hK hP hD hS 0 rfl rfl 2 (by decide) (hts (.fieldLink RX9 31 "ShipOffice$Voyage" "port" "I") (by decide +kernel)) (fun _ h9 => h9) rfl hin rfl (by decide +kernel) rfl rfl (Nat.le_of_ble_eq_true rfl) dX9_init_40 (fun H locs hP hD hS => ?_)
  have hP : va_P (dC, dI) vwCl [(g1, .inr (9, [.int x1, .int x2, .int x3, .int 0, .int 0, .int 1000000, .int 1000000, .int 1000000, .int 1000000, .null]))] H := hP
  have hD : va_D A [(g1, .inr (9, [.int x1, .int x2, .int x3, .int 0, .int 0, .int 1000000, .int 1000000, .int 1000000, .int 1000000, .null]))] := hD
  refine lv_aload_n hx hb dX9_init_43 rfl (lv_at hl 0 rfl) ?_
  refine lv_iload hx hb dX9_init_44 (lv_at hl 4 rfl) ?_
  refine va_putF (D := (dC, dI)) (ci := 9) (v := .int x4) (ty := .int) (C := RX9) (T := TX9) (N := 10) hx hb hts in_wsX9_init_X9 tyX9 tyX9_ok nmX9 hown hK hP hD hS 0 rfl rfl 3 (by decide) (hts (.fieldLink RX9 34 "ShipOffice$Voyage" "openedOn" "I") (by decide +kernel)) (fun _ h9 => h9) rfl hin rfl (by decide +kernel) rfl rfl (Nat.le_of_ble_eq_true rfl) dX9_init_46 (fun H locs hP hD hS => ?_)
  have hP : va_P (dC, dI) vwCl [(g1, .inr (9, [.int x1, .int x2, .int x3, .int x4, .int 0, .int 1000000, .int 1000000, .int 1000000, .int 1000000, .null]))] H := hP
  have hD : va_D A [(g1, .inr (9, [.int x1, .int x2, .int x3, .int x4, .int 0, .int 1000000, .int 1000000, .int 1000000, .int 1000000, .null]))] := hD
  have hP9 := hP.sub (ws' := [(g1, .inr (9, [.int x1, .int x2, .int x3, .int x4, .int 0, .int 1000000, .int 1000000, .int 1000000, .int 1000000, .null]))]) [0] rfl
  have hD9 := hD.sub (ws' := [(g1, .inr (9, [.int x1, .int x2, .int x3, .int x4, .int 0, .int 1000000, .int 1000000, .int 1000000, .int 1000000, .null]))]) [0] (by decide) rfl
  have hK9 := hK.sub (tys' := []) [] rfl
  subst hAe
  exact W.vret hx hb hr (fun t ht hW => ⟨⟨(), rfl, trivial, ⟨by rw [ht]; exact hP9, va_K.moved hW.alike hK9, hD9⟩⟩, hS.F ht⟩) hS.2.2 dX9_init_49
set_option maxHeartbeats 4000000 in
set_option maxRecDepth 100000 in
theorem c_X10_voyage (l : Launch) (dC : Nat → ClassId) (dI : Nat → Nat → Nat) (sz : Nat) (h0 : Nat) (q : Nat → Nat) (cq : Nat → ClassId) (a1 : Int32) (a2 : Int32) : Met l yX10_voyage wsX10_voyage ({ frames := 2, cells := 1, slots := 10, locals := 38 }) (va_Pc [.ref h0, .int a1, .int a2] (pcW (dC, dI) [((cq 15), .int), ((cq 3), .object RX9)] [(h0, .inr (10, oF q)), ((q 15), .inl ((cq 15), 7, .inl (fun _ => 0))), ((q 3), .inl ((cq 3), 20, .inr (.inr (.inr (.inr (fun _ => none))))))] sz)) (va_Qi (fun (r : Int32) (u : Unit) => r = sp_voyage a1 a2) (fun _ _ => True) (va_A [(h0, .inr (10, oF q)), ((q 15), .inl ((cq 15), 7, .inl (fun _ => 0))), ((q 3), .inl ((cq 3), 20, .inr (.inr (.inr (.inr (fun _ => none))))))] sz)) 1 10 (va_A [(h0, .inr (10, oF q)), ((q 15), .inl ((cq 15), 7, .inl (fun _ => 0))), ((q 3), .inl ((cq 3), 20, .inr (.inr (.inr (.inr (fun _ => none))))))] sz) := by
  refine Met.ofW (cc := cX10_voyage) (maxL := 3) (ret := (some .int)) (by decide) rfl ?_
  intro p e s m args below meth c s₁ B hml hv
  obtain ⟨rfl, hsz, hP, hK, hD0⟩ := hv
  have hx := B.exec
  have hb := B.bytes
  have hr := B.returns
  have hts := atoms_spec (ws := wsX10_voyage) B.pre
  have hown : s.vm.findClass RX10 = some m.cls := findClass_of_methodNamed B.named
  have hlocks := B.notSynchronized
  subst hsz
  have hD := hD0.self (sz := s.heap.size)
  generalize hAe : va_A [(h0, .inr (10, oF q)), ((q 15), .inl ((cq 15), 7, .inl (fun _ => 0))), ((q 3), .inl ((cq 3), 20, .inr (.inr (.inr (.inr (fun _ => none))))))] s.heap.size = A at hD ⊢
  have hA : ∀ q : Nat, s.heap.size ≤ q → A q := fun q h => by rw [← hAe]; exact Or.inr h
  have hS : va_S A s.heap s.heap [] := va_S.rf
  have hP : va_P (dC, dI) vwCl [(h0, .inr (10, oF q)), ((q 15), .inl ((cq 15), 7, .inl (fun _ => 0))), ((q 3), .inl ((cq 3), 20, .inr (.inr (.inr (.inr (fun _ => none))))))] s.heap := hP
  have hl := lv_entry ([.ref h0, .int a1, .int a2]) (n := 3) (Nat.le_of_ble_eq_true rfl)
  rw [lg_entry_eq]
  generalize (lg_sl ([.ref h0, .int a1, .int a2]) ++ List.replicate (3 - (lg_sl ([.ref h0, .int a1, .int a2])).length) Slot.unset).toArray = ls at hl ⊢
  have hl : lv_has ls 3 [(0, .ref h0), (1, .int a1), (2, .int a2)] := hl
  refine lv_iload_n hx hb dX10_voyage_0 rfl (lv_at hl 1 rfl) ?_
  refine lv_if_lt (tgt := 17) hx hb dX10_voyage_1 (by decide) (fun c_1 => ?_) (fun c_1 => ?_)
  · refine lv_aload_n hx hb dX10_voyage_17 rfl (lv_at hl 0 rfl) ?_
    refine lv_iconst (v := (-1)) hx hb dX10_voyage_18 (by decide) ?_
    have hPc := hP.sub (ws' := [(h0, .inr (10, oF q)), ((q 15), .inl ((cq 15), 7, .inl (fun _ => 0)))]) [0, 1] rfl
    have hDc := hD.sub (ws' := [(h0, .inr (10, oF q)), ((q 15), .inl ((cq 15), 7, .inl (fun _ => 0)))]) [0, 1] (by decide) rfl
    have hKc := hK.sub (tys' := [((cq 15), .int)]) [0] rfl
    have hFc := va_free (wc := [(h0, .inr (10, oF q)), ((q 15), .inl ((cq 15), 7, .inl (fun _ => 0)))]) hD hS hA [0, 1] rfl
    refine va_calli (va_runV (As := [.int (-1)]) (rest := []) ⟨hx, hb, hml, hown, hts⟩ (c_X10_refuse l dC dI s.heap.size h0 q cq (-1) (by unfold vp_in; decide)) (cwV 1 hts gX10_voyage_X10_refuse rfl rfl rfl (by decide +kernel) ⟨(Nat.le_of_ble_eq_true rfl), (Nat.le_of_ble_eq_true rfl)⟩) (pr_V (r := (RX10, TX10, 16)) hPc hKc hDc 0 10 rfl rfl) rfl rfl hl.1 rfl (lv_room (Nat.le_of_ble_eq_true rfl)) dX10_voyage_19 ⟨(Nat.le_of_ble_eq_true rfl), (Nat.le_of_ble_eq_true rfl)⟩) hS (fun q _ h => hFc q h) hFc (fun r_3 u t H locs ht hvm w_2 hB hz1 hk1 hS => ?_)
    subst w_2
    refine W.widen (k := 1) (n := 10) (Nat.le_of_ble_eq_true rfl) (Nat.le_of_ble_eq_true rfl) ?_
    exact W.iret (v := (-1)) hx hb hr (fun t ht hW => ⟨⟨(-1), (), rfl, (by simp [sp_voyage, isI_lt 10 c_1]), trivial⟩, hS.F ht⟩) hS.2.2 dX10_voyage_22
  · refine lv_iload_n hx hb dX10_voyage_4 rfl (lv_at hl 1 rfl) ?_
    refine lv_bipush (v := 10) hx hb dX10_voyage_5 (by decide) ?_
    refine lv_icmp_ge (tgt := 17) hx hb dX10_voyage_7 (by decide) (fun c_4 => ?_) (fun c_4 => ?_)
    · refine lv_aload_n hx hb dX10_voyage_17 rfl (lv_at hl 0 rfl) ?_
      refine lv_iconst (v := (-1)) hx hb dX10_voyage_18 (by decide) ?_
      have hPc := hP.sub (ws' := [(h0, .inr (10, oF q)), ((q 15), .inl ((cq 15), 7, .inl (fun _ => 0)))]) [0, 1] rfl
      have hDc := hD.sub (ws' := [(h0, .inr (10, oF q)), ((q 15), .inl ((cq 15), 7, .inl (fun _ => 0)))]) [0, 1] (by decide) rfl
      have hKc := hK.sub (tys' := [((cq 15), .int)]) [0] rfl
      have hFc := va_free (wc := [(h0, .inr (10, oF q)), ((q 15), .inl ((cq 15), 7, .inl (fun _ => 0)))]) hD hS hA [0, 1] rfl
      refine va_calli (va_runV (As := [.int (-1)]) (rest := []) ⟨hx, hb, hml, hown, hts⟩ (c_X10_refuse l dC dI s.heap.size h0 q cq (-1) (by unfold vp_in; decide)) (cwV 1 hts gX10_voyage_X10_refuse rfl rfl rfl (by decide +kernel) ⟨(Nat.le_of_ble_eq_true rfl), (Nat.le_of_ble_eq_true rfl)⟩) (pr_V (r := (RX10, TX10, 16)) hPc hKc hDc 0 10 rfl rfl) rfl rfl hl.1 rfl (lv_room (Nat.le_of_ble_eq_true rfl)) dX10_voyage_19 ⟨(Nat.le_of_ble_eq_true rfl), (Nat.le_of_ble_eq_true rfl)⟩) hS (fun q _ h => hFc q h) hFc (fun r_6 u t H locs ht hvm w_5 hB hz1 hk1 hS => ?_)
      subst w_5
      refine W.widen (k := 1) (n := 10) (Nat.le_of_ble_eq_true rfl) (Nat.le_of_ble_eq_true rfl) ?_
      exact W.iret (v := (-1)) hx hb hr (fun t ht hW => ⟨⟨(-1), (), rfl, (by simp [sp_voyage, isI_ge c_4]), trivial⟩, hS.F ht⟩) hS.2.2 dX10_voyage_22
    · refine lv_iload_n hx hb dX10_voyage_10 rfl (lv_at hl 2 rfl) ?_
      have hPc := hP.sub (ws' := []) [] rfl
      have hDc := hD.sub (ws' := []) [] (by decide) rfl
      have hKc := hK.sub (tys' := []) [] rfl
      have hFc : ∀ q, va_A [] s.heap.size q → A q := pu_free hS hA
      refine va_calli (va_runS (As := [.int a2]) (rest := []) ⟨hx, hb, hml, hown, hts⟩ (c_X10_isPort l dC dI s.heap.size a2) (va_cwS 1 hts gX10_voyage_X10_isPort rfl rfl rfl (by decide +kernel) ⟨(Nat.le_of_ble_eq_true rfl), (Nat.le_of_ble_eq_true rfl)⟩) (pr_S hPc hKc hDc) rfl rfl hl.1 rfl (lv_room (Nat.le_of_ble_eq_true rfl)) dX10_voyage_11 ⟨(Nat.le_of_ble_eq_true rfl), (Nat.le_of_ble_eq_true rfl)⟩) hS (fun q _ h => hFc q h) hFc (fun r_8 u t H locs ht hvm w_7 hB hz1 hk1 hS => ?_)
      have hP := pu_keep hP hk1
      clear hk1 hz1 hvm hB hPc hDc hKc hFc ht
      subst w_7
      refine lv_if_ne (tgt := 23) hx hb dX10_voyage_14 (by decide) (fun c_9 => ?_) (fun c_9 => ?_)
      · refine lv_aload_n hx hb dX10_voyage_23 rfl (lv_at hl 0 rfl) ?_
        refine lv_iload_n hx hb dX10_voyage_24 rfl (lv_at hl 1 rfl) ?_
        have hPc := hP.sub (ws' := [(h0, .inr (10, oF q))]) [0] rfl
        have hDc := hD.sub (ws' := [(h0, .inr (10, oF q))]) [0] (by decide) rfl
        have hKc := hK.sub (tys' := []) [] rfl
        have hFc : ∀ q, va_A [] H.size q → A q := pu_free hS hA
        refine va_calli (va_runV (As := [.int a1]) (rest := []) ⟨hx, hb, hml, hown, hts⟩ (c_X10_hasVoyage l dC dI H.size h0 q cq a1) (cwV 1 hts gX10_voyage_X10_hasVoyage rfl rfl rfl (by decide +kernel) ⟨(Nat.le_of_ble_eq_true rfl), (Nat.le_of_ble_eq_true rfl)⟩) (pr_V (r := (RX10, TX10, 16)) hPc hKc hDc 0 10 rfl rfl) rfl rfl hl.1 rfl (lv_room (Nat.le_of_ble_eq_true rfl)) dX10_voyage_25 ⟨(Nat.le_of_ble_eq_true rfl), (Nat.le_of_ble_eq_true rfl)⟩) hS (fun q _ h => hFc q h) hFc (fun r_11 u t H locs ht hvm w_10 hB hz1 hk1 hS => ?_)
        have hP := pu_keep hP hk1
        clear hk1 hz1 hvm hB hPc hDc hKc hFc ht
        subst w_10
        refine lv_if_eq (tgt := 38) hx hb dX10_voyage_28 (by decide) (fun _ => ?_) (fun c_12 => absurd c_12 (by decide))
        refine lv_aload_n hx hb dX10_voyage_38 rfl (lv_at hl 0 rfl) ?_
        refine va_get (D := (dC, dI)) (ci := 10) (v := .int 0) (C := RX10) (T := TX10) (N := 16) hx hb hts in_wsX10_voyage_X10 hown hK hP 0 rfl rfl 4 (by decide) (hts (.fieldLink RX10 99 "ShipOffice" "voyageCount" "I") (by decide +kernel)) (fun _ h9 => h9) rfl dX10_voyage_39 ?_
        refine lv_bipush (v := 20) hx hb dX10_voyage_42 (by decide) ?_
        refine lv_icmp_lt (tgt := 54) hx hb dX10_voyage_44 (by decide) (fun _ => ?_) (fun c_13 => absurd c_13 (by decide))
        refine lv_aload_n hx hb dX10_voyage_54 rfl (lv_at hl 0 rfl) ?_
        refine va_get (D := (dC, dI)) (ci := 10) (v := .ref (q 3)) (C := RX10) (T := TX10) (N := 16) hx hb hts in_wsX10_voyage_X10 hown hK hP 0 rfl rfl 3 (by decide) (hts (.fieldLink RX10 17 "ShipOffice" "voyages" "[LShipOffice$Voyage;") (by decide +kernel)) (fun _ h9 => h9) rfl dX10_voyage_55 ?_
        refine lv_aload_n hx hb dX10_voyage_58 rfl (lv_at hl 0 rfl) ?_
        refine va_get (D := (dC, dI)) (ci := 10) (v := .int 0) (C := RX10) (T := TX10) (N := 16) hx hb hts in_wsX10_voyage_X10 hown hK hP 0 rfl rfl 4 (by decide) (hts (.fieldLink RX10 99 "ShipOffice" "voyageCount" "I") (by decide +kernel)) (fun _ h9 => h9) rfl dX10_voyage_59 ?_
        refine va_new (ci := 9) (fs := [.int 0, .int 0, .int 0, .int 0, .int 0, .int 0, .int 0, .int 0, .int 0, .null]) (C := RX9) (T := TX9) (N := 10) hx hb hts in_wsX10_voyage_X9 tyX9 tyX9_ok hown (hts (.classLink RX10 15 RX9) (by decide +kernel)) (hts (.instantiable RX9 10) (by decide +kernel)) (hts (.initialized RX9) (by decide +kernel)) hK hP hD hS hA rfl (fun j hj => by rcases (show j = 0 ∨ j = 1 ∨ j = 2 ∨ j = 3 ∨ j = 4 ∨ j = 5 ∨ j = 6 ∨ j = 7 ∨ j = 8 ∨ j = 9 by omega) with rfl | rfl | rfl | rfl | rfl | rfl | rfl | rfl | rfl | rfl <;> rfl) (Nat.le_of_ble_eq_true rfl) (Nat.le_of_ble_eq_true rfl) dX10_voyage_62 (fun q_14 H hP hD hS => ?_)
        have hP : va_P (dC, dI) vwCl [(h0, .inr (10, oF q)), ((q 15), .inl ((cq 15), 7, .inl (fun _ => 0))), ((q 3), .inl ((cq 3), 20, .inr (.inr (.inr (.inr (fun _ => none)))))), (q_14, .inr (9, [.int 0, .int 0, .int 0, .int 0, .int 0, .int 0, .int 0, .int 0, .int 0, .null]))] H := hP
        have hD : va_D A [(h0, .inr (10, oF q)), ((q 15), .inl ((cq 15), 7, .inl (fun _ => 0))), ((q 3), .inl ((cq 3), 20, .inr (.inr (.inr (.inr (fun _ => none)))))), (q_14, .inr (9, [.int 0, .int 0, .int 0, .int 0, .int 0, .int 0, .int 0, .int 0, .int 0, .null]))] := hD
        refine W.widen (k := 1) (n := 10) (Nat.le_of_ble_eq_true rfl) (Nat.le_of_ble_eq_true rfl) ?_
        refine lv_dup hx hb dX10_voyage_65 rfl ?_
        refine lv_aload_n hx hb dX10_voyage_66 rfl (lv_at hl 0 rfl) ?_
        refine va_get (D := (dC, dI)) (ci := 10) (v := .int 0) (C := RX10) (T := TX10) (N := 16) hx hb hts in_wsX10_voyage_X10 hown hK hP 0 rfl rfl 4 (by decide) (hts (.fieldLink RX10 99 "ShipOffice" "voyageCount" "I") (by decide +kernel)) (fun _ h9 => h9) rfl dX10_voyage_67 ?_
        refine lv_iload_n hx hb dX10_voyage_70 rfl (lv_at hl 1 rfl) ?_
        refine lv_iload_n hx hb dX10_voyage_71 rfl (lv_at hl 2 rfl) ?_
        refine lv_aload_n hx hb dX10_voyage_72 rfl (lv_at hl 0 rfl) ?_
        refine va_get (D := (dC, dI)) (ci := 10) (v := .int 0) (C := RX10) (T := TX10) (N := 16) hx hb hts in_wsX10_voyage_X10 hown hK hP 0 rfl rfl 0 (by decide) (hts (.fieldLink RX10 73 "ShipOffice" "now" "I") (by decide +kernel)) (fun _ h9 => h9) rfl dX10_voyage_73 ?_
        have hPc := hP.sub (ws' := [(q_14, .inr (9, [.int 0, .int 0, .int 0, .int 0, .int 0, .int 0, .int 0, .int 0, .int 0, .null]))]) [3] rfl
        have hDc := hD.sub (ws' := [(q_14, .inr (9, [.int 0, .int 0, .int 0, .int 0, .int 0, .int 0, .int 0, .int 0, .int 0, .null]))]) [3] (by decide) rfl
        have hKc := hK.sub (tys' := []) [] rfl
        have hFc := va_free (wc := [(q_14, .inr (9, [.int 0, .int 0, .int 0, .int 0, .int 0, .int 0, .int 0, .int 0, .int 0, .null]))]) hD hS hA [3] rfl
        refine va_callv (va_runI (As := [.int 0, .int a1, .int a2, .int 0]) (rest := [.ref q_14, .int 0, .ref (q 3)]) ⟨hx, hb, hml, hown, hts⟩ (c_X9_init l dC dI H.size q_14 0 a1 a2 0) (cwI 4 hts gX10_voyage_X9_init rfl rfl rfl (hts (.initialized RX9) (by decide +kernel)) (hts (.methodLink RX10 102 yX9_init) (by decide +kernel)) (hts (.instanceMethod yX9_init) (by decide +kernel)) rfl (by decide +kernel) ⟨(Nat.le_of_ble_eq_true rfl), (Nat.le_of_ble_eq_true rfl)⟩) (pr_S hPc hKc hDc) rfl rfl hl.1 rfl (lv_room (Nat.le_of_ble_eq_true rfl)) dX10_voyage_76 ⟨(Nat.le_of_ble_eq_true rfl), (Nat.le_of_ble_eq_true rfl)⟩) hS (fun q _ h => hFc q h) hFc (fun u t H locs ht hvm w_15 hB hz1 hk1 hS => ?_)
        obtain ⟨hP1, hK1, hD1⟩ := hB
        rw [ht] at hP1
        have hK1 := va_K.moved hvm.symm hK1
        obtain ⟨hP, hD⟩ := va_join (wr := [(h0, .inr (10, oF q)), ((q 15), .inl ((cq 15), 7, .inl (fun _ => 0))), ((q 3), .inl ((cq 3), 20, .inr (.inr (.inr (.inr (fun _ => none))))))]) (w1 := [(q_14, .inr (9, [.int 0, .int a1, .int a2, .int 0, .int 0, .int 1000000, .int 1000000, .int 1000000, .int 1000000, .null]))]) hP hD [3] [0, 1, 2] rfl rfl (by decide) (by decide) hk1 hFc hP1 hD1
        have hK := hK.app hK1
        have hP : va_P (dC, dI) vwCl [(h0, .inr (10, oF q)), ((q 15), .inl ((cq 15), 7, .inl (fun _ => 0))), ((q 3), .inl ((cq 3), 20, .inr (.inr (.inr (.inr (fun _ => none)))))), (q_14, .inr (9, [.int 0, .int a1, .int a2, .int 0, .int 0, .int 1000000, .int 1000000, .int 1000000, .int 1000000, .null]))] H := hP
        have hD : va_D A [(h0, .inr (10, oF q)), ((q 15), .inl ((cq 15), 7, .inl (fun _ => 0))), ((q 3), .inl ((cq 3), 20, .inr (.inr (.inr (.inr (fun _ => none)))))), (q_14, .inr (9, [.int 0, .int a1, .int a2, .int 0, .int 0, .int 1000000, .int 1000000, .int 1000000, .int 1000000, .null]))] := hD
        have hK : va_K (dC, dI) vwCl [((cq 15), .int), ((cq 3), .object RX9)] s := hK
        clear hP1 hK1 hD1 hk1 hz1 hvm ht hPc hDc hKc hFc
        refine va_astq (r := (RX9, TX9, 10)) hx hb hK hP hD hS 2 1 3 9 rfl rfl rfl rfl (by unfold vp_in; decide) dX10_voyage_79 (fun H locs hP hD hS => ?_)
        have hP : va_P (dC, dI) vwCl [(h0, .inr (10, oF q)), ((q 15), .inl ((cq 15), 7, .inl (fun _ => 0))), ((q 3), .inl ((cq 3), 20, .inr (.inr (.inr (.inr (va_up (fun _ => none) (0 : Int32).toNatClampNeg (some q_14))))))), (q_14, .inr (9, [.int 0, .int a1, .int a2, .int 0, .int 0, .int 1000000, .int 1000000, .int 1000000, .int 1000000, .null]))] H := hP
        have hD : va_D A [(h0, .inr (10, oF q)), ((q 15), .inl ((cq 15), 7, .inl (fun _ => 0))), ((q 3), .inl ((cq 3), 20, .inr (.inr (.inr (.inr (va_up (fun _ => none) (0 : Int32).toNatClampNeg (some q_14))))))), (q_14, .inr (9, [.int 0, .int a1, .int a2, .int 0, .int 0, .int 1000000, .int 1000000, .int 1000000, .int 1000000, .null]))] := hD
        refine lv_aload_n hx hb dX10_voyage_80 rfl (lv_at hl 0 rfl) ?_
        refine lv_dup hx hb dX10_voyage_81 rfl ?_
        refine va_get (D := (dC, dI)) (ci := 10) (v := .int 0) (C := RX10) (T := TX10) (N := 16) hx hb hts in_wsX10_voyage_X10 hown hK hP 0 rfl rfl 4 (by decide) (hts (.fieldLink RX10 99 "ShipOffice" "voyageCount" "I") (by decide +kernel)) (fun _ h9 => h9) rfl dX10_voyage_82 ?_
        refine lv_iconst (v := 1) hx hb dX10_voyage_85 (by decide) ?_
        refine lv_iadd hx hb dX10_voyage_86 ?_
        refine lv_topi (fun y ey => ?_)
        obtain rfl : y = 1 := ey.trans (by decide)
        refine va_put (D := (dC, dI)) (ci := 10) (v := .int 1) (ty := .int) (C := RX10) (T := TX10) (N := 16) hx hb hts in_wsX10_voyage_X10 tyX10 tyX10_ok nmX10 hown hK hP hD hS 0 rfl rfl 4 (by decide) (hts (.fieldLink RX10 99 "ShipOffice" "voyageCount" "I") (by decide +kernel)) (fun _ h9 => h9) rfl (by decide +kernel) rfl rfl (Nat.le_of_ble_eq_true rfl) dX10_voyage_87 (fun H locs hP hD hS => ?_)
        have hP : va_P (dC, dI) vwCl [(h0, .inr (10, ((oF q).set 4 (.int 1)))), ((q 15), .inl ((cq 15), 7, .inl (fun _ => 0))), ((q 3), .inl ((cq 3), 20, .inr (.inr (.inr (.inr (va_up (fun _ => none) (0 : Int32).toNatClampNeg (some q_14))))))), (q_14, .inr (9, [.int 0, .int a1, .int a2, .int 0, .int 0, .int 1000000, .int 1000000, .int 1000000, .int 1000000, .null]))] H := hP
        have hD : va_D A [(h0, .inr (10, ((oF q).set 4 (.int 1)))), ((q 15), .inl ((cq 15), 7, .inl (fun _ => 0))), ((q 3), .inl ((cq 3), 20, .inr (.inr (.inr (.inr (va_up (fun _ => none) (0 : Int32).toNatClampNeg (some q_14))))))), (q_14, .inr (9, [.int 0, .int a1, .int a2, .int 0, .int 0, .int 1000000, .int 1000000, .int 1000000, .int 1000000, .null]))] := hD
        refine lv_aload_n hx hb dX10_voyage_90 rfl (lv_at hl 0 rfl) ?_
        refine va_get (D := (dC, dI)) (ci := 10) (v := .int 1) (C := RX10) (T := TX10) (N := 16) hx hb hts in_wsX10_voyage_X10 hown hK hP 0 rfl rfl 4 (by decide) (hts (.fieldLink RX10 99 "ShipOffice" "voyageCount" "I") (by decide +kernel)) (fun _ h9 => h9) rfl dX10_voyage_91 ?_
        refine lv_iconst (v := 1) hx hb dX10_voyage_94 (by decide) ?_
        refine lv_isub hx hb dX10_voyage_95 ?_
        refine lv_topi (fun y ey => ?_)
        obtain rfl : y = 0 := ey.trans (by decide)
        exact W.iret (v := 0) hx hb hr (fun t ht hW => ⟨⟨0, (), rfl, (by simp [sp_voyage, isI_in c_1 c_4, c_9]), trivial⟩, hS.F ht⟩) hS.2.2 dX10_voyage_96
      · refine lv_aload_n hx hb dX10_voyage_17 rfl (lv_at hl 0 rfl) ?_
        refine lv_iconst (v := (-1)) hx hb dX10_voyage_18 (by decide) ?_
        have hPc := hP.sub (ws' := [(h0, .inr (10, oF q)), ((q 15), .inl ((cq 15), 7, .inl (fun _ => 0)))]) [0, 1] rfl
        have hDc := hD.sub (ws' := [(h0, .inr (10, oF q)), ((q 15), .inl ((cq 15), 7, .inl (fun _ => 0)))]) [0, 1] (by decide) rfl
        have hKc := hK.sub (tys' := [((cq 15), .int)]) [0] rfl
        have hFc := va_free (wc := [(h0, .inr (10, oF q)), ((q 15), .inl ((cq 15), 7, .inl (fun _ => 0)))]) hD hS hA [0, 1] rfl
        refine va_calli (va_runV (As := [.int (-1)]) (rest := []) ⟨hx, hb, hml, hown, hts⟩ (c_X10_refuse l dC dI H.size h0 q cq (-1) (by unfold vp_in; decide)) (cwV 1 hts gX10_voyage_X10_refuse rfl rfl rfl (by decide +kernel) ⟨(Nat.le_of_ble_eq_true rfl), (Nat.le_of_ble_eq_true rfl)⟩) (pr_V (r := (RX10, TX10, 16)) hPc hKc hDc 0 10 rfl rfl) rfl rfl hl.1 rfl (lv_room (Nat.le_of_ble_eq_true rfl)) dX10_voyage_19 ⟨(Nat.le_of_ble_eq_true rfl), (Nat.le_of_ble_eq_true rfl)⟩) hS (fun q _ h => hFc q h) hFc (fun r_18 u t H locs ht hvm w_17 hB hz1 hk1 hS => ?_)
        subst w_17
        refine W.widen (k := 1) (n := 10) (Nat.le_of_ble_eq_true rfl) (Nat.le_of_ble_eq_true rfl) ?_
        exact W.iret (v := (-1)) hx hb hr (fun t ht hW => ⟨⟨(-1), (), rfl, (by simp [sp_voyage, isI_in c_1 c_4, c_9]), trivial⟩, hS.F ht⟩) hS.2.2 dX10_voyage_22
set_option maxHeartbeats 4000000 in
set_option maxRecDepth 100000 in
theorem c_X10_put (l : Launch) (dC : Nat → ClassId) (dI : Nat → Nat → Nat) (sz : Nat) (h0 : Nat) (q : Nat → Nat) (cq : Nat → ClassId) (a1 : Int32) : Met l yX10_put wsX10_put ({ frames := 0, cells := 0, slots := 0, locals := 0 }) (va_Pc [.ref h0, .int a1] (pcW (dC, dI) [((cq 13), .int)] [(h0, .inr (10, oF q)), ((q 13), .inl ((cq 13), 12, .inl (fun _ => 0)))] sz)) (va_Qi (fun (r : Int32) (u : Unit) => r = 1) (fun _ _ => True) (va_A [(h0, .inr (10, oF q)), ((q 13), .inl ((cq 13), 12, .inl (fun _ => 0)))] sz)) 0 0 (va_A [(h0, .inr (10, oF q)), ((q 13), .inl ((cq 13), 12, .inl (fun _ => 0)))] sz) := by
  refine Met.ofW (cc := cX10_put) (maxL := 2) (ret := (some .int)) (by decide) rfl ?_
  intro p e s m args below meth c s₁ B hml hv
  obtain ⟨rfl, hsz, hP, hK, hD0⟩ := hv
  have hx := B.exec
  have hb := B.bytes
  have hr := B.returns
  have hts := atoms_spec (ws := wsX10_put) B.pre
  have hown : s.vm.findClass RX10 = some m.cls := findClass_of_methodNamed B.named
  have hlocks := B.notSynchronized
  subst hsz
  have hD := hD0.self (sz := s.heap.size)
  generalize hAe : va_A [(h0, .inr (10, oF q)), ((q 13), .inl ((cq 13), 12, .inl (fun _ => 0)))] s.heap.size = A at hD ⊢
  have hA : ∀ q : Nat, s.heap.size ≤ q → A q := fun q h => by rw [← hAe]; exact Or.inr h
  have hS : va_S A s.heap s.heap [] := va_S.rf
  have hP : va_P (dC, dI) vwCl [(h0, .inr (10, oF q)), ((q 13), .inl ((cq 13), 12, .inl (fun _ => 0)))] s.heap := hP
  have hl := lv_entry ([.ref h0, .int a1]) (n := 2) (Nat.le_of_ble_eq_true rfl)
  rw [lg_entry_eq]
  generalize (lg_sl ([.ref h0, .int a1]) ++ List.replicate (2 - (lg_sl ([.ref h0, .int a1])).length) Slot.unset).toArray = ls at hl ⊢
  have hl : lv_has ls 2 [(0, .ref h0), (1, .int a1)] := hl
  refine lv_aload_n hx hb dX10_put_0 rfl (lv_at hl 0 rfl) ?_
  refine va_get (D := (dC, dI)) (ci := 10) (v := .int 0) (C := RX10) (T := TX10) (N := 16) hx hb hts in_wsX10_put_X10 hown hK hP 0 rfl rfl 14 (by decide) (hts (.fieldLink RX10 353 "ShipOffice" "rowCount" "I") (by decide +kernel)) (fun _ h9 => h9) rfl dX10_put_1 ?_
  refine lv_bipush (v := 12) hx hb dX10_put_4 (by decide) ?_
  refine lv_icmp_lt (tgt := 16) hx hb dX10_put_6 (by decide) (fun _ => ?_) (fun c_1 => absurd c_1 (by decide))
  refine lv_aload_n hx hb dX10_put_16 rfl (lv_at hl 0 rfl) ?_
  refine va_get (D := (dC, dI)) (ci := 10) (v := .ref (q 13)) (C := RX10) (T := TX10) (N := 16) hx hb hts in_wsX10_put_X10 hown hK hP 0 rfl rfl 13 (by decide) (hts (.fieldLink RX10 63 "ShipOffice" "row" "[I") (by decide +kernel)) (fun _ h9 => h9) rfl dX10_put_17 ?_
  refine lv_aload_n hx hb dX10_put_20 rfl (lv_at hl 0 rfl) ?_
  refine va_get (D := (dC, dI)) (ci := 10) (v := .int 0) (C := RX10) (T := TX10) (N := 16) hx hb hts in_wsX10_put_X10 hown hK hP 0 rfl rfl 14 (by decide) (hts (.fieldLink RX10 353 "ShipOffice" "rowCount" "I") (by decide +kernel)) (fun _ h9 => h9) rfl dX10_put_21 ?_
  refine lv_iload_n hx hb dX10_put_24 rfl (lv_at hl 1 rfl) ?_
  refine va_iast hx hb hK hP hD hS 1 0 rfl rfl (by unfold vp_in; decide) dX10_put_25 (fun H locs hP hD hS => ?_)
  have hP : va_P (dC, dI) vwCl [(h0, .inr (10, oF q)), ((q 13), .inl ((cq 13), 12, .inl (upd (fun _ => 0) (0 : Int32).toNatClampNeg a1)))] H := hP
  have hD : va_D A [(h0, .inr (10, oF q)), ((q 13), .inl ((cq 13), 12, .inl (upd (fun _ => 0) (0 : Int32).toNatClampNeg a1)))] := hD
  refine lv_aload_n hx hb dX10_put_26 rfl (lv_at hl 0 rfl) ?_
  refine lv_dup hx hb dX10_put_27 rfl ?_
  refine va_get (D := (dC, dI)) (ci := 10) (v := .int 0) (C := RX10) (T := TX10) (N := 16) hx hb hts in_wsX10_put_X10 hown hK hP 0 rfl rfl 14 (by decide) (hts (.fieldLink RX10 353 "ShipOffice" "rowCount" "I") (by decide +kernel)) (fun _ h9 => h9) rfl dX10_put_28 ?_
  refine lv_iconst (v := 1) hx hb dX10_put_31 (by decide) ?_
  refine lv_iadd hx hb dX10_put_32 ?_
  refine lv_topi (fun y ey => ?_)
  obtain rfl : y = 1 := ey.trans (by decide)
  refine va_put (D := (dC, dI)) (ci := 10) (v := .int 1) (ty := .int) (C := RX10) (T := TX10) (N := 16) hx hb hts in_wsX10_put_X10 tyX10 tyX10_ok nmX10 hown hK hP hD hS 0 rfl rfl 14 (by decide) (hts (.fieldLink RX10 353 "ShipOffice" "rowCount" "I") (by decide +kernel)) (fun _ h9 => h9) rfl (by decide +kernel) rfl rfl (Nat.le_of_ble_eq_true rfl) dX10_put_33 (fun H locs hP hD hS => ?_)
  have hP : va_P (dC, dI) vwCl [(h0, .inr (10, ((oF q).set 14 (.int 1)))), ((q 13), .inl ((cq 13), 12, .inl (upd (fun _ => 0) (0 : Int32).toNatClampNeg a1)))] H := hP
  have hD : va_D A [(h0, .inr (10, ((oF q).set 14 (.int 1)))), ((q 13), .inl ((cq 13), 12, .inl (upd (fun _ => 0) (0 : Int32).toNatClampNeg a1)))] := hD
  refine lv_aload_n hx hb dX10_put_36 rfl (lv_at hl 0 rfl) ?_
  refine va_get (D := (dC, dI)) (ci := 10) (v := .int 1) (C := RX10) (T := TX10) (N := 16) hx hb hts in_wsX10_put_X10 hown hK hP 0 rfl rfl 14 (by decide) (hts (.fieldLink RX10 353 "ShipOffice" "rowCount" "I") (by decide +kernel)) (fun _ h9 => h9) rfl dX10_put_37 ?_
  exact W.iret (v := 1) hx hb hr (fun t ht hW => ⟨⟨1, (), rfl, rfl, trivial⟩, hS.F ht⟩) hS.2.2 dX10_put_40
