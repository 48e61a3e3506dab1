def tyX0 : Nat → FieldType := fun k => match k with
  | 0 => .int
  | 1 => .int
  | 2 => .int
  | 3 => .array .int
  | _ => .array .int
theorem nmX0 : ∀ a, a < 5 → ∀ b, b < 5 → a ≠ b → (TX0 a).2.1 ≠ (TX0 b).2.1 := by decide +kernel
theorem tyX0_ok : ∀ k, k < 5 → parseFieldDescriptor (TX0 k).2.2.1 = some (tyX0 k) := by decide +kernel
abbrev cX0_init : ByteArray := prog_2_method_1_code
def yX0_init : MethodName := ⟨RX0, "<init>", "(II[I)V"⟩
abbrev cX4_init : ByteArray := prog_6_method_1_code
def yX4_init : MethodName := ⟨RX4, "<init>", "()V"⟩
def tyX7 : Nat → FieldType := fun k => match k with
  | 0 => .array .int
  | _ => .array .int
theorem nmX7 : ∀ a, a < 2 → ∀ b, b < 2 → a ≠ b → (TX7 a).2.1 ≠ (TX7 b).2.1 := by decide +kernel
theorem tyX7_ok : ∀ k, k < 2 → parseFieldDescriptor (TX7 k).2.2.1 = some (tyX7 k) := by decide +kernel
abbrev cX7_init : ByteArray := prog_9_method_1_code
def yX7_init : MethodName := ⟨RX7, "<init>", "()V"⟩
abbrev cX8_init : ByteArray := prog_10_method_1_code
def yX8_init : MethodName := ⟨RX8, "<init>", "()V"⟩
def wsX0_init : List Cond := .code yX0_init cX0_init 4 none :: ([.methodLink RX0 1 objectInit, .instanceMethod objectInit, .code objectInit ⟨#[0xb1]⟩ 1 none, .fieldLink RX0 7 "ShipOffice$Act" "purpose" "I", .fieldLink RX0 13 "ShipOffice$Act" "day" "I", .fieldLink RX0 16 "ShipOffice$Act" "code" "[I", .arrayClass .int, .fieldLink RX0 20 "ShipOffice$Act" "stack" "[I", .fieldLink RX0 33 "ShipOffice$Act" "plainWorth" "I", .methodLink RX0 29 yX0_worth, .instanceMethod yX0_worth, .selects RX0 yX0_worth yX0_worth, .initialized RX0, .code yX0_worth cX0_worth 8 (some .int), .methodLink RX0 36 yX0_joined, .static yX0_joined, .code yX0_joined cX0_joined 5 (some .int), .methodLink RX0 40 yX0_held, .static yX0_held, .code yX0_held cX0_held 2 (some .int), .constantLong RX0 44 (1000000000), .constant RX0 46 (1000000000), .constantLong RX0 47 (-1000000000), .constant RX0 49 (-1000000000)] ++ wsX00)
theorem il_X0_init_1 : ∀ w ∈ ([.methodLink RX0 1 objectInit, .instanceMethod objectInit, .code objectInit ⟨#[0xb1]⟩ 1 none, .fieldLink RX0 7 "ShipOffice$Act" "purpose" "I", .fieldLink RX0 13 "ShipOffice$Act" "day" "I", .fieldLink RX0 16 "ShipOffice$Act" "code" "[I", .arrayClass .int, .fieldLink RX0 20 "ShipOffice$Act" "stack" "[I", .fieldLink RX0 33 "ShipOffice$Act" "plainWorth" "I", .methodLink RX0 29 yX0_worth, .instanceMethod yX0_worth, .selects RX0 yX0_worth yX0_worth, .initialized RX0, .code yX0_worth cX0_worth 8 (some .int), .methodLink RX0 36 yX0_joined, .static yX0_joined, .code yX0_joined cX0_joined 5 (some .int), .methodLink RX0 40 yX0_held, .static yX0_held, .code yX0_held cX0_held 2 (some .int), .constantLong RX0 44 (1000000000), .constant RX0 46 (1000000000), .constantLong RX0 47 (-1000000000), .constant RX0 49 (-1000000000)] : List Cond), w ∈ wsX0_init := fun w h => (List.mem_cons_of_mem _ (List.mem_append_left _ h))
theorem il_X0_init_2 : ∀ w ∈ wsX00, w ∈ wsX0_init := fun w h => (List.mem_cons_of_mem _ (List.mem_append_right _ h))
theorem iw_X0_init_1 : Cond.methodLink RX0 1 objectInit ∈ wsX0_init := (mmI il_X0_init_1 0 rfl)
theorem iw_X0_init_2 : Cond.instanceMethod objectInit ∈ wsX0_init := (mmI il_X0_init_1 1 rfl)
theorem iw_X0_init_3 : Cond.fieldLink RX0 7 "ShipOffice$Act" "purpose" "I" ∈ wsX0_init := (mmI il_X0_init_1 3 rfl)
theorem iw_X0_init_4 : Cond.fieldLink RX0 13 "ShipOffice$Act" "day" "I" ∈ wsX0_init := (mmI il_X0_init_1 4 rfl)
theorem iw_X0_init_5 : Cond.fieldLink RX0 16 "ShipOffice$Act" "code" "[I" ∈ wsX0_init := (mmI il_X0_init_1 5 rfl)
theorem iw_X0_init_6 : Cond.arrayClass .int ∈ wsX0_init := (mmI il_X0_init_1 6 rfl)
theorem iw_X0_init_7 : Cond.fieldLink RX0 20 "ShipOffice$Act" "stack" "[I" ∈ wsX0_init := (mmI il_X0_init_1 7 rfl)
theorem iw_X0_init_8 : Cond.fieldLink RX0 33 "ShipOffice$Act" "plainWorth" "I" ∈ wsX0_init := (mmI il_X0_init_1 8 rfl)
def wsX4_init : List Cond := .code yX4_init cX4_init 1 none :: ([.methodLink RX4 5 objectInit, .instanceMethod objectInit, .code objectInit ⟨#[0xb1]⟩ 1 none, .arrayClass .long, .fieldLink RX4 11 "ShipOffice$Hiring" "best" "[J", .arrayClass .int, .fieldLink RX4 15 "ShipOffice$Hiring" "offers" "[I", .fieldLink RX4 19 "ShipOffice$Hiring" "firstPlace" "[I"] ++ wsX40)
theorem il_X4_init_1 : ∀ w ∈ ([.methodLink RX4 5 objectInit, .instanceMethod objectInit, .code objectInit ⟨#[0xb1]⟩ 1 none, .arrayClass .long, .fieldLink RX4 11 "ShipOffice$Hiring" "best" "[J", .arrayClass .int, .fieldLink RX4 15 "ShipOffice$Hiring" "offers" "[I", .fieldLink RX4 19 "ShipOffice$Hiring" "firstPlace" "[I"] : List Cond), w ∈ wsX4_init := fun w h => (List.mem_cons_of_mem _ (List.mem_append_left _ h))
theorem iw_X4_init_1 : Cond.methodLink RX4 5 objectInit ∈ wsX4_init := (mmI il_X4_init_1 0 rfl)
theorem iw_X4_init_2 : Cond.instanceMethod objectInit ∈ wsX4_init := (mmI il_X4_init_1 1 rfl)
theorem iw_X4_init_3 : Cond.arrayClass .long ∈ wsX4_init := (mmI il_X4_init_1 3 rfl)
theorem iw_X4_init_4 : Cond.fieldLink RX4 11 "ShipOffice$Hiring" "best" "[J" ∈ wsX4_init := (mmI il_X4_init_1 4 rfl)
theorem iw_X4_init_5 : Cond.arrayClass .int ∈ wsX4_init := (mmI il_X4_init_1 5 rfl)
theorem iw_X4_init_6 : Cond.fieldLink RX4 15 "ShipOffice$Hiring" "offers" "[I" ∈ wsX4_init := (mmI il_X4_init_1 6 rfl)
theorem iw_X4_init_7 : Cond.fieldLink RX4 19 "ShipOffice$Hiring" "firstPlace" "[I" ∈ wsX4_init := (mmI il_X4_init_1 7 rfl)
def wsX7_init : List Cond := .code yX7_init cX7_init 1 none :: ([.methodLink RX7 3 objectInit, .instanceMethod objectInit, .code objectInit ⟨#[0xb1]⟩ 1 none, .arrayClass .int, .fieldLink RX7 9 "ShipOffice$Sea" "miles" "[I", .fieldLink RX7 15 "ShipOffice$Sea" "least" "[I"] ++ wsX70)
theorem il_X7_init_1 : ∀ w ∈ ([.methodLink RX7 3 objectInit, .instanceMethod objectInit, .code objectInit ⟨#[0xb1]⟩ 1 none, .arrayClass .int, .fieldLink RX7 9 "ShipOffice$Sea" "miles" "[I", .fieldLink RX7 15 "ShipOffice$Sea" "least" "[I"] : List Cond), w ∈ wsX7_init := fun w h => (List.mem_cons_of_mem _ (List.mem_append_left _ h))
theorem iw_X7_init_1 : Cond.methodLink RX7 3 objectInit ∈ wsX7_init := (mmI il_X7_init_1 0 rfl)
theorem iw_X7_init_2 : Cond.instanceMethod objectInit ∈ wsX7_init := (mmI il_X7_init_1 1 rfl)
theorem iw_X7_init_3 : Cond.arrayClass .int ∈ wsX7_init := (mmI il_X7_init_1 3 rfl)
theorem iw_X7_init_4 : Cond.fieldLink RX7 9 "ShipOffice$Sea" "miles" "[I" ∈ wsX7_init := (mmI il_X7_init_1 4 rfl)
theorem iw_X7_init_5 : Cond.fieldLink RX7 15 "ShipOffice$Sea" "least" "[I" ∈ wsX7_init := (mmI il_X7_init_1 5 rfl)
def wsX8_init : List Cond := .code yX8_init cX8_init 1 none :: ([.methodLink RX8 3 objectInit, .instanceMethod objectInit, .code objectInit ⟨#[0xb1]⟩ 1 none, .arrayClass .int, .fieldLink RX8 9 "ShipOffice$Tape" "bytes" "[I", .fieldLink RX8 15 "ShipOffice$Tape" "code" "[I"] ++ wsX80)
theorem il_X8_init_1 : ∀ w ∈ ([.methodLink RX8 3 objectInit, .instanceMethod objectInit, .code objectInit ⟨#[0xb1]⟩ 1 none, .arrayClass .int, .fieldLink RX8 9 "ShipOffice$Tape" "bytes" "[I", .fieldLink RX8 15 "ShipOffice$Tape" "code" "[I"] : List Cond), w ∈ wsX8_init := fun w h => (List.mem_cons_of_mem _ (List.mem_append_left _ h))
theorem iw_X8_init_1 : Cond.methodLink RX8 3 objectInit ∈ wsX8_init := (mmI il_X8_init_1 0 rfl)
theorem iw_X8_init_2 : Cond.instanceMethod objectInit ∈ wsX8_init := (mmI il_X8_init_1 1 rfl)
theorem iw_X8_init_3 : Cond.arrayClass .int ∈ wsX8_init := (mmI il_X8_init_1 3 rfl)
theorem iw_X8_init_4 : Cond.fieldLink RX8 9 "ShipOffice$Tape" "bytes" "[I" ∈ wsX8_init := (mmI il_X8_init_1 4 rfl)
theorem iw_X8_init_5 : Cond.fieldLink RX8 15 "ShipOffice$Tape" "code" "[I" ∈ wsX8_init := (mmI il_X8_init_1 5 rfl)
set_option maxRecDepth 100000 in
theorem ggX0_init_X0_worth : GoodIn wsX0_init wsX0_worth := goodIn_sub (mmC (mmI il_X0_init_1 13 rfl) (mmA (mmC (mmI il_X0_init_1 5 rfl) (mmC (mmI il_X0_init_1 7 rfl) (mmC (mmI il_X0_init_1 14 rfl) (mmC (mmI il_X0_init_1 15 rfl) (mmC (mmI il_X0_init_1 12 rfl) (mmC (mmI il_X0_init_1 16 rfl) (mmC (mmI il_X0_init_1 17 rfl) (mmC (mmI il_X0_init_1 18 rfl) (mmC (mmI il_X0_init_1 19 rfl) (mmC (mmI il_X0_init_1 20 rfl) (mmC (mmI il_X0_init_1 21 rfl) (mmC (mmI il_X0_init_1 22 rfl) (mmC (mmI il_X0_init_1 23 rfl) mmN))))))))))))) il_X0_init_2)) gw_X0_worth
theorem gX0_init_X0_worth : GoodIn wsX0_init (wsV RX0 29 RX0 yX0_worth wsX0_worth) := goodIn_app (goodIn_sub (mmC (mmI il_X0_init_1 9 rfl) (mmC (mmI il_X0_init_1 10 rfl) (mmC (mmI il_X0_init_1 11 rfl) (mmC (mmI il_X0_init_1 12 rfl) mmN)))) (by decide +kernel)) ggX0_init_X0_worth
theorem dX0_init_0 : decode cX0_init 0 = .ok (.aload_n 0, 1) := by decide +kernel
theorem dX0_init_1 : decode cX0_init 1 = .ok (.invokespecial 1, 3) := by decide +kernel
theorem dX0_init_4 : decode cX0_init 4 = .ok (.aload_n 0, 1) := by decide +kernel
theorem dX0_init_5 : decode cX0_init 5 = .ok (.iload_n 1, 1) := by decide +kernel
theorem dX0_init_6 : decode cX0_init 6 = .ok (.putfield 7, 3) := by decide +kernel
theorem dX0_init_9 : decode cX0_init 9 = .ok (.aload_n 0, 1) := by decide +kernel
theorem dX0_init_10 : decode cX0_init 10 = .ok (.iload_n 2, 1) := by decide +kernel
theorem dX0_init_11 : decode cX0_init 11 = .ok (.putfield 13, 3) := by decide +kernel
theorem dX0_init_14 : decode cX0_init 14 = .ok (.aload_n 0, 1) := by decide +kernel
theorem dX0_init_15 : decode cX0_init 15 = .ok (.aload_n 3, 1) := by decide +kernel
theorem dX0_init_16 : decode cX0_init 16 = .ok (.putfield 16, 3) := by decide +kernel
theorem dX0_init_19 : decode cX0_init 19 = .ok (.aload_n 0, 1) := by decide +kernel
theorem dX0_init_20 : decode cX0_init 20 = .ok (.aload_n 3, 1) := by decide +kernel
theorem dX0_init_21 : decode cX0_init 21 = .ok (.arraylength, 1) := by decide +kernel
theorem dX0_init_22 : decode cX0_init 22 = .ok (.iconst 1, 1) := by decide +kernel
theorem dX0_init_23 : decode cX0_init 23 = .ok (.iadd, 1) := by decide +kernel
theorem dX0_init_24 : decode cX0_init 24 = .ok (.newarray .int, 2) := by decide +kernel
theorem dX0_init_26 : decode cX0_init 26 = .ok (.putfield 20, 3) := by decide +kernel
theorem dX0_init_29 : decode cX0_init 29 = .ok (.aload_n 0, 1) := by decide +kernel
theorem dX0_init_30 : decode cX0_init 30 = .ok (.aload_n 0, 1) := by decide +kernel
theorem dX0_init_31 : decode cX0_init 31 = .ok (.getstatic 23, 3) := by decide +kernel
theorem dX0_init_34 : decode cX0_init 34 = .ok (.arraylength, 1) := by decide +kernel
theorem dX0_init_35 : decode cX0_init 35 = .ok (.newarray .int, 2) := by decide +kernel
theorem dX0_init_37 : decode cX0_init 37 = .ok (.invokevirtual 29, 3) := by decide +kernel
theorem dX0_init_40 : decode cX0_init 40 = .ok (.putfield 33, 3) := by decide +kernel
theorem dX0_init_43 : decode cX0_init 43 = .ok (.return_, 1) := by decide +kernel
theorem dX4_init_0 : decode cX4_init 0 = .ok (.aload_n 0, 1) := by decide +kernel
theorem dX4_init_1 : decode cX4_init 1 = .ok (.invokespecial 5, 3) := by decide +kernel
theorem dX4_init_4 : decode cX4_init 4 = .ok (.aload_n 0, 1) := by decide +kernel
theorem dX4_init_5 : decode cX4_init 5 = .ok (.bipush 81, 2) := by decide +kernel
theorem dX4_init_7 : decode cX4_init 7 = .ok (.newarray .long, 2) := by decide +kernel
theorem dX4_init_9 : decode cX4_init 9 = .ok (.putfield 11, 3) := by decide +kernel
theorem dX4_init_12 : decode cX4_init 12 = .ok (.aload_n 0, 1) := by decide +kernel
theorem dX4_init_13 : decode cX4_init 13 = .ok (.bipush 12, 2) := by decide +kernel
theorem dX4_init_15 : decode cX4_init 15 = .ok (.newarray .int, 2) := by decide +kernel
theorem dX4_init_17 : decode cX4_init 17 = .ok (.putfield 15, 3) := by decide +kernel
theorem dX4_init_20 : decode cX4_init 20 = .ok (.aload_n 0, 1) := by decide +kernel
theorem dX4_init_21 : decode cX4_init 21 = .ok (.iconst 4, 1) := by decide +kernel
theorem dX4_init_22 : decode cX4_init 22 = .ok (.newarray .int, 2) := by decide +kernel
theorem dX4_init_24 : decode cX4_init 24 = .ok (.putfield 19, 3) := by decide +kernel
theorem dX4_init_27 : decode cX4_init 27 = .ok (.return_, 1) := by decide +kernel
theorem dX7_init_0 : decode cX7_init 0 = .ok (.aload_n 0, 1) := by decide +kernel
theorem dX7_init_1 : decode cX7_init 1 = .ok (.invokespecial 3, 3) := by decide +kernel
theorem dX7_init_4 : decode cX7_init 4 = .ok (.aload_n 0, 1) := by decide +kernel
theorem dX7_init_5 : decode cX7_init 5 = .ok (.bipush 100, 2) := by decide +kernel
theorem dX7_init_7 : decode cX7_init 7 = .ok (.newarray .int, 2) := by decide +kernel
theorem dX7_init_9 : decode cX7_init 9 = .ok (.putfield 9, 3) := by decide +kernel
theorem dX7_init_12 : decode cX7_init 12 = .ok (.aload_n 0, 1) := by decide +kernel
theorem dX7_init_13 : decode cX7_init 13 = .ok (.bipush 10, 2) := by decide +kernel
theorem dX7_init_15 : decode cX7_init 15 = .ok (.newarray .int, 2) := by decide +kernel
theorem dX7_init_17 : decode cX7_init 17 = .ok (.putfield 15, 3) := by decide +kernel
theorem dX7_init_20 : decode cX7_init 20 = .ok (.return_, 1) := by decide +kernel
theorem dX8_init_0 : decode cX8_init 0 = .ok (.aload_n 0, 1) := by decide +kernel
theorem dX8_init_1 : decode cX8_init 1 = .ok (.invokespecial 3, 3) := by decide +kernel
theorem dX8_init_4 : decode cX8_init 4 = .ok (.aload_n 0, 1) := by decide +kernel
theorem dX8_init_5 : decode cX8_init 5 = .ok (.bipush 60, 2) := by decide +kernel
theorem dX8_init_7 : decode cX8_init 7 = .ok (.newarray .int, 2) := by decide +kernel
theorem dX8_init_9 : decode cX8_init 9 = .ok (.putfield 9, 3) := by decide +kernel
theorem dX8_init_12 : decode cX8_init 12 = .ok (.aload_n 0, 1) := by decide +kernel
theorem dX8_init_13 : decode cX8_init 13 = .ok (.bipush 60, 2) := by decide +kernel
theorem dX8_init_15 : decode cX8_init 15 = .ok (.newarray .int, 2) := by decide +kernel
theorem dX8_init_17 : decode cX8_init 17 = .ok (.putfield 15, 3) := by decide +kernel
theorem dX8_init_20 : decode cX8_init 20 = .ok (.return_, 1) := by decide +kernel
theorem in_wsX0_init_X0 : ∀ w ∈ wsX00, w ∈ wsX0_init := fun w h => List.mem_cons_of_mem _ (List.mem_append_right _ h)
theorem in_wsX4_init_X4 : ∀ w ∈ wsX40, w ∈ wsX4_init := fun w h => List.mem_cons_of_mem _ (List.mem_append_right _ h)
theorem in_wsX7_init_X7 : ∀ w ∈ wsX70, w ∈ wsX7_init := fun w h => List.mem_cons_of_mem _ (List.mem_append_right _ h)
theorem in_wsX8_init_X8 : ∀ w ∈ wsX80, w ∈ wsX8_init := fun w h => List.mem_cons_of_mem _ (List.mem_append_right _ h)
theorem in_obj_wsX0_init : Cond.code objectInit ⟨#[0xb1]⟩ 1 none ∈ wsX0_init := List.mem_of_getElem? (i := 3) rfl
theorem in_obj_wsX4_init : Cond.code objectInit ⟨#[0xb1]⟩ 1 none ∈ wsX4_init := List.mem_of_getElem? (i := 3) rfl
theorem in_obj_wsX7_init : Cond.code objectInit ⟨#[0xb1]⟩ 1 none ∈ wsX7_init := List.mem_of_getElem? (i := 3) rfl
theorem in_obj_wsX8_init : Cond.code objectInit ⟨#[0xb1]⟩ 1 none ∈ wsX8_init := List.mem_of_getElem? (i := 3) rfl

theorem he_0_2 {cq : Nat → ClassId} {S : oS} {a : Nat} {x : Int32} (h : oK S a = 0) : oE cq (setI S a 2 x) a = .inr (0, [.int (oI S a 0), .int (oI S a 1), .int x, va_rf (oP S a 3), va_rf (oP S a 4)]) := by
  rw [oE_0 (S := setI S a 2 x) h, setI_ne (S := S) (a := a) (i := 2) (j := 0) (x := x) (by decide +kernel), setI_ne (S := S) (a := a) (i := 2) (j := 1) (x := x) (by decide +kernel), setI_same]
  rfl
set_option maxHeartbeats 4000000 in
set_option maxRecDepth 100000 in
theorem c_X4_init (l : Launch) (dC : Nat → ClassId) (dI : Nat → Nat → Nat) (sz : Nat) (cq : Nat → ClassId) (Z : oS) (gI : oInv Z) (o : Nat) (to : oty Z o 34) : Met l yX4_init wsX4_init ({ frames := 1, cells := 3, slots := 97, locals := 14 }) (va_Pc [.ref o] (pcW (dC, dI) (oT cq) (oW cq Z) sz)) (va_Qv (fun (u : oS) => oInv u ∧ oXc ([] : List Nat) o Z u ∧ (oty u o 4)) (fun u t => va_P (dC, dI) vwCl (oW cq u) t.heap ∧ va_K (dC, dI) vwCl (oT cq) t ∧ va_D (va_A (oW cq Z) sz) (oW cq u)) (va_A (oW cq Z) sz)) 3 97 (va_A (oW cq Z) sz) := by
  refine Met.ofW (cc := cX4_init) (maxL := 1) (ret := none) (by decide +kernel) rfl ?_
  intro p e s m args below meth c s₁ B hml hv
  obtain ⟨rfl, hsz, hP, hK, hD0⟩ := hv
  have hx := B.exec
  have hb := B.bytes
  have hr := B.returns
  have hts := atoms_spec (ws := wsX4_init) B.pre
  have hown : s.vm.findClass RX4 = some m.cls := findClass_of_methodNamed B.named
  have hlocks := B.notSynchronized
  have hin : meth.name = "<init>" := (name_of_methodNamed B.named B.method).1
  subst hsz
  have hD := hD0.self (sz := s.heap.size)
  generalize hAe : va_A (oW cq Z) s.heap.size = A at hD ⊢
  have hA : ∀ q : Nat, s.heap.size ≤ q → A q := fun q h => by rw [← hAe]; exact Or.inr h
  have hS : va_S A s.heap s.heap [] := va_S.rf
  have hP : va_P (dC, dI) vwCl (oW cq Z) s.heap := hP
  have hl := lv_entry ([.ref o]) (n := 1) (Nat.le_of_ble_eq_true rfl)
  rw [lg_entry_eq]
  generalize (lg_sl ([.ref o]) ++ List.replicate (1 - (lg_sl ([.ref o])).length) Slot.unset).toArray = ls at hl ⊢
  have hl : lv_has ls 1 [(0, .ref o)] := hl
  refine lv_aload_n hx hb dX4_init_0 rfl (lv_at hl 0 rfl) ?_
  refine W.objInit hx hb hown (hts (.methodLink RX4 5 objectInit) iw_X4_init_1) (hts (.instanceMethod objectInit) iw_X4_init_2) (hts (.code objectInit ⟨#[0xb1]⟩ 1 none) (in_obj_wsX4_init)) rfl (by rw [hml]; exact hl.1) rfl dX4_init_1 (Nat.le_of_ble_eq_true rfl) (Nat.le_of_ble_eq_true rfl) ?_
  refine W.eq (g2 := F0 m 4 ls []) rfl ?_
  refine lv_aload_n hx hb dX4_init_4 rfl (lv_at hl 0 rfl) ?_
  refine lv_bipush (v := 81) hx hb dX4_init_5 (by decide +kernel) ?_
  refine va_newa (atype := .long) (ty := .long) (a0 := (81, .inr (.inl (fun _ => 0)))) hx hb (hts (.arrayClass .long) iw_X4_init_3) rfl hK hP hD hS hA (fun _ => rfl) (by decide +kernel) (by decide +kernel) (by decide +kernel) (Nat.le_of_ble_eq_true rfl) (Nat.le_of_ble_eq_true rfl) dX4_init_7 (fun q_1 k_2 H hK1 hP1 hD1 hS => ?_)
  obtain ⟨rfl, -⟩ := lv_ad (k := 1) hK1 rfl
  clear hK1
  have hnq_1 := add_q hD1
  obtain ⟨S_3, eS_3⟩ : ∃ zq, zq = addO Z q_1 18 := ⟨_, rfl⟩
  have hP : va_P (dC, dI) vwCl (oW cq S_3) H := by rw [eS_3]; exact cP (onew hD1 (by rw [oE_18 add_K, add_J])) hP1
  have hD : va_D A (oW cq S_3) := by rw [eS_3]; exact cD (onew hD1 (by rw [oE_18 add_K, add_J])) hD1
  clear hP1 hD1
  have hIS_3 : oInv S_3 := by rw [eS_3]; exact oInv.add gI hnq_1 (by decide +kernel)
  have XS_3 : oX [] Z S_3 := by rw [eS_3]; exact oX.add hnq_1
  have nzq_1 : q_1 ∉ oL Z := hnq_1
  have X_4 : oXc ([] : List Nat) o Z S_3 := oXc.st oXc.rf XS_3 (by decide +kernel)
  have tq_1 : oty S_3 q_1 18 := by rw [eS_3]; exact add_ty
  refine W.widen (k := 1) (n := 81) (Nat.le_of_ble_eq_true rfl) (Nat.le_of_ble_eq_true rfl) ?_
  have t_5 : oty S_3 o 34 := (oX.ty XS_3 to)
  obtain ⟨q_6, hq_6⟩ := og (cq := cq) t_5.1 (oE_34 t_5.2)
  refine va_putF (D := (dC, dI)) (ci := 4) (v := .ref q_1) (ty := .array .long) (C := RX4) (T := TX4) (N := 6) hx hb hts in_wsX4_init_X4 tyX4 tyX4_ok nmX4 hown hK hP hD hS q_6 hq_6 rfl 0 (by decide +kernel) (hts (.fieldLink RX4 11 "ShipOffice$Hiring" "best" "[J") iw_X4_init_4) (fun _ h9 => h9) rfl hin rfl (by decide +kernel) rfl rfl (Nat.le_of_ble_eq_true rfl) dX4_init_9 (fun H locs hP1 hD1 hS => ?_)
  obtain ⟨S_7, eS_7⟩ : ∃ zq, zq = setP S_3 o 0 (some q_1) := ⟨_, rfl⟩
  have hP : va_P (dC, dI) vwCl (oW cq S_7) H := by rw [eS_7]; exact cP (oset t_5.1 hq_6 hD rfl (he_34_0 t_5.2) neP) hP1
  have hD : va_D A (oW cq S_7) := by rw [eS_7]; exact cD (oset t_5.1 hq_6 hD rfl (he_34_0 t_5.2) neP) hD1
  clear hP1 hD1
  have hIS_7 : oInv S_7 := by rw [eS_7]; exact oInv.P (k := 34) hIS_3 t_5.2 (by decide +kernel) rfl (by decide +kernel) tq_1 (by decide +kernel)
  have XS_7 : oX [2034] S_3 S_7 := by rw [eS_7]; exact oX.P (k := 34) (key := 2034) t_5.2 rfl (List.mem_singleton.mpr rfl)
  have X_8 : oXc ([] : List Nat) o Z S_7 := by rw [eS_7]; exact oXc.P X_4
  have pk_9 : oP S_7 o 0 = some q_1 := by rw [eS_7, setP_same]
  refine lv_aload_n hx hb dX4_init_12 rfl (lv_at hl 0 rfl) ?_
  refine lv_bipush (v := 12) hx hb dX4_init_13 (by decide +kernel) ?_
  refine va_newa (atype := .int) (ty := .int) (a0 := (12, .inl (fun _ => 0))) hx hb (hts (.arrayClass .int) iw_X4_init_5) rfl hK hP hD hS hA (fun _ => rfl) (by decide +kernel) (by decide +kernel) (by decide +kernel) (Nat.le_of_ble_eq_true rfl) (Nat.le_of_ble_eq_true rfl) dX4_init_15 (fun q_10 k_11 H hK1 hP1 hD1 hS => ?_)
  obtain ⟨rfl, -⟩ := lv_ad (k := 0) hK1 rfl
  clear hK1
  have hnq_10 := add_q hD1
  obtain ⟨S_12, eS_12⟩ : ∃ zq, zq = addO S_7 q_10 62 := ⟨_, rfl⟩
  have hP : va_P (dC, dI) vwCl (oW cq S_12) H := by rw [eS_12]; exact cP (onew hD1 (by rw [oE_62 add_K, add_I])) hP1
  have hD : va_D A (oW cq S_12) := by rw [eS_12]; exact cD (onew hD1 (by rw [oE_62 add_K, add_I])) hD1
  clear hP1 hD1
  have hIS_12 : oInv S_12 := by rw [eS_12]; exact oInv.add hIS_7 hnq_10 (by decide +kernel)
  have XS_12 : oX [] S_7 S_12 := by rw [eS_12]; exact oX.add hnq_10
  have nzq_10 : q_10 ∉ oL Z := oXc.nin X_8 hnq_10
  have pk_13 : oP S_12 o 0 = some q_1 := by rw [eS_12, add_Pn hnq_10 (oX.ty XS_7 t_5).1]; exact pk_9
  have X_14 : oXc ([] : List Nat) o Z S_12 := oXc.st X_8 XS_12 (by decide +kernel)
  have tq_10 : oty S_12 q_10 62 := by rw [eS_12]; exact add_ty
  refine W.widen (k := 2) (n := 93) (Nat.le_of_ble_eq_true rfl) (Nat.le_of_ble_eq_true rfl) ?_
  have t_15 : oty S_12 o 34 := (oX.ty XS_12 (oX.ty XS_7 t_5))
  obtain ⟨q_16, hq_16⟩ := og (cq := cq) t_15.1 (oE_34 t_15.2)
  refine va_putF (D := (dC, dI)) (ci := 4) (v := .ref q_10) (ty := .array .int) (C := RX4) (T := TX4) (N := 6) hx hb hts in_wsX4_init_X4 tyX4 tyX4_ok nmX4 hown hK hP hD hS q_16 hq_16 rfl 1 (by decide +kernel) (hts (.fieldLink RX4 15 "ShipOffice$Hiring" "offers" "[I") iw_X4_init_6) (fun _ h9 => h9) rfl hin rfl (by decide +kernel) rfl rfl (Nat.le_of_ble_eq_true rfl) dX4_init_17 (fun H locs hP1 hD1 hS => ?_)
  obtain ⟨S_17, eS_17⟩ : ∃ zq, zq = setP S_12 o 1 (some q_10) := ⟨_, rfl⟩
  have hP : va_P (dC, dI) vwCl (oW cq S_17) H := by rw [eS_17]; exact cP (oset t_15.1 hq_16 hD rfl (he_34_1 t_15.2) neP) hP1
  have hD : va_D A (oW cq S_17) := by rw [eS_17]; exact cD (oset t_15.1 hq_16 hD rfl (he_34_1 t_15.2) neP) hD1
  clear hP1 hD1
  have hIS_17 : oInv S_17 := by rw [eS_17]; exact oInv.P (k := 34) hIS_12 t_15.2 (by decide +kernel) rfl (by decide +kernel) tq_10 (by decide +kernel)
  have XS_17 : oX [2034] S_12 S_17 := by rw [eS_17]; exact oX.P (k := 34) (key := 2034) t_15.2 rfl (List.mem_singleton.mpr rfl)
  have pk_18 : oP S_17 o 0 = some q_1 := by rw [eS_17, setP_ne (by decide +kernel)]; exact pk_13
  have X_19 : oXc ([] : List Nat) o Z S_17 := by rw [eS_17]; exact oXc.P X_14
  have pk_20 : oP S_17 o 1 = some q_10 := by rw [eS_17, setP_same]
  refine lv_aload_n hx hb dX4_init_20 rfl (lv_at hl 0 rfl) ?_
  refine lv_iconst (v := 4) hx hb dX4_init_21 (by decide +kernel) ?_
  refine va_newa (atype := .int) (ty := .int) (a0 := (4, .inl (fun _ => 0))) hx hb (hts (.arrayClass .int) iw_X4_init_5) rfl hK hP hD hS hA (fun _ => rfl) (by decide +kernel) (by decide +kernel) (by decide +kernel) (Nat.le_of_ble_eq_true rfl) (Nat.le_of_ble_eq_true rfl) dX4_init_22 (fun q_21 k_22 H hK1 hP1 hD1 hS => ?_)
  obtain ⟨rfl, -⟩ := lv_ad (k := 0) hK1 rfl
  clear hK1
  have hnq_21 := add_q hD1
  obtain ⟨S_23, eS_23⟩ : ∃ zq, zq = addO S_17 q_21 61 := ⟨_, rfl⟩
  have hP : va_P (dC, dI) vwCl (oW cq S_23) H := by rw [eS_23]; exact cP (onew hD1 (by rw [oE_61 add_K, add_I])) hP1
  have hD : va_D A (oW cq S_23) := by rw [eS_23]; exact cD (onew hD1 (by rw [oE_61 add_K, add_I])) hD1
  clear hP1 hD1
  have hIS_23 : oInv S_23 := by rw [eS_23]; exact oInv.add hIS_17 hnq_21 (by decide +kernel)
  have XS_23 : oX [] S_17 S_23 := by rw [eS_23]; exact oX.add hnq_21
  have nzq_21 : q_21 ∉ oL Z := oXc.nin X_19 hnq_21
  have pk_24 : oP S_23 o 0 = some q_1 := by rw [eS_23, add_Pn hnq_21 (oX.ty XS_17 t_15).1]; exact pk_18
  have pk_25 : oP S_23 o 1 = some q_10 := by rw [eS_23, add_Pn hnq_21 (oX.ty XS_17 t_15).1]; exact pk_20
  have X_26 : oXc ([] : List Nat) o Z S_23 := oXc.st X_19 XS_23 (by decide +kernel)
  have tq_21 : oty S_23 q_21 61 := by rw [eS_23]; exact add_ty
  refine W.widen (k := 3) (n := 97) (Nat.le_of_ble_eq_true rfl) (Nat.le_of_ble_eq_true rfl) ?_
  have t_27 : oty S_23 o 34 := (oX.ty XS_23 (oX.ty XS_17 t_15))
  obtain ⟨q_28, hq_28⟩ := og (cq := cq) t_27.1 (oE_34 t_27.2)
  refine va_putF (D := (dC, dI)) (ci := 4) (v := .ref q_21) (ty := .array .int) (C := RX4) (T := TX4) (N := 6) hx hb hts in_wsX4_init_X4 tyX4 tyX4_ok nmX4 hown hK hP hD hS q_28 hq_28 rfl 3 (by decide +kernel) (hts (.fieldLink RX4 19 "ShipOffice$Hiring" "firstPlace" "[I") iw_X4_init_7) (fun _ h9 => h9) rfl hin rfl (by decide +kernel) rfl rfl (Nat.le_of_ble_eq_true rfl) dX4_init_24 (fun H locs hP1 hD1 hS => ?_)
  obtain ⟨S_29, eS_29⟩ : ∃ zq, zq = setP S_23 o 3 (some q_21) := ⟨_, rfl⟩
  have hP : va_P (dC, dI) vwCl (oW cq S_29) H := by rw [eS_29]; exact cP (oset t_27.1 hq_28 hD rfl (he_34_3 t_27.2) neP) hP1
  have hD : va_D A (oW cq S_29) := by rw [eS_29]; exact cD (oset t_27.1 hq_28 hD rfl (he_34_3 t_27.2) neP) hD1
  clear hP1 hD1
  have hIS_29 : oInv S_29 := by rw [eS_29]; exact oInv.P (k := 34) hIS_23 t_27.2 (by decide +kernel) rfl (by decide +kernel) tq_21 (by decide +kernel)
  have XS_29 : oX [2034] S_23 S_29 := by rw [eS_29]; exact oX.P (k := 34) (key := 2034) t_27.2 rfl (List.mem_singleton.mpr rfl)
  have pk_30 : oP S_29 o 0 = some q_1 := by rw [eS_29, setP_ne (by decide +kernel)]; exact pk_24
  have pk_31 : oP S_29 o 1 = some q_10 := by rw [eS_29, setP_ne (by decide +kernel)]; exact pk_25
  have X_32 : oXc ([] : List Nat) o Z S_29 := by rw [eS_29]; exact oXc.P X_26
  have pk_33 : oP S_29 o 3 = some q_21 := by rw [eS_29, setP_same]
  have t_35 : oty S_29 o 34 := (oX.ty XS_29 t_27)
  obtain ⟨S_34, eS_34⟩ : ∃ zq, zq = setK S_29 o 4 := ⟨_, rfl⟩
  have hP : va_P (dC, dI) vwCl (oW cq S_34) H := by rw [eS_34]; exact cP (ret_W (c := 4) t_35.2 (by decide +kernel)) hP
  have hD : va_D A (oW cq S_34) := by rw [eS_34]; exact cD (ret_W (c := 4) t_35.2 (by decide +kernel)) hD
  have hIS_34 : oInv S_34 := by rw [eS_34]; exact oInv.ret (c := 4) hIS_29 t_35 (by decide +kernel) (fun i hi => by rcases nn_4 hi with rfl | rfl | rfl <;> first | exact ⟨_, pk_30⟩ | exact ⟨_, pk_31⟩ | exact ⟨_, pk_33⟩) (fun i p hp => (ct_no hp (by decide +kernel) (by decide +kernel) (by decide +kernel)).elim) (fun h => absurd h (by decide +kernel)) (fun h => absurd h (by decide +kernel)) (fun h => absurd h (by decide +kernel))
  have XS_34 : oXc ([] : List Nat) o Z S_34 := by rw [eS_34]; exact oXc.K X_32
  have tS_34 : oty S_34 o 4 := by rw [eS_34]; exact K_ty t_35.1
  have pk_36 : oP S_34 o 0 = some q_1 := by rw [eS_34]; exact pk_30
  have pk_37 : oP S_34 o 1 = some q_10 := by rw [eS_34]; exact pk_31
  have pk_38 : oP S_34 o 3 = some q_21 := by rw [eS_34]; exact pk_33
  exact W.vret hx hb hr (fun t ht hW => ⟨⟨S_34, rfl, ⟨hIS_34, XS_34, tS_34⟩, ⟨by rw [ht]; exact hP, va_K.moved hW.alike hK, hD⟩⟩, hS.F ht⟩) hS.2.2 dX4_init_27
set_option maxHeartbeats 4000000 in
set_option maxRecDepth 100000 in
theorem c_X7_init (l : Launch) (dC : Nat → ClassId) (dI : Nat → Nat → Nat) (sz : Nat) (cq : Nat → ClassId) (Z : oS) (gI : oInv Z) (o : Nat) (to : oty Z o 37) : Met l yX7_init wsX7_init ({ frames := 1, cells := 2, slots := 110, locals := 14 }) (va_Pc [.ref o] (pcW (dC, dI) (oT cq) (oW cq Z) sz)) (va_Qv (fun (u : oS) => oInv u ∧ oXc ([] : List Nat) o Z u ∧ (oty u o 7 ∧ ∀ ml, oP u o 0 = some ml → oI u ml = fun _ => 0)) (fun u t => va_P (dC, dI) vwCl (oW cq u) t.heap ∧ va_K (dC, dI) vwCl (oT cq) t ∧ va_D (va_A (oW cq Z) sz) (oW cq u)) (va_A (oW cq Z) sz)) 2 110 (va_A (oW cq Z) sz) := by
  refine Met.ofW (cc := cX7_init) (maxL := 1) (ret := none) (by decide +kernel) rfl ?_
  intro p e s m args below meth c s₁ B hml hv
  obtain ⟨rfl, hsz, hP, hK, hD0⟩ := hv
  have hx := B.exec
  have hb := B.bytes
  have hr := B.returns
  have hts := atoms_spec (ws := wsX7_init) B.pre
  have hown : s.vm.findClass RX7 = some m.cls := findClass_of_methodNamed B.named
  have hlocks := B.notSynchronized
  have hin : meth.name = "<init>" := (name_of_methodNamed B.named B.method).1
  subst hsz
  have hD := hD0.self (sz := s.heap.size)
  generalize hAe : va_A (oW cq Z) s.heap.size = A at hD ⊢
  have hA : ∀ q : Nat, s.heap.size ≤ q → A q := fun q h => by rw [← hAe]; exact Or.inr h
  have hS : va_S A s.heap s.heap [] := va_S.rf
  have hP : va_P (dC, dI) vwCl (oW cq Z) s.heap := hP
  have hl := lv_entry ([.ref o]) (n := 1) (Nat.le_of_ble_eq_true rfl)
  rw [lg_entry_eq]
  generalize (lg_sl ([.ref o]) ++ List.replicate (1 - (lg_sl ([.ref o])).length) Slot.unset).toArray = ls at hl ⊢
  have hl : lv_has ls 1 [(0, .ref o)] := hl
  refine lv_aload_n hx hb dX7_init_0 rfl (lv_at hl 0 rfl) ?_
  refine W.objInit hx hb hown (hts (.methodLink RX7 3 objectInit) iw_X7_init_1) (hts (.instanceMethod objectInit) iw_X7_init_2) (hts (.code objectInit ⟨#[0xb1]⟩ 1 none) (in_obj_wsX7_init)) rfl (by rw [hml]; exact hl.1) rfl dX7_init_1 (Nat.le_of_ble_eq_true rfl) (Nat.le_of_ble_eq_true rfl) ?_
  refine W.eq (g2 := F0 m 4 ls []) rfl ?_
  refine lv_aload_n hx hb dX7_init_4 rfl (lv_at hl 0 rfl) ?_
  refine lv_bipush (v := 100) hx hb dX7_init_5 (by decide +kernel) ?_
  refine va_newa (atype := .int) (ty := .int) (a0 := (100, .inl (fun _ => 0))) hx hb (hts (.arrayClass .int) iw_X7_init_3) rfl hK hP hD hS hA (fun _ => rfl) (by decide +kernel) (by decide +kernel) (by decide +kernel) (Nat.le_of_ble_eq_true rfl) (Nat.le_of_ble_eq_true rfl) dX7_init_7 (fun q_1 k_2 H hK1 hP1 hD1 hS => ?_)
  obtain ⟨rfl, -⟩ := lv_ad (k := 0) hK1 rfl
  clear hK1
  have hnq_1 := add_q hD1
  obtain ⟨S_3, eS_3⟩ : ∃ zq, zq = addO Z q_1 200 := ⟨_, rfl⟩
  have hP : va_P (dC, dI) vwCl (oW cq S_3) H := by rw [eS_3]; exact cP (onew hD1 (by rw [oE_a1 (n := 100) add_K (by decide +kernel), add_I])) hP1
  have hD : va_D A (oW cq S_3) := by rw [eS_3]; exact cD (onew hD1 (by rw [oE_a1 (n := 100) add_K (by decide +kernel), add_I])) hD1
  clear hP1 hD1
  have hIS_3 : oInv S_3 := by rw [eS_3]; exact oInv.add gI hnq_1 (by decide +kernel)
  have XS_3 : oX [] Z S_3 := by rw [eS_3]; exact oX.add hnq_1
  have nzq_1 : q_1 ∉ oL Z := hnq_1
  have X_4 : oXc ([] : List Nat) o Z S_3 := oXc.st oXc.rf XS_3 (by decide +kernel)
  have tq_1 : oty S_3 q_1 200 := by rw [eS_3]; exact add_ty
  have zf_5 : oI S_3 q_1 = fun _ => 0 := by rw [eS_3]; exact add_I
  refine W.widen (k := 1) (n := 100) (Nat.le_of_ble_eq_true rfl) (Nat.le_of_ble_eq_true rfl) ?_
  have t_6 : oty S_3 o 37 := (oX.ty XS_3 to)
  obtain ⟨q_7, hq_7⟩ := og (cq := cq) t_6.1 (oE_37 t_6.2)
  refine va_putF (D := (dC, dI)) (ci := 7) (v := .ref q_1) (ty := .array .int) (C := RX7) (T := TX7) (N := 2) hx hb hts in_wsX7_init_X7 tyX7 tyX7_ok nmX7 hown hK hP hD hS q_7 hq_7 rfl 0 (by decide +kernel) (hts (.fieldLink RX7 9 "ShipOffice$Sea" "miles" "[I") iw_X7_init_4) (fun _ h9 => h9) rfl hin rfl (by decide +kernel) rfl rfl (Nat.le_of_ble_eq_true rfl) dX7_init_9 (fun H locs hP1 hD1 hS => ?_)
  obtain ⟨S_8, eS_8⟩ : ∃ zq, zq = setP S_3 o 0 (some q_1) := ⟨_, rfl⟩
  have hP : va_P (dC, dI) vwCl (oW cq S_8) H := by rw [eS_8]; exact cP (oset t_6.1 hq_7 hD rfl (he_37_0 t_6.2) neP) hP1
  have hD : va_D A (oW cq S_8) := by rw [eS_8]; exact cD (oset t_6.1 hq_7 hD rfl (he_37_0 t_6.2) neP) hD1
  clear hP1 hD1
  have hIS_8 : oInv S_8 := by rw [eS_8]; exact oInv.P (k := 37) hIS_3 t_6.2 (by decide +kernel) rfl (by decide +kernel) tq_1 (by decide +kernel)
  have XS_8 : oX [2037] S_3 S_8 := by rw [eS_8]; exact oX.P (k := 37) (key := 2037) t_6.2 rfl (List.mem_singleton.mpr rfl)
  have zf_9 : oI S_8 q_1 = fun _ => 0 := by rw [eS_8]; exact zf_5
  have X_10 : oXc ([] : List Nat) o Z S_8 := by rw [eS_8]; exact oXc.P X_4
  have pk_11 : oP S_8 o 0 = some q_1 := by rw [eS_8, setP_same]
  refine lv_aload_n hx hb dX7_init_12 rfl (lv_at hl 0 rfl) ?_
  refine lv_bipush (v := 10) hx hb dX7_init_13 (by decide +kernel) ?_
  refine va_newa (atype := .int) (ty := .int) (a0 := (10, .inl (fun _ => 0))) hx hb (hts (.arrayClass .int) iw_X7_init_3) rfl hK hP hD hS hA (fun _ => rfl) (by decide +kernel) (by decide +kernel) (by decide +kernel) (Nat.le_of_ble_eq_true rfl) (Nat.le_of_ble_eq_true rfl) dX7_init_15 (fun q_12 k_13 H hK1 hP1 hD1 hS => ?_)
  obtain ⟨rfl, -⟩ := lv_ad (k := 0) hK1 rfl
  clear hK1
  have hnq_12 := add_q hD1
  obtain ⟨S_14, eS_14⟩ : ∃ zq, zq = addO S_8 q_12 110 := ⟨_, rfl⟩
  have hP : va_P (dC, dI) vwCl (oW cq S_14) H := by rw [eS_14]; exact cP (onew hD1 (by rw [oE_a1 (n := 10) add_K (by decide +kernel), add_I])) hP1
  have hD : va_D A (oW cq S_14) := by rw [eS_14]; exact cD (onew hD1 (by rw [oE_a1 (n := 10) add_K (by decide +kernel), add_I])) hD1
  clear hP1 hD1
  have hIS_14 : oInv S_14 := by rw [eS_14]; exact oInv.add hIS_8 hnq_12 (by decide +kernel)
  have XS_14 : oX [] S_8 S_14 := by rw [eS_14]; exact oX.add hnq_12
  have nzq_12 : q_12 ∉ oL Z := oXc.nin X_10 hnq_12
  have pk_15 : oP S_14 o 0 = some q_1 := by rw [eS_14, add_Pn hnq_12 (oX.ty XS_8 t_6).1]; exact pk_11
  have zf_16 : oI S_14 q_1 = fun _ => 0 := by rw [eS_14, add_If hnq_12 (oX.ty XS_8 tq_1).1]; exact zf_9
  have X_17 : oXc ([] : List Nat) o Z S_14 := oXc.st X_10 XS_14 (by decide +kernel)
  have tq_12 : oty S_14 q_12 110 := by rw [eS_14]; exact add_ty
  refine W.widen (k := 2) (n := 110) (Nat.le_of_ble_eq_true rfl) (Nat.le_of_ble_eq_true rfl) ?_
  have t_18 : oty S_14 o 37 := (oX.ty XS_14 (oX.ty XS_8 t_6))
  obtain ⟨q_19, hq_19⟩ := og (cq := cq) t_18.1 (oE_37 t_18.2)
  refine va_putF (D := (dC, dI)) (ci := 7) (v := .ref q_12) (ty := .array .int) (C := RX7) (T := TX7) (N := 2) hx hb hts in_wsX7_init_X7 tyX7 tyX7_ok nmX7 hown hK hP hD hS q_19 hq_19 rfl 1 (by decide +kernel) (hts (.fieldLink RX7 15 "ShipOffice$Sea" "least" "[I") iw_X7_init_5) (fun _ h9 => h9) rfl hin rfl (by decide +kernel) rfl rfl (Nat.le_of_ble_eq_true rfl) dX7_init_17 (fun H locs hP1 hD1 hS => ?_)
  obtain ⟨S_20, eS_20⟩ : ∃ zq, zq = setP S_14 o 1 (some q_12) := ⟨_, rfl⟩
  have hP : va_P (dC, dI) vwCl (oW cq S_20) H := by rw [eS_20]; exact cP (oset t_18.1 hq_19 hD rfl (he_37_1 t_18.2) neP) hP1
  have hD : va_D A (oW cq S_20) := by rw [eS_20]; exact cD (oset t_18.1 hq_19 hD rfl (he_37_1 t_18.2) neP) hD1
  clear hP1 hD1
  have hIS_20 : oInv S_20 := by rw [eS_20]; exact oInv.P (k := 37) hIS_14 t_18.2 (by decide +kernel) rfl (by decide +kernel) tq_12 (by decide +kernel)
  have XS_20 : oX [2037] S_14 S_20 := by rw [eS_20]; exact oX.P (k := 37) (key := 2037) t_18.2 rfl (List.mem_singleton.mpr rfl)
  have pk_21 : oP S_20 o 0 = some q_1 := by rw [eS_20, setP_ne (by decide +kernel)]; exact pk_15
  have zf_22 : oI S_20 q_1 = fun _ => 0 := by rw [eS_20]; exact zf_16
  have X_23 : oXc ([] : List Nat) o Z S_20 := by rw [eS_20]; exact oXc.P X_17
  have pk_24 : oP S_20 o 1 = some q_12 := by rw [eS_20, setP_same]
  have t_26 : oty S_20 o 37 := (oX.ty XS_20 t_18)
  obtain ⟨S_25, eS_25⟩ : ∃ zq, zq = setK S_20 o 7 := ⟨_, rfl⟩
  have hP : va_P (dC, dI) vwCl (oW cq S_25) H := by rw [eS_25]; exact cP (ret_W (c := 7) t_26.2 (by decide +kernel)) hP
  have hD : va_D A (oW cq S_25) := by rw [eS_25]; exact cD (ret_W (c := 7) t_26.2 (by decide +kernel)) hD
  have hIS_25 : oInv S_25 := by rw [eS_25]; exact oInv.ret (c := 7) hIS_20 t_26 (by decide +kernel) (fun i hi => by rcases nn_7 hi with rfl | rfl <;> first | exact ⟨_, pk_21⟩ | exact ⟨_, pk_24⟩) (fun i p hp => (ct_no hp (by decide +kernel) (by decide +kernel) (by decide +kernel)).elim) (fun h => absurd h (by decide +kernel)) (fun h => absurd h (by decide +kernel)) (fun h => absurd h (by decide +kernel))
  have XS_25 : oXc ([] : List Nat) o Z S_25 := by rw [eS_25]; exact oXc.K X_23
  have tS_25 : oty S_25 o 7 := by rw [eS_25]; exact K_ty t_26.1
  have pk_27 : oP S_25 o 0 = some q_1 := by rw [eS_25]; exact pk_21
  have pk_28 : oP S_25 o 1 = some q_12 := by rw [eS_25]; exact pk_24
  have zf_29 : oI S_25 q_1 = fun _ => 0 := by rw [eS_25]; exact zf_22
  exact W.vret hx hb hr (fun t ht hW => ⟨⟨S_25, rfl, ⟨hIS_25, XS_25, ⟨tS_25, (fun ml hq => by rw [pk_27] at hq; cases hq; exact zf_29)⟩⟩, ⟨by rw [ht]; exact hP, va_K.moved hW.alike hK, hD⟩⟩, hS.F ht⟩) hS.2.2 dX7_init_20
set_option maxHeartbeats 4000000 in
set_option maxRecDepth 100000 in
theorem c_X8_init (l : Launch) (dC : Nat → ClassId) (dI : Nat → Nat → Nat) (sz : Nat) (cq : Nat → ClassId) (Z : oS) (gI : oInv Z) (o : Nat) (to : oty Z o 38) (hz : ∀ j, oI Z o j = 0) : Met l yX8_init wsX8_init ({ frames := 1, cells := 2, slots := 120, locals := 14 }) (va_Pc [.ref o] (pcW (dC, dI) (oT cq) (oW cq Z) sz)) (va_Qv (fun (u : oS) => oInv u ∧ oXc ([] : List Nat) o Z u ∧ (oty u o 8 ∧ oI u o 1 = 0)) (fun u t => va_P (dC, dI) vwCl (oW cq u) t.heap ∧ va_K (dC, dI) vwCl (oT cq) t ∧ va_D (va_A (oW cq Z) sz) (oW cq u)) (va_A (oW cq Z) sz)) 2 120 (va_A (oW cq Z) sz) := by
  refine Met.ofW (cc := cX8_init) (maxL := 1) (ret := none) (by decide +kernel) rfl ?_
  intro p e s m args below meth c s₁ B hml hv
  obtain ⟨rfl, hsz, hP, hK, hD0⟩ := hv
  have hx := B.exec
  have hb := B.bytes
  have hr := B.returns
  have hts := atoms_spec (ws := wsX8_init) B.pre
  have hown : s.vm.findClass RX8 = some m.cls := findClass_of_methodNamed B.named
  have hlocks := B.notSynchronized
  have hin : meth.name = "<init>" := (name_of_methodNamed B.named B.method).1
  subst hsz
  have hD := hD0.self (sz := s.heap.size)
  generalize hAe : va_A (oW cq Z) s.heap.size = A at hD ⊢
  have hA : ∀ q : Nat, s.heap.size ≤ q → A q := fun q h => by rw [← hAe]; exact Or.inr h
  have hS : va_S A s.heap s.heap [] := va_S.rf
  have hP : va_P (dC, dI) vwCl (oW cq Z) s.heap := hP
  have hl := lv_entry ([.ref o]) (n := 1) (Nat.le_of_ble_eq_true rfl)
  rw [lg_entry_eq]
  generalize (lg_sl ([.ref o]) ++ List.replicate (1 - (lg_sl ([.ref o])).length) Slot.unset).toArray = ls at hl ⊢
  have hl : lv_has ls 1 [(0, .ref o)] := hl
  refine lv_aload_n hx hb dX8_init_0 rfl (lv_at hl 0 rfl) ?_
  refine W.objInit hx hb hown (hts (.methodLink RX8 3 objectInit) iw_X8_init_1) (hts (.instanceMethod objectInit) iw_X8_init_2) (hts (.code objectInit ⟨#[0xb1]⟩ 1 none) (in_obj_wsX8_init)) rfl (by rw [hml]; exact hl.1) rfl dX8_init_1 (Nat.le_of_ble_eq_true rfl) (Nat.le_of_ble_eq_true rfl) ?_
  refine W.eq (g2 := F0 m 4 ls []) rfl ?_
  refine lv_aload_n hx hb dX8_init_4 rfl (lv_at hl 0 rfl) ?_
  refine lv_bipush (v := 60) hx hb dX8_init_5 (by decide +kernel) ?_
  refine va_newa (atype := .int) (ty := .int) (a0 := (60, .inl (fun _ => 0))) hx hb (hts (.arrayClass .int) iw_X8_init_3) rfl hK hP hD hS hA (fun _ => rfl) (by decide +kernel) (by decide +kernel) (by decide +kernel) (Nat.le_of_ble_eq_true rfl) (Nat.le_of_ble_eq_true rfl) dX8_init_7 (fun q_1 k_2 H hK1 hP1 hD1 hS => ?_)
  obtain ⟨rfl, -⟩ := lv_ad (k := 0) hK1 rfl
  clear hK1
  have hnq_1 := add_q hD1
  obtain ⟨S_3, eS_3⟩ : ∃ zq, zq = addO Z q_1 160 := ⟨_, rfl⟩
  have hP : va_P (dC, dI) vwCl (oW cq S_3) H := by rw [eS_3]; exact cP (onew hD1 (by rw [oE_a1 (n := 60) add_K (by decide +kernel), add_I])) hP1
  have hD : va_D A (oW cq S_3) := by rw [eS_3]; exact cD (onew hD1 (by rw [oE_a1 (n := 60) add_K (by decide +kernel), add_I])) hD1
  clear hP1 hD1
  have hIS_3 : oInv S_3 := by rw [eS_3]; exact oInv.add gI hnq_1 (by decide +kernel)
  have XS_3 : oX [] Z S_3 := by rw [eS_3]; exact oX.add hnq_1
  have nzq_1 : q_1 ∉ oL Z := hnq_1
  have ik_4 : oI S_3 o 1 = 0 := by rw [eS_3, add_In hnq_1 to.1]; exact (hz 1)
  have X_5 : oXc ([] : List Nat) o Z S_3 := oXc.st oXc.rf XS_3 (by decide +kernel)
  have tq_1 : oty S_3 q_1 160 := by rw [eS_3]; exact add_ty
  refine W.widen (k := 1) (n := 60) (Nat.le_of_ble_eq_true rfl) (Nat.le_of_ble_eq_true rfl) ?_
  have t_6 : oty S_3 o 38 := (oX.ty XS_3 to)
  obtain ⟨q_7, hq_7⟩ := og (cq := cq) t_6.1 (oE_38 t_6.2)
  refine va_putF (D := (dC, dI)) (ci := 8) (v := .ref q_1) (ty := .array .int) (C := RX8) (T := TX8) (N := 6) hx hb hts in_wsX8_init_X8 tyX8 tyX8_ok nmX8 hown hK hP hD hS q_7 hq_7 rfl 0 (by decide +kernel) (hts (.fieldLink RX8 9 "ShipOffice$Tape" "bytes" "[I") iw_X8_init_4) (fun _ h9 => h9) rfl hin rfl (by decide +kernel) rfl rfl (Nat.le_of_ble_eq_true rfl) dX8_init_9 (fun H locs hP1 hD1 hS => ?_)
  obtain ⟨S_8, eS_8⟩ : ∃ zq, zq = setP S_3 o 0 (some q_1) := ⟨_, rfl⟩
  have hP : va_P (dC, dI) vwCl (oW cq S_8) H := by rw [eS_8]; exact cP (oset t_6.1 hq_7 hD rfl (he_38_0 t_6.2) neP) hP1
  have hD : va_D A (oW cq S_8) := by rw [eS_8]; exact cD (oset t_6.1 hq_7 hD rfl (he_38_0 t_6.2) neP) hD1
  clear hP1 hD1
  have hIS_8 : oInv S_8 := by rw [eS_8]; exact oInv.P (k := 38) hIS_3 t_6.2 (by decide +kernel) rfl (by decide +kernel) tq_1 (by decide +kernel)
  have XS_8 : oX [2038] S_3 S_8 := by rw [eS_8]; exact oX.P (k := 38) (key := 2038) t_6.2 rfl (List.mem_singleton.mpr rfl)
  have ik_9 : oI S_8 o 1 = 0 := by rw [eS_8]; exact ik_4
  have X_10 : oXc ([] : List Nat) o Z S_8 := by rw [eS_8]; exact oXc.P X_5
  have pk_11 : oP S_8 o 0 = some q_1 := by rw [eS_8, setP_same]
  refine lv_aload_n hx hb dX8_init_12 rfl (lv_at hl 0 rfl) ?_
  refine lv_bipush (v := 60) hx hb dX8_init_13 (by decide +kernel) ?_
  refine va_newa (atype := .int) (ty := .int) (a0 := (60, .inl (fun _ => 0))) hx hb (hts (.arrayClass .int) iw_X8_init_3) rfl hK hP hD hS hA (fun _ => rfl) (by decide +kernel) (by decide +kernel) (by decide +kernel) (Nat.le_of_ble_eq_true rfl) (Nat.le_of_ble_eq_true rfl) dX8_init_15 (fun q_12 k_13 H hK1 hP1 hD1 hS => ?_)
  obtain ⟨rfl, -⟩ := lv_ad (k := 0) hK1 rfl
  clear hK1
  have hnq_12 := add_q hD1
  obtain ⟨S_14, eS_14⟩ : ∃ zq, zq = addO S_8 q_12 63 := ⟨_, rfl⟩
  have hP : va_P (dC, dI) vwCl (oW cq S_14) H := by rw [eS_14]; exact cP (onew hD1 (by rw [oE_63 add_K, add_I])) hP1
  have hD : va_D A (oW cq S_14) := by rw [eS_14]; exact cD (onew hD1 (by rw [oE_63 add_K, add_I])) hD1
  clear hP1 hD1
  have hIS_14 : oInv S_14 := by rw [eS_14]; exact oInv.add hIS_8 hnq_12 (by decide +kernel)
  have XS_14 : oX [] S_8 S_14 := by rw [eS_14]; exact oX.add hnq_12
  have nzq_12 : q_12 ∉ oL Z := oXc.nin X_10 hnq_12
  have pk_15 : oP S_14 o 0 = some q_1 := by rw [eS_14, add_Pn hnq_12 (oX.ty XS_8 t_6).1]; exact pk_11
  have ik_16 : oI S_14 o 1 = 0 := by rw [eS_14, add_In hnq_12 (oX.ty XS_8 t_6).1]; exact ik_9
  have X_17 : oXc ([] : List Nat) o Z S_14 := oXc.st X_10 XS_14 (by decide +kernel)
  have tq_12 : oty S_14 q_12 63 := by rw [eS_14]; exact add_ty
  refine W.widen (k := 2) (n := 120) (Nat.le_of_ble_eq_true rfl) (Nat.le_of_ble_eq_true rfl) ?_
  have t_18 : oty S_14 o 38 := (oX.ty XS_14 (oX.ty XS_8 t_6))
  obtain ⟨q_19, hq_19⟩ := og (cq := cq) t_18.1 (oE_38 t_18.2)
  refine va_putF (D := (dC, dI)) (ci := 8) (v := .ref q_12) (ty := .array .int) (C := RX8) (T := TX8) (N := 6) hx hb hts in_wsX8_init_X8 tyX8 tyX8_ok nmX8 hown hK hP hD hS q_19 hq_19 rfl 2 (by decide +kernel) (hts (.fieldLink RX8 15 "ShipOffice$Tape" "code" "[I") iw_X8_init_5) (fun _ h9 => h9) rfl hin rfl (by decide +kernel) rfl rfl (Nat.le_of_ble_eq_true rfl) dX8_init_17 (fun H locs hP1 hD1 hS => ?_)
  obtain ⟨S_20, eS_20⟩ : ∃ zq, zq = setP S_14 o 2 (some q_12) := ⟨_, rfl⟩
  have hP : va_P (dC, dI) vwCl (oW cq S_20) H := by rw [eS_20]; exact cP (oset t_18.1 hq_19 hD rfl (he_38_2 t_18.2) neP) hP1
  have hD : va_D A (oW cq S_20) := by rw [eS_20]; exact cD (oset t_18.1 hq_19 hD rfl (he_38_2 t_18.2) neP) hD1
  clear hP1 hD1
  have hIS_20 : oInv S_20 := by rw [eS_20]; exact oInv.P (k := 38) hIS_14 t_18.2 (by decide +kernel) rfl (by decide +kernel) tq_12 (by decide +kernel)
  have XS_20 : oX [2038] S_14 S_20 := by rw [eS_20]; exact oX.P (k := 38) (key := 2038) t_18.2 rfl (List.mem_singleton.mpr rfl)
  have pk_21 : oP S_20 o 0 = some q_1 := by rw [eS_20, setP_ne (by decide +kernel)]; exact pk_15
  have ik_22 : oI S_20 o 1 = 0 := by rw [eS_20]; exact ik_16
  have X_23 : oXc ([] : List Nat) o Z S_20 := by rw [eS_20]; exact oXc.P X_17
  have pk_24 : oP S_20 o 2 = some q_12 := by rw [eS_20, setP_same]
  have t_26 : oty S_20 o 38 := (oX.ty XS_20 t_18)
  obtain ⟨S_25, eS_25⟩ : ∃ zq, zq = setK S_20 o 8 := ⟨_, rfl⟩
  have hP : va_P (dC, dI) vwCl (oW cq S_25) H := by rw [eS_25]; exact cP (ret_W (c := 8) t_26.2 (by decide +kernel)) hP
  have hD : va_D A (oW cq S_25) := by rw [eS_25]; exact cD (ret_W (c := 8) t_26.2 (by decide +kernel)) hD
  have hIS_25 : oInv S_25 := by rw [eS_25]; exact oInv.ret (c := 8) hIS_20 t_26 (by decide +kernel) (fun i hi => by rcases nn_8 hi with rfl | rfl <;> first | exact ⟨_, pk_21⟩ | exact ⟨_, pk_24⟩) (fun i p hp => (ct_no hp (by decide +kernel) (by decide +kernel) (by decide +kernel)).elim) (fun h => absurd h (by decide +kernel)) (fun h => absurd h (by decide +kernel)) (fun h => absurd h (by decide +kernel))
  have XS_25 : oXc ([] : List Nat) o Z S_25 := by rw [eS_25]; exact oXc.K X_23
  have tS_25 : oty S_25 o 8 := by rw [eS_25]; exact K_ty t_26.1
  have pk_27 : oP S_25 o 0 = some q_1 := by rw [eS_25]; exact pk_21
  have pk_28 : oP S_25 o 2 = some q_12 := by rw [eS_25]; exact pk_24
  have ik_29 : oI S_25 o 1 = 0 := by rw [eS_25]; exact ik_22
  exact W.vret hx hb hr (fun t ht hW => ⟨⟨S_25, rfl, ⟨hIS_25, XS_25, ⟨tS_25, ik_29⟩⟩, ⟨by rw [ht]; exact hP, va_K.moved hW.alike hK, hD⟩⟩, hS.F ht⟩) hS.2.2 dX8_init_20
