def tyX8 : Nat → FieldType := fun k => match k with
  | 0 => .array .int
  | 1 => .int
  | 2 => .array .int
  | 3 => .int
  | 4 => .int
  | _ => .int
abbrev wsX80 : List Cond := u_ws RX8 TX8 6
theorem nmX8 : ∀ a, a < 6 → ∀ b, b < 6 → a ≠ b → (TX8 a).2.1 ≠ (TX8 b).2.1 := by decide +kernel
theorem tyX8_ok : ∀ k, k < 6 → parseFieldDescriptor (TX8 k).2.2.1 = some (tyX8 k) := by decide +kernel
abbrev cX8_add : ByteArray := prog_10_method_2_code
def yX8_add : MethodName := ⟨RX8, "add", "(I)V"⟩
abbrev cX8_parseNumber : ByteArray := prog_10_method_7_code
def yX8_parseNumber : MethodName := ⟨RX8, "parseNumber", "()V"⟩
abbrev cX8_sees : ByteArray := prog_10_method_9_code
def yX8_sees : MethodName := ⟨RX8, "sees", "(I)Z"⟩
abbrev cX8_seesDigit : ByteArray := prog_10_method_10_code
def yX8_seesDigit : MethodName := ⟨RX8, "seesDigit", "()Z"⟩
abbrev cX8_letterHere : ByteArray := prog_10_method_11_code
def yX8_letterHere : MethodName := ⟨RX8, "letterHere", "()I"⟩
abbrev cX8_emitSign : ByteArray := prog_10_method_12_code
def yX8_emitSign : MethodName := ⟨RX8, "emitSign", "(I)V"⟩
abbrev cX8_emit : ByteArray := prog_10_method_13_code
def yX8_emit : MethodName := ⟨RX8, "emit", "(I)V"⟩
def wsX8_add : List Cond := .code yX8_add cX8_add 2 none :: ([.fieldLink RX8 18 "ShipOffice$Tape" "size" "I", .fieldLink RX8 9 "ShipOffice$Tape" "bytes" "[I"] ++ wsX80)
theorem il_X8_add_1 : ∀ w ∈ ([.fieldLink RX8 18 "ShipOffice$Tape" "size" "I", .fieldLink RX8 9 "ShipOffice$Tape" "bytes" "[I"] : List Cond), w ∈ wsX8_add := fun w h => (List.mem_cons_of_mem _ (List.mem_append_left _ h))
theorem iw_X8_add_1 : Cond.fieldLink RX8 18 "ShipOffice$Tape" "size" "I" ∈ wsX8_add := (mmI il_X8_add_1 0 rfl)
theorem iw_X8_add_2 : Cond.fieldLink RX8 9 "ShipOffice$Tape" "bytes" "[I" ∈ wsX8_add := (mmI il_X8_add_1 1 rfl)
def wsX8_sees : List Cond := .code yX8_sees cX8_sees 2 (some .boolean) :: ([.fieldLink RX8 22 "ShipOffice$Tape" "at" "I", .fieldLink RX8 18 "ShipOffice$Tape" "size" "I", .fieldLink RX8 9 "ShipOffice$Tape" "bytes" "[I"] ++ wsX80)
theorem gw_X8_sees : wsX8_sees.all goodWord = true := by decide +kernel
theorem il_X8_sees_1 : ∀ w ∈ ([.fieldLink RX8 22 "ShipOffice$Tape" "at" "I", .fieldLink RX8 18 "ShipOffice$Tape" "size" "I", .fieldLink RX8 9 "ShipOffice$Tape" "bytes" "[I"] : List Cond), w ∈ wsX8_sees := fun w h => (List.mem_cons_of_mem _ (List.mem_append_left _ h))
theorem iw_X8_sees_1 : Cond.fieldLink RX8 22 "ShipOffice$Tape" "at" "I" ∈ wsX8_sees := (mmI il_X8_sees_1 0 rfl)
theorem iw_X8_sees_2 : Cond.fieldLink RX8 18 "ShipOffice$Tape" "size" "I" ∈ wsX8_sees := (mmI il_X8_sees_1 1 rfl)
theorem iw_X8_sees_3 : Cond.fieldLink RX8 9 "ShipOffice$Tape" "bytes" "[I" ∈ wsX8_sees := (mmI il_X8_sees_1 2 rfl)
def wsX8_emit : List Cond := .code yX8_emit cX8_emit 2 none :: ([.fieldLink RX8 25 "ShipOffice$Tape" "codeSize" "I", .fieldLink RX8 15 "ShipOffice$Tape" "code" "[I"] ++ wsX80)
theorem gw_X8_emit : wsX8_emit.all goodWord = true := by decide +kernel
theorem il_X8_emit_1 : ∀ w ∈ ([.fieldLink RX8 25 "ShipOffice$Tape" "codeSize" "I", .fieldLink RX8 15 "ShipOffice$Tape" "code" "[I"] : List Cond), w ∈ wsX8_emit := fun w h => (List.mem_cons_of_mem _ (List.mem_append_left _ h))
theorem iw_X8_emit_1 : Cond.fieldLink RX8 25 "ShipOffice$Tape" "codeSize" "I" ∈ wsX8_emit := (mmI il_X8_emit_1 0 rfl)
theorem iw_X8_emit_2 : Cond.fieldLink RX8 15 "ShipOffice$Tape" "code" "[I" ∈ wsX8_emit := (mmI il_X8_emit_1 1 rfl)
def wsX8_emitSign : List Cond := .code yX8_emitSign cX8_emitSign 3 none :: ([.fieldLink RX8 71 "ShipOffice$Act" "SIGNS" "[C", .methodLink RX8 61 yX8_emit, .instanceMethod yX8_emit, .selects RX8 yX8_emit yX8_emit, .initialized RX8, .code yX8_emit cX8_emit 2 none, .fieldLink RX8 25 "ShipOffice$Tape" "codeSize" "I", .fieldLink RX8 15 "ShipOffice$Tape" "code" "[I"] ++ wsX80)
theorem il_X8_emitSign_1 : ∀ w ∈ ([.fieldLink RX8 71 "ShipOffice$Act" "SIGNS" "[C", .methodLink RX8 61 yX8_emit, .instanceMethod yX8_emit, .selects RX8 yX8_emit yX8_emit, .initialized RX8, .code yX8_emit cX8_emit 2 none, .fieldLink RX8 25 "ShipOffice$Tape" "codeSize" "I", .fieldLink RX8 15 "ShipOffice$Tape" "code" "[I"] : List Cond), w ∈ wsX8_emitSign := fun w h => (List.mem_cons_of_mem _ (List.mem_append_left _ h))
theorem il_X8_emitSign_2 : ∀ w ∈ wsX80, w ∈ wsX8_emitSign := fun w h => (List.mem_cons_of_mem _ (List.mem_append_right _ h))
theorem iw_X8_emitSign_1 : Cond.fieldLink RX8 71 "ShipOffice$Act" "SIGNS" "[C" ∈ wsX8_emitSign := (mmI il_X8_emitSign_1 0 rfl)
def wsX8_letterHere : List Cond := .code yX8_letterHere cX8_letterHere 2 (some .int) :: ([.methodLink RX8 38 yX8_sees, .instanceMethod yX8_sees, .selects RX8 yX8_sees yX8_sees, .initialized RX8, .code yX8_sees cX8_sees 2 (some .boolean), .fieldLink RX8 22 "ShipOffice$Tape" "at" "I", .fieldLink RX8 18 "ShipOffice$Tape" "size" "I", .fieldLink RX8 9 "ShipOffice$Tape" "bytes" "[I"] ++ wsX80)
theorem il_X8_letterHere_1 : ∀ w ∈ ([.methodLink RX8 38 yX8_sees, .instanceMethod yX8_sees, .selects RX8 yX8_sees yX8_sees, .initialized RX8, .code yX8_sees cX8_sees 2 (some .boolean), .fieldLink RX8 22 "ShipOffice$Tape" "at" "I", .fieldLink RX8 18 "ShipOffice$Tape" "size" "I", .fieldLink RX8 9 "ShipOffice$Tape" "bytes" "[I"] : List Cond), w ∈ wsX8_letterHere := fun w h => (List.mem_cons_of_mem _ (List.mem_append_left _ h))
theorem il_X8_letterHere_2 : ∀ w ∈ wsX80, w ∈ wsX8_letterHere := fun w h => (List.mem_cons_of_mem _ (List.mem_append_right _ h))
def wsX8_seesDigit : List Cond := .code yX8_seesDigit cX8_seesDigit 1 (some .boolean) :: ([.fieldLink RX8 22 "ShipOffice$Tape" "at" "I", .fieldLink RX8 18 "ShipOffice$Tape" "size" "I", .fieldLink RX8 9 "ShipOffice$Tape" "bytes" "[I"] ++ wsX80)
theorem gw_X8_seesDigit : wsX8_seesDigit.all goodWord = true := by decide +kernel
theorem il_X8_seesDigit_1 : ∀ w ∈ ([.fieldLink RX8 22 "ShipOffice$Tape" "at" "I", .fieldLink RX8 18 "ShipOffice$Tape" "size" "I", .fieldLink RX8 9 "ShipOffice$Tape" "bytes" "[I"] : List Cond), w ∈ wsX8_seesDigit := fun w h => (List.mem_cons_of_mem _ (List.mem_append_left _ h))
theorem iw_X8_seesDigit_1 : Cond.fieldLink RX8 22 "ShipOffice$Tape" "at" "I" ∈ wsX8_seesDigit := (mmI il_X8_seesDigit_1 0 rfl)
theorem iw_X8_seesDigit_2 : Cond.fieldLink RX8 18 "ShipOffice$Tape" "size" "I" ∈ wsX8_seesDigit := (mmI il_X8_seesDigit_1 1 rfl)
theorem iw_X8_seesDigit_3 : Cond.fieldLink RX8 9 "ShipOffice$Tape" "bytes" "[I" ∈ wsX8_seesDigit := (mmI il_X8_seesDigit_1 2 rfl)
def wsX8_parseNumber : List Cond := .code yX8_parseNumber cX8_parseNumber 3 none :: ([.fieldLink RX8 9 "ShipOffice$Tape" "bytes" "[I", .fieldLink RX8 22 "ShipOffice$Tape" "at" "I", .methodLink RX8 52 yX8_seesDigit, .instanceMethod yX8_seesDigit, .selects RX8 yX8_seesDigit yX8_seesDigit, .initialized RX8, .code yX8_seesDigit cX8_seesDigit 1 (some .boolean), .fieldLink RX8 18 "ShipOffice$Tape" "size" "I", .methodLink RX8 61 yX8_emit, .instanceMethod yX8_emit, .selects RX8 yX8_emit yX8_emit, .code yX8_emit cX8_emit 2 none, .fieldLink RX8 25 "ShipOffice$Tape" "codeSize" "I", .fieldLink RX8 15 "ShipOffice$Tape" "code" "[I"] ++ wsX80)
theorem il_X8_parseNumber_1 : ∀ w ∈ ([.fieldLink RX8 9 "ShipOffice$Tape" "bytes" "[I", .fieldLink RX8 22 "ShipOffice$Tape" "at" "I", .methodLink RX8 52 yX8_seesDigit, .instanceMethod yX8_seesDigit, .selects RX8 yX8_seesDigit yX8_seesDigit, .initialized RX8, .code yX8_seesDigit cX8_seesDigit 1 (some .boolean), .fieldLink RX8 18 "ShipOffice$Tape" "size" "I", .methodLink RX8 61 yX8_emit, .instanceMethod yX8_emit, .selects RX8 yX8_emit yX8_emit, .code yX8_emit cX8_emit 2 none, .fieldLink RX8 25 "ShipOffice$Tape" "codeSize" "I", .fieldLink RX8 15 "ShipOffice$Tape" "code" "[I"] : List Cond), w ∈ wsX8_parseNumber := fun w h => (List.mem_cons_of_mem _ (List.mem_append_left _ h))
theorem il_X8_parseNumber_2 : ∀ w ∈ wsX80, w ∈ wsX8_parseNumber := fun w h => (List.mem_cons_of_mem _ (List.mem_append_right _ h))
theorem iw_X8_parseNumber_1 : Cond.fieldLink RX8 9 "ShipOffice$Tape" "bytes" "[I" ∈ wsX8_parseNumber := (mmI il_X8_parseNumber_1 0 rfl)
theorem iw_X8_parseNumber_2 : Cond.fieldLink RX8 22 "ShipOffice$Tape" "at" "I" ∈ wsX8_parseNumber := (mmI il_X8_parseNumber_1 1 rfl)
theorem dX8_add_0 : decode cX8_add 0 = .ok (.aload_n 0, 1) := by decide +kernel
theorem dX8_add_1 : decode cX8_add 1 = .ok (.getfield 18, 3) := by decide +kernel
theorem dX8_add_4 : decode cX8_add 4 = .ok (.bipush 60, 2) := by decide +kernel
theorem dX8_add_6 : decode cX8_add 6 = .ok (.if_icmp .ge 23, 3) := by decide +kernel
theorem dX8_add_9 : decode cX8_add 9 = .ok (.aload_n 0, 1) := by decide +kernel
theorem dX8_add_10 : decode cX8_add 10 = .ok (.getfield 9, 3) := by decide +kernel
theorem dX8_add_13 : decode cX8_add 13 = .ok (.aload_n 0, 1) := by decide +kernel
theorem dX8_add_14 : decode cX8_add 14 = .ok (.getfield 18, 3) := by decide +kernel
theorem dX8_add_17 : decode cX8_add 17 = .ok (.iload_n 1, 1) := by decide +kernel
theorem dX8_add_18 : decode cX8_add 18 = .ok (.iastore, 1) := by decide +kernel
theorem dX8_add_19 : decode cX8_add 19 = .ok (.aload_n 0, 1) := by decide +kernel
theorem dX8_add_20 : decode cX8_add 20 = .ok (.dup, 1) := by decide +kernel
theorem dX8_add_21 : decode cX8_add 21 = .ok (.getfield 18, 3) := by decide +kernel
theorem dX8_add_24 : decode cX8_add 24 = .ok (.iconst 1, 1) := by decide +kernel
theorem dX8_add_25 : decode cX8_add 25 = .ok (.iadd, 1) := by decide +kernel
theorem dX8_add_26 : decode cX8_add 26 = .ok (.putfield 18, 3) := by decide +kernel
theorem dX8_add_29 : decode cX8_add 29 = .ok (.return_, 1) := by decide +kernel
set_option maxRecDepth 100000 in
theorem ggX8_parseNumber_X8_seesDigit : GoodIn wsX8_parseNumber wsX8_seesDigit := goodIn_sub (mmC (mmI il_X8_parseNumber_1 6 rfl) (mmA (mmC (mmI il_X8_parseNumber_1 1 rfl) (mmC (mmI il_X8_parseNumber_1 7 rfl) (mmC (mmI il_X8_parseNumber_1 0 rfl) mmN))) il_X8_parseNumber_2)) gw_X8_seesDigit
theorem gX8_parseNumber_X8_seesDigit : GoodIn wsX8_parseNumber (wsV RX8 52 RX8 yX8_seesDigit wsX8_seesDigit) := goodIn_app (goodIn_sub (mmC (mmI il_X8_parseNumber_1 2 rfl) (mmC (mmI il_X8_parseNumber_1 3 rfl) (mmC (mmI il_X8_parseNumber_1 4 rfl) (mmC (mmI il_X8_parseNumber_1 5 rfl) mmN)))) (by decide +kernel)) ggX8_parseNumber_X8_seesDigit
set_option maxRecDepth 100000 in
theorem ggX8_parseNumber_X8_emit : GoodIn wsX8_parseNumber wsX8_emit := goodIn_sub (mmC (mmI il_X8_parseNumber_1 11 rfl) (mmA (mmC (mmI il_X8_parseNumber_1 12 rfl) (mmC (mmI il_X8_parseNumber_1 13 rfl) mmN)) il_X8_parseNumber_2)) gw_X8_emit
theorem gX8_parseNumber_X8_emit : GoodIn wsX8_parseNumber (wsV RX8 61 RX8 yX8_emit wsX8_emit) := goodIn_app (goodIn_sub (mmC (mmI il_X8_parseNumber_1 8 rfl) (mmC (mmI il_X8_parseNumber_1 9 rfl) (mmC (mmI il_X8_parseNumber_1 10 rfl) (mmC (mmI il_X8_parseNumber_1 5 rfl) mmN)))) (by decide +kernel)) ggX8_parseNumber_X8_emit
theorem dX8_parseNumber_0 : decode cX8_parseNumber 0 = .ok (.iconst 0, 1) := by decide +kernel
theorem dX8_parseNumber_1 : decode cX8_parseNumber 1 = .ok (.istore_n 1, 1) := by decide +kernel
theorem dX8_parseNumber_2 : decode cX8_parseNumber 2 = .ok (.iconst 0, 1) := by decide +kernel
theorem dX8_parseNumber_3 : decode cX8_parseNumber 3 = .ok (.istore_n 2, 1) := by decide +kernel
theorem dX8_parseNumber_4 : decode cX8_parseNumber 4 = .ok (.iload_n 2, 1) := by decide +kernel
theorem dX8_parseNumber_5 : decode cX8_parseNumber 5 = .ok (.iconst 5, 1) := by decide +kernel
theorem dX8_parseNumber_6 : decode cX8_parseNumber 6 = .ok (.if_icmp .ge 44, 3) := by decide +kernel
theorem dX8_parseNumber_9 : decode cX8_parseNumber 9 = .ok (.aload_n 0, 1) := by decide +kernel
theorem dX8_parseNumber_10 : decode cX8_parseNumber 10 = .ok (.invokevirtual 52, 3) := by decide +kernel
theorem dX8_parseNumber_13 : decode cX8_parseNumber 13 = .ok (.ifCond .eq 37, 3) := by decide +kernel
theorem dX8_parseNumber_16 : decode cX8_parseNumber 16 = .ok (.iload_n 1, 1) := by decide +kernel
theorem dX8_parseNumber_17 : decode cX8_parseNumber 17 = .ok (.bipush 10, 2) := by decide +kernel
theorem dX8_parseNumber_19 : decode cX8_parseNumber 19 = .ok (.imul, 1) := by decide +kernel
theorem dX8_parseNumber_20 : decode cX8_parseNumber 20 = .ok (.aload_n 0, 1) := by decide +kernel
theorem dX8_parseNumber_21 : decode cX8_parseNumber 21 = .ok (.getfield 9, 3) := by decide +kernel
theorem dX8_parseNumber_24 : decode cX8_parseNumber 24 = .ok (.aload_n 0, 1) := by decide +kernel
theorem dX8_parseNumber_25 : decode cX8_parseNumber 25 = .ok (.getfield 22, 3) := by decide +kernel
theorem dX8_parseNumber_28 : decode cX8_parseNumber 28 = .ok (.iaload, 1) := by decide +kernel
theorem dX8_parseNumber_29 : decode cX8_parseNumber 29 = .ok (.iadd, 1) := by decide +kernel
theorem dX8_parseNumber_30 : decode cX8_parseNumber 30 = .ok (.bipush 48, 2) := by decide +kernel
theorem dX8_parseNumber_32 : decode cX8_parseNumber 32 = .ok (.isub, 1) := by decide +kernel
theorem dX8_parseNumber_33 : decode cX8_parseNumber 33 = .ok (.istore_n 1, 1) := by decide +kernel
theorem dX8_parseNumber_34 : decode cX8_parseNumber 34 = .ok (.aload_n 0, 1) := by decide +kernel
theorem dX8_parseNumber_35 : decode cX8_parseNumber 35 = .ok (.dup, 1) := by decide +kernel
theorem dX8_parseNumber_36 : decode cX8_parseNumber 36 = .ok (.getfield 22, 3) := by decide +kernel
theorem dX8_parseNumber_39 : decode cX8_parseNumber 39 = .ok (.iconst 1, 1) := by decide +kernel
theorem dX8_parseNumber_40 : decode cX8_parseNumber 40 = .ok (.iadd, 1) := by decide +kernel
theorem dX8_parseNumber_41 : decode cX8_parseNumber 41 = .ok (.putfield 22, 3) := by decide +kernel
theorem dX8_parseNumber_44 : decode cX8_parseNumber 44 = .ok (.iinc 2 1, 3) := by decide +kernel
theorem dX8_parseNumber_47 : decode cX8_parseNumber 47 = .ok (.goto (-43), 3) := by decide +kernel
theorem dX8_parseNumber_50 : decode cX8_parseNumber 50 = .ok (.aload_n 0, 1) := by decide +kernel
theorem dX8_parseNumber_51 : decode cX8_parseNumber 51 = .ok (.iload_n 1, 1) := by decide +kernel
theorem dX8_parseNumber_52 : decode cX8_parseNumber 52 = .ok (.invokevirtual 61, 3) := by decide +kernel
theorem dX8_parseNumber_55 : decode cX8_parseNumber 55 = .ok (.return_, 1) := by decide +kernel
theorem dX8_sees_0 : decode cX8_sees 0 = .ok (.aload_n 0, 1) := by decide +kernel
theorem dX8_sees_1 : decode cX8_sees 1 = .ok (.getfield 22, 3) := by decide +kernel
theorem dX8_sees_4 : decode cX8_sees 4 = .ok (.aload_n 0, 1) := by decide +kernel
theorem dX8_sees_5 : decode cX8_sees 5 = .ok (.getfield 18, 3) := by decide +kernel
theorem dX8_sees_8 : decode cX8_sees 8 = .ok (.if_icmp .ge 20, 3) := by decide +kernel
theorem dX8_sees_11 : decode cX8_sees 11 = .ok (.aload_n 0, 1) := by decide +kernel
theorem dX8_sees_12 : decode cX8_sees 12 = .ok (.getfield 9, 3) := by decide +kernel
theorem dX8_sees_15 : decode cX8_sees 15 = .ok (.aload_n 0, 1) := by decide +kernel
theorem dX8_sees_16 : decode cX8_sees 16 = .ok (.getfield 22, 3) := by decide +kernel
theorem dX8_sees_19 : decode cX8_sees 19 = .ok (.iaload, 1) := by decide +kernel
theorem dX8_sees_20 : decode cX8_sees 20 = .ok (.iload_n 1, 1) := by decide +kernel
theorem dX8_sees_21 : decode cX8_sees 21 = .ok (.if_icmp .ne 7, 3) := by decide +kernel
theorem dX8_sees_24 : decode cX8_sees 24 = .ok (.iconst 1, 1) := by decide +kernel
theorem dX8_sees_25 : decode cX8_sees 25 = .ok (.goto 4, 3) := by decide +kernel
theorem dX8_sees_28 : decode cX8_sees 28 = .ok (.iconst 0, 1) := by decide +kernel
theorem dX8_sees_29 : decode cX8_sees 29 = .ok (.ireturn, 1) := by decide +kernel
theorem dX8_seesDigit_0 : decode cX8_seesDigit 0 = .ok (.aload_n 0, 1) := by decide +kernel
theorem dX8_seesDigit_1 : decode cX8_seesDigit 1 = .ok (.getfield 22, 3) := by decide +kernel
theorem dX8_seesDigit_4 : decode cX8_seesDigit 4 = .ok (.aload_n 0, 1) := by decide +kernel
theorem dX8_seesDigit_5 : decode cX8_seesDigit 5 = .ok (.getfield 18, 3) := by decide +kernel
theorem dX8_seesDigit_8 : decode cX8_seesDigit 8 = .ok (.if_icmp .ge 35, 3) := by decide +kernel
theorem dX8_seesDigit_11 : decode cX8_seesDigit 11 = .ok (.aload_n 0, 1) := by decide +kernel
theorem dX8_seesDigit_12 : decode cX8_seesDigit 12 = .ok (.getfield 9, 3) := by decide +kernel
theorem dX8_seesDigit_15 : decode cX8_seesDigit 15 = .ok (.aload_n 0, 1) := by decide +kernel
theorem dX8_seesDigit_16 : decode cX8_seesDigit 16 = .ok (.getfield 22, 3) := by decide +kernel
theorem dX8_seesDigit_19 : decode cX8_seesDigit 19 = .ok (.iaload, 1) := by decide +kernel
theorem dX8_seesDigit_20 : decode cX8_seesDigit 20 = .ok (.bipush 48, 2) := by decide +kernel
theorem dX8_seesDigit_22 : decode cX8_seesDigit 22 = .ok (.if_icmp .lt 21, 3) := by decide +kernel
theorem dX8_seesDigit_25 : decode cX8_seesDigit 25 = .ok (.aload_n 0, 1) := by decide +kernel
theorem dX8_seesDigit_26 : decode cX8_seesDigit 26 = .ok (.getfield 9, 3) := by decide +kernel
theorem dX8_seesDigit_29 : decode cX8_seesDigit 29 = .ok (.aload_n 0, 1) := by decide +kernel
theorem dX8_seesDigit_30 : decode cX8_seesDigit 30 = .ok (.getfield 22, 3) := by decide +kernel
theorem dX8_seesDigit_33 : decode cX8_seesDigit 33 = .ok (.iaload, 1) := by decide +kernel
theorem dX8_seesDigit_34 : decode cX8_seesDigit 34 = .ok (.bipush 57, 2) := by decide +kernel
theorem dX8_seesDigit_36 : decode cX8_seesDigit 36 = .ok (.if_icmp .gt 7, 3) := by decide +kernel
theorem dX8_seesDigit_39 : decode cX8_seesDigit 39 = .ok (.iconst 1, 1) := by decide +kernel
theorem dX8_seesDigit_40 : decode cX8_seesDigit 40 = .ok (.goto 4, 3) := by decide +kernel
theorem dX8_seesDigit_43 : decode cX8_seesDigit 43 = .ok (.iconst 0, 1) := by decide +kernel
theorem dX8_seesDigit_44 : decode cX8_seesDigit 44 = .ok (.ireturn, 1) := by decide +kernel
set_option maxRecDepth 100000 in
theorem ggX8_letterHere_X8_sees : GoodIn wsX8_letterHere wsX8_sees := goodIn_sub (mmC (mmI il_X8_letterHere_1 4 rfl) (mmA (mmC (mmI il_X8_letterHere_1 5 rfl) (mmC (mmI il_X8_letterHere_1 6 rfl) (mmC (mmI il_X8_letterHere_1 7 rfl) mmN))) il_X8_letterHere_2)) gw_X8_sees
theorem gX8_letterHere_X8_sees : GoodIn wsX8_letterHere (wsV RX8 38 RX8 yX8_sees wsX8_sees) := goodIn_app (goodIn_sub (mmC (mmI il_X8_letterHere_1 0 rfl) (mmC (mmI il_X8_letterHere_1 1 rfl) (mmC (mmI il_X8_letterHere_1 2 rfl) (mmC (mmI il_X8_letterHere_1 3 rfl) mmN)))) (by decide +kernel)) ggX8_letterHere_X8_sees
theorem dX8_letterHere_0 : decode cX8_letterHere 0 = .ok (.iconst 0, 1) := by decide +kernel
theorem dX8_letterHere_1 : decode cX8_letterHere 1 = .ok (.istore_n 1, 1) := by decide +kernel
theorem dX8_letterHere_2 : decode cX8_letterHere 2 = .ok (.iload_n 1, 1) := by decide +kernel
theorem dX8_letterHere_3 : decode cX8_letterHere 3 = .ok (.getstatic 67, 3) := by decide +kernel
theorem dX8_letterHere_6 : decode cX8_letterHere 6 = .ok (.arraylength, 1) := by decide +kernel
theorem dX8_letterHere_7 : decode cX8_letterHere 7 = .ok (.if_icmp .ge 23, 3) := by decide +kernel
theorem dX8_letterHere_10 : decode cX8_letterHere 10 = .ok (.aload_n 0, 1) := by decide +kernel
theorem dX8_letterHere_11 : decode cX8_letterHere 11 = .ok (.getstatic 67, 3) := by decide +kernel
theorem dX8_letterHere_14 : decode cX8_letterHere 14 = .ok (.iload_n 1, 1) := by decide +kernel
theorem dX8_letterHere_15 : decode cX8_letterHere 15 = .ok (.caload, 1) := by decide +kernel
theorem dX8_letterHere_16 : decode cX8_letterHere 16 = .ok (.invokevirtual 38, 3) := by decide +kernel
theorem dX8_letterHere_19 : decode cX8_letterHere 19 = .ok (.ifCond .eq 5, 3) := by decide +kernel
theorem dX8_letterHere_22 : decode cX8_letterHere 22 = .ok (.iload_n 1, 1) := by decide +kernel
theorem dX8_letterHere_23 : decode cX8_letterHere 23 = .ok (.ireturn, 1) := by decide +kernel
theorem dX8_letterHere_24 : decode cX8_letterHere 24 = .ok (.iinc 1 1, 3) := by decide +kernel
theorem dX8_letterHere_27 : decode cX8_letterHere 27 = .ok (.goto (-25), 3) := by decide +kernel
theorem dX8_letterHere_30 : decode cX8_letterHere 30 = .ok (.iconst (-1), 1) := by decide +kernel
theorem dX8_letterHere_31 : decode cX8_letterHere 31 = .ok (.ireturn, 1) := by decide +kernel
set_option maxRecDepth 100000 in
theorem ggX8_emitSign_X8_emit : GoodIn wsX8_emitSign wsX8_emit := goodIn_sub (mmC (mmI il_X8_emitSign_1 5 rfl) (mmA (mmC (mmI il_X8_emitSign_1 6 rfl) (mmC (mmI il_X8_emitSign_1 7 rfl) mmN)) il_X8_emitSign_2)) gw_X8_emit
theorem gX8_emitSign_X8_emit : GoodIn wsX8_emitSign (wsV RX8 61 RX8 yX8_emit wsX8_emit) := goodIn_app (goodIn_sub (mmC (mmI il_X8_emitSign_1 1 rfl) (mmC (mmI il_X8_emitSign_1 2 rfl) (mmC (mmI il_X8_emitSign_1 3 rfl) (mmC (mmI il_X8_emitSign_1 4 rfl) mmN)))) (by decide +kernel)) ggX8_emitSign_X8_emit
theorem dX8_emitSign_0 : decode cX8_emitSign 0 = .ok (.iconst 0, 1) := by decide +kernel
theorem dX8_emitSign_1 : decode cX8_emitSign 1 = .ok (.istore_n 2, 1) := by decide +kernel
theorem dX8_emitSign_2 : decode cX8_emitSign 2 = .ok (.iload_n 2, 1) := by decide +kernel
theorem dX8_emitSign_3 : decode cX8_emitSign 3 = .ok (.getstatic 71, 3) := by decide +kernel
theorem dX8_emitSign_6 : decode cX8_emitSign 6 = .ok (.arraylength, 1) := by decide +kernel
theorem dX8_emitSign_7 : decode cX8_emitSign 7 = .ok (.if_icmp .ge 26, 3) := by decide +kernel
theorem dX8_emitSign_10 : decode cX8_emitSign 10 = .ok (.getstatic 71, 3) := by decide +kernel
theorem dX8_emitSign_13 : decode cX8_emitSign 13 = .ok (.iload_n 2, 1) := by decide +kernel
theorem dX8_emitSign_14 : decode cX8_emitSign 14 = .ok (.caload, 1) := by decide +kernel
theorem dX8_emitSign_15 : decode cX8_emitSign 15 = .ok (.iload_n 1, 1) := by decide +kernel
theorem dX8_emitSign_16 : decode cX8_emitSign 16 = .ok (.if_icmp .ne 11, 3) := by decide +kernel
theorem dX8_emitSign_19 : decode cX8_emitSign 19 = .ok (.aload_n 0, 1) := by decide +kernel
theorem dX8_emitSign_20 : decode cX8_emitSign 20 = .ok (.bipush (-11), 2) := by decide +kernel
theorem dX8_emitSign_22 : decode cX8_emitSign 22 = .ok (.iload_n 2, 1) := by decide +kernel
theorem dX8_emitSign_23 : decode cX8_emitSign 23 = .ok (.isub, 1) := by decide +kernel
theorem dX8_emitSign_24 : decode cX8_emitSign 24 = .ok (.invokevirtual 61, 3) := by decide +kernel
theorem dX8_emitSign_27 : decode cX8_emitSign 27 = .ok (.iinc 2 1, 3) := by decide +kernel
theorem dX8_emitSign_30 : decode cX8_emitSign 30 = .ok (.goto (-28), 3) := by decide +kernel
theorem dX8_emitSign_33 : decode cX8_emitSign 33 = .ok (.return_, 1) := by decide +kernel
theorem dX8_emit_0 : decode cX8_emit 0 = .ok (.aload_n 0, 1) := by decide +kernel
theorem dX8_emit_1 : decode cX8_emit 1 = .ok (.getfield 25, 3) := by decide +kernel
theorem dX8_emit_4 : decode cX8_emit 4 = .ok (.bipush 60, 2) := by decide +kernel
theorem dX8_emit_6 : decode cX8_emit 6 = .ok (.if_icmp .ge 23, 3) := by decide +kernel
theorem dX8_emit_9 : decode cX8_emit 9 = .ok (.aload_n 0, 1) := by decide +kernel
theorem dX8_emit_10 : decode cX8_emit 10 = .ok (.getfield 15, 3) := by decide +kernel
theorem dX8_emit_13 : decode cX8_emit 13 = .ok (.aload_n 0, 1) := by decide +kernel
theorem dX8_emit_14 : decode cX8_emit 14 = .ok (.getfield 25, 3) := by decide +kernel
theorem dX8_emit_17 : decode cX8_emit 17 = .ok (.iload_n 1, 1) := by decide +kernel
theorem dX8_emit_18 : decode cX8_emit 18 = .ok (.iastore, 1) := by decide +kernel
theorem dX8_emit_19 : decode cX8_emit 19 = .ok (.aload_n 0, 1) := by decide +kernel
theorem dX8_emit_20 : decode cX8_emit 20 = .ok (.dup, 1) := by decide +kernel
theorem dX8_emit_21 : decode cX8_emit 21 = .ok (.getfield 25, 3) := by decide +kernel
theorem dX8_emit_24 : decode cX8_emit 24 = .ok (.iconst 1, 1) := by decide +kernel
theorem dX8_emit_25 : decode cX8_emit 25 = .ok (.iadd, 1) := by decide +kernel
theorem dX8_emit_26 : decode cX8_emit 26 = .ok (.putfield 25, 3) := by decide +kernel
theorem dX8_emit_29 : decode cX8_emit 29 = .ok (.return_, 1) := by decide +kernel
theorem in_wsX8_add_X8 : ∀ w ∈ wsX80, w ∈ wsX8_add := fun w h => List.mem_cons_of_mem _ (List.mem_append_right _ h)
theorem in_wsX8_emit_X8 : ∀ w ∈ wsX80, w ∈ wsX8_emit := fun w h => List.mem_cons_of_mem _ (List.mem_append_right _ h)
theorem in_wsX8_sees_X8 : ∀ w ∈ wsX80, w ∈ wsX8_sees := fun w h => List.mem_cons_of_mem _ (List.mem_append_right _ h)
theorem in_wsX8_seesDigit_X8 : ∀ w ∈ wsX80, w ∈ wsX8_seesDigit := fun w h => List.mem_cons_of_mem _ (List.mem_append_right _ h)
theorem in_wsX8_parseNumber_X8 : ∀ w ∈ wsX80, w ∈ wsX8_parseNumber := fun w h => List.mem_cons_of_mem _ (List.mem_append_right _ h)

set_option maxHeartbeats 4000000 in
set_option maxRecDepth 100000 in
theorem c_X8_add (l : Launch) (dC : Nat → ClassId) (dI : Nat → Nat → Nat) (sz : Nat) (cq : Nat → ClassId) (Z : oS) (gI : oInv Z) (o : Nat) (to : oty Z o 8) (x1 : Int32) : Met l yX8_add wsX8_add ({ frames := 0, cells := 0, slots := 0, locals := 0 }) (va_Pc [.ref o, .int x1] (pcW (dC, dI) (oT cq) (oW cq Z) sz)) (va_Qv (fun (u : oS) => oInv u ∧ oX [801, 2160] Z u) (fun u t => va_P (dC, dI) vwCl (oW cq u) t.heap ∧ va_K (dC, dI) vwCl (oT cq) t ∧ va_D (va_A (oW cq Z) sz) (oW cq u)) (va_A (oW cq Z) sz)) 0 0 (va_A (oW cq Z) sz) := by
  refine Met.ofW (cc := cX8_add) (maxL := 2) (ret := none) (by decide) rfl ?_
  intro p e s m args below meth c s₁ B hml hv
  obtain ⟨rfl, hsz, hP, hK, hD0⟩ := hv
  have hx := B.exec
  have hb := B.bytes
  have hr := B.returns
  have hts := atoms_spec (ws := wsX8_add) B.pre
  have hown : s.vm.findClass RX8 = some m.cls := findClass_of_methodNamed B.named
  have hlocks := B.notSynchronized
  subst hsz
  have hD := hD0.self (sz := s.heap.size)
  generalize hAe : va_A (oW cq Z) s.heap.size = A at hD ⊢
  have hA : ∀ q : Nat, s.heap.size ≤ q → A q := fun q h => by rw [← hAe]; exact Or.inr h
  have hS : va_S A s.heap s.heap [] := va_S.rf
  have hP : va_P (dC, dI) vwCl (oW cq Z) s.heap := hP
  have hl := lv_entry ([.ref o, .int x1]) (n := 2) (Nat.le_of_ble_eq_true rfl)
  rw [lg_entry_eq]
  generalize (lg_sl ([.ref o, .int x1]) ++ List.replicate (2 - (lg_sl ([.ref o, .int x1])).length) Slot.unset).toArray = ls at hl ⊢
  have hl : lv_has ls 2 [(0, .ref o), (1, .int x1)] := hl
  refine lv_aload_n hx hb dX8_add_0 rfl (lv_at hl 0 rfl) ?_
  obtain ⟨q_1, hq_1⟩ := og (cq := cq) to.1 (oE_8 to.2)
  refine va_get (D := (dC, dI)) (ci := 8) (v := .int (oI Z o 1)) (C := RX8) (T := TX8) (N := 6) hx hb hts in_wsX8_add_X8 hown hK hP q_1 hq_1 rfl 1 (by decide) (hts (.fieldLink RX8 18 "ShipOffice$Tape" "size" "I") iw_X8_add_1) (fun _ h9 => h9) rfl dX8_add_1 ?_
  refine lv_topi (fun x_2 ex_2 => ?_)
  have hx_2 : 0 ≤ x_2.toInt ∧ x_2.toInt ≤ 60 := iv_of ex_2 (oInv.iv gI to.2 rfl rfl)
  have gx_2 : x_2.toInt = (oI Z o 1).toInt := iv_to ex_2
  clear ex_2
  refine lv_bipush (v := 60) hx hb dX8_add_4 (by decide) ?_
  refine lv_icmp_ge (tgt := 29) hx hb dX8_add_6 (by decide) (fun c_3 => ?_) (fun c_3 => ?_)
  · have dc_3 := c_le (a := 60) (b := x_2.toInt) (by decide) rfl c_3
    exact W.vret hx hb hr (fun t ht hW => ⟨⟨Z, rfl, ⟨gI, oX.rf⟩, ⟨by rw [ht]; exact hP, va_K.moved hW.alike hK, hD⟩⟩, hS.F ht⟩) hS.2.2 dX8_add_29
  · have dc_3 := c_nle (a := 60) (b := x_2.toInt) (by decide) rfl c_3
    refine lv_aload_n hx hb dX8_add_9 rfl (lv_at hl 0 rfl) ?_
    obtain ⟨b_4, hb_4⟩ := oInv.nn (i := 0) gI to rfl
    refine va_get (D := (dC, dI)) (ci := 8) (v := .ref b_4) (C := RX8) (T := TX8) (N := 6) hx hb hts in_wsX8_add_X8 hown hK hP q_1 hq_1 rfl 0 (by decide) (hts (.fieldLink RX8 9 "ShipOffice$Tape" "bytes" "[I") iw_X8_add_2) (fun _ h9 => h9) (o_rd hb_4) dX8_add_10 ?_
    have tb_4 : oty Z b_4 160 := oInv.rd gI to.2 hb_4 rfl rfl
    refine lv_aload_n hx hb dX8_add_13 rfl (lv_at hl 0 rfl) ?_
    refine va_get (D := (dC, dI)) (ci := 8) (v := .int (oI Z o 1)) (C := RX8) (T := TX8) (N := 6) hx hb hts in_wsX8_add_X8 hown hK hP q_1 hq_1 rfl 1 (by decide) (hts (.fieldLink RX8 18 "ShipOffice$Tape" "size" "I") iw_X8_add_1) (fun _ h9 => h9) rfl dX8_add_14 ?_
    refine lv_topi (fun x_5 ex_5 => ?_)
    have hx_5 : 0 ≤ x_5.toInt ∧ x_5.toInt ≤ 60 := iv_of ex_5 (oInv.iv gI to.2 rfl rfl)
    have gx_5 : x_5.toInt = (oI Z o 1).toInt := iv_to ex_5
    clear ex_5
    refine lv_iload_n hx hb dX8_add_17 rfl (lv_at hl 1 rfl) ?_
    obtain ⟨q_6, hq_6⟩ := og (cq := cq) tb_4.1 (oE_a1 (n := 60) tb_4.2 (by decide))
    refine va_iast hx hb hK hP hD hS q_6 0 hq_6 rfl (vp_in_iff.mpr (by omega)) dX8_add_18 (fun H locs hP1 hD1 hS => ?_)
    obtain ⟨S_7, eS_7⟩ : ∃ zq, zq = setI Z b_4 (x_5 : Int32).toNatClampNeg x1 := ⟨_, rfl⟩
    have hP : va_P (dC, dI) vwCl (oW cq S_7) H := by rw [eS_7]; exact cP (oset tb_4.1 hq_6 hD rfl (he_a1 (n := 60) tb_4.2 (by decide)) neI) hP1
    have hD : va_D A (oW cq S_7) := by rw [eS_7]; exact cD (oset tb_4.1 hq_6 hD rfl (he_a1 (n := 60) tb_4.2 (by decide)) neI) hD1
    clear hP1 hD1
    have hIS_7 : oInv S_7 := by rw [eS_7]; exact oInv.A (k := 160) gI tb_4.2 (by decide)
    have XS_7 : oX [2160] Z S_7 := by rw [eS_7]; exact oX.I (k := 160) (key := 2160) tb_4.2 rfl (List.mem_singleton.mpr rfl)
    have X_8 : oX [801, 2160] Z S_7 := oX.st oX.rf XS_7 (by decide)
    have g_9 : (oI S_7 o 1).toInt = (oI Z o 1).toInt := by rw [eS_7, setI_oth (ty_ne to tb_4 (by decide))]
    refine lv_aload_n hx hb dX8_add_19 rfl (lv_at hl 0 rfl) ?_
    refine lv_dup hx hb dX8_add_20 rfl ?_
    have t_10 : oty S_7 o 8 := (oX.ty XS_7 to)
    obtain ⟨q_11, hq_11⟩ := og (cq := cq) t_10.1 (oE_8 t_10.2)
    refine va_get (D := (dC, dI)) (ci := 8) (v := .int (oI S_7 o 1)) (C := RX8) (T := TX8) (N := 6) hx hb hts in_wsX8_add_X8 hown hK hP q_11 hq_11 rfl 1 (by decide) (hts (.fieldLink RX8 18 "ShipOffice$Tape" "size" "I") iw_X8_add_1) (fun _ h9 => h9) rfl dX8_add_21 ?_
    refine lv_topi (fun x_12 ex_12 => ?_)
    have hx_12 : 0 ≤ x_12.toInt ∧ x_12.toInt ≤ 60 := iv_of ex_12 (oInv.iv hIS_7 t_10.2 rfl rfl)
    have gx_12 : x_12.toInt = (oI S_7 o 1).toInt := iv_to ex_12
    clear ex_12
    refine lv_iconst (v := 1) hx hb dX8_add_24 (by decide) ?_
    refine lv_iadd hx hb dX8_add_25 ?_
    refine lv_topi (fun x_13 ex_13 => ?_)
    have hx_13 : x_13.toInt = x_12.toInt + 1 := (iv_to ex_13).trans (ad_i rfl (by decide) (by omega) (by omega))
    clear ex_13
    refine va_put (D := (dC, dI)) (ci := 8) (v := .int x_13) (ty := .int) (C := RX8) (T := TX8) (N := 6) hx hb hts in_wsX8_add_X8 tyX8 tyX8_ok nmX8 hown hK hP hD hS q_11 hq_11 rfl 1 (by decide) (hts (.fieldLink RX8 18 "ShipOffice$Tape" "size" "I") iw_X8_add_1) (fun _ h9 => h9) rfl (by decide +kernel) rfl rfl (Nat.le_of_ble_eq_true rfl) dX8_add_26 (fun H locs hP1 hD1 hS => ?_)
    obtain ⟨S_14, eS_14⟩ : ∃ zq, zq = setI S_7 o 1 x_13 := ⟨_, rfl⟩
    have hP : va_P (dC, dI) vwCl (oW cq S_14) H := by rw [eS_14]; exact cP (oset t_10.1 hq_11 hD rfl (he_8_1 t_10.2) neI) hP1
    have hD : va_D A (oW cq S_14) := by rw [eS_14]; exact cD (oset t_10.1 hq_11 hD rfl (he_8_1 t_10.2) neI) hD1
    clear hP1 hD1
    have hIS_14 : oInv S_14 := by rw [eS_14]; exact oInv.I0 (k := 8) (lo := 0) (hi := 60) hIS_7 t_10.2 (by decide) rfl rfl rfl (by omega)
    have XS_14 : oX [801] S_7 S_14 := by rw [eS_14]; exact oX.I (k := 8) (key := 801) t_10.2 rfl (List.mem_singleton.mpr rfl)
    have X_15 : oX [801, 2160] Z S_14 := oX.st X_8 XS_14 (by decide)
    have g_16 : (oI S_14 o 1).toInt = x_13.toInt := by rw [eS_14, setI_same]
    exact W.vret hx hb hr (fun t ht hW => ⟨⟨S_14, rfl, ⟨hIS_14, X_15⟩, ⟨by rw [ht]; exact hP, va_K.moved hW.alike hK, hD⟩⟩, hS.F ht⟩) hS.2.2 dX8_add_29
set_option maxHeartbeats 4000000 in
set_option maxRecDepth 100000 in
theorem c_X8_emit (l : Launch) (dC : Nat → ClassId) (dI : Nat → Nat → Nat) (sz : Nat) (cq : Nat → ClassId) (Z : oS) (gI : oInv Z) (o : Nat) (to : oty Z o 8) (x1 : Int32) : Met l yX8_emit wsX8_emit ({ frames := 0, cells := 0, slots := 0, locals := 0 }) (va_Pc [.ref o, .int x1] (pcW (dC, dI) (oT cq) (oW cq Z) sz)) (va_Qv (fun (u : oS) => oInv u ∧ oX [803, 2063] Z u) (fun u t => va_P (dC, dI) vwCl (oW cq u) t.heap ∧ va_K (dC, dI) vwCl (oT cq) t ∧ va_D (va_A (oW cq Z) sz) (oW cq u)) (va_A (oW cq Z) sz)) 0 0 (va_A (oW cq Z) sz) := by
  refine Met.ofW (cc := cX8_emit) (maxL := 2) (ret := none) (by decide) rfl ?_
  intro p e s m args below meth c s₁ B hml hv
  obtain ⟨rfl, hsz, hP, hK, hD0⟩ := hv
  have hx := B.exec
  have hb := B.bytes
  have hr := B.returns
  have hts := atoms_spec (ws := wsX8_emit) B.pre
  have hown : s.vm.findClass RX8 = some m.cls := findClass_of_methodNamed B.named
  have hlocks := B.notSynchronized
  subst hsz
  have hD := hD0.self (sz := s.heap.size)
  generalize hAe : va_A (oW cq Z) s.heap.size = A at hD ⊢
  have hA : ∀ q : Nat, s.heap.size ≤ q → A q := fun q h => by rw [← hAe]; exact Or.inr h
  have hS : va_S A s.heap s.heap [] := va_S.rf
  have hP : va_P (dC, dI) vwCl (oW cq Z) s.heap := hP
  have hl := lv_entry ([.ref o, .int x1]) (n := 2) (Nat.le_of_ble_eq_true rfl)
  rw [lg_entry_eq]
  generalize (lg_sl ([.ref o, .int x1]) ++ List.replicate (2 - (lg_sl ([.ref o, .int x1])).length) Slot.unset).toArray = ls at hl ⊢
  have hl : lv_has ls 2 [(0, .ref o), (1, .int x1)] := hl
  refine lv_aload_n hx hb dX8_emit_0 rfl (lv_at hl 0 rfl) ?_
  obtain ⟨q_1, hq_1⟩ := og (cq := cq) to.1 (oE_8 to.2)
  refine va_get (D := (dC, dI)) (ci := 8) (v := .int (oI Z o 3)) (C := RX8) (T := TX8) (N := 6) hx hb hts in_wsX8_emit_X8 hown hK hP q_1 hq_1 rfl 3 (by decide) (hts (.fieldLink RX8 25 "ShipOffice$Tape" "codeSize" "I") iw_X8_emit_1) (fun _ h9 => h9) rfl dX8_emit_1 ?_
  refine lv_topi (fun x_2 ex_2 => ?_)
  have hx_2 : 0 ≤ x_2.toInt ∧ x_2.toInt ≤ 60 := iv_of ex_2 (oInv.iv gI to.2 rfl rfl)
  have gx_2 : x_2.toInt = (oI Z o 3).toInt := iv_to ex_2
  clear ex_2
  refine lv_bipush (v := 60) hx hb dX8_emit_4 (by decide) ?_
  refine lv_icmp_ge (tgt := 29) hx hb dX8_emit_6 (by decide) (fun c_3 => ?_) (fun c_3 => ?_)
  · have dc_3 := c_le (a := 60) (b := x_2.toInt) (by decide) rfl c_3
    exact W.vret hx hb hr (fun t ht hW => ⟨⟨Z, rfl, ⟨gI, oX.rf⟩, ⟨by rw [ht]; exact hP, va_K.moved hW.alike hK, hD⟩⟩, hS.F ht⟩) hS.2.2 dX8_emit_29
  · have dc_3 := c_nle (a := 60) (b := x_2.toInt) (by decide) rfl c_3
    refine lv_aload_n hx hb dX8_emit_9 rfl (lv_at hl 0 rfl) ?_
    obtain ⟨b_4, hb_4⟩ := oInv.nn (i := 2) gI to rfl
    refine va_get (D := (dC, dI)) (ci := 8) (v := .ref b_4) (C := RX8) (T := TX8) (N := 6) hx hb hts in_wsX8_emit_X8 hown hK hP q_1 hq_1 rfl 2 (by decide) (hts (.fieldLink RX8 15 "ShipOffice$Tape" "code" "[I") iw_X8_emit_2) (fun _ h9 => h9) (o_rd hb_4) dX8_emit_10 ?_
    have tb_4 : oty Z b_4 63 := oInv.rd gI to.2 hb_4 rfl rfl
    refine lv_aload_n hx hb dX8_emit_13 rfl (lv_at hl 0 rfl) ?_
    refine va_get (D := (dC, dI)) (ci := 8) (v := .int (oI Z o 3)) (C := RX8) (T := TX8) (N := 6) hx hb hts in_wsX8_emit_X8 hown hK hP q_1 hq_1 rfl 3 (by decide) (hts (.fieldLink RX8 25 "ShipOffice$Tape" "codeSize" "I") iw_X8_emit_1) (fun _ h9 => h9) rfl dX8_emit_14 ?_
    refine lv_topi (fun x_5 ex_5 => ?_)
    have hx_5 : 0 ≤ x_5.toInt ∧ x_5.toInt ≤ 60 := iv_of ex_5 (oInv.iv gI to.2 rfl rfl)
    have gx_5 : x_5.toInt = (oI Z o 3).toInt := iv_to ex_5
    clear ex_5
    refine lv_iload_n hx hb dX8_emit_17 rfl (lv_at hl 1 rfl) ?_
    obtain ⟨q_6, hq_6⟩ := og (cq := cq) tb_4.1 (oE_63 tb_4.2)
    refine va_iast hx hb hK hP hD hS q_6 0 hq_6 rfl (vp_in_iff.mpr (by omega)) dX8_emit_18 (fun H locs hP1 hD1 hS => ?_)
    obtain ⟨S_7, eS_7⟩ : ∃ zq, zq = setI Z b_4 (x_5 : Int32).toNatClampNeg x1 := ⟨_, rfl⟩
    have hP : va_P (dC, dI) vwCl (oW cq S_7) H := by rw [eS_7]; exact cP (oset tb_4.1 hq_6 hD rfl (he_63 tb_4.2) neI) hP1
    have hD : va_D A (oW cq S_7) := by rw [eS_7]; exact cD (oset tb_4.1 hq_6 hD rfl (he_63 tb_4.2) neI) hD1
    clear hP1 hD1
    have hIS_7 : oInv S_7 := by rw [eS_7]; exact oInv.A (k := 63) gI tb_4.2 (by decide)
    have XS_7 : oX [2063] Z S_7 := by rw [eS_7]; exact oX.I (k := 63) (key := 2063) tb_4.2 rfl (List.mem_singleton.mpr rfl)
    have X_8 : oX [803, 2063] Z S_7 := oX.st oX.rf XS_7 (by decide)
    have g_9 : (oI S_7 o 3).toInt = (oI Z o 3).toInt := by rw [eS_7, setI_oth (ty_ne to tb_4 (by decide))]
    refine lv_aload_n hx hb dX8_emit_19 rfl (lv_at hl 0 rfl) ?_
    refine lv_dup hx hb dX8_emit_20 rfl ?_
    have t_10 : oty S_7 o 8 := (oX.ty XS_7 to)
    obtain ⟨q_11, hq_11⟩ := og (cq := cq) t_10.1 (oE_8 t_10.2)
    refine va_get (D := (dC, dI)) (ci := 8) (v := .int (oI S_7 o 3)) (C := RX8) (T := TX8) (N := 6) hx hb hts in_wsX8_emit_X8 hown hK hP q_11 hq_11 rfl 3 (by decide) (hts (.fieldLink RX8 25 "ShipOffice$Tape" "codeSize" "I") iw_X8_emit_1) (fun _ h9 => h9) rfl dX8_emit_21 ?_
    refine lv_topi (fun x_12 ex_12 => ?_)
    have hx_12 : 0 ≤ x_12.toInt ∧ x_12.toInt ≤ 60 := iv_of ex_12 (oInv.iv hIS_7 t_10.2 rfl rfl)
    have gx_12 : x_12.toInt = (oI S_7 o 3).toInt := iv_to ex_12
    clear ex_12
    refine lv_iconst (v := 1) hx hb dX8_emit_24 (by decide) ?_
    refine lv_iadd hx hb dX8_emit_25 ?_
    refine lv_topi (fun x_13 ex_13 => ?_)
    have hx_13 : x_13.toInt = x_12.toInt + 1 := (iv_to ex_13).trans (ad_i rfl (by decide) (by omega) (by omega))
    clear ex_13
    refine va_put (D := (dC, dI)) (ci := 8) (v := .int x_13) (ty := .int) (C := RX8) (T := TX8) (N := 6) hx hb hts in_wsX8_emit_X8 tyX8 tyX8_ok nmX8 hown hK hP hD hS q_11 hq_11 rfl 3 (by decide) (hts (.fieldLink RX8 25 "ShipOffice$Tape" "codeSize" "I") iw_X8_emit_1) (fun _ h9 => h9) rfl (by decide +kernel) rfl rfl (Nat.le_of_ble_eq_true rfl) dX8_emit_26 (fun H locs hP1 hD1 hS => ?_)
    obtain ⟨S_14, eS_14⟩ : ∃ zq, zq = setI S_7 o 3 x_13 := ⟨_, rfl⟩
    have hP : va_P (dC, dI) vwCl (oW cq S_14) H := by rw [eS_14]; exact cP (oset t_10.1 hq_11 hD rfl (he_8_3 t_10.2) neI) hP1
    have hD : va_D A (oW cq S_14) := by rw [eS_14]; exact cD (oset t_10.1 hq_11 hD rfl (he_8_3 t_10.2) neI) hD1
    clear hP1 hD1
    have hIS_14 : oInv S_14 := by rw [eS_14]; exact oInv.I0 (k := 8) (lo := 0) (hi := 60) hIS_7 t_10.2 (by decide) rfl rfl rfl (by omega)
    have XS_14 : oX [803] S_7 S_14 := by rw [eS_14]; exact oX.I (k := 8) (key := 803) t_10.2 rfl (List.mem_singleton.mpr rfl)
    have X_15 : oX [803, 2063] Z S_14 := oX.st X_8 XS_14 (by decide)
    have g_16 : (oI S_14 o 3).toInt = x_13.toInt := by rw [eS_14, setI_same]
    exact W.vret hx hb hr (fun t ht hW => ⟨⟨S_14, rfl, ⟨hIS_14, X_15⟩, ⟨by rw [ht]; exact hP, va_K.moved hW.alike hK, hD⟩⟩, hS.F ht⟩) hS.2.2 dX8_emit_29
set_option maxHeartbeats 4000000 in
set_option maxRecDepth 100000 in
theorem c_X8_sees (l : Launch) (dC : Nat → ClassId) (dI : Nat → Nat → Nat) (sz : Nat) (cq : Nat → ClassId) (Z : oS) (gI : oInv Z) (o : Nat) (to : oty Z o 8) (x1 : Int32) : Met l yX8_sees wsX8_sees ({ frames := 0, cells := 0, slots := 0, locals := 0 }) (va_Pc [.ref o, .int x1] (pcW (dC, dI) (oT cq) (oW cq Z) sz)) (va_Qi (fun (r : Int32) (u : Unit) => (0 ≤ r.toInt ∧ r.toInt ≤ 1) ∧ (r = 0 ∨ (oI Z o 4).toInt < 60)) (fun _ _ => True) (va_A [] sz)) 0 0 (va_A [] sz) := by
  refine Met.ofW (cc := cX8_sees) (maxL := 2) (ret := (some .boolean)) (by decide) rfl ?_
  intro p e s m args below meth c s₁ B hml hv
  obtain ⟨rfl, hsz, hP, hK, hD0⟩ := hv
  have hx := B.exec
  have hb := B.bytes
  have hr := B.returns
  have hts := atoms_spec (ws := wsX8_sees) B.pre
  have hown : s.vm.findClass RX8 = some m.cls := findClass_of_methodNamed B.named
  have hlocks := B.notSynchronized
  subst hsz
  have hD := hD0
  generalize hAe : va_A [] s.heap.size = A at ⊢
  have hA : ∀ q : Nat, s.heap.size ≤ q → A q := fun q h => by rw [← hAe]; exact Or.inr h
  have hS : va_S A s.heap s.heap [] := va_S.rf
  have hP : va_P (dC, dI) vwCl (oW cq Z) s.heap := hP
  have hl := lv_entry ([.ref o, .int x1]) (n := 2) (Nat.le_of_ble_eq_true rfl)
  rw [lg_entry_eq]
  generalize (lg_sl ([.ref o, .int x1]) ++ List.replicate (2 - (lg_sl ([.ref o, .int x1])).length) Slot.unset).toArray = ls at hl ⊢
  have hl : lv_has ls 2 [(0, .ref o), (1, .int x1)] := hl
  refine lv_aload_n hx hb dX8_sees_0 rfl (lv_at hl 0 rfl) ?_
  obtain ⟨q_1, hq_1⟩ := og (cq := cq) to.1 (oE_8 to.2)
  refine va_get (D := (dC, dI)) (ci := 8) (v := .int (oI Z o 4)) (C := RX8) (T := TX8) (N := 6) hx hb hts in_wsX8_sees_X8 hown hK hP q_1 hq_1 rfl 4 (by decide) (hts (.fieldLink RX8 22 "ShipOffice$Tape" "at" "I") iw_X8_sees_1) (fun _ h9 => h9) rfl dX8_sees_1 ?_
  refine lv_topi (fun x_2 ex_2 => ?_)
  have hx_2 : 0 ≤ x_2.toInt ∧ x_2.toInt ≤ 60 := iv_of ex_2 (oInv.iv gI to.2 rfl rfl)
  have gx_2 : x_2.toInt = (oI Z o 4).toInt := iv_to ex_2
  clear ex_2
  refine lv_aload_n hx hb dX8_sees_4 rfl (lv_at hl 0 rfl) ?_
  refine va_get (D := (dC, dI)) (ci := 8) (v := .int (oI Z o 1)) (C := RX8) (T := TX8) (N := 6) hx hb hts in_wsX8_sees_X8 hown hK hP q_1 hq_1 rfl 1 (by decide) (hts (.fieldLink RX8 18 "ShipOffice$Tape" "size" "I") iw_X8_sees_2) (fun _ h9 => h9) rfl dX8_sees_5 ?_
  refine lv_topi (fun x_3 ex_3 => ?_)
  have hx_3 : 0 ≤ x_3.toInt ∧ x_3.toInt ≤ 60 := iv_of ex_3 (oInv.iv gI to.2 rfl rfl)
  have gx_3 : x_3.toInt = (oI Z o 1).toInt := iv_to ex_3
  clear ex_3
  refine lv_icmp_ge (tgt := 28) hx hb dX8_sees_8 (by decide) (fun c_4 => ?_) (fun c_4 => ?_)
  · have dc_4 := c_le (a := x_3.toInt) (b := x_2.toInt) rfl rfl c_4
    refine lv_iconst (v := 0) hx hb dX8_sees_28 (by decide) ?_
    exact W.zret (v := 0) hx hb hr rfl (fun t ht hW => ⟨⟨0, (), rfl, ⟨(by decide), (Or.inl rfl)⟩, trivial⟩, hS.F ht⟩) hS.2.2 dX8_sees_29
  · have dc_4 := c_nle (a := x_3.toInt) (b := x_2.toInt) rfl rfl c_4
    refine lv_aload_n hx hb dX8_sees_11 rfl (lv_at hl 0 rfl) ?_
    obtain ⟨b_5, hb_5⟩ := oInv.nn (i := 0) gI to rfl
    refine va_get (D := (dC, dI)) (ci := 8) (v := .ref b_5) (C := RX8) (T := TX8) (N := 6) hx hb hts in_wsX8_sees_X8 hown hK hP q_1 hq_1 rfl 0 (by decide) (hts (.fieldLink RX8 9 "ShipOffice$Tape" "bytes" "[I") iw_X8_sees_3) (fun _ h9 => h9) (o_rd hb_5) dX8_sees_12 ?_
    have tb_5 : oty Z b_5 160 := oInv.rd gI to.2 hb_5 rfl rfl
    refine lv_aload_n hx hb dX8_sees_15 rfl (lv_at hl 0 rfl) ?_
    refine va_get (D := (dC, dI)) (ci := 8) (v := .int (oI Z o 4)) (C := RX8) (T := TX8) (N := 6) hx hb hts in_wsX8_sees_X8 hown hK hP q_1 hq_1 rfl 4 (by decide) (hts (.fieldLink RX8 22 "ShipOffice$Tape" "at" "I") iw_X8_sees_1) (fun _ h9 => h9) rfl dX8_sees_16 ?_
    refine lv_topi (fun x_6 ex_6 => ?_)
    have hx_6 : 0 ≤ x_6.toInt ∧ x_6.toInt ≤ 60 := iv_of ex_6 (oInv.iv gI to.2 rfl rfl)
    have gx_6 : x_6.toInt = (oI Z o 4).toInt := iv_to ex_6
    clear ex_6
    obtain ⟨q_7, hq_7⟩ := og (cq := cq) tb_5.1 (oE_a1 (n := 60) tb_5.2 (by decide))
    refine va_iald hx hb hK hP q_7 0 hq_7 rfl (vp_in_iff.mpr (by omega)) dX8_sees_19 ?_
    refine lv_topi (fun x_8 ex_8 => ?_)
    clear ex_8
    refine lv_iload_n hx hb dX8_sees_20 rfl (lv_at hl 1 rfl) ?_
    refine lv_icmp_ne (tgt := 28) hx hb dX8_sees_21 (by decide) (fun c_9 => ?_) (fun c_9 => ?_)
    · have dc_9 := c_ne (a := x_8.toInt) (b := x1.toInt) rfl rfl c_9
      refine lv_iconst (v := 0) hx hb dX8_sees_28 (by decide) ?_
      exact W.zret (v := 0) hx hb hr rfl (fun t ht hW => ⟨⟨0, (), rfl, ⟨(by decide), (Or.inl rfl)⟩, trivial⟩, hS.F ht⟩) hS.2.2 dX8_sees_29
    · have dc_9 := c_eq (a := x_8.toInt) (b := x1.toInt) rfl rfl c_9
      refine lv_iconst (v := 1) hx hb dX8_sees_24 (by decide) ?_
      refine lv_goto (tgt := 29) hx hb dX8_sees_25 (by decide) ?_
      exact W.zret (v := 1) hx hb hr rfl (fun t ht hW => ⟨⟨1, (), rfl, ⟨(by decide), (Or.inr (by omega))⟩, trivial⟩, hS.F ht⟩) hS.2.2 dX8_sees_29
set_option maxHeartbeats 4000000 in
set_option maxRecDepth 100000 in
theorem c_X8_seesDigit (l : Launch) (dC : Nat → ClassId) (dI : Nat → Nat → Nat) (sz : Nat) (cq : Nat → ClassId) (Z : oS) (gI : oInv Z) (o : Nat) (to : oty Z o 8) : Met l yX8_seesDigit wsX8_seesDigit ({ frames := 0, cells := 0, slots := 0, locals := 0 }) (va_Pc [.ref o] (pcW (dC, dI) (oT cq) (oW cq Z) sz)) (va_Qi (fun (r : Int32) (u : Unit) => (0 ≤ r.toInt ∧ r.toInt ≤ 1) ∧ (r = 0 ∨ (oI Z o 4).toInt < 60)) (fun _ _ => True) (va_A [] sz)) 0 0 (va_A [] sz) := by
  refine Met.ofW (cc := cX8_seesDigit) (maxL := 1) (ret := (some .boolean)) (by decide) rfl ?_
  intro p e s m args below meth c s₁ B hml hv
  obtain ⟨rfl, hsz, hP, hK, hD0⟩ := hv
  have hx := B.exec
  have hb := B.bytes
  have hr := B.returns
  have hts := atoms_spec (ws := wsX8_seesDigit) B.pre
  have hown : s.vm.findClass RX8 = some m.cls := findClass_of_methodNamed B.named
  have hlocks := B.notSynchronized
  subst hsz
  have hD := hD0
  generalize hAe : va_A [] s.heap.size = A at ⊢
  have hA : ∀ q : Nat, s.heap.size ≤ q → A q := fun q h => by rw [← hAe]; exact Or.inr h
  have hS : va_S A s.heap s.heap [] := va_S.rf
  have hP : va_P (dC, dI) vwCl (oW cq Z) s.heap := hP
  have hl := lv_entry ([.ref o]) (n := 1) (Nat.le_of_ble_eq_true rfl)
  rw [lg_entry_eq]
  generalize (lg_sl ([.ref o]) ++ List.replicate (1 - (lg_sl ([.ref o])).length) Slot.unset).toArray = ls at hl ⊢
  have hl : lv_has ls 1 [(0, .ref o)] := hl
  refine lv_aload_n hx hb dX8_seesDigit_0 rfl (lv_at hl 0 rfl) ?_
  obtain ⟨q_1, hq_1⟩ := og (cq := cq) to.1 (oE_8 to.2)
  refine va_get (D := (dC, dI)) (ci := 8) (v := .int (oI Z o 4)) (C := RX8) (T := TX8) (N := 6) hx hb hts in_wsX8_seesDigit_X8 hown hK hP q_1 hq_1 rfl 4 (by decide) (hts (.fieldLink RX8 22 "ShipOffice$Tape" "at" "I") iw_X8_seesDigit_1) (fun _ h9 => h9) rfl dX8_seesDigit_1 ?_
  refine lv_topi (fun x_2 ex_2 => ?_)
  have hx_2 : 0 ≤ x_2.toInt ∧ x_2.toInt ≤ 60 := iv_of ex_2 (oInv.iv gI to.2 rfl rfl)
  have gx_2 : x_2.toInt = (oI Z o 4).toInt := iv_to ex_2
  clear ex_2
  refine lv_aload_n hx hb dX8_seesDigit_4 rfl (lv_at hl 0 rfl) ?_
  refine va_get (D := (dC, dI)) (ci := 8) (v := .int (oI Z o 1)) (C := RX8) (T := TX8) (N := 6) hx hb hts in_wsX8_seesDigit_X8 hown hK hP q_1 hq_1 rfl 1 (by decide) (hts (.fieldLink RX8 18 "ShipOffice$Tape" "size" "I") iw_X8_seesDigit_2) (fun _ h9 => h9) rfl dX8_seesDigit_5 ?_
  refine lv_topi (fun x_3 ex_3 => ?_)
  have hx_3 : 0 ≤ x_3.toInt ∧ x_3.toInt ≤ 60 := iv_of ex_3 (oInv.iv gI to.2 rfl rfl)
  have gx_3 : x_3.toInt = (oI Z o 1).toInt := iv_to ex_3
  clear ex_3
  refine lv_icmp_ge (tgt := 43) hx hb dX8_seesDigit_8 (by decide) (fun c_4 => ?_) (fun c_4 => ?_)
  · have dc_4 := c_le (a := x_3.toInt) (b := x_2.toInt) rfl rfl c_4
    refine lv_iconst (v := 0) hx hb dX8_seesDigit_43 (by decide) ?_
    exact W.zret (v := 0) hx hb hr rfl (fun t ht hW => ⟨⟨0, (), rfl, ⟨(by decide), (Or.inl rfl)⟩, trivial⟩, hS.F ht⟩) hS.2.2 dX8_seesDigit_44
  · have dc_4 := c_nle (a := x_3.toInt) (b := x_2.toInt) rfl rfl c_4
    refine lv_aload_n hx hb dX8_seesDigit_11 rfl (lv_at hl 0 rfl) ?_
    obtain ⟨b_5, hb_5⟩ := oInv.nn (i := 0) gI to rfl
    refine va_get (D := (dC, dI)) (ci := 8) (v := .ref b_5) (C := RX8) (T := TX8) (N := 6) hx hb hts in_wsX8_seesDigit_X8 hown hK hP q_1 hq_1 rfl 0 (by decide) (hts (.fieldLink RX8 9 "ShipOffice$Tape" "bytes" "[I") iw_X8_seesDigit_3) (fun _ h9 => h9) (o_rd hb_5) dX8_seesDigit_12 ?_
    have tb_5 : oty Z b_5 160 := oInv.rd gI to.2 hb_5 rfl rfl
    refine lv_aload_n hx hb dX8_seesDigit_15 rfl (lv_at hl 0 rfl) ?_
    refine va_get (D := (dC, dI)) (ci := 8) (v := .int (oI Z o 4)) (C := RX8) (T := TX8) (N := 6) hx hb hts in_wsX8_seesDigit_X8 hown hK hP q_1 hq_1 rfl 4 (by decide) (hts (.fieldLink RX8 22 "ShipOffice$Tape" "at" "I") iw_X8_seesDigit_1) (fun _ h9 => h9) rfl dX8_seesDigit_16 ?_
    refine lv_topi (fun x_6 ex_6 => ?_)
    have hx_6 : 0 ≤ x_6.toInt ∧ x_6.toInt ≤ 60 := iv_of ex_6 (oInv.iv gI to.2 rfl rfl)
    have gx_6 : x_6.toInt = (oI Z o 4).toInt := iv_to ex_6
    clear ex_6
    obtain ⟨q_7, hq_7⟩ := og (cq := cq) tb_5.1 (oE_a1 (n := 60) tb_5.2 (by decide))
    refine va_iald hx hb hK hP q_7 0 hq_7 rfl (vp_in_iff.mpr (by omega)) dX8_seesDigit_19 ?_
    refine lv_topi (fun x_8 ex_8 => ?_)
    clear ex_8
    refine lv_bipush (v := 48) hx hb dX8_seesDigit_20 (by decide) ?_
    refine lv_icmp_lt (tgt := 43) hx hb dX8_seesDigit_22 (by decide) (fun c_9 => ?_) (fun c_9 => ?_)
    · have dc_9 := c_lt (a := x_8.toInt) (b := 48) rfl (by decide) c_9
      refine lv_iconst (v := 0) hx hb dX8_seesDigit_43 (by decide) ?_
      exact W.zret (v := 0) hx hb hr rfl (fun t ht hW => ⟨⟨0, (), rfl, ⟨(by decide), (Or.inl rfl)⟩, trivial⟩, hS.F ht⟩) hS.2.2 dX8_seesDigit_44
    · have dc_9 := c_nlt (a := x_8.toInt) (b := 48) rfl (by decide) c_9
      refine lv_aload_n hx hb dX8_seesDigit_25 rfl (lv_at hl 0 rfl) ?_
      refine va_get (D := (dC, dI)) (ci := 8) (v := .ref b_5) (C := RX8) (T := TX8) (N := 6) hx hb hts in_wsX8_seesDigit_X8 hown hK hP q_1 hq_1 rfl 0 (by decide) (hts (.fieldLink RX8 9 "ShipOffice$Tape" "bytes" "[I") iw_X8_seesDigit_3) (fun _ h9 => h9) (o_rd hb_5) dX8_seesDigit_26 ?_
      refine lv_aload_n hx hb dX8_seesDigit_29 rfl (lv_at hl 0 rfl) ?_
      refine va_get (D := (dC, dI)) (ci := 8) (v := .int (oI Z o 4)) (C := RX8) (T := TX8) (N := 6) hx hb hts in_wsX8_seesDigit_X8 hown hK hP q_1 hq_1 rfl 4 (by decide) (hts (.fieldLink RX8 22 "ShipOffice$Tape" "at" "I") iw_X8_seesDigit_1) (fun _ h9 => h9) rfl dX8_seesDigit_30 ?_
      refine lv_topi (fun x_10 ex_10 => ?_)
      have hx_10 : 0 ≤ x_10.toInt ∧ x_10.toInt ≤ 60 := iv_of ex_10 (oInv.iv gI to.2 rfl rfl)
      have gx_10 : x_10.toInt = (oI Z o 4).toInt := iv_to ex_10
      clear ex_10
      refine va_iald hx hb hK hP q_7 0 hq_7 rfl (vp_in_iff.mpr (by omega)) dX8_seesDigit_33 ?_
      refine lv_topi (fun x_11 ex_11 => ?_)
      clear ex_11
      refine lv_bipush (v := 57) hx hb dX8_seesDigit_34 (by decide) ?_
      refine lv_icmp_gt (tgt := 43) hx hb dX8_seesDigit_36 (by decide) (fun c_12 => ?_) (fun c_12 => ?_)
      · have dc_12 := c_lt (a := 57) (b := x_11.toInt) (by decide) rfl c_12
        refine lv_iconst (v := 0) hx hb dX8_seesDigit_43 (by decide) ?_
        exact W.zret (v := 0) hx hb hr rfl (fun t ht hW => ⟨⟨0, (), rfl, ⟨(by decide), (Or.inl rfl)⟩, trivial⟩, hS.F ht⟩) hS.2.2 dX8_seesDigit_44
      · have dc_12 := c_nlt (a := 57) (b := x_11.toInt) (by decide) rfl c_12
        refine lv_iconst (v := 1) hx hb dX8_seesDigit_39 (by decide) ?_
        refine lv_goto (tgt := 44) hx hb dX8_seesDigit_40 (by decide) ?_
        exact W.zret (v := 1) hx hb hr rfl (fun t ht hW => ⟨⟨1, (), rfl, ⟨(by decide), (Or.inr (by omega))⟩, trivial⟩, hS.F ht⟩) hS.2.2 dX8_seesDigit_44
set_option maxHeartbeats 4000000 in
set_option maxRecDepth 100000 in
theorem c_X8_letterHere (l : Launch) (dC : Nat → ClassId) (dI : Nat → Nat → Nat) (sz : Nat) (tL tS tG : Nat) (cq : Nat → ClassId) (Z : oS) (gI : oInv Z) (o : Nat) (to : oty Z o 8) : Met l yX8_letterHere wsX8_letterHere ({ frames := 1, cells := 0, slots := 0, locals := 21 }) (va_Pc [.ref o] (pcO (dC, dI) (oT cq) (oW cq Z) sz tL tS tG [])) (va_Qi (fun (r : Int32) (u : Unit) => (-1 ≤ r.toInt ∧ r.toInt ≤ 7) ∧ (r.toInt = -1 ∨ (oI Z o 4).toInt < 60)) (fun _ _ => True) (va_A [] sz)) 0 0 (va_A [] sz) := by
  refine Met.ofW (cc := cX8_letterHere) (maxL := 2) (ret := (some .int)) (by decide) rfl ?_
  intro p e s m args below meth c s₁ B hml hv
  obtain ⟨rfl, ⟨hsz, hP, hK, hD0⟩, hZ⟩ := hv
  have hx := B.exec
  have hb := B.bytes
  have hr := B.returns
  have hts := atoms_spec (ws := wsX8_letterHere) B.pre
  have hown : s.vm.findClass RX8 = some m.cls := findClass_of_methodNamed B.named
  have hlocks := B.notSynchronized
  subst hsz
  have hD := hD0
  generalize hAe : va_A [] s.heap.size = A at hZ ⊢
  have hA : ∀ q : Nat, s.heap.size ≤ q → A q := fun q h => by rw [← hAe]; exact Or.inr h
  have hS : va_S A s.heap s.heap [] := va_S.rf
  have hP : va_P (dC, dI) vwCl (oW cq Z) s.heap := hP
  have hl := lv_entry ([.ref o]) (n := 2) (Nat.le_of_ble_eq_true rfl)
  rw [lg_entry_eq]
  generalize (lg_sl ([.ref o]) ++ List.replicate (2 - (lg_sl ([.ref o])).length) Slot.unset).toArray = ls at hl ⊢
  have hl : lv_has ls 2 [(0, .ref o)] := hl
  refine lv_iconst (v := 0) hx hb dX8_letterHere_0 (by decide) ?_
  refine lv_istore_n (lv' := [(1, .int 0), (0, .ref o)]) hx hb dX8_letterHere_1 rfl hl (by decide) rfl (fun ls hl => ?_)
  have cut_1 : ∀ (n : Nat) (y_2 : Int32) (H : Heap) (locs : List Loc) (ls : Array Slot), 8 - y_2.toInt ≤ (n : Int) → (0 ≤ y_2.toInt ∧ y_2.toInt ≤ 8) → va_P (dC, dI) vwCl (oW cq Z) H → va_S A s.heap H locs → lv_has ls 2 [(1, .int y_2), (0, .ref o)] → W p l e (headSpec wsX8_letterHere { frames := 1, cells := 0, slots := 0, locals := 21 }).room s m #[Value.ref o] below meth c H locs 0 0 (MQ below (va_Qi (fun (r : Int32) (u : Unit) => (-1 ≤ r.toInt ∧ r.toInt ≤ 7) ∧ (r.toInt = -1 ∨ (oI Z o 4).toInt < 60)) (fun _ _ => True) A) #[Value.ref o] s 0 0 A) (F0 m 2 ls []) := by
    intro n
    induction n using Nat.strongRecOn with
    | ind n ih =>
      intro y_2 H locs ls hm hy_2 hP hS hl
      refine lv_iload_n hx hb dX8_letterHere_2 rfl (lv_at hl 0 rfl) ?_
      refine va_getsN hx hb hZ.1.1 hS hown (va_Nw.use rfl hZ.1.2.2.2.2.2.1) (fun _ h9 => h9) dX8_letterHere_3 ?_
      refine va_tlen (v := 8) hx hb hZ.1.2.1 hS rfl dX8_letterHere_6 ?_
      refine lv_icmp_ge (tgt := 30) hx hb dX8_letterHere_7 (by decide) (fun c_3 => ?_) (fun c_3 => ?_)
      · have dc_3 := c_le (a := 8) (b := y_2.toInt) (by decide) rfl c_3
        refine lv_iconst (v := (-1)) hx hb dX8_letterHere_30 (by decide) ?_
        exact W.iret (v := (-1)) hx hb hr (fun t ht hW => ⟨⟨(-1), (), rfl, ⟨(by decide), (Or.inl (by decide))⟩, trivial⟩, hS.F ht⟩) hS.2.2 dX8_letterHere_31
      · have dc_3 := c_nle (a := 8) (b := y_2.toInt) (by decide) rfl c_3
        refine lv_aload_n hx hb dX8_letterHere_10 rfl (lv_at hl 1 rfl) ?_
        refine va_getsN hx hb hZ.1.1 hS hown (va_Nw.use rfl hZ.1.2.2.2.2.2.1) (fun _ h9 => h9) dX8_letterHere_11 ?_
        refine lv_iload_n hx hb dX8_letterHere_14 rfl (lv_at hl 0 rfl) ?_
        refine va_tc hx hb hZ.1.2.1 hS (vp_in_iff.mpr (by omega)) (v := .int (([119, 114, 97, 100, 110, 115, 108, 120] : List Int32).getD (y_2 : Int32).toNatClampNeg 0)) rfl dX8_letterHere_15 ?_
        refine lv_topi (fun x_4 ex_4 => ?_)
        clear ex_4
        have hFc : ∀ q, va_A [] H.size q → A q := pu_free hS hA
        obtain ⟨q_5, hq_5⟩ := og (cq := cq) to.1 (oE_8 to.2)
        refine va_calli (va_runV (As := [.int x_4]) (rest := []) ⟨hx, hb, hml, hown, hts⟩ (c_X8_sees l dC dI H.size cq Z gI o to x_4) (cwV 1 hts gX8_letterHere_X8_sees rfl rfl rfl (by decide +kernel) ⟨(Nat.le_of_ble_eq_true rfl), (Nat.le_of_ble_eq_true rfl)⟩) (pr_V (r := (RX8, TX8, 6)) hP hK hD q_5 8 rfl hq_5) rfl rfl hl.1 rfl (lv_room (Nat.le_of_ble_eq_true rfl)) dX8_letterHere_16 ⟨(Nat.le_of_ble_eq_true rfl), (Nat.le_of_ble_eq_true rfl)⟩) hS (fun q _ h => hFc q h) hFc (fun r_7 u t H locs ht hvm w_6 hB hz1 hk1 hS => ?_)
        have hP := pu_keep hP hk1
        clear hk1 hz1 hvm hB ht hFc
        obtain ⟨hb_8, hx_9⟩ := w_6
        refine lv_if_eq (tgt := 24) hx hb dX8_letterHere_19 (by decide) (fun c_10 => ?_) (fun c_10 => ?_)
        · have dc_10 := c_eq (a := r_7.toInt) (b := 0) rfl (by decide) c_10
          obtain ⟨x_11, ex_11⟩ : ∃ zq : Int32, y_2 + 1 = zq := ⟨_, rfl⟩
          have hx_11 : x_11.toInt = y_2.toInt + 1 := (iv_to ex_11).symm.trans (ad_i rfl (by decide) (by omega) (by omega))
          refine lv_iinc (v := x_11) (lv' := [(1, .int x_11), (0, .ref o)]) hx hb dX8_letterHere_24 hl (k := 0) rfl ex_11 (by decide) rfl (fun ls hl => ?_)
          clear ex_11
          refine lv_goto (tgt := 2) hx hb dX8_letterHere_27 (by decide) ?_
          exact ih (n - 1) (by omega) x_11 _ _ ls (by omega) (by omega) hP hS (lv_sub hl [0, 1] rfl)
        · have dc_10 := c_ne (a := r_7.toInt) (b := 0) rfl (by decide) c_10
          have hi_12 := Or.resolve_left hx_9 c_10
          refine lv_iload_n hx hb dX8_letterHere_22 rfl (lv_at hl 0 rfl) ?_
          exact W.iret (v := y_2) hx hb hr (fun t ht hW => ⟨⟨y_2, (), rfl, ⟨(by omega), (Or.inr (by omega))⟩, trivial⟩, hS.F ht⟩) hS.2.2 dX8_letterHere_23
  have kc_13 : (0 : Int32).toInt = 0 := by decide
  exact cut_1 9 0 _ _ ls (by omega) (by decide) hP hS (lv_sub hl [0, 1] rfl)
set_option maxHeartbeats 4000000 in
set_option maxRecDepth 100000 in
theorem c_X8_emitSign (l : Launch) (dC : Nat → ClassId) (dI : Nat → Nat → Nat) (sz : Nat) (tL tS tG : Nat) (cq : Nat → ClassId) (Z : oS) (gI : oInv Z) (o : Nat) (to : oty Z o 8) (x1 : Int32) : Met l yX8_emitSign wsX8_emitSign ({ frames := 1, cells := 0, slots := 0, locals := 21 }) (va_Pc [.ref o, .int x1] (pcO (dC, dI) (oT cq) (oW cq Z) sz tL tS tG (oW cq Z))) (va_Qv (fun (u : oS) => oInv u ∧ oX [803, 2063] Z u) (fun u t => va_P (dC, dI) vwCl (oW cq u) t.heap ∧ va_K (dC, dI) vwCl (oT cq) t ∧ va_D (va_A (oW cq Z) sz) (oW cq u)) (va_A (oW cq Z) sz)) 0 0 (va_A (oW cq Z) sz) := by
  refine Met.ofW (cc := cX8_emitSign) (maxL := 3) (ret := none) (by decide) rfl ?_
  intro p e s m args below meth c s₁ B hml hv
  obtain ⟨rfl, ⟨hsz, hP, hK, hD0⟩, hZ⟩ := hv
  have hx := B.exec
  have hb := B.bytes
  have hr := B.returns
  have hts := atoms_spec (ws := wsX8_emitSign) B.pre
  have hown : s.vm.findClass RX8 = some m.cls := findClass_of_methodNamed B.named
  have hlocks := B.notSynchronized
  subst hsz
  have hD := hD0.self (sz := s.heap.size)
  generalize hAe : va_A (oW cq Z) s.heap.size = A at hD hZ ⊢
  have hA : ∀ q : Nat, s.heap.size ≤ q → A q := fun q h => by rw [← hAe]; exact Or.inr h
  have hS : va_S A s.heap s.heap [] := va_S.rf
  have hP : va_P (dC, dI) vwCl (oW cq Z) s.heap := hP
  have hl := lv_entry ([.ref o, .int x1]) (n := 3) (Nat.le_of_ble_eq_true rfl)
  rw [lg_entry_eq]
  generalize (lg_sl ([.ref o, .int x1]) ++ List.replicate (3 - (lg_sl ([.ref o, .int x1])).length) Slot.unset).toArray = ls at hl ⊢
  have hl : lv_has ls 3 [(0, .ref o), (1, .int x1)] := hl
  refine lv_iconst (v := 0) hx hb dX8_emitSign_0 (by decide) ?_
  refine lv_istore_n (lv' := [(2, .int 0), (0, .ref o), (1, .int x1)]) hx hb dX8_emitSign_1 rfl hl (by decide) rfl (fun ls hl => ?_)
  have cut_1 : ∀ (n : Nat) (y_2 : Int32) (S_3 : oS) (H : Heap) (locs : List Loc) (ls : Array Slot), 7 - y_2.toInt ≤ (n : Int) → (0 ≤ y_2.toInt ∧ y_2.toInt ≤ 7) → oInv S_3 → oX [803, 2063] Z S_3 → va_P (dC, dI) vwCl (oW cq S_3) H → va_D A (oW cq S_3) → va_S A s.heap H locs → lv_has ls 3 [(2, .int y_2), (0, .ref o), (1, .int x1)] → W p l e (headSpec wsX8_emitSign { frames := 1, cells := 0, slots := 0, locals := 21 }).room s m #[Value.ref o, Value.int x1] below meth c H locs 0 0 (MQ below (va_Qv (fun (u : oS) => oInv u ∧ oX [803, 2063] Z u) (fun u t => va_P (dC, dI) vwCl (oW cq u) t.heap ∧ va_K (dC, dI) vwCl (oT cq) t ∧ va_D A (oW cq u)) A) #[Value.ref o, Value.int x1] s 0 0 A) (F0 m 2 ls []) := by
    intro n
    induction n using Nat.strongRecOn with
    | ind n ih =>
      intro y_2 S_3 H locs ls hm hy_2 hIS_3 XS_3 hP hD hS hl
      have YS_3 : oX [803, 2063] Z S_3 := oX.st oX.rf XS_3 (fun _ q => q)
      refine lv_iload_n hx hb dX8_emitSign_2 rfl (lv_at hl 0 rfl) ?_
      refine va_gets hx hb hZ.2.1 hS hown (hts (.fieldLink RX8 71 "ShipOffice$Act" "SIGNS" "[C") iw_X8_emitSign_1) (fun _ h9 => h9) dX8_emitSign_3 ?_
      refine va_tlen (v := 7) hx hb hZ.2.2.1 hS rfl dX8_emitSign_6 ?_
      refine lv_icmp_ge (tgt := 33) hx hb dX8_emitSign_7 (by decide) (fun c_4 => ?_) (fun c_4 => ?_)
      · have dc_4 := c_le (a := 7) (b := y_2.toInt) (by decide) rfl c_4
        exact W.vret hx hb hr (fun t ht hW => ⟨⟨S_3, rfl, ⟨hIS_3, YS_3⟩, ⟨by rw [ht]; exact hP, va_K.moved hW.alike hK, hD⟩⟩, hS.F ht⟩) hS.2.2 dX8_emitSign_33
      · have dc_4 := c_nle (a := 7) (b := y_2.toInt) (by decide) rfl c_4
        refine va_gets hx hb hZ.2.1 hS hown (hts (.fieldLink RX8 71 "ShipOffice$Act" "SIGNS" "[C") iw_X8_emitSign_1) (fun _ h9 => h9) dX8_emitSign_10 ?_
        refine lv_iload_n hx hb dX8_emitSign_13 rfl (lv_at hl 0 rfl) ?_
        refine va_tc hx hb hZ.2.2.1 hS (vp_in_iff.mpr (by omega)) (v := .int (([43, 45, 42, 47, 60, 61, 62] : List Int32).getD (y_2 : Int32).toNatClampNeg 0)) rfl dX8_emitSign_14 ?_
        refine lv_topi (fun x_5 ex_5 => ?_)
        clear ex_5
        refine lv_iload_n hx hb dX8_emitSign_15 rfl (lv_at hl 2 rfl) ?_
        refine lv_icmp_ne (tgt := 27) hx hb dX8_emitSign_16 (by decide) (fun c_6 => ?_) (fun c_6 => ?_)
        · have dc_6 := c_ne (a := x_5.toInt) (b := x1.toInt) rfl rfl c_6
          obtain ⟨x_7, ex_7⟩ : ∃ zq : Int32, y_2 + 1 = zq := ⟨_, rfl⟩
          have hx_7 : x_7.toInt = y_2.toInt + 1 := (iv_to ex_7).symm.trans (ad_i rfl (by decide) (by omega) (by omega))
          refine lv_iinc (v := x_7) (lv' := [(2, .int x_7), (0, .ref o), (1, .int x1)]) hx hb dX8_emitSign_27 hl (k := 0) rfl ex_7 (by decide) rfl (fun ls hl => ?_)
          clear ex_7
          refine lv_goto (tgt := 2) hx hb dX8_emitSign_30 (by decide) ?_
          exact ih (n - 1) (by omega) x_7 S_3 _ _ ls (by omega) (by omega) hIS_3 (oX.st oX.rf XS_3 (by decide)) hP hD hS (lv_sub hl [0, 1, 2] rfl)
        · have dc_6 := c_eq (a := x_5.toInt) (b := x1.toInt) rfl rfl c_6
          refine lv_aload_n hx hb dX8_emitSign_19 rfl (lv_at hl 1 rfl) ?_
          refine lv_bipush (v := (-11)) hx hb dX8_emitSign_20 (by decide) ?_
          refine lv_iload_n hx hb dX8_emitSign_22 rfl (lv_at hl 0 rfl) ?_
          refine lv_isub hx hb dX8_emitSign_23 ?_
          refine lv_topi (fun x_8 ex_8 => ?_)
          have hx_8 : x_8.toInt = (-11) - y_2.toInt := (iv_to ex_8).trans (sb_i (by decide) rfl (by omega) (by omega))
          clear ex_8
          have t_9 : oty S_3 o 8 := (oX.ty XS_3 to)
          have hFc := o_free hD hS hA
          obtain ⟨q_10, hq_10⟩ := og (cq := cq) t_9.1 (oE_8 t_9.2)
          refine va_callv (va_runV (As := [.int x_8]) (rest := []) ⟨hx, hb, hml, hown, hts⟩ (c_X8_emit l dC dI H.size cq S_3 hIS_3 o t_9 x_8) (cwV 1 hts gX8_emitSign_X8_emit rfl rfl rfl (by decide +kernel) ⟨(Nat.le_of_ble_eq_true rfl), (Nat.le_of_ble_eq_true rfl)⟩) (pr_V (r := (RX8, TX8, 6)) hP hK hD q_10 8 rfl hq_10) rfl rfl hl.1 rfl (lv_room (Nat.le_of_ble_eq_true rfl)) dX8_emitSign_24 ⟨(Nat.le_of_ble_eq_true rfl), (Nat.le_of_ble_eq_true rfl)⟩) hS (fun q _ h => hFc q h) hFc (fun u t H locs ht hvm w_11 hB hz1 hk1 hS => ?_)
          obtain ⟨S_13, rfl⟩ : ∃ z, z = u := ⟨_, rfl⟩
          obtain ⟨hP1, hK1, hD1⟩ := hB
          rw [ht] at hP1
          have hP : va_P (dC, dI) vwCl (oW cq S_13) H := hP1
          have hD : va_D A (oW cq S_13) := hD1.weaken (fun _ _ _ h => hFc _ h)
          clear hP1 hK1 hD1 hk1 hz1 hvm ht hFc
          obtain ⟨hIS_13, XS_13⟩ := w_11
          have X_14 : oX [803, 2063] Z S_13 := oX.st YS_3 XS_13 (by decide)
          obtain ⟨x_15, ex_15⟩ : ∃ zq : Int32, y_2 + 1 = zq := ⟨_, rfl⟩
          have hx_15 : x_15.toInt = y_2.toInt + 1 := (iv_to ex_15).symm.trans (ad_i rfl (by decide) (by omega) (by omega))
          refine lv_iinc (v := x_15) (lv' := [(2, .int x_15), (0, .ref o), (1, .int x1)]) hx hb dX8_emitSign_27 hl (k := 0) rfl ex_15 (by decide) rfl (fun ls hl => ?_)
          clear ex_15
          refine lv_goto (tgt := 2) hx hb dX8_emitSign_30 (by decide) ?_
          exact ih (n - 1) (by omega) x_15 S_13 _ _ ls (by omega) (by omega) hIS_13 (oX.st (oX.st oX.rf XS_3 (by decide)) XS_13 (by decide)) hP hD hS (lv_sub hl [0, 1, 2] rfl)
  have kc_16 : (0 : Int32).toInt = 0 := by decide
  exact cut_1 8 0 Z _ _ ls (by omega) (by decide) gI oX.rf hP hD hS (lv_sub hl [0, 1, 2] rfl)
set_option maxHeartbeats 4000000 in
set_option maxRecDepth 100000 in
theorem c_X8_parseNumber (l : Launch) (dC : Nat → ClassId) (dI : Nat → Nat → Nat) (sz : Nat) (cq : Nat → ClassId) (Z : oS) (gI : oInv Z) (o : Nat) (to : oty Z o 8) : Met l yX8_parseNumber wsX8_parseNumber ({ frames := 1, cells := 0, slots := 0, locals := 21 }) (va_Pc [.ref o] (pcW (dC, dI) (oT cq) (oW cq Z) sz)) (va_Qv (fun (u : oS) => oInv u ∧ oX [803, 804, 2063] Z u) (fun u t => va_P (dC, dI) vwCl (oW cq u) t.heap ∧ va_K (dC, dI) vwCl (oT cq) t ∧ va_D (va_A (oW cq Z) sz) (oW cq u)) (va_A (oW cq Z) sz)) 0 0 (va_A (oW cq Z) sz) := by
  refine Met.ofW (cc := cX8_parseNumber) (maxL := 3) (ret := none) (by decide) rfl ?_
  intro p e s m args below meth c s₁ B hml hv
  obtain ⟨rfl, hsz, hP, hK, hD0⟩ := hv
  have hx := B.exec
  have hb := B.bytes
  have hr := B.returns
  have hts := atoms_spec (ws := wsX8_parseNumber) B.pre
  have hown : s.vm.findClass RX8 = some m.cls := findClass_of_methodNamed B.named
  have hlocks := B.notSynchronized
  subst hsz
  have hD := hD0.self (sz := s.heap.size)
  generalize hAe : va_A (oW cq Z) s.heap.size = A at hD ⊢
  have hA : ∀ q : Nat, s.heap.size ≤ q → A q := fun q h => by rw [← hAe]; exact Or.inr h
  have hS : va_S A s.heap s.heap [] := va_S.rf
  have hP : va_P (dC, dI) vwCl (oW cq Z) s.heap := hP
  have hl := lv_entry ([.ref o]) (n := 3) (Nat.le_of_ble_eq_true rfl)
  rw [lg_entry_eq]
  generalize (lg_sl ([.ref o]) ++ List.replicate (3 - (lg_sl ([.ref o])).length) Slot.unset).toArray = ls at hl ⊢
  have hl : lv_has ls 3 [(0, .ref o)] := hl
  refine lv_iconst (v := 0) hx hb dX8_parseNumber_0 (by decide) ?_
  refine lv_istore_n (lv' := [(1, .int 0), (0, .ref o)]) hx hb dX8_parseNumber_1 rfl hl (by decide) rfl (fun ls hl => ?_)
  refine lv_iconst (v := 0) hx hb dX8_parseNumber_2 (by decide) ?_
  refine lv_istore_n (lv' := [(2, .int 0), (1, .int 0), (0, .ref o)]) hx hb dX8_parseNumber_3 rfl hl (by decide) rfl (fun ls hl => ?_)
  have cut_1 : ∀ (n : Nat) (y_2 : Int32) (y_3 : Int32) (S_4 : oS) (H : Heap) (locs : List Loc) (ls : Array Slot), 5 - y_2.toInt ≤ (n : Int) → (0 ≤ y_2.toInt ∧ y_2.toInt ≤ 5) → oInv S_4 → oX [803, 804, 2063] Z S_4 → va_P (dC, dI) vwCl (oW cq S_4) H → va_D A (oW cq S_4) → va_S A s.heap H locs → lv_has ls 3 [(2, .int y_2), (1, .int y_3), (0, .ref o)] → W p l e (headSpec wsX8_parseNumber { frames := 1, cells := 0, slots := 0, locals := 21 }).room s m #[Value.ref o] below meth c H locs 0 0 (MQ below (va_Qv (fun (u : oS) => oInv u ∧ oX [803, 804, 2063] Z u) (fun u t => va_P (dC, dI) vwCl (oW cq u) t.heap ∧ va_K (dC, dI) vwCl (oT cq) t ∧ va_D A (oW cq u)) A) #[Value.ref o] s 0 0 A) (F0 m 4 ls []) := by
    intro n
    induction n using Nat.strongRecOn with
    | ind n ih =>
      intro y_2 y_3 S_4 H locs ls hm hy_2 hIS_4 XS_4 hP hD hS hl
      have YS_4 : oX [803, 804, 2063] Z S_4 := oX.st oX.rf XS_4 (fun _ q => q)
      refine lv_iload_n hx hb dX8_parseNumber_4 rfl (lv_at hl 0 rfl) ?_
      refine lv_iconst (v := 5) hx hb dX8_parseNumber_5 (by decide) ?_
      refine lv_icmp_ge (tgt := 50) hx hb dX8_parseNumber_6 (by decide) (fun c_5 => ?_) (fun c_5 => ?_)
      · have dc_5 := c_le (a := 5) (b := y_2.toInt) (by decide) rfl c_5
        refine lv_aload_n hx hb dX8_parseNumber_50 rfl (lv_at hl 2 rfl) ?_
        refine lv_iload_n hx hb dX8_parseNumber_51 rfl (lv_at hl 1 rfl) ?_
        have t_6 : oty S_4 o 8 := (oX.ty XS_4 to)
        have hFc := o_free hD hS hA
        obtain ⟨q_7, hq_7⟩ := og (cq := cq) t_6.1 (oE_8 t_6.2)
        refine va_callv (va_runV (As := [.int y_3]) (rest := []) ⟨hx, hb, hml, hown, hts⟩ (c_X8_emit l dC dI H.size cq S_4 hIS_4 o t_6 y_3) (cwV 1 hts gX8_parseNumber_X8_emit rfl rfl rfl (by decide +kernel) ⟨(Nat.le_of_ble_eq_true rfl), (Nat.le_of_ble_eq_true rfl)⟩) (pr_V (r := (RX8, TX8, 6)) hP hK hD q_7 8 rfl hq_7) rfl rfl hl.1 rfl (lv_room (Nat.le_of_ble_eq_true rfl)) dX8_parseNumber_52 ⟨(Nat.le_of_ble_eq_true rfl), (Nat.le_of_ble_eq_true rfl)⟩) hS (fun q _ h => hFc q h) hFc (fun u t H locs ht hvm w_8 hB hz1 hk1 hS => ?_)
        obtain ⟨S_10, rfl⟩ : ∃ z, z = u := ⟨_, rfl⟩
        obtain ⟨hP1, hK1, hD1⟩ := hB
        rw [ht] at hP1
        have hP : va_P (dC, dI) vwCl (oW cq S_10) H := hP1
        have hD : va_D A (oW cq S_10) := hD1.weaken (fun _ _ _ h => hFc _ h)
        clear hP1 hK1 hD1 hk1 hz1 hvm ht hFc
        obtain ⟨hIS_10, XS_10⟩ := w_8
        have X_11 : oX [803, 804, 2063] Z S_10 := oX.st YS_4 XS_10 (by decide)
        exact W.vret hx hb hr (fun t ht hW => ⟨⟨S_10, rfl, ⟨hIS_10, X_11⟩, ⟨by rw [ht]; exact hP, va_K.moved hW.alike hK, hD⟩⟩, hS.F ht⟩) hS.2.2 dX8_parseNumber_55
      · have dc_5 := c_nle (a := 5) (b := y_2.toInt) (by decide) rfl c_5
        refine lv_aload_n hx hb dX8_parseNumber_9 rfl (lv_at hl 2 rfl) ?_
        have t_12 : oty S_4 o 8 := (oX.ty XS_4 to)
        have hFc : ∀ q, va_A [] H.size q → A q := pu_free hS hA
        obtain ⟨q_13, hq_13⟩ := og (cq := cq) t_12.1 (oE_8 t_12.2)
        refine va_calli (va_runV (As := []) (rest := []) ⟨hx, hb, hml, hown, hts⟩ (c_X8_seesDigit l dC dI H.size cq S_4 hIS_4 o t_12) (cwV 0 hts gX8_parseNumber_X8_seesDigit rfl rfl rfl (by decide +kernel) ⟨(Nat.le_of_ble_eq_true rfl), (Nat.le_of_ble_eq_true rfl)⟩) (pr_V (r := (RX8, TX8, 6)) hP hK hD q_13 8 rfl hq_13) rfl rfl hl.1 rfl (lv_room (Nat.le_of_ble_eq_true rfl)) dX8_parseNumber_10 ⟨(Nat.le_of_ble_eq_true rfl), (Nat.le_of_ble_eq_true rfl)⟩) hS (fun q _ h => hFc q h) hFc (fun r_15 u t H locs ht hvm w_14 hB hz1 hk1 hS => ?_)
        have hP := pu_keep hP hk1
        clear hk1 hz1 hvm hB ht hFc
        obtain ⟨hb_16, hx_17⟩ := w_14
        refine lv_if_eq (tgt := 50) hx hb dX8_parseNumber_13 (by decide) (fun c_18 => ?_) (fun c_18 => ?_)
        · have dc_18 := c_eq (a := r_15.toInt) (b := 0) rfl (by decide) c_18
          refine lv_aload_n hx hb dX8_parseNumber_50 rfl (lv_at hl 2 rfl) ?_
          refine lv_iload_n hx hb dX8_parseNumber_51 rfl (lv_at hl 1 rfl) ?_
          have hFc := o_free hD hS hA
          refine va_callv (va_runV (As := [.int y_3]) (rest := []) ⟨hx, hb, hml, hown, hts⟩ (c_X8_emit l dC dI H.size cq S_4 hIS_4 o t_12 y_3) (cwV 1 hts gX8_parseNumber_X8_emit rfl rfl rfl (by decide +kernel) ⟨(Nat.le_of_ble_eq_true rfl), (Nat.le_of_ble_eq_true rfl)⟩) (pr_V (r := (RX8, TX8, 6)) hP hK hD q_13 8 rfl hq_13) rfl rfl hl.1 rfl (lv_room (Nat.le_of_ble_eq_true rfl)) dX8_parseNumber_52 ⟨(Nat.le_of_ble_eq_true rfl), (Nat.le_of_ble_eq_true rfl)⟩) hS (fun q _ h => hFc q h) hFc (fun u t H locs ht hvm w_19 hB hz1 hk1 hS => ?_)
          obtain ⟨S_21, rfl⟩ : ∃ z, z = u := ⟨_, rfl⟩
          obtain ⟨hP1, hK1, hD1⟩ := hB
          rw [ht] at hP1
          have hP : va_P (dC, dI) vwCl (oW cq S_21) H := hP1
          have hD : va_D A (oW cq S_21) := hD1.weaken (fun _ _ _ h => hFc _ h)
          clear hP1 hK1 hD1 hk1 hz1 hvm ht hFc
          obtain ⟨hIS_21, XS_21⟩ := w_19
          have X_22 : oX [803, 804, 2063] Z S_21 := oX.st YS_4 XS_21 (by decide)
          exact W.vret hx hb hr (fun t ht hW => ⟨⟨S_21, rfl, ⟨hIS_21, X_22⟩, ⟨by rw [ht]; exact hP, va_K.moved hW.alike hK, hD⟩⟩, hS.F ht⟩) hS.2.2 dX8_parseNumber_55
        · have dc_18 := c_ne (a := r_15.toInt) (b := 0) rfl (by decide) c_18
          have hi_23 := Or.resolve_left hx_17 c_18
          refine lv_iload_n hx hb dX8_parseNumber_16 rfl (lv_at hl 1 rfl) ?_
          refine lv_bipush (v := 10) hx hb dX8_parseNumber_17 (by decide) ?_
          refine lv_imul hx hb dX8_parseNumber_19 ?_
          refine lv_topi (fun x_24 ex_24 => ?_)
          clear ex_24
          refine lv_aload_n hx hb dX8_parseNumber_20 rfl (lv_at hl 2 rfl) ?_
          obtain ⟨b_25, hb_25⟩ := oInv.nn (i := 0) hIS_4 t_12 rfl
          refine va_get (D := (dC, dI)) (ci := 8) (v := .ref b_25) (C := RX8) (T := TX8) (N := 6) hx hb hts in_wsX8_parseNumber_X8 hown hK hP q_13 hq_13 rfl 0 (by decide) (hts (.fieldLink RX8 9 "ShipOffice$Tape" "bytes" "[I") iw_X8_parseNumber_1) (fun _ h9 => h9) (o_rd hb_25) dX8_parseNumber_21 ?_
          have tb_25 : oty S_4 b_25 160 := oInv.rd hIS_4 t_12.2 hb_25 rfl rfl
          refine lv_aload_n hx hb dX8_parseNumber_24 rfl (lv_at hl 2 rfl) ?_
          refine va_get (D := (dC, dI)) (ci := 8) (v := .int (oI S_4 o 4)) (C := RX8) (T := TX8) (N := 6) hx hb hts in_wsX8_parseNumber_X8 hown hK hP q_13 hq_13 rfl 4 (by decide) (hts (.fieldLink RX8 22 "ShipOffice$Tape" "at" "I") iw_X8_parseNumber_2) (fun _ h9 => h9) rfl dX8_parseNumber_25 ?_
          refine lv_topi (fun x_26 ex_26 => ?_)
          have hx_26 : 0 ≤ x_26.toInt ∧ x_26.toInt ≤ 60 := iv_of ex_26 (oInv.iv hIS_4 t_12.2 rfl rfl)
          have gx_26 : x_26.toInt = (oI S_4 o 4).toInt := iv_to ex_26
          clear ex_26
          obtain ⟨q_27, hq_27⟩ := og (cq := cq) tb_25.1 (oE_a1 (n := 60) tb_25.2 (by decide))
          refine va_iald hx hb hK hP q_27 0 hq_27 rfl (vp_in_iff.mpr (by omega)) dX8_parseNumber_28 ?_
          refine lv_topi (fun x_28 ex_28 => ?_)
          clear ex_28
          refine lv_iadd hx hb dX8_parseNumber_29 ?_
          refine lv_topi (fun x_29 ex_29 => ?_)
          clear ex_29
          refine lv_bipush (v := 48) hx hb dX8_parseNumber_30 (by decide) ?_
          refine lv_isub hx hb dX8_parseNumber_32 ?_
          refine lv_topi (fun x_30 ex_30 => ?_)
          clear ex_30
          refine lv_istore_n (lv' := [(1, .int x_30), (2, .int y_2), (0, .ref o)]) hx hb dX8_parseNumber_33 rfl hl (by decide) rfl (fun ls hl => ?_)
          refine lv_aload_n hx hb dX8_parseNumber_34 rfl (lv_at hl 2 rfl) ?_
          refine lv_dup hx hb dX8_parseNumber_35 rfl ?_
          refine va_get (D := (dC, dI)) (ci := 8) (v := .int (oI S_4 o 4)) (C := RX8) (T := TX8) (N := 6) hx hb hts in_wsX8_parseNumber_X8 hown hK hP q_13 hq_13 rfl 4 (by decide) (hts (.fieldLink RX8 22 "ShipOffice$Tape" "at" "I") iw_X8_parseNumber_2) (fun _ h9 => h9) rfl dX8_parseNumber_36 ?_
          refine lv_topi (fun x_31 ex_31 => ?_)
          have hx_31 : 0 ≤ x_31.toInt ∧ x_31.toInt ≤ 60 := iv_of ex_31 (oInv.iv hIS_4 t_12.2 rfl rfl)
          have gx_31 : x_31.toInt = (oI S_4 o 4).toInt := iv_to ex_31
          clear ex_31
          refine lv_iconst (v := 1) hx hb dX8_parseNumber_39 (by decide) ?_
          refine lv_iadd hx hb dX8_parseNumber_40 ?_
          refine lv_topi (fun x_32 ex_32 => ?_)
          have hx_32 : x_32.toInt = x_31.toInt + 1 := (iv_to ex_32).trans (ad_i rfl (by decide) (by omega) (by omega))
          clear ex_32
          refine va_put (D := (dC, dI)) (ci := 8) (v := .int x_32) (ty := .int) (C := RX8) (T := TX8) (N := 6) hx hb hts in_wsX8_parseNumber_X8 tyX8 tyX8_ok nmX8 hown hK hP hD hS q_13 hq_13 rfl 4 (by decide) (hts (.fieldLink RX8 22 "ShipOffice$Tape" "at" "I") iw_X8_parseNumber_2) (fun _ h9 => h9) rfl (by decide +kernel) rfl rfl (Nat.le_of_ble_eq_true rfl) dX8_parseNumber_41 (fun H locs hP1 hD1 hS => ?_)
          obtain ⟨S_33, eS_33⟩ : ∃ zq, zq = setI S_4 o 4 x_32 := ⟨_, rfl⟩
          have hP : va_P (dC, dI) vwCl (oW cq S_33) H := by rw [eS_33]; exact cP (oset t_12.1 hq_13 hD rfl (he_8_4 t_12.2) neI) hP1
          have hD : va_D A (oW cq S_33) := by rw [eS_33]; exact cD (oset t_12.1 hq_13 hD rfl (he_8_4 t_12.2) neI) hD1
          clear hP1 hD1
          have hIS_33 : oInv S_33 := by rw [eS_33]; exact oInv.I0 (k := 8) (lo := 0) (hi := 60) hIS_4 t_12.2 (by decide) rfl rfl rfl (by omega)
          have XS_33 : oX [804] S_4 S_33 := by rw [eS_33]; exact oX.I (k := 8) (key := 804) t_12.2 rfl (List.mem_singleton.mpr rfl)
          have X_34 : oX [803, 804, 2063] Z S_33 := oX.st YS_4 XS_33 (by decide)
          have g_35 : (oI S_33 o 4).toInt = x_32.toInt := by rw [eS_33, setI_same]
          obtain ⟨x_36, ex_36⟩ : ∃ zq : Int32, y_2 + 1 = zq := ⟨_, rfl⟩
          have hx_36 : x_36.toInt = y_2.toInt + 1 := (iv_to ex_36).symm.trans (ad_i rfl (by decide) (by omega) (by omega))
          refine lv_iinc (v := x_36) (lv' := [(2, .int x_36), (1, .int x_30), (0, .ref o)]) hx hb dX8_parseNumber_44 hl (k := 1) rfl ex_36 (by decide) rfl (fun ls hl => ?_)
          clear ex_36
          refine lv_goto (tgt := 4) hx hb dX8_parseNumber_47 (by decide) ?_
          exact ih (n - 1) (by omega) x_36 x_30 S_33 _ _ ls (by omega) (by omega) hIS_33 (oX.st (oX.st oX.rf XS_4 (by decide)) XS_33 (by decide)) hP hD hS (lv_sub hl [0, 1, 2] rfl)
  have kc_37 : (0 : Int32).toInt = 0 := by decide
  exact cut_1 6 0 0 Z _ _ ls (by omega) (by decide) gI oX.rf hP hD hS (lv_sub hl [0, 1, 2] rfl)
