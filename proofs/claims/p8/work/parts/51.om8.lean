def tyX8 : Nat → FieldType := fun k => match k with
  | 0 => .array .int
  | 1 => .int
  | 2 => .array .int
  | 3 => .int
  | 4 => .int
  | _ => .int
abbrev wsX80 : List Cond := u_ws RX8 TX8 6
theorem nmX8 : ∀ a, a < 6 → ∀ b, b < 6 → a ≠ b → (TX8 a).2.1 ≠ (TX8 b).2.1 := by decide +kernel
theorem tyX8_ok : ∀ k, k < 6 → parseFieldDescriptor (TX8 k).2.2.1 = some (tyX8 k) := by decide +kernel
abbrev cX8_add : ByteArray := prog_10_method_2_code
def yX8_add : MethodName := ⟨RX8, "add", "(I)V"⟩
abbrev cX8_parseNumber : ByteArray := prog_10_method_7_code
def yX8_parseNumber : MethodName := ⟨RX8, "parseNumber", "()V"⟩
abbrev cX8_sees : ByteArray := prog_10_method_9_code
def yX8_sees : MethodName := ⟨RX8, "sees", "(I)Z"⟩
abbrev cX8_seesDigit : ByteArray := prog_10_method_10_code
def yX8_seesDigit : MethodName := ⟨RX8, "seesDigit", "()Z"⟩
abbrev cX8_letterHere : ByteArray := prog_10_method_11_code
def yX8_letterHere : MethodName := ⟨RX8, "letterHere", "()I"⟩
abbrev cX8_emitSign : ByteArray := prog_10_method_12_code
def yX8_emitSign : MethodName := ⟨RX8, "emitSign", "(I)V"⟩
abbrev cX8_emit : ByteArray := prog_10_method_13_code
def yX8_emit : MethodName := ⟨RX8, "emit", "(I)V"⟩
def wsX8_add : List Cond := .code yX8_add cX8_add 2 none :: ([.fieldLink RX8 18 "ShipOffice$Tape" "size" "I", .fieldLink RX8 9 "ShipOffice$Tape" "bytes" "[I"] ++ wsX80)
theorem il_X8_add_1 : ∀ w ∈ ([.fieldLink RX8 18 "ShipOffice$Tape" "size" "I", .fieldLink RX8 9 "ShipOffice$Tape" "bytes" "[I"] : List Cond), w ∈ wsX8_add := fun w h => (List.mem_cons_of_mem _ (List.mem_append_left _ h))
theorem iw_X8_add_1 : Cond.fieldLink RX8 18 "ShipOffice$Tape" "size" "I" ∈ wsX8_add := (mmI il_X8_add_1 0 rfl)
theorem iw_X8_add_2 : Cond.fieldLink RX8 9 "ShipOffice$Tape" "bytes" "[I" ∈ wsX8_add := (mmI il_X8_add_1 1 rfl)
def wsX8_sees : List Cond := .code yX8_sees cX8_sees 2 (some .boolean) :: ([.fieldLink RX8 22 "ShipOffice$Tape" "at" "I", .fieldLink RX8 18 "ShipOffice$Tape" "size" "I", .fieldLink RX8 9 "ShipOffice$Tape" "bytes" "[I"] ++ wsX80)
theorem gw_X8_sees : wsX8_sees.all goodWord = true := by decide +kernel
theorem il_X8_sees_1 : ∀ w ∈ ([.fieldLink RX8 22 "ShipOffice$Tape" "at" "I", .fieldLink RX8 18 "ShipOffice$Tape" "size" "I", .fieldLink RX8 9 "ShipOffice$Tape" "bytes" "[I"] : List Cond), w ∈ wsX8_sees := fun w h => (List.mem_cons_of_mem _ (List.mem_append_left _ h))
theorem iw_X8_sees_1 : Cond.fieldLink RX8 22 "ShipOffice$Tape" "at" "I" ∈ wsX8_sees := (mmI il_X8_sees_1 0 rfl)
theorem iw_X8_sees_2 : Cond.fieldLink RX8 18 "ShipOffice$Tape" "size" "I" ∈ wsX8_sees := (mmI il_X8_sees_1 1 rfl)
theorem iw_X8_sees_3 : Cond.fieldLink RX8 9 "ShipOffice$Tape" "bytes" "[I" ∈ wsX8_sees := (mmI il_X8_sees_1 2 rfl)
def wsX8_emit : List Cond := .code yX8_emit cX8_emit 2 none :: ([.fieldLink RX8 25 "ShipOffice$Tape" "codeSize" "I", .fieldLink RX8 15 "ShipOffice$Tape" "code" "[I"] ++ wsX80)
theorem gw_X8_emit : wsX8_emit.all goodWord = true := by decide +kernel
theorem il_X8_emit_1 : ∀ w ∈ ([.fieldLink RX8 25 "ShipOffice$Tape" "codeSize" "I", .fieldLink RX8 15 "ShipOffice$Tape" "code" "[I"] : List Cond), w ∈ wsX8_emit := fun w h => (List.mem_cons_of_mem _ (List.mem_append_left _ h))
theorem iw_X8_emit_1 : Cond.fieldLink RX8 25 "ShipOffice$Tape" "codeSize" "I" ∈ wsX8_emit := (mmI il_X8_emit_1 0 rfl)
theorem iw_X8_emit_2 : Cond.fieldLink RX8 15 "ShipOffice$Tape" "code" "[I" ∈ wsX8_emit := (mmI il_X8_emit_1 1 rfl)
def wsX8_emitSign : List Cond := .code yX8_emitSign cX8_emitSign 3 none :: ([.fieldLink RX8 71 "ShipOffice$Act" "SIGNS" "[C", .methodLink RX8 61 yX8_emit, .instanceMethod yX8_emit, .selects RX8 yX8_emit yX8_emit, .initialized RX8, .code yX8_emit cX8_emit 2 none, .fieldLink RX8 25 "ShipOffice$Tape" "codeSize" "I", .fieldLink RX8 15 "ShipOffice$Tape" "code" "[I"] ++ wsX80)
theorem il_X8_emitSign_1 : ∀ w ∈ ([.fieldLink RX8 71 "ShipOffice$Act" "SIGNS" "[C", .methodLink RX8 61 yX8_emit, .instanceMethod yX8_emit, .selects RX8 yX8_emit yX8_emit, .initialized RX8, .code yX8_emit cX8_emit 2 none, .fieldLink RX8 25 "ShipOffice$Tape" "codeSize" "I", .fieldLink RX8 15 "ShipOffice$Tape" "code" "[I"] : List Cond), w ∈ wsX8_emitSign := fun w h => (List.mem_cons_of_mem _ (List.mem_append_left _ h))
theorem il_X8_emitSign_2 : ∀ w ∈ wsX80, w ∈ wsX8_emitSign := fun w h => (List.mem_cons_of_mem _ (List.mem_append_right _ h))
theorem iw_X8_emitSign_1 : Cond.fieldLink RX8 71 "ShipOffice$Act" "SIGNS" "[C" ∈ wsX8_emitSign := (mmI il_X8_emitSign_1 0 rfl)
def wsX8_letterHere : List Cond := .code yX8_letterHere cX8_letterHere 2 (some .int) :: ([.methodLink RX8 38 yX8_sees, .instanceMethod yX8_sees, .selects RX8 yX8_sees yX8_sees, .initialized RX8, .code yX8_sees cX8_sees 2 (some .boolean), .fieldLink RX8 22 "ShipOffice$Tape" "at" "I", .fieldLink RX8 18 "ShipOffice$Tape" "size" "I", .fieldLink RX8 9 "ShipOffice$Tape" "bytes" "[I"] ++ wsX80)
theorem il_X8_letterHere_1 : ∀ w ∈ ([.methodLink RX8 38 yX8_sees, .instanceMethod yX8_sees, .selects RX8 yX8_sees yX8_sees, .initialized RX8, .code yX8_sees cX8_sees 2 (some .boolean), .fieldLink RX8 22 "ShipOffice$Tape" "at" "I", .fieldLink RX8 18 "ShipOffice$Tape" "size" "I", .fieldLink RX8 9 "ShipOffice$Tape" "bytes" "[I"] : List Cond), w ∈ wsX8_letterHere := fun w h => (List.mem_cons_of_mem _ (List.mem_append_left _ h))
theorem il_X8_letterHere_2 : ∀ w ∈ wsX80, w ∈ wsX8_letterHere := fun w h => (List.mem_cons_of_mem _ (List.mem_append_right _ h))
def wsX8_seesDigit : List Cond := .code yX8_seesDigit cX8_seesDigit 1 (some .boolean) :: ([.fieldLink RX8 22 "ShipOffice$Tape" "at" "I", .fieldLink RX8 18 "ShipOffice$Tape" "size" "I", .fieldLink RX8 9 "ShipOffice$Tape" "bytes" "[I"] ++ wsX80)
theorem gw_X8_seesDigit : wsX8_seesDigit.all goodWord = true := by decide +kernel
theorem il_X8_seesDigit_1 : ∀ w ∈ ([.fieldLink RX8 22 "ShipOffice$Tape" "at" "I", .fieldLink RX8 18 "ShipOffice$Tape" "size" "I", .fieldLink RX8 9 "ShipOffice$Tape" "bytes" "[I"] : List Cond), w ∈ wsX8_seesDigit := fun w h => (List.mem_cons_of_mem _ (List.mem_append_left _ h))
theorem iw_X8_seesDigit_1 : Cond.fieldLink RX8 22 "ShipOffice$Tape" "at" "I" ∈ wsX8_seesDigit := (mmI il_X8_seesDigit_1 0 rfl)
theorem iw_X8_seesDigit_2 : Cond.fieldLink RX8 18 "ShipOffice$Tape" "size" "I" ∈ wsX8_seesDigit := (mmI il_X8_seesDigit_1 1 rfl)
theorem iw_X8_seesDigit_3 : Cond.fieldLink RX8 9 "ShipOffice$Tape" "bytes" "[I" ∈ wsX8_seesDigit := (mmI il_X8_seesDigit_1 2 rfl)
def wsX8_parseNumber : List Cond := .code yX8_parseNumber cX8_parseNumber 3 none :: ([.fieldLink RX8 9 "ShipOffice$Tape" "bytes" "[I", .fieldLink RX8 22 "ShipOffice$Tape" "at" "I", .methodLink RX8 52 yX8_seesDigit, .instanceMethod yX8_seesDigit, .selects RX8 yX8_seesDigit yX8_seesDigit, .initialized RX8, .code yX8_seesDigit cX8_seesDigit 1 (some .boolean), .fieldLink RX8 18 "ShipOffice$Tape" "size" "I", .methodLink RX8 61 yX8_emit, .instanceMethod yX8_emit, .selects RX8 yX8_emit yX8_emit, .code yX8_emit cX8_emit 2 none, .fieldLink RX8 25 "ShipOffice$Tape" "codeSize" "I", .fieldLink RX8 15 "ShipOffice$Tape" "code" "[I"] ++ wsX80)
theorem il_X8_parseNumber_1 : ∀ w ∈ ([.fieldLink RX8 9 "ShipOffice$Tape" "bytes" "[I", .fieldLink RX8 22 "ShipOffice$Tape" "at" "I", .methodLink RX8 52 yX8_seesDigit, .instanceMethod yX8_seesDigit, .selects RX8 yX8_seesDigit yX8_seesDigit, .initialized RX8, .code yX8_seesDigit cX8_seesDigit 1 (some .boolean), .fieldLink RX8 18 "ShipOffice$Tape" "size" "I", .methodLink RX8 61 yX8_emit, .instanceMethod yX8_emit, .selects RX8 yX8_emit yX8_emit, .code yX8_emit cX8_emit 2 none, .fieldLink RX8 25 "ShipOffice$Tape" "codeSize" "I", .fieldLink RX8 15 "ShipOffice$Tape" "code" "[I"] : List Cond), w ∈ wsX8_parseNumber := fun w h => (List.mem_cons_of_mem _ (List.mem_append_left _ h))
theorem il_X8_parseNumber_2 : ∀ w ∈ wsX80, w ∈ wsX8_parseNumber := fun w h => (List.mem_cons_of_mem _ (List.mem_append_right _ h))
theorem iw_X8_parseNumber_1 : Cond.fieldLink RX8 9 "ShipOffice$Tape" "bytes" "[I" ∈ wsX8_parseNumber := (mmI il_X8_parseNumber_1 0 rfl)
theorem iw_X8_parseNumber_2 : Cond.fieldLink RX8 22 "ShipOffice$Tape" "at" "I" ∈ wsX8_parseNumber := (mmI il_X8_parseNumber_1 1 rfl)
theorem dX8_add_0 : decode cX8_add 0 = .ok (.aload_n 0, 1) := by decide +kernel
theorem dX8_add_1 : decode cX8_add 1 = .ok (.getfield 18, 3) := by decide +kernel
theorem dX8_add_4 : decode cX8_add 4 = .ok (.bipush 60, 2) := by decide +kernel
theorem dX8_add_6 : decode cX8_add 6 = .ok (.if_icmp .ge 23, 3) := by decide +kernel
theorem dX8_add_9 : decode cX8_add 9 = .ok (.aload_n 0, 1) := by decide +kernel
theorem dX8_add_10 : decode cX8_add 10 = .ok (.getfield 9, 3) := by decide +kernel
theorem dX8_add_13 : decode cX8_add 13 = .ok (.aload_n 0, 1) := by decide +kernel
theorem dX8_add_14 : decode cX8_add 14 = .ok (.getfield 18, 3) := by decide +kernel
theorem dX8_add_17 : decode cX8_add 17 = .ok (.iload_n 1, 1) := by decide +kernel
theorem dX8_add_18 : decode cX8_add 18 = .ok (.iastore, 1) := by decide +kernel
theorem dX8_add_19 : decode cX8_add 19 = .ok (.aload_n 0, 1) := by decide +kernel
theorem dX8_add_20 : decode cX8_add 20 = .ok (.dup, 1) := by decide +kernel
theorem dX8_add_21 : decode cX8_add 21 = .ok (.getfield 18, 3) := by decide +kernel
theorem dX8_add_24 : decode cX8_add 24 = .ok (.iconst 1, 1) := by decide +kernel
theorem dX8_add_25 : decode cX8_add 25 = .ok (.iadd, 1) := by decide +kernel
theorem dX8_add_26 : decode cX8_add 26 = .ok (.putfield 18, 3) := by decide +kernel
theorem dX8_add_29 : decode cX8_add 29 = .ok (.return_, 1) := by decide +kernel
set_option maxRecDepth 100000 in
theorem ggX8_parseNumber_X8_seesDigit : GoodIn wsX8_parseNumber wsX8_seesDigit := goodIn_sub (mmC (mmI il_X8_parseNumber_1 6 rfl) (mmA (mmC (mmI il_X8_parseNumber_1 1 rfl) (mmC (mmI il_X8_parseNumber_1 7 rfl) (mmC (mmI il_X8_parseNumber_1 0 rfl) mmN))) il_X8_parseNumber_2)) gw_X8_seesDigit
theorem gX8_parseNumber_X8_seesDigit : GoodIn wsX8_parseNumber (wsV RX8 52 RX8 yX8_seesDigit wsX8_seesDigit) := goodIn_app (goodIn_sub (mmC (mmI il_X8_parseNumber_1 2 rfl) (mmC (mmI il_X8_parseNumber_1 3 rfl) (mmC (mmI il_X8_parseNumber_1 4 rfl) (mmC (mmI il_X8_parseNumber_1 5 rfl) mmN)))) (by decide +kernel)) ggX8_parseNumber_X8_seesDigit
set_option maxRecDepth 100000 in
theorem ggX8_parseNumber_X8_emit : GoodIn wsX8_parseNumber wsX8_emit := goodIn_sub (mmC (mmI il_X8_parseNumber_1 11 rfl) (mmA (mmC (mmI il_X8_parseNumber_1 12 rfl) (mmC (mmI il_X8_parseNumber_1 13 rfl) mmN)) il_X8_parseNumber_2)) gw_X8_emit
theorem gX8_parseNumber_X8_emit : GoodIn wsX8_parseNumber (wsV RX8 61 RX8 yX8_emit wsX8_emit) := goodIn_app (goodIn_sub (mmC (mmI il_X8_parseNumber_1 8 rfl) (mmC (mmI il_X8_parseNumber_1 9 rfl) (mmC (mmI il_X8_parseNumber_1 10 rfl) (mmC (mmI il_X8_parseNumber_1 5 rfl) mmN)))) (by decide +kernel)) ggX8_parseNumber_X8_emit
theorem dX8_parseNumber_0 : decode cX8_parseNumber 0 = .ok (.iconst 0, 1) := by decide +kernel
theorem dX8_parseNumber_1 : decode cX8_parseNumber 1 = .ok (.istore_n 1, 1) := by decide +kernel
theorem dX8_parseNumber_2 : decode cX8_parseNumber 2 = .ok (.iconst 0, 1) := by decide +kernel
theorem dX8_parseNumber_3 : decode cX8_parseNumber 3 = .ok (.istore_n 2, 1) := by decide +kernel
theorem dX8_parseNumber_4 : decode cX8_parseNumber 4 = .ok (.iload_n 2, 1) := by decide +kernel
theorem dX8_parseNumber_5 : decode cX8_parseNumber 5 = .ok (.iconst 5, 1) := by decide +kernel
theorem dX8_parseNumber_6 : decode cX8_parseNumber 6 = .ok (.if_icmp .ge 44, 3) := by decide +kernel
theorem dX8_parseNumber_9 : decode cX8_parseNumber 9 = .ok (.aload_n 0, 1) := by decide +kernel
theorem dX8_parseNumber_10 : decode cX8_parseNumber 10 = .ok (.invokevirtual 52, 3) := by decide +kernel
theorem dX8_parseNumber_13 : decode cX8_parseNumber 13 = .ok (.ifCond .eq 37, 3) := by decide +kernel
theorem dX8_parseNumber_16 : decode cX8_parseNumber 16 = .ok (.iload_n 1, 1) := by decide +kernel
theorem dX8_parseNumber_17 : decode cX8_parseNumber 17 = .ok (.bipush 10, 2) := by decide +kernel
theorem dX8_parseNumber_19 : decode cX8_parseNumber 19 = .ok (.imul, 1) := by decide +kernel
theorem dX8_parseNumber_20 : decode cX8_parseNumber 20 = .ok (.aload_n 0, 1) := by decide +kernel
theorem dX8_parseNumber_21 : decode cX8_parseNumber 21 = .ok (.getfield 9, 3) := by decide +kernel
theorem dX8_parseNumber_24 : decode cX8_parseNumber 24 = .ok (.aload_n 0, 1) := by decide +kernel
theorem dX8_parseNumber_25 : decode cX8_parseNumber 25 = .ok (.getfield 22, 3) := by decide +kernel
theorem dX8_parseNumber_28 : decode cX8_parseNumber 28 = .ok (.iaload, 1) := by decide +kernel
theorem dX8_parseNumber_29 : decode cX8_parseNumber 29 = .ok (.iadd, 1) := by decide +kernel
theorem dX8_parseNumber_30 : decode cX8_parseNumber 30 = .ok (.bipush 48, 2) := by decide +kernel
theorem dX8_parseNumber_32 : decode cX8_parseNumber 32 = .ok (.isub, 1) := by decide +kernel
theorem dX8_parseNumber_33 : decode cX8_parseNumber 33 = .ok (.istore_n 1, 1) := by decide +kernel
theorem dX8_parseNumber_34 : decode cX8_parseNumber 34 = .ok (.aload_n 0, 1) := by decide +kernel
theorem dX8_parseNumber_35 : decode cX8_parseNumber 35 = .ok (.dup, 1) := by decide +kernel
theorem dX8_parseNumber_36 : decode cX8_parseNumber 36 = .ok (.getfield 22, 3) := by decide +kernel
theorem dX8_parseNumber_39 : decode cX8_parseNumber 39 = .ok (.iconst 1, 1) := by decide +kernel
theorem dX8_parseNumber_40 : decode cX8_parseNumber 40 = .ok (.iadd, 1) := by decide +kernel
theorem dX8_parseNumber_41 : decode cX8_parseNumber 41 = .ok (.putfield 22, 3) := by decide +kernel
theorem dX8_parseNumber_44 : decode cX8_parseNumber 44 = .ok (.iinc 2 1, 3) := by decide +kernel
theorem dX8_parseNumber_47 : decode cX8_parseNumber 47 = .ok (.goto (-43), 3) := by decide +kernel
theorem dX8_parseNumber_50 : decode cX8_parseNumber 50 = .ok (.aload_n 0, 1) := by decide +kernel
theorem dX8_parseNumber_51 : decode cX8_parseNumber 51 = .ok (.iload_n 1, 1) := by decide +kernel
theorem dX8_parseNumber_52 : decode cX8_parseNumber 52 = .ok (.invokevirtual 61, 3) := by decide +kernel
theorem dX8_parseNumber_55 : decode cX8_parseNumber 55 = .ok (.return_, 1) := by decide +kernel
theorem dX8_sees_0 : decode cX8_sees 0 = .ok (.aload_n 0, 1) := by decide +kernel
theorem dX8_sees_1 : decode cX8_sees 1 = .ok (.getfield 22, 3) := by decide +kernel
theorem dX8_sees_4 : decode cX8_sees 4 = .ok (.aload_n 0, 1) := by decide +kernel
theorem dX8_sees_5 : decode cX8_sees 5 = .ok (.getfield 18, 3) := by decide +kernel
theorem dX8_sees_8 : decode cX8_sees 8 = .ok (.if_icmp .ge 20, 3) := by decide +kernel
theorem dX8_sees_11 : decode cX8_sees 11 = .ok (.aload_n 0, 1) := by decide +kernel
theorem dX8_sees_12 : decode cX8_sees 12 = .ok (.getfield 9, 3) := by decide +kernel
theorem dX8_sees_15 : decode cX8_sees 15 = .ok (.aload_n 0, 1) := by decide +kernel
theorem dX8_sees_16 : decode cX8_sees 16 = .ok (.getfield 22, 3) := by decide +kernel
theorem dX8_sees_19 : decode cX8_sees 19 = .ok (.iaload, 1) := by decide +kernel
theorem dX8_sees_20 : decode cX8_sees 20 = .ok (.iload_n 1, 1) := by decide +kernel
theorem dX8_sees_21 : decode cX8_sees 21 = .ok (.if_icmp .ne 7, 3) := by decide +kernel
theorem dX8_sees_24 : decode cX8_sees 24 = .ok (.iconst 1, 1) := by decide +kernel
theorem dX8_sees_25 : decode cX8_sees 25 = .ok (.goto 4, 3) := by decide +kernel
theorem dX8_sees_28 : decode cX8_sees 28 = .ok (.iconst 0, 1) := by decide +kernel
theorem dX8_sees_29 : decode cX8_sees 29 = .ok (.ireturn, 1) := by decide +kernel
theorem dX8_seesDigit_0 : decode cX8_seesDigit 0 = .ok (.aload_n 0, 1) := by decide +kernel
theorem dX8_seesDigit_1 : decode cX8_seesDigit 1 = .ok (.getfield 22, 3) := by decide +kernel
theorem dX8_seesDigit_4 : decode cX8_seesDigit 4 = .ok (.aload_n 0, 1) := by decide +kernel
theorem dX8_seesDigit_5 : decode cX8_seesDigit 5 = .ok (.getfield 18, 3) := by decide +kernel
theorem dX8_seesDigit_8 : decode cX8_seesDigit 8 = .ok (.if_icmp .ge 35, 3) := by decide +kernel
theorem dX8_seesDigit_11 : decode cX8_seesDigit 11 = .ok (.aload_n 0, 1) := by decide +kernel
theorem dX8_seesDigit_12 : decode cX8_seesDigit 12 = .ok (.getfield 9, 3) := by decide +kernel
theorem dX8_seesDigit_15 : decode cX8_seesDigit 15 = .ok (.aload_n 0, 1) := by decide +kernel
theorem dX8_seesDigit_16 : decode cX8_seesDigit 16 = .ok (.getfield 22, 3) := by decide +kernel
theorem dX8_seesDigit_19 : decode cX8_seesDigit 19 = .ok (.iaload, 1) := by decide +kernel
theorem dX8_seesDigit_20 : decode cX8_seesDigit 20 = .ok (.bipush 48, 2) := by decide +kernel
theorem dX8_seesDigit_22 : decode cX8_seesDigit 22 = .ok (.if_icmp .lt 21, 3) := by decide +kernel
theorem dX8_seesDigit_25 : decode cX8_seesDigit 25 = .ok (.aload_n 0, 1) := by decide +kernel
theorem dX8_seesDigit_26 : decode cX8_seesDigit 26 = .ok (.getfield 9, 3) := by decide +kernel
theorem dX8_seesDigit_29 : decode cX8_seesDigit 29 = .ok (.aload_n 0, 1) := by decide +kernel
theorem dX8_seesDigit_30 : decode cX8_seesDigit 30 = .ok (.getfield 22, 3) := by decide +kernel
theorem dX8_seesDigit_33 : decode cX8_seesDigit 33 = .ok (.iaload, 1) := by decide +kernel
theorem dX8_seesDigit_34 : decode cX8_seesDigit 34 = .ok (.bipush 57, 2) := by decide +kernel
theorem dX8_seesDigit_36 : decode cX8_seesDigit 36 = .ok (.if_icmp .gt 7, 3) := by decide +kernel
theorem dX8_seesDigit_39 : decode cX8_seesDigit 39 = .ok (.iconst 1, 1) := by decide +kernel
theorem dX8_seesDigit_40 : decode cX8_seesDigit 40 = .ok (.goto 4, 3) := by decide +kernel
theorem dX8_seesDigit_43 : decode cX8_seesDigit 43 = .ok (.iconst 0, 1) := by decide +kernel
theorem dX8_seesDigit_44 : decode cX8_seesDigit 44 = .ok (.ireturn, 1) := by decide +kernel
set_option maxRecDepth 100000 in
theorem ggX8_letterHere_X8_sees : GoodIn wsX8_letterHere wsX8_sees := goodIn_sub (mmC (mmI il_X8_letterHere_1 4 rfl) (mmA (mmC (mmI il_X8_letterHere_1 5 rfl) (mmC (mmI il_X8_letterHere_1 6 rfl) (mmC (mmI il_X8_letterHere_1 7 rfl) mmN))) il_X8_letterHere_2)) gw_X8_sees
theorem gX8_letterHere_X8_sees : GoodIn wsX8_letterHere (wsV RX8 38 RX8 yX8_sees wsX8_sees) := goodIn_app (goodIn_sub (mmC (mmI il_X8_letterHere_1 0 rfl) (mmC (mmI il_X8_letterHere_1 1 rfl) (mmC (mmI il_X8_letterHere_1 2 rfl) (mmC (mmI il_X8_letterHere_1 3 rfl) mmN)))) (by decide +kernel)) ggX8_letterHere_X8_sees
theorem dX8_letterHere_0 : decode cX8_letterHere 0 = .ok (.iconst 0, 1) := by decide +kernel
theorem dX8_letterHere_1 : decode cX8_letterHere 1 = .ok (.istore_n 1, 1) := by decide +kernel
theorem dX8_letterHere_2 : decode cX8_letterHere 2 = .ok (.iload_n 1, 1) := by decide +kernel
theorem dX8_letterHere_3 : decode cX8_letterHere 3 = .ok (.getstatic 67, 3) := by decide +kernel
theorem dX8_letterHere_6 : decode cX8_letterHere 6 = .ok (.arraylength, 1) := by decide +kernel
theorem dX8_letterHere_7 : decode cX8_letterHere 7 = .ok (.if_icmp .ge 23, 3) := by decide +kernel
theorem dX8_letterHere_10 : decode cX8_letterHere 10 = .ok (.aload_n 0, 1) := by decide +kernel
theorem dX8_letterHere_11 : decode cX8_letterHere 11 = .ok (.getstatic 67, 3) := by decide +kernel
theorem dX8_letterHere_14 : decode cX8_letterHere 14 = .ok (.iload_n 1, 1) := by decide +kernel
theorem dX8_letterHere_15 : decode cX8_letterHere 15 = .ok (.caload, 1) := by decide +kernel
theorem dX8_letterHere_16 : decode cX8_letterHere 16 = .ok (.invokevirtual 38, 3) := by decide +kernel
theorem dX8_letterHere_19 : decode cX8_letterHere 19 = .ok (.ifCond .eq 5, 3) := by decide +kernel
theorem dX8_letterHere_22 : decode cX8_letterHere 22 = .ok (.iload_n 1, 1) := by decide +kernel
theorem dX8_letterHere_23 : decode cX8_letterHere 23 = .ok (.ireturn, 1) := by decide +kernel
theorem dX8_letterHere_24 : decode cX8_letterHere 24 = .ok (.iinc 1 1, 3) := by decide +kernel
theorem dX8_letterHere_27 : decode cX8_letterHere 27 = .ok (.goto (-25), 3) := by decide +kernel
theorem dX8_letterHere_30 : decode cX8_letterHere 30 = .ok (.iconst (-1), 1) := by decide +kernel
theorem dX8_letterHere_31 : decode cX8_letterHere 31 = .ok (.ireturn, 1) := by decide +kernel
set_option maxRecDepth 100000 in
theorem ggX8_emitSign_X8_emit : GoodIn wsX8_emitSign wsX8_emit := goodIn_sub (mmC (mmI il_X8_emitSign_1 5 rfl) (mmA (mmC (mmI il_X8_emitSign_1 6 rfl) (mmC (mmI il_X8_emitSign_1 7 rfl) mmN)) il_X8_emitSign_2)) gw_X8_emit
theorem gX8_emitSign_X8_emit : GoodIn wsX8_emitSign (wsV RX8 61 RX8 yX8_emit wsX8_emit) := goodIn_app (goodIn_sub (mmC (mmI il_X8_emitSign_1 1 rfl) (mmC (mmI il_X8_emitSign_1 2 rfl) (mmC (mmI il_X8_emitSign_1 3 rfl) (mmC (mmI il_X8_emitSign_1 4 rfl) mmN)))) (by decide +kernel)) ggX8_emitSign_X8_emit
theorem dX8_emitSign_0 : decode cX8_emitSign 0 = .ok (.iconst 0, 1) := by decide +kernel
theorem dX8_emitSign_1 : decode cX8_emitSign 1 = .ok (.istore_n 2, 1) := by decide +kernel
theorem dX8_emitSign_2 : decode cX8_emitSign 2 = .ok (.iload_n 2, 1) := by decide +kernel
theorem dX8_emitSign_3 : decode cX8_emitSign 3 = .ok (.getstatic 71, 3) := by decide +kernel
theorem dX8_emitSign_6 : decode cX8_emitSign 6 = .ok (.arraylength, 1) := by decide +kernel
theorem dX8_emitSign_7 : decode cX8_emitSign 7 = .ok (.if_icmp .ge 26, 3) := by decide +kernel
theorem dX8_emitSign_10 : decode cX8_emitSign 10 = .ok (.getstatic 71, 3) := by decide +kernel
theorem dX8_emitSign_13 : decode cX8_emitSign 13 = .ok (.iload_n 2, 1) := by decide +kernel
theorem dX8_emitSign_14 : decode cX8_emitSign 14 = .ok (.caload, 1) := by decide +kernel
theorem dX8_emitSign_15 : decode cX8_emitSign 15 = .ok (.iload_n 1, 1) := by decide +kernel
theorem dX8_emitSign_16 : decode cX8_emitSign 16 = .ok (.if_icmp .ne 11, 3) := by decide +kernel
theorem dX8_emitSign_19 : decode cX8_emitSign 19 = .ok (.aload_n 0, 1) := by decide +kernel
theorem dX8_emitSign_20 : decode cX8_emitSign 20 = .ok (.bipush (-11), 2) := by decide +kernel
theorem dX8_emitSign_22 : decode cX8_emitSign 22 = .ok (.iload_n 2, 1) := by decide +kernel
theorem dX8_emitSign_23 : decode cX8_emitSign 23 = .ok (.isub, 1) := by decide +kernel
theorem dX8_emitSign_24 : decode cX8_emitSign 24 = .ok (.invokevirtual 61, 3) := by decide +kernel
theorem dX8_emitSign_27 : decode cX8_emitSign 27 = .ok (.iinc 2 1, 3) := by decide +kernel
theorem dX8_emitSign_30 : decode cX8_emitSign 30 = .ok (.goto (-28), 3) := by decide +kernel
theorem dX8_emitSign_33 : decode cX8_emitSign 33 = .ok (.return_, 1) := by decide +kernel
theorem dX8_emit_0 : decode cX8_emit 0 = .ok (.aload_n 0, 1) := by decide +kernel
theorem dX8_emit_1 : decode cX8_emit 1 = .ok (.getfield 25, 3) := by decide +kernel
theorem dX8_emit_4 : decode cX8_emit 4 = .ok (.bipush 60, 2) := by decide +kernel
theorem dX8_emit_6 : decode cX8_emit 6 = .ok (.if_icmp .ge 23, 3) := by decide +kernel
theorem dX8_emit_9 : decode cX8_emit 9 = .ok (.aload_n 0, 1) := by decide +kernel
theorem dX8_emit_10 : decode cX8_emit 10 = .ok (.getfield 15, 3) := by decide +kernel
theorem dX8_emit_13 : decode cX8_emit 13 = .ok (.aload_n 0, 1) := by decide +kernel
theorem dX8_emit_14 : decode cX8_emit 14 = .ok (.getfield 25, 3) := by decide +kernel
theorem dX8_emit_17 : decode cX8_emit 17 = .ok (.iload_n 1, 1) := by decide +kernel
theorem dX8_emit_18 : decode cX8_emit 18 = .ok (.iastore, 1) := by decide +kernel
theorem dX8_emit_19 : decode cX8_emit 19 = .ok (.aload_n 0, 1) := by decide +kernel
theorem dX8_emit_20 : decode cX8_emit 20 = .ok (.dup, 1) := by decide +kernel
theorem dX8_emit_21 : decode cX8_emit 21 = .ok (.getfield 25, 3) := by decide +kernel
theorem dX8_emit_24 : decode cX8_emit 24 = .ok (.iconst 1, 1) := by decide +kernel
theorem dX8_emit_25 : decode cX8_emit 25 = .ok (.iadd, 1) := by decide +kernel
theorem dX8_emit_26 : decode cX8_emit 26 = .ok (.putfield 25, 3) := by decide +kernel
theorem dX8_emit_29 : decode cX8_emit 29 = .ok (.return_, 1) := by decide +kernel
theorem in_wsX8_add_X8 : ∀ w ∈ wsX80, w ∈ wsX8_add := fun w h => List.mem_cons_of_mem _ (List.mem_append_right _ h)
theorem in_wsX8_emit_X8 : ∀ w ∈ wsX80, w ∈ wsX8_emit := fun w h => List.mem_cons_of_mem _ (List.mem_append_right _ h)
theorem in_wsX8_sees_X8 : ∀ w ∈ wsX80, w ∈ wsX8_sees := fun w h => List.mem_cons_of_mem _ (List.mem_append_right _ h)
theorem in_wsX8_seesDigit_X8 : ∀ w ∈ wsX80, w ∈ wsX8_seesDigit := fun w h => List.mem_cons_of_mem _ (List.mem_append_right _ h)
theorem in_wsX8_parseNumber_X8 : ∀ w ∈ wsX80, w ∈ wsX8_parseNumber := fun w h => List.mem_cons_of_mem _ (List.mem_append_right _ h)
