def tyX10 : Nat → FieldType := fun k => match k with
  | 0 => .int
  | 1 => .array (.object "ShipOffice$Man")
  | 2 => .int
  | 3 => .array (.object "ShipOffice$Voyage")
  | 4 => .int
  | 5 => .array (.object "ShipOffice$Agreement")
  | 6 => .int
  | 7 => .int
  | 8 => .object "ShipOffice$Law"
  | 9 => .object "ShipOffice$Tape"
  | 10 => .object "ShipOffice$Sea"
  | 11 => .object "ShipOffice$Hiring"
  | 12 => .array .int
  | 13 => .array .int
  | 14 => .int
  | _ => .array .int
abbrev wsX100 : List Cond := u_ws RX10 TX10 16
theorem nmX10 : ∀ a, a < 16 → ∀ b, b < 16 → a ≠ b → (TX10 a).2.1 ≠ (TX10 b).2.1 := by decide +kernel
theorem tyX10_ok : ∀ k, k < 16 → parseFieldDescriptor (TX10 k).2.2.1 = some (tyX10 k) := by decide +kernel
abbrev cX10_put : ByteArray := prog_1_method_34_code
def yX10_put : MethodName := ⟨RX10, "put", "(I)I"⟩
abbrev cX10_refuse : ByteArray := prog_1_method_37_code
def yX10_refuse : MethodName := ⟨RX10, "refuse", "(I)I"⟩
abbrev cX10_isPort : ByteArray := prog_1_method_38_code
def yX10_isPort : MethodName := ⟨RX10, "isPort", "(I)Z"⟩
abbrev cX10_manAt : ByteArray := prog_1_method_39_code
def yX10_manAt : MethodName := ⟨RX10, "manAt", "(I)LShipOffice$Man;"⟩
abbrev cX10_voyageAt : ByteArray := prog_1_method_40_code
def yX10_voyageAt : MethodName := ⟨RX10, "voyageAt", "(I)LShipOffice$Voyage;"⟩
abbrev cX10_agreementAt : ByteArray := prog_1_method_41_code
def yX10_agreementAt : MethodName := ⟨RX10, "agreementAt", "(I)LShipOffice$Agreement;"⟩
def wsX10_refuse : List Cond := .code yX10_refuse cX10_refuse 2 (some .int) :: ([.fieldLink RX10 66 "ShipOffice" "refusals" "[I"] ++ wsX100)
theorem gw_X10_refuse : wsX10_refuse.all goodWord = true := by decide +kernel
theorem il_X10_refuse_1 : ∀ w ∈ ([.fieldLink RX10 66 "ShipOffice" "refusals" "[I"] : List Cond), w ∈ wsX10_refuse := fun w h => (List.mem_cons_of_mem _ (List.mem_append_left _ h))
theorem iw_X10_refuse_1 : Cond.fieldLink RX10 66 "ShipOffice" "refusals" "[I" ∈ wsX10_refuse := (mmI il_X10_refuse_1 0 rfl)
def wsX10_isPort : List Cond := .code yX10_isPort cX10_isPort 1 (some .boolean) :: ([])
def wsX10_voyageAt : List Cond := .code yX10_voyageAt cX10_voyageAt 2 (some (.object "ShipOffice$Voyage")) :: ([.fieldLink RX10 99 "ShipOffice" "voyageCount" "I", .fieldLink RX10 17 "ShipOffice" "voyages" "[LShipOffice$Voyage;"] ++ wsX100)
theorem il_X10_voyageAt_1 : ∀ w ∈ ([.fieldLink RX10 99 "ShipOffice" "voyageCount" "I", .fieldLink RX10 17 "ShipOffice" "voyages" "[LShipOffice$Voyage;"] : List Cond), w ∈ wsX10_voyageAt := fun w h => (List.mem_cons_of_mem _ (List.mem_append_left _ h))
theorem iw_X10_voyageAt_1 : Cond.fieldLink RX10 99 "ShipOffice" "voyageCount" "I" ∈ wsX10_voyageAt := (mmI il_X10_voyageAt_1 0 rfl)
theorem iw_X10_voyageAt_2 : Cond.fieldLink RX10 17 "ShipOffice" "voyages" "[LShipOffice$Voyage;" ∈ wsX10_voyageAt := (mmI il_X10_voyageAt_1 1 rfl)
def wsX10_agreementAt : List Cond := .code yX10_agreementAt cX10_agreementAt 2 (some (.object "ShipOffice$Agreement")) :: ([.fieldLink RX10 115 "ShipOffice" "agreementCount" "I", .fieldLink RX10 23 "ShipOffice" "agreements" "[LShipOffice$Agreement;"] ++ wsX100)
theorem il_X10_agreementAt_1 : ∀ w ∈ ([.fieldLink RX10 115 "ShipOffice" "agreementCount" "I", .fieldLink RX10 23 "ShipOffice" "agreements" "[LShipOffice$Agreement;"] : List Cond), w ∈ wsX10_agreementAt := fun w h => (List.mem_cons_of_mem _ (List.mem_append_left _ h))
theorem iw_X10_agreementAt_1 : Cond.fieldLink RX10 115 "ShipOffice" "agreementCount" "I" ∈ wsX10_agreementAt := (mmI il_X10_agreementAt_1 0 rfl)
theorem iw_X10_agreementAt_2 : Cond.fieldLink RX10 23 "ShipOffice" "agreements" "[LShipOffice$Agreement;" ∈ wsX10_agreementAt := (mmI il_X10_agreementAt_1 1 rfl)
def wsX10_manAt : List Cond := .code yX10_manAt cX10_manAt 2 (some (.object "ShipOffice$Man")) :: ([.fieldLink RX10 86 "ShipOffice" "manCount" "I", .fieldLink RX10 11 "ShipOffice" "men" "[LShipOffice$Man;"] ++ wsX100)
theorem il_X10_manAt_1 : ∀ w ∈ ([.fieldLink RX10 86 "ShipOffice" "manCount" "I", .fieldLink RX10 11 "ShipOffice" "men" "[LShipOffice$Man;"] : List Cond), w ∈ wsX10_manAt := fun w h => (List.mem_cons_of_mem _ (List.mem_append_left _ h))
theorem iw_X10_manAt_1 : Cond.fieldLink RX10 86 "ShipOffice" "manCount" "I" ∈ wsX10_manAt := (mmI il_X10_manAt_1 0 rfl)
theorem iw_X10_manAt_2 : Cond.fieldLink RX10 11 "ShipOffice" "men" "[LShipOffice$Man;" ∈ wsX10_manAt := (mmI il_X10_manAt_1 1 rfl)
def wsX10_put : List Cond := .code yX10_put cX10_put 2 (some .int) :: ([.fieldLink RX10 353 "ShipOffice" "rowCount" "I", .fieldLink RX10 63 "ShipOffice" "row" "[I", .methodLink RX10 69 yX10_refuse, .instanceMethod yX10_refuse, .selects RX10 yX10_refuse yX10_refuse, .initialized RX10, .code yX10_refuse cX10_refuse 2 (some .int), .fieldLink RX10 66 "ShipOffice" "refusals" "[I"] ++ wsX100)
theorem il_X10_put_1 : ∀ w ∈ ([.fieldLink RX10 353 "ShipOffice" "rowCount" "I", .fieldLink RX10 63 "ShipOffice" "row" "[I", .methodLink RX10 69 yX10_refuse, .instanceMethod yX10_refuse, .selects RX10 yX10_refuse yX10_refuse, .initialized RX10, .code yX10_refuse cX10_refuse 2 (some .int), .fieldLink RX10 66 "ShipOffice" "refusals" "[I"] : List Cond), w ∈ wsX10_put := fun w h => (List.mem_cons_of_mem _ (List.mem_append_left _ h))
theorem il_X10_put_2 : ∀ w ∈ wsX100, w ∈ wsX10_put := fun w h => (List.mem_cons_of_mem _ (List.mem_append_right _ h))
theorem iw_X10_put_1 : Cond.fieldLink RX10 353 "ShipOffice" "rowCount" "I" ∈ wsX10_put := (mmI il_X10_put_1 0 rfl)
theorem iw_X10_put_2 : Cond.fieldLink RX10 63 "ShipOffice" "row" "[I" ∈ wsX10_put := (mmI il_X10_put_1 1 rfl)
set_option maxRecDepth 100000 in
theorem ggX10_put_X10_refuse : GoodIn wsX10_put wsX10_refuse := goodIn_sub (mmC (mmI il_X10_put_1 6 rfl) (mmA (mmC (mmI il_X10_put_1 7 rfl) mmN) il_X10_put_2)) gw_X10_refuse
theorem gX10_put_X10_refuse : GoodIn wsX10_put (wsV RX10 69 RX10 yX10_refuse wsX10_refuse) := goodIn_app (goodIn_sub (mmC (mmI il_X10_put_1 2 rfl) (mmC (mmI il_X10_put_1 3 rfl) (mmC (mmI il_X10_put_1 4 rfl) (mmC (mmI il_X10_put_1 5 rfl) mmN)))) (by decide +kernel)) ggX10_put_X10_refuse
theorem dX10_put_0 : decode cX10_put 0 = .ok (.aload_n 0, 1) := by decide +kernel
theorem dX10_put_1 : decode cX10_put 1 = .ok (.getfield 353, 3) := by decide +kernel
theorem dX10_put_4 : decode cX10_put 4 = .ok (.bipush 12, 2) := by decide +kernel
theorem dX10_put_6 : decode cX10_put 6 = .ok (.if_icmp .lt 10, 3) := by decide +kernel
theorem dX10_put_9 : decode cX10_put 9 = .ok (.aload_n 0, 1) := by decide +kernel
theorem dX10_put_10 : decode cX10_put 10 = .ok (.bipush (-6), 2) := by decide +kernel
theorem dX10_put_12 : decode cX10_put 12 = .ok (.invokevirtual 69, 3) := by decide +kernel
theorem dX10_put_15 : decode cX10_put 15 = .ok (.ireturn, 1) := by decide +kernel
theorem dX10_put_16 : decode cX10_put 16 = .ok (.aload_n 0, 1) := by decide +kernel
theorem dX10_put_17 : decode cX10_put 17 = .ok (.getfield 63, 3) := by decide +kernel
theorem dX10_put_20 : decode cX10_put 20 = .ok (.aload_n 0, 1) := by decide +kernel
theorem dX10_put_21 : decode cX10_put 21 = .ok (.getfield 353, 3) := by decide +kernel
theorem dX10_put_24 : decode cX10_put 24 = .ok (.iload_n 1, 1) := by decide +kernel
theorem dX10_put_25 : decode cX10_put 25 = .ok (.iastore, 1) := by decide +kernel
theorem dX10_put_26 : decode cX10_put 26 = .ok (.aload_n 0, 1) := by decide +kernel
theorem dX10_put_27 : decode cX10_put 27 = .ok (.dup, 1) := by decide +kernel
theorem dX10_put_28 : decode cX10_put 28 = .ok (.getfield 353, 3) := by decide +kernel
theorem dX10_put_31 : decode cX10_put 31 = .ok (.iconst 1, 1) := by decide +kernel
theorem dX10_put_32 : decode cX10_put 32 = .ok (.iadd, 1) := by decide +kernel
theorem dX10_put_33 : decode cX10_put 33 = .ok (.putfield 353, 3) := by decide +kernel
theorem dX10_put_36 : decode cX10_put 36 = .ok (.aload_n 0, 1) := by decide +kernel
theorem dX10_put_37 : decode cX10_put 37 = .ok (.getfield 353, 3) := by decide +kernel
theorem dX10_put_40 : decode cX10_put 40 = .ok (.ireturn, 1) := by decide +kernel
theorem dX10_refuse_0 : decode cX10_refuse 0 = .ok (.aload_n 0, 1) := by decide +kernel
theorem dX10_refuse_1 : decode cX10_refuse 1 = .ok (.getfield 66, 3) := by decide +kernel
theorem dX10_refuse_4 : decode cX10_refuse 4 = .ok (.iload_n 1, 1) := by decide +kernel
theorem dX10_refuse_5 : decode cX10_refuse 5 = .ok (.ineg, 1) := by decide +kernel
theorem dX10_refuse_6 : decode cX10_refuse 6 = .ok (.dup2, 1) := by decide +kernel
theorem dX10_refuse_7 : decode cX10_refuse 7 = .ok (.iaload, 1) := by decide +kernel
theorem dX10_refuse_8 : decode cX10_refuse 8 = .ok (.iconst 1, 1) := by decide +kernel
theorem dX10_refuse_9 : decode cX10_refuse 9 = .ok (.iadd, 1) := by decide +kernel
theorem dX10_refuse_10 : decode cX10_refuse 10 = .ok (.iastore, 1) := by decide +kernel
theorem dX10_refuse_11 : decode cX10_refuse 11 = .ok (.iload_n 1, 1) := by decide +kernel
theorem dX10_refuse_12 : decode cX10_refuse 12 = .ok (.ireturn, 1) := by decide +kernel
theorem dX10_isPort_0 : decode cX10_isPort 0 = .ok (.iload_n 0, 1) := by decide +kernel
theorem dX10_isPort_1 : decode cX10_isPort 1 = .ok (.ifCond .lt 13, 3) := by decide +kernel
theorem dX10_isPort_4 : decode cX10_isPort 4 = .ok (.iload_n 0, 1) := by decide +kernel
theorem dX10_isPort_5 : decode cX10_isPort 5 = .ok (.bipush 10, 2) := by decide +kernel
theorem dX10_isPort_7 : decode cX10_isPort 7 = .ok (.if_icmp .ge 7, 3) := by decide +kernel
theorem dX10_isPort_10 : decode cX10_isPort 10 = .ok (.iconst 1, 1) := by decide +kernel
theorem dX10_isPort_11 : decode cX10_isPort 11 = .ok (.goto 4, 3) := by decide +kernel
theorem dX10_isPort_14 : decode cX10_isPort 14 = .ok (.iconst 0, 1) := by decide +kernel
theorem dX10_isPort_15 : decode cX10_isPort 15 = .ok (.ireturn, 1) := by decide +kernel
theorem dX10_manAt_0 : decode cX10_manAt 0 = .ok (.iload_n 1, 1) := by decide +kernel
theorem dX10_manAt_1 : decode cX10_manAt 1 = .ok (.ifCond .lt 11, 3) := by decide +kernel
theorem dX10_manAt_4 : decode cX10_manAt 4 = .ok (.iload_n 1, 1) := by decide +kernel
theorem dX10_manAt_5 : decode cX10_manAt 5 = .ok (.aload_n 0, 1) := by decide +kernel
theorem dX10_manAt_6 : decode cX10_manAt 6 = .ok (.getfield 86, 3) := by decide +kernel
theorem dX10_manAt_9 : decode cX10_manAt 9 = .ok (.if_icmp .lt 7, 3) := by decide +kernel
theorem dX10_manAt_12 : decode cX10_manAt 12 = .ok (.aconst_null, 1) := by decide +kernel
theorem dX10_manAt_13 : decode cX10_manAt 13 = .ok (.goto 9, 3) := by decide +kernel
theorem dX10_manAt_16 : decode cX10_manAt 16 = .ok (.aload_n 0, 1) := by decide +kernel
theorem dX10_manAt_17 : decode cX10_manAt 17 = .ok (.getfield 11, 3) := by decide +kernel
theorem dX10_manAt_20 : decode cX10_manAt 20 = .ok (.iload_n 1, 1) := by decide +kernel
theorem dX10_manAt_21 : decode cX10_manAt 21 = .ok (.aaload, 1) := by decide +kernel
theorem dX10_manAt_22 : decode cX10_manAt 22 = .ok (.areturn, 1) := by decide +kernel
theorem dX10_voyageAt_0 : decode cX10_voyageAt 0 = .ok (.iload_n 1, 1) := by decide +kernel
theorem dX10_voyageAt_1 : decode cX10_voyageAt 1 = .ok (.ifCond .lt 11, 3) := by decide +kernel
theorem dX10_voyageAt_4 : decode cX10_voyageAt 4 = .ok (.iload_n 1, 1) := by decide +kernel
theorem dX10_voyageAt_5 : decode cX10_voyageAt 5 = .ok (.aload_n 0, 1) := by decide +kernel
theorem dX10_voyageAt_6 : decode cX10_voyageAt 6 = .ok (.getfield 99, 3) := by decide +kernel
theorem dX10_voyageAt_9 : decode cX10_voyageAt 9 = .ok (.if_icmp .lt 7, 3) := by decide +kernel
theorem dX10_voyageAt_12 : decode cX10_voyageAt 12 = .ok (.aconst_null, 1) := by decide +kernel
theorem dX10_voyageAt_13 : decode cX10_voyageAt 13 = .ok (.goto 9, 3) := by decide +kernel
theorem dX10_voyageAt_16 : decode cX10_voyageAt 16 = .ok (.aload_n 0, 1) := by decide +kernel
theorem dX10_voyageAt_17 : decode cX10_voyageAt 17 = .ok (.getfield 17, 3) := by decide +kernel
theorem dX10_voyageAt_20 : decode cX10_voyageAt 20 = .ok (.iload_n 1, 1) := by decide +kernel
theorem dX10_voyageAt_21 : decode cX10_voyageAt 21 = .ok (.aaload, 1) := by decide +kernel
theorem dX10_voyageAt_22 : decode cX10_voyageAt 22 = .ok (.areturn, 1) := by decide +kernel
theorem dX10_agreementAt_0 : decode cX10_agreementAt 0 = .ok (.iload_n 1, 1) := by decide +kernel
theorem dX10_agreementAt_1 : decode cX10_agreementAt 1 = .ok (.ifCond .lt 11, 3) := by decide +kernel
theorem dX10_agreementAt_4 : decode cX10_agreementAt 4 = .ok (.iload_n 1, 1) := by decide +kernel
theorem dX10_agreementAt_5 : decode cX10_agreementAt 5 = .ok (.aload_n 0, 1) := by decide +kernel
theorem dX10_agreementAt_6 : decode cX10_agreementAt 6 = .ok (.getfield 115, 3) := by decide +kernel
theorem dX10_agreementAt_9 : decode cX10_agreementAt 9 = .ok (.if_icmp .lt 7, 3) := by decide +kernel
theorem dX10_agreementAt_12 : decode cX10_agreementAt 12 = .ok (.aconst_null, 1) := by decide +kernel
theorem dX10_agreementAt_13 : decode cX10_agreementAt 13 = .ok (.goto 9, 3) := by decide +kernel
theorem dX10_agreementAt_16 : decode cX10_agreementAt 16 = .ok (.aload_n 0, 1) := by decide +kernel
theorem dX10_agreementAt_17 : decode cX10_agreementAt 17 = .ok (.getfield 23, 3) := by decide +kernel
theorem dX10_agreementAt_20 : decode cX10_agreementAt 20 = .ok (.iload_n 1, 1) := by decide +kernel
theorem dX10_agreementAt_21 : decode cX10_agreementAt 21 = .ok (.aaload, 1) := by decide +kernel
theorem dX10_agreementAt_22 : decode cX10_agreementAt 22 = .ok (.areturn, 1) := by decide +kernel
theorem in_wsX10_refuse_X10 : ∀ w ∈ wsX100, w ∈ wsX10_refuse := fun w h => List.mem_cons_of_mem _ (List.mem_append_right _ h)
theorem in_wsX10_manAt_X10 : ∀ w ∈ wsX100, w ∈ wsX10_manAt := fun w h => List.mem_cons_of_mem _ (List.mem_append_right _ h)
theorem in_wsX10_voyageAt_X10 : ∀ w ∈ wsX100, w ∈ wsX10_voyageAt := fun w h => List.mem_cons_of_mem _ (List.mem_append_right _ h)
theorem in_wsX10_agreementAt_X10 : ∀ w ∈ wsX100, w ∈ wsX10_agreementAt := fun w h => List.mem_cons_of_mem _ (List.mem_append_right _ h)
theorem in_wsX10_put_X10 : ∀ w ∈ wsX100, w ∈ wsX10_put := fun w h => List.mem_cons_of_mem _ (List.mem_append_right _ h)

theorem mmin_i {x y z : Int32} (e : z = if y < x then y else x) : z.toInt ≤ x.toInt ∧ z.toInt ≤ y.toInt ∧ (z.toInt = x.toInt ∨ z.toInt = y.toInt) := by
  subst e
  split
  · rename_i h; have := Int32.lt_iff_toInt_lt.mp h; omega
  · rename_i h; have : ¬ y.toInt < x.toInt := fun q => h (Int32.lt_iff_toInt_lt.mpr q); omega
theorem mmax_i {x y z : Int32} (e : z = if x < y then y else x) : x.toInt ≤ z.toInt ∧ y.toInt ≤ z.toInt ∧ (z.toInt = x.toInt ∨ z.toInt = y.toInt) := by
  subst e
  split
  · rename_i h; have := Int32.lt_iff_toInt_lt.mp h; omega
  · rename_i h; have : ¬ x.toInt < y.toInt := fun q => h (Int32.lt_iff_toInt_lt.mpr q); omega
def oR (S : oS) (r : Option Nat) : Nat := match r with
  | none => 0
  | some b => oG S b + 1
theorem ar_len {S : oS} {b lo hi B : Nat} (h : b ∈ oL S ∧ lo ≤ oK S b ∧ oK S b ≤ hi) (h1 : B ≤ lo) : ∃ n, (lo - B ≤ n ∧ n ≤ hi - B) ∧ oty S b (B + n) := ⟨oK S b - B, by omega, h.1, by omega⟩
theorem cnt_at {S : oS} {a i : Nat} {x : Int32} (h : x.toInt = (oI S a i).toInt) : x.toNatClampNeg = (oI S a i).toNatClampNeg := by
  rw [Int32.toInt_inj.mp h]