def tyX10 : Nat → FieldType := fun k => match k with
  | 0 => .int
  | 1 => .array (.object "ShipOffice$Man")
  | 2 => .int
  | 3 => .array (.object "ShipOffice$Voyage")
  | 4 => .int
  | 5 => .array (.object "ShipOffice$Agreement")
  | 6 => .int
  | 7 => .int
  | 8 => .object "ShipOffice$Law"
  | 9 => .object "ShipOffice$Tape"
  | 10 => .object "ShipOffice$Sea"
  | 11 => .object "ShipOffice$Hiring"
  | 12 => .array .int
  | 13 => .array .int
  | 14 => .int
  | _ => .array .int
abbrev wsX100 : List Cond := u_ws RX10 TX10 16
theorem nmX10 : ∀ a, a < 16 → ∀ b, b < 16 → a ≠ b → (TX10 a).2.1 ≠ (TX10 b).2.1 := by decide +kernel
theorem tyX10_ok : ∀ k, k < 16 → parseFieldDescriptor (TX10 k).2.2.1 = some (tyX10 k) := by decide +kernel
abbrev cX10_put : ByteArray := prog_1_method_34_code
def yX10_put : MethodName := ⟨RX10, "put", "(I)I"⟩
abbrev cX10_refuse : ByteArray := prog_1_method_37_code
def yX10_refuse : MethodName := ⟨RX10, "refuse", "(I)I"⟩
abbrev cX10_isPort : ByteArray := prog_1_method_38_code
def yX10_isPort : MethodName := ⟨RX10, "isPort", "(I)Z"⟩
abbrev cX10_manAt : ByteArray := prog_1_method_39_code
def yX10_manAt : MethodName := ⟨RX10, "manAt", "(I)LShipOffice$Man;"⟩
abbrev cX10_voyageAt : ByteArray := prog_1_method_40_code
def yX10_voyageAt : MethodName := ⟨RX10, "voyageAt", "(I)LShipOffice$Voyage;"⟩
abbrev cX10_agreementAt : ByteArray := prog_1_method_41_code
def yX10_agreementAt : MethodName := ⟨RX10, "agreementAt", "(I)LShipOffice$Agreement;"⟩
def wsX10_refuse : List Cond := .code yX10_refuse cX10_refuse 2 (some .int) :: ([.fieldLink RX10 66 "ShipOffice" "refusals" "[I"] ++ wsX100)
theorem gw_X10_refuse : wsX10_refuse.all goodWord = true := by decide +kernel
theorem il_X10_refuse_1 : ∀ w ∈ ([.fieldLink RX10 66 "ShipOffice" "refusals" "[I"] : List Cond), w ∈ wsX10_refuse := fun w h => (List.mem_cons_of_mem _ (List.mem_append_left _ h))
theorem iw_X10_refuse_1 : Cond.fieldLink RX10 66 "ShipOffice" "refusals" "[I" ∈ wsX10_refuse := (mmI il_X10_refuse_1 0 rfl)
def wsX10_isPort : List Cond := .code yX10_isPort cX10_isPort 1 (some .boolean) :: ([])
def wsX10_voyageAt : List Cond := .code yX10_voyageAt cX10_voyageAt 2 (some (.object "ShipOffice$Voyage")) :: ([.fieldLink RX10 99 "ShipOffice" "voyageCount" "I", .fieldLink RX10 17 "ShipOffice" "voyages" "[LShipOffice$Voyage;"] ++ wsX100)
theorem il_X10_voyageAt_1 : ∀ w ∈ ([.fieldLink RX10 99 "ShipOffice" "voyageCount" "I", .fieldLink RX10 17 "ShipOffice" "voyages" "[LShipOffice$Voyage;"] : List Cond), w ∈ wsX10_voyageAt := fun w h => (List.mem_cons_of_mem _ (List.mem_append_left _ h))
theorem iw_X10_voyageAt_1 : Cond.fieldLink RX10 99 "ShipOffice" "voyageCount" "I" ∈ wsX10_voyageAt := (mmI il_X10_voyageAt_1 0 rfl)
theorem iw_X10_voyageAt_2 : Cond.fieldLink RX10 17 "ShipOffice" "voyages" "[LShipOffice$Voyage;" ∈ wsX10_voyageAt := (mmI il_X10_voyageAt_1 1 rfl)
def wsX10_agreementAt : List Cond := .code yX10_agreementAt cX10_agreementAt 2 (some (.object "ShipOffice$Agreement")) :: ([.fieldLink RX10 115 "ShipOffice" "agreementCount" "I", .fieldLink RX10 23 "ShipOffice" "agreements" "[LShipOffice$Agreement;"] ++ wsX100)
theorem il_X10_agreementAt_1 : ∀ w ∈ ([.fieldLink RX10 115 "ShipOffice" "agreementCount" "I", .fieldLink RX10 23 "ShipOffice" "agreements" "[LShipOffice$Agreement;"] : List Cond), w ∈ wsX10_agreementAt := fun w h => (List.mem_cons_of_mem _ (List.mem_append_left _ h))
theorem iw_X10_agreementAt_1 : Cond.fieldLink RX10 115 "ShipOffice" "agreementCount" "I" ∈ wsX10_agreementAt := (mmI il_X10_agreementAt_1 0 rfl)
theorem iw_X10_agreementAt_2 : Cond.fieldLink RX10 23 "ShipOffice" "agreements" "[LShipOffice$Agreement;" ∈ wsX10_agreementAt := (mmI il_X10_agreementAt_1 1 rfl)
def wsX10_manAt : List Cond := .code yX10_manAt cX10_manAt 2 (some (.object "ShipOffice$Man")) :: ([.fieldLink RX10 86 "ShipOffice" "manCount" "I", .fieldLink RX10 11 "ShipOffice" "men" "[LShipOffice$Man;"] ++ wsX100)
theorem il_X10_manAt_1 : ∀ w ∈ ([.fieldLink RX10 86 "ShipOffice" "manCount" "I", .fieldLink RX10 11 "ShipOffice" "men" "[LShipOffice$Man;"] : List Cond), w ∈ wsX10_manAt := fun w h => (List.mem_cons_of_mem _ (List.mem_append_left _ h))
theorem iw_X10_manAt_1 : Cond.fieldLink RX10 86 "ShipOffice" "manCount" "I" ∈ wsX10_manAt := (mmI il_X10_manAt_1 0 rfl)
theorem iw_X10_manAt_2 : Cond.fieldLink RX10 11 "ShipOffice" "men" "[LShipOffice$Man;" ∈ wsX10_manAt := (mmI il_X10_manAt_1 1 rfl)
def wsX10_put : List Cond := .code yX10_put cX10_put 2 (some .int) :: ([.fieldLink RX10 353 "ShipOffice" "rowCount" "I", .fieldLink RX10 63 "ShipOffice" "row" "[I", .methodLink RX10 69 yX10_refuse, .instanceMethod yX10_refuse, .selects RX10 yX10_refuse yX10_refuse, .initialized RX10, .code yX10_refuse cX10_refuse 2 (some .int), .fieldLink RX10 66 "ShipOffice" "refusals" "[I"] ++ wsX100)
theorem il_X10_put_1 : ∀ w ∈ ([.fieldLink RX10 353 "ShipOffice" "rowCount" "I", .fieldLink RX10 63 "ShipOffice" "row" "[I", .methodLink RX10 69 yX10_refuse, .instanceMethod yX10_refuse, .selects RX10 yX10_refuse yX10_refuse, .initialized RX10, .code yX10_refuse cX10_refuse 2 (some .int), .fieldLink RX10 66 "ShipOffice" "refusals" "[I"] : List Cond), w ∈ wsX10_put := fun w h => (List.mem_cons_of_mem _ (List.mem_append_left _ h))
theorem il_X10_put_2 : ∀ w ∈ wsX100, w ∈ wsX10_put := fun w h => (List.mem_cons_of_mem _ (List.mem_append_right _ h))
theorem iw_X10_put_1 : Cond.fieldLink RX10 353 "ShipOffice" "rowCount" "I" ∈ wsX10_put := (mmI il_X10_put_1 0 rfl)
theorem iw_X10_put_2 : Cond.fieldLink RX10 63 "ShipOffice" "row" "[I" ∈ wsX10_put := (mmI il_X10_put_1 1 rfl)
set_option maxRecDepth 100000 in
theorem ggX10_put_X10_refuse : GoodIn wsX10_put wsX10_refuse := goodIn_sub (mmC (mmI il_X10_put_1 6 rfl) (mmA (mmC (mmI il_X10_put_1 7 rfl) mmN) il_X10_put_2)) gw_X10_refuse
theorem gX10_put_X10_refuse : GoodIn wsX10_put (wsV RX10 69 RX10 yX10_refuse wsX10_refuse) := goodIn_app (goodIn_sub (mmC (mmI il_X10_put_1 2 rfl) (mmC (mmI il_X10_put_1 3 rfl) (mmC (mmI il_X10_put_1 4 rfl) (mmC (mmI il_X10_put_1 5 rfl) mmN)))) (by decide +kernel)) ggX10_put_X10_refuse
theorem dX10_put_0 : decode cX10_put 0 = .ok (.aload_n 0, 1) := by decide +kernel
theorem dX10_put_1 : decode cX10_put 1 = .ok (.getfield 353, 3) := by decide +kernel
theorem dX10_put_4 : decode cX10_put 4 = .ok (.bipush 12, 2) := by decide +kernel
theorem dX10_put_6 : decode cX10_put 6 = .ok (.if_icmp .lt 10, 3) := by decide +kernel
theorem dX10_put_9 : decode cX10_put 9 = .ok (.aload_n 0, 1) := by decide +kernel
theorem dX10_put_10 : decode cX10_put 10 = .ok (.bipush (-6), 2) := by decide +kernel
theorem dX10_put_12 : decode cX10_put 12 = .ok (.invokevirtual 69, 3) := by decide +kernel
theorem dX10_put_15 : decode cX10_put 15 = .ok (.ireturn, 1) := by decide +kernel
theorem dX10_put_16 : decode cX10_put 16 = .ok (.aload_n 0, 1) := by decide +kernel
theorem dX10_put_17 : decode cX10_put 17 = .ok (.getfield 63, 3) := by decide +kernel
theorem dX10_put_20 : decode cX10_put 20 = .ok (.aload_n 0, 1) := by decide +kernel
theorem dX10_put_21 : decode cX10_put 21 = .ok (.getfield 353, 3) := by decide +kernel
theorem dX10_put_24 : decode cX10_put 24 = .ok (.iload_n 1, 1) := by decide +kernel
theorem dX10_put_25 : decode cX10_put 25 = .ok (.iastore, 1) := by decide +kernel
theorem dX10_put_26 : decode cX10_put 26 = .ok (.aload_n 0, 1) := by decide +kernel
theorem dX10_put_27 : decode cX10_put 27 = .ok (.dup, 1) := by decide +kernel
theorem dX10_put_28 : decode cX10_put 28 = .ok (.getfield 353, 3) := by decide +kernel
theorem dX10_put_31 : decode cX10_put 31 = .ok (.iconst 1, 1) := by decide +kernel
theorem dX10_put_32 : decode cX10_put 32 = .ok (.iadd, 1) := by decide +kernel
theorem dX10_put_33 : decode cX10_put 33 = .ok (.putfield 353, 3) := by decide +kernel
theorem dX10_put_36 : decode cX10_put 36 = .ok (.aload_n 0, 1) := by decide +kernel
theorem dX10_put_37 : decode cX10_put 37 = .ok (.getfield 353, 3) := by decide +kernel
theorem dX10_put_40 : decode cX10_put 40 = .ok (.ireturn, 1) := by decide +kernel
theorem dX10_refuse_0 : decode cX10_refuse 0 = .ok (.aload_n 0, 1) := by decide +kernel
theorem dX10_refuse_1 : decode cX10_refuse 1 = .ok (.getfield 66, 3) := by decide +kernel
theorem dX10_refuse_4 : decode cX10_refuse 4 = .ok (.iload_n 1, 1) := by decide +kernel
theorem dX10_refuse_5 : decode cX10_refuse 5 = .ok (.ineg, 1) := by decide +kernel
theorem dX10_refuse_6 : decode cX10_refuse 6 = .ok (.dup2, 1) := by decide +kernel
theorem dX10_refuse_7 : decode cX10_refuse 7 = .ok (.iaload, 1) := by decide +kernel
theorem dX10_refuse_8 : decode cX10_refuse 8 = .ok (.iconst 1, 1) := by decide +kernel
theorem dX10_refuse_9 : decode cX10_refuse 9 = .ok (.iadd, 1) := by decide +kernel
theorem dX10_refuse_10 : decode cX10_refuse 10 = .ok (.iastore, 1) := by decide +kernel
theorem dX10_refuse_11 : decode cX10_refuse 11 = .ok (.iload_n 1, 1) := by decide +kernel
theorem dX10_refuse_12 : decode cX10_refuse 12 = .ok (.ireturn, 1) := by decide +kernel
theorem dX10_isPort_0 : decode cX10_isPort 0 = .ok (.iload_n 0, 1) := by decide +kernel
theorem dX10_isPort_1 : decode cX10_isPort 1 = .ok (.ifCond .lt 13, 3) := by decide +kernel
theorem dX10_isPort_4 : decode cX10_isPort 4 = .ok (.iload_n 0, 1) := by decide +kernel
theorem dX10_isPort_5 : decode cX10_isPort 5 = .ok (.bipush 10, 2) := by decide +kernel
theorem dX10_isPort_7 : decode cX10_isPort 7 = .ok (.if_icmp .ge 7, 3) := by decide +kernel
theorem dX10_isPort_10 : decode cX10_isPort 10 = .ok (.iconst 1, 1) := by decide +kernel
theorem dX10_isPort_11 : decode cX10_isPort 11 = .ok (.goto 4, 3) := by decide +kernel
theorem dX10_isPort_14 : decode cX10_isPort 14 = .ok (.iconst 0, 1) := by decide +kernel
theorem dX10_isPort_15 : decode cX10_isPort 15 = .ok (.ireturn, 1) := by decide +kernel
theorem dX10_manAt_0 : decode cX10_manAt 0 = .ok (.iload_n 1, 1) := by decide +kernel
theorem dX10_manAt_1 : decode cX10_manAt 1 = .ok (.ifCond .lt 11, 3) := by decide +kernel
theorem dX10_manAt_4 : decode cX10_manAt 4 = .ok (.iload_n 1, 1) := by decide +kernel
theorem dX10_manAt_5 : decode cX10_manAt 5 = .ok (.aload_n 0, 1) := by decide +kernel
theorem dX10_manAt_6 : decode cX10_manAt 6 = .ok (.getfield 86, 3) := by decide +kernel
theorem dX10_manAt_9 : decode cX10_manAt 9 = .ok (.if_icmp .lt 7, 3) := by decide +kernel
theorem dX10_manAt_12 : decode cX10_manAt 12 = .ok (.aconst_null, 1) := by decide +kernel
theorem dX10_manAt_13 : decode cX10_manAt 13 = .ok (.goto 9, 3) := by decide +kernel
theorem dX10_manAt_16 : decode cX10_manAt 16 = .ok (.aload_n 0, 1) := by decide +kernel
theorem dX10_manAt_17 : decode cX10_manAt 17 = .ok (.getfield 11, 3) := by decide +kernel
theorem dX10_manAt_20 : decode cX10_manAt 20 = .ok (.iload_n 1, 1) := by decide +kernel
theorem dX10_manAt_21 : decode cX10_manAt 21 = .ok (.aaload, 1) := by decide +kernel
theorem dX10_manAt_22 : decode cX10_manAt 22 = .ok (.areturn, 1) := by decide +kernel
theorem dX10_voyageAt_0 : decode cX10_voyageAt 0 = .ok (.iload_n 1, 1) := by decide +kernel
theorem dX10_voyageAt_1 : decode cX10_voyageAt 1 = .ok (.ifCond .lt 11, 3) := by decide +kernel
theorem dX10_voyageAt_4 : decode cX10_voyageAt 4 = .ok (.iload_n 1, 1) := by decide +kernel
theorem dX10_voyageAt_5 : decode cX10_voyageAt 5 = .ok (.aload_n 0, 1) := by decide +kernel
theorem dX10_voyageAt_6 : decode cX10_voyageAt 6 = .ok (.getfield 99, 3) := by decide +kernel
theorem dX10_voyageAt_9 : decode cX10_voyageAt 9 = .ok (.if_icmp .lt 7, 3) := by decide +kernel
theorem dX10_voyageAt_12 : decode cX10_voyageAt 12 = .ok (.aconst_null, 1) := by decide +kernel
theorem dX10_voyageAt_13 : decode cX10_voyageAt 13 = .ok (.goto 9, 3) := by decide +kernel
theorem dX10_voyageAt_16 : decode cX10_voyageAt 16 = .ok (.aload_n 0, 1) := by decide +kernel
theorem dX10_voyageAt_17 : decode cX10_voyageAt 17 = .ok (.getfield 17, 3) := by decide +kernel
theorem dX10_voyageAt_20 : decode cX10_voyageAt 20 = .ok (.iload_n 1, 1) := by decide +kernel
theorem dX10_voyageAt_21 : decode cX10_voyageAt 21 = .ok (.aaload, 1) := by decide +kernel
theorem dX10_voyageAt_22 : decode cX10_voyageAt 22 = .ok (.areturn, 1) := by decide +kernel
theorem dX10_agreementAt_0 : decode cX10_agreementAt 0 = .ok (.iload_n 1, 1) := by decide +kernel
theorem dX10_agreementAt_1 : decode cX10_agreementAt 1 = .ok (.ifCond .lt 11, 3) := by decide +kernel
theorem dX10_agreementAt_4 : decode cX10_agreementAt 4 = .ok (.iload_n 1, 1) := by decide +kernel
theorem dX10_agreementAt_5 : decode cX10_agreementAt 5 = .ok (.aload_n 0, 1) := by decide +kernel
theorem dX10_agreementAt_6 : decode cX10_agreementAt 6 = .ok (.getfield 115, 3) := by decide +kernel
theorem dX10_agreementAt_9 : decode cX10_agreementAt 9 = .ok (.if_icmp .lt 7, 3) := by decide +kernel
theorem dX10_agreementAt_12 : decode cX10_agreementAt 12 = .ok (.aconst_null, 1) := by decide +kernel
theorem dX10_agreementAt_13 : decode cX10_agreementAt 13 = .ok (.goto 9, 3) := by decide +kernel
theorem dX10_agreementAt_16 : decode cX10_agreementAt 16 = .ok (.aload_n 0, 1) := by decide +kernel
theorem dX10_agreementAt_17 : decode cX10_agreementAt 17 = .ok (.getfield 23, 3) := by decide +kernel
theorem dX10_agreementAt_20 : decode cX10_agreementAt 20 = .ok (.iload_n 1, 1) := by decide +kernel
theorem dX10_agreementAt_21 : decode cX10_agreementAt 21 = .ok (.aaload, 1) := by decide +kernel
theorem dX10_agreementAt_22 : decode cX10_agreementAt 22 = .ok (.areturn, 1) := by decide +kernel
theorem in_wsX10_refuse_X10 : ∀ w ∈ wsX100, w ∈ wsX10_refuse := fun w h => List.mem_cons_of_mem _ (List.mem_append_right _ h)
theorem in_wsX10_manAt_X10 : ∀ w ∈ wsX100, w ∈ wsX10_manAt := fun w h => List.mem_cons_of_mem _ (List.mem_append_right _ h)
theorem in_wsX10_voyageAt_X10 : ∀ w ∈ wsX100, w ∈ wsX10_voyageAt := fun w h => List.mem_cons_of_mem _ (List.mem_append_right _ h)
theorem in_wsX10_agreementAt_X10 : ∀ w ∈ wsX100, w ∈ wsX10_agreementAt := fun w h => List.mem_cons_of_mem _ (List.mem_append_right _ h)
theorem in_wsX10_put_X10 : ∀ w ∈ wsX100, w ∈ wsX10_put := fun w h => List.mem_cons_of_mem _ (List.mem_append_right _ h)

theorem mmin_i {x y z : Int32} (e : z = if y < x then y else x) : z.toInt ≤ x.toInt ∧ z.toInt ≤ y.toInt ∧ (z.toInt = x.toInt ∨ z.toInt = y.toInt) := by
  subst e
  split
  · rename_i h; have := Int32.lt_iff_toInt_lt.mp h; omega
  · rename_i h; have : ¬ y.toInt < x.toInt := fun q => h (Int32.lt_iff_toInt_lt.mpr q); omega
theorem mmax_i {x y z : Int32} (e : z = if x < y then y else x) : x.toInt ≤ z.toInt ∧ y.toInt ≤ z.toInt ∧ (z.toInt = x.toInt ∨ z.toInt = y.toInt) := by
  subst e
  split
  · rename_i h; have := Int32.lt_iff_toInt_lt.mp h; omega
  · rename_i h; have : ¬ x.toInt < y.toInt := fun q => h (Int32.lt_iff_toInt_lt.mpr q); omega
def oR (S : oS) (r : Option Nat) : Nat := match r with
  | none => 0
  | some b => oG S b + 1
theorem ar_len {S : oS} {b lo hi B : Nat} (h : b ∈ oL S ∧ lo ≤ oK S b ∧ oK S b ≤ hi) (h1 : B ≤ lo) : ∃ n, (lo - B ≤ n ∧ n ≤ hi - B) ∧ oty S b (B + n) := ⟨oK S b - B, by omega, h.1, by omega⟩
theorem cnt_at {S : oS} {a i : Nat} {x : Int32} (h : x.toInt = (oI S a i).toInt) : x.toNatClampNeg = (oI S a i).toNatClampNeg := by
  rw [Int32.toInt_inj.mp h]
set_option maxHeartbeats 4000000 in
set_option maxRecDepth 100000 in
theorem c_X10_refuse (l : Launch) (dC : Nat → ClassId) (dI : Nat → Nat → Nat) (sz : Nat) (cq : Nat → ClassId) (Z : oS) (gI : oInv Z) (o : Nat) (to : oty Z o 10) (x1 : Int32) (hx1 : -6 ≤ x1.toInt ∧ x1.toInt ≤ 0) : Met l yX10_refuse wsX10_refuse ({ frames := 0, cells := 0, slots := 0, locals := 0 }) (va_Pc [.ref o, .int x1] (pcW (dC, dI) (oT cq) (oW cq Z) sz)) (va_Qi (fun (r : Int32) (u : oS) => oInv u ∧ oX [2107] Z u ∧ (-6 ≤ r.toInt ∧ r.toInt ≤ 0) ∧ (r = x1)) (fun u t => va_P (dC, dI) vwCl (oW cq u) t.heap ∧ va_K (dC, dI) vwCl (oT cq) t ∧ va_D (va_A (oW cq Z) sz) (oW cq u)) (va_A (oW cq Z) sz)) 0 0 (va_A (oW cq Z) sz) := by
  refine Met.ofW (cc := cX10_refuse) (maxL := 2) (ret := (some .int)) (by decide +kernel) rfl ?_
  intro p e s m args below meth c s₁ B hml hv
  obtain ⟨rfl, hsz, hP, hK, hD0⟩ := hv
  have hx := B.exec
  have hb := B.bytes
  have hr := B.returns
  have hts := atoms_spec (ws := wsX10_refuse) B.pre
  have hown : s.vm.findClass RX10 = some m.cls := findClass_of_methodNamed B.named
  have hlocks := B.notSynchronized
  subst hsz
  have hD := hD0.self (sz := s.heap.size)
  generalize hAe : va_A (oW cq Z) s.heap.size = A at hD ⊢
  have hA : ∀ q : Nat, s.heap.size ≤ q → A q := fun q h => by rw [← hAe]; exact Or.inr h
  have hS : va_S A s.heap s.heap [] := va_S.rf
  have hP : va_P (dC, dI) vwCl (oW cq Z) s.heap := hP
  have hl := lv_entry ([.ref o, .int x1]) (n := 2) (Nat.le_of_ble_eq_true rfl)
  rw [lg_entry_eq]
  generalize (lg_sl ([.ref o, .int x1]) ++ List.replicate (2 - (lg_sl ([.ref o, .int x1])).length) Slot.unset).toArray = ls at hl ⊢
  have hl : lv_has ls 2 [(0, .ref o), (1, .int x1)] := hl
  refine lv_aload_n hx hb dX10_refuse_0 rfl (lv_at hl 0 rfl) ?_
  obtain ⟨q_1, hq_1⟩ := og (cq := cq) to.1 (oE_10 to.2)
  obtain ⟨b_2, hb_2⟩ := oInv.nn (i := 15) gI to rfl
  refine va_get (D := (dC, dI)) (ci := 10) (v := .ref b_2) (C := RX10) (T := TX10) (N := 16) hx hb hts in_wsX10_refuse_X10 hown hK hP q_1 hq_1 rfl 15 (by decide +kernel) (hts (.fieldLink RX10 66 "ShipOffice" "refusals" "[I") iw_X10_refuse_1) (fun _ h9 => h9) (o_rd hb_2) dX10_refuse_1 ?_
  have tb_2 : oty Z b_2 107 := oInv.rd gI to.2 hb_2 rfl rfl
  refine lv_iload_n hx hb dX10_refuse_4 rfl (lv_at hl 1 rfl) ?_
  refine lv_ineg hx hb dX10_refuse_5 ?_
  refine lv_topi (fun x_3 ex_3 => ?_)
  have hx_3 : x_3.toInt = -x1.toInt := (iv_to ex_3).trans (ng_i rfl (by omega) (by omega))
  clear ex_3
  refine lv_dup2_11 hx hb dX10_refuse_6 rfl rfl ?_
  obtain ⟨q_4, hq_4⟩ := og (cq := cq) tb_2.1 (oE_a1 (n := 7) tb_2.2 (by decide +kernel))
  refine va_iald hx hb hK hP q_4 0 hq_4 rfl (vp_in_iff.mpr (by omega)) dX10_refuse_7 ?_
  refine lv_topi (fun x_5 ex_5 => ?_)
  clear ex_5
  refine lv_iconst (v := 1) hx hb dX10_refuse_8 (by decide +kernel) ?_
  refine lv_iadd hx hb dX10_refuse_9 ?_
  refine lv_topi (fun x_6 ex_6 => ?_)
  clear ex_6
  refine va_iast hx hb hK hP hD hS q_4 0 hq_4 rfl (vp_in_iff.mpr (by omega)) dX10_refuse_10 (fun H locs hP1 hD1 hS => ?_)
  obtain ⟨S_7, eS_7⟩ : ∃ zq, zq = setI Z b_2 (x_3 : Int32).toNatClampNeg x_6 := ⟨_, rfl⟩
  have hP : va_P (dC, dI) vwCl (oW cq S_7) H := by rw [eS_7]; exact cP (oset tb_2.1 hq_4 hD rfl (he_a1 (n := 7) tb_2.2 (by decide +kernel)) neI) hP1
  have hD : va_D A (oW cq S_7) := by rw [eS_7]; exact cD (oset tb_2.1 hq_4 hD rfl (he_a1 (n := 7) tb_2.2 (by decide +kernel)) neI) hD1
  clear hP1 hD1
  have hIS_7 : oInv S_7 := by rw [eS_7]; exact oInv.A (k := 107) gI tb_2.2 (by decide +kernel)
  have XS_7 : oX [2107] Z S_7 := by rw [eS_7]; exact oX.I (k := 107) (key := 2107) tb_2.2 rfl (List.mem_singleton.mpr rfl)
  have X_8 : oX [2107] Z S_7 := oX.st oX.rf XS_7 (by decide +kernel)
  refine lv_iload_n hx hb dX10_refuse_11 rfl (lv_at hl 1 rfl) ?_
  exact W.iret (v := x1) hx hb hr (fun t ht hW => ⟨⟨x1, S_7, rfl, ⟨hIS_7, X_8, (by omega), rfl⟩, ⟨by rw [ht]; exact hP, va_K.moved hW.alike hK, hD⟩⟩, hS.F ht⟩) hS.2.2 dX10_refuse_12
set_option maxHeartbeats 4000000 in
set_option maxRecDepth 100000 in
theorem c_X10_manAt (l : Launch) (dC : Nat → ClassId) (dI : Nat → Nat → Nat) (sz : Nat) (cq : Nat → ClassId) (Z : oS) (gI : oInv Z) (o : Nat) (to : oty Z o 10) (x1 : Int32) : Met l yX10_manAt wsX10_manAt ({ frames := 0, cells := 0, slots := 0, locals := 0 }) (va_Pc [.ref o, .int x1] (pcW (dC, dI) (oT cq) (oW cq Z) sz)) (va_Qq (fun (r : Option Nat) (u : Unit) => (∀ b, r = some b → oty Z b 6)) (fun _ _ => True) (va_A [] sz)) 0 0 (va_A [] sz) := by
  refine Met.ofW (cc := cX10_manAt) (maxL := 2) (ret := (some (.object "ShipOffice$Man"))) (by decide +kernel) rfl ?_
  intro p e s m args below meth c s₁ B hml hv
  obtain ⟨rfl, hsz, hP, hK, hD0⟩ := hv
  have hx := B.exec
  have hb := B.bytes
  have hr := B.returns
  have hts := atoms_spec (ws := wsX10_manAt) B.pre
  have hown : s.vm.findClass RX10 = some m.cls := findClass_of_methodNamed B.named
  have hlocks := B.notSynchronized
  subst hsz
  have hD := hD0
  generalize hAe : va_A [] s.heap.size = A at ⊢
  have hA : ∀ q : Nat, s.heap.size ≤ q → A q := fun q h => by rw [← hAe]; exact Or.inr h
  have hS : va_S A s.heap s.heap [] := va_S.rf
  have hP : va_P (dC, dI) vwCl (oW cq Z) s.heap := hP
  have hl := lv_entry ([.ref o, .int x1]) (n := 2) (Nat.le_of_ble_eq_true rfl)
  rw [lg_entry_eq]
  generalize (lg_sl ([.ref o, .int x1]) ++ List.replicate (2 - (lg_sl ([.ref o, .int x1])).length) Slot.unset).toArray = ls at hl ⊢
  have hl : lv_has ls 2 [(0, .ref o), (1, .int x1)] := hl
  refine lv_iload_n hx hb dX10_manAt_0 rfl (lv_at hl 1 rfl) ?_
  refine lv_if_lt (tgt := 12) hx hb dX10_manAt_1 (by decide +kernel) (fun c_1 => ?_) (fun c_1 => ?_)
  · have dc_1 := c_lt (a := x1.toInt) (b := 0) rfl (by decide +kernel) c_1
    refine lv_null hx hb dX10_manAt_12 ?_
    refine lv_goto (tgt := 22) hx hb dX10_manAt_13 (by decide +kernel) ?_
    exact W.aret (v := .null) hx hb hr (Or.inl ⟨_, rfl⟩) (Or.inl rfl) (fun t ht hW => ⟨⟨none, (), rfl, (fun b h => by cases h), trivial⟩, hS.F ht⟩) hS.2.2 dX10_manAt_22
  · have dc_1 := c_nlt (a := x1.toInt) (b := 0) rfl (by decide +kernel) c_1
    refine lv_iload_n hx hb dX10_manAt_4 rfl (lv_at hl 1 rfl) ?_
    refine lv_aload_n hx hb dX10_manAt_5 rfl (lv_at hl 0 rfl) ?_
    obtain ⟨q_2, hq_2⟩ := og (cq := cq) to.1 (oE_10 to.2)
    refine va_get (D := (dC, dI)) (ci := 10) (v := .int (oI Z o 2)) (C := RX10) (T := TX10) (N := 16) hx hb hts in_wsX10_manAt_X10 hown hK hP q_2 hq_2 rfl 2 (by decide +kernel) (hts (.fieldLink RX10 86 "ShipOffice" "manCount" "I") iw_X10_manAt_1) (fun _ h9 => h9) rfl dX10_manAt_6 ?_
    refine lv_topi (fun x_3 ex_3 => ?_)
    have hx_3 : 0 ≤ x_3.toInt ∧ x_3.toInt ≤ 40 := iv_of ex_3 (oInv.iv gI to.2 rfl rfl)
    have gx_3 : x_3.toInt = (oI Z o 2).toInt := iv_to ex_3
    clear ex_3
    refine lv_icmp_lt (tgt := 16) hx hb dX10_manAt_9 (by decide +kernel) (fun c_4 => ?_) (fun c_4 => ?_)
    · have dc_4 := c_lt (a := x1.toInt) (b := x_3.toInt) rfl rfl c_4
      refine lv_aload_n hx hb dX10_manAt_16 rfl (lv_at hl 0 rfl) ?_
      obtain ⟨b_5, hb_5⟩ := oInv.nn (i := 1) gI to rfl
      refine va_get (D := (dC, dI)) (ci := 10) (v := .ref b_5) (C := RX10) (T := TX10) (N := 16) hx hb hts in_wsX10_manAt_X10 hown hK hP q_2 hq_2 rfl 1 (by decide +kernel) (hts (.fieldLink RX10 11 "ShipOffice" "men" "[LShipOffice$Man;") iw_X10_manAt_2) (fun _ h9 => h9) (o_rd hb_5) dX10_manAt_17 ?_
      have tb_5 : oty Z b_5 14 := oInv.rd gI to.2 hb_5 rfl rfl
      refine lv_iload_n hx hb dX10_manAt_20 rfl (lv_at hl 1 rfl) ?_
      obtain ⟨q_6, hq_6⟩ := og (cq := cq) tb_5.1 (oE_14 tb_5.2)
      refine va_aldq hx hb hK hP q_6 3 hq_6 rfl (vp_in_iff.mpr (by omega)) dX10_manAt_21 ?_
      obtain ⟨b_7, hb_7⟩ := oInv.el (i := 2) (x := x1) gI to rfl hb_5 (by omega) (by omega)
      refine W.eq (g2 := F0 m 22 ls [.ref b_7]) (congrArg (fun z => F0 m 22 ls [va_rf z]) hb_7) ?_
      have tb_7 : oty Z b_7 6 := oInv.rd gI tb_5.2 hb_7 rfl rfl
      exact W.aret (v := .ref b_7) hx hb hr (Or.inl ⟨_, rfl⟩) (Or.inr ⟨_, rfl⟩) (fun t ht hW => ⟨⟨(some b_7), (), rfl, (fun b h => by cases h; exact tb_7), trivial⟩, hS.F ht⟩) hS.2.2 dX10_manAt_22
    · have dc_4 := c_nlt (a := x1.toInt) (b := x_3.toInt) rfl rfl c_4
      refine lv_null hx hb dX10_manAt_12 ?_
      refine lv_goto (tgt := 22) hx hb dX10_manAt_13 (by decide +kernel) ?_
      exact W.aret (v := .null) hx hb hr (Or.inl ⟨_, rfl⟩) (Or.inl rfl) (fun t ht hW => ⟨⟨none, (), rfl, (fun b h => by cases h), trivial⟩, hS.F ht⟩) hS.2.2 dX10_manAt_22
set_option maxHeartbeats 4000000 in
set_option maxRecDepth 100000 in
theorem c_X10_voyageAt (l : Launch) (dC : Nat → ClassId) (dI : Nat → Nat → Nat) (sz : Nat) (cq : Nat → ClassId) (Z : oS) (gI : oInv Z) (o : Nat) (to : oty Z o 10) (x1 : Int32) : Met l yX10_voyageAt wsX10_voyageAt ({ frames := 0, cells := 0, slots := 0, locals := 0 }) (va_Pc [.ref o, .int x1] (pcW (dC, dI) (oT cq) (oW cq Z) sz)) (va_Qq (fun (r : Option Nat) (u : Unit) => (∀ b, r = some b → oty Z b 9)) (fun _ _ => True) (va_A [] sz)) 0 0 (va_A [] sz) := by
  refine Met.ofW (cc := cX10_voyageAt) (maxL := 2) (ret := (some (.object "ShipOffice$Voyage"))) (by decide +kernel) rfl ?_
  intro p e s m args below meth c s₁ B hml hv
  obtain ⟨rfl, hsz, hP, hK, hD0⟩ := hv
  have hx := B.exec
  have hb := B.bytes
  have hr := B.returns
  have hts := atoms_spec (ws := wsX10_voyageAt) B.pre
  have hown : s.vm.findClass RX10 = some m.cls := findClass_of_methodNamed B.named
  have hlocks := B.notSynchronized
  subst hsz
  have hD := hD0
  generalize hAe : va_A [] s.heap.size = A at ⊢
  have hA : ∀ q : Nat, s.heap.size ≤ q → A q := fun q h => by rw [← hAe]; exact Or.inr h
  have hS : va_S A s.heap s.heap [] := va_S.rf
  have hP : va_P (dC, dI) vwCl (oW cq Z) s.heap := hP
  have hl := lv_entry ([.ref o, .int x1]) (n := 2) (Nat.le_of_ble_eq_true rfl)
  rw [lg_entry_eq]
  generalize (lg_sl ([.ref o, .int x1]) ++ List.replicate (2 - (lg_sl ([.ref o, .int x1])).length) Slot.unset).toArray = ls at hl ⊢
  have hl : lv_has ls 2 [(0, .ref o), (1, .int x1)] := hl
  refine lv_iload_n hx hb dX10_voyageAt_0 rfl (lv_at hl 1 rfl) ?_
  refine lv_if_lt (tgt := 12) hx hb dX10_voyageAt_1 (by decide +kernel) (fun c_1 => ?_) (fun c_1 => ?_)
  · have dc_1 := c_lt (a := x1.toInt) (b := 0) rfl (by decide +kernel) c_1
    refine lv_null hx hb dX10_voyageAt_12 ?_
    refine lv_goto (tgt := 22) hx hb dX10_voyageAt_13 (by decide +kernel) ?_
    exact W.aret (v := .null) hx hb hr (Or.inl ⟨_, rfl⟩) (Or.inl rfl) (fun t ht hW => ⟨⟨none, (), rfl, (fun b h => by cases h), trivial⟩, hS.F ht⟩) hS.2.2 dX10_voyageAt_22
  · have dc_1 := c_nlt (a := x1.toInt) (b := 0) rfl (by decide +kernel) c_1
    refine lv_iload_n hx hb dX10_voyageAt_4 rfl (lv_at hl 1 rfl) ?_
    refine lv_aload_n hx hb dX10_voyageAt_5 rfl (lv_at hl 0 rfl) ?_
    obtain ⟨q_2, hq_2⟩ := og (cq := cq) to.1 (oE_10 to.2)
    refine va_get (D := (dC, dI)) (ci := 10) (v := .int (oI Z o 4)) (C := RX10) (T := TX10) (N := 16) hx hb hts in_wsX10_voyageAt_X10 hown hK hP q_2 hq_2 rfl 4 (by decide +kernel) (hts (.fieldLink RX10 99 "ShipOffice" "voyageCount" "I") iw_X10_voyageAt_1) (fun _ h9 => h9) rfl dX10_voyageAt_6 ?_
    refine lv_topi (fun x_3 ex_3 => ?_)
    have hx_3 : 0 ≤ x_3.toInt ∧ x_3.toInt ≤ 20 := iv_of ex_3 (oInv.iv gI to.2 rfl rfl)
    have gx_3 : x_3.toInt = (oI Z o 4).toInt := iv_to ex_3
    clear ex_3
    refine lv_icmp_lt (tgt := 16) hx hb dX10_voyageAt_9 (by decide +kernel) (fun c_4 => ?_) (fun c_4 => ?_)
    · have dc_4 := c_lt (a := x1.toInt) (b := x_3.toInt) rfl rfl c_4
      refine lv_aload_n hx hb dX10_voyageAt_16 rfl (lv_at hl 0 rfl) ?_
      obtain ⟨b_5, hb_5⟩ := oInv.nn (i := 3) gI to rfl
      refine va_get (D := (dC, dI)) (ci := 10) (v := .ref b_5) (C := RX10) (T := TX10) (N := 16) hx hb hts in_wsX10_voyageAt_X10 hown hK hP q_2 hq_2 rfl 3 (by decide +kernel) (hts (.fieldLink RX10 17 "ShipOffice" "voyages" "[LShipOffice$Voyage;") iw_X10_voyageAt_2) (fun _ h9 => h9) (o_rd hb_5) dX10_voyageAt_17 ?_
      have tb_5 : oty Z b_5 15 := oInv.rd gI to.2 hb_5 rfl rfl
      refine lv_iload_n hx hb dX10_voyageAt_20 rfl (lv_at hl 1 rfl) ?_
      obtain ⟨q_6, hq_6⟩ := og (cq := cq) tb_5.1 (oE_15 tb_5.2)
      refine va_aldq hx hb hK hP q_6 4 hq_6 rfl (vp_in_iff.mpr (by omega)) dX10_voyageAt_21 ?_
      obtain ⟨b_7, hb_7⟩ := oInv.el (i := 4) (x := x1) gI to rfl hb_5 (by omega) (by omega)
      refine W.eq (g2 := F0 m 22 ls [.ref b_7]) (congrArg (fun z => F0 m 22 ls [va_rf z]) hb_7) ?_
      have tb_7 : oty Z b_7 9 := oInv.rd gI tb_5.2 hb_7 rfl rfl
      exact W.aret (v := .ref b_7) hx hb hr (Or.inl ⟨_, rfl⟩) (Or.inr ⟨_, rfl⟩) (fun t ht hW => ⟨⟨(some b_7), (), rfl, (fun b h => by cases h; exact tb_7), trivial⟩, hS.F ht⟩) hS.2.2 dX10_voyageAt_22
    · have dc_4 := c_nlt (a := x1.toInt) (b := x_3.toInt) rfl rfl c_4
      refine lv_null hx hb dX10_voyageAt_12 ?_
      refine lv_goto (tgt := 22) hx hb dX10_voyageAt_13 (by decide +kernel) ?_
      exact W.aret (v := .null) hx hb hr (Or.inl ⟨_, rfl⟩) (Or.inl rfl) (fun t ht hW => ⟨⟨none, (), rfl, (fun b h => by cases h), trivial⟩, hS.F ht⟩) hS.2.2 dX10_voyageAt_22
set_option maxHeartbeats 4000000 in
set_option maxRecDepth 100000 in
theorem c_X10_agreementAt (l : Launch) (dC : Nat → ClassId) (dI : Nat → Nat → Nat) (sz : Nat) (cq : Nat → ClassId) (Z : oS) (gI : oInv Z) (o : Nat) (to : oty Z o 10) (x1 : Int32) : Met l yX10_agreementAt wsX10_agreementAt ({ frames := 0, cells := 0, slots := 0, locals := 0 }) (va_Pc [.ref o, .int x1] (pcW (dC, dI) (oT cq) (oW cq Z) sz)) (va_Qq (fun (r : Option Nat) (u : Unit) => (∀ b, r = some b → oty Z b 1)) (fun _ _ => True) (va_A [] sz)) 0 0 (va_A [] sz) := by
  refine Met.ofW (cc := cX10_agreementAt) (maxL := 2) (ret := (some (.object "ShipOffice$Agreement"))) (by decide +kernel) rfl ?_
  intro p e s m args below meth c s₁ B hml hv
  obtain ⟨rfl, hsz, hP, hK, hD0⟩ := hv
  have hx := B.exec
  have hb := B.bytes
  have hr := B.returns
  have hts := atoms_spec (ws := wsX10_agreementAt) B.pre
  have hown : s.vm.findClass RX10 = some m.cls := findClass_of_methodNamed B.named
  have hlocks := B.notSynchronized
  subst hsz
  have hD := hD0
  generalize hAe : va_A [] s.heap.size = A at ⊢
  have hA : ∀ q : Nat, s.heap.size ≤ q → A q := fun q h => by rw [← hAe]; exact Or.inr h
  have hS : va_S A s.heap s.heap [] := va_S.rf
  have hP : va_P (dC, dI) vwCl (oW cq Z) s.heap := hP
  have hl := lv_entry ([.ref o, .int x1]) (n := 2) (Nat.le_of_ble_eq_true rfl)
  rw [lg_entry_eq]
  generalize (lg_sl ([.ref o, .int x1]) ++ List.replicate (2 - (lg_sl ([.ref o, .int x1])).length) Slot.unset).toArray = ls at hl ⊢
  have hl : lv_has ls 2 [(0, .ref o), (1, .int x1)] := hl
  refine lv_iload_n hx hb dX10_agreementAt_0 rfl (lv_at hl 1 rfl) ?_
  refine lv_if_lt (tgt := 12) hx hb dX10_agreementAt_1 (by decide +kernel) (fun c_1 => ?_) (fun c_1 => ?_)
  · have dc_1 := c_lt (a := x1.toInt) (b := 0) rfl (by decide +kernel) c_1
    refine lv_null hx hb dX10_agreementAt_12 ?_
    refine lv_goto (tgt := 22) hx hb dX10_agreementAt_13 (by decide +kernel) ?_
    exact W.aret (v := .null) hx hb hr (Or.inl ⟨_, rfl⟩) (Or.inl rfl) (fun t ht hW => ⟨⟨none, (), rfl, (fun b h => by cases h), trivial⟩, hS.F ht⟩) hS.2.2 dX10_agreementAt_22
  · have dc_1 := c_nlt (a := x1.toInt) (b := 0) rfl (by decide +kernel) c_1
    refine lv_iload_n hx hb dX10_agreementAt_4 rfl (lv_at hl 1 rfl) ?_
    refine lv_aload_n hx hb dX10_agreementAt_5 rfl (lv_at hl 0 rfl) ?_
    obtain ⟨q_2, hq_2⟩ := og (cq := cq) to.1 (oE_10 to.2)
    refine va_get (D := (dC, dI)) (ci := 10) (v := .int (oI Z o 6)) (C := RX10) (T := TX10) (N := 16) hx hb hts in_wsX10_agreementAt_X10 hown hK hP q_2 hq_2 rfl 6 (by decide +kernel) (hts (.fieldLink RX10 115 "ShipOffice" "agreementCount" "I") iw_X10_agreementAt_1) (fun _ h9 => h9) rfl dX10_agreementAt_6 ?_
    refine lv_topi (fun x_3 ex_3 => ?_)
    have hx_3 : 0 ≤ x_3.toInt ∧ x_3.toInt ≤ 60 := iv_of ex_3 (oInv.iv gI to.2 rfl rfl)
    have gx_3 : x_3.toInt = (oI Z o 6).toInt := iv_to ex_3
    clear ex_3
    refine lv_icmp_lt (tgt := 16) hx hb dX10_agreementAt_9 (by decide +kernel) (fun c_4 => ?_) (fun c_4 => ?_)
    · have dc_4 := c_lt (a := x1.toInt) (b := x_3.toInt) rfl rfl c_4
      refine lv_aload_n hx hb dX10_agreementAt_16 rfl (lv_at hl 0 rfl) ?_
      obtain ⟨b_5, hb_5⟩ := oInv.nn (i := 5) gI to rfl
      refine va_get (D := (dC, dI)) (ci := 10) (v := .ref b_5) (C := RX10) (T := TX10) (N := 16) hx hb hts in_wsX10_agreementAt_X10 hown hK hP q_2 hq_2 rfl 5 (by decide +kernel) (hts (.fieldLink RX10 23 "ShipOffice" "agreements" "[LShipOffice$Agreement;") iw_X10_agreementAt_2) (fun _ h9 => h9) (o_rd hb_5) dX10_agreementAt_17 ?_
      have tb_5 : oty Z b_5 16 := oInv.rd gI to.2 hb_5 rfl rfl
      refine lv_iload_n hx hb dX10_agreementAt_20 rfl (lv_at hl 1 rfl) ?_
      obtain ⟨q_6, hq_6⟩ := og (cq := cq) tb_5.1 (oE_16 tb_5.2)
      refine va_aldq hx hb hK hP q_6 5 hq_6 rfl (vp_in_iff.mpr (by omega)) dX10_agreementAt_21 ?_
      obtain ⟨b_7, hb_7⟩ := oInv.el (i := 6) (x := x1) gI to rfl hb_5 (by omega) (by omega)
      refine W.eq (g2 := F0 m 22 ls [.ref b_7]) (congrArg (fun z => F0 m 22 ls [va_rf z]) hb_7) ?_
      have tb_7 : oty Z b_7 1 := oInv.rd gI tb_5.2 hb_7 rfl rfl
      exact W.aret (v := .ref b_7) hx hb hr (Or.inl ⟨_, rfl⟩) (Or.inr ⟨_, rfl⟩) (fun t ht hW => ⟨⟨(some b_7), (), rfl, (fun b h => by cases h; exact tb_7), trivial⟩, hS.F ht⟩) hS.2.2 dX10_agreementAt_22
    · have dc_4 := c_nlt (a := x1.toInt) (b := x_3.toInt) rfl rfl c_4
      refine lv_null hx hb dX10_agreementAt_12 ?_
      refine lv_goto (tgt := 22) hx hb dX10_agreementAt_13 (by decide +kernel) ?_
      exact W.aret (v := .null) hx hb hr (Or.inl ⟨_, rfl⟩) (Or.inl rfl) (fun t ht hW => ⟨⟨none, (), rfl, (fun b h => by cases h), trivial⟩, hS.F ht⟩) hS.2.2 dX10_agreementAt_22
set_option maxHeartbeats 4000000 in
set_option maxRecDepth 100000 in
theorem c_X10_put (l : Launch) (dC : Nat → ClassId) (dI : Nat → Nat → Nat) (sz : Nat) (cq : Nat → ClassId) (Z : oS) (gI : oInv Z) (o : Nat) (to : oty Z o 10) (x1 : Int32) : Met l yX10_put wsX10_put ({ frames := 1, cells := 0, slots := 0, locals := 21 }) (va_Pc [.ref o, .int x1] (pcW (dC, dI) (oT cq) (oW cq Z) sz)) (va_Qi (fun (r : Int32) (u : oS) => oInv u ∧ oX [1014, 2107, 2112] Z u) (fun u t => va_P (dC, dI) vwCl (oW cq u) t.heap ∧ va_K (dC, dI) vwCl (oT cq) t ∧ va_D (va_A (oW cq Z) sz) (oW cq u)) (va_A (oW cq Z) sz)) 0 0 (va_A (oW cq Z) sz) := by
  refine Met.ofW (cc := cX10_put) (maxL := 2) (ret := (some .int)) (by decide +kernel) rfl ?_
  intro p e s m args below meth c s₁ B hml hv
  obtain ⟨rfl, hsz, hP, hK, hD0⟩ := hv
  have hx := B.exec
  have hb := B.bytes
  have hr := B.returns
  have hts := atoms_spec (ws := wsX10_put) B.pre
  have hown : s.vm.findClass RX10 = some m.cls := findClass_of_methodNamed B.named
  have hlocks := B.notSynchronized
  subst hsz
  have hD := hD0.self (sz := s.heap.size)
  generalize hAe : va_A (oW cq Z) s.heap.size = A at hD ⊢
  have hA : ∀ q : Nat, s.heap.size ≤ q → A q := fun q h => by rw [← hAe]; exact Or.inr h
  have hS : va_S A s.heap s.heap [] := va_S.rf
  have hP : va_P (dC, dI) vwCl (oW cq Z) s.heap := hP
  have hl := lv_entry ([.ref o, .int x1]) (n := 2) (Nat.le_of_ble_eq_true rfl)
  rw [lg_entry_eq]
  generalize (lg_sl ([.ref o, .int x1]) ++ List.replicate (2 - (lg_sl ([.ref o, .int x1])).length) Slot.unset).toArray = ls at hl ⊢
  have hl : lv_has ls 2 [(0, .ref o), (1, .int x1)] := hl
  refine lv_aload_n hx hb dX10_put_0 rfl (lv_at hl 0 rfl) ?_
  obtain ⟨q_1, hq_1⟩ := og (cq := cq) to.1 (oE_10 to.2)
  refine va_get (D := (dC, dI)) (ci := 10) (v := .int (oI Z o 14)) (C := RX10) (T := TX10) (N := 16) hx hb hts in_wsX10_put_X10 hown hK hP q_1 hq_1 rfl 14 (by decide +kernel) (hts (.fieldLink RX10 353 "ShipOffice" "rowCount" "I") iw_X10_put_1) (fun _ h9 => h9) rfl dX10_put_1 ?_
  refine lv_topi (fun x_2 ex_2 => ?_)
  have hx_2 : 0 ≤ x_2.toInt ∧ x_2.toInt ≤ 12 := iv_of ex_2 (oInv.iv gI to.2 rfl rfl)
  have gx_2 : x_2.toInt = (oI Z o 14).toInt := iv_to ex_2
  clear ex_2
  refine lv_bipush (v := 12) hx hb dX10_put_4 (by decide +kernel) ?_
  refine lv_icmp_lt (tgt := 16) hx hb dX10_put_6 (by decide +kernel) (fun c_3 => ?_) (fun c_3 => ?_)
  · have dc_3 := c_lt (a := x_2.toInt) (b := 12) rfl (by decide +kernel) c_3
    refine lv_aload_n hx hb dX10_put_16 rfl (lv_at hl 0 rfl) ?_
    obtain ⟨b_4, hb_4⟩ := oInv.nn (i := 13) gI to rfl
    refine va_get (D := (dC, dI)) (ci := 10) (v := .ref b_4) (C := RX10) (T := TX10) (N := 16) hx hb hts in_wsX10_put_X10 hown hK hP q_1 hq_1 rfl 13 (by decide +kernel) (hts (.fieldLink RX10 63 "ShipOffice" "row" "[I") iw_X10_put_2) (fun _ h9 => h9) (o_rd hb_4) dX10_put_17 ?_
    have tb_4 : oty Z b_4 112 := oInv.rd gI to.2 hb_4 rfl rfl
    refine lv_aload_n hx hb dX10_put_20 rfl (lv_at hl 0 rfl) ?_
    refine va_get (D := (dC, dI)) (ci := 10) (v := .int (oI Z o 14)) (C := RX10) (T := TX10) (N := 16) hx hb hts in_wsX10_put_X10 hown hK hP q_1 hq_1 rfl 14 (by decide +kernel) (hts (.fieldLink RX10 353 "ShipOffice" "rowCount" "I") iw_X10_put_1) (fun _ h9 => h9) rfl dX10_put_21 ?_
    refine lv_topi (fun x_5 ex_5 => ?_)
    have hx_5 : 0 ≤ x_5.toInt ∧ x_5.toInt ≤ 12 := iv_of ex_5 (oInv.iv gI to.2 rfl rfl)
    have gx_5 : x_5.toInt = (oI Z o 14).toInt := iv_to ex_5
    clear ex_5
    refine lv_iload_n hx hb dX10_put_24 rfl (lv_at hl 1 rfl) ?_
    obtain ⟨q_6, hq_6⟩ := og (cq := cq) tb_4.1 (oE_a1 (n := 12) tb_4.2 (by decide +kernel))
    refine va_iast hx hb hK hP hD hS q_6 0 hq_6 rfl (vp_in_iff.mpr (by omega)) dX10_put_25 (fun H locs hP1 hD1 hS => ?_)
    obtain ⟨S_7, eS_7⟩ : ∃ zq, zq = setI Z b_4 (x_5 : Int32).toNatClampNeg x1 := ⟨_, rfl⟩
    have hP : va_P (dC, dI) vwCl (oW cq S_7) H := by rw [eS_7]; exact cP (oset tb_4.1 hq_6 hD rfl (he_a1 (n := 12) tb_4.2 (by decide +kernel)) neI) hP1
    have hD : va_D A (oW cq S_7) := by rw [eS_7]; exact cD (oset tb_4.1 hq_6 hD rfl (he_a1 (n := 12) tb_4.2 (by decide +kernel)) neI) hD1
    clear hP1 hD1
    have hIS_7 : oInv S_7 := by rw [eS_7]; exact oInv.A (k := 112) gI tb_4.2 (by decide +kernel)
    have XS_7 : oX [2112] Z S_7 := by rw [eS_7]; exact oX.I (k := 112) (key := 2112) tb_4.2 rfl (List.mem_singleton.mpr rfl)
    have X_8 : oX [1014, 2107, 2112] Z S_7 := oX.st oX.rf XS_7 (by decide +kernel)
    have g_9 : (oI S_7 o 14).toInt = (oI Z o 14).toInt := by rw [eS_7, setI_oth (ty_ne to tb_4 (by decide +kernel))]
    refine lv_aload_n hx hb dX10_put_26 rfl (lv_at hl 0 rfl) ?_
    refine lv_dup hx hb dX10_put_27 rfl ?_
    have t_10 : oty S_7 o 10 := (oX.ty XS_7 to)
    obtain ⟨q_11, hq_11⟩ := og (cq := cq) t_10.1 (oE_10 t_10.2)
    refine va_get (D := (dC, dI)) (ci := 10) (v := .int (oI S_7 o 14)) (C := RX10) (T := TX10) (N := 16) hx hb hts in_wsX10_put_X10 hown hK hP q_11 hq_11 rfl 14 (by decide +kernel) (hts (.fieldLink RX10 353 "ShipOffice" "rowCount" "I") iw_X10_put_1) (fun _ h9 => h9) rfl dX10_put_28 ?_
    refine lv_topi (fun x_12 ex_12 => ?_)
    have hx_12 : 0 ≤ x_12.toInt ∧ x_12.toInt ≤ 12 := iv_of ex_12 (oInv.iv hIS_7 t_10.2 rfl rfl)
    have gx_12 : x_12.toInt = (oI S_7 o 14).toInt := iv_to ex_12
    clear ex_12
    refine lv_iconst (v := 1) hx hb dX10_put_31 (by decide +kernel) ?_
    refine lv_iadd hx hb dX10_put_32 ?_
    refine lv_topi (fun x_13 ex_13 => ?_)
    have hx_13 : x_13.toInt = x_12.toInt + 1 := (iv_to ex_13).trans (ad_i rfl (by decide +kernel) (by omega) (by omega))
    clear ex_13
    refine va_put (D := (dC, dI)) (ci := 10) (v := .int x_13) (ty := .int) (C := RX10) (T := TX10) (N := 16) hx hb hts in_wsX10_put_X10 tyX10 tyX10_ok nmX10 hown hK hP hD hS q_11 hq_11 rfl 14 (by decide +kernel) (hts (.fieldLink RX10 353 "ShipOffice" "rowCount" "I") iw_X10_put_1) (fun _ h9 => h9) rfl (by decide +kernel) rfl rfl (Nat.le_of_ble_eq_true rfl) dX10_put_33 (fun H locs hP1 hD1 hS => ?_)
    obtain ⟨S_14, eS_14⟩ : ∃ zq, zq = setI S_7 o 14 x_13 := ⟨_, rfl⟩
    have hP : va_P (dC, dI) vwCl (oW cq S_14) H := by rw [eS_14]; exact cP (oset t_10.1 hq_11 hD rfl (he_10_14 t_10.2) neI) hP1
    have hD : va_D A (oW cq S_14) := by rw [eS_14]; exact cD (oset t_10.1 hq_11 hD rfl (he_10_14 t_10.2) neI) hD1
    clear hP1 hD1
    have hIS_14 : oInv S_14 := by rw [eS_14]; exact oInv.I0 (k := 10) (lo := 0) (hi := 12) hIS_7 t_10.2 (by decide +kernel) rfl rfl rfl (by omega)
    have XS_14 : oX [1014] S_7 S_14 := by rw [eS_14]; exact oX.I (k := 10) (key := 1014) t_10.2 rfl (List.mem_singleton.mpr rfl)
    have X_15 : oX [1014, 2107, 2112] Z S_14 := oX.st X_8 XS_14 (by decide +kernel)
    have g_16 : (oI S_14 o 14).toInt = x_13.toInt := by rw [eS_14, setI_same]
    refine lv_aload_n hx hb dX10_put_36 rfl (lv_at hl 0 rfl) ?_
    have t_17 : oty S_14 o 10 := (oX.ty XS_14 t_10)
    obtain ⟨q_18, hq_18⟩ := og (cq := cq) t_17.1 (oE_10 t_17.2)
    refine va_get (D := (dC, dI)) (ci := 10) (v := .int (oI S_14 o 14)) (C := RX10) (T := TX10) (N := 16) hx hb hts in_wsX10_put_X10 hown hK hP q_18 hq_18 rfl 14 (by decide +kernel) (hts (.fieldLink RX10 353 "ShipOffice" "rowCount" "I") iw_X10_put_1) (fun _ h9 => h9) rfl dX10_put_37 ?_
    refine lv_topi (fun x_19 ex_19 => ?_)
    have hx_19 : 0 ≤ x_19.toInt ∧ x_19.toInt ≤ 12 := iv_of ex_19 (oInv.iv hIS_14 t_17.2 rfl rfl)
    have gx_19 : x_19.toInt = (oI S_14 o 14).toInt := iv_to ex_19
    clear ex_19
    exact W.iret (v := x_19) hx hb hr (fun t ht hW => ⟨⟨x_19, S_14, rfl, ⟨hIS_14, X_15⟩, ⟨by rw [ht]; exact hP, va_K.moved hW.alike hK, hD⟩⟩, hS.F ht⟩) hS.2.2 dX10_put_40
  · have dc_3 := c_nlt (a := x_2.toInt) (b := 12) rfl (by decide +kernel) c_3
    refine lv_aload_n hx hb dX10_put_9 rfl (lv_at hl 0 rfl) ?_
    refine lv_bipush (v := (-6)) hx hb dX10_put_10 (by decide +kernel) ?_
    have hFc := o_free hD hS hA
    refine va_calli (va_runV (As := [.int (-6)]) (rest := []) ⟨hx, hb, hml, hown, hts⟩ (c_X10_refuse l dC dI s.heap.size cq Z gI o to (-6) (by decide +kernel)) (cwV 1 hts gX10_put_X10_refuse rfl rfl rfl (by decide +kernel) ⟨(Nat.le_of_ble_eq_true rfl), (Nat.le_of_ble_eq_true rfl)⟩) (pr_V (r := (RX10, TX10, 16)) hP hK hD q_1 10 rfl hq_1) rfl rfl hl.1 rfl (lv_room (Nat.le_of_ble_eq_true rfl)) dX10_put_12 ⟨(Nat.le_of_ble_eq_true rfl), (Nat.le_of_ble_eq_true rfl)⟩) hS (fun q _ h => hFc q h) hFc (fun r_21 u t H locs ht hvm w_20 hB hz1 hk1 hS => ?_)
    obtain ⟨S_22, rfl⟩ : ∃ z, z = u := ⟨_, rfl⟩
    obtain ⟨hP1, hK1, hD1⟩ := hB
    rw [ht] at hP1
    have hP : va_P (dC, dI) vwCl (oW cq S_22) H := hP1
    have hD : va_D A (oW cq S_22) := hD1.weaken (fun _ _ _ h => hFc _ h)
    clear hP1 hK1 hD1 hk1 hz1 hvm ht hFc
    obtain ⟨hIS_22, XS_22, hb_23, hx_24⟩ := w_20
    have X_25 : oX [1014, 2107, 2112] Z S_22 := oX.st oX.rf XS_22 (by decide +kernel)
    have rf_26 : r_21.toInt = -6 := by rw [hx_24]; decide
    exact W.iret (v := r_21) hx hb hr (fun t ht hW => ⟨⟨r_21, S_22, rfl, ⟨hIS_22, X_25⟩, ⟨by rw [ht]; exact hP, va_K.moved hW.alike hK, hD⟩⟩, hS.F ht⟩) hS.2.2 dX10_put_15
