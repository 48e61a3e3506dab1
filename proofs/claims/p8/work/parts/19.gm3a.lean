abbrev cX11_bare : ByteArray := prog_13_method_38_code
def yX11_bare : MethodName := ⟨RX11, "bare", "()V"⟩
abbrev cX11_isAlike : ByteArray := prog_13_method_67_code
def yX11_isAlike : MethodName := ⟨RX11, "isAlike", "(II)Z"⟩
abbrev cX11_ask : ByteArray := prog_13_method_74_code
def yX11_ask : MethodName := ⟨RX11, "ask", "(III)I"⟩
theorem gw_X11_isMan : wsX11_isMan.all goodWord = true := by decide +kernel
def wsX11_bare : List Cond := .code yX11_bare cX11_bare 2 none :: ([.fieldLink RX11 128 "ShipOfficeModel" "letters" "[I"] ++ wsX110)
theorem il_X11_bare_1 : ∀ w ∈ ([.fieldLink RX11 128 "ShipOfficeModel" "letters" "[I"] : List Cond), w ∈ wsX11_bare := fun w h => (List.mem_cons_of_mem _ (List.mem_append_left _ h))
theorem iw_X11_bare_1 : Cond.fieldLink RX11 128 "ShipOfficeModel" "letters" "[I" ∈ wsX11_bare := (mmI il_X11_bare_1 0 rfl)
def wsX11_isAlike : List Cond := .code yX11_isAlike cX11_isAlike 7 (some .boolean) :: ([.fieldLink RX11 19 "ShipOfficeModel" "marks" "[I", .fieldLink RX11 16 "ShipOfficeModel" "name" "[I"] ++ wsX110)
theorem il_X11_isAlike_1 : ∀ w ∈ ([.fieldLink RX11 19 "ShipOfficeModel" "marks" "[I", .fieldLink RX11 16 "ShipOfficeModel" "name" "[I"] : List Cond), w ∈ wsX11_isAlike := fun w h => (List.mem_cons_of_mem _ (List.mem_append_left _ h))
theorem iw_X11_isAlike_1 : Cond.fieldLink RX11 19 "ShipOfficeModel" "marks" "[I" ∈ wsX11_isAlike := (mmI il_X11_isAlike_1 0 rfl)
theorem iw_X11_isAlike_2 : Cond.fieldLink RX11 16 "ShipOfficeModel" "name" "[I" ∈ wsX11_isAlike := (mmI il_X11_isAlike_1 1 rfl)
def wsX11_ask : List Cond := .code yX11_ask cX11_ask 5 (some .int) :: ([.fieldLink RX11 25 "ShipOfficeModel" "asks" "[I", .methodLink RX11 297 yX11_isMan, .instanceMethod yX11_isMan, .selects RX11 yX11_isMan yX11_isMan, .initialized RX11, .code yX11_isMan cX11_isMan 2 (some .boolean), .fieldLink RX11 157 "ShipOfficeModel" "men" "I", .methodLink RX11 161 yX11_isIn, .static yX11_isIn, .code yX11_isIn cX11_isIn 2 (some .boolean), .methodLink RX11 153 yX11_refuse, .instanceMethod yX11_refuse, .selects RX11 yX11_refuse yX11_refuse, .code yX11_refuse cX11_refuse 2 (some .int), .fieldLink RX11 7 "ShipOfficeModel" "refusals" "[I"] ++ wsX110)
theorem il_X11_ask_1 : ∀ w ∈ ([.fieldLink RX11 25 "ShipOfficeModel" "asks" "[I", .methodLink RX11 297 yX11_isMan, .instanceMethod yX11_isMan, .selects RX11 yX11_isMan yX11_isMan, .initialized RX11, .code yX11_isMan cX11_isMan 2 (some .boolean), .fieldLink RX11 157 "ShipOfficeModel" "men" "I", .methodLink RX11 161 yX11_isIn, .static yX11_isIn, .code yX11_isIn cX11_isIn 2 (some .boolean), .methodLink RX11 153 yX11_refuse, .instanceMethod yX11_refuse, .selects RX11 yX11_refuse yX11_refuse, .code yX11_refuse cX11_refuse 2 (some .int), .fieldLink RX11 7 "ShipOfficeModel" "refusals" "[I"] : List Cond), w ∈ wsX11_ask := fun w h => (List.mem_cons_of_mem _ (List.mem_append_left _ h))
theorem il_X11_ask_2 : ∀ w ∈ wsX110, w ∈ wsX11_ask := fun w h => (List.mem_cons_of_mem _ (List.mem_append_right _ h))
theorem iw_X11_ask_1 : Cond.fieldLink RX11 25 "ShipOfficeModel" "asks" "[I" ∈ wsX11_ask := (mmI il_X11_ask_1 0 rfl)
theorem dX11_bare_0 : decode cX11_bare 0 = .ok (.iconst 0, 1) := by decide +kernel
theorem dX11_bare_1 : decode cX11_bare 1 = .ok (.istore_n 1, 1) := by decide +kernel
theorem dX11_bare_2 : decode cX11_bare 2 = .ok (.iload_n 1, 1) := by decide +kernel
theorem dX11_bare_3 : decode cX11_bare 3 = .ok (.sipush 128, 3) := by decide +kernel
theorem dX11_bare_6 : decode cX11_bare 6 = .ok (.if_icmp .ge 16, 3) := by decide +kernel
theorem dX11_bare_9 : decode cX11_bare 9 = .ok (.aload_n 0, 1) := by decide +kernel
theorem dX11_bare_10 : decode cX11_bare 10 = .ok (.getfield 128, 3) := by decide +kernel
theorem dX11_bare_13 : decode cX11_bare 13 = .ok (.iload_n 1, 1) := by decide +kernel
theorem dX11_bare_14 : decode cX11_bare 14 = .ok (.iconst 0, 1) := by decide +kernel
theorem dX11_bare_15 : decode cX11_bare 15 = .ok (.iastore, 1) := by decide +kernel
theorem dX11_bare_16 : decode cX11_bare 16 = .ok (.iinc 1 1, 3) := by decide +kernel
theorem dX11_bare_19 : decode cX11_bare 19 = .ok (.goto (-17), 3) := by decide +kernel
theorem dX11_bare_22 : decode cX11_bare 22 = .ok (.return_, 1) := by decide +kernel
theorem dX11_isAlike_0 : decode cX11_isAlike 0 = .ok (.aload_n 0, 1) := by decide +kernel
theorem dX11_isAlike_1 : decode cX11_isAlike 1 = .ok (.getfield 19, 3) := by decide +kernel
theorem dX11_isAlike_4 : decode cX11_isAlike 4 = .ok (.iload_n 1, 1) := by decide +kernel
theorem dX11_isAlike_5 : decode cX11_isAlike 5 = .ok (.iaload, 1) := by decide +kernel
theorem dX11_isAlike_6 : decode cX11_isAlike 6 = .ok (.aload_n 0, 1) := by decide +kernel
theorem dX11_isAlike_7 : decode cX11_isAlike 7 = .ok (.getfield 19, 3) := by decide +kernel
theorem dX11_isAlike_10 : decode cX11_isAlike 10 = .ok (.iload_n 2, 1) := by decide +kernel
theorem dX11_isAlike_11 : decode cX11_isAlike 11 = .ok (.iaload, 1) := by decide +kernel
theorem dX11_isAlike_12 : decode cX11_isAlike 12 = .ok (.if_icmp .ne 5, 3) := by decide +kernel
theorem dX11_isAlike_15 : decode cX11_isAlike 15 = .ok (.iconst 1, 1) := by decide +kernel
theorem dX11_isAlike_16 : decode cX11_isAlike 16 = .ok (.ireturn, 1) := by decide +kernel
theorem dX11_isAlike_17 : decode cX11_isAlike 17 = .ok (.iconst 0, 1) := by decide +kernel
theorem dX11_isAlike_18 : decode cX11_isAlike 18 = .ok (.istore_n 3, 1) := by decide +kernel
theorem dX11_isAlike_19 : decode cX11_isAlike 19 = .ok (.aload_n 0, 1) := by decide +kernel
theorem dX11_isAlike_20 : decode cX11_isAlike 20 = .ok (.getfield 19, 3) := by decide +kernel
theorem dX11_isAlike_23 : decode cX11_isAlike 23 = .ok (.iload_n 1, 1) := by decide +kernel
theorem dX11_isAlike_24 : decode cX11_isAlike 24 = .ok (.iaload, 1) := by decide +kernel
theorem dX11_isAlike_25 : decode cX11_isAlike 25 = .ok (.istore 4, 2) := by decide +kernel
theorem dX11_isAlike_27 : decode cX11_isAlike 27 = .ok (.aload_n 0, 1) := by decide +kernel
theorem dX11_isAlike_28 : decode cX11_isAlike 28 = .ok (.getfield 19, 3) := by decide +kernel
theorem dX11_isAlike_31 : decode cX11_isAlike 31 = .ok (.iload_n 2, 1) := by decide +kernel
theorem dX11_isAlike_32 : decode cX11_isAlike 32 = .ok (.iaload, 1) := by decide +kernel
theorem dX11_isAlike_33 : decode cX11_isAlike 33 = .ok (.istore 5, 2) := by decide +kernel
theorem dX11_isAlike_35 : decode cX11_isAlike 35 = .ok (.iconst 0, 1) := by decide +kernel
theorem dX11_isAlike_36 : decode cX11_isAlike 36 = .ok (.istore 6, 2) := by decide +kernel
theorem dX11_isAlike_38 : decode cX11_isAlike 38 = .ok (.iload 6, 2) := by decide +kernel
theorem dX11_isAlike_40 : decode cX11_isAlike 40 = .ok (.iconst 5, 1) := by decide +kernel
theorem dX11_isAlike_41 : decode cX11_isAlike 41 = .ok (.if_icmp .ge 44, 3) := by decide +kernel
theorem dX11_isAlike_44 : decode cX11_isAlike 44 = .ok (.iload_n 3, 1) := by decide +kernel
theorem dX11_isAlike_45 : decode cX11_isAlike 45 = .ok (.iload 4, 2) := by decide +kernel
theorem dX11_isAlike_47 : decode cX11_isAlike 47 = .ok (.bipush 10, 2) := by decide +kernel
theorem dX11_isAlike_49 : decode cX11_isAlike 49 = .ok (.irem, 1) := by decide +kernel
theorem dX11_isAlike_50 : decode cX11_isAlike 50 = .ok (.iload 5, 2) := by decide +kernel
theorem dX11_isAlike_52 : decode cX11_isAlike 52 = .ok (.bipush 10, 2) := by decide +kernel
theorem dX11_isAlike_54 : decode cX11_isAlike 54 = .ok (.irem, 1) := by decide +kernel
theorem dX11_isAlike_55 : decode cX11_isAlike 55 = .ok (.if_icmp .ne 7, 3) := by decide +kernel
theorem dX11_isAlike_58 : decode cX11_isAlike 58 = .ok (.iconst 0, 1) := by decide +kernel
theorem dX11_isAlike_59 : decode cX11_isAlike 59 = .ok (.goto 4, 3) := by decide +kernel
theorem dX11_isAlike_62 : decode cX11_isAlike 62 = .ok (.iconst 1, 1) := by decide +kernel
theorem dX11_isAlike_63 : decode cX11_isAlike 63 = .ok (.iadd, 1) := by decide +kernel
theorem dX11_isAlike_64 : decode cX11_isAlike 64 = .ok (.istore_n 3, 1) := by decide +kernel
theorem dX11_isAlike_65 : decode cX11_isAlike 65 = .ok (.iload 4, 2) := by decide +kernel
theorem dX11_isAlike_67 : decode cX11_isAlike 67 = .ok (.bipush 10, 2) := by decide +kernel
theorem dX11_isAlike_69 : decode cX11_isAlike 69 = .ok (.idiv, 1) := by decide +kernel
theorem dX11_isAlike_70 : decode cX11_isAlike 70 = .ok (.istore 4, 2) := by decide +kernel
theorem dX11_isAlike_72 : decode cX11_isAlike 72 = .ok (.iload 5, 2) := by decide +kernel
theorem dX11_isAlike_74 : decode cX11_isAlike 74 = .ok (.bipush 10, 2) := by decide +kernel
theorem dX11_isAlike_76 : decode cX11_isAlike 76 = .ok (.idiv, 1) := by decide +kernel
theorem dX11_isAlike_77 : decode cX11_isAlike 77 = .ok (.istore 5, 2) := by decide +kernel
theorem dX11_isAlike_79 : decode cX11_isAlike 79 = .ok (.iinc 6 1, 3) := by decide +kernel
theorem dX11_isAlike_82 : decode cX11_isAlike 82 = .ok (.goto (-44), 3) := by decide +kernel
theorem dX11_isAlike_85 : decode cX11_isAlike 85 = .ok (.aload_n 0, 1) := by decide +kernel
theorem dX11_isAlike_86 : decode cX11_isAlike 86 = .ok (.getfield 16, 3) := by decide +kernel
theorem dX11_isAlike_89 : decode cX11_isAlike 89 = .ok (.iload_n 1, 1) := by decide +kernel
theorem dX11_isAlike_90 : decode cX11_isAlike 90 = .ok (.iaload, 1) := by decide +kernel
theorem dX11_isAlike_91 : decode cX11_isAlike 91 = .ok (.aload_n 0, 1) := by decide +kernel
theorem dX11_isAlike_92 : decode cX11_isAlike 92 = .ok (.getfield 16, 3) := by decide +kernel
theorem dX11_isAlike_95 : decode cX11_isAlike 95 = .ok (.iload_n 2, 1) := by decide +kernel
theorem dX11_isAlike_96 : decode cX11_isAlike 96 = .ok (.iaload, 1) := by decide +kernel
theorem dX11_isAlike_97 : decode cX11_isAlike 97 = .ok (.if_icmp .ne 12, 3) := by decide +kernel
theorem dX11_isAlike_100 : decode cX11_isAlike 100 = .ok (.iload_n 3, 1) := by decide +kernel
theorem dX11_isAlike_101 : decode cX11_isAlike 101 = .ok (.iconst 2, 1) := by decide +kernel
theorem dX11_isAlike_102 : decode cX11_isAlike 102 = .ok (.if_icmp .ge 7, 3) := by decide +kernel
theorem dX11_isAlike_105 : decode cX11_isAlike 105 = .ok (.iconst 1, 1) := by decide +kernel
theorem dX11_isAlike_106 : decode cX11_isAlike 106 = .ok (.goto 4, 3) := by decide +kernel
theorem dX11_isAlike_109 : decode cX11_isAlike 109 = .ok (.iconst 0, 1) := by decide +kernel
theorem dX11_isAlike_110 : decode cX11_isAlike 110 = .ok (.ireturn, 1) := by decide +kernel
set_option maxRecDepth 100000 in
theorem ggX11_ask_X11_isMan : GoodIn wsX11_ask wsX11_isMan := goodIn_sub (mmC (mmI il_X11_ask_1 5 rfl) (mmA (mmC (mmI il_X11_ask_1 6 rfl) (mmC (mmI il_X11_ask_1 7 rfl) (mmC (mmI il_X11_ask_1 8 rfl) (mmC (mmI il_X11_ask_1 4 rfl) (mmC (mmI il_X11_ask_1 9 rfl) mmN))))) il_X11_ask_2)) gw_X11_isMan
theorem gX11_ask_X11_isMan : GoodIn wsX11_ask (wsV RX11 297 RX11 yX11_isMan wsX11_isMan) := goodIn_app (goodIn_sub (mmC (mmI il_X11_ask_1 1 rfl) (mmC (mmI il_X11_ask_1 2 rfl) (mmC (mmI il_X11_ask_1 3 rfl) (mmC (mmI il_X11_ask_1 4 rfl) mmN)))) (by decide +kernel)) ggX11_ask_X11_isMan
set_option maxRecDepth 100000 in
theorem ggX11_ask_X11_refuse : GoodIn wsX11_ask wsX11_refuse := goodIn_sub (mmC (mmI il_X11_ask_1 13 rfl) (mmA (mmC (mmI il_X11_ask_1 14 rfl) mmN) il_X11_ask_2)) gw_X11_refuse
theorem gX11_ask_X11_refuse : GoodIn wsX11_ask (wsV RX11 153 RX11 yX11_refuse wsX11_refuse) := goodIn_app (goodIn_sub (mmC (mmI il_X11_ask_1 10 rfl) (mmC (mmI il_X11_ask_1 11 rfl) (mmC (mmI il_X11_ask_1 12 rfl) (mmC (mmI il_X11_ask_1 4 rfl) mmN)))) (by decide +kernel)) ggX11_ask_X11_refuse
theorem dX11_ask_0 : decode cX11_ask 0 = .ok (.aload_n 0, 1) := by decide +kernel
theorem dX11_ask_1 : decode cX11_ask 1 = .ok (.iload_n 1, 1) := by decide +kernel
theorem dX11_ask_2 : decode cX11_ask 2 = .ok (.invokevirtual 297, 3) := by decide +kernel
theorem dX11_ask_5 : decode cX11_ask 5 = .ok (.ifCond .ne 9, 3) := by decide +kernel
theorem dX11_ask_8 : decode cX11_ask 8 = .ok (.aload_n 0, 1) := by decide +kernel
theorem dX11_ask_9 : decode cX11_ask 9 = .ok (.iconst (-1), 1) := by decide +kernel
theorem dX11_ask_10 : decode cX11_ask 10 = .ok (.invokevirtual 153, 3) := by decide +kernel
theorem dX11_ask_13 : decode cX11_ask 13 = .ok (.ireturn, 1) := by decide +kernel
theorem dX11_ask_14 : decode cX11_ask 14 = .ok (.iload_n 2, 1) := by decide +kernel
theorem dX11_ask_15 : decode cX11_ask 15 = .ok (.ifCond .lt 7, 3) := by decide +kernel
theorem dX11_ask_18 : decode cX11_ask 18 = .ok (.iload_n 3, 1) := by decide +kernel
theorem dX11_ask_19 : decode cX11_ask 19 = .ok (.ifCond .ge 10, 3) := by decide +kernel
theorem dX11_ask_22 : decode cX11_ask 22 = .ok (.aload_n 0, 1) := by decide +kernel
theorem dX11_ask_23 : decode cX11_ask 23 = .ok (.bipush (-4), 2) := by decide +kernel
theorem dX11_ask_25 : decode cX11_ask 25 = .ok (.invokevirtual 153, 3) := by decide +kernel
theorem dX11_ask_28 : decode cX11_ask 28 = .ok (.ireturn, 1) := by decide +kernel
theorem dX11_ask_29 : decode cX11_ask 29 = .ok (.iload_n 2, 1) := by decide +kernel
theorem dX11_ask_30 : decode cX11_ask 30 = .ok (.iconst 3, 1) := by decide +kernel
theorem dX11_ask_31 : decode cX11_ask 31 = .ok (.if_icmp .gt 10, 3) := by decide +kernel
theorem dX11_ask_34 : decode cX11_ask 34 = .ok (.iload_n 3, 1) := by decide +kernel
theorem dX11_ask_35 : decode cX11_ask 35 = .ok (.sipush 9999, 3) := by decide +kernel
theorem dX11_ask_38 : decode cX11_ask 38 = .ok (.if_icmp .le 10, 3) := by decide +kernel
theorem dX11_ask_41 : decode cX11_ask 41 = .ok (.aload_n 0, 1) := by decide +kernel
theorem dX11_ask_42 : decode cX11_ask 42 = .ok (.bipush (-6), 2) := by decide +kernel
theorem dX11_ask_44 : decode cX11_ask 44 = .ok (.invokevirtual 153, 3) := by decide +kernel
theorem dX11_ask_47 : decode cX11_ask 47 = .ok (.ireturn, 1) := by decide +kernel
theorem dX11_ask_48 : decode cX11_ask 48 = .ok (.aload_n 0, 1) := by decide +kernel
theorem dX11_ask_49 : decode cX11_ask 49 = .ok (.getfield 25, 3) := by decide +kernel
theorem dX11_ask_52 : decode cX11_ask 52 = .ok (.iconst 4, 1) := by decide +kernel
theorem dX11_ask_53 : decode cX11_ask 53 = .ok (.iload_n 1, 1) := by decide +kernel
theorem dX11_ask_54 : decode cX11_ask 54 = .ok (.imul, 1) := by decide +kernel
theorem dX11_ask_55 : decode cX11_ask 55 = .ok (.iload_n 2, 1) := by decide +kernel
theorem dX11_ask_56 : decode cX11_ask 56 = .ok (.iadd, 1) := by decide +kernel
theorem dX11_ask_57 : decode cX11_ask 57 = .ok (.iaload, 1) := by decide +kernel
theorem dX11_ask_58 : decode cX11_ask 58 = .ok (.istore 4, 2) := by decide +kernel
theorem dX11_ask_60 : decode cX11_ask 60 = .ok (.aload_n 0, 1) := by decide +kernel
theorem dX11_ask_61 : decode cX11_ask 61 = .ok (.getfield 25, 3) := by decide +kernel
theorem dX11_ask_64 : decode cX11_ask 64 = .ok (.iconst 4, 1) := by decide +kernel
theorem dX11_ask_65 : decode cX11_ask 65 = .ok (.iload_n 1, 1) := by decide +kernel
theorem dX11_ask_66 : decode cX11_ask 66 = .ok (.imul, 1) := by decide +kernel
theorem dX11_ask_67 : decode cX11_ask 67 = .ok (.iload_n 2, 1) := by decide +kernel
theorem dX11_ask_68 : decode cX11_ask 68 = .ok (.iadd, 1) := by decide +kernel
theorem dX11_ask_69 : decode cX11_ask 69 = .ok (.iload_n 3, 1) := by decide +kernel
theorem dX11_ask_70 : decode cX11_ask 70 = .ok (.iastore, 1) := by decide +kernel
theorem dX11_ask_71 : decode cX11_ask 71 = .ok (.iload 4, 2) := by decide +kernel
theorem dX11_ask_73 : decode cX11_ask 73 = .ok (.ireturn, 1) := by decide +kernel
theorem in_wsX11_bare_X11 : ∀ w ∈ wsX110, w ∈ wsX11_bare := fun w h => List.mem_cons_of_mem _ (List.mem_append_right _ h)
theorem in_wsX11_isAlike_X11 : ∀ w ∈ wsX110, w ∈ wsX11_isAlike := fun w h => List.mem_cons_of_mem _ (List.mem_append_right _ h)
theorem in_wsX11_ask_X11 : ∀ w ∈ wsX110, w ∈ wsX11_ask := fun w h => List.mem_cons_of_mem _ (List.mem_append_right _ h)

set_option maxHeartbeats 4000000 in
set_option maxRecDepth 100000 in
theorem c_X11_bare (l : Launch) (dC : Nat → ClassId) (dI : Nat → Nat → Nat) (sz : Nat) (g0 : Nat) (pq : Nat → Nat) (cp : Nat → ClassId) (v : Nat → Int32) (fa : Nat → Nat → Int32) (gV : mV v) (gA : mA fa) : Met l yX11_bare wsX11_bare ({ frames := 0, cells := 0, slots := 0, locals := 0 }) (va_Pc [.ref g0] (pcW (dC, dI) (mT cp) (mW g0 pq cp v fa) sz)) (va_Qv (fun (u : (Nat → Int32) × (Nat → Nat → Int32)) => mV u.1 ∧ mA u.2 ∧ scr v fa u.1 u.2) (fun u t => va_P (dC, dI) vwCl (mW g0 pq cp u.1 u.2) t.heap ∧ va_K (dC, dI) vwCl (mT cp) t ∧ va_D (va_A (mW g0 pq cp v fa) sz) (mW g0 pq cp u.1 u.2)) (va_A (mW g0 pq cp v fa) sz)) 0 0 (va_A (mW g0 pq cp v fa) sz) := by
  refine Met.ofW (cc := cX11_bare) (maxL := 2) (ret := none) (by decide +kernel) rfl ?_
  intro p e s m args below meth c s₁ B hml hv
  obtain ⟨rfl, hsz, hP, hK, hD0⟩ := hv
  have hx := B.exec
  have hb := B.bytes
  have hr := B.returns
  have hts := atoms_spec (ws := wsX11_bare) B.pre
  have hown : s.vm.findClass RX11 = some m.cls := findClass_of_methodNamed B.named
  have hlocks := B.notSynchronized
  subst hsz
  have hD := hD0.self (sz := s.heap.size)
  generalize hAe : va_A (mW g0 pq cp v fa) s.heap.size = A at hD ⊢
  have hA : ∀ q : Nat, s.heap.size ≤ q → A q := fun q h => by rw [← hAe]; exact Or.inr h
  have hS : va_S A s.heap s.heap [] := va_S.rf
  have hP : va_P (dC, dI) vwCl (mW g0 pq cp v fa) s.heap := hP
  have hl := lv_entry ([.ref g0]) (n := 2) (Nat.le_of_ble_eq_true rfl)
  rw [lg_entry_eq]
  generalize (lg_sl ([.ref g0]) ++ List.replicate (2 - (lg_sl ([.ref g0])).length) Slot.unset).toArray = ls at hl ⊢
  have hl : lv_has ls 2 [(0, .ref g0)] := hl
  refine lv_iconst (v := 0) hx hb dX11_bare_0 (by decide +kernel) ?_
  refine lv_istore_n (lv' := [(1, .int 0), (0, .ref g0)]) hx hb dX11_bare_1 rfl hl (by decide +kernel) rfl (fun ls hl => ?_)
  have cut_1 : ∀ (n : Nat) (y_2 : Int32) (z_3 : Nat → Int32) (fz_4 : Nat → Nat → Int32) (H : Heap) (locs : List Loc) (ls : Array Slot), 128 - y_2.toInt ≤ (n : Int) → (0 ≤ y_2.toInt ∧ y_2.toInt ≤ 128) → mV z_3 → mA fz_4 → scr v fa z_3 fz_4 → va_P (dC, dI) vwCl (mW g0 pq cp z_3 fz_4) H → va_D A (mW g0 pq cp z_3 fz_4) → va_S A s.heap H locs → lv_has ls 2 [(1, .int y_2), (0, .ref g0)] → W p l e (headSpec wsX11_bare { frames := 0, cells := 0, slots := 0, locals := 0 }).room s m #[Value.ref g0] below meth c H locs 0 0 (MQ below (va_Qv (fun (u : (Nat → Int32) × (Nat → Nat → Int32)) => mV u.1 ∧ mA u.2 ∧ scr v fa u.1 u.2) (fun u t => va_P (dC, dI) vwCl (mW g0 pq cp u.1 u.2) t.heap ∧ va_K (dC, dI) vwCl (mT cp) t ∧ va_D A (mW g0 pq cp u.1 u.2)) A) #[Value.ref g0] s 0 0 A) (F0 m 2 ls []) := by
    intro n
    induction n using Nat.strongRecOn with
    | ind n ih =>
      intro y_2 z_3 fz_4 H locs ls hm hy_2 hVz_3 hAz_3 hRz_3 hP hD hS hl
      refine lv_iload_n hx hb dX11_bare_2 rfl (lv_at hl 0 rfl) ?_
      refine lv_sipush (v := 128) hx hb dX11_bare_3 (by decide +kernel) ?_
      refine lv_icmp_ge (tgt := 22) hx hb dX11_bare_6 (by decide +kernel) (fun c_5 => ?_) (fun c_5 => ?_)
      · have dc_5 := c_le (a := 128) (b := y_2.toInt) (by decide +kernel) rfl c_5
        exact W.vret hx hb hr (fun t ht hW => ⟨⟨(z_3, fz_4), rfl, ⟨hVz_3, hAz_3, hRz_3⟩, ⟨by rw [ht]; exact hP, va_K.moved hW.alike hK, hD⟩⟩, hS.F ht⟩) hS.2.2 dX11_bare_22
      · have dc_5 := c_nle (a := 128) (b := y_2.toInt) (by decide +kernel) rfl c_5
        refine lv_aload_n hx hb dX11_bare_9 rfl (lv_at hl 1 rfl) ?_
        refine va_get (D := (dC, dI)) (ci := 11) (v := .ref (pq 45)) (C := RX11) (T := TX11) (N := 63) hx hb hts in_wsX11_bare_X11 hown hK hP 0 rfl rfl 45 (by decide +kernel) (hts (.fieldLink RX11 128 "ShipOfficeModel" "letters" "[I") iw_X11_bare_1) (fun _ h9 => h9) rfl dX11_bare_10 ?_
        refine lv_iload_n hx hb dX11_bare_13 rfl (lv_at hl 0 rfl) ?_
        refine lv_iconst (v := 0) hx hb dX11_bare_14 (by decide +kernel) ?_
        refine va_iast hx hb hK hP hD hS 40 39 rfl rfl (vp_in_iff.mpr (by omega)) dX11_bare_15 (fun H locs hP hD hS => ?_)
        have hP : va_P (dC, dI) vwCl (mW g0 pq cp z_3 (upF fz_4 45 (y_2 : Int32).toNatClampNeg 0)) H := hP
        have hD : va_D A (mW g0 pq cp z_3 (upF fz_4 45 (y_2 : Int32).toNatClampNeg 0)) := hD
        obtain ⟨fz_6, efz_6⟩ : ∃ zq, zq = (upF fz_4 45 (y_2 : Int32).toNatClampNeg 0) := ⟨_, rfl⟩
        rw [← efz_6] at hP hD
        have hAfz_6 : mA fz_6 := by rw [efz_6]; exact mA_upF (lo := -2147483648) (hi := 2147483647) hAz_3 rfl rfl (iv_all _)
        have hRfz_6 : scr v fa z_3 fz_6 := by rw [efz_6]; exact scr.uF hRz_3 rfl
        obtain ⟨x_7, ex_7⟩ : ∃ zq : Int32, y_2 + 1 = zq := ⟨_, rfl⟩
        have hx_7 : x_7.toInt = y_2.toInt + 1 := (iv_to ex_7).symm.trans (ad_i rfl (by decide +kernel) (by omega) (by omega))
        refine lv_iinc (v := x_7) (lv' := [(1, .int x_7), (0, .ref g0)]) hx hb dX11_bare_16 hl (k := 0) rfl ex_7 (by decide +kernel) rfl (fun ls hl => ?_)
        clear ex_7
        refine lv_goto (tgt := 2) hx hb dX11_bare_19 (by decide +kernel) ?_
        exact ih (n - 1) (by omega) x_7 z_3 fz_6 _ _ ls (by omega) (by omega) hVz_3 hAfz_6 hRfz_6 hP hD hS (lv_sub hl [0, 1] rfl)
  have kc_8 : (0 : Int32).toInt = 0 := by decide
  exact cut_1 129 0 v fa _ _ ls (by omega) (by decide +kernel) gV gA scr.rf hP hD hS (lv_sub hl [0, 1] rfl)
set_option maxHeartbeats 4000000 in
set_option maxRecDepth 100000 in
theorem c_X11_isAlike (l : Launch) (dC : Nat → ClassId) (dI : Nat → Nat → Nat) (sz : Nat) (g0 : Nat) (pq : Nat → Nat) (cp : Nat → ClassId) (v : Nat → Int32) (fa : Nat → Nat → Int32) (gV : mV v) (gA : mA fa) (x1 : Int32) (hx1 : 0 ≤ x1.toInt ∧ x1.toInt ≤ 39) (x2 : Int32) (hx2 : 0 ≤ x2.toInt ∧ x2.toInt ≤ 39) : Met l yX11_isAlike wsX11_isAlike ({ frames := 0, cells := 0, slots := 0, locals := 0 }) (va_Pc [.ref g0, .int x1, .int x2] (pcW (dC, dI) (mT cp) (mW g0 pq cp v fa) sz)) (va_Qi (fun (r : Int32) (u : Unit) => (0 ≤ r.toInt ∧ r.toInt ≤ 1)) (fun _ _ => True) (va_A [] sz)) 0 0 (va_A [] sz) := by
  refine Met.ofW (cc := cX11_isAlike) (maxL := 7) (ret := (some .boolean)) (by decide +kernel) rfl ?_
  intro p e s m args below meth c s₁ B hml hv
  obtain ⟨rfl, hsz, hP, hK, hD0⟩ := hv
  have hx := B.exec
  have hb := B.bytes
  have hr := B.returns
  have hts := atoms_spec (ws := wsX11_isAlike) B.pre
  have hown : s.vm.findClass RX11 = some m.cls := findClass_of_methodNamed B.named
  have hlocks := B.notSynchronized
  subst hsz
  have hD := hD0
  generalize hAe : va_A [] s.heap.size = A at ⊢
  have hA : ∀ q : Nat, s.heap.size ≤ q → A q := fun q h => by rw [← hAe]; exact Or.inr h
  have hS : va_S A s.heap s.heap [] := va_S.rf
  have hP : va_P (dC, dI) vwCl (mW g0 pq cp v fa) s.heap := hP
  have hl := lv_entry ([.ref g0, .int x1, .int x2]) (n := 7) (Nat.le_of_ble_eq_true rfl)
  rw [lg_entry_eq]
  generalize (lg_sl ([.ref g0, .int x1, .int x2]) ++ List.replicate (7 - (lg_sl ([.ref g0, .int x1, .int x2])).length) Slot.unset).toArray = ls at hl ⊢
  have hl : lv_has ls 7 [(0, .ref g0), (1, .int x1), (2, .int x2)] := hl
  refine lv_aload_n hx hb dX11_isAlike_0 rfl (lv_at hl 0 rfl) ?_
  refine va_get (D := (dC, dI)) (ci := 11) (v := .ref (pq 3)) (C := RX11) (T := TX11) (N := 63) hx hb hts in_wsX11_isAlike_X11 hown hK hP 0 rfl rfl 3 (by decide +kernel) (hts (.fieldLink RX11 19 "ShipOfficeModel" "marks" "[I") iw_X11_isAlike_1) (fun _ h9 => h9) rfl dX11_isAlike_1 ?_
  refine lv_iload_n hx hb dX11_isAlike_4 rfl (lv_at hl 1 rfl) ?_
  refine va_iald hx hb hK hP 4 3 rfl rfl (vp_in_iff.mpr (by omega)) dX11_isAlike_5 ?_
  refine lv_topi (fun x_1 ex_1 => ?_)
  clear ex_1
  refine lv_aload_n hx hb dX11_isAlike_6 rfl (lv_at hl 0 rfl) ?_
  refine va_get (D := (dC, dI)) (ci := 11) (v := .ref (pq 3)) (C := RX11) (T := TX11) (N := 63) hx hb hts in_wsX11_isAlike_X11 hown hK hP 0 rfl rfl 3 (by decide +kernel) (hts (.fieldLink RX11 19 "ShipOfficeModel" "marks" "[I") iw_X11_isAlike_1) (fun _ h9 => h9) rfl dX11_isAlike_7 ?_
  refine lv_iload_n hx hb dX11_isAlike_10 rfl (lv_at hl 2 rfl) ?_
  refine va_iald hx hb hK hP 4 3 rfl rfl (vp_in_iff.mpr (by omega)) dX11_isAlike_11 ?_
  refine lv_topi (fun x_2 ex_2 => ?_)
  clear ex_2
  refine lv_icmp_ne (tgt := 17) hx hb dX11_isAlike_12 (by decide +kernel) (fun c_3 => ?_) (fun c_3 => ?_)
  · have dc_3 := c_ne (a := x_1.toInt) (b := x_2.toInt) rfl rfl c_3
    refine lv_iconst (v := 0) hx hb dX11_isAlike_17 (by decide +kernel) ?_
    refine lv_istore_n (lv' := [(3, .int 0), (0, .ref g0), (1, .int x1), (2, .int x2)]) hx hb dX11_isAlike_18 rfl hl (by decide +kernel) rfl (fun ls hl => ?_)
    refine lv_aload_n hx hb dX11_isAlike_19 rfl (lv_at hl 1 rfl) ?_
    refine va_get (D := (dC, dI)) (ci := 11) (v := .ref (pq 3)) (C := RX11) (T := TX11) (N := 63) hx hb hts in_wsX11_isAlike_X11 hown hK hP 0 rfl rfl 3 (by decide +kernel) (hts (.fieldLink RX11 19 "ShipOfficeModel" "marks" "[I") iw_X11_isAlike_1) (fun _ h9 => h9) rfl dX11_isAlike_20 ?_
    refine lv_iload_n hx hb dX11_isAlike_23 rfl (lv_at hl 2 rfl) ?_
    refine va_iald hx hb hK hP 4 3 rfl rfl (vp_in_iff.mpr (by omega)) dX11_isAlike_24 ?_
    refine lv_topi (fun x_4 ex_4 => ?_)
    clear ex_4
    refine lv_istore (lv' := [(4, .int x_4), (3, .int 0), (0, .ref g0), (1, .int x1), (2, .int x2)]) hx hb dX11_isAlike_25 hl (by decide +kernel) rfl (fun ls hl => ?_)
    refine lv_aload_n hx hb dX11_isAlike_27 rfl (lv_at hl 2 rfl) ?_
    refine va_get (D := (dC, dI)) (ci := 11) (v := .ref (pq 3)) (C := RX11) (T := TX11) (N := 63) hx hb hts in_wsX11_isAlike_X11 hown hK hP 0 rfl rfl 3 (by decide +kernel) (hts (.fieldLink RX11 19 "ShipOfficeModel" "marks" "[I") iw_X11_isAlike_1) (fun _ h9 => h9) rfl dX11_isAlike_28 ?_
    refine lv_iload_n hx hb dX11_isAlike_31 rfl (lv_at hl 4 rfl) ?_
    refine va_iald hx hb hK hP 4 3 rfl rfl (vp_in_iff.mpr (by omega)) dX11_isAlike_32 ?_
    refine lv_topi (fun x_5 ex_5 => ?_)
    clear ex_5
    refine lv_istore (lv' := [(5, .int x_5), (4, .int x_4), (3, .int 0), (0, .ref g0), (1, .int x1), (2, .int x2)]) hx hb dX11_isAlike_33 hl (by decide +kernel) rfl (fun ls hl => ?_)
    refine lv_iconst (v := 0) hx hb dX11_isAlike_35 (by decide +kernel) ?_
    refine lv_istore (lv' := [(6, .int 0), (5, .int x_5), (4, .int x_4), (3, .int 0), (0, .ref g0), (1, .int x1), (2, .int x2)]) hx hb dX11_isAlike_36 hl (by decide +kernel) rfl (fun ls hl => ?_)
    have cut_6 : ∀ (n : Nat) (y_7 : Int32) (y_8 : Int32) (y_9 : Int32) (y_10 : Int32) (H : Heap) (locs : List Loc) (ls : Array Slot), 5 - y_7.toInt ≤ (n : Int) → (0 ≤ y_7.toInt ∧ y_7.toInt ≤ 5) → va_P (dC, dI) vwCl (mW g0 pq cp v fa) H → va_S A s.heap H locs → lv_has ls 7 [(6, .int y_7), (3, .int y_8), (4, .int y_9), (5, .int y_10), (0, .ref g0), (1, .int x1), (2, .int x2)] → W p l e (headSpec wsX11_isAlike { frames := 0, cells := 0, slots := 0, locals := 0 }).room s m #[Value.ref g0, Value.int x1, Value.int x2] below meth c H locs 0 0 (MQ below (va_Qi (fun (r : Int32) (u : Unit) => (0 ≤ r.toInt ∧ r.toInt ≤ 1)) (fun _ _ => True) A) #[Value.ref g0, Value.int x1, Value.int x2] s 0 0 A) (F0 m 38 ls []) := by
      intro n
      induction n using Nat.strongRecOn with
      | ind n ih =>
        intro y_7 y_8 y_9 y_10 H locs ls hm hy_7 hP hS hl
        refine lv_iload hx hb dX11_isAlike_38 (lv_at hl 0 rfl) ?_
        refine lv_iconst (v := 5) hx hb dX11_isAlike_40 (by decide +kernel) ?_
        refine lv_icmp_ge (tgt := 85) hx hb dX11_isAlike_41 (by decide +kernel) (fun c_11 => ?_) (fun c_11 => ?_)
        · have dc_11 := c_le (a := 5) (b := y_7.toInt) (by decide +kernel) rfl c_11
          refine lv_aload_n hx hb dX11_isAlike_85 rfl (lv_at hl 4 rfl) ?_
          refine va_get (D := (dC, dI)) (ci := 11) (v := .ref (pq 2)) (C := RX11) (T := TX11) (N := 63) hx hb hts in_wsX11_isAlike_X11 hown hK hP 0 rfl rfl 2 (by decide +kernel) (hts (.fieldLink RX11 16 "ShipOfficeModel" "name" "[I") iw_X11_isAlike_2) (fun _ h9 => h9) rfl dX11_isAlike_86 ?_
          refine lv_iload_n hx hb dX11_isAlike_89 rfl (lv_at hl 5 rfl) ?_
          refine va_iald hx hb hK hP 3 2 rfl rfl (vp_in_iff.mpr (by omega)) dX11_isAlike_90 ?_
          refine lv_topi (fun x_12 ex_12 => ?_)
          clear ex_12
          refine lv_aload_n hx hb dX11_isAlike_91 rfl (lv_at hl 4 rfl) ?_
          refine va_get (D := (dC, dI)) (ci := 11) (v := .ref (pq 2)) (C := RX11) (T := TX11) (N := 63) hx hb hts in_wsX11_isAlike_X11 hown hK hP 0 rfl rfl 2 (by decide +kernel) (hts (.fieldLink RX11 16 "ShipOfficeModel" "name" "[I") iw_X11_isAlike_2) (fun _ h9 => h9) rfl dX11_isAlike_92 ?_
          refine lv_iload_n hx hb dX11_isAlike_95 rfl (lv_at hl 6 rfl) ?_
          refine va_iald hx hb hK hP 3 2 rfl rfl (vp_in_iff.mpr (by omega)) dX11_isAlike_96 ?_
          refine lv_topi (fun x_13 ex_13 => ?_)
          clear ex_13
          refine lv_icmp_ne (tgt := 109) hx hb dX11_isAlike_97 (by decide +kernel) (fun c_14 => ?_) (fun c_14 => ?_)
          · have dc_14 := c_ne (a := x_12.toInt) (b := x_13.toInt) rfl rfl c_14
            refine lv_iconst (v := 0) hx hb dX11_isAlike_109 (by decide +kernel) ?_
            exact W.zret (v := 0) hx hb hr rfl (fun t ht hW => ⟨⟨0, (), rfl, (by decide +kernel), trivial⟩, hS.F ht⟩) hS.2.2 dX11_isAlike_110
          · have dc_14 := c_eq (a := x_12.toInt) (b := x_13.toInt) rfl rfl c_14
            refine lv_iload_n hx hb dX11_isAlike_100 rfl (lv_at hl 1 rfl) ?_
            refine lv_iconst (v := 2) hx hb dX11_isAlike_101 (by decide +kernel) ?_
            refine lv_icmp_ge (tgt := 109) hx hb dX11_isAlike_102 (by decide +kernel) (fun c_15 => ?_) (fun c_15 => ?_)
            · have dc_15 := c_le (a := 2) (b := y_8.toInt) (by decide +kernel) rfl c_15
              refine lv_iconst (v := 0) hx hb dX11_isAlike_109 (by decide +kernel) ?_
              exact W.zret (v := 0) hx hb hr rfl (fun t ht hW => ⟨⟨0, (), rfl, (by decide +kernel), trivial⟩, hS.F ht⟩) hS.2.2 dX11_isAlike_110
            · have dc_15 := c_nle (a := 2) (b := y_8.toInt) (by decide +kernel) rfl c_15
              refine lv_iconst (v := 1) hx hb dX11_isAlike_105 (by decide +kernel) ?_
              refine lv_goto (tgt := 110) hx hb dX11_isAlike_106 (by decide +kernel) ?_
              exact W.zret (v := 1) hx hb hr rfl (fun t ht hW => ⟨⟨1, (), rfl, (by decide +kernel), trivial⟩, hS.F ht⟩) hS.2.2 dX11_isAlike_110
        · have dc_11 := c_nle (a := 5) (b := y_7.toInt) (by decide +kernel) rfl c_11
          refine lv_iload_n hx hb dX11_isAlike_44 rfl (lv_at hl 1 rfl) ?_
          refine lv_iload hx hb dX11_isAlike_45 (lv_at hl 2 rfl) ?_
          refine lv_bipush (v := 10) hx hb dX11_isAlike_47 (by decide +kernel) ?_
          refine lv_irem hx hb dX11_isAlike_49 (by decide +kernel) ?_
          refine lv_topi (fun x_16 ex_16 => ?_)
          clear ex_16
          refine lv_iload hx hb dX11_isAlike_50 (lv_at hl 3 rfl) ?_
          refine lv_bipush (v := 10) hx hb dX11_isAlike_52 (by decide +kernel) ?_
          refine lv_irem hx hb dX11_isAlike_54 (by decide +kernel) ?_
          refine lv_topi (fun x_17 ex_17 => ?_)
          clear ex_17
          refine lv_icmp_ne (tgt := 62) hx hb dX11_isAlike_55 (by decide +kernel) (fun c_18 => ?_) (fun c_18 => ?_)
          · have dc_18 := c_ne (a := x_16.toInt) (b := x_17.toInt) rfl rfl c_18
            refine lv_iconst (v := 1) hx hb dX11_isAlike_62 (by decide +kernel) ?_
            refine lv_iadd hx hb dX11_isAlike_63 ?_
            refine lv_topi (fun x_19 ex_19 => ?_)
            clear ex_19
            refine lv_istore_n (lv' := [(3, .int x_19), (6, .int y_7), (4, .int y_9), (5, .int y_10), (0, .ref g0), (1, .int x1), (2, .int x2)]) hx hb dX11_isAlike_64 rfl hl (by decide +kernel) rfl (fun ls hl => ?_)
            refine lv_iload hx hb dX11_isAlike_65 (lv_at hl 2 rfl) ?_
            refine lv_bipush (v := 10) hx hb dX11_isAlike_67 (by decide +kernel) ?_
            refine lv_idiv hx hb dX11_isAlike_69 (by decide +kernel) ?_
            refine lv_topi (fun x_20 ex_20 => ?_)
            clear ex_20
            refine lv_istore (lv' := [(4, .int x_20), (3, .int x_19), (6, .int y_7), (5, .int y_10), (0, .ref g0), (1, .int x1), (2, .int x2)]) hx hb dX11_isAlike_70 hl (by decide +kernel) rfl (fun ls hl => ?_)
            refine lv_iload hx hb dX11_isAlike_72 (lv_at hl 3 rfl) ?_
            refine lv_bipush (v := 10) hx hb dX11_isAlike_74 (by decide +kernel) ?_
            refine lv_idiv hx hb dX11_isAlike_76 (by decide +kernel) ?_
            refine lv_topi (fun x_21 ex_21 => ?_)
            clear ex_21
            refine lv_istore (lv' := [(5, .int x_21), (4, .int x_20), (3, .int x_19), (6, .int y_7), (0, .ref g0), (1, .int x1), (2, .int x2)]) hx hb dX11_isAlike_77 hl (by decide +kernel) rfl (fun ls hl => ?_)
            obtain ⟨x_22, ex_22⟩ : ∃ zq : Int32, y_7 + 1 = zq := ⟨_, rfl⟩
            have hx_22 : x_22.toInt = y_7.toInt + 1 := (iv_to ex_22).symm.trans (ad_i rfl (by decide +kernel) (by omega) (by omega))
            refine lv_iinc (v := x_22) (lv' := [(6, .int x_22), (5, .int x_21), (4, .int x_20), (3, .int x_19), (0, .ref g0), (1, .int x1), (2, .int x2)]) hx hb dX11_isAlike_79 hl (k := 3) rfl ex_22 (by decide +kernel) rfl (fun ls hl => ?_)
            clear ex_22
            refine lv_goto (tgt := 38) hx hb dX11_isAlike_82 (by decide +kernel) ?_
            exact ih (n - 1) (by omega) x_22 x_19 x_20 x_21 _ _ ls (by omega) (by omega) hP hS (lv_sub hl [0, 3, 2, 1, 4, 5, 6] rfl)
          · have dc_18 := c_eq (a := x_16.toInt) (b := x_17.toInt) rfl rfl c_18
            refine lv_iconst (v := 0) hx hb dX11_isAlike_58 (by decide +kernel) ?_
            refine lv_goto (tgt := 63) hx hb dX11_isAlike_59 (by decide +kernel) ?_
            refine lv_iadd hx hb dX11_isAlike_63 ?_
            refine lv_topi (fun x_23 ex_23 => ?_)
            clear ex_23
            refine lv_istore_n (lv' := [(3, .int x_23), (6, .int y_7), (4, .int y_9), (5, .int y_10), (0, .ref g0), (1, .int x1), (2, .int x2)]) hx hb dX11_isAlike_64 rfl hl (by decide +kernel) rfl (fun ls hl => ?_)
            refine lv_iload hx hb dX11_isAlike_65 (lv_at hl 2 rfl) ?_
            refine lv_bipush (v := 10) hx hb dX11_isAlike_67 (by decide +kernel) ?_
            refine lv_idiv hx hb dX11_isAlike_69 (by decide +kernel) ?_
            refine lv_topi (fun x_24 ex_24 => ?_)
            clear ex_24
            refine lv_istore (lv' := [(4, .int x_24), (3, .int x_23), (6, .int y_7), (5, .int y_10), (0, .ref g0), (1, .int x1), (2, .int x2)]) hx hb dX11_isAlike_70 hl (by decide +kernel) rfl (fun ls hl => ?_)
            refine lv_iload hx hb dX11_isAlike_72 (lv_at hl 3 rfl) ?_
            refine lv_bipush (v := 10) hx hb dX11_isAlike_74 (by decide +kernel) ?_
            refine lv_idiv hx hb dX11_isAlike_76 (by decide +kernel) ?_
            refine lv_topi (fun x_25 ex_25 => ?_)
            clear ex_25
            refine lv_istore (lv' := [(5, .int x_25), (4, .int x_24), (3, .int x_23), (6, .int y_7), (0, .ref g0), (1, .int x1), (2, .int x2)]) hx hb dX11_isAlike_77 hl (by decide +kernel) rfl (fun ls hl => ?_)
            obtain ⟨x_26, ex_26⟩ : ∃ zq : Int32, y_7 + 1 = zq := ⟨_, rfl⟩
            have hx_26 : x_26.toInt = y_7.toInt + 1 := (iv_to ex_26).symm.trans (ad_i rfl (by decide +kernel) (by omega) (by omega))
            refine lv_iinc (v := x_26) (lv' := [(6, .int x_26), (5, .int x_25), (4, .int x_24), (3, .int x_23), (0, .ref g0), (1, .int x1), (2, .int x2)]) hx hb dX11_isAlike_79 hl (k := 3) rfl ex_26 (by decide +kernel) rfl (fun ls hl => ?_)
            clear ex_26
            refine lv_goto (tgt := 38) hx hb dX11_isAlike_82 (by decide +kernel) ?_
            exact ih (n - 1) (by omega) x_26 x_23 x_24 x_25 _ _ ls (by omega) (by omega) hP hS (lv_sub hl [0, 3, 2, 1, 4, 5, 6] rfl)
    have kc_27 : (0 : Int32).toInt = 0 := by decide
    exact cut_6 6 0 0 x_4 x_5 _ _ ls (by omega) (by decide +kernel) hP hS (lv_sub hl [0, 3, 2, 1, 4, 5, 6] rfl)
  · have dc_3 := c_eq (a := x_1.toInt) (b := x_2.toInt) rfl rfl c_3
    refine lv_iconst (v := 1) hx hb dX11_isAlike_15 (by decide +kernel) ?_
    exact W.zret (v := 1) hx hb hr rfl (fun t ht hW => ⟨⟨1, (), rfl, (by decide +kernel), trivial⟩, hS.F ht⟩) hS.2.2 dX11_isAlike_16
/-- the happening at j is a LEFT or BACK of a that counts on d as known on k -/
def mvP (fa : Nat → Nat → Int32) (a d k : Int) (j : Nat) : Prop := ((fa 10 j).toInt = 3 ∨ (fa 10 j).toInt = 5) ∧ (fa 11 j).toInt = a ∧ (fa 13 j).toInt ≤ k ∧ (fa 12 j).toInt ≤ d
def exW (v : Nat → Int32) (fa : Nat → Nat → Int32) (a d k : Int) : Prop := ∃ j, j < (v 41).toNatClampNeg ∧ mvP fa a d k j
def whI (v : Nat → Int32) (fa : Nat → Nat → Int32) (a d k : Int) (b : Int32) (i : Nat) : Prop := (b.toInt = -1 ∧ ∀ j, j < i → ¬ mvP fa a d k j) ∨ (0 ≤ b.toInt ∧ exW v fa a d k)
theorem whI_next {v : Nat → Int32} {fa : Nat → Nat → Int32} {a d k : Int} {b i i1 : Int32} (h : whI v fa a d k b i.toNatClampNeg) (e : i1.toInt = i.toInt + 1) (hn : ¬ mvP fa a d k i.toNatClampNeg ∨ 0 ≤ b.toInt) (h0 : 0 ≤ i.toInt) : whI v fa a d k b i1.toNatClampNeg := by
  have e1 : i1.toNatClampNeg = i.toNatClampNeg + 1 := by
    show i1.toInt.toNat = i.toInt.toNat + 1
    omega
  rcases h with ⟨hb, h⟩ | h
  · rcases hn with hn | hn
    · refine Or.inl ⟨hb, fun j hj => ?_⟩
      by_cases q : j = i.toNatClampNeg
      · rw [q]; exact hn
      · exact h j (by omega)
    · omega
  · exact Or.inr h
theorem whI_take {v : Nat → Int32} {fa : Nat → Nat → Int32} {a d k : Int} {i : Int32} {n : Nat} (hi : i.toNatClampNeg < (v 41).toNatClampNeg) (hp : mvP fa a d k i.toNatClampNeg) (h0 : 0 ≤ i.toInt) : whI v fa a d k i n := Or.inr ⟨h0, _, hi, hp⟩
theorem wh_end {v : Nat → Int32} {fa : Nat → Nat → Int32} {a d k : Int} {b i : Int32} (h : whI v fa a d k b i.toNatClampNeg) (hi : (v 41).toInt ≤ i.toInt) : exW v fa a d k ↔ 0 ≤ b.toInt := by
  have e1 : i.toNatClampNeg = i.toInt.toNat := rfl
  have e2 : (v 41).toNatClampNeg = (v 41).toInt.toNat := rfl
  rcases h with ⟨hb, h⟩ | h
  · exact ⟨fun ⟨j, hj, hm⟩ => absurd hm (h j (by omega)), fun q => by omega⟩
  · exact ⟨fun _ => h.1, fun _ => h.2⟩
theorem exW_of {v : Nat → Int32} {fa : Nat → Nat → Int32} {a d k a1 d1 k1 : Int} (h : exW v fa a d k) (ea : a = a1) (ed : d = d1) (ek : k = k1) : exW v fa a1 d1 k1 := by
  subst ea ed ek; exact h
theorem ni_lt {i : Int32} {x : Int32} (h0 : 0 ≤ i.toInt) (h : i.toInt < x.toInt) : i.toNatClampNeg < x.toNatClampNeg := by
  show i.toInt.toNat < x.toInt.toNat
  omega
set_option maxHeartbeats 4000000 in
set_option maxRecDepth 100000 in
theorem c_X11_whereOf_b (l : Launch) (dC : Nat → ClassId) (dI : Nat → Nat → Nat) (sz : Nat) (g0 : Nat) (pq : Nat → Nat) (cp : Nat → ClassId) (v : Nat → Int32) (fa : Nat → Nat → Int32) (gV : mV v) (gA : mA fa) (x1 : Int32) (x2 : Int32) (x3 : Int32) : Met l yX11_whereOf wsX11_whereOf ({ frames := 0, cells := 0, slots := 0, locals := 0 }) (va_Pc [.ref g0, .int x1, .int x2, .int x3] (pcW (dC, dI) (mT cp) (mW g0 pq cp v fa) sz)) (va_Qi (fun (r : Int32) (u : Unit) => (-1 ≤ r.toInt ∧ r.toInt ≤ 199) ∧ (exW v fa x1.toInt x2.toInt x3.toInt ↔ 0 ≤ r.toInt)) (fun _ _ => True) (va_A [] sz)) 0 0 (va_A [] sz) := by
  refine Met.ofW (cc := cX11_whereOf) (maxL := 6) (ret := (some .int)) (by decide +kernel) rfl ?_
  intro p e s m args below meth c s₁ B hml hv
  obtain ⟨rfl, hsz, hP, hK, hD0⟩ := hv
  have hx := B.exec
  have hb := B.bytes
  have hr := B.returns
  have hts := atoms_spec (ws := wsX11_whereOf) B.pre
  have hown : s.vm.findClass RX11 = some m.cls := findClass_of_methodNamed B.named
  have hlocks := B.notSynchronized
  subst hsz
  have hD := hD0
  generalize hAe : va_A [] s.heap.size = A at ⊢
  have hA : ∀ q : Nat, s.heap.size ≤ q → A q := fun q h => by rw [← hAe]; exact Or.inr h
  have hS : va_S A s.heap s.heap [] := va_S.rf
  have hP : va_P (dC, dI) vwCl (mW g0 pq cp v fa) s.heap := hP
  have hl := lv_entry ([.ref g0, .int x1, .int x2, .int x3]) (n := 6) (Nat.le_of_ble_eq_true rfl)
  rw [lg_entry_eq]
  generalize (lg_sl ([.ref g0, .int x1, .int x2, .int x3]) ++ List.replicate (6 - (lg_sl ([.ref g0, .int x1, .int x2, .int x3])).length) Slot.unset).toArray = ls at hl ⊢
  have hl : lv_has ls 6 [(0, .ref g0), (1, .int x1), (2, .int x2), (3, .int x3)] := hl
  refine lv_iconst (v := (-1)) hx hb dX11_whereOf_0 (by decide +kernel) ?_
  refine lv_istore (lv' := [(4, .int (-1)), (0, .ref g0), (1, .int x1), (2, .int x2), (3, .int x3)]) hx hb dX11_whereOf_1 hl (by decide +kernel) rfl (fun ls hl => ?_)
  refine lv_iconst (v := 0) hx hb dX11_whereOf_3 (by decide +kernel) ?_
  refine lv_istore (lv' := [(5, .int 0), (4, .int (-1)), (0, .ref g0), (1, .int x1), (2, .int x2), (3, .int x3)]) hx hb dX11_whereOf_4 hl (by decide +kernel) rfl (fun ls hl => ?_)
  have cut_1 : ∀ (n : Nat) (y_2 : Int32) (y_3 : Int32) (H : Heap) (locs : List Loc) (ls : Array Slot), 200 - y_3.toInt ≤ (n : Int) → (-1 ≤ y_2.toInt ∧ y_2.toInt ≤ 199) → (0 ≤ y_3.toInt ∧ y_3.toInt ≤ 200) → whI v fa x1.toInt x2.toInt x3.toInt y_2 y_3.toNatClampNeg → va_P (dC, dI) vwCl (mW g0 pq cp v fa) H → va_S A s.heap H locs → lv_has ls 6 [(4, .int y_2), (5, .int y_3), (0, .ref g0), (1, .int x1), (2, .int x2), (3, .int x3)] → W p l e (headSpec wsX11_whereOf { frames := 0, cells := 0, slots := 0, locals := 0 }).room s m #[Value.ref g0, Value.int x1, Value.int x2, Value.int x3] below meth c H locs 0 0 (MQ below (va_Qi (fun (r : Int32) (u : Unit) => (-1 ≤ r.toInt ∧ r.toInt ≤ 199) ∧ (exW v fa x1.toInt x2.toInt x3.toInt ↔ 0 ≤ r.toInt)) (fun _ _ => True) A) #[Value.ref g0, Value.int x1, Value.int x2, Value.int x3] s 0 0 A) (F0 m 6 ls []) := by
    intro n
    induction n using Nat.strongRecOn with
    | ind n ih =>
      intro y_2 y_3 H locs ls hm hy_2 hy_3 hq0_cut_1 hP hS hl
      refine lv_iload hx hb dX11_whereOf_6 (lv_at hl 1 rfl) ?_
      refine lv_aload_n hx hb dX11_whereOf_8 rfl (lv_at hl 2 rfl) ?_
      refine va_get (D := (dC, dI)) (ci := 11) (v := .int (v 41)) (C := RX11) (T := TX11) (N := 63) hx hb hts in_wsX11_whereOf_X11 hown hK hP 0 rfl rfl 41 (by decide +kernel) (hts (.fieldLink RX11 179 "ShipOfficeModel" "happened" "I") iw_X11_whereOf_1) (fun _ h9 => h9) rfl dX11_whereOf_9 ?_
      refine lv_topi (fun x_4 ex_4 => ?_)
      have hx_4 : 0 ≤ x_4.toInt ∧ x_4.toInt ≤ 200 := iv_of ex_4 (gV 41)
      have gx_4 : x_4.toInt = (v 41).toInt := iv_to ex_4
      clear ex_4
      refine lv_icmp_ge (tgt := 105) hx hb dX11_whereOf_12 (by decide +kernel) (fun c_5 => ?_) (fun c_5 => ?_)
      · have dc_5 := c_le (a := x_4.toInt) (b := y_3.toInt) rfl rfl c_5
        refine lv_iload hx hb dX11_whereOf_105 (lv_at hl 0 rfl) ?_
        exact W.iret (v := y_2) hx hb hr (fun t ht hW => ⟨⟨y_2, (), rfl, ⟨(by omega), (wh_end hq0_cut_1 (by omega))⟩, trivial⟩, hS.F ht⟩) hS.2.2 dX11_whereOf_107
      · have dc_5 := c_nle (a := x_4.toInt) (b := y_3.toInt) rfl rfl c_5
        refine lv_aload_n hx hb dX11_whereOf_15 rfl (lv_at hl 2 rfl) ?_
        refine va_get (D := (dC, dI)) (ci := 11) (v := .ref (pq 10)) (C := RX11) (T := TX11) (N := 63) hx hb hts in_wsX11_whereOf_X11 hown hK hP 0 rfl rfl 10 (by decide +kernel) (hts (.fieldLink RX11 40 "ShipOfficeModel" "what" "[I") iw_X11_whereOf_2) (fun _ h9 => h9) rfl dX11_whereOf_16 ?_
        refine lv_iload hx hb dX11_whereOf_19 (lv_at hl 1 rfl) ?_
        refine va_iald hx hb hK hP 11 10 rfl rfl (vp_in_iff.mpr (by omega)) dX11_whereOf_21 ?_
        refine lv_topi (fun x_6 ex_6 => ?_)
        have gx_6 : x_6.toInt = (fa 10 (y_3 : Int32).toNatClampNeg).toInt := iv_to ex_6
        clear ex_6
        refine lv_iconst (v := 3) hx hb dX11_whereOf_22 (by decide +kernel) ?_
        refine lv_icmp_eq (tgt := 37) hx hb dX11_whereOf_23 (by decide +kernel) (fun c_7 => ?_) (fun c_7 => ?_)
        · have dc_7 := c_eq (a := x_6.toInt) (b := 3) rfl (by decide +kernel) c_7
          refine lv_aload_n hx hb dX11_whereOf_37 rfl (lv_at hl 2 rfl) ?_
          refine va_get (D := (dC, dI)) (ci := 11) (v := .ref (pq 11)) (C := RX11) (T := TX11) (N := 63) hx hb hts in_wsX11_whereOf_X11 hown hK hP 0 rfl rfl 11 (by decide +kernel) (hts (.fieldLink RX11 43 "ShipOfficeModel" "whose" "[I") iw_X11_whereOf_3) (fun _ h9 => h9) rfl dX11_whereOf_38 ?_
          refine lv_iload hx hb dX11_whereOf_41 (lv_at hl 1 rfl) ?_
          refine va_iald hx hb hK hP 12 11 rfl rfl (vp_in_iff.mpr (by omega)) dX11_whereOf_43 ?_
          refine lv_topi (fun x_8 ex_8 => ?_)
          have gx_8 : x_8.toInt = (fa 11 (y_3 : Int32).toNatClampNeg).toInt := iv_to ex_8
          clear ex_8
          refine lv_iload_n hx hb dX11_whereOf_44 rfl (lv_at hl 3 rfl) ?_
          refine lv_icmp_ne (tgt := 99) hx hb dX11_whereOf_45 (by decide +kernel) (fun c_9 => ?_) (fun c_9 => ?_)
          · have dc_9 := c_ne (a := x_8.toInt) (b := x1.toInt) rfl rfl c_9
            obtain ⟨x_10, ex_10⟩ : ∃ zq : Int32, y_3 + 1 = zq := ⟨_, rfl⟩
            have hx_10 : x_10.toInt = y_3.toInt + 1 := (iv_to ex_10).symm.trans (ad_i rfl (by decide +kernel) (by omega) (by omega))
            refine lv_iinc (v := x_10) (lv' := [(5, .int x_10), (4, .int y_2), (0, .ref g0), (1, .int x1), (2, .int x2), (3, .int x3)]) hx hb dX11_whereOf_99 hl (k := 1) rfl ex_10 (by decide +kernel) rfl (fun ls hl => ?_)
            clear ex_10
            refine lv_goto (tgt := 6) hx hb dX11_whereOf_102 (by decide +kernel) ?_
            exact ih (n - 1) (by omega) y_2 x_10 _ _ ls (by omega) (by omega) (by omega) (whI_next hq0_cut_1 (by omega) (by unfold mvP; omega) (by omega)) hP hS (lv_sub hl [1, 0, 2, 3, 4, 5] rfl)
          · have dc_9 := c_eq (a := x_8.toInt) (b := x1.toInt) rfl rfl c_9
            refine lv_aload_n hx hb dX11_whereOf_48 rfl (lv_at hl 2 rfl) ?_
            refine va_get (D := (dC, dI)) (ci := 11) (v := .ref (pq 13)) (C := RX11) (T := TX11) (N := 63) hx hb hts in_wsX11_whereOf_X11 hown hK hP 0 rfl rfl 13 (by decide +kernel) (hts (.fieldLink RX11 49 "ShipOfficeModel" "known" "[I") iw_X11_whereOf_4) (fun _ h9 => h9) rfl dX11_whereOf_49 ?_
            refine lv_iload hx hb dX11_whereOf_52 (lv_at hl 1 rfl) ?_
            refine va_iald hx hb hK hP 14 13 rfl rfl (vp_in_iff.mpr (by omega)) dX11_whereOf_54 ?_
            refine lv_topi (fun x_11 ex_11 => ?_)
            have gx_11 : x_11.toInt = (fa 13 (y_3 : Int32).toNatClampNeg).toInt := iv_to ex_11
            clear ex_11
            refine lv_iload_n hx hb dX11_whereOf_55 rfl (lv_at hl 5 rfl) ?_
            refine lv_icmp_gt (tgt := 99) hx hb dX11_whereOf_56 (by decide +kernel) (fun c_12 => ?_) (fun c_12 => ?_)
            · have dc_12 := c_lt (a := x3.toInt) (b := x_11.toInt) rfl rfl c_12
              obtain ⟨x_13, ex_13⟩ : ∃ zq : Int32, y_3 + 1 = zq := ⟨_, rfl⟩
              have hx_13 : x_13.toInt = y_3.toInt + 1 := (iv_to ex_13).symm.trans (ad_i rfl (by decide +kernel) (by omega) (by omega))
              refine lv_iinc (v := x_13) (lv' := [(5, .int x_13), (4, .int y_2), (0, .ref g0), (1, .int x1), (2, .int x2), (3, .int x3)]) hx hb dX11_whereOf_99 hl (k := 1) rfl ex_13 (by decide +kernel) rfl (fun ls hl => ?_)
              clear ex_13
              refine lv_goto (tgt := 6) hx hb dX11_whereOf_102 (by decide +kernel) ?_
              exact ih (n - 1) (by omega) y_2 x_13 _ _ ls (by omega) (by omega) (by omega) (whI_next hq0_cut_1 (by omega) (by unfold mvP; omega) (by omega)) hP hS (lv_sub hl [1, 0, 2, 3, 4, 5] rfl)
            · have dc_12 := c_nlt (a := x3.toInt) (b := x_11.toInt) rfl rfl c_12
              refine lv_aload_n hx hb dX11_whereOf_59 rfl (lv_at hl 2 rfl) ?_
              refine va_get (D := (dC, dI)) (ci := 11) (v := .ref (pq 12)) (C := RX11) (T := TX11) (N := 63) hx hb hts in_wsX11_whereOf_X11 hown hK hP 0 rfl rfl 12 (by decide +kernel) (hts (.fieldLink RX11 46 "ShipOfficeModel" "day" "[I") iw_X11_whereOf_5) (fun _ h9 => h9) rfl dX11_whereOf_60 ?_
              refine lv_iload hx hb dX11_whereOf_63 (lv_at hl 1 rfl) ?_
              refine va_iald hx hb hK hP 13 12 rfl rfl (vp_in_iff.mpr (by omega)) dX11_whereOf_65 ?_
              refine lv_topi (fun x_14 ex_14 => ?_)
              have hx_14 : 0 ≤ x_14.toInt ∧ x_14.toInt ≤ 3000 := iv_of ex_14 (gA 12 _)
              have gx_14 : x_14.toInt = (fa 12 (y_3 : Int32).toNatClampNeg).toInt := iv_to ex_14
              clear ex_14
              refine lv_iload_n hx hb dX11_whereOf_66 rfl (lv_at hl 4 rfl) ?_
              refine lv_icmp_le (tgt := 73) hx hb dX11_whereOf_67 (by decide +kernel) (fun c_15 => ?_) (fun c_15 => ?_)
              · have dc_15 := c_le (a := x_14.toInt) (b := x2.toInt) rfl rfl c_15
                refine lv_iload hx hb dX11_whereOf_73 (lv_at hl 0 rfl) ?_
                refine lv_if_lt (tgt := 95) hx hb dX11_whereOf_75 (by decide +kernel) (fun c_16 => ?_) (fun c_16 => ?_)
                · have dc_16 := c_lt (a := y_2.toInt) (b := 0) rfl (by decide +kernel) c_16
                  refine lv_iload hx hb dX11_whereOf_95 (lv_at hl 1 rfl) ?_
                  refine lv_istore (lv' := [(4, .int y_3), (5, .int y_3), (0, .ref g0), (1, .int x1), (2, .int x2), (3, .int x3)]) hx hb dX11_whereOf_97 hl (by decide +kernel) rfl (fun ls hl => ?_)
                  obtain ⟨x_17, ex_17⟩ : ∃ zq : Int32, y_3 + 1 = zq := ⟨_, rfl⟩
                  have hx_17 : x_17.toInt = y_3.toInt + 1 := (iv_to ex_17).symm.trans (ad_i rfl (by decide +kernel) (by omega) (by omega))
                  refine lv_iinc (v := x_17) (lv' := [(5, .int x_17), (4, .int y_3), (0, .ref g0), (1, .int x1), (2, .int x2), (3, .int x3)]) hx hb dX11_whereOf_99 hl (k := 1) rfl ex_17 (by decide +kernel) rfl (fun ls hl => ?_)
                  clear ex_17
                  refine lv_goto (tgt := 6) hx hb dX11_whereOf_102 (by decide +kernel) ?_
                  exact ih (n - 1) (by omega) y_3 x_17 _ _ ls (by omega) (by omega) (by omega) (whI_take (ni_lt (by omega) (by omega)) (by unfold mvP; omega) (by omega)) hP hS (lv_sub hl [1, 0, 2, 3, 4, 5] rfl)
                · have dc_16 := c_nlt (a := y_2.toInt) (b := 0) rfl (by decide +kernel) c_16
                  refine lv_aload_n hx hb dX11_whereOf_78 rfl (lv_at hl 2 rfl) ?_
                  refine va_get (D := (dC, dI)) (ci := 11) (v := .ref (pq 12)) (C := RX11) (T := TX11) (N := 63) hx hb hts in_wsX11_whereOf_X11 hown hK hP 0 rfl rfl 12 (by decide +kernel) (hts (.fieldLink RX11 46 "ShipOfficeModel" "day" "[I") iw_X11_whereOf_5) (fun _ h9 => h9) rfl dX11_whereOf_79 ?_
                  refine lv_iload hx hb dX11_whereOf_82 (lv_at hl 1 rfl) ?_
                  refine va_iald hx hb hK hP 13 12 rfl rfl (vp_in_iff.mpr (by omega)) dX11_whereOf_84 ?_
                  refine lv_topi (fun x_18 ex_18 => ?_)
                  have hx_18 : 0 ≤ x_18.toInt ∧ x_18.toInt ≤ 3000 := iv_of ex_18 (gA 12 _)
                  have gx_18 : x_18.toInt = (fa 12 (y_3 : Int32).toNatClampNeg).toInt := iv_to ex_18
                  clear ex_18
                  refine lv_aload_n hx hb dX11_whereOf_85 rfl (lv_at hl 2 rfl) ?_
                  refine va_get (D := (dC, dI)) (ci := 11) (v := .ref (pq 12)) (C := RX11) (T := TX11) (N := 63) hx hb hts in_wsX11_whereOf_X11 hown hK hP 0 rfl rfl 12 (by decide +kernel) (hts (.fieldLink RX11 46 "ShipOfficeModel" "day" "[I") iw_X11_whereOf_5) (fun _ h9 => h9) rfl dX11_whereOf_86 ?_
                  refine lv_iload hx hb dX11_whereOf_89 (lv_at hl 0 rfl) ?_
                  refine va_iald hx hb hK hP 13 12 rfl rfl (vp_in_iff.mpr (by omega)) dX11_whereOf_91 ?_
                  refine lv_topi (fun x_19 ex_19 => ?_)
                  have hx_19 : 0 ≤ x_19.toInt ∧ x_19.toInt ≤ 3000 := iv_of ex_19 (gA 12 _)
                  have gx_19 : x_19.toInt = (fa 12 (y_2 : Int32).toNatClampNeg).toInt := iv_to ex_19
                  clear ex_19
                  refine lv_icmp_lt (tgt := 99) hx hb dX11_whereOf_92 (by decide +kernel) (fun c_20 => ?_) (fun c_20 => ?_)
                  · have dc_20 := c_lt (a := x_18.toInt) (b := x_19.toInt) rfl rfl c_20
                    obtain ⟨x_21, ex_21⟩ : ∃ zq : Int32, y_3 + 1 = zq := ⟨_, rfl⟩
                    have hx_21 : x_21.toInt = y_3.toInt + 1 := (iv_to ex_21).symm.trans (ad_i rfl (by decide +kernel) (by omega) (by omega))
                    refine lv_iinc (v := x_21) (lv' := [(5, .int x_21), (4, .int y_2), (0, .ref g0), (1, .int x1), (2, .int x2), (3, .int x3)]) hx hb dX11_whereOf_99 hl (k := 1) rfl ex_21 (by decide +kernel) rfl (fun ls hl => ?_)
                    clear ex_21
                    refine lv_goto (tgt := 6) hx hb dX11_whereOf_102 (by decide +kernel) ?_
                    exact ih (n - 1) (by omega) y_2 x_21 _ _ ls (by omega) (by omega) (by omega) (whI_next hq0_cut_1 (by omega) (by unfold mvP; omega) (by omega)) hP hS (lv_sub hl [1, 0, 2, 3, 4, 5] rfl)
                  · have dc_20 := c_nlt (a := x_18.toInt) (b := x_19.toInt) rfl rfl c_20
                    refine lv_iload hx hb dX11_whereOf_95 (lv_at hl 1 rfl) ?_
                    refine lv_istore (lv' := [(4, .int y_3), (5, .int y_3), (0, .ref g0), (1, .int x1), (2, .int x2), (3, .int x3)]) hx hb dX11_whereOf_97 hl (by decide +kernel) rfl (fun ls hl => ?_)
                    obtain ⟨x_22, ex_22⟩ : ∃ zq : Int32, y_3 + 1 = zq := ⟨_, rfl⟩
                    have hx_22 : x_22.toInt = y_3.toInt + 1 := (iv_to ex_22).symm.trans (ad_i rfl (by decide +kernel) (by omega) (by omega))
                    refine lv_iinc (v := x_22) (lv' := [(5, .int x_22), (4, .int y_3), (0, .ref g0), (1, .int x1), (2, .int x2), (3, .int x3)]) hx hb dX11_whereOf_99 hl (k := 1) rfl ex_22 (by decide +kernel) rfl (fun ls hl => ?_)
                    clear ex_22
                    refine lv_goto (tgt := 6) hx hb dX11_whereOf_102 (by decide +kernel) ?_
                    exact ih (n - 1) (by omega) y_3 x_22 _ _ ls (by omega) (by omega) (by omega) (whI_take (ni_lt (by omega) (by omega)) (by unfold mvP; omega) (by omega)) hP hS (lv_sub hl [1, 0, 2, 3, 4, 5] rfl)
              · have dc_15 := c_nle (a := x_14.toInt) (b := x2.toInt) rfl rfl c_15
                refine lv_goto (tgt := 99) hx hb dX11_whereOf_70 (by decide +kernel) ?_
                obtain ⟨x_23, ex_23⟩ : ∃ zq : Int32, y_3 + 1 = zq := ⟨_, rfl⟩
                have hx_23 : x_23.toInt = y_3.toInt + 1 := (iv_to ex_23).symm.trans (ad_i rfl (by decide +kernel) (by omega) (by omega))
                refine lv_iinc (v := x_23) (lv' := [(5, .int x_23), (4, .int y_2), (0, .ref g0), (1, .int x1), (2, .int x2), (3, .int x3)]) hx hb dX11_whereOf_99 hl (k := 1) rfl ex_23 (by decide +kernel) rfl (fun ls hl => ?_)
                clear ex_23
                refine lv_goto (tgt := 6) hx hb dX11_whereOf_102 (by decide +kernel) ?_
                exact ih (n - 1) (by omega) y_2 x_23 _ _ ls (by omega) (by omega) (by omega) (whI_next hq0_cut_1 (by omega) (by unfold mvP; omega) (by omega)) hP hS (lv_sub hl [1, 0, 2, 3, 4, 5] rfl)
        · have dc_7 := c_ne (a := x_6.toInt) (b := 3) rfl (by decide +kernel) c_7
          refine lv_aload_n hx hb dX11_whereOf_26 rfl (lv_at hl 2 rfl) ?_
          refine va_get (D := (dC, dI)) (ci := 11) (v := .ref (pq 10)) (C := RX11) (T := TX11) (N := 63) hx hb hts in_wsX11_whereOf_X11 hown hK hP 0 rfl rfl 10 (by decide +kernel) (hts (.fieldLink RX11 40 "ShipOfficeModel" "what" "[I") iw_X11_whereOf_2) (fun _ h9 => h9) rfl dX11_whereOf_27 ?_
          refine lv_iload hx hb dX11_whereOf_30 (lv_at hl 1 rfl) ?_
          refine va_iald hx hb hK hP 11 10 rfl rfl (vp_in_iff.mpr (by omega)) dX11_whereOf_32 ?_
          refine lv_topi (fun x_24 ex_24 => ?_)
          have gx_24 : x_24.toInt = (fa 10 (y_3 : Int32).toNatClampNeg).toInt := iv_to ex_24
          clear ex_24
          refine lv_iconst (v := 5) hx hb dX11_whereOf_33 (by decide +kernel) ?_
          refine lv_icmp_ne (tgt := 99) hx hb dX11_whereOf_34 (by decide +kernel) (fun c_25 => ?_) (fun c_25 => ?_)
          · have dc_25 := c_ne (a := x_24.toInt) (b := 5) rfl (by decide +kernel) c_25
            obtain ⟨x_26, ex_26⟩ : ∃ zq : Int32, y_3 + 1 = zq := ⟨_, rfl⟩
            have hx_26 : x_26.toInt = y_3.toInt + 1 := (iv_to ex_26).symm.trans (ad_i rfl (by decide +kernel) (by omega) (by omega))
            refine lv_iinc (v := x_26) (lv' := [(5, .int x_26), (4, .int y_2), (0, .ref g0), (1, .int x1), (2, .int x2), (3, .int x3)]) hx hb dX11_whereOf_99 hl (k := 1) rfl ex_26 (by decide +kernel) rfl (fun ls hl => ?_)
            clear ex_26
            refine lv_goto (tgt := 6) hx hb dX11_whereOf_102 (by decide +kernel) ?_
            exact ih (n - 1) (by omega) y_2 x_26 _ _ ls (by omega) (by omega) (by omega) (whI_next hq0_cut_1 (by omega) (by unfold mvP; omega) (by omega)) hP hS (lv_sub hl [1, 0, 2, 3, 4, 5] rfl)
          · have dc_25 := c_eq (a := x_24.toInt) (b := 5) rfl (by decide +kernel) c_25
            refine lv_aload_n hx hb dX11_whereOf_37 rfl (lv_at hl 2 rfl) ?_
            refine va_get (D := (dC, dI)) (ci := 11) (v := .ref (pq 11)) (C := RX11) (T := TX11) (N := 63) hx hb hts in_wsX11_whereOf_X11 hown hK hP 0 rfl rfl 11 (by decide +kernel) (hts (.fieldLink RX11 43 "ShipOfficeModel" "whose" "[I") iw_X11_whereOf_3) (fun _ h9 => h9) rfl dX11_whereOf_38 ?_
            refine lv_iload hx hb dX11_whereOf_41 (lv_at hl 1 rfl) ?_
            refine va_iald hx hb hK hP 12 11 rfl rfl (vp_in_iff.mpr (by omega)) dX11_whereOf_43 ?_
            refine lv_topi (fun x_27 ex_27 => ?_)
            have gx_27 : x_27.toInt = (fa 11 (y_3 : Int32).toNatClampNeg).toInt := iv_to ex_27
            clear ex_27
            refine lv_iload_n hx hb dX11_whereOf_44 rfl (lv_at hl 3 rfl) ?_
            refine lv_icmp_ne (tgt := 99) hx hb dX11_whereOf_45 (by decide +kernel) (fun c_28 => ?_) (fun c_28 => ?_)
            · have dc_28 := c_ne (a := x_27.toInt) (b := x1.toInt) rfl rfl c_28
              obtain ⟨x_29, ex_29⟩ : ∃ zq : Int32, y_3 + 1 = zq := ⟨_, rfl⟩
              have hx_29 : x_29.toInt = y_3.toInt + 1 := (iv_to ex_29).symm.trans (ad_i rfl (by decide +kernel) (by omega) (by omega))
              refine lv_iinc (v := x_29) (lv' := [(5, .int x_29), (4, .int y_2), (0, .ref g0), (1, .int x1), (2, .int x2), (3, .int x3)]) hx hb dX11_whereOf_99 hl (k := 1) rfl ex_29 (by decide +kernel) rfl (fun ls hl => ?_)
              clear ex_29
              refine lv_goto (tgt := 6) hx hb dX11_whereOf_102 (by decide +kernel) ?_
              exact ih (n - 1) (by omega) y_2 x_29 _ _ ls (by omega) (by omega) (by omega) (whI_next hq0_cut_1 (by omega) (by unfold mvP; omega) (by omega)) hP hS (lv_sub hl [1, 0, 2, 3, 4, 5] rfl)
            · have dc_28 := c_eq (a := x_27.toInt) (b := x1.toInt) rfl rfl c_28
              refine lv_aload_n hx hb dX11_whereOf_48 rfl (lv_at hl 2 rfl) ?_
              refine va_get (D := (dC, dI)) (ci := 11) (v := .ref (pq 13)) (C := RX11) (T := TX11) (N := 63) hx hb hts in_wsX11_whereOf_X11 hown hK hP 0 rfl rfl 13 (by decide +kernel) (hts (.fieldLink RX11 49 "ShipOfficeModel" "known" "[I") iw_X11_whereOf_4) (fun _ h9 => h9) rfl dX11_whereOf_49 ?_
              refine lv_iload hx hb dX11_whereOf_52 (lv_at hl 1 rfl) ?_
              refine va_iald hx hb hK hP 14 13 rfl rfl (vp_in_iff.mpr (by omega)) dX11_whereOf_54 ?_
              refine lv_topi (fun x_30 ex_30 => ?_)
              have gx_30 : x_30.toInt = (fa 13 (y_3 : Int32).toNatClampNeg).toInt := iv_to ex_30
              clear ex_30
              refine lv_iload_n hx hb dX11_whereOf_55 rfl (lv_at hl 5 rfl) ?_
              refine lv_icmp_gt (tgt := 99) hx hb dX11_whereOf_56 (by decide +kernel) (fun c_31 => ?_) (fun c_31 => ?_)
              · have dc_31 := c_lt (a := x3.toInt) (b := x_30.toInt) rfl rfl c_31
                obtain ⟨x_32, ex_32⟩ : ∃ zq : Int32, y_3 + 1 = zq := ⟨_, rfl⟩
                have hx_32 : x_32.toInt = y_3.toInt + 1 := (iv_to ex_32).symm.trans (ad_i rfl (by decide +kernel) (by omega) (by omega))
                refine lv_iinc (v := x_32) (lv' := [(5, .int x_32), (4, .int y_2), (0, .ref g0), (1, .int x1), (2, .int x2), (3, .int x3)]) hx hb dX11_whereOf_99 hl (k := 1) rfl ex_32 (by decide +kernel) rfl (fun ls hl => ?_)
                clear ex_32
                refine lv_goto (tgt := 6) hx hb dX11_whereOf_102 (by decide +kernel) ?_
                exact ih (n - 1) (by omega) y_2 x_32 _ _ ls (by omega) (by omega) (by omega) (whI_next hq0_cut_1 (by omega) (by unfold mvP; omega) (by omega)) hP hS (lv_sub hl [1, 0, 2, 3, 4, 5] rfl)
              · have dc_31 := c_nlt (a := x3.toInt) (b := x_30.toInt) rfl rfl c_31
                refine lv_aload_n hx hb dX11_whereOf_59 rfl (lv_at hl 2 rfl) ?_
                refine va_get (D := (dC, dI)) (ci := 11) (v := .ref (pq 12)) (C := RX11) (T := TX11) (N := 63) hx hb hts in_wsX11_whereOf_X11 hown hK hP 0 rfl rfl 12 (by decide +kernel) (hts (.fieldLink RX11 46 "ShipOfficeModel" "day" "[I") iw_X11_whereOf_5) (fun _ h9 => h9) rfl dX11_whereOf_60 ?_
                refine lv_iload hx hb dX11_whereOf_63 (lv_at hl 1 rfl) ?_
                refine va_iald hx hb hK hP 13 12 rfl rfl (vp_in_iff.mpr (by omega)) dX11_whereOf_65 ?_
                refine lv_topi (fun x_33 ex_33 => ?_)
                have hx_33 : 0 ≤ x_33.toInt ∧ x_33.toInt ≤ 3000 := iv_of ex_33 (gA 12 _)
                have gx_33 : x_33.toInt = (fa 12 (y_3 : Int32).toNatClampNeg).toInt := iv_to ex_33
                clear ex_33
                refine lv_iload_n hx hb dX11_whereOf_66 rfl (lv_at hl 4 rfl) ?_
                refine lv_icmp_le (tgt := 73) hx hb dX11_whereOf_67 (by decide +kernel) (fun c_34 => ?_) (fun c_34 => ?_)
                · have dc_34 := c_le (a := x_33.toInt) (b := x2.toInt) rfl rfl c_34
                  refine lv_iload hx hb dX11_whereOf_73 (lv_at hl 0 rfl) ?_
                  refine lv_if_lt (tgt := 95) hx hb dX11_whereOf_75 (by decide +kernel) (fun c_35 => ?_) (fun c_35 => ?_)
                  · have dc_35 := c_lt (a := y_2.toInt) (b := 0) rfl (by decide +kernel) c_35
                    refine lv_iload hx hb dX11_whereOf_95 (lv_at hl 1 rfl) ?_
                    refine lv_istore (lv' := [(4, .int y_3), (5, .int y_3), (0, .ref g0), (1, .int x1), (2, .int x2), (3, .int x3)]) hx hb dX11_whereOf_97 hl (by decide +kernel) rfl (fun ls hl => ?_)
                    obtain ⟨x_36, ex_36⟩ : ∃ zq : Int32, y_3 + 1 = zq := ⟨_, rfl⟩
                    have hx_36 : x_36.toInt = y_3.toInt + 1 := (iv_to ex_36).symm.trans (ad_i rfl (by decide +kernel) (by omega) (by omega))
                    refine lv_iinc (v := x_36) (lv' := [(5, .int x_36), (4, .int y_3), (0, .ref g0), (1, .int x1), (2, .int x2), (3, .int x3)]) hx hb dX11_whereOf_99 hl (k := 1) rfl ex_36 (by decide +kernel) rfl (fun ls hl => ?_)
                    clear ex_36
                    refine lv_goto (tgt := 6) hx hb dX11_whereOf_102 (by decide +kernel) ?_
                    exact ih (n - 1) (by omega) y_3 x_36 _ _ ls (by omega) (by omega) (by omega) (whI_take (ni_lt (by omega) (by omega)) (by unfold mvP; omega) (by omega)) hP hS (lv_sub hl [1, 0, 2, 3, 4, 5] rfl)
                  · have dc_35 := c_nlt (a := y_2.toInt) (b := 0) rfl (by decide +kernel) c_35
                    refine lv_aload_n hx hb dX11_whereOf_78 rfl (lv_at hl 2 rfl) ?_
                    refine va_get (D := (dC, dI)) (ci := 11) (v := .ref (pq 12)) (C := RX11) (T := TX11) (N := 63) hx hb hts in_wsX11_whereOf_X11 hown hK hP 0 rfl rfl 12 (by decide +kernel) (hts (.fieldLink RX11 46 "ShipOfficeModel" "day" "[I") iw_X11_whereOf_5) (fun _ h9 => h9) rfl dX11_whereOf_79 ?_
                    refine lv_iload hx hb dX11_whereOf_82 (lv_at hl 1 rfl) ?_
                    refine va_iald hx hb hK hP 13 12 rfl rfl (vp_in_iff.mpr (by omega)) dX11_whereOf_84 ?_
                    refine lv_topi (fun x_37 ex_37 => ?_)
                    have hx_37 : 0 ≤ x_37.toInt ∧ x_37.toInt ≤ 3000 := iv_of ex_37 (gA 12 _)
                    have gx_37 : x_37.toInt = (fa 12 (y_3 : Int32).toNatClampNeg).toInt := iv_to ex_37
                    clear ex_37
                    refine lv_aload_n hx hb dX11_whereOf_85 rfl (lv_at hl 2 rfl) ?_
                    refine va_get (D := (dC, dI)) (ci := 11) (v := .ref (pq 12)) (C := RX11) (T := TX11) (N := 63) hx hb hts in_wsX11_whereOf_X11 hown hK hP 0 rfl rfl 12 (by decide +kernel) (hts (.fieldLink RX11 46 "ShipOfficeModel" "day" "[I") iw_X11_whereOf_5) (fun _ h9 => h9) rfl dX11_whereOf_86 ?_
                    refine lv_iload hx hb dX11_whereOf_89 (lv_at hl 0 rfl) ?_
                    refine va_iald hx hb hK hP 13 12 rfl rfl (vp_in_iff.mpr (by omega)) dX11_whereOf_91 ?_
                    refine lv_topi (fun x_38 ex_38 => ?_)
                    have hx_38 : 0 ≤ x_38.toInt ∧ x_38.toInt ≤ 3000 := iv_of ex_38 (gA 12 _)
                    have gx_38 : x_38.toInt = (fa 12 (y_2 : Int32).toNatClampNeg).toInt := iv_to ex_38
                    clear ex_38
                    refine lv_icmp_lt (tgt := 99) hx hb dX11_whereOf_92 (by decide +kernel) (fun c_39 => ?_) (fun c_39 => ?_)
                    · have dc_39 := c_lt (a := x_37.toInt) (b := x_38.toInt) rfl rfl c_39
                      obtain ⟨x_40, ex_40⟩ : ∃ zq : Int32, y_3 + 1 = zq := ⟨_, rfl⟩
                      have hx_40 : x_40.toInt = y_3.toInt + 1 := (iv_to ex_40).symm.trans (ad_i rfl (by decide +kernel) (by omega) (by omega))
                      refine lv_iinc (v := x_40) (lv' := [(5, .int x_40), (4, .int y_2), (0, .ref g0), (1, .int x1), (2, .int x2), (3, .int x3)]) hx hb dX11_whereOf_99 hl (k := 1) rfl ex_40 (by decide +kernel) rfl (fun ls hl => ?_)
                      clear ex_40
                      refine lv_goto (tgt := 6) hx hb dX11_whereOf_102 (by decide +kernel) ?_
                      exact ih (n - 1) (by omega) y_2 x_40 _ _ ls (by omega) (by omega) (by omega) (whI_next hq0_cut_1 (by omega) (by unfold mvP; omega) (by omega)) hP hS (lv_sub hl [1, 0, 2, 3, 4, 5] rfl)
                    · have dc_39 := c_nlt (a := x_37.toInt) (b := x_38.toInt) rfl rfl c_39
                      refine lv_iload hx hb dX11_whereOf_95 (lv_at hl 1 rfl) ?_
                      refine lv_istore (lv' := [(4, .int y_3), (5, .int y_3), (0, .ref g0), (1, .int x1), (2, .int x2), (3, .int x3)]) hx hb dX11_whereOf_97 hl (by decide +kernel) rfl (fun ls hl => ?_)
                      obtain ⟨x_41, ex_41⟩ : ∃ zq : Int32, y_3 + 1 = zq := ⟨_, rfl⟩
                      have hx_41 : x_41.toInt = y_3.toInt + 1 := (iv_to ex_41).symm.trans (ad_i rfl (by decide +kernel) (by omega) (by omega))
                      refine lv_iinc (v := x_41) (lv' := [(5, .int x_41), (4, .int y_3), (0, .ref g0), (1, .int x1), (2, .int x2), (3, .int x3)]) hx hb dX11_whereOf_99 hl (k := 1) rfl ex_41 (by decide +kernel) rfl (fun ls hl => ?_)
                      clear ex_41
                      refine lv_goto (tgt := 6) hx hb dX11_whereOf_102 (by decide +kernel) ?_
                      exact ih (n - 1) (by omega) y_3 x_41 _ _ ls (by omega) (by omega) (by omega) (whI_take (ni_lt (by omega) (by omega)) (by unfold mvP; omega) (by omega)) hP hS (lv_sub hl [1, 0, 2, 3, 4, 5] rfl)
                · have dc_34 := c_nle (a := x_33.toInt) (b := x2.toInt) rfl rfl c_34
                  refine lv_goto (tgt := 99) hx hb dX11_whereOf_70 (by decide +kernel) ?_
                  obtain ⟨x_42, ex_42⟩ : ∃ zq : Int32, y_3 + 1 = zq := ⟨_, rfl⟩
                  have hx_42 : x_42.toInt = y_3.toInt + 1 := (iv_to ex_42).symm.trans (ad_i rfl (by decide +kernel) (by omega) (by omega))
                  refine lv_iinc (v := x_42) (lv' := [(5, .int x_42), (4, .int y_2), (0, .ref g0), (1, .int x1), (2, .int x2), (3, .int x3)]) hx hb dX11_whereOf_99 hl (k := 1) rfl ex_42 (by decide +kernel) rfl (fun ls hl => ?_)
                  clear ex_42
                  refine lv_goto (tgt := 6) hx hb dX11_whereOf_102 (by decide +kernel) ?_
                  exact ih (n - 1) (by omega) y_2 x_42 _ _ ls (by omega) (by omega) (by omega) (whI_next hq0_cut_1 (by omega) (by unfold mvP; omega) (by omega)) hP hS (lv_sub hl [1, 0, 2, 3, 4, 5] rfl)
  have kc_43 : ((-1) : Int32).toInt = -1 := by decide
  have kc_44 : (0 : Int32).toInt = 0 := by decide
  exact cut_1 201 (-1) 0 _ _ ls (by omega) (by decide +kernel) (by decide +kernel) (Or.inl ⟨by decide, fun j hj => absurd hj (Nat.not_lt_zero j)⟩) hP hS (lv_sub hl [1, 0, 2, 3, 4, 5] rfl)
theorem gb_of {x : Int32} (h : 0 ≤ x.toInt ∧ x.toInt ≤ 1740) : x < 0 ∨ ∃ j : Nat, j ≤ 1740 ∧ x = nI j := Or.inr ⟨x.toNatClampNeg, cn_le (n := 1740) h, cn_eq h⟩
theorem rd_V {v z : Nat → Int32} {n : Nat} (hV : mV v) (h : rdR v n z) : mV z := by
  obtain ⟨k', -, -, -, hs⟩ := h
  intro i
  by_cases q1 : i = 47
  · subst q1; exact iv_all _
  by_cases q2 : i = 48
  · subst q2; exact iv_all _
  by_cases q3 : i = 51
  · subst q3; exact iv_all _
  by_cases q4 : i = 49
  · subst q4; exact iv_all _
  by_cases q5 : i = 50
  · subst q5; exact iv_all _
  rw [hs i q1 q2 q3 q4 q5]
  exact hV i
theorem rd_R {v z : Nat → Int32} {fa fz : Nat → Nat → Int32} {n : Nat} (h : rdR v n z) (e : fz = fa) : scr v fa z fz := by
  obtain ⟨k', -, -, -, hs⟩ := h
  refine ⟨fun i q => hs i ?_ ?_ ?_ ?_ ?_, fun k _ => by rw [e]⟩ <;> (intro e2; subst e2; exact absurd q (by decide +kernel))
