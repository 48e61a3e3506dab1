theorem mmC {c : Cond} {l big : List Cond} (hc : c ∈ big) (hl : ∀ w ∈ l, w ∈ big) : ∀ w ∈ c :: l, w ∈ big := List.forall_mem_cons.mpr ⟨hc, hl⟩
theorem mmA {a b big : List Cond} (ha : ∀ w ∈ a, w ∈ big) (hb : ∀ w ∈ b, w ∈ big) : ∀ w ∈ a ++ b, w ∈ big := fun w h => (List.mem_append.mp h).elim (ha w) (hb w)
theorem mmN {big : List Cond} : ∀ w ∈ ([] : List Cond), w ∈ big := fun _ h => nomatch h
theorem mmI {l big : List Cond} {c : Cond} (h : ∀ w ∈ l, w ∈ big) (i : Nat) (e : l[i]? = some c) : c ∈ big := h c (List.mem_of_getElem? e)
theorem goodIn_app {big a b : List Cond} (ha : GoodIn big a) (hb : GoodIn big b) : GoodIn big (a ++ b) := fun w h => (List.mem_append.mp h).elim (ha w) (hb w)
theorem goodIn_sub {big ws : List Cond} (hm : ∀ w ∈ ws, w ∈ big) (h : ws.all goodWord = true) : GoodIn big ws := fun w hw => ⟨hm w hw, good_of_word (List.all_eq_true.mp h w hw)⟩
abbrev wsX110 : List Cond := u_ws RX11 TX11 63
abbrev cX11_refuse : ByteArray := prog_13_method_2_code
def yX11_refuse : MethodName := ⟨RX11, "refuse", "(I)I"⟩
abbrev cX11_isIn : ByteArray := prog_13_method_4_code
def yX11_isIn : MethodName := ⟨RX11, "isIn", "(II)Z"⟩
abbrev cX11_isMan : ByteArray := prog_13_method_5_code
def yX11_isMan : MethodName := ⟨RX11, "isMan", "(I)Z"⟩
abbrev cX11_isVoyage : ByteArray := prog_13_method_6_code
def yX11_isVoyage : MethodName := ⟨RX11, "isVoyage", "(I)Z"⟩
abbrev cX11_isAgreement : ByteArray := prog_13_method_7_code
def yX11_isAgreement : MethodName := ⟨RX11, "isAgreement", "(I)Z"⟩
abbrev cX11_isPort : ByteArray := prog_13_method_8_code
def yX11_isPort : MethodName := ⟨RX11, "isPort", "(I)Z"⟩
def wsX11_refuse : List Cond := .code yX11_refuse cX11_refuse 2 (some .int) :: ([.fieldLink RX11 7 "ShipOfficeModel" "refusals" "[I"] ++ wsX110)
theorem il_X11_refuse_1 : ∀ w ∈ ([.fieldLink RX11 7 "ShipOfficeModel" "refusals" "[I"] : List Cond), w ∈ wsX11_refuse := fun w h => (List.mem_cons_of_mem _ (List.mem_append_left _ h))
theorem iw_X11_refuse_1 : Cond.fieldLink RX11 7 "ShipOfficeModel" "refusals" "[I" ∈ wsX11_refuse := (mmI il_X11_refuse_1 0 rfl)
def wsX11_isIn : List Cond := .code yX11_isIn cX11_isIn 2 (some .boolean) :: ([])
theorem gw_X11_isIn : wsX11_isIn.all goodWord = true := by decide +kernel
def wsX11_isMan : List Cond := .code yX11_isMan cX11_isMan 2 (some .boolean) :: ([.fieldLink RX11 157 "ShipOfficeModel" "men" "I", .methodLink RX11 161 yX11_isIn, .static yX11_isIn, .initialized RX11, .code yX11_isIn cX11_isIn 2 (some .boolean)] ++ wsX110)
theorem il_X11_isMan_1 : ∀ w ∈ ([.fieldLink RX11 157 "ShipOfficeModel" "men" "I", .methodLink RX11 161 yX11_isIn, .static yX11_isIn, .initialized RX11, .code yX11_isIn cX11_isIn 2 (some .boolean)] : List Cond), w ∈ wsX11_isMan := fun w h => (List.mem_cons_of_mem _ (List.mem_append_left _ h))
theorem iw_X11_isMan_1 : Cond.fieldLink RX11 157 "ShipOfficeModel" "men" "I" ∈ wsX11_isMan := (mmI il_X11_isMan_1 0 rfl)
def wsX11_isVoyage : List Cond := .code yX11_isVoyage cX11_isVoyage 2 (some .boolean) :: ([.fieldLink RX11 165 "ShipOfficeModel" "voyages" "I", .methodLink RX11 161 yX11_isIn, .static yX11_isIn, .initialized RX11, .code yX11_isIn cX11_isIn 2 (some .boolean)] ++ wsX110)
theorem il_X11_isVoyage_1 : ∀ w ∈ ([.fieldLink RX11 165 "ShipOfficeModel" "voyages" "I", .methodLink RX11 161 yX11_isIn, .static yX11_isIn, .initialized RX11, .code yX11_isIn cX11_isIn 2 (some .boolean)] : List Cond), w ∈ wsX11_isVoyage := fun w h => (List.mem_cons_of_mem _ (List.mem_append_left _ h))
theorem iw_X11_isVoyage_1 : Cond.fieldLink RX11 165 "ShipOfficeModel" "voyages" "I" ∈ wsX11_isVoyage := (mmI il_X11_isVoyage_1 0 rfl)
def wsX11_isAgreement : List Cond := .code yX11_isAgreement cX11_isAgreement 2 (some .boolean) :: ([.fieldLink RX11 168 "ShipOfficeModel" "agreements" "I", .methodLink RX11 161 yX11_isIn, .static yX11_isIn, .initialized RX11, .code yX11_isIn cX11_isIn 2 (some .boolean)] ++ wsX110)
theorem il_X11_isAgreement_1 : ∀ w ∈ ([.fieldLink RX11 168 "ShipOfficeModel" "agreements" "I", .methodLink RX11 161 yX11_isIn, .static yX11_isIn, .initialized RX11, .code yX11_isIn cX11_isIn 2 (some .boolean)] : List Cond), w ∈ wsX11_isAgreement := fun w h => (List.mem_cons_of_mem _ (List.mem_append_left _ h))
theorem iw_X11_isAgreement_1 : Cond.fieldLink RX11 168 "ShipOfficeModel" "agreements" "I" ∈ wsX11_isAgreement := (mmI il_X11_isAgreement_1 0 rfl)
def wsX11_isPort : List Cond := .code yX11_isPort cX11_isPort 1 (some .boolean) :: ([.methodLink RX11 161 yX11_isIn, .static yX11_isIn, .initialized RX11, .code yX11_isIn cX11_isIn 2 (some .boolean)])
theorem il_X11_isPort_1 : ∀ w ∈ ([.methodLink RX11 161 yX11_isIn, .static yX11_isIn, .initialized RX11, .code yX11_isIn cX11_isIn 2 (some .boolean)] : List Cond), w ∈ wsX11_isPort := fun w h => (List.mem_cons_of_mem _ h)
theorem dX11_refuse_0 : decode cX11_refuse 0 = .ok (.aload_n 0, 1) := by decide +kernel
theorem dX11_refuse_1 : decode cX11_refuse 1 = .ok (.getfield 7, 3) := by decide +kernel
theorem dX11_refuse_4 : decode cX11_refuse 4 = .ok (.iload_n 1, 1) := by decide +kernel
theorem dX11_refuse_5 : decode cX11_refuse 5 = .ok (.ineg, 1) := by decide +kernel
theorem dX11_refuse_6 : decode cX11_refuse 6 = .ok (.dup2, 1) := by decide +kernel
theorem dX11_refuse_7 : decode cX11_refuse 7 = .ok (.iaload, 1) := by decide +kernel
theorem dX11_refuse_8 : decode cX11_refuse 8 = .ok (.iconst 1, 1) := by decide +kernel
theorem dX11_refuse_9 : decode cX11_refuse 9 = .ok (.iadd, 1) := by decide +kernel
theorem dX11_refuse_10 : decode cX11_refuse 10 = .ok (.iastore, 1) := by decide +kernel
theorem dX11_refuse_11 : decode cX11_refuse 11 = .ok (.iload_n 1, 1) := by decide +kernel
theorem dX11_refuse_12 : decode cX11_refuse 12 = .ok (.ireturn, 1) := by decide +kernel
theorem dX11_isIn_0 : decode cX11_isIn 0 = .ok (.iload_n 0, 1) := by decide +kernel
theorem dX11_isIn_1 : decode cX11_isIn 1 = .ok (.ifCond .lt 12, 3) := by decide +kernel
theorem dX11_isIn_4 : decode cX11_isIn 4 = .ok (.iload_n 0, 1) := by decide +kernel
theorem dX11_isIn_5 : decode cX11_isIn 5 = .ok (.iload_n 1, 1) := by decide +kernel
theorem dX11_isIn_6 : decode cX11_isIn 6 = .ok (.if_icmp .ge 7, 3) := by decide +kernel
theorem dX11_isIn_9 : decode cX11_isIn 9 = .ok (.iconst 1, 1) := by decide +kernel
theorem dX11_isIn_10 : decode cX11_isIn 10 = .ok (.goto 4, 3) := by decide +kernel
theorem dX11_isIn_13 : decode cX11_isIn 13 = .ok (.iconst 0, 1) := by decide +kernel
theorem dX11_isIn_14 : decode cX11_isIn 14 = .ok (.ireturn, 1) := by decide +kernel
set_option maxRecDepth 100000 in
theorem ggX11_isMan_X11_isIn : GoodIn wsX11_isMan wsX11_isIn := goodIn_sub (mmC (mmI il_X11_isMan_1 4 rfl) mmN) gw_X11_isIn
set_option maxRecDepth 20000 in
theorem gX11_isMan_X11_isIn : GoodIn wsX11_isMan (va_wsS RX11 161 yX11_isIn wsX11_isIn) := goodIn_app (goodIn_of _ (by decide +kernel)) ggX11_isMan_X11_isIn
theorem dX11_isMan_0 : decode cX11_isMan 0 = .ok (.iload_n 1, 1) := by decide +kernel
theorem dX11_isMan_1 : decode cX11_isMan 1 = .ok (.aload_n 0, 1) := by decide +kernel
theorem dX11_isMan_2 : decode cX11_isMan 2 = .ok (.getfield 157, 3) := by decide +kernel
theorem dX11_isMan_5 : decode cX11_isMan 5 = .ok (.invokestatic 161, 3) := by decide +kernel
theorem dX11_isMan_8 : decode cX11_isMan 8 = .ok (.ireturn, 1) := by decide +kernel
set_option maxRecDepth 100000 in
theorem ggX11_isVoyage_X11_isIn : GoodIn wsX11_isVoyage wsX11_isIn := goodIn_sub (mmC (mmI il_X11_isVoyage_1 4 rfl) mmN) gw_X11_isIn
set_option maxRecDepth 20000 in
theorem gX11_isVoyage_X11_isIn : GoodIn wsX11_isVoyage (va_wsS RX11 161 yX11_isIn wsX11_isIn) := goodIn_app (goodIn_of _ (by decide +kernel)) ggX11_isVoyage_X11_isIn
theorem dX11_isVoyage_0 : decode cX11_isVoyage 0 = .ok (.iload_n 1, 1) := by decide +kernel
theorem dX11_isVoyage_1 : decode cX11_isVoyage 1 = .ok (.aload_n 0, 1) := by decide +kernel
theorem dX11_isVoyage_2 : decode cX11_isVoyage 2 = .ok (.getfield 165, 3) := by decide +kernel
theorem dX11_isVoyage_5 : decode cX11_isVoyage 5 = .ok (.invokestatic 161, 3) := by decide +kernel
theorem dX11_isVoyage_8 : decode cX11_isVoyage 8 = .ok (.ireturn, 1) := by decide +kernel
set_option maxRecDepth 100000 in
theorem ggX11_isAgreement_X11_isIn : GoodIn wsX11_isAgreement wsX11_isIn := goodIn_sub (mmC (mmI il_X11_isAgreement_1 4 rfl) mmN) gw_X11_isIn
set_option maxRecDepth 20000 in
theorem gX11_isAgreement_X11_isIn : GoodIn wsX11_isAgreement (va_wsS RX11 161 yX11_isIn wsX11_isIn) := goodIn_app (goodIn_of _ (by decide +kernel)) ggX11_isAgreement_X11_isIn
theorem dX11_isAgreement_0 : decode cX11_isAgreement 0 = .ok (.iload_n 1, 1) := by decide +kernel
theorem dX11_isAgreement_1 : decode cX11_isAgreement 1 = .ok (.aload_n 0, 1) := by decide +kernel
theorem dX11_isAgreement_2 : decode cX11_isAgreement 2 = .ok (.getfield 168, 3) := by decide +kernel
theorem dX11_isAgreement_5 : decode cX11_isAgreement 5 = .ok (.invokestatic 161, 3) := by decide +kernel
theorem dX11_isAgreement_8 : decode cX11_isAgreement 8 = .ok (.ireturn, 1) := by decide +kernel
set_option maxRecDepth 100000 in
theorem ggX11_isPort_X11_isIn : GoodIn wsX11_isPort wsX11_isIn := goodIn_sub (mmC (mmI il_X11_isPort_1 3 rfl) mmN) gw_X11_isIn
set_option maxRecDepth 20000 in
theorem gX11_isPort_X11_isIn : GoodIn wsX11_isPort (va_wsS RX11 161 yX11_isIn wsX11_isIn) := goodIn_app (goodIn_of _ (by decide +kernel)) ggX11_isPort_X11_isIn
theorem dX11_isPort_0 : decode cX11_isPort 0 = .ok (.iload_n 0, 1) := by decide +kernel
theorem dX11_isPort_1 : decode cX11_isPort 1 = .ok (.bipush 10, 2) := by decide +kernel
theorem dX11_isPort_3 : decode cX11_isPort 3 = .ok (.invokestatic 161, 3) := by decide +kernel
theorem dX11_isPort_6 : decode cX11_isPort 6 = .ok (.ireturn, 1) := by decide +kernel
theorem in_wsX11_refuse_X11 : ∀ w ∈ wsX110, w ∈ wsX11_refuse := fun w h => List.mem_cons_of_mem _ (List.mem_append_right _ h)
theorem in_wsX11_isMan_X11 : ∀ w ∈ wsX110, w ∈ wsX11_isMan := fun w h => List.mem_cons_of_mem _ (List.mem_append_right _ h)
theorem in_wsX11_isVoyage_X11 : ∀ w ∈ wsX110, w ∈ wsX11_isVoyage := fun w h => List.mem_cons_of_mem _ (List.mem_append_right _ h)
theorem in_wsX11_isAgreement_X11 : ∀ w ∈ wsX110, w ∈ wsX11_isAgreement := fun w h => List.mem_cons_of_mem _ (List.mem_append_right _ h)
/-- the reference in any state: v its int fields by their places, fa its arrays by their places -/
def mG (pq : Nat → Nat) (v : Nat → Int32) : List Value := [.ref (pq 0), .ref (pq 1), .ref (pq 2), .ref (pq 3), .ref (pq 4), .ref (pq 5), .ref (pq 6), .ref (pq 7), .ref (pq 8), .ref (pq 9), .ref (pq 10), .ref (pq 11), .ref (pq 12), .ref (pq 13), .ref (pq 14), .ref (pq 15), .ref (pq 16), .ref (pq 17), .ref (pq 18), .ref (pq 19), .ref (pq 20), .ref (pq 21), .ref (pq 22), .ref (pq 23), .ref (pq 24), .ref (pq 25), .ref (pq 26), .ref (pq 27), .ref (pq 28), .ref (pq 29), .ref (pq 30), .ref (pq 31), .ref (pq 32), .ref (pq 33), .ref (pq 34), .ref (pq 35), .ref (pq 36), .ref (pq 37), .int (v 38), .int (v 39), .int (v 40), .int (v 41), .int (v 42), .int (v 43), .ref (pq 44), .ref (pq 45), .int (v 46), .int (v 47), .int (v 48), .int (v 49), .int (v 50), .int (v 51), .ref (pq 52), .ref (pq 53), .ref (pq 54), .ref (pq 55), .ref (pq 56), .ref (pq 57), .int (v 58), .int (v 59), .int (v 60), .ref (pq 61), .int (v 62)]
def mW (g0 : Nat) (pq : Nat → Nat) (cp : Nat → ClassId) (v : Nat → Int32) (fa : Nat → Nat → Int32) : va_W := [(g0, .inr (11, mG pq v)), (pq 0, .inl (cp 0, 7, .inl (fa 0))), (pq 1, .inl (cp 1, 100, .inl (fa 1))), (pq 2, .inl (cp 2, 40, .inl (fa 2))), (pq 3, .inl (cp 3, 40, .inl (fa 3))), (pq 4, .inl (cp 4, 40, .inl (fa 4))), (pq 5, .inl (cp 5, 160, .inl (fa 5))), (pq 6, .inl (cp 6, 20, .inl (fa 6))), (pq 7, .inl (cp 7, 20, .inl (fa 7))), (pq 8, .inl (cp 8, 20, .inl (fa 8))), (pq 9, .inl (cp 9, 20, .inl (fa 9))), (pq 10, .inl (cp 10, 200, .inl (fa 10))), (pq 11, .inl (cp 11, 200, .inl (fa 11))), (pq 12, .inl (cp 12, 200, .inl (fa 12))), (pq 13, .inl (cp 13, 200, .inl (fa 13))), (pq 14, .inl (cp 14, 200, .inl (fa 14))), (pq 15, .inl (cp 15, 200, .inl (fa 15))), (pq 16, .inl (cp 16, 30, .inl (fa 16))), (pq 17, .inl (cp 17, 30, .inl (fa 17))), (pq 18, .inl (cp 18, 30, .inl (fa 18))), (pq 19, .inl (cp 19, 1800, .inl (fa 19))), (pq 20, .inl (cp 20, 60, .inl (fa 20))), (pq 21, .inl (cp 21, 60, .inl (fa 21))), (pq 22, .inl (cp 22, 60, .inl (fa 22))), (pq 23, .inl (cp 23, 60, .inl (fa 23))), (pq 24, .inl (cp 24, 60, .inl (fa 24))), (pq 25, .inl (cp 25, 60, .inl (fa 25))), (pq 26, .inl (cp 26, 60, .inl (fa 26))), (pq 27, .inl (cp 27, 60, .inl (fa 27))), (pq 28, .inl (cp 28, 60, .inl (fa 28))), (pq 29, .inl (cp 29, 60, .inl (fa 29))), (pq 30, .inl (cp 30, 60, .inl (fa 30))), (pq 31, .inl (cp 31, 60, .inl (fa 31))), (pq 32, .inl (cp 32, 60, .inl (fa 32))), (pq 33, .inl (cp 33, 360, .inl (fa 33))), (pq 34, .inl (cp 34, 360, .inl (fa 34))), (pq 35, .inl (cp 35, 1200, .inl (fa 35))), (pq 36, .inl (cp 36, 1200, .inl (fa 36))), (pq 37, .inl (cp 37, 360, .inl (fa 37))), (pq 44, .inl (cp 44, 60, .inl (fa 44))), (pq 45, .inl (cp 45, 128, .inl (fa 45))), (pq 52, .inl (cp 52, 40, .inl (fa 52))), (pq 53, .inl (cp 53, 10, .inl (fa 53))), (pq 54, .inl (cp 54, 12, .inl (fa 54))), (pq 55, .inl (cp 55, 8, .inl (fa 55))), (pq 56, .inl (cp 56, 8, .inl (fa 56))), (pq 57, .inl (cp 57, 8, .inl (fa 57))), (pq 61, .inl (cp 61, 12, .inl (fa 61)))]
def mT (cp : Nat → ClassId) : List (ClassId × FieldType) := [(cp 0, .int), (cp 1, .int), (cp 2, .int), (cp 3, .int), (cp 4, .int), (cp 5, .int), (cp 6, .int), (cp 7, .int), (cp 8, .int), (cp 9, .int), (cp 10, .int), (cp 11, .int), (cp 12, .int), (cp 13, .int), (cp 14, .int), (cp 15, .int), (cp 16, .int), (cp 17, .int), (cp 18, .int), (cp 19, .int), (cp 20, .int), (cp 21, .int), (cp 22, .int), (cp 23, .int), (cp 24, .int), (cp 25, .int), (cp 26, .int), (cp 27, .int), (cp 28, .int), (cp 29, .int), (cp 30, .int), (cp 31, .int), (cp 32, .int), (cp 33, .int), (cp 34, .int), (cp 35, .int), (cp 36, .int), (cp 37, .boolean), (cp 44, .int), (cp 45, .int), (cp 52, .int), (cp 53, .int), (cp 54, .int), (cp 55, .int), (cp 56, .int), (cp 57, .int), (cp 61, .int)]
def upF (fa : Nat → Nat → Int32) (i k : Nat) (x : Int32) : Nat → Nat → Int32 := fun j => if j = i then upd (fa i) k x else fa j
theorem isI_z (v n : Int32) : narrow .boolean (.int (isI v n)) = .int (isI v n) := by
  unfold isI
  split
  · rfl
  · split <;> rfl
/-- a refusal changes the row of refusals alone -/
def sm0 (v : Nat → Int32) (fa : Nat → Nat → Int32) (u : (Nat → Int32) × (Nat → Nat → Int32)) : Prop := u.1 = v ∧ ∀ i, i ≠ 0 → u.2 i = fa i
set_option maxHeartbeats 4000000 in
set_option maxRecDepth 100000 in
/-- refuse(co): the answer is co; only the row of refusals changes -/
theorem c_X11_refuse (l : Launch) (dC : Nat → ClassId) (dI : Nat → Nat → Nat) (sz : Nat) (g0 : Nat) (pq : Nat → Nat) (cp : Nat → ClassId) (v : Nat → Int32) (fa : Nat → Nat → Int32) (co : Int32) (hc : vp_in (-co) 7) : Met l yX11_refuse wsX11_refuse ({ frames := 0, cells := 0, slots := 0, locals := 0 }) (va_Pc [.ref g0, .int co] (pcW (dC, dI) (mT cp) (mW g0 pq cp v fa) sz)) (va_Qi (fun (r : Int32) (u : (Nat → Int32) × (Nat → Nat → Int32)) => r = co ∧ sm0 v fa u) (fun u t => va_P (dC, dI) vwCl (mW g0 pq cp u.1 u.2) t.heap ∧ va_K (dC, dI) vwCl (mT cp) t ∧ va_D (va_A (mW g0 pq cp v fa) sz) (mW g0 pq cp u.1 u.2)) (va_A (mW g0 pq cp v fa) sz)) 0 0 (va_A (mW g0 pq cp v fa) sz) := by
  refine Met.ofW (cc := cX11_refuse) (maxL := 2) (ret := (some .int)) (by decide +kernel) rfl ?_
  intro p e s m args below meth c s₁ B hml hv
  obtain ⟨rfl, hsz, hP, hK, hD0⟩ := hv
  have hx := B.exec
  have hb := B.bytes
  have hr := B.returns
  have hts := atoms_spec (ws := wsX11_refuse) B.pre
  have hown : s.vm.findClass RX11 = some m.cls := findClass_of_methodNamed B.named
  have hlocks := B.notSynchronized
  subst hsz
  have hD := hD0.self (sz := s.heap.size)
  generalize hAe : va_A (mW g0 pq cp v fa) s.heap.size = A at hD ⊢
  have hA : ∀ q : Nat, s.heap.size ≤ q → A q := fun q h => by rw [← hAe]; exact Or.inr h
  have hS : va_S A s.heap s.heap [] := va_S.rf
  have hP : va_P (dC, dI) vwCl (mW g0 pq cp v fa) s.heap := hP
  have hl := lv_entry ([.ref g0, .int co]) (n := 2) (Nat.le_of_ble_eq_true rfl)
  rw [lg_entry_eq]
  generalize (lg_sl ([.ref g0, .int co]) ++ List.replicate (2 - (lg_sl ([.ref g0, .int co])).length) Slot.unset).toArray = ls at hl ⊢
  have hl : lv_has ls 2 [(0, .ref g0), (1, .int co)] := hl
  refine lv_aload_n hx hb dX11_refuse_0 rfl (lv_at hl 0 rfl) ?_
  refine va_get (D := (dC, dI)) (ci := 11) (v := .ref (pq 0)) (C := RX11) (T := TX11) (N := 63) hx hb hts in_wsX11_refuse_X11 hown hK hP 0 rfl rfl 0 (by decide +kernel) (hts (.fieldLink RX11 7 "ShipOfficeModel" "refusals" "[I") iw_X11_refuse_1) (fun _ h9 => h9) rfl dX11_refuse_1 ?_
  refine lv_iload_n hx hb dX11_refuse_4 rfl (lv_at hl 1 rfl) ?_
  refine lv_ineg hx hb dX11_refuse_5 ?_
  refine lv_dup2_11 hx hb dX11_refuse_6 rfl rfl ?_
  refine va_iald hx hb hK hP 1 0 rfl rfl hc dX11_refuse_7 ?_
  refine lv_iconst (v := 1) hx hb dX11_refuse_8 (by decide +kernel) ?_
  refine lv_iadd hx hb dX11_refuse_9 ?_
  refine va_iast hx hb hK hP hD hS 1 0 rfl rfl hc dX11_refuse_10 (fun H locs hP hD hS => ?_)
  have hP : va_P (dC, dI) vwCl (mW g0 pq cp v (upF fa 0 (-co : Int32).toNatClampNeg ((fa 0 (-co : Int32).toNatClampNeg) + 1))) H := hP
  have hD : va_D A (mW g0 pq cp v (upF fa 0 (-co : Int32).toNatClampNeg ((fa 0 (-co : Int32).toNatClampNeg) + 1))) := hD
  refine lv_iload_n hx hb dX11_refuse_11 rfl (lv_at hl 1 rfl) ?_
  exact W.iret (v := co) hx hb hr (fun t ht hW => ⟨⟨co, (v, (upF fa 0 (-co : Int32).toNatClampNeg ((fa 0 (-co : Int32).toNatClampNeg) + 1))), rfl, ⟨rfl, rfl, fun i h => if_neg h⟩, ⟨by rw [ht]; exact hP, va_K.moved hW.alike hK, hD⟩⟩, hS.F ht⟩) hS.2.2 dX11_refuse_12
set_option maxHeartbeats 4000000 in
set_option maxRecDepth 100000 in
theorem c_X11_isIn (l : Launch) (dC : Nat → ClassId) (dI : Nat → Nat → Nat) (sz : Nat) (v n : Int32) : Met l yX11_isIn wsX11_isIn ({ frames := 0, cells := 0, slots := 0, locals := 0 }) (va_Pc [.int v, .int n] (pcW (dC, dI) [] [] sz)) (va_Qi (fun (r : Int32) (u : Unit) => r = isI v n) (fun _ _ => True) (va_A [] sz)) 0 0 (va_A [] sz) := by
  refine Met.ofW (cc := cX11_isIn) (maxL := 2) (ret := (some .boolean)) (by decide +kernel) rfl ?_
  intro p e s m args below meth c s₁ B hml hv
  obtain ⟨rfl, hsz, hP, hK, hD0⟩ := hv
  have hx := B.exec
  have hb := B.bytes
  have hr := B.returns
  have hts := atoms_spec (ws := wsX11_isIn) B.pre
  have hown : s.vm.findClass RX11 = some m.cls := findClass_of_methodNamed B.named
  have hlocks := B.notSynchronized
  subst hsz
  have hD := hD0
  generalize hAe : va_A [] s.heap.size = A at ⊢
  have hA : ∀ q : Nat, s.heap.size ≤ q → A q := fun q h => by rw [← hAe]; exact Or.inr h
  have hS : va_S A s.heap s.heap [] := va_S.rf
  have hP : va_P (dC, dI) vwCl [] s.heap := hP
  have hl := lv_entry ([.int v, .int n]) (n := 2) (Nat.le_of_ble_eq_true rfl)
  rw [lg_entry_eq]
  generalize (lg_sl ([.int v, .int n]) ++ List.replicate (2 - (lg_sl ([.int v, .int n])).length) Slot.unset).toArray = ls at hl ⊢
  have hl : lv_has ls 2 [(0, .int v), (1, .int n)] := hl
  refine lv_iload_n hx hb dX11_isIn_0 rfl (lv_at hl 0 rfl) ?_
  refine lv_if_lt (tgt := 13) hx hb dX11_isIn_1 (by decide +kernel) (fun c_1 => ?_) (fun c_1 => ?_)
  · refine lv_iconst (v := 0) hx hb dX11_isIn_13 (by decide +kernel) ?_
    exact W.zret (v := 0) hx hb hr rfl (fun t ht hW => ⟨⟨0, (), rfl, (by simp [isI, c_1]), trivial⟩, hS.F ht⟩) hS.2.2 dX11_isIn_14
  · refine lv_iload_n hx hb dX11_isIn_4 rfl (lv_at hl 0 rfl) ?_
    refine lv_iload_n hx hb dX11_isIn_5 rfl (lv_at hl 1 rfl) ?_
    refine lv_icmp_ge (tgt := 13) hx hb dX11_isIn_6 (by decide +kernel) (fun c_2 => ?_) (fun c_2 => ?_)
    · refine lv_iconst (v := 0) hx hb dX11_isIn_13 (by decide +kernel) ?_
      exact W.zret (v := 0) hx hb hr rfl (fun t ht hW => ⟨⟨0, (), rfl, (by simp [isI, c_1, c_2]), trivial⟩, hS.F ht⟩) hS.2.2 dX11_isIn_14
    · refine lv_iconst (v := 1) hx hb dX11_isIn_9 (by decide +kernel) ?_
      refine lv_goto (tgt := 14) hx hb dX11_isIn_10 (by decide +kernel) ?_
      exact W.zret (v := 1) hx hb hr rfl (fun t ht hW => ⟨⟨1, (), rfl, (by simp [isI, c_1, c_2]), trivial⟩, hS.F ht⟩) hS.2.2 dX11_isIn_14
set_option maxHeartbeats 4000000 in
set_option maxRecDepth 100000 in
theorem c_X11_isMan (l : Launch) (dC : Nat → ClassId) (dI : Nat → Nat → Nat) (sz : Nat) (g0 : Nat) (pq : Nat → Nat) (cp : Nat → ClassId) (v : Nat → Int32) (fa : Nat → Nat → Int32) (n : Int32) : Met l yX11_isMan wsX11_isMan ({ frames := 1, cells := 0, slots := 0, locals := 21 }) (va_Pc [.ref g0, .int n] (pcW (dC, dI) (mT cp) (mW g0 pq cp v fa) sz)) (va_Qi (fun (r : Int32) (u : Unit) => r = isI n (v 39)) (fun _ _ => True) (va_A [] sz)) 0 0 (va_A [] sz) := by
  refine Met.ofW (cc := cX11_isMan) (maxL := 2) (ret := (some .boolean)) (by decide +kernel) rfl ?_
  intro p e s m args below meth c s₁ B hml hv
  obtain ⟨rfl, hsz, hP, hK, hD0⟩ := hv
  have hx := B.exec
  have hb := B.bytes
  have hr := B.returns
  have hts := atoms_spec (ws := wsX11_isMan) B.pre
  have hown : s.vm.findClass RX11 = some m.cls := findClass_of_methodNamed B.named
  have hlocks := B.notSynchronized
  subst hsz
  have hD := hD0
  generalize hAe : va_A [] s.heap.size = A at ⊢
  have hA : ∀ q : Nat, s.heap.size ≤ q → A q := fun q h => by rw [← hAe]; exact Or.inr h
  have hS : va_S A s.heap s.heap [] := va_S.rf
  have hP : va_P (dC, dI) vwCl (mW g0 pq cp v fa) s.heap := hP
  have hl := lv_entry ([.ref g0, .int n]) (n := 2) (Nat.le_of_ble_eq_true rfl)
  rw [lg_entry_eq]
  generalize (lg_sl ([.ref g0, .int n]) ++ List.replicate (2 - (lg_sl ([.ref g0, .int n])).length) Slot.unset).toArray = ls at hl ⊢
  have hl : lv_has ls 2 [(0, .ref g0), (1, .int n)] := hl
  refine lv_iload_n hx hb dX11_isMan_0 rfl (lv_at hl 1 rfl) ?_
  refine lv_aload_n hx hb dX11_isMan_1 rfl (lv_at hl 0 rfl) ?_
  refine va_get (D := (dC, dI)) (ci := 11) (v := .int (v 39)) (C := RX11) (T := TX11) (N := 63) hx hb hts in_wsX11_isMan_X11 hown hK hP 0 rfl rfl 39 (by decide +kernel) (hts (.fieldLink RX11 157 "ShipOfficeModel" "men" "I") iw_X11_isMan_1) (fun _ h9 => h9) rfl dX11_isMan_2 ?_
  have hFc : ∀ q, va_A [] s.heap.size q → A q := pu_free hS hA
  have hPc := hP.sub (ws' := []) [] rfl
  have hDc := hD.sub (ws' := []) [] (by decide +kernel) rfl
  have hKc := hK.sub (tys' := []) [] rfl
  refine va_calli (va_runS (As := [.int n, .int (v 39)]) (rest := []) ⟨hx, hb, hml, hown, hts⟩ (c_X11_isIn l dC dI s.heap.size n (v 39)) (va_cwS 2 hts gX11_isMan_X11_isIn rfl rfl rfl (by decide +kernel) ⟨(Nat.le_of_ble_eq_true rfl), (Nat.le_of_ble_eq_true rfl)⟩) (pr_S hPc hKc hDc) rfl rfl hl.1 rfl (lv_room (Nat.le_of_ble_eq_true rfl)) dX11_isMan_5 ⟨(Nat.le_of_ble_eq_true rfl), (Nat.le_of_ble_eq_true rfl)⟩) hS (fun q _ h => hFc q h) hFc (fun r_2 u t H locs ht hvm w_1 hB hz1 hk1 hS => ?_)
  have hP := pu_keep hP hk1
  clear hk1 hz1 hvm hB ht hFc hPc hDc hKc
  subst w_1
  exact W.zret (v := (isI n (v 39))) hx hb hr (isI_z _ _) (fun t ht hW => ⟨⟨(isI n (v 39)), (), rfl, rfl, trivial⟩, hS.F ht⟩) hS.2.2 dX11_isMan_8
set_option maxHeartbeats 4000000 in
set_option maxRecDepth 100000 in
theorem c_X11_isVoyage (l : Launch) (dC : Nat → ClassId) (dI : Nat → Nat → Nat) (sz : Nat) (g0 : Nat) (pq : Nat → Nat) (cp : Nat → ClassId) (v : Nat → Int32) (fa : Nat → Nat → Int32) (n : Int32) : Met l yX11_isVoyage wsX11_isVoyage ({ frames := 1, cells := 0, slots := 0, locals := 21 }) (va_Pc [.ref g0, .int n] (pcW (dC, dI) (mT cp) (mW g0 pq cp v fa) sz)) (va_Qi (fun (r : Int32) (u : Unit) => r = isI n (v 40)) (fun _ _ => True) (va_A [] sz)) 0 0 (va_A [] sz) := by
  refine Met.ofW (cc := cX11_isVoyage) (maxL := 2) (ret := (some .boolean)) (by decide +kernel) rfl ?_
  intro p e s m args below meth c s₁ B hml hv
  obtain ⟨rfl, hsz, hP, hK, hD0⟩ := hv
  have hx := B.exec
  have hb := B.bytes
  have hr := B.returns
  have hts := atoms_spec (ws := wsX11_isVoyage) B.pre
  have hown : s.vm.findClass RX11 = some m.cls := findClass_of_methodNamed B.named
  have hlocks := B.notSynchronized
  subst hsz
  have hD := hD0
  generalize hAe : va_A [] s.heap.size = A at ⊢
  have hA : ∀ q : Nat, s.heap.size ≤ q → A q := fun q h => by rw [← hAe]; exact Or.inr h
  have hS : va_S A s.heap s.heap [] := va_S.rf
  have hP : va_P (dC, dI) vwCl (mW g0 pq cp v fa) s.heap := hP
  have hl := lv_entry ([.ref g0, .int n]) (n := 2) (Nat.le_of_ble_eq_true rfl)
  rw [lg_entry_eq]
  generalize (lg_sl ([.ref g0, .int n]) ++ List.replicate (2 - (lg_sl ([.ref g0, .int n])).length) Slot.unset).toArray = ls at hl ⊢
  have hl : lv_has ls 2 [(0, .ref g0), (1, .int n)] := hl
  refine lv_iload_n hx hb dX11_isVoyage_0 rfl (lv_at hl 1 rfl) ?_
  refine lv_aload_n hx hb dX11_isVoyage_1 rfl (lv_at hl 0 rfl) ?_
  refine va_get (D := (dC, dI)) (ci := 11) (v := .int (v 40)) (C := RX11) (T := TX11) (N := 63) hx hb hts in_wsX11_isVoyage_X11 hown hK hP 0 rfl rfl 40 (by decide +kernel) (hts (.fieldLink RX11 165 "ShipOfficeModel" "voyages" "I") iw_X11_isVoyage_1) (fun _ h9 => h9) rfl dX11_isVoyage_2 ?_
  have hFc : ∀ q, va_A [] s.heap.size q → A q := pu_free hS hA
  have hPc := hP.sub (ws' := []) [] rfl
  have hDc := hD.sub (ws' := []) [] (by decide +kernel) rfl
  have hKc := hK.sub (tys' := []) [] rfl
  refine va_calli (va_runS (As := [.int n, .int (v 40)]) (rest := []) ⟨hx, hb, hml, hown, hts⟩ (c_X11_isIn l dC dI s.heap.size n (v 40)) (va_cwS 2 hts gX11_isVoyage_X11_isIn rfl rfl rfl (by decide +kernel) ⟨(Nat.le_of_ble_eq_true rfl), (Nat.le_of_ble_eq_true rfl)⟩) (pr_S hPc hKc hDc) rfl rfl hl.1 rfl (lv_room (Nat.le_of_ble_eq_true rfl)) dX11_isVoyage_5 ⟨(Nat.le_of_ble_eq_true rfl), (Nat.le_of_ble_eq_true rfl)⟩) hS (fun q _ h => hFc q h) hFc (fun r_2 u t H locs ht hvm w_1 hB hz1 hk1 hS => ?_)
  have hP := pu_keep hP hk1
  clear hk1 hz1 hvm hB ht hFc hPc hDc hKc
  subst w_1
  exact W.zret (v := (isI n (v 40))) hx hb hr (isI_z _ _) (fun t ht hW => ⟨⟨(isI n (v 40)), (), rfl, rfl, trivial⟩, hS.F ht⟩) hS.2.2 dX11_isVoyage_8
set_option maxHeartbeats 4000000 in
set_option maxRecDepth 100000 in
theorem c_X11_isAgreement (l : Launch) (dC : Nat → ClassId) (dI : Nat → Nat → Nat) (sz : Nat) (g0 : Nat) (pq : Nat → Nat) (cp : Nat → ClassId) (v : Nat → Int32) (fa : Nat → Nat → Int32) (n : Int32) : Met l yX11_isAgreement wsX11_isAgreement ({ frames := 1, cells := 0, slots := 0, locals := 21 }) (va_Pc [.ref g0, .int n] (pcW (dC, dI) (mT cp) (mW g0 pq cp v fa) sz)) (va_Qi (fun (r : Int32) (u : Unit) => r = isI n (v 43)) (fun _ _ => True) (va_A [] sz)) 0 0 (va_A [] sz) := by
  refine Met.ofW (cc := cX11_isAgreement) (maxL := 2) (ret := (some .boolean)) (by decide +kernel) rfl ?_
  intro p e s m args below meth c s₁ B hml hv
  obtain ⟨rfl, hsz, hP, hK, hD0⟩ := hv
  have hx := B.exec
  have hb := B.bytes
  have hr := B.returns
  have hts := atoms_spec (ws := wsX11_isAgreement) B.pre
  have hown : s.vm.findClass RX11 = some m.cls := findClass_of_methodNamed B.named
  have hlocks := B.notSynchronized
  subst hsz
  have hD := hD0
  generalize hAe : va_A [] s.heap.size = A at ⊢
  have hA : ∀ q : Nat, s.heap.size ≤ q → A q := fun q h => by rw [← hAe]; exact Or.inr h
  have hS : va_S A s.heap s.heap [] := va_S.rf
  have hP : va_P (dC, dI) vwCl (mW g0 pq cp v fa) s.heap := hP
  have hl := lv_entry ([.ref g0, .int n]) (n := 2) (Nat.le_of_ble_eq_true rfl)
  rw [lg_entry_eq]
  generalize (lg_sl ([.ref g0, .int n]) ++ List.replicate (2 - (lg_sl ([.ref g0, .int n])).length) Slot.unset).toArray = ls at hl ⊢
  have hl : lv_has ls 2 [(0, .ref g0), (1, .int n)] := hl
  refine lv_iload_n hx hb dX11_isAgreement_0 rfl (lv_at hl 1 rfl) ?_
  refine lv_aload_n hx hb dX11_isAgreement_1 rfl (lv_at hl 0 rfl) ?_
  refine va_get (D := (dC, dI)) (ci := 11) (v := .int (v 43)) (C := RX11) (T := TX11) (N := 63) hx hb hts in_wsX11_isAgreement_X11 hown hK hP 0 rfl rfl 43 (by decide +kernel) (hts (.fieldLink RX11 168 "ShipOfficeModel" "agreements" "I") iw_X11_isAgreement_1) (fun _ h9 => h9) rfl dX11_isAgreement_2 ?_
  have hFc : ∀ q, va_A [] s.heap.size q → A q := pu_free hS hA
  have hPc := hP.sub (ws' := []) [] rfl
  have hDc := hD.sub (ws' := []) [] (by decide +kernel) rfl
  have hKc := hK.sub (tys' := []) [] rfl
  refine va_calli (va_runS (As := [.int n, .int (v 43)]) (rest := []) ⟨hx, hb, hml, hown, hts⟩ (c_X11_isIn l dC dI s.heap.size n (v 43)) (va_cwS 2 hts gX11_isAgreement_X11_isIn rfl rfl rfl (by decide +kernel) ⟨(Nat.le_of_ble_eq_true rfl), (Nat.le_of_ble_eq_true rfl)⟩) (pr_S hPc hKc hDc) rfl rfl hl.1 rfl (lv_room (Nat.le_of_ble_eq_true rfl)) dX11_isAgreement_5 ⟨(Nat.le_of_ble_eq_true rfl), (Nat.le_of_ble_eq_true rfl)⟩) hS (fun q _ h => hFc q h) hFc (fun r_2 u t H locs ht hvm w_1 hB hz1 hk1 hS => ?_)
  have hP := pu_keep hP hk1
  clear hk1 hz1 hvm hB ht hFc hPc hDc hKc
  subst w_1
  exact W.zret (v := (isI n (v 43))) hx hb hr (isI_z _ _) (fun t ht hW => ⟨⟨(isI n (v 43)), (), rfl, rfl, trivial⟩, hS.F ht⟩) hS.2.2 dX11_isAgreement_8
set_option maxHeartbeats 4000000 in
set_option maxRecDepth 100000 in
theorem c_X11_isPort (l : Launch) (dC : Nat → ClassId) (dI : Nat → Nat → Nat) (sz : Nat) (n : Int32) : Met l yX11_isPort wsX11_isPort ({ frames := 1, cells := 0, slots := 0, locals := 21 }) (va_Pc [.int n] (pcW (dC, dI) [] [] sz)) (va_Qi (fun (r : Int32) (u : Unit) => r = isI n 10) (fun _ _ => True) (va_A [] sz)) 0 0 (va_A [] sz) := by
  refine Met.ofW (cc := cX11_isPort) (maxL := 1) (ret := (some .boolean)) (by decide +kernel) rfl ?_
  intro p e s m args below meth c s₁ B hml hv
  obtain ⟨rfl, hsz, hP, hK, hD0⟩ := hv
  have hx := B.exec
  have hb := B.bytes
  have hr := B.returns
  have hts := atoms_spec (ws := wsX11_isPort) B.pre
  have hown : s.vm.findClass RX11 = some m.cls := findClass_of_methodNamed B.named
  have hlocks := B.notSynchronized
  subst hsz
  have hD := hD0
  generalize hAe : va_A [] s.heap.size = A at ⊢
  have hA : ∀ q : Nat, s.heap.size ≤ q → A q := fun q h => by rw [← hAe]; exact Or.inr h
  have hS : va_S A s.heap s.heap [] := va_S.rf
  have hP : va_P (dC, dI) vwCl [] s.heap := hP
  have hl := lv_entry ([.int n]) (n := 1) (Nat.le_of_ble_eq_true rfl)
  rw [lg_entry_eq]
  generalize (lg_sl ([.int n]) ++ List.replicate (1 - (lg_sl ([.int n])).length) Slot.unset).toArray = ls at hl ⊢
  have hl : lv_has ls 1 [(0, .int n)] := hl
  refine lv_iload_n hx hb dX11_isPort_0 rfl (lv_at hl 0 rfl) ?_
  refine lv_bipush (v := 10) hx hb dX11_isPort_1 (by decide +kernel) ?_
  have hPc := hP.sub (ws' := []) [] rfl
  have hDc := hD.sub (ws' := []) [] (by decide +kernel) rfl
  have hKc := hK.sub (tys' := []) [] rfl
  have hFc : ∀ q, va_A [] s.heap.size q → A q := pu_free hS hA
  refine va_calli (va_runS (As := [.int n, .int 10]) (rest := []) ⟨hx, hb, hml, hown, hts⟩ (c_X11_isIn l dC dI s.heap.size n 10) (va_cwS 2 hts gX11_isPort_X11_isIn rfl rfl rfl (by decide +kernel) ⟨(Nat.le_of_ble_eq_true rfl), (Nat.le_of_ble_eq_true rfl)⟩) (pr_S hPc hKc hDc) rfl rfl hl.1 rfl (lv_room (Nat.le_of_ble_eq_true rfl)) dX11_isPort_3 ⟨(Nat.le_of_ble_eq_true rfl), (Nat.le_of_ble_eq_true rfl)⟩) hS (fun q _ h => hFc q h) hFc (fun r_2 u t H locs ht hvm w_1 hB hz1 hk1 hS => ?_)
  have hP := pu_keep hP hk1
  clear hk1 hz1 hvm hB hPc hDc hKc hFc ht
  subst w_1
  exact W.zret (v := (isI n 10)) hx hb hr (isI_z _ _) (fun t ht hW => ⟨⟨(isI n 10), (), rfl, rfl, trivial⟩, hS.F ht⟩) hS.2.2 dX11_isPort_6
