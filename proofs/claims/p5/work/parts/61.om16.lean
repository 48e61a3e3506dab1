abbrev cJ7_copyOf_59c91 : ByteArray := prog_17_method_123_code
def yJ7_copyOf_59c91 : MethodName := ⟨RJ7, "copyOf", "([II)[I"⟩
def wsJ7_copyOf_59c91 : List Cond := .code yJ7_copyOf_59c91 cJ7_copyOf_59c91 3 (some (.array .int)) :: ([.methodLink RJ7 316 ⟨"[I", "clone", "()Ljava/lang/Object;"⟩, .sameMethod "[I" "java/lang/Object" "clone" "()Ljava/lang/Object;", .native ⟨"java/lang/Object", "clone", "()Ljava/lang/Object;"⟩, .instanceMethod ⟨"java/lang/Object", "clone", "()Ljava/lang/Object;"⟩, .selects "[I" ⟨"[I", "clone", "()Ljava/lang/Object;"⟩ ⟨"java/lang/Object", "clone", "()Ljava/lang/Object;"⟩, .classLink RJ7 317 "[I", .arrayClass .int, .methodLink RJ7 304 Lib.Math.min.name, .static Lib.Math.min.name, .initialized "java/lang/Math", .code Lib.Math.min.name Lib.Math.min.code 2 (some .int), .methodLink RJ7 150 arraycopyName, .native arraycopyName, .static arraycopyName, .initialized "java/lang/System"])
theorem il_J7_copyOf_59c91_1 : ∀ w ∈ ([.methodLink RJ7 316 ⟨"[I", "clone", "()Ljava/lang/Object;"⟩, .sameMethod "[I" "java/lang/Object" "clone" "()Ljava/lang/Object;", .native ⟨"java/lang/Object", "clone", "()Ljava/lang/Object;"⟩, .instanceMethod ⟨"java/lang/Object", "clone", "()Ljava/lang/Object;"⟩, .selects "[I" ⟨"[I", "clone", "()Ljava/lang/Object;"⟩ ⟨"java/lang/Object", "clone", "()Ljava/lang/Object;"⟩, .classLink RJ7 317 "[I", .arrayClass .int, .methodLink RJ7 304 Lib.Math.min.name, .static Lib.Math.min.name, .initialized "java/lang/Math", .code Lib.Math.min.name Lib.Math.min.code 2 (some .int), .methodLink RJ7 150 arraycopyName, .native arraycopyName, .static arraycopyName, .initialized "java/lang/System"] : List Cond), w ∈ wsJ7_copyOf_59c91 := fun w h => (List.mem_cons_of_mem _ h)
theorem iw_J7_copyOf_59c91_1 : Cond.arrayClass .int ∈ wsJ7_copyOf_59c91 := (mmI il_J7_copyOf_59c91_1 6 rfl)
theorem iw_J7_copyOf_59c91_2 : Cond.methodLink RJ7 304 Lib.Math.min.name ∈ wsJ7_copyOf_59c91 := (mmI il_J7_copyOf_59c91_1 7 rfl)
theorem iw_J7_copyOf_59c91_3 : Cond.static Lib.Math.min.name ∈ wsJ7_copyOf_59c91 := (mmI il_J7_copyOf_59c91_1 8 rfl)
theorem iw_J7_copyOf_59c91_4 : Cond.initialized "java/lang/Math" ∈ wsJ7_copyOf_59c91 := (mmI il_J7_copyOf_59c91_1 9 rfl)
theorem iw_J7_copyOf_59c91_5 : Cond.methodLink RJ7 150 arraycopyName ∈ wsJ7_copyOf_59c91 := (mmI il_J7_copyOf_59c91_1 11 rfl)
theorem iw_J7_copyOf_59c91_6 : Cond.native arraycopyName ∈ wsJ7_copyOf_59c91 := (mmI il_J7_copyOf_59c91_1 12 rfl)
theorem iw_J7_copyOf_59c91_7 : Cond.static arraycopyName ∈ wsJ7_copyOf_59c91 := (mmI il_J7_copyOf_59c91_1 13 rfl)
theorem iw_J7_copyOf_59c91_8 : Cond.initialized "java/lang/System" ∈ wsJ7_copyOf_59c91 := (mmI il_J7_copyOf_59c91_1 14 rfl)
theorem iw_J7_copyOf_59c91_9 : Cond.methodLink RJ7 316 ⟨"[I", "clone", "()Ljava/lang/Object;"⟩ ∈ wsJ7_copyOf_59c91 := (mmI il_J7_copyOf_59c91_1 0 rfl)
theorem iw_J7_copyOf_59c91_10 : Cond.sameMethod "[I" "java/lang/Object" "clone" "()Ljava/lang/Object;" ∈ wsJ7_copyOf_59c91 := (mmI il_J7_copyOf_59c91_1 1 rfl)
theorem iw_J7_copyOf_59c91_11 : Cond.native ⟨"java/lang/Object", "clone", "()Ljava/lang/Object;"⟩ ∈ wsJ7_copyOf_59c91 := (mmI il_J7_copyOf_59c91_1 2 rfl)
theorem iw_J7_copyOf_59c91_12 : Cond.instanceMethod ⟨"java/lang/Object", "clone", "()Ljava/lang/Object;"⟩ ∈ wsJ7_copyOf_59c91 := (mmI il_J7_copyOf_59c91_1 3 rfl)
theorem iw_J7_copyOf_59c91_13 : Cond.selects "[I" ⟨"[I", "clone", "()Ljava/lang/Object;"⟩ ⟨"java/lang/Object", "clone", "()Ljava/lang/Object;"⟩ ∈ wsJ7_copyOf_59c91 := (mmI il_J7_copyOf_59c91_1 4 rfl)
theorem iw_J7_copyOf_59c91_14 : Cond.classLink RJ7 317 "[I" ∈ wsJ7_copyOf_59c91 := (mmI il_J7_copyOf_59c91_1 5 rfl)
theorem dJ7_copyOf_59c91_0 : decode cJ7_copyOf_59c91 0 = .ok (.iload_n 1, 1) := by decide +kernel
theorem dJ7_copyOf_59c91_1 : decode cJ7_copyOf_59c91 1 = .ok (.aload_n 0, 1) := by decide +kernel
theorem dJ7_copyOf_59c91_2 : decode cJ7_copyOf_59c91 2 = .ok (.arraylength, 1) := by decide +kernel
theorem dJ7_copyOf_59c91_3 : decode cJ7_copyOf_59c91 3 = .ok (.if_icmp .ne 11, 3) := by decide +kernel
theorem dJ7_copyOf_59c91_6 : decode cJ7_copyOf_59c91 6 = .ok (.aload_n 0, 1) := by decide +kernel
theorem dJ7_copyOf_59c91_7 : decode cJ7_copyOf_59c91 7 = .ok (.invokevirtual 316, 3) := by decide +kernel
theorem dJ7_copyOf_59c91_10 : decode cJ7_copyOf_59c91 10 = .ok (.checkcast 317, 3) := by decide +kernel
theorem dJ7_copyOf_59c91_13 : decode cJ7_copyOf_59c91 13 = .ok (.areturn, 1) := by decide +kernel
theorem dJ7_copyOf_59c91_14 : decode cJ7_copyOf_59c91 14 = .ok (.iload_n 1, 1) := by decide +kernel
theorem dJ7_copyOf_59c91_15 : decode cJ7_copyOf_59c91 15 = .ok (.newarray .int, 2) := by decide +kernel
theorem dJ7_copyOf_59c91_17 : decode cJ7_copyOf_59c91 17 = .ok (.astore_n 2, 1) := by decide +kernel
theorem dJ7_copyOf_59c91_18 : decode cJ7_copyOf_59c91 18 = .ok (.aload_n 0, 1) := by decide +kernel
theorem dJ7_copyOf_59c91_19 : decode cJ7_copyOf_59c91 19 = .ok (.iconst 0, 1) := by decide +kernel
theorem dJ7_copyOf_59c91_20 : decode cJ7_copyOf_59c91 20 = .ok (.aload_n 2, 1) := by decide +kernel
theorem dJ7_copyOf_59c91_21 : decode cJ7_copyOf_59c91 21 = .ok (.iconst 0, 1) := by decide +kernel
theorem dJ7_copyOf_59c91_22 : decode cJ7_copyOf_59c91 22 = .ok (.aload_n 0, 1) := by decide +kernel
theorem dJ7_copyOf_59c91_23 : decode cJ7_copyOf_59c91 23 = .ok (.arraylength, 1) := by decide +kernel
theorem dJ7_copyOf_59c91_24 : decode cJ7_copyOf_59c91 24 = .ok (.iload_n 1, 1) := by decide +kernel
theorem dJ7_copyOf_59c91_25 : decode cJ7_copyOf_59c91 25 = .ok (.invokestatic 304, 3) := by decide +kernel
theorem dJ7_copyOf_59c91_28 : decode cJ7_copyOf_59c91 28 = .ok (.invokestatic 150, 3) := by decide +kernel
theorem dJ7_copyOf_59c91_31 : decode cJ7_copyOf_59c91 31 = .ok (.aload_n 2, 1) := by decide +kernel
theorem dJ7_copyOf_59c91_32 : decode cJ7_copyOf_59c91 32 = .ok (.areturn, 1) := by decide +kernel


set_option maxHeartbeats 4000000 in
set_option maxRecDepth 100000 in
theorem c_J7_copyOf_59c91 (l : Launch) (dC : Nat → ClassId) (dI : Nat → Nat → Nat) (sz : Nat) (tL tS tG : Nat) (cq : Nat → ClassId) (Z : oS) (gI : oInv Z) (a1 : Nat) (ta1 : oty Z a1 63) (x2 : Int32) (hx2 : 0 ≤ x2.toInt ∧ x2.toInt ≤ 60) : Met l yJ7_copyOf_59c91 wsJ7_copyOf_59c91 ({ frames := 1, cells := 1, slots := 60, locals := 40 }) (va_Pc [.ref a1, .int x2] (pcO (dC, dI) (oT cq) (oW cq Z) sz tL tS tG (oW cq Z))) (va_Qq (fun (r : Option Nat) (u : oS) => oInv u ∧ oX ([] : List Nat) Z u ∧ (∃ b, r = some b ∧ oty u b (300 + x2.toNatClampNeg))) (fun u t => va_P (dC, dI) vwCl (oW cq u) t.heap ∧ va_K (dC, dI) vwCl (oT cq) t ∧ va_D (va_A (oW cq Z) sz) (oW cq u)) (va_A (oW cq Z) sz)) 1 60 (va_A (oW cq Z) sz) := by
  refine Met.ofW (cc := cJ7_copyOf_59c91) (maxL := 3) (ret := (some (.array .int))) (by decide) rfl ?_
  intro p e s m args below meth c s₁ B hml hv
  obtain ⟨rfl, ⟨hsz, hP, hK, hD0⟩, hZ⟩ := hv
  have hx := B.exec
  have hb := B.bytes
  have hr := B.returns
  have hts := atoms_spec (ws := wsJ7_copyOf_59c91) B.pre
  have hown : s.vm.findClass RJ7 = some m.cls := findClass_of_methodNamed B.named
  have hlocks := B.notSynchronized
  subst hsz
  have hD := hD0.self (sz := s.heap.size)
  generalize hAe : va_A (oW cq Z) s.heap.size = A at hD hZ ⊢
  have hA : ∀ q : Nat, s.heap.size ≤ q → A q := fun q h => by rw [← hAe]; exact Or.inr h
  have hS : va_S A s.heap s.heap [] := va_S.rf
  have hP : va_P (dC, dI) vwCl (oW cq Z) s.heap := hP
  have hl := lv_entry ([.ref a1, .int x2]) (n := 3) (Nat.le_of_ble_eq_true rfl)
  rw [lg_entry_eq]
  generalize (lg_sl ([.ref a1, .int x2]) ++ List.replicate (3 - (lg_sl ([.ref a1, .int x2])).length) Slot.unset).toArray = ls at hl ⊢
  have hl : lv_has ls 3 [(0, .ref a1), (1, .int x2)] := hl
  refine lv_iload_n hx hb dJ7_copyOf_59c91_0 rfl (lv_at hl 1 rfl) ?_
  refine lv_aload_n hx hb dJ7_copyOf_59c91_1 rfl (lv_at hl 0 rfl) ?_
  obtain ⟨q_1, hq_1⟩ := og (cq := cq) ta1.1 (oE_63 ta1.2)
  refine va_alen (v := 60) hx hb hK hP q_1 0 hq_1 rfl (show Int32.ofNat 60 = 60 by decide) dJ7_copyOf_59c91_2 ?_
  refine lv_icmp_ne (tgt := 14) hx hb dJ7_copyOf_59c91_3 (by decide) (fun c_2 => ?_) (fun c_2 => ?_)
  · have dc_2 := c_ne (a := x2.toInt) (b := 60) rfl (by decide) c_2
    refine lv_iload_n hx hb dJ7_copyOf_59c91_14 rfl (lv_at hl 1 rfl) ?_
    have hp_5 : x2.toNatClampNeg = x2.toInt.toNat := rfl
    refine va_newa (atype := .int) (ty := .int) (a0 := (x2.toNatClampNeg, .inl (fun _ => 0))) hx hb (hts (.arrayClass .int) iw_J7_copyOf_59c91_1) rfl hK hP hD hS hA (fun _ => rfl) (fun h => by have := c_lt (a := x2.toInt) (b := 0) rfl (by decide) h; omega) rfl (show _ * 4 ≤ 536870912 by have : x2.toNatClampNeg = x2.toInt.toNat := rfl; omega) (Nat.le_of_ble_eq_true rfl) (by have h1 : x2.toNatClampNeg = x2.toInt.toNat := rfl; show 0 + x2.toNatClampNeg ≤ 60; omega) dJ7_copyOf_59c91_15 (fun q_3 k_4 H hK1 hP1 hD1 hS => ?_)
    obtain ⟨rfl, -⟩ := lv_ad (k := 0) hK1 rfl
    clear hK1
    have hnq_3 := add_q hD1
    obtain ⟨S_6, eS_6⟩ : ∃ zq, zq = addO Z q_3 (300 + x2.toNatClampNeg) := ⟨_, rfl⟩
    have hP : va_P (dC, dI) vwCl (oW cq S_6) H := by rw [eS_6]; exact cP (onew hD1 (by rw [oE_ar (n := x2.toNatClampNeg) add_K (by omega), add_I])) hP1
    have hD : va_D A (oW cq S_6) := by rw [eS_6]; exact cD (onew hD1 (by rw [oE_ar (n := x2.toNatClampNeg) add_K (by omega), add_I])) hD1
    clear hP1 hD1
    have hIS_6 : oInv S_6 := by rw [eS_6]; exact oInv.add gI hnq_3 (by omega)
    have XS_6 : oX [] Z S_6 := by rw [eS_6]; exact oX.add hnq_3
    have nzq_3 : q_3 ∉ oL Z := hnq_3
    have X_7 : oX ([] : List Nat) Z S_6 := oX.st oX.rf XS_6 (by decide)
    have tq_3 : oty S_6 q_3 (300 + x2.toNatClampNeg) := by rw [eS_6]; exact add_ty
    have hzq_3 : x2.toNatClampNeg = x2.toInt.toNat := rfl
    refine W.widen (k := 1) (n := 59) (Nat.le_of_ble_eq_true rfl) (by omega) ?_
    refine lv_astore_n (lv' := [(2, .ref q_3), (0, .ref a1), (1, .int x2)]) hx hb dJ7_copyOf_59c91_17 rfl hl (by decide) rfl (fun ls hl => ?_)
    refine lv_aload_n hx hb dJ7_copyOf_59c91_18 rfl (lv_at hl 1 rfl) ?_
    refine lv_iconst (v := 0) hx hb dJ7_copyOf_59c91_19 (by decide) ?_
    refine lv_aload_n hx hb dJ7_copyOf_59c91_20 rfl (lv_at hl 0 rfl) ?_
    refine lv_iconst (v := 0) hx hb dJ7_copyOf_59c91_21 (by decide) ?_
    refine lv_aload_n hx hb dJ7_copyOf_59c91_22 rfl (lv_at hl 1 rfl) ?_
    have t_8 : oty S_6 a1 63 := (oX.ty XS_6 ta1)
    obtain ⟨q_9, hq_9⟩ := og (cq := cq) t_8.1 (oE_63 t_8.2)
    refine va_alen (v := 60) hx hb hK hP q_9 0 hq_9 rfl (show Int32.ofNat 60 = 60 by decide) dJ7_copyOf_59c91_23 ?_
    refine lv_iload_n hx hb dJ7_copyOf_59c91_24 rfl (lv_at hl 2 rfl) ?_
    refine va_mmin hx hb (by rw [hml]; exact hl.1.symm) hown (hts (.methodLink RJ7 304 Lib.Math.min.name) iw_J7_copyOf_59c91_2) (hts (.static Lib.Math.min.name) iw_J7_copyOf_59c91_3) (hts (.initialized "java/lang/Math") iw_J7_copyOf_59c91_4) (hts (.code Lib.Math.min.name Lib.Math.min.code 2 (some .int)) (by decide +kernel)) (Nat.le_of_ble_eq_true rfl) (Nat.le_of_ble_eq_true rfl) (Nat.le_of_ble_eq_true rfl) (Nat.le_of_ble_eq_true rfl) dJ7_copyOf_59c91_25 ?_
    refine lv_topi (fun x_10 ex_10 => ?_)
    have hx_10 := mmin_i ex_10
    clear ex_10
    have kc_11 : (60 : Int32).toInt = 60 := by decide
    obtain ⟨q_12, hq_12⟩ := og (cq := cq) tq_3.1 (oE_ar (n := x2.toNatClampNeg) tq_3.2 (by omega))
    have hn3 : ¬ x_10 < 0 := fun h => by have := c_lt (a := x_10.toInt) (b := 0) rfl (by decide) h; omega
    have hnn : x_10.toNatClampNeg = x_10.toInt.toNat := rfl
    refine va_copyi (ty := .int) hx hb (by rw [hml]; exact hl.1.symm) hown (hts (.methodLink RJ7 150 arraycopyName) iw_J7_copyOf_59c91_5) (hts (.native arraycopyName) iw_J7_copyOf_59c91_6) (hts (.static arraycopyName) iw_J7_copyOf_59c91_7) (hts (.initialized "java/lang/System") iw_J7_copyOf_59c91_8) hK hP hD hS q_9 q_12 0 0 hq_9 hq_12 rfl rfl rfl (by decide) (by decide) hn3 (show 0 + _ ≤ 60 by omega) (show 0 + _ ≤ _ by omega) (fun i _ => rfl) (Nat.le_of_ble_eq_true rfl) (Nat.le_of_ble_eq_true rfl) dJ7_copyOf_59c91_28 (fun H locs hP1 hD1 hS => ?_)
    obtain ⟨S_13, eS_13⟩ : ∃ zq, zq = setF S_6 q_3 (va_cpy (oI S_6 a1) (oI S_6 q_3) (0 : Int32).toNatClampNeg (0 : Int32).toNatClampNeg x_10.toNatClampNeg) := ⟨_, rfl⟩
    have hP : va_P (dC, dI) vwCl (oW cq S_13) H := by rw [eS_13]; exact cP (oset tq_3.1 hq_12 hD rfl (he_F (n := x2.toNatClampNeg) tq_3.2 (by omega)) neF) hP1
    have hD : va_D A (oW cq S_13) := by rw [eS_13]; exact cD (oset tq_3.1 hq_12 hD rfl (he_F (n := x2.toNatClampNeg) tq_3.2 (by omega)) neF) hD1
    clear hP1 hD1
    have hIS_13 : oInv S_13 := by rw [eS_13]; exact oInv.F (n := x2.toNatClampNeg) hIS_6 tq_3.2
    have XS_13 : oX [5000] S_6 S_13 := by rw [eS_13]; exact oX.F (n := x2.toNatClampNeg) tq_3.2 (by decide) (by omega)
    have X_14 : oX ([] : List Nat) Z S_13 := by rw [eS_13]; exact oX.Fn X_7 nzq_3
    refine lv_aload_n hx hb dJ7_copyOf_59c91_31 rfl (lv_at hl 0 rfl) ?_
    refine W.widen (k := 1) (n := 60) (Nat.le_of_ble_eq_true rfl) (Nat.le_of_ble_eq_true rfl) ?_
    have t_15 : oty S_13 q_3 (300 + x2.toNatClampNeg) := (oX.ty XS_13 tq_3)
    exact W.aret (v := .ref q_3) hx hb hr (Or.inr ⟨_, rfl⟩) (Or.inr ⟨_, rfl⟩) (fun t ht hW => ⟨⟨(some q_3), S_13, rfl, ⟨hIS_13, X_14, ⟨_, rfl, t_15⟩⟩, ⟨by rw [ht]; exact hP, va_K.moved hW.alike hK, hD⟩⟩, hS.F ht⟩) hS.2.2 dJ7_copyOf_59c91_32
  · have dc_2 := c_eq (a := x2.toInt) (b := 60) rfl (by decide) c_2
    refine lv_aload_n hx hb dJ7_copyOf_59c91_6 rfl (lv_at hl 0 rfl) ?_
    have hnI := va_nm_int (hK.2 0 _ rfl).2
    refine va_clone (ad := "[I") hx hb (by rw [hml]; exact hl.1.symm) hown (hts (.methodLink RJ7 316 ⟨"[I", "clone", "()Ljava/lang/Object;"⟩) iw_J7_copyOf_59c91_9) (hts (.sameMethod "[I" "java/lang/Object" "clone" "()Ljava/lang/Object;") iw_J7_copyOf_59c91_10) (hts (.native ⟨"java/lang/Object", "clone", "()Ljava/lang/Object;"⟩) iw_J7_copyOf_59c91_11) (hts (.instanceMethod ⟨"java/lang/Object", "clone", "()Ljava/lang/Object;"⟩) iw_J7_copyOf_59c91_12) (hts (.selects "[I" ⟨"[I", "clone", "()Ljava/lang/Object;"⟩ ⟨"java/lang/Object", "clone", "()Ljava/lang/Object;"⟩) iw_J7_copyOf_59c91_13) hZ.2.2.2.2 hK hP hD hS hA q_1 0 hq_1 rfl hnI (fun i v hv => va_fit (cA := cq 0) (n := 60) (F := fun j => .int (oI Z a1 j)) (ty := .int) (fun i _ => rfl) i v hv) (Nat.le_of_ble_eq_true rfl) (Nat.le_of_ble_eq_true rfl) (Nat.le_of_ble_eq_true rfl) (Nat.le_of_ble_eq_true rfl) dJ7_copyOf_59c91_7 (fun q_16 H hK1 hP1 hD1 hS => ?_)
    clear hK1
    have hnq_16 := add_q hD1
    obtain ⟨S_17, eS_17⟩ : ∃ zq, zq = setF (addO Z q_16 360) q_16 (oI Z a1) := ⟨_, rfl⟩
    have hP : va_P (dC, dI) vwCl (oW cq S_17) H := by rw [eS_17]; exact cP (onewF (n := 60) hD1 (by decide)) hP1
    have hD : va_D A (oW cq S_17) := by rw [eS_17]; exact cD (onewF (n := 60) hD1 (by decide)) hD1
    clear hP1 hD1
    have hIS_17 : oInv S_17 := by rw [eS_17]; exact oInv.F (n := 60) (oInv.add gI hnq_16 (by decide)) add_K
    have XS_17 : oX [] Z S_17 := by rw [eS_17]; exact oX.Fn (oX.add hnq_16) hnq_16
    have tq_16 : oty S_17 q_16 360 := by rw [eS_17]; exact oX.ty (W := [5000]) (oX.F (n := 60) add_K (by decide) (by decide)) add_ty
    have X_18 : oX ([] : List Nat) Z S_17 := oX.st oX.rf XS_17 (by decide)
    refine W.widen (k := 1) (n := 60) (Nat.le_of_ble_eq_true rfl) (Nat.le_of_ble_eq_true rfl) ?_
    obtain ⟨q_19, hq_19⟩ := og (cq := cq) tq_16.1 (oE_ar (n := 60) tq_16.2 (by decide))
    refine va_castA hx hb hown (hts (.classLink RJ7 317 "[I") iw_J7_copyOf_59c91_14) hP q_19 hq_19 hnI dJ7_copyOf_59c91_10 ?_
    have h60 : x2.toNatClampNeg = 60 := (show x2.toInt.toNat = 60 by omega)
    have t_20 : oty S_17 q_16 (300 + x2.toNatClampNeg) := by rw [h60]; exact tq_16
    exact W.aret (v := .ref q_16) hx hb hr (Or.inr ⟨_, rfl⟩) (Or.inr ⟨_, rfl⟩) (fun t ht hW => ⟨⟨(some q_16), S_17, rfl, ⟨hIS_17, X_18, ⟨_, rfl, t_20⟩⟩, ⟨by rw [ht]; exact hP, va_K.moved hW.alike hK, hD⟩⟩, hS.F ht⟩) hS.2.2 dJ7_copyOf_59c91_13
