abbrev cX0_worth : ByteArray := prog_2_method_3_code
def yX0_worth : MethodName := ⟨RX0, "worth", "([I)I"⟩
theorem gw_X0_joined : wsX0_joined.all goodWord = true := by decide +kernel
def wsX0_worth : List Cond := .code yX0_worth cX0_worth 8 (some .int) :: ([.fieldLink RX0 16 "ShipOffice$Act" "code" "[I", .fieldLink RX0 20 "ShipOffice$Act" "stack" "[I", .methodLink RX0 36 yX0_joined, .static yX0_joined, .initialized RX0, .code yX0_joined cX0_joined 5 (some .int), .methodLink RX0 40 yX0_held, .static yX0_held, .code yX0_held cX0_held 2 (some .int), .constantLong RX0 44 (1000000000), .constant RX0 46 (1000000000), .constantLong RX0 47 (-1000000000), .constant RX0 49 (-1000000000)] ++ wsX00)
theorem il_X0_worth_1 : ∀ w ∈ ([.fieldLink RX0 16 "ShipOffice$Act" "code" "[I", .fieldLink RX0 20 "ShipOffice$Act" "stack" "[I", .methodLink RX0 36 yX0_joined, .static yX0_joined, .initialized RX0, .code yX0_joined cX0_joined 5 (some .int), .methodLink RX0 40 yX0_held, .static yX0_held, .code yX0_held cX0_held 2 (some .int), .constantLong RX0 44 (1000000000), .constant RX0 46 (1000000000), .constantLong RX0 47 (-1000000000), .constant RX0 49 (-1000000000)] : List Cond), w ∈ wsX0_worth := fun w h => (List.mem_cons_of_mem _ (List.mem_append_left _ h))
theorem iw_X0_worth_1 : Cond.fieldLink RX0 16 "ShipOffice$Act" "code" "[I" ∈ wsX0_worth := (mmI il_X0_worth_1 0 rfl)
theorem iw_X0_worth_2 : Cond.fieldLink RX0 20 "ShipOffice$Act" "stack" "[I" ∈ wsX0_worth := (mmI il_X0_worth_1 1 rfl)
set_option maxRecDepth 100000 in
theorem ggX0_worth_X0_joined : GoodIn wsX0_worth wsX0_joined := goodIn_sub (mmC (mmI il_X0_worth_1 5 rfl) (mmC (mmI il_X0_worth_1 6 rfl) (mmC (mmI il_X0_worth_1 7 rfl) (mmC (mmI il_X0_worth_1 4 rfl) (mmC (mmI il_X0_worth_1 8 rfl) (mmC (mmI il_X0_worth_1 9 rfl) (mmC (mmI il_X0_worth_1 10 rfl) (mmC (mmI il_X0_worth_1 11 rfl) (mmC (mmI il_X0_worth_1 12 rfl) mmN))))))))) gw_X0_joined
set_option maxRecDepth 20000 in
theorem gX0_worth_X0_joined : GoodIn wsX0_worth (va_wsS RX0 36 yX0_joined wsX0_joined) := goodIn_app (goodIn_of _ (by decide +kernel)) ggX0_worth_X0_joined
theorem dX0_worth_0 : decode cX0_worth 0 = .ok (.iconst 0, 1) := by decide +kernel
theorem dX0_worth_1 : decode cX0_worth 1 = .ok (.istore_n 2, 1) := by decide +kernel
theorem dX0_worth_2 : decode cX0_worth 2 = .ok (.aload_n 0, 1) := by decide +kernel
theorem dX0_worth_3 : decode cX0_worth 3 = .ok (.getfield 16, 3) := by decide +kernel
theorem dX0_worth_6 : decode cX0_worth 6 = .ok (.astore_n 3, 1) := by decide +kernel
theorem dX0_worth_7 : decode cX0_worth 7 = .ok (.aload_n 3, 1) := by decide +kernel
theorem dX0_worth_8 : decode cX0_worth 8 = .ok (.arraylength, 1) := by decide +kernel
theorem dX0_worth_9 : decode cX0_worth 9 = .ok (.istore 4, 2) := by decide +kernel
theorem dX0_worth_11 : decode cX0_worth 11 = .ok (.iconst 0, 1) := by decide +kernel
theorem dX0_worth_12 : decode cX0_worth 12 = .ok (.istore 5, 2) := by decide +kernel
theorem dX0_worth_14 : decode cX0_worth 14 = .ok (.iload 5, 2) := by decide +kernel
theorem dX0_worth_16 : decode cX0_worth 16 = .ok (.iload 4, 2) := by decide +kernel
theorem dX0_worth_18 : decode cX0_worth 18 = .ok (.if_icmp .ge 110, 3) := by decide +kernel
theorem dX0_worth_21 : decode cX0_worth 21 = .ok (.aload_n 3, 1) := by decide +kernel
theorem dX0_worth_22 : decode cX0_worth 22 = .ok (.iload 5, 2) := by decide +kernel
theorem dX0_worth_24 : decode cX0_worth 24 = .ok (.iaload, 1) := by decide +kernel
theorem dX0_worth_25 : decode cX0_worth 25 = .ok (.istore 6, 2) := by decide +kernel
theorem dX0_worth_27 : decode cX0_worth 27 = .ok (.iload 6, 2) := by decide +kernel
theorem dX0_worth_29 : decode cX0_worth 29 = .ok (.bipush (-11), 2) := by decide +kernel
theorem dX0_worth_31 : decode cX0_worth 31 = .ok (.if_icmp .le 51, 3) := by decide +kernel
theorem dX0_worth_34 : decode cX0_worth 34 = .ok (.iload_n 2, 1) := by decide +kernel
theorem dX0_worth_35 : decode cX0_worth 35 = .ok (.aload_n 0, 1) := by decide +kernel
theorem dX0_worth_36 : decode cX0_worth 36 = .ok (.getfield 20, 3) := by decide +kernel
theorem dX0_worth_39 : decode cX0_worth 39 = .ok (.arraylength, 1) := by decide +kernel
theorem dX0_worth_40 : decode cX0_worth 40 = .ok (.if_icmp .ge 42, 3) := by decide +kernel
theorem dX0_worth_43 : decode cX0_worth 43 = .ok (.iconst (-1), 1) := by decide +kernel
theorem dX0_worth_44 : decode cX0_worth 44 = .ok (.iload 6, 2) := by decide +kernel
theorem dX0_worth_46 : decode cX0_worth 46 = .ok (.isub, 1) := by decide +kernel
theorem dX0_worth_47 : decode cX0_worth 47 = .ok (.istore 7, 2) := by decide +kernel
theorem dX0_worth_49 : decode cX0_worth 49 = .ok (.aload_n 0, 1) := by decide +kernel
theorem dX0_worth_50 : decode cX0_worth 50 = .ok (.getfield 20, 3) := by decide +kernel
theorem dX0_worth_53 : decode cX0_worth 53 = .ok (.iload_n 2, 1) := by decide +kernel
theorem dX0_worth_54 : decode cX0_worth 54 = .ok (.iload 7, 2) := by decide +kernel
theorem dX0_worth_56 : decode cX0_worth 56 = .ok (.ifCond .lt 17, 3) := by decide +kernel
theorem dX0_worth_59 : decode cX0_worth 59 = .ok (.iload 7, 2) := by decide +kernel
theorem dX0_worth_61 : decode cX0_worth 61 = .ok (.aload_n 1, 1) := by decide +kernel
theorem dX0_worth_62 : decode cX0_worth 62 = .ok (.arraylength, 1) := by decide +kernel
theorem dX0_worth_63 : decode cX0_worth 63 = .ok (.if_icmp .ge 10, 3) := by decide +kernel
theorem dX0_worth_66 : decode cX0_worth 66 = .ok (.aload_n 1, 1) := by decide +kernel
theorem dX0_worth_67 : decode cX0_worth 67 = .ok (.iload 7, 2) := by decide +kernel
theorem dX0_worth_69 : decode cX0_worth 69 = .ok (.iaload, 1) := by decide +kernel
theorem dX0_worth_70 : decode cX0_worth 70 = .ok (.goto 5, 3) := by decide +kernel
theorem dX0_worth_73 : decode cX0_worth 73 = .ok (.iload 6, 2) := by decide +kernel
theorem dX0_worth_75 : decode cX0_worth 75 = .ok (.iastore, 1) := by decide +kernel
theorem dX0_worth_76 : decode cX0_worth 76 = .ok (.iinc 2 1, 3) := by decide +kernel
theorem dX0_worth_79 : decode cX0_worth 79 = .ok (.goto 43, 3) := by decide +kernel
theorem dX0_worth_82 : decode cX0_worth 82 = .ok (.iload_n 2, 1) := by decide +kernel
theorem dX0_worth_83 : decode cX0_worth 83 = .ok (.iconst 2, 1) := by decide +kernel
theorem dX0_worth_84 : decode cX0_worth 84 = .ok (.if_icmp .lt 38, 3) := by decide +kernel
theorem dX0_worth_87 : decode cX0_worth 87 = .ok (.iinc 2 (-1), 3) := by decide +kernel
theorem dX0_worth_90 : decode cX0_worth 90 = .ok (.aload_n 0, 1) := by decide +kernel
theorem dX0_worth_91 : decode cX0_worth 91 = .ok (.getfield 20, 3) := by decide +kernel
theorem dX0_worth_94 : decode cX0_worth 94 = .ok (.iload_n 2, 1) := by decide +kernel
theorem dX0_worth_95 : decode cX0_worth 95 = .ok (.iconst 1, 1) := by decide +kernel
theorem dX0_worth_96 : decode cX0_worth 96 = .ok (.isub, 1) := by decide +kernel
theorem dX0_worth_97 : decode cX0_worth 97 = .ok (.aload_n 0, 1) := by decide +kernel
theorem dX0_worth_98 : decode cX0_worth 98 = .ok (.getfield 20, 3) := by decide +kernel
theorem dX0_worth_101 : decode cX0_worth 101 = .ok (.iload_n 2, 1) := by decide +kernel
theorem dX0_worth_102 : decode cX0_worth 102 = .ok (.iconst 1, 1) := by decide +kernel
theorem dX0_worth_103 : decode cX0_worth 103 = .ok (.isub, 1) := by decide +kernel
theorem dX0_worth_104 : decode cX0_worth 104 = .ok (.iaload, 1) := by decide +kernel
theorem dX0_worth_105 : decode cX0_worth 105 = .ok (.i2l, 1) := by decide +kernel
theorem dX0_worth_106 : decode cX0_worth 106 = .ok (.aload_n 0, 1) := by decide +kernel
theorem dX0_worth_107 : decode cX0_worth 107 = .ok (.getfield 20, 3) := by decide +kernel
theorem dX0_worth_110 : decode cX0_worth 110 = .ok (.iload_n 2, 1) := by decide +kernel
theorem dX0_worth_111 : decode cX0_worth 111 = .ok (.iaload, 1) := by decide +kernel
theorem dX0_worth_112 : decode cX0_worth 112 = .ok (.i2l, 1) := by decide +kernel
theorem dX0_worth_113 : decode cX0_worth 113 = .ok (.bipush (-11), 2) := by decide +kernel
theorem dX0_worth_115 : decode cX0_worth 115 = .ok (.iload 6, 2) := by decide +kernel
theorem dX0_worth_117 : decode cX0_worth 117 = .ok (.isub, 1) := by decide +kernel
theorem dX0_worth_118 : decode cX0_worth 118 = .ok (.invokestatic 36, 3) := by decide +kernel
theorem dX0_worth_121 : decode cX0_worth 121 = .ok (.iastore, 1) := by decide +kernel
theorem dX0_worth_122 : decode cX0_worth 122 = .ok (.iinc 5 1, 3) := by decide +kernel
theorem dX0_worth_125 : decode cX0_worth 125 = .ok (.goto (-111), 3) := by decide +kernel
theorem dX0_worth_128 : decode cX0_worth 128 = .ok (.aload_n 0, 1) := by decide +kernel
theorem dX0_worth_129 : decode cX0_worth 129 = .ok (.getfield 20, 3) := by decide +kernel
theorem dX0_worth_132 : decode cX0_worth 132 = .ok (.iconst 0, 1) := by decide +kernel
theorem dX0_worth_133 : decode cX0_worth 133 = .ok (.iaload, 1) := by decide +kernel
theorem dX0_worth_134 : decode cX0_worth 134 = .ok (.ireturn, 1) := by decide +kernel
theorem in_wsX0_worth_X0 : ∀ w ∈ wsX00, w ∈ wsX0_worth := fun w h => List.mem_cons_of_mem _ (List.mem_append_right _ h)

set_option maxHeartbeats 4000000 in
set_option maxRecDepth 100000 in
theorem c_X0_worth (l : Launch) (dC : Nat → ClassId) (dI : Nat → Nat → Nat) (sz : Nat) (cq : Nat → ClassId) (Z : oS) (gI : oInv Z) (o : Nat) (to : oty Z o 0) (a1 : Nat) (ta1 : oty Z a1 108) : Met l yX0_worth wsX0_worth ({ frames := 2, cells := 0, slots := 0, locals := 45 }) (va_Pc [.ref o, .ref a1] (pcW (dC, dI) (oT cq) (oW cq Z) sz)) (va_Qi (fun (r : Int32) (u : oS) => oInv u ∧ oX [5001] Z u) (fun u t => va_P (dC, dI) vwCl (oW cq u) t.heap ∧ va_K (dC, dI) vwCl (oT cq) t ∧ va_D (va_A (oW cq Z) sz) (oW cq u)) (va_A (oW cq Z) sz)) 0 0 (va_A (oW cq Z) sz) := by
  refine Met.ofW (cc := cX0_worth) (maxL := 8) (ret := (some .int)) (by decide +kernel) rfl ?_
  intro p e s m args below meth c s₁ B hml hv
  obtain ⟨rfl, hsz, hP, hK, hD0⟩ := hv
  have hx := B.exec
  have hb := B.bytes
  have hr := B.returns
  have hts := atoms_spec (ws := wsX0_worth) B.pre
  have hown : s.vm.findClass RX0 = some m.cls := findClass_of_methodNamed B.named
  have hlocks := B.notSynchronized
  subst hsz
  have hD := hD0.self (sz := s.heap.size)
  generalize hAe : va_A (oW cq Z) s.heap.size = A at hD ⊢
  have hA : ∀ q : Nat, s.heap.size ≤ q → A q := fun q h => by rw [← hAe]; exact Or.inr h
  have hS : va_S A s.heap s.heap [] := va_S.rf
  have hP : va_P (dC, dI) vwCl (oW cq Z) s.heap := hP
  have hl := lv_entry ([.ref o, .ref a1]) (n := 8) (Nat.le_of_ble_eq_true rfl)
  rw [lg_entry_eq]
  generalize (lg_sl ([.ref o, .ref a1]) ++ List.replicate (8 - (lg_sl ([.ref o, .ref a1])).length) Slot.unset).toArray = ls at hl ⊢
  have hl : lv_has ls 8 [(0, .ref o), (1, .ref a1)] := hl
  refine lv_iconst (v := 0) hx hb dX0_worth_0 (by decide +kernel) ?_
  refine lv_istore_n (lv' := [(2, .int 0), (0, .ref o), (1, .ref a1)]) hx hb dX0_worth_1 rfl hl (by decide +kernel) rfl (fun ls hl => ?_)
  refine lv_aload_n hx hb dX0_worth_2 rfl (lv_at hl 1 rfl) ?_
  obtain ⟨q_1, hq_1⟩ := og (cq := cq) to.1 (oE_0 to.2)
  obtain ⟨b_2, hb_2⟩ := oInv.nn (i := 3) gI to rfl
  refine va_get (D := (dC, dI)) (ci := 0) (v := .ref b_2) (C := RX0) (T := TX0) (N := 5) hx hb hts in_wsX0_worth_X0 hown hK hP q_1 hq_1 rfl 3 (by decide +kernel) (hts (.fieldLink RX0 16 "ShipOffice$Act" "code" "[I") iw_X0_worth_1) (fun _ h9 => h9) (o_rd hb_2) dX0_worth_3 ?_
  obtain ⟨nb_2, hnb_2, tb_2⟩ : ∃ n, (0 ≤ n ∧ n ≤ 60) ∧ oty Z b_2 (300 + n) := ar_len (B := 300) (oInv.rd2 (lo := 300) (hi := 360) gI to.2 hb_2 rfl rfl) (by decide +kernel)
  refine lv_astore_n (lv' := [(3, .ref b_2), (2, .int 0), (0, .ref o), (1, .ref a1)]) hx hb dX0_worth_6 rfl hl (by decide +kernel) rfl (fun ls hl => ?_)
  refine lv_aload_n hx hb dX0_worth_7 rfl (lv_at hl 0 rfl) ?_
  obtain ⟨q_3, hq_3⟩ := og (cq := cq) tb_2.1 (oE_ar (n := nb_2) tb_2.2 (by omega))
  refine va_alen (v := nI nb_2) hx hb hK hP q_3 0 hq_3 rfl rfl dX0_worth_8 ?_
  refine lv_topi (fun x_4 ex_4 => ?_)
  have hx_4 : x_4.toInt = (nb_2 : Int) := (iv_to ex_4).trans (nI_toInt (by omega))
  clear ex_4
  refine lv_istore (lv' := [(4, .int x_4), (3, .ref b_2), (2, .int 0), (0, .ref o), (1, .ref a1)]) hx hb dX0_worth_9 hl (by decide +kernel) rfl (fun ls hl => ?_)
  obtain ⟨bs, hbs⟩ := oInv.nn (i := 4) gI to rfl
  obtain ⟨nbs, hnbs, tbs⟩ : ∃ n, (1 ≤ n ∧ n ≤ 61) ∧ oty Z bs (1000 + n) := ar_len (B := 1000) (oInv.rd2 (lo := 1001) (hi := 1061) gI to.2 hbs rfl rfl) (by decide +kernel)
  refine lv_iconst (v := 0) hx hb dX0_worth_11 (by decide +kernel) ?_
  refine lv_istore (lv' := [(5, .int 0), (4, .int x_4), (3, .ref b_2), (2, .int 0), (0, .ref o), (1, .ref a1)]) hx hb dX0_worth_12 hl (by decide +kernel) rfl (fun ls hl => ?_)
  have cut_5 : ∀ (n : Nat) (y_6 : Int32) (y_7 : Int32) (S_8 : oS) (H : Heap) (locs : List Loc) (ls : Array Slot), 60 - y_7.toInt ≤ (n : Int) → (0 ≤ y_6.toInt ∧ y_6.toInt ≤ 61) → (0 ≤ y_7.toInt ∧ y_7.toInt ≤ 60) → y_6.toInt ≤ (nbs : Int) → oInv S_8 → oX [5001] Z S_8 → va_P (dC, dI) vwCl (oW cq S_8) H → va_D A (oW cq S_8) → va_S A s.heap H locs → oP S_8 o 4 = some bs → lv_has ls 8 [(2, .int y_6), (5, .int y_7), (4, .int x_4), (3, .ref b_2), (0, .ref o), (1, .ref a1)] → W p l e (headSpec wsX0_worth { frames := 2, cells := 0, slots := 0, locals := 45 }).room s m #[Value.ref o, Value.ref a1] below meth c H locs 0 0 (MQ below (va_Qi (fun (r : Int32) (u : oS) => oInv u ∧ oX [5001] Z u) (fun u t => va_P (dC, dI) vwCl (oW cq u) t.heap ∧ va_K (dC, dI) vwCl (oT cq) t ∧ va_D A (oW cq u)) A) #[Value.ref o, Value.ref a1] s 0 0 A) (F0 m 14 ls []) := by
    intro n
    induction n using Nat.strongRecOn with
    | ind n ih =>
      intro y_6 y_7 S_8 H locs ls hm hy_6 hy_7 hq0_cut_5 hIS_8 XS_8 hP hD hS pk_9 hl
      have YS_8 : oX [5001] Z S_8 := oX.st oX.rf XS_8 (fun _ q => q)
      refine lv_iload hx hb dX0_worth_14 (lv_at hl 1 rfl) ?_
      refine lv_iload hx hb dX0_worth_16 (lv_at hl 2 rfl) ?_
      refine lv_icmp_ge (tgt := 128) hx hb dX0_worth_18 (by decide +kernel) (fun c_10 => ?_) (fun c_10 => ?_)
      · have dc_10 := c_le (a := x_4.toInt) (b := y_7.toInt) rfl rfl c_10
        refine lv_aload_n hx hb dX0_worth_128 rfl (lv_at hl 4 rfl) ?_
        have t_11 : oty S_8 o 0 := (oX.ty XS_8 to)
        obtain ⟨q_12, hq_12⟩ := og (cq := cq) t_11.1 (oE_0 t_11.2)
        refine va_get (D := (dC, dI)) (ci := 0) (v := .ref bs) (C := RX0) (T := TX0) (N := 5) hx hb hts in_wsX0_worth_X0 hown hK hP q_12 hq_12 rfl 4 (by decide +kernel) (hts (.fieldLink RX0 20 "ShipOffice$Act" "stack" "[I") iw_X0_worth_2) (fun _ h9 => h9) (o_rd pk_9) dX0_worth_129 ?_
        refine lv_iconst (v := 0) hx hb dX0_worth_132 (by decide +kernel) ?_
        have t_13 : oty S_8 bs (1000 + nbs) := (oX.ty XS_8 tbs)
        obtain ⟨q_14, hq_14⟩ := og (cq := cq) t_13.1 (oE_as (n := nbs) t_13.2)
        refine va_iald hx hb hK hP q_14 0 hq_14 rfl (vp_in_iff.mpr (by rw [show (0 : Int32).toInt = 0 by decide]; omega)) dX0_worth_133 ?_
        refine lv_topi (fun x_15 ex_15 => ?_)
        clear ex_15
        exact W.iret (v := x_15) hx hb hr (fun t ht hW => ⟨⟨x_15, S_8, rfl, ⟨hIS_8, YS_8⟩, ⟨by rw [ht]; exact hP, va_K.moved hW.alike hK, hD⟩⟩, hS.F ht⟩) hS.2.2 dX0_worth_134
      · have dc_10 := c_nle (a := x_4.toInt) (b := y_7.toInt) rfl rfl c_10
        refine lv_aload_n hx hb dX0_worth_21 rfl (lv_at hl 3 rfl) ?_
        refine lv_iload hx hb dX0_worth_22 (lv_at hl 1 rfl) ?_
        have t_16 : oty S_8 b_2 (300 + nb_2) := (oX.ty XS_8 tb_2)
        obtain ⟨q_17, hq_17⟩ := og (cq := cq) t_16.1 (oE_ar (n := nb_2) t_16.2 (by omega))
        refine va_iald hx hb hK hP q_17 0 hq_17 rfl (vp_in_iff.mpr (by omega)) dX0_worth_24 ?_
        refine lv_topi (fun x_18 ex_18 => ?_)
        clear ex_18
        refine lv_istore (lv' := [(6, .int x_18), (2, .int y_6), (5, .int y_7), (4, .int x_4), (3, .ref b_2), (0, .ref o), (1, .ref a1)]) hx hb dX0_worth_25 hl (by decide +kernel) rfl (fun ls hl => ?_)
        refine lv_iload hx hb dX0_worth_27 (lv_at hl 0 rfl) ?_
        refine lv_bipush (v := (-11)) hx hb dX0_worth_29 (by decide +kernel) ?_
        refine lv_icmp_le (tgt := 82) hx hb dX0_worth_31 (by decide +kernel) (fun c_19 => ?_) (fun c_19 => ?_)
        · have dc_19 := c_le (a := x_18.toInt) (b := (-11)) rfl (by decide +kernel) c_19
          refine lv_iload_n hx hb dX0_worth_82 rfl (lv_at hl 1 rfl) ?_
          refine lv_iconst (v := 2) hx hb dX0_worth_83 (by decide +kernel) ?_
          refine lv_icmp_lt (tgt := 122) hx hb dX0_worth_84 (by decide +kernel) (fun c_20 => ?_) (fun c_20 => ?_)
          · have dc_20 := c_lt (a := y_6.toInt) (b := 2) rfl (by decide +kernel) c_20
            obtain ⟨x_21, ex_21⟩ : ∃ zq : Int32, y_7 + 1 = zq := ⟨_, rfl⟩
            have hx_21 : x_21.toInt = y_7.toInt + 1 := (iv_to ex_21).symm.trans (ad_i rfl (by decide +kernel) (by omega) (by omega))
            refine lv_iinc (v := x_21) (lv' := [(5, .int x_21), (6, .int x_18), (2, .int y_6), (4, .int x_4), (3, .ref b_2), (0, .ref o), (1, .ref a1)]) hx hb dX0_worth_122 hl (k := 2) rfl ex_21 (by decide +kernel) rfl (fun ls hl => ?_)
            clear ex_21
            refine lv_goto (tgt := 14) hx hb dX0_worth_125 (by decide +kernel) ?_
            exact ih (n - 1) (by omega) y_6 x_21 S_8 _ _ ls (by omega) (by omega) (by omega) (by omega) hIS_8 (oX.st oX.rf XS_8 (by decide +kernel)) hP hD hS pk_9 (lv_sub hl [2, 0, 3, 4, 5, 6] rfl)
          · have dc_20 := c_nlt (a := y_6.toInt) (b := 2) rfl (by decide +kernel) c_20
            obtain ⟨x_22, ex_22⟩ : ∃ zq : Int32, y_6 + (-1) = zq := ⟨_, rfl⟩
            have hx_22 : x_22.toInt = y_6.toInt + (-1) := (iv_to ex_22).symm.trans (ad_i rfl (by decide +kernel) (by omega) (by omega))
            refine lv_iinc (v := x_22) (lv' := [(2, .int x_22), (6, .int x_18), (5, .int y_7), (4, .int x_4), (3, .ref b_2), (0, .ref o), (1, .ref a1)]) hx hb dX0_worth_87 hl (k := 1) rfl ex_22 (by decide +kernel) rfl (fun ls hl => ?_)
            clear ex_22
            refine lv_aload_n hx hb dX0_worth_90 rfl (lv_at hl 5 rfl) ?_
            have t_23 : oty S_8 o 0 := (oX.ty XS_8 to)
            obtain ⟨q_24, hq_24⟩ := og (cq := cq) t_23.1 (oE_0 t_23.2)
            refine va_get (D := (dC, dI)) (ci := 0) (v := .ref bs) (C := RX0) (T := TX0) (N := 5) hx hb hts in_wsX0_worth_X0 hown hK hP q_24 hq_24 rfl 4 (by decide +kernel) (hts (.fieldLink RX0 20 "ShipOffice$Act" "stack" "[I") iw_X0_worth_2) (fun _ h9 => h9) (o_rd pk_9) dX0_worth_91 ?_
            refine lv_iload_n hx hb dX0_worth_94 rfl (lv_at hl 0 rfl) ?_
            refine lv_iconst (v := 1) hx hb dX0_worth_95 (by decide +kernel) ?_
            refine lv_isub hx hb dX0_worth_96 ?_
            refine lv_topi (fun x_25 ex_25 => ?_)
            have hx_25 : x_25.toInt = x_22.toInt - 1 := (iv_to ex_25).trans (sb_i rfl (by decide +kernel) (by omega) (by omega))
            clear ex_25
            refine lv_aload_n hx hb dX0_worth_97 rfl (lv_at hl 5 rfl) ?_
            refine va_get (D := (dC, dI)) (ci := 0) (v := .ref bs) (C := RX0) (T := TX0) (N := 5) hx hb hts in_wsX0_worth_X0 hown hK hP q_24 hq_24 rfl 4 (by decide +kernel) (hts (.fieldLink RX0 20 "ShipOffice$Act" "stack" "[I") iw_X0_worth_2) (fun _ h9 => h9) (o_rd pk_9) dX0_worth_98 ?_
            refine lv_iload_n hx hb dX0_worth_101 rfl (lv_at hl 0 rfl) ?_
            refine lv_iconst (v := 1) hx hb dX0_worth_102 (by decide +kernel) ?_
            refine lv_isub hx hb dX0_worth_103 ?_
            refine lv_topi (fun x_26 ex_26 => ?_)
            have hx_26 : x_26.toInt = x_22.toInt - 1 := (iv_to ex_26).trans (sb_i rfl (by decide +kernel) (by omega) (by omega))
            clear ex_26
            have t_27 : oty S_8 bs (1000 + nbs) := (oX.ty XS_8 tbs)
            obtain ⟨q_28, hq_28⟩ := og (cq := cq) t_27.1 (oE_as (n := nbs) t_27.2)
            refine va_iald hx hb hK hP q_28 0 hq_28 rfl (vp_in_iff.mpr (by omega)) dX0_worth_104 ?_
            refine lv_topi (fun x_29 ex_29 => ?_)
            clear ex_29
            refine lv_i2l (v := (x_29 : Int32).toInt64) hx hb dX0_worth_105 rfl ?_
            refine lv_aload_n hx hb dX0_worth_106 rfl (lv_at hl 5 rfl) ?_
            refine va_get (D := (dC, dI)) (ci := 0) (v := .ref bs) (C := RX0) (T := TX0) (N := 5) hx hb hts in_wsX0_worth_X0 hown hK hP q_24 hq_24 rfl 4 (by decide +kernel) (hts (.fieldLink RX0 20 "ShipOffice$Act" "stack" "[I") iw_X0_worth_2) (fun _ h9 => h9) (o_rd pk_9) dX0_worth_107 ?_
            refine lv_iload_n hx hb dX0_worth_110 rfl (lv_at hl 0 rfl) ?_
            refine va_iald hx hb hK hP q_28 0 hq_28 rfl (vp_in_iff.mpr (by omega)) dX0_worth_111 ?_
            refine lv_topi (fun x_30 ex_30 => ?_)
            clear ex_30
            refine lv_i2l (v := (x_30 : Int32).toInt64) hx hb dX0_worth_112 rfl ?_
            refine lv_bipush (v := (-11)) hx hb dX0_worth_113 (by decide +kernel) ?_
            refine lv_iload hx hb dX0_worth_115 (lv_at hl 1 rfl) ?_
            have ia_31 := iv_all x_18
            refine lv_isub hx hb dX0_worth_117 ?_
            refine lv_topi (fun x_32 ex_32 => ?_)
            have hx_32 : x_32.toInt = (-11) - x_18.toInt := (iv_to ex_32).trans (sb_i (by decide +kernel) rfl (by omega) (by omega))
            clear ex_32
            have hFc : ∀ q, va_A [] H.size q → A q := pu_free hS hA
            have hPc := hP.sub (ws' := []) [] rfl
            have hDc := hD.sub (ws' := []) [] (by decide +kernel) rfl
            have hKc := hK.sub (tys' := []) [] rfl
            refine va_calli (va_runS (As := [.long ((x_29 : Int32).toInt64), .long ((x_30 : Int32).toInt64), .int x_32]) (rest := [.int x_25, .ref bs]) ⟨hx, hb, hml, hown, hts⟩ (c_X0_joined l dC dI H.size  ((x_29 : Int32).toInt64) ((x_30 : Int32).toInt64) x_32) (va_cwS 3 hts gX0_worth_X0_joined rfl rfl rfl (by decide +kernel) ⟨(Nat.le_of_ble_eq_true rfl), (Nat.le_of_ble_eq_true rfl)⟩) (pr_S hPc hKc hDc) rfl rfl hl.1 rfl (lv_room (Nat.le_of_ble_eq_true rfl)) dX0_worth_118 ⟨(Nat.le_of_ble_eq_true rfl), (Nat.le_of_ble_eq_true rfl)⟩) hS (fun q _ h => hFc q h) hFc (fun r_34 u t H locs ht hvm w_33 hB hz1 hk1 hS => ?_)
            have hP := pu_keep hP hk1
            clear hk1 hz1 hvm hB ht hFc hPc hDc hKc
            refine va_iast hx hb hK hP hD hS q_28 0 hq_28 rfl (vp_in_iff.mpr (by omega)) dX0_worth_121 (fun H locs hP1 hD1 hS => ?_)
            obtain ⟨S_35, eS_35⟩ : ∃ zq, zq = setI S_8 bs (x_25 : Int32).toNatClampNeg r_34 := ⟨_, rfl⟩
            have hP : va_P (dC, dI) vwCl (oW cq S_35) H := by rw [eS_35]; exact cP (oset t_27.1 hq_28 hD rfl (he_as (n := nbs) t_27.2) neI) hP1
            have hD : va_D A (oW cq S_35) := by rw [eS_35]; exact cD (oset t_27.1 hq_28 hD rfl (he_as (n := nbs) t_27.2) neI) hD1
            clear hP1 hD1
            have hIS_35 : oInv S_35 := by rw [eS_35]; exact oInv.A (k := (1000 + nbs)) hIS_8 t_27.2 (by omega)
            have XS_35 : oX [5001] S_8 S_35 := by rw [eS_35]; exact oX.I (k := (1000 + nbs)) (key := 5001) t_27.2 wk_as (List.mem_singleton.mpr rfl)
            have pk_36 : oP S_35 o 4 = some bs := by rw [eS_35]; exact pk_9
            have X_37 : oX [5001] Z S_35 := oX.st YS_8 XS_35 (by decide +kernel)
            obtain ⟨x_38, ex_38⟩ : ∃ zq : Int32, y_7 + 1 = zq := ⟨_, rfl⟩
            have hx_38 : x_38.toInt = y_7.toInt + 1 := (iv_to ex_38).symm.trans (ad_i rfl (by decide +kernel) (by omega) (by omega))
            refine lv_iinc (v := x_38) (lv' := [(5, .int x_38), (2, .int x_22), (6, .int x_18), (4, .int x_4), (3, .ref b_2), (0, .ref o), (1, .ref a1)]) hx hb dX0_worth_122 hl (k := 2) rfl ex_38 (by decide +kernel) rfl (fun ls hl => ?_)
            clear ex_38
            refine lv_goto (tgt := 14) hx hb dX0_worth_125 (by decide +kernel) ?_
            exact ih (n - 1) (by omega) x_22 x_38 S_35 _ _ ls (by omega) (by omega) (by omega) (by omega) hIS_35 (oX.st (oX.st oX.rf XS_8 (by decide +kernel)) XS_35 (by decide +kernel)) hP hD hS pk_36 (lv_sub hl [1, 0, 3, 4, 5, 6] rfl)
        · have dc_19 := c_nle (a := x_18.toInt) (b := (-11)) rfl (by decide +kernel) c_19
          refine lv_iload_n hx hb dX0_worth_34 rfl (lv_at hl 1 rfl) ?_
          refine lv_aload_n hx hb dX0_worth_35 rfl (lv_at hl 5 rfl) ?_
          have t_39 : oty S_8 o 0 := (oX.ty XS_8 to)
          obtain ⟨q_40, hq_40⟩ := og (cq := cq) t_39.1 (oE_0 t_39.2)
          refine va_get (D := (dC, dI)) (ci := 0) (v := .ref bs) (C := RX0) (T := TX0) (N := 5) hx hb hts in_wsX0_worth_X0 hown hK hP q_40 hq_40 rfl 4 (by decide +kernel) (hts (.fieldLink RX0 20 "ShipOffice$Act" "stack" "[I") iw_X0_worth_2) (fun _ h9 => h9) (o_rd pk_9) dX0_worth_36 ?_
          have t_41 : oty S_8 bs (1000 + nbs) := (oX.ty XS_8 tbs)
          obtain ⟨q_42, hq_42⟩ := og (cq := cq) t_41.1 (oE_as (n := nbs) t_41.2)
          refine va_alen (v := nI nbs) hx hb hK hP q_42 0 hq_42 rfl rfl dX0_worth_39 ?_
          refine lv_topi (fun x_43 ex_43 => ?_)
          have hx_43 : x_43.toInt = (nbs : Int) := (iv_to ex_43).trans (nI_toInt (by omega))
          clear ex_43
          refine lv_icmp_ge (tgt := 82) hx hb dX0_worth_40 (by decide +kernel) (fun c_44 => ?_) (fun c_44 => ?_)
          · have dc_44 := c_le (a := x_43.toInt) (b := y_6.toInt) rfl rfl c_44
            refine lv_iload_n hx hb dX0_worth_82 rfl (lv_at hl 1 rfl) ?_
            refine lv_iconst (v := 2) hx hb dX0_worth_83 (by decide +kernel) ?_
            refine lv_icmp_lt (tgt := 122) hx hb dX0_worth_84 (by decide +kernel) (fun c_45 => ?_) (fun c_45 => ?_)
            · have dc_45 := c_lt (a := y_6.toInt) (b := 2) rfl (by decide +kernel) c_45
              obtain ⟨x_46, ex_46⟩ : ∃ zq : Int32, y_7 + 1 = zq := ⟨_, rfl⟩
              have hx_46 : x_46.toInt = y_7.toInt + 1 := (iv_to ex_46).symm.trans (ad_i rfl (by decide +kernel) (by omega) (by omega))
              refine lv_iinc (v := x_46) (lv' := [(5, .int x_46), (6, .int x_18), (2, .int y_6), (4, .int x_4), (3, .ref b_2), (0, .ref o), (1, .ref a1)]) hx hb dX0_worth_122 hl (k := 2) rfl ex_46 (by decide +kernel) rfl (fun ls hl => ?_)
              clear ex_46
              refine lv_goto (tgt := 14) hx hb dX0_worth_125 (by decide +kernel) ?_
              exact ih (n - 1) (by omega) y_6 x_46 S_8 _ _ ls (by omega) (by omega) (by omega) (by omega) hIS_8 (oX.st oX.rf XS_8 (by decide +kernel)) hP hD hS pk_9 (lv_sub hl [2, 0, 3, 4, 5, 6] rfl)
            · have dc_45 := c_nlt (a := y_6.toInt) (b := 2) rfl (by decide +kernel) c_45
              obtain ⟨x_47, ex_47⟩ : ∃ zq : Int32, y_6 + (-1) = zq := ⟨_, rfl⟩
              have hx_47 : x_47.toInt = y_6.toInt + (-1) := (iv_to ex_47).symm.trans (ad_i rfl (by decide +kernel) (by omega) (by omega))
              refine lv_iinc (v := x_47) (lv' := [(2, .int x_47), (6, .int x_18), (5, .int y_7), (4, .int x_4), (3, .ref b_2), (0, .ref o), (1, .ref a1)]) hx hb dX0_worth_87 hl (k := 1) rfl ex_47 (by decide +kernel) rfl (fun ls hl => ?_)
              clear ex_47
              refine lv_aload_n hx hb dX0_worth_90 rfl (lv_at hl 5 rfl) ?_
              refine va_get (D := (dC, dI)) (ci := 0) (v := .ref bs) (C := RX0) (T := TX0) (N := 5) hx hb hts in_wsX0_worth_X0 hown hK hP q_40 hq_40 rfl 4 (by decide +kernel) (hts (.fieldLink RX0 20 "ShipOffice$Act" "stack" "[I") iw_X0_worth_2) (fun _ h9 => h9) (o_rd pk_9) dX0_worth_91 ?_
              refine lv_iload_n hx hb dX0_worth_94 rfl (lv_at hl 0 rfl) ?_
              refine lv_iconst (v := 1) hx hb dX0_worth_95 (by decide +kernel) ?_
              refine lv_isub hx hb dX0_worth_96 ?_
              refine lv_topi (fun x_48 ex_48 => ?_)
              have hx_48 : x_48.toInt = x_47.toInt - 1 := (iv_to ex_48).trans (sb_i rfl (by decide +kernel) (by omega) (by omega))
              clear ex_48
              refine lv_aload_n hx hb dX0_worth_97 rfl (lv_at hl 5 rfl) ?_
              refine va_get (D := (dC, dI)) (ci := 0) (v := .ref bs) (C := RX0) (T := TX0) (N := 5) hx hb hts in_wsX0_worth_X0 hown hK hP q_40 hq_40 rfl 4 (by decide +kernel) (hts (.fieldLink RX0 20 "ShipOffice$Act" "stack" "[I") iw_X0_worth_2) (fun _ h9 => h9) (o_rd pk_9) dX0_worth_98 ?_
              refine lv_iload_n hx hb dX0_worth_101 rfl (lv_at hl 0 rfl) ?_
              refine lv_iconst (v := 1) hx hb dX0_worth_102 (by decide +kernel) ?_
              refine lv_isub hx hb dX0_worth_103 ?_
              refine lv_topi (fun x_49 ex_49 => ?_)
              have hx_49 : x_49.toInt = x_47.toInt - 1 := (iv_to ex_49).trans (sb_i rfl (by decide +kernel) (by omega) (by omega))
              clear ex_49
              refine va_iald hx hb hK hP q_42 0 hq_42 rfl (vp_in_iff.mpr (by omega)) dX0_worth_104 ?_
              refine lv_topi (fun x_50 ex_50 => ?_)
              clear ex_50
              refine lv_i2l (v := (x_50 : Int32).toInt64) hx hb dX0_worth_105 rfl ?_
              refine lv_aload_n hx hb dX0_worth_106 rfl (lv_at hl 5 rfl) ?_
              refine va_get (D := (dC, dI)) (ci := 0) (v := .ref bs) (C := RX0) (T := TX0) (N := 5) hx hb hts in_wsX0_worth_X0 hown hK hP q_40 hq_40 rfl 4 (by decide +kernel) (hts (.fieldLink RX0 20 "ShipOffice$Act" "stack" "[I") iw_X0_worth_2) (fun _ h9 => h9) (o_rd pk_9) dX0_worth_107 ?_
              refine lv_iload_n hx hb dX0_worth_110 rfl (lv_at hl 0 rfl) ?_
              refine va_iald hx hb hK hP q_42 0 hq_42 rfl (vp_in_iff.mpr (by omega)) dX0_worth_111 ?_
              refine lv_topi (fun x_51 ex_51 => ?_)
              clear ex_51
              refine lv_i2l (v := (x_51 : Int32).toInt64) hx hb dX0_worth_112 rfl ?_
              refine lv_bipush (v := (-11)) hx hb dX0_worth_113 (by decide +kernel) ?_
              refine lv_iload hx hb dX0_worth_115 (lv_at hl 1 rfl) ?_
              refine lv_isub hx hb dX0_worth_117 ?_
              refine lv_topi (fun x_52 ex_52 => ?_)
              clear ex_52
              have hFc : ∀ q, va_A [] H.size q → A q := pu_free hS hA
              have hPc := hP.sub (ws' := []) [] rfl
              have hDc := hD.sub (ws' := []) [] (by decide +kernel) rfl
              have hKc := hK.sub (tys' := []) [] rfl
              refine va_calli (va_runS (As := [.long ((x_50 : Int32).toInt64), .long ((x_51 : Int32).toInt64), .int x_52]) (rest := [.int x_48, .ref bs]) ⟨hx, hb, hml, hown, hts⟩ (c_X0_joined l dC dI H.size  ((x_50 : Int32).toInt64) ((x_51 : Int32).toInt64) x_52) (va_cwS 3 hts gX0_worth_X0_joined rfl rfl rfl (by decide +kernel) ⟨(Nat.le_of_ble_eq_true rfl), (Nat.le_of_ble_eq_true rfl)⟩) (pr_S hPc hKc hDc) rfl rfl hl.1 rfl (lv_room (Nat.le_of_ble_eq_true rfl)) dX0_worth_118 ⟨(Nat.le_of_ble_eq_true rfl), (Nat.le_of_ble_eq_true rfl)⟩) hS (fun q _ h => hFc q h) hFc (fun r_54 u t H locs ht hvm w_53 hB hz1 hk1 hS => ?_)
              have hP := pu_keep hP hk1
              clear hk1 hz1 hvm hB ht hFc hPc hDc hKc
              refine va_iast hx hb hK hP hD hS q_42 0 hq_42 rfl (vp_in_iff.mpr (by omega)) dX0_worth_121 (fun H locs hP1 hD1 hS => ?_)
              obtain ⟨S_55, eS_55⟩ : ∃ zq, zq = setI S_8 bs (x_48 : Int32).toNatClampNeg r_54 := ⟨_, rfl⟩
              have hP : va_P (dC, dI) vwCl (oW cq S_55) H := by rw [eS_55]; exact cP (oset t_41.1 hq_42 hD rfl (he_as (n := nbs) t_41.2) neI) hP1
              have hD : va_D A (oW cq S_55) := by rw [eS_55]; exact cD (oset t_41.1 hq_42 hD rfl (he_as (n := nbs) t_41.2) neI) hD1
              clear hP1 hD1
              have hIS_55 : oInv S_55 := by rw [eS_55]; exact oInv.A (k := (1000 + nbs)) hIS_8 t_41.2 (by omega)
              have XS_55 : oX [5001] S_8 S_55 := by rw [eS_55]; exact oX.I (k := (1000 + nbs)) (key := 5001) t_41.2 wk_as (List.mem_singleton.mpr rfl)
              have pk_56 : oP S_55 o 4 = some bs := by rw [eS_55]; exact pk_9
              have X_57 : oX [5001] Z S_55 := oX.st YS_8 XS_55 (by decide +kernel)
              obtain ⟨x_58, ex_58⟩ : ∃ zq : Int32, y_7 + 1 = zq := ⟨_, rfl⟩
              have hx_58 : x_58.toInt = y_7.toInt + 1 := (iv_to ex_58).symm.trans (ad_i rfl (by decide +kernel) (by omega) (by omega))
              refine lv_iinc (v := x_58) (lv' := [(5, .int x_58), (2, .int x_47), (6, .int x_18), (4, .int x_4), (3, .ref b_2), (0, .ref o), (1, .ref a1)]) hx hb dX0_worth_122 hl (k := 2) rfl ex_58 (by decide +kernel) rfl (fun ls hl => ?_)
              clear ex_58
              refine lv_goto (tgt := 14) hx hb dX0_worth_125 (by decide +kernel) ?_
              exact ih (n - 1) (by omega) x_47 x_58 S_55 _ _ ls (by omega) (by omega) (by omega) (by omega) hIS_55 (oX.st (oX.st oX.rf XS_8 (by decide +kernel)) XS_55 (by decide +kernel)) hP hD hS pk_56 (lv_sub hl [1, 0, 3, 4, 5, 6] rfl)
          · have dc_44 := c_nle (a := x_43.toInt) (b := y_6.toInt) rfl rfl c_44
            refine lv_iconst (v := (-1)) hx hb dX0_worth_43 (by decide +kernel) ?_
            refine lv_iload hx hb dX0_worth_44 (lv_at hl 0 rfl) ?_
            have ia_59 := iv_all x_18
            refine lv_isub hx hb dX0_worth_46 ?_
            refine lv_topi (fun x_60 ex_60 => ?_)
            have hx_60 : x_60.toInt = (-1) - x_18.toInt := (iv_to ex_60).trans (sb_i (by decide +kernel) rfl (by omega) (by omega))
            clear ex_60
            refine lv_istore (lv' := [(7, .int x_60), (6, .int x_18), (2, .int y_6), (5, .int y_7), (4, .int x_4), (3, .ref b_2), (0, .ref o), (1, .ref a1)]) hx hb dX0_worth_47 hl (by decide +kernel) rfl (fun ls hl => ?_)
            refine lv_aload_n hx hb dX0_worth_49 rfl (lv_at hl 6 rfl) ?_
            refine va_get (D := (dC, dI)) (ci := 0) (v := .ref bs) (C := RX0) (T := TX0) (N := 5) hx hb hts in_wsX0_worth_X0 hown hK hP q_40 hq_40 rfl 4 (by decide +kernel) (hts (.fieldLink RX0 20 "ShipOffice$Act" "stack" "[I") iw_X0_worth_2) (fun _ h9 => h9) (o_rd pk_9) dX0_worth_50 ?_
            refine lv_iload_n hx hb dX0_worth_53 rfl (lv_at hl 2 rfl) ?_
            refine lv_iload hx hb dX0_worth_54 (lv_at hl 0 rfl) ?_
            refine lv_if_lt (tgt := 73) hx hb dX0_worth_56 (by decide +kernel) (fun c_61 => ?_) (fun c_61 => ?_)
            · have dc_61 := c_lt (a := x_60.toInt) (b := 0) rfl (by decide +kernel) c_61
              refine lv_iload hx hb dX0_worth_73 (lv_at hl 1 rfl) ?_
              refine va_iast hx hb hK hP hD hS q_42 0 hq_42 rfl (vp_in_iff.mpr (by omega)) dX0_worth_75 (fun H locs hP1 hD1 hS => ?_)
              obtain ⟨S_62, eS_62⟩ : ∃ zq, zq = setI S_8 bs (y_6 : Int32).toNatClampNeg x_18 := ⟨_, rfl⟩
              have hP : va_P (dC, dI) vwCl (oW cq S_62) H := by rw [eS_62]; exact cP (oset t_41.1 hq_42 hD rfl (he_as (n := nbs) t_41.2) neI) hP1
              have hD : va_D A (oW cq S_62) := by rw [eS_62]; exact cD (oset t_41.1 hq_42 hD rfl (he_as (n := nbs) t_41.2) neI) hD1
              clear hP1 hD1
              have hIS_62 : oInv S_62 := by rw [eS_62]; exact oInv.A (k := (1000 + nbs)) hIS_8 t_41.2 (by omega)
              have XS_62 : oX [5001] S_8 S_62 := by rw [eS_62]; exact oX.I (k := (1000 + nbs)) (key := 5001) t_41.2 wk_as (List.mem_singleton.mpr rfl)
              have pk_63 : oP S_62 o 4 = some bs := by rw [eS_62]; exact pk_9
              have X_64 : oX [5001] Z S_62 := oX.st YS_8 XS_62 (by decide +kernel)
              obtain ⟨x_65, ex_65⟩ : ∃ zq : Int32, y_6 + 1 = zq := ⟨_, rfl⟩
              have hx_65 : x_65.toInt = y_6.toInt + 1 := (iv_to ex_65).symm.trans (ad_i rfl (by decide +kernel) (by omega) (by omega))
              refine lv_iinc (v := x_65) (lv' := [(2, .int x_65), (7, .int x_60), (6, .int x_18), (5, .int y_7), (4, .int x_4), (3, .ref b_2), (0, .ref o), (1, .ref a1)]) hx hb dX0_worth_76 hl (k := 2) rfl ex_65 (by decide +kernel) rfl (fun ls hl => ?_)
              clear ex_65
              refine lv_goto (tgt := 122) hx hb dX0_worth_79 (by decide +kernel) ?_
              obtain ⟨x_66, ex_66⟩ : ∃ zq : Int32, y_7 + 1 = zq := ⟨_, rfl⟩
              have hx_66 : x_66.toInt = y_7.toInt + 1 := (iv_to ex_66).symm.trans (ad_i rfl (by decide +kernel) (by omega) (by omega))
              refine lv_iinc (v := x_66) (lv' := [(5, .int x_66), (2, .int x_65), (7, .int x_60), (6, .int x_18), (4, .int x_4), (3, .ref b_2), (0, .ref o), (1, .ref a1)]) hx hb dX0_worth_122 hl (k := 3) rfl ex_66 (by decide +kernel) rfl (fun ls hl => ?_)
              clear ex_66
              refine lv_goto (tgt := 14) hx hb dX0_worth_125 (by decide +kernel) ?_
              exact ih (n - 1) (by omega) x_65 x_66 S_62 _ _ ls (by omega) (by omega) (by omega) (by omega) hIS_62 (oX.st (oX.st oX.rf XS_8 (by decide +kernel)) XS_62 (by decide +kernel)) hP hD hS pk_63 (lv_sub hl [1, 0, 4, 5, 6, 7] rfl)
            · have dc_61 := c_nlt (a := x_60.toInt) (b := 0) rfl (by decide +kernel) c_61
              refine lv_iload hx hb dX0_worth_59 (lv_at hl 0 rfl) ?_
              refine lv_aload_n hx hb dX0_worth_61 rfl (lv_at hl 7 rfl) ?_
              have t_67 : oty S_8 a1 108 := (oX.ty XS_8 ta1)
              obtain ⟨q_68, hq_68⟩ := og (cq := cq) t_67.1 (oE_a1 (n := 8) t_67.2 (by decide +kernel))
              refine va_alen (v := 8) hx hb hK hP q_68 0 hq_68 rfl (show Int32.ofNat 8 = 8 by decide) dX0_worth_62 ?_
              refine lv_icmp_ge (tgt := 73) hx hb dX0_worth_63 (by decide +kernel) (fun c_69 => ?_) (fun c_69 => ?_)
              · have dc_69 := c_le (a := 8) (b := x_60.toInt) (by decide +kernel) rfl c_69
                refine lv_iload hx hb dX0_worth_73 (lv_at hl 1 rfl) ?_
                refine va_iast hx hb hK hP hD hS q_42 0 hq_42 rfl (vp_in_iff.mpr (by omega)) dX0_worth_75 (fun H locs hP1 hD1 hS => ?_)
                obtain ⟨S_70, eS_70⟩ : ∃ zq, zq = setI S_8 bs (y_6 : Int32).toNatClampNeg x_18 := ⟨_, rfl⟩
                have hP : va_P (dC, dI) vwCl (oW cq S_70) H := by rw [eS_70]; exact cP (oset t_41.1 hq_42 hD rfl (he_as (n := nbs) t_41.2) neI) hP1
                have hD : va_D A (oW cq S_70) := by rw [eS_70]; exact cD (oset t_41.1 hq_42 hD rfl (he_as (n := nbs) t_41.2) neI) hD1
                clear hP1 hD1
                have hIS_70 : oInv S_70 := by rw [eS_70]; exact oInv.A (k := (1000 + nbs)) hIS_8 t_41.2 (by omega)
                have XS_70 : oX [5001] S_8 S_70 := by rw [eS_70]; exact oX.I (k := (1000 + nbs)) (key := 5001) t_41.2 wk_as (List.mem_singleton.mpr rfl)
                have pk_71 : oP S_70 o 4 = some bs := by rw [eS_70]; exact pk_9
                have X_72 : oX [5001] Z S_70 := oX.st YS_8 XS_70 (by decide +kernel)
                obtain ⟨x_73, ex_73⟩ : ∃ zq : Int32, y_6 + 1 = zq := ⟨_, rfl⟩
                have hx_73 : x_73.toInt = y_6.toInt + 1 := (iv_to ex_73).symm.trans (ad_i rfl (by decide +kernel) (by omega) (by omega))
                refine lv_iinc (v := x_73) (lv' := [(2, .int x_73), (7, .int x_60), (6, .int x_18), (5, .int y_7), (4, .int x_4), (3, .ref b_2), (0, .ref o), (1, .ref a1)]) hx hb dX0_worth_76 hl (k := 2) rfl ex_73 (by decide +kernel) rfl (fun ls hl => ?_)
                clear ex_73
                refine lv_goto (tgt := 122) hx hb dX0_worth_79 (by decide +kernel) ?_
                obtain ⟨x_74, ex_74⟩ : ∃ zq : Int32, y_7 + 1 = zq := ⟨_, rfl⟩
                have hx_74 : x_74.toInt = y_7.toInt + 1 := (iv_to ex_74).symm.trans (ad_i rfl (by decide +kernel) (by omega) (by omega))
                refine lv_iinc (v := x_74) (lv' := [(5, .int x_74), (2, .int x_73), (7, .int x_60), (6, .int x_18), (4, .int x_4), (3, .ref b_2), (0, .ref o), (1, .ref a1)]) hx hb dX0_worth_122 hl (k := 3) rfl ex_74 (by decide +kernel) rfl (fun ls hl => ?_)
                clear ex_74
                refine lv_goto (tgt := 14) hx hb dX0_worth_125 (by decide +kernel) ?_
                exact ih (n - 1) (by omega) x_73 x_74 S_70 _ _ ls (by omega) (by omega) (by omega) (by omega) hIS_70 (oX.st (oX.st oX.rf XS_8 (by decide +kernel)) XS_70 (by decide +kernel)) hP hD hS pk_71 (lv_sub hl [1, 0, 4, 5, 6, 7] rfl)
              · have dc_69 := c_nle (a := 8) (b := x_60.toInt) (by decide +kernel) rfl c_69
                refine lv_aload_n hx hb dX0_worth_66 rfl (lv_at hl 7 rfl) ?_
                refine lv_iload hx hb dX0_worth_67 (lv_at hl 0 rfl) ?_
                refine va_iald hx hb hK hP q_68 0 hq_68 rfl (vp_in_iff.mpr (by omega)) dX0_worth_69 ?_
                refine lv_topi (fun x_75 ex_75 => ?_)
                clear ex_75
                refine lv_goto (tgt := 75) hx hb dX0_worth_70 (by decide +kernel) ?_
                refine va_iast hx hb hK hP hD hS q_42 0 hq_42 rfl (vp_in_iff.mpr (by omega)) dX0_worth_75 (fun H locs hP1 hD1 hS => ?_)
                obtain ⟨S_76, eS_76⟩ : ∃ zq, zq = setI S_8 bs (y_6 : Int32).toNatClampNeg x_75 := ⟨_, rfl⟩
                have hP : va_P (dC, dI) vwCl (oW cq S_76) H := by rw [eS_76]; exact cP (oset t_41.1 hq_42 hD rfl (he_as (n := nbs) t_41.2) neI) hP1
                have hD : va_D A (oW cq S_76) := by rw [eS_76]; exact cD (oset t_41.1 hq_42 hD rfl (he_as (n := nbs) t_41.2) neI) hD1
                clear hP1 hD1
                have hIS_76 : oInv S_76 := by rw [eS_76]; exact oInv.A (k := (1000 + nbs)) hIS_8 t_41.2 (by omega)
                have XS_76 : oX [5001] S_8 S_76 := by rw [eS_76]; exact oX.I (k := (1000 + nbs)) (key := 5001) t_41.2 wk_as (List.mem_singleton.mpr rfl)
                have pk_77 : oP S_76 o 4 = some bs := by rw [eS_76]; exact pk_9
                have X_78 : oX [5001] Z S_76 := oX.st YS_8 XS_76 (by decide +kernel)
                obtain ⟨x_79, ex_79⟩ : ∃ zq : Int32, y_6 + 1 = zq := ⟨_, rfl⟩
                have hx_79 : x_79.toInt = y_6.toInt + 1 := (iv_to ex_79).symm.trans (ad_i rfl (by decide +kernel) (by omega) (by omega))
                refine lv_iinc (v := x_79) (lv' := [(2, .int x_79), (7, .int x_60), (6, .int x_18), (5, .int y_7), (4, .int x_4), (3, .ref b_2), (0, .ref o), (1, .ref a1)]) hx hb dX0_worth_76 hl (k := 2) rfl ex_79 (by decide +kernel) rfl (fun ls hl => ?_)
                clear ex_79
                refine lv_goto (tgt := 122) hx hb dX0_worth_79 (by decide +kernel) ?_
                obtain ⟨x_80, ex_80⟩ : ∃ zq : Int32, y_7 + 1 = zq := ⟨_, rfl⟩
                have hx_80 : x_80.toInt = y_7.toInt + 1 := (iv_to ex_80).symm.trans (ad_i rfl (by decide +kernel) (by omega) (by omega))
                refine lv_iinc (v := x_80) (lv' := [(5, .int x_80), (2, .int x_79), (7, .int x_60), (6, .int x_18), (4, .int x_4), (3, .ref b_2), (0, .ref o), (1, .ref a1)]) hx hb dX0_worth_122 hl (k := 3) rfl ex_80 (by decide +kernel) rfl (fun ls hl => ?_)
                clear ex_80
                refine lv_goto (tgt := 14) hx hb dX0_worth_125 (by decide +kernel) ?_
                exact ih (n - 1) (by omega) x_79 x_80 S_76 _ _ ls (by omega) (by omega) (by omega) (by omega) hIS_76 (oX.st (oX.st oX.rf XS_8 (by decide +kernel)) XS_76 (by decide +kernel)) hP hD hS pk_77 (lv_sub hl [1, 0, 4, 5, 6, 7] rfl)
  have kc_81 : (0 : Int32).toInt = 0 := by decide
  exact cut_5 61 0 0 Z _ _ ls (by omega) (by decide +kernel) (by decide +kernel) (by omega) gI oX.rf hP hD hS hbs (lv_sub hl [3, 0, 1, 2, 4, 5] rfl)
