abbrev cX11_wasTold : ByteArray := prog_13_method_13_code
def yX11_wasTold : MethodName := ⟨RX11, "wasTold", "(II)Z"⟩
def wsX11_wasTold : List Cond := .code yX11_wasTold cX11_wasTold 4 (some .boolean) :: ([.fieldLink RX11 179 "ShipOfficeModel" "happened" "I", .fieldLink RX11 40 "ShipOfficeModel" "what" "[I", .fieldLink RX11 43 "ShipOfficeModel" "whose" "[I"] ++ wsX110)
theorem il_X11_wasTold_1 : ∀ w ∈ ([.fieldLink RX11 179 "ShipOfficeModel" "happened" "I", .fieldLink RX11 40 "ShipOfficeModel" "what" "[I", .fieldLink RX11 43 "ShipOfficeModel" "whose" "[I"] : List Cond), w ∈ wsX11_wasTold := fun w h => (List.mem_cons_of_mem _ (List.mem_append_left _ h))
theorem iw_X11_wasTold_1 : Cond.fieldLink RX11 179 "ShipOfficeModel" "happened" "I" ∈ wsX11_wasTold := (mmI il_X11_wasTold_1 0 rfl)
theorem iw_X11_wasTold_2 : Cond.fieldLink RX11 40 "ShipOfficeModel" "what" "[I" ∈ wsX11_wasTold := (mmI il_X11_wasTold_1 1 rfl)
theorem iw_X11_wasTold_3 : Cond.fieldLink RX11 43 "ShipOfficeModel" "whose" "[I" ∈ wsX11_wasTold := (mmI il_X11_wasTold_1 2 rfl)
theorem dX11_wasTold_0 : decode cX11_wasTold 0 = .ok (.iconst 0, 1) := by decide +kernel
theorem dX11_wasTold_1 : decode cX11_wasTold 1 = .ok (.istore_n 3, 1) := by decide +kernel
theorem dX11_wasTold_2 : decode cX11_wasTold 2 = .ok (.iload_n 3, 1) := by decide +kernel
theorem dX11_wasTold_3 : decode cX11_wasTold 3 = .ok (.aload_n 0, 1) := by decide +kernel
theorem dX11_wasTold_4 : decode cX11_wasTold 4 = .ok (.getfield 179, 3) := by decide +kernel
theorem dX11_wasTold_7 : decode cX11_wasTold 7 = .ok (.if_icmp .ge 31, 3) := by decide +kernel
theorem dX11_wasTold_10 : decode cX11_wasTold 10 = .ok (.aload_n 0, 1) := by decide +kernel
theorem dX11_wasTold_11 : decode cX11_wasTold 11 = .ok (.getfield 40, 3) := by decide +kernel
theorem dX11_wasTold_14 : decode cX11_wasTold 14 = .ok (.iload_n 3, 1) := by decide +kernel
theorem dX11_wasTold_15 : decode cX11_wasTold 15 = .ok (.iaload, 1) := by decide +kernel
theorem dX11_wasTold_16 : decode cX11_wasTold 16 = .ok (.iload_n 1, 1) := by decide +kernel
theorem dX11_wasTold_17 : decode cX11_wasTold 17 = .ok (.if_icmp .ne 15, 3) := by decide +kernel
theorem dX11_wasTold_20 : decode cX11_wasTold 20 = .ok (.aload_n 0, 1) := by decide +kernel
theorem dX11_wasTold_21 : decode cX11_wasTold 21 = .ok (.getfield 43, 3) := by decide +kernel
theorem dX11_wasTold_24 : decode cX11_wasTold 24 = .ok (.iload_n 3, 1) := by decide +kernel
theorem dX11_wasTold_25 : decode cX11_wasTold 25 = .ok (.iaload, 1) := by decide +kernel
theorem dX11_wasTold_26 : decode cX11_wasTold 26 = .ok (.iload_n 2, 1) := by decide +kernel
theorem dX11_wasTold_27 : decode cX11_wasTold 27 = .ok (.if_icmp .ne 5, 3) := by decide +kernel
theorem dX11_wasTold_30 : decode cX11_wasTold 30 = .ok (.iconst 1, 1) := by decide +kernel
theorem dX11_wasTold_31 : decode cX11_wasTold 31 = .ok (.ireturn, 1) := by decide +kernel
theorem dX11_wasTold_32 : decode cX11_wasTold 32 = .ok (.iinc 3 1, 3) := by decide +kernel
theorem dX11_wasTold_35 : decode cX11_wasTold 35 = .ok (.goto (-33), 3) := by decide +kernel
theorem dX11_wasTold_38 : decode cX11_wasTold 38 = .ok (.iconst 0, 1) := by decide +kernel
theorem dX11_wasTold_39 : decode cX11_wasTold 39 = .ok (.ireturn, 1) := by decide +kernel
theorem in_wsX11_wasTold_X11 : ∀ w ∈ wsX110, w ∈ wsX11_wasTold := fun w h => List.mem_cons_of_mem _ (List.mem_append_right _ h)

set_option maxHeartbeats 4000000 in
set_option maxRecDepth 100000 in
theorem c_X11_wasTold (l : Launch) (dC : Nat → ClassId) (dI : Nat → Nat → Nat) (sz : Nat) (g0 : Nat) (pq : Nat → Nat) (cp : Nat → ClassId) (v : Nat → Int32) (fa : Nat → Nat → Int32) (nh : Nat) (hnh : nh ≤ 200) (eh : v 41 = nI nh) (x1 x2 : Int32) : Met l yX11_wasTold wsX11_wasTold ({ frames := 0, cells := 0, slots := 0, locals := 0 }) (va_Pc [.ref g0, .int x1, .int x2] (pcW (dC, dI) (mT cp) (mW g0 pq cp v fa) sz)) (va_Qi (fun (r : Int32) (u : Unit) => r = 0 ∨ r = 1) (fun _ _ => True) (va_A [] sz)) 0 0 (va_A [] sz) := by
  refine Met.ofW (cc := cX11_wasTold) (maxL := 4) (ret := (some .boolean)) (by decide +kernel) rfl ?_
  intro p e s m args below meth c s₁ B hml hv
  obtain ⟨rfl, hsz, hP, hK, hD0⟩ := hv
  have hx := B.exec
  have hb := B.bytes
  have hr := B.returns
  have hts := atoms_spec (ws := wsX11_wasTold) B.pre
  have hown : s.vm.findClass RX11 = some m.cls := findClass_of_methodNamed B.named
  have hlocks := B.notSynchronized
  subst hsz
  have hD := hD0
  generalize hAe : va_A [] s.heap.size = A at ⊢
  have hA : ∀ q : Nat, s.heap.size ≤ q → A q := fun q h => by rw [← hAe]; exact Or.inr h
  have hS : va_S A s.heap s.heap [] := va_S.rf
  have hP : va_P (dC, dI) vwCl (mW g0 pq cp v fa) s.heap := hP
  have hl := lv_entry ([.ref g0, .int x1, .int x2]) (n := 4) (Nat.le_of_ble_eq_true rfl)
  rw [lg_entry_eq]
  generalize (lg_sl ([.ref g0, .int x1, .int x2]) ++ List.replicate (4 - (lg_sl ([.ref g0, .int x1, .int x2])).length) Slot.unset).toArray = ls at hl ⊢
  have hl : lv_has ls 4 [(0, .ref g0), (1, .int x1), (2, .int x2)] := hl
  refine lv_iconst (v := 0) hx hb dX11_wasTold_0 (by decide +kernel) ?_
  refine lv_istore_n (lv' := [(3, .int 0), (0, .ref g0), (1, .int x1), (2, .int x2)]) hx hb dX11_wasTold_1 rfl hl (by decide +kernel) rfl (fun ls hl => ?_)
  have hloop : ∀ (n i : Nat) (ls : Array Slot), nh ≤ i + n → i ≤ nh → lv_has ls 4 [(3, .int (nI i)), (0, .ref g0), (1, .int x1), (2, .int x2)] → W p l e (headSpec wsX11_wasTold { frames := 0, cells := 0, slots := 0, locals := 0 }).room s m #[Value.ref g0, Value.int x1, Value.int x2] below meth c s.heap [] 0 0 (MQ below (va_Qi (fun (r : Int32) (u : Unit) => r = 0 ∨ r = 1) (fun _ _ => True) A) #[Value.ref g0, Value.int x1, Value.int x2] s 0 0 A) (F0 m 2 ls []) := by
    intro n
    induction n with
    | zero =>
      intro i ls hi1 hi2 hl
      refine lv_iload_n hx hb dX11_wasTold_2 rfl (lv_at hl 0 rfl) ?_
      refine lv_aload_n hx hb dX11_wasTold_3 rfl (lv_at hl 1 rfl) ?_
      refine va_get (D := (dC, dI)) (ci := 11) (v := .int (v 41)) (C := RX11) (T := TX11) (N := 63) hx hb hts in_wsX11_wasTold_X11 hown hK hP 0 rfl rfl 41 (by decide +kernel) (hts (.fieldLink RX11 179 "ShipOfficeModel" "happened" "I") iw_X11_wasTold_1) (fun _ h9 => h9) rfl dX11_wasTold_4 ?_
      refine lv_icmp_ge (tgt := 38) hx hb dX11_wasTold_7 (by decide +kernel) (fun c_1 => ?_) (fun c_1 => absurd c_1 (fun h => h (by rw [eh]; exact nI_le (by omega) (by omega))))
      refine lv_iconst (v := 0) hx hb dX11_wasTold_38 (by decide +kernel) ?_
      exact W.zret (v := 0) hx hb hr rfl (fun t ht hW => ⟨⟨0, (), rfl, (Or.inl rfl), trivial⟩, hS.F ht⟩) hS.2.2 dX11_wasTold_39
    | succ n ih =>
      intro i ls hi1 hi2 hl
      refine lv_iload_n hx hb dX11_wasTold_2 rfl (lv_at hl 0 rfl) ?_
      refine lv_aload_n hx hb dX11_wasTold_3 rfl (lv_at hl 1 rfl) ?_
      refine va_get (D := (dC, dI)) (ci := 11) (v := .int (v 41)) (C := RX11) (T := TX11) (N := 63) hx hb hts in_wsX11_wasTold_X11 hown hK hP 0 rfl rfl 41 (by decide +kernel) (hts (.fieldLink RX11 179 "ShipOfficeModel" "happened" "I") iw_X11_wasTold_1) (fun _ h9 => h9) rfl dX11_wasTold_4 ?_
      refine lv_icmp_ge (tgt := 38) hx hb dX11_wasTold_7 (by decide +kernel) (fun c_2 => ?_) (fun c_2 => ?_)
      · refine lv_iconst (v := 0) hx hb dX11_wasTold_38 (by decide +kernel) ?_
        exact W.zret (v := 0) hx hb hr rfl (fun t ht hW => ⟨⟨0, (), rfl, (Or.inl rfl), trivial⟩, hS.F ht⟩) hS.2.2 dX11_wasTold_39
      · have hi : i < nh := by
          rcases Nat.lt_or_ge i nh with h | h
          · exact h
          · exact absurd (by rw [eh]; exact nI_le h (by omega)) c_2
        refine lv_aload_n hx hb dX11_wasTold_10 rfl (lv_at hl 1 rfl) ?_
        refine va_get (D := (dC, dI)) (ci := 11) (v := .ref (pq 10)) (C := RX11) (T := TX11) (N := 63) hx hb hts in_wsX11_wasTold_X11 hown hK hP 0 rfl rfl 10 (by decide +kernel) (hts (.fieldLink RX11 40 "ShipOfficeModel" "what" "[I") iw_X11_wasTold_2) (fun _ h9 => h9) rfl dX11_wasTold_11 ?_
        refine lv_iload_n hx hb dX11_wasTold_14 rfl (lv_at hl 0 rfl) ?_
        refine va_iald hx hb hK hP 11 10 rfl rfl (vp_in_nI (by omega) (by decide +kernel)) dX11_wasTold_15 ?_
        refine lv_iload_n hx hb dX11_wasTold_16 rfl (lv_at hl 2 rfl) ?_
        refine lv_icmp_ne (tgt := 32) hx hb dX11_wasTold_17 (by decide +kernel) (fun c_3 => ?_) (fun c_3 => ?_)
        · refine lv_iinc (v := nI (i + 1)) (lv' := [(3, .int (nI (i + 1))), (0, .ref g0), (1, .int x1), (2, .int x2)]) hx hb dX11_wasTold_32 hl (k := 0) rfl (nI_1 i) (by decide +kernel) rfl (fun ls hl => ?_)
          refine lv_goto (tgt := 2) hx hb dX11_wasTold_35 (by decide +kernel) ?_
          exact ih (i + 1) ls (by omega) (by omega) (lv_sub hl [0, 1, 2, 3] rfl)
        · refine lv_aload_n hx hb dX11_wasTold_20 rfl (lv_at hl 1 rfl) ?_
          refine va_get (D := (dC, dI)) (ci := 11) (v := .ref (pq 11)) (C := RX11) (T := TX11) (N := 63) hx hb hts in_wsX11_wasTold_X11 hown hK hP 0 rfl rfl 11 (by decide +kernel) (hts (.fieldLink RX11 43 "ShipOfficeModel" "whose" "[I") iw_X11_wasTold_3) (fun _ h9 => h9) rfl dX11_wasTold_21 ?_
          refine lv_iload_n hx hb dX11_wasTold_24 rfl (lv_at hl 0 rfl) ?_
          refine va_iald hx hb hK hP 12 11 rfl rfl (vp_in_nI (by omega) (by decide +kernel)) dX11_wasTold_25 ?_
          refine lv_iload_n hx hb dX11_wasTold_26 rfl (lv_at hl 3 rfl) ?_
          refine lv_icmp_ne (tgt := 32) hx hb dX11_wasTold_27 (by decide +kernel) (fun c_4 => ?_) (fun c_4 => ?_)
          · refine lv_iinc (v := nI (i + 1)) (lv' := [(3, .int (nI (i + 1))), (0, .ref g0), (1, .int x1), (2, .int x2)]) hx hb dX11_wasTold_32 hl (k := 0) rfl (nI_1 i) (by decide +kernel) rfl (fun ls hl => ?_)
            refine lv_goto (tgt := 2) hx hb dX11_wasTold_35 (by decide +kernel) ?_
            exact ih (i + 1) ls (by omega) (by omega) (lv_sub hl [0, 1, 2, 3] rfl)
          · refine lv_iconst (v := 1) hx hb dX11_wasTold_30 (by decide +kernel) ?_
            exact W.zret (v := 1) hx hb hr rfl (fun t ht hW => ⟨⟨1, (), rfl, (Or.inr rfl), trivial⟩, hS.F ht⟩) hS.2.2 dX11_wasTold_31
  exact hloop nh 0 ls (by omega) (by omega) (lv_sub hl [0, 1, 2, 3] rfl)
