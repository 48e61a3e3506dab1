theorem gw_X11_takes : wsX11_takes.all goodWord = true := by decide +kernel
theorem gw_X11_sum : wsX11_sum.all goodWord = true := by decide +kernel
set_option maxRecDepth 100000 in
theorem ggX11_unit_X11_sum : GoodIn wsX11_unit wsX11_sum := goodIn_sub (mmC (mmI il_X11_unit_2 8 rfl) (mmA (mmA (mmC (mmI il_X11_unit_1 0 rfl) (mmC (mmI il_X11_unit_1 1 rfl) (mmC (mmI il_X11_unit_2 9 rfl) (mmC (mmI il_X11_unit_2 10 rfl) (mmC (mmI il_X11_unit_2 11 rfl) (mmC (mmI il_X11_unit_1 7 rfl) (mmC (mmI il_X11_unit_1 4 rfl) (mmC (mmI il_X11_unit_1 5 rfl) (mmC (mmI il_X11_unit_1 6 rfl) (mmC (mmI il_X11_unit_1 8 rfl) (mmC (mmI il_X11_unit_1 9 rfl) (mmC (mmI il_X11_unit_1 10 rfl) (mmC (mmI il_X11_unit_1 11 rfl) (mmC (mmI il_X11_unit_1 12 rfl) (mmC (mmI il_X11_unit_1 16 rfl) (mmC (mmI il_X11_unit_1 17 rfl) (mmC (mmI il_X11_unit_1 18 rfl) (mmC (mmI il_X11_unit_1 19 rfl) (mmC (mmI il_X11_unit_1 20 rfl) (mmC (mmI il_X11_unit_2 12 rfl) (mmC (mmI il_X11_unit_2 13 rfl) (mmC (mmI il_X11_unit_2 14 rfl) (mmC (mmI il_X11_unit_2 15 rfl) (mmC (List.mem_cons_self) mmN)))))))))))))))))))))))) (mmC (mmI il_X11_unit_1 2 rfl) (mmC (mmI il_X11_unit_1 3 rfl) (mmC (mmI il_X11_unit_1 13 rfl) (mmC (mmI il_X11_unit_1 14 rfl) (mmC (mmI il_X11_unit_1 15 rfl) (mmC (mmI il_X11_unit_1 21 rfl) (mmC (mmI il_X11_unit_1 22 rfl) (mmC (mmI il_X11_unit_1 23 rfl) (mmC (mmI il_X11_unit_2 0 rfl) (mmC (mmI il_X11_unit_2 1 rfl) (mmC (mmI il_X11_unit_2 2 rfl) (mmC (mmI il_X11_unit_2 3 rfl) (mmC (mmI il_X11_unit_2 4 rfl) (mmC (mmI il_X11_unit_2 5 rfl) (mmC (mmI il_X11_unit_2 6 rfl) (mmC (mmI il_X11_unit_2 7 rfl) mmN))))))))))))))))) il_X11_unit_3)) gw_X11_sum
theorem gX11_unit_X11_sum : GoodIn wsX11_unit (wsV RX11 250 RX11 yX11_sum wsX11_sum) := goodIn_app (goodIn_sub (mmC (mmI il_X11_unit_2 1 rfl) (mmC (mmI il_X11_unit_2 2 rfl) (mmC (mmI il_X11_unit_2 3 rfl) (mmC (mmI il_X11_unit_1 7 rfl) mmN)))) (by decide +kernel)) ggX11_unit_X11_sum
set_option maxRecDepth 100000 in
theorem ggX11_unit_X11_takes : GoodIn wsX11_unit wsX11_takes := goodIn_sub (mmC (mmI il_X11_unit_2 7 rfl) (mmA (mmC (mmI il_X11_unit_1 0 rfl) (mmC (mmI il_X11_unit_1 1 rfl) (mmC (mmI il_X11_unit_1 4 rfl) (mmC (mmI il_X11_unit_1 5 rfl) (mmC (mmI il_X11_unit_1 6 rfl) (mmC (mmI il_X11_unit_1 7 rfl) (mmC (mmI il_X11_unit_1 8 rfl) (mmC (mmI il_X11_unit_1 9 rfl) (mmC (mmI il_X11_unit_1 10 rfl) (mmC (mmI il_X11_unit_1 11 rfl) (mmC (mmI il_X11_unit_1 12 rfl) mmN))))))))))) il_X11_unit_3)) gw_X11_takes
theorem gX11_unit_X11_takes : GoodIn wsX11_unit (wsV RX11 253 RX11 yX11_takes wsX11_takes) := goodIn_app (goodIn_sub (mmC (mmI il_X11_unit_2 4 rfl) (mmC (mmI il_X11_unit_2 5 rfl) (mmC (mmI il_X11_unit_2 6 rfl) (mmC (mmI il_X11_unit_1 7 rfl) mmN)))) (by decide +kernel)) ggX11_unit_X11_takes
theorem dX11_unit_61 : decode cX11_unit 61 = .ok (.aload_n 0, 1) := by decide +kernel
theorem dX11_unit_62 : decode cX11_unit 62 = .ok (.dup, 1) := by decide +kernel
theorem dX11_unit_63 : decode cX11_unit 63 = .ok (.getfield 210, 3) := by decide +kernel
theorem dX11_unit_66 : decode cX11_unit 66 = .ok (.iconst 1, 1) := by decide +kernel
theorem dX11_unit_67 : decode cX11_unit 67 = .ok (.iadd, 1) := by decide +kernel
theorem dX11_unit_68 : decode cX11_unit 68 = .ok (.putfield 210, 3) := by decide +kernel
theorem dX11_unit_71 : decode cX11_unit 71 = .ok (.aload_n 0, 1) := by decide +kernel
theorem dX11_unit_72 : decode cX11_unit 72 = .ok (.dup, 1) := by decide +kernel
theorem dX11_unit_73 : decode cX11_unit 73 = .ok (.getfield 244, 3) := by decide +kernel
theorem dX11_unit_76 : decode cX11_unit 76 = .ok (.iconst 1, 1) := by decide +kernel
theorem dX11_unit_77 : decode cX11_unit 77 = .ok (.iadd, 1) := by decide +kernel
theorem dX11_unit_78 : decode cX11_unit 78 = .ok (.putfield 244, 3) := by decide +kernel
theorem dX11_unit_81 : decode cX11_unit 81 = .ok (.aload_n 0, 1) := by decide +kernel
theorem dX11_unit_82 : decode cX11_unit 82 = .ok (.invokevirtual 250, 3) := by decide +kernel
theorem dX11_unit_85 : decode cX11_unit 85 = .ok (.istore_n 2, 1) := by decide +kernel
theorem dX11_unit_86 : decode cX11_unit 86 = .ok (.aload_n 0, 1) := by decide +kernel
theorem dX11_unit_87 : decode cX11_unit 87 = .ok (.invokevirtual 227, 3) := by decide +kernel
theorem dX11_unit_90 : decode cX11_unit 90 = .ok (.istore_n 3, 1) := by decide +kernel
theorem dX11_unit_91 : decode cX11_unit 91 = .ok (.aload_n 0, 1) := by decide +kernel
theorem dX11_unit_92 : decode cX11_unit 92 = .ok (.getfield 223, 3) := by decide +kernel
theorem dX11_unit_95 : decode cX11_unit 95 = .ok (.ifCond .eq 89, 3) := by decide +kernel
theorem dX11_unit_98 : decode cX11_unit 98 = .ok (.iload_n 3, 1) := by decide +kernel
theorem dX11_unit_99 : decode cX11_unit 99 = .ok (.bipush 60, 2) := by decide +kernel
theorem dX11_unit_101 : decode cX11_unit 101 = .ok (.if_icmp .eq 15, 3) := by decide +kernel
theorem dX11_unit_104 : decode cX11_unit 104 = .ok (.iload_n 3, 1) := by decide +kernel
theorem dX11_unit_105 : decode cX11_unit 105 = .ok (.bipush 61, 2) := by decide +kernel
theorem dX11_unit_107 : decode cX11_unit 107 = .ok (.if_icmp .eq 9, 3) := by decide +kernel
theorem dX11_unit_110 : decode cX11_unit 110 = .ok (.iload_n 3, 1) := by decide +kernel
theorem dX11_unit_111 : decode cX11_unit 111 = .ok (.bipush 62, 2) := by decide +kernel
theorem dX11_unit_113 : decode cX11_unit 113 = .ok (.if_icmp .ne 71, 3) := by decide +kernel
theorem dX11_unit_116 : decode cX11_unit 116 = .ok (.aload_n 0, 1) := by decide +kernel
theorem dX11_unit_117 : decode cX11_unit 117 = .ok (.dup, 1) := by decide +kernel
theorem dX11_unit_118 : decode cX11_unit 118 = .ok (.getfield 210, 3) := by decide +kernel
theorem dX11_unit_121 : decode cX11_unit 121 = .ok (.iconst 1, 1) := by decide +kernel
theorem dX11_unit_122 : decode cX11_unit 122 = .ok (.iadd, 1) := by decide +kernel
theorem dX11_unit_123 : decode cX11_unit 123 = .ok (.putfield 210, 3) := by decide +kernel
theorem dX11_unit_126 : decode cX11_unit 126 = .ok (.aload_n 0, 1) := by decide +kernel
theorem dX11_unit_127 : decode cX11_unit 127 = .ok (.invokevirtual 250, 3) := by decide +kernel
theorem dX11_unit_130 : decode cX11_unit 130 = .ok (.istore 4, 2) := by decide +kernel
theorem dX11_unit_132 : decode cX11_unit 132 = .ok (.iload_n 3, 1) := by decide +kernel
theorem dX11_unit_133 : decode cX11_unit 133 = .ok (.bipush 60, 2) := by decide +kernel
theorem dX11_unit_135 : decode cX11_unit 135 = .ok (.if_icmp .ne 17, 3) := by decide +kernel
theorem dX11_unit_138 : decode cX11_unit 138 = .ok (.iload_n 2, 1) := by decide +kernel
theorem dX11_unit_139 : decode cX11_unit 139 = .ok (.iload 4, 2) := by decide +kernel
theorem dX11_unit_141 : decode cX11_unit 141 = .ok (.if_icmp .ge 7, 3) := by decide +kernel
theorem dX11_unit_144 : decode cX11_unit 144 = .ok (.iconst 1, 1) := by decide +kernel
theorem dX11_unit_145 : decode cX11_unit 145 = .ok (.goto 38, 3) := by decide +kernel
theorem dX11_unit_148 : decode cX11_unit 148 = .ok (.iconst 0, 1) := by decide +kernel
theorem dX11_unit_149 : decode cX11_unit 149 = .ok (.goto 34, 3) := by decide +kernel
theorem dX11_unit_152 : decode cX11_unit 152 = .ok (.iload_n 3, 1) := by decide +kernel
theorem dX11_unit_153 : decode cX11_unit 153 = .ok (.bipush 61, 2) := by decide +kernel
theorem dX11_unit_155 : decode cX11_unit 155 = .ok (.if_icmp .ne 17, 3) := by decide +kernel
theorem dX11_unit_158 : decode cX11_unit 158 = .ok (.iload_n 2, 1) := by decide +kernel
theorem dX11_unit_159 : decode cX11_unit 159 = .ok (.iload 4, 2) := by decide +kernel
theorem dX11_unit_161 : decode cX11_unit 161 = .ok (.if_icmp .ne 7, 3) := by decide +kernel
theorem dX11_unit_164 : decode cX11_unit 164 = .ok (.iconst 1, 1) := by decide +kernel
theorem dX11_unit_165 : decode cX11_unit 165 = .ok (.goto 18, 3) := by decide +kernel
theorem dX11_unit_168 : decode cX11_unit 168 = .ok (.iconst 0, 1) := by decide +kernel
theorem dX11_unit_169 : decode cX11_unit 169 = .ok (.goto 14, 3) := by decide +kernel
theorem dX11_unit_172 : decode cX11_unit 172 = .ok (.iload_n 2, 1) := by decide +kernel
theorem dX11_unit_173 : decode cX11_unit 173 = .ok (.iload 4, 2) := by decide +kernel
theorem dX11_unit_175 : decode cX11_unit 175 = .ok (.if_icmp .le 7, 3) := by decide +kernel
theorem dX11_unit_178 : decode cX11_unit 178 = .ok (.iconst 1, 1) := by decide +kernel
theorem dX11_unit_179 : decode cX11_unit 179 = .ok (.goto 4, 3) := by decide +kernel
theorem dX11_unit_182 : decode cX11_unit 182 = .ok (.iconst 0, 1) := by decide +kernel
theorem dX11_unit_183 : decode cX11_unit 183 = .ok (.istore_n 2, 1) := by decide +kernel
theorem dX11_unit_184 : decode cX11_unit 184 = .ok (.aload_n 0, 1) := by decide +kernel
theorem dX11_unit_185 : decode cX11_unit 185 = .ok (.bipush 41, 2) := by decide +kernel
theorem dX11_unit_187 : decode cX11_unit 187 = .ok (.invokevirtual 253, 3) := by decide +kernel
theorem dX11_unit_190 : decode cX11_unit 190 = .ok (.ifCond .ne 8, 3) := by decide +kernel
theorem dX11_unit_193 : decode cX11_unit 193 = .ok (.aload_n 0, 1) := by decide +kernel
theorem dX11_unit_194 : decode cX11_unit 194 = .ok (.invokevirtual 247, 3) := by decide +kernel
theorem dX11_unit_197 : decode cX11_unit 197 = .ok (.ireturn, 1) := by decide +kernel
theorem dX11_unit_198 : decode cX11_unit 198 = .ok (.aload_n 0, 1) := by decide +kernel
theorem dX11_unit_199 : decode cX11_unit 199 = .ok (.dup, 1) := by decide +kernel
theorem dX11_unit_200 : decode cX11_unit 200 = .ok (.getfield 244, 3) := by decide +kernel
theorem dX11_unit_203 : decode cX11_unit 203 = .ok (.iconst 1, 1) := by decide +kernel
theorem dX11_unit_204 : decode cX11_unit 204 = .ok (.isub, 1) := by decide +kernel
theorem dX11_unit_205 : decode cX11_unit 205 = .ok (.putfield 244, 3) := by decide +kernel
theorem dX11_unit_208 : decode cX11_unit 208 = .ok (.iload_n 2, 1) := by decide +kernel
theorem dX11_unit_209 : decode cX11_unit 209 = .ok (.ireturn, 1) := by decide +kernel


set_option maxHeartbeats 4000000 in
set_option maxRecDepth 100000 in
theorem c_X11_takes_b (l : Launch) (dC : Nat → ClassId) (dI : Nat → Nat → Nat) (sz : Nat) (g0 : Nat) (pq : Nat → Nat) (cp : Nat → ClassId) (v : Nat → Int32) (fa : Nat → Nat → Int32) (k n : Nat) (hk : k ≤ n) (hn : n ≤ 60) (ea : v 47 = nI k) (es : v 50 = nI n) (hb0 : v 49 < 0 ∨ ∃ j : Nat, j ≤ 1740 ∧ v 49 = nI j) (x1 : Int32) (hx1 : ¬ x1 = -1) : Met l yX11_takes wsX11_takes ({ frames := 1, cells := 0, slots := 0, locals := 20 }) (va_Pc [.ref g0, .int x1] (pcW (dC, dI) (mT cp) (mW g0 pq cp v fa) sz)) (va_Qi (fun (r : Int32) (u : (Nat → Int32) × (Nat → Nat → Int32)) => u.2 = fa ∧ ((r = 0 ∧ u.1 = v) ∨ (r = 1 ∧ ¬ v 51 = 0 ∧ k < n ∧ u.1 = upd v 47 (v 47 + 1)))) (fun u t => va_P (dC, dI) vwCl (mW g0 pq cp u.1 u.2) t.heap ∧ va_K (dC, dI) vwCl (mT cp) t ∧ va_D (va_A (mW g0 pq cp v fa) sz) (mW g0 pq cp u.1 u.2)) (va_A (mW g0 pq cp v fa) sz)) 0 0 (va_A (mW g0 pq cp v fa) sz) := by
  refine Met.ofW (cc := cX11_takes) (maxL := 2) (ret := (some .boolean)) (by decide) rfl ?_
  intro p e s m args below meth c s₁ B hml hv
  obtain ⟨rfl, hsz, hP, hK, hD0⟩ := hv
  have hx := B.exec
  have hb := B.bytes
  have hr := B.returns
  have hts := atoms_spec (ws := wsX11_takes) B.pre
  have hown : s.vm.findClass RX11 = some m.cls := findClass_of_methodNamed B.named
  have hlocks := B.notSynchronized
  subst hsz
  have hD := hD0.self (sz := s.heap.size)
  generalize hAe : va_A (mW g0 pq cp v fa) s.heap.size = A at hD ⊢
  have hA : ∀ q : Nat, s.heap.size ≤ q → A q := fun q h => by rw [← hAe]; exact Or.inr h
  have hS : va_S A s.heap s.heap [] := va_S.rf
  have hP : va_P (dC, dI) vwCl (mW g0 pq cp v fa) s.heap := hP
  have hl := lv_entry ([.ref g0, .int x1]) (n := 2) (Nat.le_of_ble_eq_true rfl)
  rw [lg_entry_eq]
  generalize (lg_sl ([.ref g0, .int x1]) ++ List.replicate (2 - (lg_sl ([.ref g0, .int x1])).length) Slot.unset).toArray = ls at hl ⊢
  have hl : lv_has ls 2 [(0, .ref g0), (1, .int x1)] := hl
  refine lv_aload_n hx hb dX11_takes_0 rfl (lv_at hl 0 rfl) ?_
  refine va_get (D := (dC, dI)) (ci := 11) (v := .int (v 51)) (C := RX11) (T := TX11) (N := 63) hx hb hts in_wsX11_takes_X11 hown hK hP 0 rfl rfl 51 (by decide) (hts (.fieldLink RX11 223 "ShipOfficeModel" "isWell" "Z") iw_X11_takes_1) (fun _ h9 => h9) rfl dX11_takes_1 ?_
  refine lv_if_eq (tgt := 15) hx hb dX11_takes_4 (by decide) (fun c_1 => ?_) (fun c_1 => ?_)
  · refine lv_iconst (v := 0) hx hb dX11_takes_15 (by decide) ?_
    exact W.zret (v := 0) hx hb hr rfl (fun t ht hW => ⟨⟨0, (v, fa), rfl, ⟨rfl, Or.inl ⟨rfl, rfl⟩⟩, ⟨by rw [ht]; exact hP, va_K.moved hW.alike hK, hD⟩⟩, hS.F ht⟩) hS.2.2 dX11_takes_16
  · refine lv_aload_n hx hb dX11_takes_7 rfl (lv_at hl 0 rfl) ?_
    have hFc : ∀ q, va_A [] s.heap.size q → A q := pu_free hS hA
    refine va_calli (va_runV (As := []) (rest := []) ⟨hx, hb, hml, hown, hts⟩ (c_X11_sign l dC dI s.heap.size g0 pq cp v fa k n hk hn ea es hb0) (cwV 0 hts gX11_takes_X11_sign rfl rfl rfl (by decide +kernel) ⟨(Nat.le_of_ble_eq_true rfl), (Nat.le_of_ble_eq_true rfl)⟩) (pr_V (r := (RX11, TX11, 63)) hP hK hD 0 11 rfl rfl) rfl rfl hl.1 rfl (lv_room (Nat.le_of_ble_eq_true rfl)) dX11_takes_8 ⟨(Nat.le_of_ble_eq_true rfl), (Nat.le_of_ble_eq_true rfl)⟩) hS (fun q _ h => hFc q h) hFc (fun r_3 u t H locs ht hvm w_2 hB hz1 hk1 hS => ?_)
    have hP := pu_keep hP hk1
    clear hk1 hz1 hvm hB ht hFc
    refine lv_iload_n hx hb dX11_takes_11 rfl (lv_at hl 1 rfl) ?_
    refine lv_icmp_eq (tgt := 17) hx hb dX11_takes_12 (by decide) (fun c_4 => ?_) (fun c_4 => ?_)
    · refine lv_aload_n hx hb dX11_takes_17 rfl (lv_at hl 0 rfl) ?_
      refine lv_dup hx hb dX11_takes_18 rfl ?_
      refine va_get (D := (dC, dI)) (ci := 11) (v := .int (v 47)) (C := RX11) (T := TX11) (N := 63) hx hb hts in_wsX11_takes_X11 hown hK hP 0 rfl rfl 47 (by decide) (hts (.fieldLink RX11 210 "ShipOfficeModel" "at" "I") iw_X11_takes_2) (fun _ h9 => h9) rfl dX11_takes_19 ?_
      refine lv_iconst (v := 1) hx hb dX11_takes_22 (by decide) ?_
      refine lv_iadd hx hb dX11_takes_23 ?_
      refine va_put (D := (dC, dI)) (ci := 11) (v := .int ((v 47) + 1)) (ty := .int) (C := RX11) (T := TX11) (N := 63) hx hb hts in_wsX11_takes_X11 tyX11 tyX11_ok nmX11 hown hK hP hD hS 0 rfl rfl 47 (by decide) (hts (.fieldLink RX11 210 "ShipOfficeModel" "at" "I") iw_X11_takes_2) (fun _ h9 => h9) rfl (by decide +kernel) rfl rfl (Nat.le_of_ble_eq_true rfl) dX11_takes_24 (fun H locs hP hD hS => ?_)
      have hP : va_P (dC, dI) vwCl (mW g0 pq cp (upd v 47 ((v 47) + 1)) fa) H := hP
      have hD : va_D A (mW g0 pq cp (upd v 47 ((v 47) + 1)) fa) := hD
      refine lv_iconst (v := 1) hx hb dX11_takes_27 (by decide) ?_
      exact W.zret (v := 1) hx hb hr rfl (fun t ht hW => ⟨⟨1, ((upd v 47 ((v 47) + 1)), fa), rfl, ⟨rfl, Or.inr ⟨rfl, c_1, w_2.resolve_left (fun h => hx1 (c_4.symm.trans h)), rfl⟩⟩, ⟨by rw [ht]; exact hP, va_K.moved hW.alike hK, hD⟩⟩, hS.F ht⟩) hS.2.2 dX11_takes_28
    · refine lv_iconst (v := 0) hx hb dX11_takes_15 (by decide) ?_
      exact W.zret (v := 0) hx hb hr rfl (fun t ht hW => ⟨⟨0, (v, fa), rfl, ⟨rfl, Or.inl ⟨rfl, rfl⟩⟩, ⟨by rw [ht]; exact hP, va_K.moved hW.alike hK, hD⟩⟩, hS.F ht⟩) hS.2.2 dX11_takes_16
set_option maxHeartbeats 4000000 in
set_option maxRecDepth 100000 in
theorem c_X11_unit_4 (l : Launch) (dC : Nat → ClassId) (dI : Nat → Nat → Nat) (sz : Nat) (g0 : Nat) (pq : Nat → Nat) (cp : Nat → ClassId) (v : Nat → Int32) (fa : Nat → Nat → Int32) (k n : Nat) (hk : k ≤ n) (hn : n ≤ 60) (ea : v 47 = nI k) (es : v 50 = nI n) (hb0 : v 49 < 0 ∨ ∃ j : Nat, j ≤ 1740 ∧ v 49 = nI j) (hwe : v 51 = 1) (hde : v 48 = nI 4) : Met l yX11_unit wsX11_unit ({ frames := 4, cells := 0, slots := 0, locals := 91 }) (va_Pc [.ref g0] (pcW (dC, dI) (mT cp) (mW g0 pq cp v fa) sz)) (va_Qi (fun (r : Int32) (u : (Nat → Int32) × (Nat → Nat → Int32)) => pz v k n 4 u.1 ∧ u.2 = fa) (fun u t => va_P (dC, dI) vwCl (mW g0 pq cp u.1 u.2) t.heap ∧ va_K (dC, dI) vwCl (mT cp) t ∧ va_D (va_A (mW g0 pq cp v fa) sz) (mW g0 pq cp u.1 u.2)) (va_A (mW g0 pq cp v fa) sz)) 0 0 (va_A (mW g0 pq cp v fa) sz) := by
  refine Met.ofW (cc := cX11_unit) (maxL := 5) (ret := (some .int)) (by decide) rfl ?_
  intro p e s m args below meth c s₁ B hml hv
  obtain ⟨rfl, hsz, hP, hK, hD0⟩ := hv
  have hx := B.exec
  have hb := B.bytes
  have hr := B.returns
  have hts := atoms_spec (ws := wsX11_unit) B.pre
  have hown : s.vm.findClass RX11 = some m.cls := findClass_of_methodNamed B.named
  have hlocks := B.notSynchronized
  subst hsz
  have hD := hD0.self (sz := s.heap.size)
  generalize hAe : va_A (mW g0 pq cp v fa) s.heap.size = A at hD ⊢
  have hA : ∀ q : Nat, s.heap.size ≤ q → A q := fun q h => by rw [← hAe]; exact Or.inr h
  have hS : va_S A s.heap s.heap [] := va_S.rf
  have hP : va_P (dC, dI) vwCl (mW g0 pq cp v fa) s.heap := hP
  have hl := lv_entry ([.ref g0]) (n := 5) (Nat.le_of_ble_eq_true rfl)
  rw [lg_entry_eq]
  generalize (lg_sl ([.ref g0]) ++ List.replicate (5 - (lg_sl ([.ref g0])).length) Slot.unset).toArray = ls at hl ⊢
  have hl : lv_has ls 5 [(0, .ref g0)] := hl
  refine lv_aload_n hx hb dX11_unit_0 rfl (lv_at hl 0 rfl) ?_
  refine va_get (D := (dC, dI)) (ci := 11) (v := .int (v 51)) (C := RX11) (T := TX11) (N := 63) hx hb hts in_wsX11_unit_X11 hown hK hP 0 rfl rfl 51 (by decide) (hts (.fieldLink RX11 223 "ShipOfficeModel" "isWell" "Z") iw_X11_unit_1) (fun _ h9 => h9) rfl dX11_unit_1 ?_
  refine lv_topi (fun y ey => ?_)
  obtain rfl : y = 1 := ey.trans (hwe.trans (by decide))
  refine lv_if_ne (tgt := 9) hx hb dX11_unit_4 (by decide) (fun _ => ?_) (fun c_1 => absurd c_1 (by decide))
  refine lv_aload_n hx hb dX11_unit_9 rfl (lv_at hl 0 rfl) ?_
  have hFc : ∀ q, va_A [] s.heap.size q → A q := pu_free hS hA
  refine va_calli (va_runV (As := []) (rest := []) ⟨hx, hb, hml, hown, hts⟩ (c_X11_sign l dC dI s.heap.size g0 pq cp v fa k n hk hn ea es hb0) (cwV 0 hts gX11_unit_X11_sign rfl rfl rfl (by decide +kernel) ⟨(Nat.le_of_ble_eq_true rfl), (Nat.le_of_ble_eq_true rfl)⟩) (pr_V (r := (RX11, TX11, 63)) hP hK hD 0 11 rfl rfl) rfl rfl hl.1 rfl (lv_room (Nat.le_of_ble_eq_true rfl)) dX11_unit_10 ⟨(Nat.le_of_ble_eq_true rfl), (Nat.le_of_ble_eq_true rfl)⟩) hS (fun q _ h => hFc q h) hFc (fun r_3 u t H locs ht hvm w_2 hB hz1 hk1 hS => ?_)
  have hP := pu_keep hP hk1
  clear hk1 hz1 hvm hB ht hFc
  refine lv_istore_n (lv' := [(1, .int r_3), (0, .ref g0)]) hx hb dX11_unit_13 rfl hl (by decide) rfl (fun ls hl => ?_)
  refine lv_iload_n hx hb dX11_unit_14 rfl (lv_at hl 0 rfl) ?_
  have hFc : ∀ q, va_A [] H.size q → A q := pu_free hS hA
  have hPc := hP.sub (ws' := []) [] rfl
  have hDc := hD.sub (ws' := []) [] (by decide) rfl
  have hKc := hK.sub (tys' := []) [] rfl
  refine va_calli (va_runS (As := [.int r_3]) (rest := []) ⟨hx, hb, hml, hown, hts⟩ (c_X11_isLetter l dC dI H.size r_3) (va_cwS 1 hts gX11_unit_X11_isLetter rfl rfl rfl (by decide +kernel) ⟨(Nat.le_of_ble_eq_true rfl), (Nat.le_of_ble_eq_true rfl)⟩) (pr_S hPc hKc hDc) rfl rfl hl.1 rfl (lv_room (Nat.le_of_ble_eq_true rfl)) dX11_unit_15 ⟨(Nat.le_of_ble_eq_true rfl), (Nat.le_of_ble_eq_true rfl)⟩) hS (fun q _ h => hFc q h) hFc (fun r_5 u t H locs ht hvm w_4 hB hz1 hk1 hS => ?_)
  have hP := pu_keep hP hk1
  clear hk1 hz1 hvm hB ht hFc hPc hDc hKc
  rcases w_4 with rfl | ⟨rfl, hl_6⟩
  · refine lv_if_eq (tgt := 42) hx hb dX11_unit_18 (by decide) (fun _ => ?_) (fun c_7 => absurd c_7 (by decide))
    refine lv_iload_n hx hb dX11_unit_42 rfl (lv_at hl 0 rfl) ?_
    refine lv_bipush (v := 40) hx hb dX11_unit_43 (by decide) ?_
    refine lv_icmp_ne (tgt := 210) hx hb dX11_unit_45 (by decide) (fun c_8 => ?_) (fun c_8 => ?_)
    · refine lv_iconst (v := 0) hx hb dX11_unit_210 (by decide) ?_
      refine lv_istore_n (lv' := [(2, .int 0), (1, .int r_3), (0, .ref g0)]) hx hb dX11_unit_211 rfl hl (by decide) rfl (fun ls hl => ?_)
      refine lv_iconst (v := 0) hx hb dX11_unit_212 (by decide) ?_
      refine lv_istore_n (lv' := [(3, .int 0), (2, .int 0), (1, .int r_3), (0, .ref g0)]) hx hb dX11_unit_213 rfl hl (by decide) rfl (fun ls hl => ?_)
      refine lv_iload_n hx hb dX11_unit_214 rfl (lv_at hl 0 rfl) ?_
      refine lv_iconst (v := 5) hx hb dX11_unit_215 (by decide) ?_
      refine lv_icmp_ge (tgt := 266) hx hb dX11_unit_216 (by decide) (fun c_9 => absurd c_9 (by decide)) (fun _ => ?_)
      refine lv_aload_n hx hb dX11_unit_219 rfl (lv_at hl 3 rfl) ?_
      have hFc : ∀ q, va_A [] H.size q → A q := pu_free hS hA
      refine va_calli (va_runV (As := []) (rest := []) ⟨hx, hb, hml, hown, hts⟩ (c_X11_sign l dC dI H.size g0 pq cp v fa k n hk hn ea es hb0) (cwV 0 hts gX11_unit_X11_sign rfl rfl rfl (by decide +kernel) ⟨(Nat.le_of_ble_eq_true rfl), (Nat.le_of_ble_eq_true rfl)⟩) (pr_V (r := (RX11, TX11, 63)) hP hK hD 0 11 rfl rfl) rfl rfl hl.1 rfl (lv_room (Nat.le_of_ble_eq_true rfl)) dX11_unit_220 ⟨(Nat.le_of_ble_eq_true rfl), (Nat.le_of_ble_eq_true rfl)⟩) hS (fun q _ h => hFc q h) hFc (fun r_11 u t H locs ht hvm w_10 hB hz1 hk1 hS => ?_)
      have hP := pu_keep hP hk1
      clear hk1 hz1 hvm hB ht hFc
      refine lv_bipush (v := 48) hx hb dX11_unit_223 (by decide) ?_
      refine lv_icmp_lt (tgt := 266) hx hb dX11_unit_225 (by decide) (fun c_12 => ?_) (fun c_12 => ?_)
      · refine lv_iload_n hx hb dX11_unit_266 rfl (lv_at hl 0 rfl) ?_
        refine lv_if_ne (tgt := 277) hx hb dX11_unit_267 (by decide) (fun c_13 => absurd c_13 (by decide)) (fun _ => ?_)
        refine lv_aload_n hx hb dX11_unit_270 rfl (lv_at hl 3 rfl) ?_
        have hFc := va_free (wc := (mW g0 pq cp v fa)) hD hS hA (List.range 48) rfl
        refine va_calli (va_runV (As := []) (rest := []) ⟨hx, hb, hml, hown, hts⟩ (c_X11_breaks l dC dI H.size g0 pq cp v fa) (cwV 0 hts gX11_unit_X11_breaks rfl rfl rfl (by decide +kernel) ⟨(Nat.le_of_ble_eq_true rfl), (Nat.le_of_ble_eq_true rfl)⟩) (pr_V (r := (RX11, TX11, 63)) hP hK hD 0 11 rfl rfl) rfl rfl hl.1 rfl (lv_room (Nat.le_of_ble_eq_true rfl)) dX11_unit_271 ⟨(Nat.le_of_ble_eq_true rfl), (Nat.le_of_ble_eq_true rfl)⟩) hS (fun q _ h => hFc q h) hFc (fun r_15 u t H locs ht hvm w_14 hB hz1 hk1 hS => ?_)
        obtain ⟨v_16, fa_17⟩ := u
        obtain ⟨hP1, hK1, hD1⟩ := hB
        rw [ht] at hP1
        have hP : va_P (dC, dI) vwCl (mW g0 pq cp v_16 fa_17) H := hP1
        have hD : va_D A (mW g0 pq cp v_16 fa_17) := hD1.weaken (fun _ _ _ h => hFc _ h)
        clear hP1 hK1 hD1 hk1 hz1 hvm ht hFc
        obtain ⟨rfl, ev_18, ef_19⟩ := w_14
        dsimp only at ev_18 ef_19
        have ea_v_16 : v_16 47 = nI k := by rw [ev_18]; exact ea
        have es_v_16 : v_16 50 = nI n := by rw [ev_18]; exact es
        have hb_v_16 : v_16 49 < 0 ∨ ∃ j : Nat, j ≤ 1740 ∧ v_16 49 = nI j := by rw [ev_18]; exact hb0
        have we_v_16 : v_16 51 = 0 := by rw [ev_18]; rfl
        have sm_v_16 : ∀ i, i ≠ 47 → i ≠ 48 → i ≠ 51 → v_16 i = v i := by intro i h1 h2 h3; rw [ev_18]; exact (if_neg h3).trans ((fun i _ _ _ => rfl) i h1 h2 h3)
        refine lv_goto (tgt := 278) hx hb dX11_unit_274 (by decide) ?_
        exact W.iret (v := 0) hx hb hr (fun t ht hW => ⟨⟨0, (v_16, fa_17), rfl, ⟨⟨k, by omega, hk, ea_v_16, (Or.inl we_v_16), sm_v_16⟩, ef_19⟩, ⟨by rw [ht]; exact hP, va_K.moved hW.alike hK, hD⟩⟩, hS.F ht⟩) hS.2.2 dX11_unit_278
      · refine lv_aload_n hx hb dX11_unit_228 rfl (lv_at hl 3 rfl) ?_
        have hFc : ∀ q, va_A [] H.size q → A q := pu_free hS hA
        refine va_calli (va_runV (As := []) (rest := []) ⟨hx, hb, hml, hown, hts⟩ (c_X11_sign l dC dI H.size g0 pq cp v fa k n hk hn ea es hb0) (cwV 0 hts gX11_unit_X11_sign rfl rfl rfl (by decide +kernel) ⟨(Nat.le_of_ble_eq_true rfl), (Nat.le_of_ble_eq_true rfl)⟩) (pr_V (r := (RX11, TX11, 63)) hP hK hD 0 11 rfl rfl) rfl rfl hl.1 rfl (lv_room (Nat.le_of_ble_eq_true rfl)) dX11_unit_229 ⟨(Nat.le_of_ble_eq_true rfl), (Nat.le_of_ble_eq_true rfl)⟩) hS (fun q _ h => hFc q h) hFc (fun r_21 u t H locs ht hvm w_20 hB hz1 hk1 hS => ?_)
        have hP := pu_keep hP hk1
        clear hk1 hz1 hvm hB ht hFc
        refine lv_bipush (v := 57) hx hb dX11_unit_232 (by decide) ?_
        refine lv_icmp_gt (tgt := 266) hx hb dX11_unit_234 (by decide) (fun c_22 => ?_) (fun c_22 => ?_)
        · refine lv_iload_n hx hb dX11_unit_266 rfl (lv_at hl 0 rfl) ?_
          refine lv_if_ne (tgt := 277) hx hb dX11_unit_267 (by decide) (fun c_23 => absurd c_23 (by decide)) (fun _ => ?_)
          refine lv_aload_n hx hb dX11_unit_270 rfl (lv_at hl 3 rfl) ?_
          have hFc := va_free (wc := (mW g0 pq cp v fa)) hD hS hA (List.range 48) rfl
          refine va_calli (va_runV (As := []) (rest := []) ⟨hx, hb, hml, hown, hts⟩ (c_X11_breaks l dC dI H.size g0 pq cp v fa) (cwV 0 hts gX11_unit_X11_breaks rfl rfl rfl (by decide +kernel) ⟨(Nat.le_of_ble_eq_true rfl), (Nat.le_of_ble_eq_true rfl)⟩) (pr_V (r := (RX11, TX11, 63)) hP hK hD 0 11 rfl rfl) rfl rfl hl.1 rfl (lv_room (Nat.le_of_ble_eq_true rfl)) dX11_unit_271 ⟨(Nat.le_of_ble_eq_true rfl), (Nat.le_of_ble_eq_true rfl)⟩) hS (fun q _ h => hFc q h) hFc (fun r_25 u t H locs ht hvm w_24 hB hz1 hk1 hS => ?_)
          obtain ⟨v_26, fa_27⟩ := u
          obtain ⟨hP1, hK1, hD1⟩ := hB
          rw [ht] at hP1
          have hP : va_P (dC, dI) vwCl (mW g0 pq cp v_26 fa_27) H := hP1
          have hD : va_D A (mW g0 pq cp v_26 fa_27) := hD1.weaken (fun _ _ _ h => hFc _ h)
          clear hP1 hK1 hD1 hk1 hz1 hvm ht hFc
          obtain ⟨rfl, ev_28, ef_29⟩ := w_24
          dsimp only at ev_28 ef_29
          have ea_v_26 : v_26 47 = nI k := by rw [ev_28]; exact ea
          have es_v_26 : v_26 50 = nI n := by rw [ev_28]; exact es
          have hb_v_26 : v_26 49 < 0 ∨ ∃ j : Nat, j ≤ 1740 ∧ v_26 49 = nI j := by rw [ev_28]; exact hb0
          have we_v_26 : v_26 51 = 0 := by rw [ev_28]; rfl
          have sm_v_26 : ∀ i, i ≠ 47 → i ≠ 48 → i ≠ 51 → v_26 i = v i := by intro i h1 h2 h3; rw [ev_28]; exact (if_neg h3).trans ((fun i _ _ _ => rfl) i h1 h2 h3)
          refine lv_goto (tgt := 278) hx hb dX11_unit_274 (by decide) ?_
          exact W.iret (v := 0) hx hb hr (fun t ht hW => ⟨⟨0, (v_26, fa_27), rfl, ⟨⟨k, by omega, hk, ea_v_26, (Or.inl we_v_26), sm_v_26⟩, ef_29⟩, ⟨by rw [ht]; exact hP, va_K.moved hW.alike hK, hD⟩⟩, hS.F ht⟩) hS.2.2 dX11_unit_278
        · refine lv_bipush (v := 10) hx hb dX11_unit_237 (by decide) ?_
          refine lv_iload_n hx hb dX11_unit_239 rfl (lv_at hl 1 rfl) ?_
          refine lv_imul hx hb dX11_unit_240 ?_
          refine lv_topi (fun y ey => ?_)
          obtain rfl : y = 0 := ey.trans (by decide)
          refine lv_aload_n hx hb dX11_unit_241 rfl (lv_at hl 3 rfl) ?_
          have hFc : ∀ q, va_A [] H.size q → A q := pu_free hS hA
          refine va_calli (va_runV (As := []) (rest := [.int 0]) ⟨hx, hb, hml, hown, hts⟩ (c_X11_sign l dC dI H.size g0 pq cp v fa k n hk hn ea es hb0) (cwV 0 hts gX11_unit_X11_sign rfl rfl rfl (by decide +kernel) ⟨(Nat.le_of_ble_eq_true rfl), (Nat.le_of_ble_eq_true rfl)⟩) (pr_V (r := (RX11, TX11, 63)) hP hK hD 0 11 rfl rfl) rfl rfl hl.1 rfl (lv_room (Nat.le_of_ble_eq_true rfl)) dX11_unit_242 ⟨(Nat.le_of_ble_eq_true rfl), (Nat.le_of_ble_eq_true rfl)⟩) hS (fun q _ h => hFc q h) hFc (fun r_31 u t H locs ht hvm w_30 hB hz1 hk1 hS => ?_)
          have hP := pu_keep hP hk1
          clear hk1 hz1 hvm hB ht hFc
          refine lv_iadd hx hb dX11_unit_245 ?_
          refine lv_bipush (v := 48) hx hb dX11_unit_246 (by decide) ?_
          refine lv_isub hx hb dX11_unit_248 ?_
          refine lv_istore_n (lv' := [(2, .int ((0 + r_31) - 48)), (3, .int 0), (1, .int r_3), (0, .ref g0)]) hx hb dX11_unit_249 rfl hl (by decide) rfl (fun ls hl => ?_)
          refine lv_aload_n hx hb dX11_unit_250 rfl (lv_at hl 3 rfl) ?_
          refine lv_dup hx hb dX11_unit_251 rfl ?_
          refine va_get (D := (dC, dI)) (ci := 11) (v := .int (v 47)) (C := RX11) (T := TX11) (N := 63) hx hb hts in_wsX11_unit_X11 hown hK hP 0 rfl rfl 47 (by decide) (hts (.fieldLink RX11 210 "ShipOfficeModel" "at" "I") iw_X11_unit_2) (fun _ h9 => h9) rfl dX11_unit_252 ?_
          refine lv_iconst (v := 1) hx hb dX11_unit_255 (by decide) ?_
          refine lv_iadd hx hb dX11_unit_256 ?_
          refine lv_topi (fun y ey => ?_)
          obtain rfl : y = nI (k + 1) := ey.trans (by rw [ea]; exact nI_1 _)
          refine va_put (D := (dC, dI)) (ci := 11) (v := .int (nI (k + 1))) (ty := .int) (C := RX11) (T := TX11) (N := 63) hx hb hts in_wsX11_unit_X11 tyX11 tyX11_ok nmX11 hown hK hP hD hS 0 rfl rfl 47 (by decide) (hts (.fieldLink RX11 210 "ShipOfficeModel" "at" "I") iw_X11_unit_2) (fun _ h9 => h9) rfl (by decide +kernel) rfl rfl (Nat.le_of_ble_eq_true rfl) dX11_unit_257 (fun H locs hP hD hS => ?_)
          have hP : va_P (dC, dI) vwCl (mW g0 pq cp (upd v 47 (nI (k + 1))) fa) H := hP
          have hD : va_D A (mW g0 pq cp (upd v 47 (nI (k + 1))) fa) := hD
          obtain ⟨z_32, ez_32⟩ : ∃ zq, zq = (upd v 47 (nI (k + 1))) := ⟨_, rfl⟩
          rw [← ez_32] at hP hD
          have ea_z_32 : z_32 47 = nI (k + 1) := by rw [ez_32]; rfl
          have es_z_32 : z_32 50 = nI n := by rw [ez_32]; exact es
          have hb_z_32 : z_32 49 < 0 ∨ ∃ j : Nat, j ≤ 1740 ∧ z_32 49 = nI j := by rw [ez_32]; exact hb0
          have we_z_32 : z_32 51 = 1 := by rw [ez_32]; exact hwe
          have de_z_32 : z_32 48 = nI 4 := by rw [ez_32]; exact hde
          have sm_z_32 : ∀ i, i ≠ 47 → i ≠ 48 → i ≠ 51 → z_32 i = v i := by intro i h1 h2 h3; rw [ez_32]; exact (if_neg h1).trans ((fun i _ _ _ => rfl) i h1 h2 h3)
          have hkn_z_32 : (k + 1) ≤ n := (w_10.resolve_left (fun h => c_12 (by rw [h]; decide)))
          have hk0_z_32 : k ≤ (k + 1) := by omega
          refine lv_iinc (v := 1) (lv' := [(3, .int 1), (2, .int ((0 + r_31) - 48)), (1, .int r_3), (0, .ref g0)]) hx hb dX11_unit_260 hl (k := 1) rfl (by decide) (by decide) rfl (fun ls hl => ?_)
          refine lv_goto (tgt := 214) hx hb dX11_unit_263 (by decide) ?_
          refine lv_iload_n hx hb dX11_unit_214 rfl (lv_at hl 0 rfl) ?_
          refine lv_iconst (v := 5) hx hb dX11_unit_215 (by decide) ?_
          refine lv_icmp_ge (tgt := 266) hx hb dX11_unit_216 (by decide) (fun c_33 => absurd c_33 (by decide)) (fun _ => ?_)
          refine lv_aload_n hx hb dX11_unit_219 rfl (lv_at hl 3 rfl) ?_
          have hFc : ∀ q, va_A [] H.size q → A q := pu_free hS hA
          refine va_calli (va_runV (As := []) (rest := []) ⟨hx, hb, hml, hown, hts⟩ (c_X11_sign l dC dI H.size g0 pq cp z_32 fa (k + 1) n hkn_z_32 hn ea_z_32 es_z_32 hb_z_32) (cwV 0 hts gX11_unit_X11_sign rfl rfl rfl (by decide +kernel) ⟨(Nat.le_of_ble_eq_true rfl), (Nat.le_of_ble_eq_true rfl)⟩) (pr_V (r := (RX11, TX11, 63)) hP hK hD 0 11 rfl rfl) rfl rfl hl.1 rfl (lv_room (Nat.le_of_ble_eq_true rfl)) dX11_unit_220 ⟨(Nat.le_of_ble_eq_true rfl), (Nat.le_of_ble_eq_true rfl)⟩) hS (fun q _ h => hFc q h) hFc (fun r_35 u t H locs ht hvm w_34 hB hz1 hk1 hS => ?_)
          have hP := pu_keep hP hk1
          clear hk1 hz1 hvm hB ht hFc
          refine lv_bipush (v := 48) hx hb dX11_unit_223 (by decide) ?_
          refine lv_icmp_lt (tgt := 266) hx hb dX11_unit_225 (by decide) (fun c_36 => ?_) (fun c_36 => ?_)
          · refine lv_iload_n hx hb dX11_unit_266 rfl (lv_at hl 0 rfl) ?_
            refine lv_if_ne (tgt := 277) hx hb dX11_unit_267 (by decide) (fun _ => ?_) (fun c_37 => absurd c_37 (by decide))
            refine lv_iload_n hx hb dX11_unit_277 rfl (lv_at hl 1 rfl) ?_
            exact W.iret (v := ((0 + r_31) - 48)) hx hb hr (fun t ht hW => ⟨⟨((0 + r_31) - 48), (z_32, fa), rfl, ⟨⟨(k + 1), by omega, hkn_z_32, ea_z_32, (Or.inr ⟨we_z_32, de_z_32⟩), sm_z_32⟩, rfl⟩, ⟨by rw [ht]; exact hP, va_K.moved hW.alike hK, hD⟩⟩, hS.F ht⟩) hS.2.2 dX11_unit_278
          · refine lv_aload_n hx hb dX11_unit_228 rfl (lv_at hl 3 rfl) ?_
            have hFc : ∀ q, va_A [] H.size q → A q := pu_free hS hA
            refine va_calli (va_runV (As := []) (rest := []) ⟨hx, hb, hml, hown, hts⟩ (c_X11_sign l dC dI H.size g0 pq cp z_32 fa (k + 1) n hkn_z_32 hn ea_z_32 es_z_32 hb_z_32) (cwV 0 hts gX11_unit_X11_sign rfl rfl rfl (by decide +kernel) ⟨(Nat.le_of_ble_eq_true rfl), (Nat.le_of_ble_eq_true rfl)⟩) (pr_V (r := (RX11, TX11, 63)) hP hK hD 0 11 rfl rfl) rfl rfl hl.1 rfl (lv_room (Nat.le_of_ble_eq_true rfl)) dX11_unit_229 ⟨(Nat.le_of_ble_eq_true rfl), (Nat.le_of_ble_eq_true rfl)⟩) hS (fun q _ h => hFc q h) hFc (fun r_39 u t H locs ht hvm w_38 hB hz1 hk1 hS => ?_)
            have hP := pu_keep hP hk1
            clear hk1 hz1 hvm hB ht hFc
            refine lv_bipush (v := 57) hx hb dX11_unit_232 (by decide) ?_
            refine lv_icmp_gt (tgt := 266) hx hb dX11_unit_234 (by decide) (fun c_40 => ?_) (fun c_40 => ?_)
            · refine lv_iload_n hx hb dX11_unit_266 rfl (lv_at hl 0 rfl) ?_
              refine lv_if_ne (tgt := 277) hx hb dX11_unit_267 (by decide) (fun _ => ?_) (fun c_41 => absurd c_41 (by decide))
              refine lv_iload_n hx hb dX11_unit_277 rfl (lv_at hl 1 rfl) ?_
              exact W.iret (v := ((0 + r_31) - 48)) hx hb hr (fun t ht hW => ⟨⟨((0 + r_31) - 48), (z_32, fa), rfl, ⟨⟨(k + 1), by omega, hkn_z_32, ea_z_32, (Or.inr ⟨we_z_32, de_z_32⟩), sm_z_32⟩, rfl⟩, ⟨by rw [ht]; exact hP, va_K.moved hW.alike hK, hD⟩⟩, hS.F ht⟩) hS.2.2 dX11_unit_278
            · refine lv_bipush (v := 10) hx hb dX11_unit_237 (by decide) ?_
              refine lv_iload_n hx hb dX11_unit_239 rfl (lv_at hl 1 rfl) ?_
              refine lv_imul hx hb dX11_unit_240 ?_
              refine lv_aload_n hx hb dX11_unit_241 rfl (lv_at hl 3 rfl) ?_
              have hFc : ∀ q, va_A [] H.size q → A q := pu_free hS hA
              refine va_calli (va_runV (As := []) (rest := [.int (10 * ((0 + r_31) - 48))]) ⟨hx, hb, hml, hown, hts⟩ (c_X11_sign l dC dI H.size g0 pq cp z_32 fa (k + 1) n hkn_z_32 hn ea_z_32 es_z_32 hb_z_32) (cwV 0 hts gX11_unit_X11_sign rfl rfl rfl (by decide +kernel) ⟨(Nat.le_of_ble_eq_true rfl), (Nat.le_of_ble_eq_true rfl)⟩) (pr_V (r := (RX11, TX11, 63)) hP hK hD 0 11 rfl rfl) rfl rfl hl.1 rfl (lv_room (Nat.le_of_ble_eq_true rfl)) dX11_unit_242 ⟨(Nat.le_of_ble_eq_true rfl), (Nat.le_of_ble_eq_true rfl)⟩) hS (fun q _ h => hFc q h) hFc (fun r_43 u t H locs ht hvm w_42 hB hz1 hk1 hS => ?_)
              have hP := pu_keep hP hk1
              clear hk1 hz1 hvm hB ht hFc
              refine lv_iadd hx hb dX11_unit_245 ?_
              refine lv_bipush (v := 48) hx hb dX11_unit_246 (by decide) ?_
              refine lv_isub hx hb dX11_unit_248 ?_
              refine lv_istore_n (lv' := [(2, .int (((10 * ((0 + r_31) - 48)) + r_43) - 48)), (3, .int 1), (1, .int r_3), (0, .ref g0)]) hx hb dX11_unit_249 rfl hl (by decide) rfl (fun ls hl => ?_)
              refine lv_aload_n hx hb dX11_unit_250 rfl (lv_at hl 3 rfl) ?_
              refine lv_dup hx hb dX11_unit_251 rfl ?_
              refine va_get (D := (dC, dI)) (ci := 11) (v := .int (z_32 47)) (C := RX11) (T := TX11) (N := 63) hx hb hts in_wsX11_unit_X11 hown hK hP 0 rfl rfl 47 (by decide) (hts (.fieldLink RX11 210 "ShipOfficeModel" "at" "I") iw_X11_unit_2) (fun _ h9 => h9) rfl dX11_unit_252 ?_
              refine lv_iconst (v := 1) hx hb dX11_unit_255 (by decide) ?_
              refine lv_iadd hx hb dX11_unit_256 ?_
              refine lv_topi (fun y ey => ?_)
              obtain rfl : y = nI ((k + 1) + 1) := ey.trans (by rw [ea_z_32]; exact nI_1 _)
              refine va_put (D := (dC, dI)) (ci := 11) (v := .int (nI ((k + 1) + 1))) (ty := .int) (C := RX11) (T := TX11) (N := 63) hx hb hts in_wsX11_unit_X11 tyX11 tyX11_ok nmX11 hown hK hP hD hS 0 rfl rfl 47 (by decide) (hts (.fieldLink RX11 210 "ShipOfficeModel" "at" "I") iw_X11_unit_2) (fun _ h9 => h9) rfl (by decide +kernel) rfl rfl (Nat.le_of_ble_eq_true rfl) dX11_unit_257 (fun H locs hP hD hS => ?_)
              have hP : va_P (dC, dI) vwCl (mW g0 pq cp (upd z_32 47 (nI ((k + 1) + 1))) fa) H := hP
              have hD : va_D A (mW g0 pq cp (upd z_32 47 (nI ((k + 1) + 1))) fa) := hD
              obtain ⟨z_44, ez_44⟩ : ∃ zq, zq = (upd z_32 47 (nI ((k + 1) + 1))) := ⟨_, rfl⟩
              rw [← ez_44] at hP hD
              have ea_z_44 : z_44 47 = nI ((k + 1) + 1) := by rw [ez_44]; rfl
              have es_z_44 : z_44 50 = nI n := by rw [ez_44]; exact es_z_32
              have hb_z_44 : z_44 49 < 0 ∨ ∃ j : Nat, j ≤ 1740 ∧ z_44 49 = nI j := by rw [ez_44]; exact hb_z_32
              have we_z_44 : z_44 51 = 1 := by rw [ez_44]; exact we_z_32
              have de_z_44 : z_44 48 = nI 4 := by rw [ez_44]; exact de_z_32
              have sm_z_44 : ∀ i, i ≠ 47 → i ≠ 48 → i ≠ 51 → z_44 i = v i := by intro i h1 h2 h3; rw [ez_44]; exact (if_neg h1).trans (sm_z_32 i h1 h2 h3)
              have hkn_z_44 : ((k + 1) + 1) ≤ n := (w_34.resolve_left (fun h => c_36 (by rw [h]; decide)))
              have hk0_z_44 : k ≤ ((k + 1) + 1) := by omega
              refine lv_iinc (v := 2) (lv' := [(3, .int 2), (2, .int (((10 * ((0 + r_31) - 48)) + r_43) - 48)), (1, .int r_3), (0, .ref g0)]) hx hb dX11_unit_260 hl (k := 1) rfl (by decide) (by decide) rfl (fun ls hl => ?_)
              refine lv_goto (tgt := 214) hx hb dX11_unit_263 (by decide) ?_
              refine lv_iload_n hx hb dX11_unit_214 rfl (lv_at hl 0 rfl) ?_
              refine lv_iconst (v := 5) hx hb dX11_unit_215 (by decide) ?_
              refine lv_icmp_ge (tgt := 266) hx hb dX11_unit_216 (by decide) (fun c_45 => absurd c_45 (by decide)) (fun _ => ?_)
              refine lv_aload_n hx hb dX11_unit_219 rfl (lv_at hl 3 rfl) ?_
              have hFc : ∀ q, va_A [] H.size q → A q := pu_free hS hA
              refine va_calli (va_runV (As := []) (rest := []) ⟨hx, hb, hml, hown, hts⟩ (c_X11_sign l dC dI H.size g0 pq cp z_44 fa ((k + 1) + 1) n hkn_z_44 hn ea_z_44 es_z_44 hb_z_44) (cwV 0 hts gX11_unit_X11_sign rfl rfl rfl (by decide +kernel) ⟨(Nat.le_of_ble_eq_true rfl), (Nat.le_of_ble_eq_true rfl)⟩) (pr_V (r := (RX11, TX11, 63)) hP hK hD 0 11 rfl rfl) rfl rfl hl.1 rfl (lv_room (Nat.le_of_ble_eq_true rfl)) dX11_unit_220 ⟨(Nat.le_of_ble_eq_true rfl), (Nat.le_of_ble_eq_true rfl)⟩) hS (fun q _ h => hFc q h) hFc (fun r_47 u t H locs ht hvm w_46 hB hz1 hk1 hS => ?_)
              have hP := pu_keep hP hk1
              clear hk1 hz1 hvm hB ht hFc
              refine lv_bipush (v := 48) hx hb dX11_unit_223 (by decide) ?_
              refine lv_icmp_lt (tgt := 266) hx hb dX11_unit_225 (by decide) (fun c_48 => ?_) (fun c_48 => ?_)
              · refine lv_iload_n hx hb dX11_unit_266 rfl (lv_at hl 0 rfl) ?_
                refine lv_if_ne (tgt := 277) hx hb dX11_unit_267 (by decide) (fun _ => ?_) (fun c_49 => absurd c_49 (by decide))
                refine lv_iload_n hx hb dX11_unit_277 rfl (lv_at hl 1 rfl) ?_
                exact W.iret (v := (((10 * ((0 + r_31) - 48)) + r_43) - 48)) hx hb hr (fun t ht hW => ⟨⟨(((10 * ((0 + r_31) - 48)) + r_43) - 48), (z_44, fa), rfl, ⟨⟨((k + 1) + 1), by omega, hkn_z_44, ea_z_44, (Or.inr ⟨we_z_44, de_z_44⟩), sm_z_44⟩, rfl⟩, ⟨by rw [ht]; exact hP, va_K.moved hW.alike hK, hD⟩⟩, hS.F ht⟩) hS.2.2 dX11_unit_278
              · refine lv_aload_n hx hb dX11_unit_228 rfl (lv_at hl 3 rfl) ?_
                have hFc : ∀ q, va_A [] H.size q → A q := pu_free hS hA
                refine va_calli (va_runV (As := []) (rest := []) ⟨hx, hb, hml, hown, hts⟩ (c_X11_sign l dC dI H.size g0 pq cp z_44 fa ((k + 1) + 1) n hkn_z_44 hn ea_z_44 es_z_44 hb_z_44) (cwV 0 hts gX11_unit_X11_sign rfl rfl rfl (by decide +kernel) ⟨(Nat.le_of_ble_eq_true rfl), (Nat.le_of_ble_eq_true rfl)⟩) (pr_V (r := (RX11, TX11, 63)) hP hK hD 0 11 rfl rfl) rfl rfl hl.1 rfl (lv_room (Nat.le_of_ble_eq_true rfl)) dX11_unit_229 ⟨(Nat.le_of_ble_eq_true rfl), (Nat.le_of_ble_eq_true rfl)⟩) hS (fun q _ h => hFc q h) hFc (fun r_51 u t H locs ht hvm w_50 hB hz1 hk1 hS => ?_)
                have hP := pu_keep hP hk1
                clear hk1 hz1 hvm hB ht hFc
                refine lv_bipush (v := 57) hx hb dX11_unit_232 (by decide) ?_
                refine lv_icmp_gt (tgt := 266) hx hb dX11_unit_234 (by decide) (fun c_52 => ?_) (fun c_52 => ?_)
                · refine lv_iload_n hx hb dX11_unit_266 rfl (lv_at hl 0 rfl) ?_
                  refine lv_if_ne (tgt := 277) hx hb dX11_unit_267 (by decide) (fun _ => ?_) (fun c_53 => absurd c_53 (by decide))
                  refine lv_iload_n hx hb dX11_unit_277 rfl (lv_at hl 1 rfl) ?_
                  exact W.iret (v := (((10 * ((0 + r_31) - 48)) + r_43) - 48)) hx hb hr (fun t ht hW => ⟨⟨(((10 * ((0 + r_31) - 48)) + r_43) - 48), (z_44, fa), rfl, ⟨⟨((k + 1) + 1), by omega, hkn_z_44, ea_z_44, (Or.inr ⟨we_z_44, de_z_44⟩), sm_z_44⟩, rfl⟩, ⟨by rw [ht]; exact hP, va_K.moved hW.alike hK, hD⟩⟩, hS.F ht⟩) hS.2.2 dX11_unit_278
                · refine lv_bipush (v := 10) hx hb dX11_unit_237 (by decide) ?_
                  refine lv_iload_n hx hb dX11_unit_239 rfl (lv_at hl 1 rfl) ?_
                  refine lv_imul hx hb dX11_unit_240 ?_
                  refine lv_aload_n hx hb dX11_unit_241 rfl (lv_at hl 3 rfl) ?_
                  have hFc : ∀ q, va_A [] H.size q → A q := pu_free hS hA
                  refine va_calli (va_runV (As := []) (rest := [.int (10 * (((10 * ((0 + r_31) - 48)) + r_43) - 48))]) ⟨hx, hb, hml, hown, hts⟩ (c_X11_sign l dC dI H.size g0 pq cp z_44 fa ((k + 1) + 1) n hkn_z_44 hn ea_z_44 es_z_44 hb_z_44) (cwV 0 hts gX11_unit_X11_sign rfl rfl rfl (by decide +kernel) ⟨(Nat.le_of_ble_eq_true rfl), (Nat.le_of_ble_eq_true rfl)⟩) (pr_V (r := (RX11, TX11, 63)) hP hK hD 0 11 rfl rfl) rfl rfl hl.1 rfl (lv_room (Nat.le_of_ble_eq_true rfl)) dX11_unit_242 ⟨(Nat.le_of_ble_eq_true rfl), (Nat.le_of_ble_eq_true rfl)⟩) hS (fun q _ h => hFc q h) hFc (fun r_55 u t H locs ht hvm w_54 hB hz1 hk1 hS => ?_)
                  have hP := pu_keep hP hk1
                  clear hk1 hz1 hvm hB ht hFc
                  refine lv_iadd hx hb dX11_unit_245 ?_
                  refine lv_bipush (v := 48) hx hb dX11_unit_246 (by decide) ?_
                  refine lv_isub hx hb dX11_unit_248 ?_
                  refine lv_istore_n (lv' := [(2, .int (((10 * (((10 * ((0 + r_31) - 48)) + r_43) - 48)) + r_55) - 48)), (3, .int 2), (1, .int r_3), (0, .ref g0)]) hx hb dX11_unit_249 rfl hl (by decide) rfl (fun ls hl => ?_)
                  refine lv_aload_n hx hb dX11_unit_250 rfl (lv_at hl 3 rfl) ?_
                  refine lv_dup hx hb dX11_unit_251 rfl ?_
                  refine va_get (D := (dC, dI)) (ci := 11) (v := .int (z_44 47)) (C := RX11) (T := TX11) (N := 63) hx hb hts in_wsX11_unit_X11 hown hK hP 0 rfl rfl 47 (by decide) (hts (.fieldLink RX11 210 "ShipOfficeModel" "at" "I") iw_X11_unit_2) (fun _ h9 => h9) rfl dX11_unit_252 ?_
                  refine lv_iconst (v := 1) hx hb dX11_unit_255 (by decide) ?_
                  refine lv_iadd hx hb dX11_unit_256 ?_
                  refine lv_topi (fun y ey => ?_)
                  obtain rfl : y = nI (((k + 1) + 1) + 1) := ey.trans (by rw [ea_z_44]; exact nI_1 _)
                  refine va_put (D := (dC, dI)) (ci := 11) (v := .int (nI (((k + 1) + 1) + 1))) (ty := .int) (C := RX11) (T := TX11) (N := 63) hx hb hts in_wsX11_unit_X11 tyX11 tyX11_ok nmX11 hown hK hP hD hS 0 rfl rfl 47 (by decide) (hts (.fieldLink RX11 210 "ShipOfficeModel" "at" "I") iw_X11_unit_2) (fun _ h9 => h9) rfl (by decide +kernel) rfl rfl (Nat.le_of_ble_eq_true rfl) dX11_unit_257 (fun H locs hP hD hS => ?_)
                  have hP : va_P (dC, dI) vwCl (mW g0 pq cp (upd z_44 47 (nI (((k + 1) + 1) + 1))) fa) H := hP
                  have hD : va_D A (mW g0 pq cp (upd z_44 47 (nI (((k + 1) + 1) + 1))) fa) := hD
                  obtain ⟨z_56, ez_56⟩ : ∃ zq, zq = (upd z_44 47 (nI (((k + 1) + 1) + 1))) := ⟨_, rfl⟩
                  rw [← ez_56] at hP hD
                  have ea_z_56 : z_56 47 = nI (((k + 1) + 1) + 1) := by rw [ez_56]; rfl
                  have es_z_56 : z_56 50 = nI n := by rw [ez_56]; exact es_z_44
                  have hb_z_56 : z_56 49 < 0 ∨ ∃ j : Nat, j ≤ 1740 ∧ z_56 49 = nI j := by rw [ez_56]; exact hb_z_44
                  have we_z_56 : z_56 51 = 1 := by rw [ez_56]; exact we_z_44
                  have de_z_56 : z_56 48 = nI 4 := by rw [ez_56]; exact de_z_44
                  have sm_z_56 : ∀ i, i ≠ 47 → i ≠ 48 → i ≠ 51 → z_56 i = v i := by intro i h1 h2 h3; rw [ez_56]; exact (if_neg h1).trans (sm_z_44 i h1 h2 h3)
                  have hkn_z_56 : (((k + 1) + 1) + 1) ≤ n := (w_46.resolve_left (fun h => c_48 (by rw [h]; decide)))
                  have hk0_z_56 : k ≤ (((k + 1) + 1) + 1) := by omega
                  refine lv_iinc (v := 3) (lv' := [(3, .int 3), (2, .int (((10 * (((10 * ((0 + r_31) - 48)) + r_43) - 48)) + r_55) - 48)), (1, .int r_3), (0, .ref g0)]) hx hb dX11_unit_260 hl (k := 1) rfl (by decide) (by decide) rfl (fun ls hl => ?_)
                  refine lv_goto (tgt := 214) hx hb dX11_unit_263 (by decide) ?_
                  refine lv_iload_n hx hb dX11_unit_214 rfl (lv_at hl 0 rfl) ?_
                  refine lv_iconst (v := 5) hx hb dX11_unit_215 (by decide) ?_
                  refine lv_icmp_ge (tgt := 266) hx hb dX11_unit_216 (by decide) (fun c_57 => absurd c_57 (by decide)) (fun _ => ?_)
                  refine lv_aload_n hx hb dX11_unit_219 rfl (lv_at hl 3 rfl) ?_
                  have hFc : ∀ q, va_A [] H.size q → A q := pu_free hS hA
                  refine va_calli (va_runV (As := []) (rest := []) ⟨hx, hb, hml, hown, hts⟩ (c_X11_sign l dC dI H.size g0 pq cp z_56 fa (((k + 1) + 1) + 1) n hkn_z_56 hn ea_z_56 es_z_56 hb_z_56) (cwV 0 hts gX11_unit_X11_sign rfl rfl rfl (by decide +kernel) ⟨(Nat.le_of_ble_eq_true rfl), (Nat.le_of_ble_eq_true rfl)⟩) (pr_V (r := (RX11, TX11, 63)) hP hK hD 0 11 rfl rfl) rfl rfl hl.1 rfl (lv_room (Nat.le_of_ble_eq_true rfl)) dX11_unit_220 ⟨(Nat.le_of_ble_eq_true rfl), (Nat.le_of_ble_eq_true rfl)⟩) hS (fun q _ h => hFc q h) hFc (fun r_59 u t H locs ht hvm w_58 hB hz1 hk1 hS => ?_)
                  have hP := pu_keep hP hk1
                  clear hk1 hz1 hvm hB ht hFc
                  refine lv_bipush (v := 48) hx hb dX11_unit_223 (by decide) ?_
                  refine lv_icmp_lt (tgt := 266) hx hb dX11_unit_225 (by decide) (fun c_60 => ?_) (fun c_60 => ?_)
                  · refine lv_iload_n hx hb dX11_unit_266 rfl (lv_at hl 0 rfl) ?_
                    refine lv_if_ne (tgt := 277) hx hb dX11_unit_267 (by decide) (fun _ => ?_) (fun c_61 => absurd c_61 (by decide))
                    refine lv_iload_n hx hb dX11_unit_277 rfl (lv_at hl 1 rfl) ?_
                    exact W.iret (v := (((10 * (((10 * ((0 + r_31) - 48)) + r_43) - 48)) + r_55) - 48)) hx hb hr (fun t ht hW => ⟨⟨(((10 * (((10 * ((0 + r_31) - 48)) + r_43) - 48)) + r_55) - 48), (z_56, fa), rfl, ⟨⟨(((k + 1) + 1) + 1), by omega, hkn_z_56, ea_z_56, (Or.inr ⟨we_z_56, de_z_56⟩), sm_z_56⟩, rfl⟩, ⟨by rw [ht]; exact hP, va_K.moved hW.alike hK, hD⟩⟩, hS.F ht⟩) hS.2.2 dX11_unit_278
                  · refine lv_aload_n hx hb dX11_unit_228 rfl (lv_at hl 3 rfl) ?_
                    have hFc : ∀ q, va_A [] H.size q → A q := pu_free hS hA
                    refine va_calli (va_runV (As := []) (rest := []) ⟨hx, hb, hml, hown, hts⟩ (c_X11_sign l dC dI H.size g0 pq cp z_56 fa (((k + 1) + 1) + 1) n hkn_z_56 hn ea_z_56 es_z_56 hb_z_56) (cwV 0 hts gX11_unit_X11_sign rfl rfl rfl (by decide +kernel) ⟨(Nat.le_of_ble_eq_true rfl), (Nat.le_of_ble_eq_true rfl)⟩) (pr_V (r := (RX11, TX11, 63)) hP hK hD 0 11 rfl rfl) rfl rfl hl.1 rfl (lv_room (Nat.le_of_ble_eq_true rfl)) dX11_unit_229 ⟨(Nat.le_of_ble_eq_true rfl), (Nat.le_of_ble_eq_true rfl)⟩) hS (fun q _ h => hFc q h) hFc (fun r_63 u t H locs ht hvm w_62 hB hz1 hk1 hS => ?_)
                    have hP := pu_keep hP hk1
                    clear hk1 hz1 hvm hB ht hFc
                    refine lv_bipush (v := 57) hx hb dX11_unit_232 (by decide) ?_
                    refine lv_icmp_gt (tgt := 266) hx hb dX11_unit_234 (by decide) (fun c_64 => ?_) (fun c_64 => ?_)
                    · refine lv_iload_n hx hb dX11_unit_266 rfl (lv_at hl 0 rfl) ?_
                      refine lv_if_ne (tgt := 277) hx hb dX11_unit_267 (by decide) (fun _ => ?_) (fun c_65 => absurd c_65 (by decide))
                      refine lv_iload_n hx hb dX11_unit_277 rfl (lv_at hl 1 rfl) ?_
                      exact W.iret (v := (((10 * (((10 * ((0 + r_31) - 48)) + r_43) - 48)) + r_55) - 48)) hx hb hr (fun t ht hW => ⟨⟨(((10 * (((10 * ((0 + r_31) - 48)) + r_43) - 48)) + r_55) - 48), (z_56, fa), rfl, ⟨⟨(((k + 1) + 1) + 1), by omega, hkn_z_56, ea_z_56, (Or.inr ⟨we_z_56, de_z_56⟩), sm_z_56⟩, rfl⟩, ⟨by rw [ht]; exact hP, va_K.moved hW.alike hK, hD⟩⟩, hS.F ht⟩) hS.2.2 dX11_unit_278
                    · refine lv_bipush (v := 10) hx hb dX11_unit_237 (by decide) ?_
                      refine lv_iload_n hx hb dX11_unit_239 rfl (lv_at hl 1 rfl) ?_
                      refine lv_imul hx hb dX11_unit_240 ?_
                      refine lv_aload_n hx hb dX11_unit_241 rfl (lv_at hl 3 rfl) ?_
                      have hFc : ∀ q, va_A [] H.size q → A q := pu_free hS hA
                      refine va_calli (va_runV (As := []) (rest := [.int (10 * (((10 * (((10 * ((0 + r_31) - 48)) + r_43) - 48)) + r_55) - 48))]) ⟨hx, hb, hml, hown, hts⟩ (c_X11_sign l dC dI H.size g0 pq cp z_56 fa (((k + 1) + 1) + 1) n hkn_z_56 hn ea_z_56 es_z_56 hb_z_56) (cwV 0 hts gX11_unit_X11_sign rfl rfl rfl (by decide +kernel) ⟨(Nat.le_of_ble_eq_true rfl), (Nat.le_of_ble_eq_true rfl)⟩) (pr_V (r := (RX11, TX11, 63)) hP hK hD 0 11 rfl rfl) rfl rfl hl.1 rfl (lv_room (Nat.le_of_ble_eq_true rfl)) dX11_unit_242 ⟨(Nat.le_of_ble_eq_true rfl), (Nat.le_of_ble_eq_true rfl)⟩) hS (fun q _ h => hFc q h) hFc (fun r_67 u t H locs ht hvm w_66 hB hz1 hk1 hS => ?_)
                      have hP := pu_keep hP hk1
                      clear hk1 hz1 hvm hB ht hFc
                      refine lv_iadd hx hb dX11_unit_245 ?_
                      refine lv_bipush (v := 48) hx hb dX11_unit_246 (by decide) ?_
                      refine lv_isub hx hb dX11_unit_248 ?_
                      refine lv_istore_n (lv' := [(2, .int (((10 * (((10 * (((10 * ((0 + r_31) - 48)) + r_43) - 48)) + r_55) - 48)) + r_67) - 48)), (3, .int 3), (1, .int r_3), (0, .ref g0)]) hx hb dX11_unit_249 rfl hl (by decide) rfl (fun ls hl => ?_)
                      refine lv_aload_n hx hb dX11_unit_250 rfl (lv_at hl 3 rfl) ?_
                      refine lv_dup hx hb dX11_unit_251 rfl ?_
                      refine va_get (D := (dC, dI)) (ci := 11) (v := .int (z_56 47)) (C := RX11) (T := TX11) (N := 63) hx hb hts in_wsX11_unit_X11 hown hK hP 0 rfl rfl 47 (by decide) (hts (.fieldLink RX11 210 "ShipOfficeModel" "at" "I") iw_X11_unit_2) (fun _ h9 => h9) rfl dX11_unit_252 ?_
                      refine lv_iconst (v := 1) hx hb dX11_unit_255 (by decide) ?_
                      refine lv_iadd hx hb dX11_unit_256 ?_
                      refine lv_topi (fun y ey => ?_)
                      obtain rfl : y = nI ((((k + 1) + 1) + 1) + 1) := ey.trans (by rw [ea_z_56]; exact nI_1 _)
                      refine va_put (D := (dC, dI)) (ci := 11) (v := .int (nI ((((k + 1) + 1) + 1) + 1))) (ty := .int) (C := RX11) (T := TX11) (N := 63) hx hb hts in_wsX11_unit_X11 tyX11 tyX11_ok nmX11 hown hK hP hD hS 0 rfl rfl 47 (by decide) (hts (.fieldLink RX11 210 "ShipOfficeModel" "at" "I") iw_X11_unit_2) (fun _ h9 => h9) rfl (by decide +kernel) rfl rfl (Nat.le_of_ble_eq_true rfl) dX11_unit_257 (fun H locs hP hD hS => ?_)
                      have hP : va_P (dC, dI) vwCl (mW g0 pq cp (upd z_56 47 (nI ((((k + 1) + 1) + 1) + 1))) fa) H := hP
                      have hD : va_D A (mW g0 pq cp (upd z_56 47 (nI ((((k + 1) + 1) + 1) + 1))) fa) := hD
                      obtain ⟨z_68, ez_68⟩ : ∃ zq, zq = (upd z_56 47 (nI ((((k + 1) + 1) + 1) + 1))) := ⟨_, rfl⟩
                      rw [← ez_68] at hP hD
                      have ea_z_68 : z_68 47 = nI ((((k + 1) + 1) + 1) + 1) := by rw [ez_68]; rfl
                      have es_z_68 : z_68 50 = nI n := by rw [ez_68]; exact es_z_56
                      have hb_z_68 : z_68 49 < 0 ∨ ∃ j : Nat, j ≤ 1740 ∧ z_68 49 = nI j := by rw [ez_68]; exact hb_z_56
                      have we_z_68 : z_68 51 = 1 := by rw [ez_68]; exact we_z_56
                      have de_z_68 : z_68 48 = nI 4 := by rw [ez_68]; exact de_z_56
                      have sm_z_68 : ∀ i, i ≠ 47 → i ≠ 48 → i ≠ 51 → z_68 i = v i := by intro i h1 h2 h3; rw [ez_68]; exact (if_neg h1).trans (sm_z_56 i h1 h2 h3)
                      have hkn_z_68 : ((((k + 1) + 1) + 1) + 1) ≤ n := (w_58.resolve_left (fun h => c_60 (by rw [h]; decide)))
                      have hk0_z_68 : k ≤ ((((k + 1) + 1) + 1) + 1) := by omega
                      refine lv_iinc (v := 4) (lv' := [(3, .int 4), (2, .int (((10 * (((10 * (((10 * ((0 + r_31) - 48)) + r_43) - 48)) + r_55) - 48)) + r_67) - 48)), (1, .int r_3), (0, .ref g0)]) hx hb dX11_unit_260 hl (k := 1) rfl (by decide) (by decide) rfl (fun ls hl => ?_)
                      refine lv_goto (tgt := 214) hx hb dX11_unit_263 (by decide) ?_
                      refine lv_iload_n hx hb dX11_unit_214 rfl (lv_at hl 0 rfl) ?_
                      refine lv_iconst (v := 5) hx hb dX11_unit_215 (by decide) ?_
                      refine lv_icmp_ge (tgt := 266) hx hb dX11_unit_216 (by decide) (fun c_69 => absurd c_69 (by decide)) (fun _ => ?_)
                      refine lv_aload_n hx hb dX11_unit_219 rfl (lv_at hl 3 rfl) ?_
                      have hFc : ∀ q, va_A [] H.size q → A q := pu_free hS hA
                      refine va_calli (va_runV (As := []) (rest := []) ⟨hx, hb, hml, hown, hts⟩ (c_X11_sign l dC dI H.size g0 pq cp z_68 fa ((((k + 1) + 1) + 1) + 1) n hkn_z_68 hn ea_z_68 es_z_68 hb_z_68) (cwV 0 hts gX11_unit_X11_sign rfl rfl rfl (by decide +kernel) ⟨(Nat.le_of_ble_eq_true rfl), (Nat.le_of_ble_eq_true rfl)⟩) (pr_V (r := (RX11, TX11, 63)) hP hK hD 0 11 rfl rfl) rfl rfl hl.1 rfl (lv_room (Nat.le_of_ble_eq_true rfl)) dX11_unit_220 ⟨(Nat.le_of_ble_eq_true rfl), (Nat.le_of_ble_eq_true rfl)⟩) hS (fun q _ h => hFc q h) hFc (fun r_71 u t H locs ht hvm w_70 hB hz1 hk1 hS => ?_)
                      have hP := pu_keep hP hk1
                      clear hk1 hz1 hvm hB ht hFc
                      refine lv_bipush (v := 48) hx hb dX11_unit_223 (by decide) ?_
                      refine lv_icmp_lt (tgt := 266) hx hb dX11_unit_225 (by decide) (fun c_72 => ?_) (fun c_72 => ?_)
                      · refine lv_iload_n hx hb dX11_unit_266 rfl (lv_at hl 0 rfl) ?_
                        refine lv_if_ne (tgt := 277) hx hb dX11_unit_267 (by decide) (fun _ => ?_) (fun c_73 => absurd c_73 (by decide))
                        refine lv_iload_n hx hb dX11_unit_277 rfl (lv_at hl 1 rfl) ?_
                        exact W.iret (v := (((10 * (((10 * (((10 * ((0 + r_31) - 48)) + r_43) - 48)) + r_55) - 48)) + r_67) - 48)) hx hb hr (fun t ht hW => ⟨⟨(((10 * (((10 * (((10 * ((0 + r_31) - 48)) + r_43) - 48)) + r_55) - 48)) + r_67) - 48), (z_68, fa), rfl, ⟨⟨((((k + 1) + 1) + 1) + 1), by omega, hkn_z_68, ea_z_68, (Or.inr ⟨we_z_68, de_z_68⟩), sm_z_68⟩, rfl⟩, ⟨by rw [ht]; exact hP, va_K.moved hW.alike hK, hD⟩⟩, hS.F ht⟩) hS.2.2 dX11_unit_278
                      · refine lv_aload_n hx hb dX11_unit_228 rfl (lv_at hl 3 rfl) ?_
                        have hFc : ∀ q, va_A [] H.size q → A q := pu_free hS hA
                        refine va_calli (va_runV (As := []) (rest := []) ⟨hx, hb, hml, hown, hts⟩ (c_X11_sign l dC dI H.size g0 pq cp z_68 fa ((((k + 1) + 1) + 1) + 1) n hkn_z_68 hn ea_z_68 es_z_68 hb_z_68) (cwV 0 hts gX11_unit_X11_sign rfl rfl rfl (by decide +kernel) ⟨(Nat.le_of_ble_eq_true rfl), (Nat.le_of_ble_eq_true rfl)⟩) (pr_V (r := (RX11, TX11, 63)) hP hK hD 0 11 rfl rfl) rfl rfl hl.1 rfl (lv_room (Nat.le_of_ble_eq_true rfl)) dX11_unit_229 ⟨(Nat.le_of_ble_eq_true rfl), (Nat.le_of_ble_eq_true rfl)⟩) hS (fun q _ h => hFc q h) hFc (fun r_75 u t H locs ht hvm w_74 hB hz1 hk1 hS => ?_)
                        have hP := pu_keep hP hk1
                        clear hk1 hz1 hvm hB ht hFc
                        refine lv_bipush (v := 57) hx hb dX11_unit_232 (by decide) ?_
                        refine lv_icmp_gt (tgt := 266) hx hb dX11_unit_234 (by decide) (fun c_76 => ?_) (fun c_76 => ?_)
                        · refine lv_iload_n hx hb dX11_unit_266 rfl (lv_at hl 0 rfl) ?_
                          refine lv_if_ne (tgt := 277) hx hb dX11_unit_267 (by decide) (fun _ => ?_) (fun c_77 => absurd c_77 (by decide))
                          refine lv_iload_n hx hb dX11_unit_277 rfl (lv_at hl 1 rfl) ?_
                          exact W.iret (v := (((10 * (((10 * (((10 * ((0 + r_31) - 48)) + r_43) - 48)) + r_55) - 48)) + r_67) - 48)) hx hb hr (fun t ht hW => ⟨⟨(((10 * (((10 * (((10 * ((0 + r_31) - 48)) + r_43) - 48)) + r_55) - 48)) + r_67) - 48), (z_68, fa), rfl, ⟨⟨((((k + 1) + 1) + 1) + 1), by omega, hkn_z_68, ea_z_68, (Or.inr ⟨we_z_68, de_z_68⟩), sm_z_68⟩, rfl⟩, ⟨by rw [ht]; exact hP, va_K.moved hW.alike hK, hD⟩⟩, hS.F ht⟩) hS.2.2 dX11_unit_278
                        · refine lv_bipush (v := 10) hx hb dX11_unit_237 (by decide) ?_
                          refine lv_iload_n hx hb dX11_unit_239 rfl (lv_at hl 1 rfl) ?_
                          refine lv_imul hx hb dX11_unit_240 ?_
                          refine lv_aload_n hx hb dX11_unit_241 rfl (lv_at hl 3 rfl) ?_
                          have hFc : ∀ q, va_A [] H.size q → A q := pu_free hS hA
                          refine va_calli (va_runV (As := []) (rest := [.int (10 * (((10 * (((10 * (((10 * ((0 + r_31) - 48)) + r_43) - 48)) + r_55) - 48)) + r_67) - 48))]) ⟨hx, hb, hml, hown, hts⟩ (c_X11_sign l dC dI H.size g0 pq cp z_68 fa ((((k + 1) + 1) + 1) + 1) n hkn_z_68 hn ea_z_68 es_z_68 hb_z_68) (cwV 0 hts gX11_unit_X11_sign rfl rfl rfl (by decide +kernel) ⟨(Nat.le_of_ble_eq_true rfl), (Nat.le_of_ble_eq_true rfl)⟩) (pr_V (r := (RX11, TX11, 63)) hP hK hD 0 11 rfl rfl) rfl rfl hl.1 rfl (lv_room (Nat.le_of_ble_eq_true rfl)) dX11_unit_242 ⟨(Nat.le_of_ble_eq_true rfl), (Nat.le_of_ble_eq_true rfl)⟩) hS (fun q _ h => hFc q h) hFc (fun r_79 u t H locs ht hvm w_78 hB hz1 hk1 hS => ?_)
                          have hP := pu_keep hP hk1
                          clear hk1 hz1 hvm hB ht hFc
                          refine lv_iadd hx hb dX11_unit_245 ?_
                          refine lv_bipush (v := 48) hx hb dX11_unit_246 (by decide) ?_
                          refine lv_isub hx hb dX11_unit_248 ?_
                          refine lv_istore_n (lv' := [(2, .int (((10 * (((10 * (((10 * (((10 * ((0 + r_31) - 48)) + r_43) - 48)) + r_55) - 48)) + r_67) - 48)) + r_79) - 48)), (3, .int 4), (1, .int r_3), (0, .ref g0)]) hx hb dX11_unit_249 rfl hl (by decide) rfl (fun ls hl => ?_)
                          refine lv_aload_n hx hb dX11_unit_250 rfl (lv_at hl 3 rfl) ?_
                          refine lv_dup hx hb dX11_unit_251 rfl ?_
                          refine va_get (D := (dC, dI)) (ci := 11) (v := .int (z_68 47)) (C := RX11) (T := TX11) (N := 63) hx hb hts in_wsX11_unit_X11 hown hK hP 0 rfl rfl 47 (by decide) (hts (.fieldLink RX11 210 "ShipOfficeModel" "at" "I") iw_X11_unit_2) (fun _ h9 => h9) rfl dX11_unit_252 ?_
                          refine lv_iconst (v := 1) hx hb dX11_unit_255 (by decide) ?_
                          refine lv_iadd hx hb dX11_unit_256 ?_
                          refine lv_topi (fun y ey => ?_)
                          obtain rfl : y = nI (((((k + 1) + 1) + 1) + 1) + 1) := ey.trans (by rw [ea_z_68]; exact nI_1 _)
                          refine va_put (D := (dC, dI)) (ci := 11) (v := .int (nI (((((k + 1) + 1) + 1) + 1) + 1))) (ty := .int) (C := RX11) (T := TX11) (N := 63) hx hb hts in_wsX11_unit_X11 tyX11 tyX11_ok nmX11 hown hK hP hD hS 0 rfl rfl 47 (by decide) (hts (.fieldLink RX11 210 "ShipOfficeModel" "at" "I") iw_X11_unit_2) (fun _ h9 => h9) rfl (by decide +kernel) rfl rfl (Nat.le_of_ble_eq_true rfl) dX11_unit_257 (fun H locs hP hD hS => ?_)
                          have hP : va_P (dC, dI) vwCl (mW g0 pq cp (upd z_68 47 (nI (((((k + 1) + 1) + 1) + 1) + 1))) fa) H := hP
                          have hD : va_D A (mW g0 pq cp (upd z_68 47 (nI (((((k + 1) + 1) + 1) + 1) + 1))) fa) := hD
                          obtain ⟨z_80, ez_80⟩ : ∃ zq, zq = (upd z_68 47 (nI (((((k + 1) + 1) + 1) + 1) + 1))) := ⟨_, rfl⟩
                          rw [← ez_80] at hP hD
                          have ea_z_80 : z_80 47 = nI (((((k + 1) + 1) + 1) + 1) + 1) := by rw [ez_80]; rfl
                          have es_z_80 : z_80 50 = nI n := by rw [ez_80]; exact es_z_68
                          have hb_z_80 : z_80 49 < 0 ∨ ∃ j : Nat, j ≤ 1740 ∧ z_80 49 = nI j := by rw [ez_80]; exact hb_z_68
                          have we_z_80 : z_80 51 = 1 := by rw [ez_80]; exact we_z_68
                          have de_z_80 : z_80 48 = nI 4 := by rw [ez_80]; exact de_z_68
                          have sm_z_80 : ∀ i, i ≠ 47 → i ≠ 48 → i ≠ 51 → z_80 i = v i := by intro i h1 h2 h3; rw [ez_80]; exact (if_neg h1).trans (sm_z_68 i h1 h2 h3)
                          have hkn_z_80 : (((((k + 1) + 1) + 1) + 1) + 1) ≤ n := (w_70.resolve_left (fun h => c_72 (by rw [h]; decide)))
                          have hk0_z_80 : k ≤ (((((k + 1) + 1) + 1) + 1) + 1) := by omega
                          refine lv_iinc (v := 5) (lv' := [(3, .int 5), (2, .int (((10 * (((10 * (((10 * (((10 * ((0 + r_31) - 48)) + r_43) - 48)) + r_55) - 48)) + r_67) - 48)) + r_79) - 48)), (1, .int r_3), (0, .ref g0)]) hx hb dX11_unit_260 hl (k := 1) rfl (by decide) (by decide) rfl (fun ls hl => ?_)
                          refine lv_goto (tgt := 214) hx hb dX11_unit_263 (by decide) ?_
                          refine lv_iload_n hx hb dX11_unit_214 rfl (lv_at hl 0 rfl) ?_
                          refine lv_iconst (v := 5) hx hb dX11_unit_215 (by decide) ?_
                          refine lv_icmp_ge (tgt := 266) hx hb dX11_unit_216 (by decide) (fun _ => ?_) (fun c_81 => absurd c_81 (by decide))
                          refine lv_iload_n hx hb dX11_unit_266 rfl (lv_at hl 0 rfl) ?_
                          refine lv_if_ne (tgt := 277) hx hb dX11_unit_267 (by decide) (fun _ => ?_) (fun c_82 => absurd c_82 (by decide))
                          refine lv_iload_n hx hb dX11_unit_277 rfl (lv_at hl 1 rfl) ?_
                          exact W.iret (v := (((10 * (((10 * (((10 * (((10 * ((0 + r_31) - 48)) + r_43) - 48)) + r_55) - 48)) + r_67) - 48)) + r_79) - 48)) hx hb hr (fun t ht hW => ⟨⟨(((10 * (((10 * (((10 * (((10 * ((0 + r_31) - 48)) + r_43) - 48)) + r_55) - 48)) + r_67) - 48)) + r_79) - 48), (z_80, fa), rfl, ⟨⟨(((((k + 1) + 1) + 1) + 1) + 1), by omega, hkn_z_80, ea_z_80, (Or.inr ⟨we_z_80, de_z_80⟩), sm_z_80⟩, rfl⟩, ⟨by rw [ht]; exact hP, va_K.moved hW.alike hK, hD⟩⟩, hS.F ht⟩) hS.2.2 dX11_unit_278
    · refine lv_aload_n hx hb dX11_unit_48 rfl (lv_at hl 1 rfl) ?_
      refine va_get (D := (dC, dI)) (ci := 11) (v := .int (v 48)) (C := RX11) (T := TX11) (N := 63) hx hb hts in_wsX11_unit_X11 hown hK hP 0 rfl rfl 48 (by decide) (hts (.fieldLink RX11 244 "ShipOfficeModel" "deep" "I") iw_X11_unit_3) (fun _ h9 => h9) rfl dX11_unit_49 ?_
      refine lv_topi (fun y ey => ?_)
      obtain rfl : y = 4 := ey.trans (hde.trans (by decide))
      refine lv_iconst (v := 5) hx hb dX11_unit_52 (by decide) ?_
      refine lv_icmp_ne (tgt := 61) hx hb dX11_unit_53 (by decide) (fun _ => ?_) (fun c_83 => absurd c_83 (by decide))
      refine lv_aload_n hx hb dX11_unit_61 rfl (lv_at hl 1 rfl) ?_
      refine lv_dup hx hb dX11_unit_62 rfl ?_
      refine va_get (D := (dC, dI)) (ci := 11) (v := .int (v 47)) (C := RX11) (T := TX11) (N := 63) hx hb hts in_wsX11_unit_X11 hown hK hP 0 rfl rfl 47 (by decide) (hts (.fieldLink RX11 210 "ShipOfficeModel" "at" "I") iw_X11_unit_2) (fun _ h9 => h9) rfl dX11_unit_63 ?_
      refine lv_iconst (v := 1) hx hb dX11_unit_66 (by decide) ?_
      refine lv_iadd hx hb dX11_unit_67 ?_
      refine lv_topi (fun y ey => ?_)
      obtain rfl : y = nI (k + 1) := ey.trans (by rw [ea]; exact nI_1 _)
      refine va_put (D := (dC, dI)) (ci := 11) (v := .int (nI (k + 1))) (ty := .int) (C := RX11) (T := TX11) (N := 63) hx hb hts in_wsX11_unit_X11 tyX11 tyX11_ok nmX11 hown hK hP hD hS 0 rfl rfl 47 (by decide) (hts (.fieldLink RX11 210 "ShipOfficeModel" "at" "I") iw_X11_unit_2) (fun _ h9 => h9) rfl (by decide +kernel) rfl rfl (Nat.le_of_ble_eq_true rfl) dX11_unit_68 (fun H locs hP hD hS => ?_)
      have hP : va_P (dC, dI) vwCl (mW g0 pq cp (upd v 47 (nI (k + 1))) fa) H := hP
      have hD : va_D A (mW g0 pq cp (upd v 47 (nI (k + 1))) fa) := hD
      obtain ⟨z_84, ez_84⟩ : ∃ zq, zq = (upd v 47 (nI (k + 1))) := ⟨_, rfl⟩
      rw [← ez_84] at hP hD
      have ea_z_84 : z_84 47 = nI (k + 1) := by rw [ez_84]; rfl
      have es_z_84 : z_84 50 = nI n := by rw [ez_84]; exact es
      have hb_z_84 : z_84 49 < 0 ∨ ∃ j : Nat, j ≤ 1740 ∧ z_84 49 = nI j := by rw [ez_84]; exact hb0
      have we_z_84 : z_84 51 = 1 := by rw [ez_84]; exact hwe
      have de_z_84 : z_84 48 = nI 4 := by rw [ez_84]; exact hde
      have sm_z_84 : ∀ i, i ≠ 47 → i ≠ 48 → i ≠ 51 → z_84 i = v i := by intro i h1 h2 h3; rw [ez_84]; exact (if_neg h1).trans ((fun i _ _ _ => rfl) i h1 h2 h3)
      have hkn_z_84 : (k + 1) ≤ n := (w_2.resolve_left (fun h => absurd (c_8.symm.trans h) (by decide)))
      have hk0_z_84 : k ≤ (k + 1) := by omega
      refine lv_aload_n hx hb dX11_unit_71 rfl (lv_at hl 1 rfl) ?_
      refine lv_dup hx hb dX11_unit_72 rfl ?_
      refine va_get (D := (dC, dI)) (ci := 11) (v := .int (z_84 48)) (C := RX11) (T := TX11) (N := 63) hx hb hts in_wsX11_unit_X11 hown hK hP 0 rfl rfl 48 (by decide) (hts (.fieldLink RX11 244 "ShipOfficeModel" "deep" "I") iw_X11_unit_3) (fun _ h9 => h9) rfl dX11_unit_73 ?_
      refine lv_topi (fun y ey => ?_)
      obtain rfl : y = 4 := ey.trans (de_z_84.trans (by decide))
      refine lv_iconst (v := 1) hx hb dX11_unit_76 (by decide) ?_
      refine lv_iadd hx hb dX11_unit_77 ?_
      refine lv_topi (fun y ey => ?_)
      obtain rfl : y = 5 := ey.trans (by decide)
      refine va_put (D := (dC, dI)) (ci := 11) (v := .int 5) (ty := .int) (C := RX11) (T := TX11) (N := 63) hx hb hts in_wsX11_unit_X11 tyX11 tyX11_ok nmX11 hown hK hP hD hS 0 rfl rfl 48 (by decide) (hts (.fieldLink RX11 244 "ShipOfficeModel" "deep" "I") iw_X11_unit_3) (fun _ h9 => h9) rfl (by decide +kernel) rfl rfl (Nat.le_of_ble_eq_true rfl) dX11_unit_78 (fun H locs hP hD hS => ?_)
      have hP : va_P (dC, dI) vwCl (mW g0 pq cp (upd z_84 48 5) fa) H := hP
      have hD : va_D A (mW g0 pq cp (upd z_84 48 5) fa) := hD
      obtain ⟨z_85, ez_85⟩ : ∃ zq, zq = (upd z_84 48 5) := ⟨_, rfl⟩
      rw [← ez_85] at hP hD
      have ea_z_85 : z_85 47 = nI (k + 1) := by rw [ez_85]; exact ea_z_84
      have es_z_85 : z_85 50 = nI n := by rw [ez_85]; exact es_z_84
      have hb_z_85 : z_85 49 < 0 ∨ ∃ j : Nat, j ≤ 1740 ∧ z_85 49 = nI j := by rw [ez_85]; exact hb_z_84
      have we_z_85 : z_85 51 = 1 := by rw [ez_85]; exact we_z_84
      have de_z_85 : z_85 48 = nI 5 := by rw [ez_85]; rfl
      have sm_z_85 : ∀ i, i ≠ 47 → i ≠ 48 → i ≠ 51 → z_85 i = v i := by intro i h1 h2 h3; rw [ez_85]; exact (if_neg h2).trans (sm_z_84 i h1 h2 h3)
      refine lv_aload_n hx hb dX11_unit_81 rfl (lv_at hl 1 rfl) ?_
      have hFc := va_free (wc := (mW g0 pq cp z_85 fa)) hD hS hA (List.range 48) rfl
      refine va_calli (va_runV (As := []) (rest := []) ⟨hx, hb, hml, hown, hts⟩ (c_X11_sum_5 l dC dI H.size g0 pq cp z_85 fa (k + 1) n hkn_z_84 hn ea_z_85 es_z_85 hb_z_85 we_z_85 de_z_85) (cwV 0 hts gX11_unit_X11_sum rfl rfl rfl (by decide +kernel) ⟨(Nat.le_of_ble_eq_true rfl), (Nat.le_of_ble_eq_true rfl)⟩) (pr_V (r := (RX11, TX11, 63)) hP hK hD 0 11 rfl rfl) rfl rfl hl.1 rfl (lv_room (Nat.le_of_ble_eq_true rfl)) dX11_unit_82 ⟨(Nat.le_of_ble_eq_true rfl), (Nat.le_of_ble_eq_true rfl)⟩) hS (fun q _ h => hFc q h) hFc (fun r_87 u t H locs ht hvm w_86 hB hz1 hk1 hS => ?_)
      obtain ⟨v_88, fa_89⟩ := u
      obtain ⟨hP1, hK1, hD1⟩ := hB
      rw [ht] at hP1
      have hP : va_P (dC, dI) vwCl (mW g0 pq cp v_88 fa_89) H := hP1
      have hD : va_D A (mW g0 pq cp v_88 fa_89) := hD1.weaken (fun _ _ _ h => hFc _ h)
      clear hP1 hK1 hD1 hk1 hz1 hvm ht hFc
      obtain ⟨⟨k_90, ha_91, hb_92, ea_93, wd_94, sm_95⟩, ef_96⟩ := w_86
      dsimp only at ea_93 wd_94 sm_95 ef_96
      have es_v_88 : v_88 50 = nI n := (sm_95 50 (by decide) (by decide) (by decide)).trans es_z_85
      have hb_v_88 : v_88 49 < 0 ∨ ∃ j : Nat, j ≤ 1740 ∧ v_88 49 = nI j := by rw [sm_95 49 (by decide) (by decide) (by decide)]; exact hb_z_85
      have sm_v_88 : ∀ i, i ≠ 47 → i ≠ 48 → i ≠ 51 → v_88 i = v i := fun i h1 h2 h3 => (sm_95 i h1 h2 h3).trans (sm_z_85 i h1 h2 h3)
      refine lv_istore_n (lv' := [(2, .int r_87), (1, .int r_3), (0, .ref g0)]) hx hb dX11_unit_85 rfl hl (by decide) rfl (fun ls hl => ?_)
      refine lv_aload_n hx hb dX11_unit_86 rfl (lv_at hl 2 rfl) ?_
      have hFc : ∀ q, va_A [] H.size q → A q := pu_free hS hA
      refine va_calli (va_runV (As := []) (rest := []) ⟨hx, hb, hml, hown, hts⟩ (c_X11_sign l dC dI H.size g0 pq cp v_88 fa_89 k_90 n hb_92 hn ea_93 es_v_88 hb_v_88) (cwV 0 hts gX11_unit_X11_sign rfl rfl rfl (by decide +kernel) ⟨(Nat.le_of_ble_eq_true rfl), (Nat.le_of_ble_eq_true rfl)⟩) (pr_V (r := (RX11, TX11, 63)) hP hK hD 0 11 rfl rfl) rfl rfl hl.1 rfl (lv_room (Nat.le_of_ble_eq_true rfl)) dX11_unit_87 ⟨(Nat.le_of_ble_eq_true rfl), (Nat.le_of_ble_eq_true rfl)⟩) hS (fun q _ h => hFc q h) hFc (fun r_98 u t H locs ht hvm w_97 hB hz1 hk1 hS => ?_)
      have hP := pu_keep hP hk1
      clear hk1 hz1 hvm hB ht hFc
      refine lv_istore_n (lv' := [(3, .int r_98), (2, .int r_87), (1, .int r_3), (0, .ref g0)]) hx hb dX11_unit_90 rfl hl (by decide) rfl (fun ls hl => ?_)
      refine lv_aload_n hx hb dX11_unit_91 rfl (lv_at hl 3 rfl) ?_
      rcases wd_94 with we_99 | ⟨we_100, de_101⟩
      · refine va_get (D := (dC, dI)) (ci := 11) (v := .int (v_88 51)) (C := RX11) (T := TX11) (N := 63) hx hb hts in_wsX11_unit_X11 hown hK hP 0 rfl rfl 51 (by decide) (hts (.fieldLink RX11 223 "ShipOfficeModel" "isWell" "Z") iw_X11_unit_1) (fun _ h9 => h9) rfl dX11_unit_92 ?_
        refine lv_topi (fun y ey => ?_)
        obtain rfl : y = 0 := ey.trans (we_99.trans (by decide))
        refine lv_if_eq (tgt := 184) hx hb dX11_unit_95 (by decide) (fun _ => ?_) (fun c_102 => absurd c_102 (by decide))
        refine lv_aload_n hx hb dX11_unit_184 rfl (lv_at hl 3 rfl) ?_
        refine lv_bipush (v := 41) hx hb dX11_unit_185 (by decide) ?_
        have hFc := va_free (wc := (mW g0 pq cp v_88 fa_89)) hD hS hA (List.range 48) rfl
        refine va_calli (va_runV (As := [.int 41]) (rest := []) ⟨hx, hb, hml, hown, hts⟩ (c_X11_takes_b l dC dI H.size g0 pq cp v_88 fa_89 k_90 n hb_92 hn ea_93 es_v_88 hb_v_88 41 (by decide)) (cwV 1 hts gX11_unit_X11_takes rfl rfl rfl (by decide +kernel) ⟨(Nat.le_of_ble_eq_true rfl), (Nat.le_of_ble_eq_true rfl)⟩) (pr_V (r := (RX11, TX11, 63)) hP hK hD 0 11 rfl rfl) rfl rfl hl.1 rfl (lv_room (Nat.le_of_ble_eq_true rfl)) dX11_unit_187 ⟨(Nat.le_of_ble_eq_true rfl), (Nat.le_of_ble_eq_true rfl)⟩) hS (fun q _ h => hFc q h) hFc (fun r_104 u t H locs ht hvm w_103 hB hz1 hk1 hS => ?_)
        obtain ⟨v_105, fa_106⟩ := u
        obtain ⟨hP1, hK1, hD1⟩ := hB
        rw [ht] at hP1
        have hP : va_P (dC, dI) vwCl (mW g0 pq cp v_105 fa_106) H := hP1
        have hD : va_D A (mW g0 pq cp v_105 fa_106) := hD1.weaken (fun _ _ _ h => hFc _ h)
        clear hP1 hK1 hD1 hk1 hz1 hvm ht hFc
        obtain ⟨ef_107, w_103⟩ := w_103
        dsimp only at ef_107 w_103
        rcases w_103 with ⟨rfl, ev_108⟩ | ⟨rfl, hwe_109, hlt_110, ev_108⟩
        · have ea_v_105 : v_105 47 = nI k_90 := by rw [ev_108]; exact ea_93
          have es_v_105 : v_105 50 = nI n := by rw [ev_108]; exact es_v_88
          have hb_v_105 : v_105 49 < 0 ∨ ∃ j : Nat, j ≤ 1740 ∧ v_105 49 = nI j := by rw [ev_108]; exact hb_v_88
          have sm_v_105 : ∀ i, i ≠ 47 → i ≠ 48 → i ≠ 51 → v_105 i = v i := by rw [ev_108]; exact sm_v_88
          refine lv_if_ne (tgt := 198) hx hb dX11_unit_190 (by decide) (fun c_111 => absurd c_111 (by decide)) (fun _ => ?_)
          refine lv_aload_n hx hb dX11_unit_193 rfl (lv_at hl 3 rfl) ?_
          have hFc := va_free (wc := (mW g0 pq cp v_105 fa_106)) hD hS hA (List.range 48) rfl
          refine va_calli (va_runV (As := []) (rest := []) ⟨hx, hb, hml, hown, hts⟩ (c_X11_breaks l dC dI H.size g0 pq cp v_105 fa_106) (cwV 0 hts gX11_unit_X11_breaks rfl rfl rfl (by decide +kernel) ⟨(Nat.le_of_ble_eq_true rfl), (Nat.le_of_ble_eq_true rfl)⟩) (pr_V (r := (RX11, TX11, 63)) hP hK hD 0 11 rfl rfl) rfl rfl hl.1 rfl (lv_room (Nat.le_of_ble_eq_true rfl)) dX11_unit_194 ⟨(Nat.le_of_ble_eq_true rfl), (Nat.le_of_ble_eq_true rfl)⟩) hS (fun q _ h => hFc q h) hFc (fun r_113 u t H locs ht hvm w_112 hB hz1 hk1 hS => ?_)
          obtain ⟨v_114, fa_115⟩ := u
          obtain ⟨hP1, hK1, hD1⟩ := hB
          rw [ht] at hP1
          have hP : va_P (dC, dI) vwCl (mW g0 pq cp v_114 fa_115) H := hP1
          have hD : va_D A (mW g0 pq cp v_114 fa_115) := hD1.weaken (fun _ _ _ h => hFc _ h)
          clear hP1 hK1 hD1 hk1 hz1 hvm ht hFc
          obtain ⟨rfl, ev_116, ef_117⟩ := w_112
          dsimp only at ev_116 ef_117
          have ea_v_114 : v_114 47 = nI k_90 := by rw [ev_116]; exact ea_v_105
          have es_v_114 : v_114 50 = nI n := by rw [ev_116]; exact es_v_105
          have hb_v_114 : v_114 49 < 0 ∨ ∃ j : Nat, j ≤ 1740 ∧ v_114 49 = nI j := by rw [ev_116]; exact hb_v_105
          have we_v_114 : v_114 51 = 0 := by rw [ev_116]; rfl
          have sm_v_114 : ∀ i, i ≠ 47 → i ≠ 48 → i ≠ 51 → v_114 i = v i := by intro i h1 h2 h3; rw [ev_116]; exact (if_neg h3).trans (sm_v_105 i h1 h2 h3)
          exact W.iret (v := 0) hx hb hr (fun t ht hW => ⟨⟨0, (v_114, fa_115), rfl, ⟨⟨k_90, by omega, hb_92, ea_v_114, (Or.inl we_v_114), sm_v_114⟩, (ef_117.trans (ef_107.trans ef_96))⟩, ⟨by rw [ht]; exact hP, va_K.moved hW.alike hK, hD⟩⟩, hS.F ht⟩) hS.2.2 dX11_unit_197
        · have ea_v_105 : v_105 47 = nI (k_90 + 1) := by rw [ev_108]; show v_88 47 + 1 = _; rw [ea_93]; exact nI_1 _
          have es_v_105 : v_105 50 = nI n := by rw [ev_108]; exact es_v_88
          have hb_v_105 : v_105 49 < 0 ∨ ∃ j : Nat, j ≤ 1740 ∧ v_105 49 = nI j := by rw [ev_108]; exact hb_v_88
          have sm_v_105 : ∀ i, i ≠ 47 → i ≠ 48 → i ≠ 51 → v_105 i = v i := by intro i h1 h2 h3; rw [ev_108]; exact (if_neg h1).trans (sm_v_88 i h1 h2 h3)
          exact absurd we_99 hwe_109
      · refine va_get (D := (dC, dI)) (ci := 11) (v := .int (v_88 51)) (C := RX11) (T := TX11) (N := 63) hx hb hts in_wsX11_unit_X11 hown hK hP 0 rfl rfl 51 (by decide) (hts (.fieldLink RX11 223 "ShipOfficeModel" "isWell" "Z") iw_X11_unit_1) (fun _ h9 => h9) rfl dX11_unit_92 ?_
        refine lv_topi (fun y ey => ?_)
        obtain rfl : y = 1 := ey.trans (we_100.trans (by decide))
        refine lv_if_eq (tgt := 184) hx hb dX11_unit_95 (by decide) (fun c_118 => absurd c_118 (by decide)) (fun _ => ?_)
        refine lv_iload_n hx hb dX11_unit_98 rfl (lv_at hl 0 rfl) ?_
        refine lv_bipush (v := 60) hx hb dX11_unit_99 (by decide) ?_
        refine lv_icmp_eq (tgt := 116) hx hb dX11_unit_101 (by decide) (fun c_119 => ?_) (fun c_119 => ?_)
        · refine lv_aload_n hx hb dX11_unit_116 rfl (lv_at hl 3 rfl) ?_
          refine lv_dup hx hb dX11_unit_117 rfl ?_
          refine va_get (D := (dC, dI)) (ci := 11) (v := .int (v_88 47)) (C := RX11) (T := TX11) (N := 63) hx hb hts in_wsX11_unit_X11 hown hK hP 0 rfl rfl 47 (by decide) (hts (.fieldLink RX11 210 "ShipOfficeModel" "at" "I") iw_X11_unit_2) (fun _ h9 => h9) rfl dX11_unit_118 ?_
          refine lv_iconst (v := 1) hx hb dX11_unit_121 (by decide) ?_
          refine lv_iadd hx hb dX11_unit_122 ?_
          refine lv_topi (fun y ey => ?_)
          obtain rfl : y = nI (k_90 + 1) := ey.trans (by rw [ea_93]; exact nI_1 _)
          refine va_put (D := (dC, dI)) (ci := 11) (v := .int (nI (k_90 + 1))) (ty := .int) (C := RX11) (T := TX11) (N := 63) hx hb hts in_wsX11_unit_X11 tyX11 tyX11_ok nmX11 hown hK hP hD hS 0 rfl rfl 47 (by decide) (hts (.fieldLink RX11 210 "ShipOfficeModel" "at" "I") iw_X11_unit_2) (fun _ h9 => h9) rfl (by decide +kernel) rfl rfl (Nat.le_of_ble_eq_true rfl) dX11_unit_123 (fun H locs hP hD hS => ?_)
          have hP : va_P (dC, dI) vwCl (mW g0 pq cp (upd v_88 47 (nI (k_90 + 1))) fa_89) H := hP
          have hD : va_D A (mW g0 pq cp (upd v_88 47 (nI (k_90 + 1))) fa_89) := hD
          obtain ⟨z_120, ez_120⟩ : ∃ zq, zq = (upd v_88 47 (nI (k_90 + 1))) := ⟨_, rfl⟩
          rw [← ez_120] at hP hD
          have ea_z_120 : z_120 47 = nI (k_90 + 1) := by rw [ez_120]; rfl
          have es_z_120 : z_120 50 = nI n := by rw [ez_120]; exact es_v_88
          have hb_z_120 : z_120 49 < 0 ∨ ∃ j : Nat, j ≤ 1740 ∧ z_120 49 = nI j := by rw [ez_120]; exact hb_v_88
          have we_z_120 : z_120 51 = 1 := by rw [ez_120]; exact we_100
          have de_z_120 : z_120 48 = nI 5 := by rw [ez_120]; exact de_101
          have sm_z_120 : ∀ i, i ≠ 47 → i ≠ 48 → i ≠ 51 → z_120 i = v i := by intro i h1 h2 h3; rw [ez_120]; exact (if_neg h1).trans (sm_v_88 i h1 h2 h3)
          have hkn_z_120 : (k_90 + 1) ≤ n := (w_97.resolve_left (fun h => absurd (c_119.symm.trans h) (by decide)))
          have hk0_z_120 : k ≤ (k_90 + 1) := by omega
          refine lv_aload_n hx hb dX11_unit_126 rfl (lv_at hl 3 rfl) ?_
          have hFc := va_free (wc := (mW g0 pq cp z_120 fa_89)) hD hS hA (List.range 48) rfl
          refine va_calli (va_runV (As := []) (rest := []) ⟨hx, hb, hml, hown, hts⟩ (c_X11_sum_5 l dC dI H.size g0 pq cp z_120 fa_89 (k_90 + 1) n hkn_z_120 hn ea_z_120 es_z_120 hb_z_120 we_z_120 de_z_120) (cwV 0 hts gX11_unit_X11_sum rfl rfl rfl (by decide +kernel) ⟨(Nat.le_of_ble_eq_true rfl), (Nat.le_of_ble_eq_true rfl)⟩) (pr_V (r := (RX11, TX11, 63)) hP hK hD 0 11 rfl rfl) rfl rfl hl.1 rfl (lv_room (Nat.le_of_ble_eq_true rfl)) dX11_unit_127 ⟨(Nat.le_of_ble_eq_true rfl), (Nat.le_of_ble_eq_true rfl)⟩) hS (fun q _ h => hFc q h) hFc (fun r_122 u t H locs ht hvm w_121 hB hz1 hk1 hS => ?_)
          obtain ⟨v_123, fa_124⟩ := u
          obtain ⟨hP1, hK1, hD1⟩ := hB
          rw [ht] at hP1
          have hP : va_P (dC, dI) vwCl (mW g0 pq cp v_123 fa_124) H := hP1
          have hD : va_D A (mW g0 pq cp v_123 fa_124) := hD1.weaken (fun _ _ _ h => hFc _ h)
          clear hP1 hK1 hD1 hk1 hz1 hvm ht hFc
          obtain ⟨⟨k_125, ha_126, hb_127, ea_128, wd_129, sm_130⟩, ef_131⟩ := w_121
          dsimp only at ea_128 wd_129 sm_130 ef_131
          have es_v_123 : v_123 50 = nI n := (sm_130 50 (by decide) (by decide) (by decide)).trans es_z_120
          have hb_v_123 : v_123 49 < 0 ∨ ∃ j : Nat, j ≤ 1740 ∧ v_123 49 = nI j := by rw [sm_130 49 (by decide) (by decide) (by decide)]; exact hb_z_120
          have sm_v_123 : ∀ i, i ≠ 47 → i ≠ 48 → i ≠ 51 → v_123 i = v i := fun i h1 h2 h3 => (sm_130 i h1 h2 h3).trans (sm_z_120 i h1 h2 h3)
          refine lv_istore (lv' := [(4, .int r_122), (3, .int r_98), (2, .int r_87), (1, .int r_3), (0, .ref g0)]) hx hb dX11_unit_130 hl (by decide) rfl (fun ls hl => ?_)
          refine lv_iload_n hx hb dX11_unit_132 rfl (lv_at hl 1 rfl) ?_
          refine lv_bipush (v := 60) hx hb dX11_unit_133 (by decide) ?_
          refine lv_icmp_ne (tgt := 152) hx hb dX11_unit_135 (by decide) (fun c_132 => ?_) (fun c_132 => ?_)
          · refine lv_iload_n hx hb dX11_unit_152 rfl (lv_at hl 1 rfl) ?_
            refine lv_bipush (v := 61) hx hb dX11_unit_153 (by decide) ?_
            refine lv_icmp_ne (tgt := 172) hx hb dX11_unit_155 (by decide) (fun c_133 => ?_) (fun c_133 => ?_)
            · refine lv_iload_n hx hb dX11_unit_172 rfl (lv_at hl 2 rfl) ?_
              refine lv_iload hx hb dX11_unit_173 (lv_at hl 0 rfl) ?_
              refine lv_icmp_le (tgt := 182) hx hb dX11_unit_175 (by decide) (fun c_134 => ?_) (fun c_134 => ?_)
              · refine lv_iconst (v := 0) hx hb dX11_unit_182 (by decide) ?_
                refine lv_istore_n (lv' := [(2, .int 0), (4, .int r_122), (3, .int r_98), (1, .int r_3), (0, .ref g0)]) hx hb dX11_unit_183 rfl hl (by decide) rfl (fun ls hl => ?_)
                refine lv_aload_n hx hb dX11_unit_184 rfl (lv_at hl 4 rfl) ?_
                refine lv_bipush (v := 41) hx hb dX11_unit_185 (by decide) ?_
                have hFc := va_free (wc := (mW g0 pq cp v_123 fa_124)) hD hS hA (List.range 48) rfl
                refine va_calli (va_runV (As := [.int 41]) (rest := []) ⟨hx, hb, hml, hown, hts⟩ (c_X11_takes_b l dC dI H.size g0 pq cp v_123 fa_124 k_125 n hb_127 hn ea_128 es_v_123 hb_v_123 41 (by decide)) (cwV 1 hts gX11_unit_X11_takes rfl rfl rfl (by decide +kernel) ⟨(Nat.le_of_ble_eq_true rfl), (Nat.le_of_ble_eq_true rfl)⟩) (pr_V (r := (RX11, TX11, 63)) hP hK hD 0 11 rfl rfl) rfl rfl hl.1 rfl (lv_room (Nat.le_of_ble_eq_true rfl)) dX11_unit_187 ⟨(Nat.le_of_ble_eq_true rfl), (Nat.le_of_ble_eq_true rfl)⟩) hS (fun q _ h => hFc q h) hFc (fun r_136 u t H locs ht hvm w_135 hB hz1 hk1 hS => ?_)
                obtain ⟨v_137, fa_138⟩ := u
                obtain ⟨hP1, hK1, hD1⟩ := hB
                rw [ht] at hP1
                have hP : va_P (dC, dI) vwCl (mW g0 pq cp v_137 fa_138) H := hP1
                have hD : va_D A (mW g0 pq cp v_137 fa_138) := hD1.weaken (fun _ _ _ h => hFc _ h)
                clear hP1 hK1 hD1 hk1 hz1 hvm ht hFc
                obtain ⟨ef_139, w_135⟩ := w_135
                dsimp only at ef_139 w_135
                rcases w_135 with ⟨rfl, ev_140⟩ | ⟨rfl, hwe_141, hlt_142, ev_140⟩
                · have ea_v_137 : v_137 47 = nI k_125 := by rw [ev_140]; exact ea_128
                  have es_v_137 : v_137 50 = nI n := by rw [ev_140]; exact es_v_123
                  have hb_v_137 : v_137 49 < 0 ∨ ∃ j : Nat, j ≤ 1740 ∧ v_137 49 = nI j := by rw [ev_140]; exact hb_v_123
                  have sm_v_137 : ∀ i, i ≠ 47 → i ≠ 48 → i ≠ 51 → v_137 i = v i := by rw [ev_140]; exact sm_v_123
                  refine lv_if_ne (tgt := 198) hx hb dX11_unit_190 (by decide) (fun c_143 => absurd c_143 (by decide)) (fun _ => ?_)
                  refine lv_aload_n hx hb dX11_unit_193 rfl (lv_at hl 4 rfl) ?_
                  have hFc := va_free (wc := (mW g0 pq cp v_137 fa_138)) hD hS hA (List.range 48) rfl
                  refine va_calli (va_runV (As := []) (rest := []) ⟨hx, hb, hml, hown, hts⟩ (c_X11_breaks l dC dI H.size g0 pq cp v_137 fa_138) (cwV 0 hts gX11_unit_X11_breaks rfl rfl rfl (by decide +kernel) ⟨(Nat.le_of_ble_eq_true rfl), (Nat.le_of_ble_eq_true rfl)⟩) (pr_V (r := (RX11, TX11, 63)) hP hK hD 0 11 rfl rfl) rfl rfl hl.1 rfl (lv_room (Nat.le_of_ble_eq_true rfl)) dX11_unit_194 ⟨(Nat.le_of_ble_eq_true rfl), (Nat.le_of_ble_eq_true rfl)⟩) hS (fun q _ h => hFc q h) hFc (fun r_145 u t H locs ht hvm w_144 hB hz1 hk1 hS => ?_)
                  obtain ⟨v_146, fa_147⟩ := u
                  obtain ⟨hP1, hK1, hD1⟩ := hB
                  rw [ht] at hP1
                  have hP : va_P (dC, dI) vwCl (mW g0 pq cp v_146 fa_147) H := hP1
                  have hD : va_D A (mW g0 pq cp v_146 fa_147) := hD1.weaken (fun _ _ _ h => hFc _ h)
                  clear hP1 hK1 hD1 hk1 hz1 hvm ht hFc
                  obtain ⟨rfl, ev_148, ef_149⟩ := w_144
                  dsimp only at ev_148 ef_149
                  have ea_v_146 : v_146 47 = nI k_125 := by rw [ev_148]; exact ea_v_137
                  have es_v_146 : v_146 50 = nI n := by rw [ev_148]; exact es_v_137
                  have hb_v_146 : v_146 49 < 0 ∨ ∃ j : Nat, j ≤ 1740 ∧ v_146 49 = nI j := by rw [ev_148]; exact hb_v_137
                  have we_v_146 : v_146 51 = 0 := by rw [ev_148]; rfl
                  have sm_v_146 : ∀ i, i ≠ 47 → i ≠ 48 → i ≠ 51 → v_146 i = v i := by intro i h1 h2 h3; rw [ev_148]; exact (if_neg h3).trans (sm_v_137 i h1 h2 h3)
                  exact W.iret (v := 0) hx hb hr (fun t ht hW => ⟨⟨0, (v_146, fa_147), rfl, ⟨⟨k_125, by omega, hb_127, ea_v_146, (Or.inl we_v_146), sm_v_146⟩, (ef_149.trans (ef_139.trans (ef_131.trans ef_96)))⟩, ⟨by rw [ht]; exact hP, va_K.moved hW.alike hK, hD⟩⟩, hS.F ht⟩) hS.2.2 dX11_unit_197
                · have ea_v_137 : v_137 47 = nI (k_125 + 1) := by rw [ev_140]; show v_123 47 + 1 = _; rw [ea_128]; exact nI_1 _
                  have es_v_137 : v_137 50 = nI n := by rw [ev_140]; exact es_v_123
                  have hb_v_137 : v_137 49 < 0 ∨ ∃ j : Nat, j ≤ 1740 ∧ v_137 49 = nI j := by rw [ev_140]; exact hb_v_123
                  have sm_v_137 : ∀ i, i ≠ 47 → i ≠ 48 → i ≠ 51 → v_137 i = v i := by intro i h1 h2 h3; rw [ev_140]; exact (if_neg h1).trans (sm_v_123 i h1 h2 h3)
                  obtain ⟨we_150, de_151⟩ := Or.resolve_left wd_129 hwe_141
                  have we_v_137 : v_137 51 = 1 := by rw [ev_140]; exact we_150
                  have de_v_137 : v_137 48 = nI 5 := by rw [ev_140]; exact de_151
                  refine lv_if_ne (tgt := 198) hx hb dX11_unit_190 (by decide) (fun _ => ?_) (fun c_152 => absurd c_152 (by decide))
                  refine lv_aload_n hx hb dX11_unit_198 rfl (lv_at hl 4 rfl) ?_
                  refine lv_dup hx hb dX11_unit_199 rfl ?_
                  refine va_get (D := (dC, dI)) (ci := 11) (v := .int (v_137 48)) (C := RX11) (T := TX11) (N := 63) hx hb hts in_wsX11_unit_X11 hown hK hP 0 rfl rfl 48 (by decide) (hts (.fieldLink RX11 244 "ShipOfficeModel" "deep" "I") iw_X11_unit_3) (fun _ h9 => h9) rfl dX11_unit_200 ?_
                  refine lv_topi (fun y ey => ?_)
                  obtain rfl : y = 5 := ey.trans (de_v_137.trans (by decide))
                  refine lv_iconst (v := 1) hx hb dX11_unit_203 (by decide) ?_
                  refine lv_isub hx hb dX11_unit_204 ?_
                  refine lv_topi (fun y ey => ?_)
                  obtain rfl : y = 4 := ey.trans (by decide)
                  refine va_put (D := (dC, dI)) (ci := 11) (v := .int 4) (ty := .int) (C := RX11) (T := TX11) (N := 63) hx hb hts in_wsX11_unit_X11 tyX11 tyX11_ok nmX11 hown hK hP hD hS 0 rfl rfl 48 (by decide) (hts (.fieldLink RX11 244 "ShipOfficeModel" "deep" "I") iw_X11_unit_3) (fun _ h9 => h9) rfl (by decide +kernel) rfl rfl (Nat.le_of_ble_eq_true rfl) dX11_unit_205 (fun H locs hP hD hS => ?_)
                  have hP : va_P (dC, dI) vwCl (mW g0 pq cp (upd v_137 48 4) fa_138) H := hP
                  have hD : va_D A (mW g0 pq cp (upd v_137 48 4) fa_138) := hD
                  obtain ⟨z_153, ez_153⟩ : ∃ zq, zq = (upd v_137 48 4) := ⟨_, rfl⟩
                  rw [← ez_153] at hP hD
                  have ea_z_153 : z_153 47 = nI (k_125 + 1) := by rw [ez_153]; exact ea_v_137
                  have es_z_153 : z_153 50 = nI n := by rw [ez_153]; exact es_v_137
                  have hb_z_153 : z_153 49 < 0 ∨ ∃ j : Nat, j ≤ 1740 ∧ z_153 49 = nI j := by rw [ez_153]; exact hb_v_137
                  have we_z_153 : z_153 51 = 1 := by rw [ez_153]; exact we_v_137
                  have de_z_153 : z_153 48 = nI 4 := by rw [ez_153]; rfl
                  have sm_z_153 : ∀ i, i ≠ 47 → i ≠ 48 → i ≠ 51 → z_153 i = v i := by intro i h1 h2 h3; rw [ez_153]; exact (if_neg h2).trans (sm_v_137 i h1 h2 h3)
                  refine lv_iload_n hx hb dX11_unit_208 rfl (lv_at hl 0 rfl) ?_
                  exact W.iret (v := 0) hx hb hr (fun t ht hW => ⟨⟨0, (z_153, fa_138), rfl, ⟨⟨(k_125 + 1), by omega, hlt_142, ea_z_153, (Or.inr ⟨we_z_153, de_z_153⟩), sm_z_153⟩, (ef_139.trans (ef_131.trans ef_96))⟩, ⟨by rw [ht]; exact hP, va_K.moved hW.alike hK, hD⟩⟩, hS.F ht⟩) hS.2.2 dX11_unit_209
              · refine lv_iconst (v := 1) hx hb dX11_unit_178 (by decide) ?_
                refine lv_goto (tgt := 183) hx hb dX11_unit_179 (by decide) ?_
                refine lv_istore_n (lv' := [(2, .int 1), (4, .int r_122), (3, .int r_98), (1, .int r_3), (0, .ref g0)]) hx hb dX11_unit_183 rfl hl (by decide) rfl (fun ls hl => ?_)
                refine lv_aload_n hx hb dX11_unit_184 rfl (lv_at hl 4 rfl) ?_
                refine lv_bipush (v := 41) hx hb dX11_unit_185 (by decide) ?_
                have hFc := va_free (wc := (mW g0 pq cp v_123 fa_124)) hD hS hA (List.range 48) rfl
                refine va_calli (va_runV (As := [.int 41]) (rest := []) ⟨hx, hb, hml, hown, hts⟩ (c_X11_takes_b l dC dI H.size g0 pq cp v_123 fa_124 k_125 n hb_127 hn ea_128 es_v_123 hb_v_123 41 (by decide)) (cwV 1 hts gX11_unit_X11_takes rfl rfl rfl (by decide +kernel) ⟨(Nat.le_of_ble_eq_true rfl), (Nat.le_of_ble_eq_true rfl)⟩) (pr_V (r := (RX11, TX11, 63)) hP hK hD 0 11 rfl rfl) rfl rfl hl.1 rfl (lv_room (Nat.le_of_ble_eq_true rfl)) dX11_unit_187 ⟨(Nat.le_of_ble_eq_true rfl), (Nat.le_of_ble_eq_true rfl)⟩) hS (fun q _ h => hFc q h) hFc (fun r_155 u t H locs ht hvm w_154 hB hz1 hk1 hS => ?_)
                obtain ⟨v_156, fa_157⟩ := u
                obtain ⟨hP1, hK1, hD1⟩ := hB
                rw [ht] at hP1
                have hP : va_P (dC, dI) vwCl (mW g0 pq cp v_156 fa_157) H := hP1
                have hD : va_D A (mW g0 pq cp v_156 fa_157) := hD1.weaken (fun _ _ _ h => hFc _ h)
                clear hP1 hK1 hD1 hk1 hz1 hvm ht hFc
                obtain ⟨ef_158, w_154⟩ := w_154
                dsimp only at ef_158 w_154
                rcases w_154 with ⟨rfl, ev_159⟩ | ⟨rfl, hwe_160, hlt_161, ev_159⟩
                · have ea_v_156 : v_156 47 = nI k_125 := by rw [ev_159]; exact ea_128
                  have es_v_156 : v_156 50 = nI n := by rw [ev_159]; exact es_v_123
                  have hb_v_156 : v_156 49 < 0 ∨ ∃ j : Nat, j ≤ 1740 ∧ v_156 49 = nI j := by rw [ev_159]; exact hb_v_123
                  have sm_v_156 : ∀ i, i ≠ 47 → i ≠ 48 → i ≠ 51 → v_156 i = v i := by rw [ev_159]; exact sm_v_123
                  refine lv_if_ne (tgt := 198) hx hb dX11_unit_190 (by decide) (fun c_162 => absurd c_162 (by decide)) (fun _ => ?_)
                  refine lv_aload_n hx hb dX11_unit_193 rfl (lv_at hl 4 rfl) ?_
                  have hFc := va_free (wc := (mW g0 pq cp v_156 fa_157)) hD hS hA (List.range 48) rfl
                  refine va_calli (va_runV (As := []) (rest := []) ⟨hx, hb, hml, hown, hts⟩ (c_X11_breaks l dC dI H.size g0 pq cp v_156 fa_157) (cwV 0 hts gX11_unit_X11_breaks rfl rfl rfl (by decide +kernel) ⟨(Nat.le_of_ble_eq_true rfl), (Nat.le_of_ble_eq_true rfl)⟩) (pr_V (r := (RX11, TX11, 63)) hP hK hD 0 11 rfl rfl) rfl rfl hl.1 rfl (lv_room (Nat.le_of_ble_eq_true rfl)) dX11_unit_194 ⟨(Nat.le_of_ble_eq_true rfl), (Nat.le_of_ble_eq_true rfl)⟩) hS (fun q _ h => hFc q h) hFc (fun r_164 u t H locs ht hvm w_163 hB hz1 hk1 hS => ?_)
                  obtain ⟨v_165, fa_166⟩ := u
                  obtain ⟨hP1, hK1, hD1⟩ := hB
                  rw [ht] at hP1
                  have hP : va_P (dC, dI) vwCl (mW g0 pq cp v_165 fa_166) H := hP1
                  have hD : va_D A (mW g0 pq cp v_165 fa_166) := hD1.weaken (fun _ _ _ h => hFc _ h)
                  clear hP1 hK1 hD1 hk1 hz1 hvm ht hFc
                  obtain ⟨rfl, ev_167, ef_168⟩ := w_163
                  dsimp only at ev_167 ef_168
                  have ea_v_165 : v_165 47 = nI k_125 := by rw [ev_167]; exact ea_v_156
                  have es_v_165 : v_165 50 = nI n := by rw [ev_167]; exact es_v_156
                  have hb_v_165 : v_165 49 < 0 ∨ ∃ j : Nat, j ≤ 1740 ∧ v_165 49 = nI j := by rw [ev_167]; exact hb_v_156
                  have we_v_165 : v_165 51 = 0 := by rw [ev_167]; rfl
                  have sm_v_165 : ∀ i, i ≠ 47 → i ≠ 48 → i ≠ 51 → v_165 i = v i := by intro i h1 h2 h3; rw [ev_167]; exact (if_neg h3).trans (sm_v_156 i h1 h2 h3)
                  exact W.iret (v := 0) hx hb hr (fun t ht hW => ⟨⟨0, (v_165, fa_166), rfl, ⟨⟨k_125, by omega, hb_127, ea_v_165, (Or.inl we_v_165), sm_v_165⟩, (ef_168.trans (ef_158.trans (ef_131.trans ef_96)))⟩, ⟨by rw [ht]; exact hP, va_K.moved hW.alike hK, hD⟩⟩, hS.F ht⟩) hS.2.2 dX11_unit_197
                · have ea_v_156 : v_156 47 = nI (k_125 + 1) := by rw [ev_159]; show v_123 47 + 1 = _; rw [ea_128]; exact nI_1 _
                  have es_v_156 : v_156 50 = nI n := by rw [ev_159]; exact es_v_123
                  have hb_v_156 : v_156 49 < 0 ∨ ∃ j : Nat, j ≤ 1740 ∧ v_156 49 = nI j := by rw [ev_159]; exact hb_v_123
                  have sm_v_156 : ∀ i, i ≠ 47 → i ≠ 48 → i ≠ 51 → v_156 i = v i := by intro i h1 h2 h3; rw [ev_159]; exact (if_neg h1).trans (sm_v_123 i h1 h2 h3)
                  obtain ⟨we_169, de_170⟩ := Or.resolve_left wd_129 hwe_160
                  have we_v_156 : v_156 51 = 1 := by rw [ev_159]; exact we_169
                  have de_v_156 : v_156 48 = nI 5 := by rw [ev_159]; exact de_170
                  refine lv_if_ne (tgt := 198) hx hb dX11_unit_190 (by decide) (fun _ => ?_) (fun c_171 => absurd c_171 (by decide))
                  refine lv_aload_n hx hb dX11_unit_198 rfl (lv_at hl 4 rfl) ?_
                  refine lv_dup hx hb dX11_unit_199 rfl ?_
                  refine va_get (D := (dC, dI)) (ci := 11) (v := .int (v_156 48)) (C := RX11) (T := TX11) (N := 63) hx hb hts in_wsX11_unit_X11 hown hK hP 0 rfl rfl 48 (by decide) (hts (.fieldLink RX11 244 "ShipOfficeModel" "deep" "I") iw_X11_unit_3) (fun _ h9 => h9) rfl dX11_unit_200 ?_
                  refine lv_topi (fun y ey => ?_)
                  obtain rfl : y = 5 := ey.trans (de_v_156.trans (by decide))
                  refine lv_iconst (v := 1) hx hb dX11_unit_203 (by decide) ?_
                  refine lv_isub hx hb dX11_unit_204 ?_
                  refine lv_topi (fun y ey => ?_)
                  obtain rfl : y = 4 := ey.trans (by decide)
                  refine va_put (D := (dC, dI)) (ci := 11) (v := .int 4) (ty := .int) (C := RX11) (T := TX11) (N := 63) hx hb hts in_wsX11_unit_X11 tyX11 tyX11_ok nmX11 hown hK hP hD hS 0 rfl rfl 48 (by decide) (hts (.fieldLink RX11 244 "ShipOfficeModel" "deep" "I") iw_X11_unit_3) (fun _ h9 => h9) rfl (by decide +kernel) rfl rfl (Nat.le_of_ble_eq_true rfl) dX11_unit_205 (fun H locs hP hD hS => ?_)
                  have hP : va_P (dC, dI) vwCl (mW g0 pq cp (upd v_156 48 4) fa_157) H := hP
                  have hD : va_D A (mW g0 pq cp (upd v_156 48 4) fa_157) := hD
                  obtain ⟨z_172, ez_172⟩ : ∃ zq, zq = (upd v_156 48 4) := ⟨_, rfl⟩
                  rw [← ez_172] at hP hD
                  have ea_z_172 : z_172 47 = nI (k_125 + 1) := by rw [ez_172]; exact ea_v_156
                  have es_z_172 : z_172 50 = nI n := by rw [ez_172]; exact es_v_156
                  have hb_z_172 : z_172 49 < 0 ∨ ∃ j : Nat, j ≤ 1740 ∧ z_172 49 = nI j := by rw [ez_172]; exact hb_v_156
                  have we_z_172 : z_172 51 = 1 := by rw [ez_172]; exact we_v_156
                  have de_z_172 : z_172 48 = nI 4 := by rw [ez_172]; rfl
                  have sm_z_172 : ∀ i, i ≠ 47 → i ≠ 48 → i ≠ 51 → z_172 i = v i := by intro i h1 h2 h3; rw [ez_172]; exact (if_neg h2).trans (sm_v_156 i h1 h2 h3)
                  refine lv_iload_n hx hb dX11_unit_208 rfl (lv_at hl 0 rfl) ?_
                  exact W.iret (v := 1) hx hb hr (fun t ht hW => ⟨⟨1, (z_172, fa_157), rfl, ⟨⟨(k_125 + 1), by omega, hlt_161, ea_z_172, (Or.inr ⟨we_z_172, de_z_172⟩), sm_z_172⟩, (ef_158.trans (ef_131.trans ef_96))⟩, ⟨by rw [ht]; exact hP, va_K.moved hW.alike hK, hD⟩⟩, hS.F ht⟩) hS.2.2 dX11_unit_209
            · refine lv_iload_n hx hb dX11_unit_158 rfl (lv_at hl 2 rfl) ?_
              refine lv_iload hx hb dX11_unit_159 (lv_at hl 0 rfl) ?_
              refine lv_icmp_ne (tgt := 168) hx hb dX11_unit_161 (by decide) (fun c_173 => ?_) (fun c_173 => ?_)
              · refine lv_iconst (v := 0) hx hb dX11_unit_168 (by decide) ?_
                refine lv_goto (tgt := 183) hx hb dX11_unit_169 (by decide) ?_
                refine lv_istore_n (lv' := [(2, .int 0), (4, .int r_122), (3, .int r_98), (1, .int r_3), (0, .ref g0)]) hx hb dX11_unit_183 rfl hl (by decide) rfl (fun ls hl => ?_)
                refine lv_aload_n hx hb dX11_unit_184 rfl (lv_at hl 4 rfl) ?_
                refine lv_bipush (v := 41) hx hb dX11_unit_185 (by decide) ?_
                have hFc := va_free (wc := (mW g0 pq cp v_123 fa_124)) hD hS hA (List.range 48) rfl
                refine va_calli (va_runV (As := [.int 41]) (rest := []) ⟨hx, hb, hml, hown, hts⟩ (c_X11_takes_b l dC dI H.size g0 pq cp v_123 fa_124 k_125 n hb_127 hn ea_128 es_v_123 hb_v_123 41 (by decide)) (cwV 1 hts gX11_unit_X11_takes rfl rfl rfl (by decide +kernel) ⟨(Nat.le_of_ble_eq_true rfl), (Nat.le_of_ble_eq_true rfl)⟩) (pr_V (r := (RX11, TX11, 63)) hP hK hD 0 11 rfl rfl) rfl rfl hl.1 rfl (lv_room (Nat.le_of_ble_eq_true rfl)) dX11_unit_187 ⟨(Nat.le_of_ble_eq_true rfl), (Nat.le_of_ble_eq_true rfl)⟩) hS (fun q _ h => hFc q h) hFc (fun r_175 u t H locs ht hvm w_174 hB hz1 hk1 hS => ?_)
                obtain ⟨v_176, fa_177⟩ := u
                obtain ⟨hP1, hK1, hD1⟩ := hB
                rw [ht] at hP1
                have hP : va_P (dC, dI) vwCl (mW g0 pq cp v_176 fa_177) H := hP1
                have hD : va_D A (mW g0 pq cp v_176 fa_177) := hD1.weaken (fun _ _ _ h => hFc _ h)
                clear hP1 hK1 hD1 hk1 hz1 hvm ht hFc
                obtain ⟨ef_178, w_174⟩ := w_174
                dsimp only at ef_178 w_174
                rcases w_174 with ⟨rfl, ev_179⟩ | ⟨rfl, hwe_180, hlt_181, ev_179⟩
                · have ea_v_176 : v_176 47 = nI k_125 := by rw [ev_179]; exact ea_128
                  have es_v_176 : v_176 50 = nI n := by rw [ev_179]; exact es_v_123
                  have hb_v_176 : v_176 49 < 0 ∨ ∃ j : Nat, j ≤ 1740 ∧ v_176 49 = nI j := by rw [ev_179]; exact hb_v_123
                  have sm_v_176 : ∀ i, i ≠ 47 → i ≠ 48 → i ≠ 51 → v_176 i = v i := by rw [ev_179]; exact sm_v_123
                  refine lv_if_ne (tgt := 198) hx hb dX11_unit_190 (by decide) (fun c_182 => absurd c_182 (by decide)) (fun _ => ?_)
                  refine lv_aload_n hx hb dX11_unit_193 rfl (lv_at hl 4 rfl) ?_
                  have hFc := va_free (wc := (mW g0 pq cp v_176 fa_177)) hD hS hA (List.range 48) rfl
                  refine va_calli (va_runV (As := []) (rest := []) ⟨hx, hb, hml, hown, hts⟩ (c_X11_breaks l dC dI H.size g0 pq cp v_176 fa_177) (cwV 0 hts gX11_unit_X11_breaks rfl rfl rfl (by decide +kernel) ⟨(Nat.le_of_ble_eq_true rfl), (Nat.le_of_ble_eq_true rfl)⟩) (pr_V (r := (RX11, TX11, 63)) hP hK hD 0 11 rfl rfl) rfl rfl hl.1 rfl (lv_room (Nat.le_of_ble_eq_true rfl)) dX11_unit_194 ⟨(Nat.le_of_ble_eq_true rfl), (Nat.le_of_ble_eq_true rfl)⟩) hS (fun q _ h => hFc q h) hFc (fun r_184 u t H locs ht hvm w_183 hB hz1 hk1 hS => ?_)
                  obtain ⟨v_185, fa_186⟩ := u
                  obtain ⟨hP1, hK1, hD1⟩ := hB
                  rw [ht] at hP1
                  have hP : va_P (dC, dI) vwCl (mW g0 pq cp v_185 fa_186) H := hP1
                  have hD : va_D A (mW g0 pq cp v_185 fa_186) := hD1.weaken (fun _ _ _ h => hFc _ h)
                  clear hP1 hK1 hD1 hk1 hz1 hvm ht hFc
                  obtain ⟨rfl, ev_187, ef_188⟩ := w_183
                  dsimp only at ev_187 ef_188
                  have ea_v_185 : v_185 47 = nI k_125 := by rw [ev_187]; exact ea_v_176
                  have es_v_185 : v_185 50 = nI n := by rw [ev_187]; exact es_v_176
                  have hb_v_185 : v_185 49 < 0 ∨ ∃ j : Nat, j ≤ 1740 ∧ v_185 49 = nI j := by rw [ev_187]; exact hb_v_176
                  have we_v_185 : v_185 51 = 0 := by rw [ev_187]; rfl
                  have sm_v_185 : ∀ i, i ≠ 47 → i ≠ 48 → i ≠ 51 → v_185 i = v i := by intro i h1 h2 h3; rw [ev_187]; exact (if_neg h3).trans (sm_v_176 i h1 h2 h3)
                  exact W.iret (v := 0) hx hb hr (fun t ht hW => ⟨⟨0, (v_185, fa_186), rfl, ⟨⟨k_125, by omega, hb_127, ea_v_185, (Or.inl we_v_185), sm_v_185⟩, (ef_188.trans (ef_178.trans (ef_131.trans ef_96)))⟩, ⟨by rw [ht]; exact hP, va_K.moved hW.alike hK, hD⟩⟩, hS.F ht⟩) hS.2.2 dX11_unit_197
                · have ea_v_176 : v_176 47 = nI (k_125 + 1) := by rw [ev_179]; show v_123 47 + 1 = _; rw [ea_128]; exact nI_1 _
                  have es_v_176 : v_176 50 = nI n := by rw [ev_179]; exact es_v_123
                  have hb_v_176 : v_176 49 < 0 ∨ ∃ j : Nat, j ≤ 1740 ∧ v_176 49 = nI j := by rw [ev_179]; exact hb_v_123
                  have sm_v_176 : ∀ i, i ≠ 47 → i ≠ 48 → i ≠ 51 → v_176 i = v i := by intro i h1 h2 h3; rw [ev_179]; exact (if_neg h1).trans (sm_v_123 i h1 h2 h3)
                  obtain ⟨we_189, de_190⟩ := Or.resolve_left wd_129 hwe_180
                  have we_v_176 : v_176 51 = 1 := by rw [ev_179]; exact we_189
                  have de_v_176 : v_176 48 = nI 5 := by rw [ev_179]; exact de_190
                  refine lv_if_ne (tgt := 198) hx hb dX11_unit_190 (by decide) (fun _ => ?_) (fun c_191 => absurd c_191 (by decide))
                  refine lv_aload_n hx hb dX11_unit_198 rfl (lv_at hl 4 rfl) ?_
                  refine lv_dup hx hb dX11_unit_199 rfl ?_
                  refine va_get (D := (dC, dI)) (ci := 11) (v := .int (v_176 48)) (C := RX11) (T := TX11) (N := 63) hx hb hts in_wsX11_unit_X11 hown hK hP 0 rfl rfl 48 (by decide) (hts (.fieldLink RX11 244 "ShipOfficeModel" "deep" "I") iw_X11_unit_3) (fun _ h9 => h9) rfl dX11_unit_200 ?_
                  refine lv_topi (fun y ey => ?_)
                  obtain rfl : y = 5 := ey.trans (de_v_176.trans (by decide))
                  refine lv_iconst (v := 1) hx hb dX11_unit_203 (by decide) ?_
                  refine lv_isub hx hb dX11_unit_204 ?_
                  refine lv_topi (fun y ey => ?_)
                  obtain rfl : y = 4 := ey.trans (by decide)
                  refine va_put (D := (dC, dI)) (ci := 11) (v := .int 4) (ty := .int) (C := RX11) (T := TX11) (N := 63) hx hb hts in_wsX11_unit_X11 tyX11 tyX11_ok nmX11 hown hK hP hD hS 0 rfl rfl 48 (by decide) (hts (.fieldLink RX11 244 "ShipOfficeModel" "deep" "I") iw_X11_unit_3) (fun _ h9 => h9) rfl (by decide +kernel) rfl rfl (Nat.le_of_ble_eq_true rfl) dX11_unit_205 (fun H locs hP hD hS => ?_)
                  have hP : va_P (dC, dI) vwCl (mW g0 pq cp (upd v_176 48 4) fa_177) H := hP
                  have hD : va_D A (mW g0 pq cp (upd v_176 48 4) fa_177) := hD
                  obtain ⟨z_192, ez_192⟩ : ∃ zq, zq = (upd v_176 48 4) := ⟨_, rfl⟩
                  rw [← ez_192] at hP hD
                  have ea_z_192 : z_192 47 = nI (k_125 + 1) := by rw [ez_192]; exact ea_v_176
                  have es_z_192 : z_192 50 = nI n := by rw [ez_192]; exact es_v_176
                  have hb_z_192 : z_192 49 < 0 ∨ ∃ j : Nat, j ≤ 1740 ∧ z_192 49 = nI j := by rw [ez_192]; exact hb_v_176
                  have we_z_192 : z_192 51 = 1 := by rw [ez_192]; exact we_v_176
                  have de_z_192 : z_192 48 = nI 4 := by rw [ez_192]; rfl
                  have sm_z_192 : ∀ i, i ≠ 47 → i ≠ 48 → i ≠ 51 → z_192 i = v i := by intro i h1 h2 h3; rw [ez_192]; exact (if_neg h2).trans (sm_v_176 i h1 h2 h3)
                  refine lv_iload_n hx hb dX11_unit_208 rfl (lv_at hl 0 rfl) ?_
                  exact W.iret (v := 0) hx hb hr (fun t ht hW => ⟨⟨0, (z_192, fa_177), rfl, ⟨⟨(k_125 + 1), by omega, hlt_181, ea_z_192, (Or.inr ⟨we_z_192, de_z_192⟩), sm_z_192⟩, (ef_178.trans (ef_131.trans ef_96))⟩, ⟨by rw [ht]; exact hP, va_K.moved hW.alike hK, hD⟩⟩, hS.F ht⟩) hS.2.2 dX11_unit_209
              · refine lv_iconst (v := 1) hx hb dX11_unit_164 (by decide) ?_
                refine lv_goto (tgt := 183) hx hb dX11_unit_165 (by decide) ?_
                refine lv_istore_n (lv' := [(2, .int 1), (4, .int r_122), (3, .int r_98), (1, .int r_3), (0, .ref g0)]) hx hb dX11_unit_183 rfl hl (by decide) rfl (fun ls hl => ?_)
                refine lv_aload_n hx hb dX11_unit_184 rfl (lv_at hl 4 rfl) ?_
                refine lv_bipush (v := 41) hx hb dX11_unit_185 (by decide) ?_
                have hFc := va_free (wc := (mW g0 pq cp v_123 fa_124)) hD hS hA (List.range 48) rfl
                refine va_calli (va_runV (As := [.int 41]) (rest := []) ⟨hx, hb, hml, hown, hts⟩ (c_X11_takes_b l dC dI H.size g0 pq cp v_123 fa_124 k_125 n hb_127 hn ea_128 es_v_123 hb_v_123 41 (by decide)) (cwV 1 hts gX11_unit_X11_takes rfl rfl rfl (by decide +kernel) ⟨(Nat.le_of_ble_eq_true rfl), (Nat.le_of_ble_eq_true rfl)⟩) (pr_V (r := (RX11, TX11, 63)) hP hK hD 0 11 rfl rfl) rfl rfl hl.1 rfl (lv_room (Nat.le_of_ble_eq_true rfl)) dX11_unit_187 ⟨(Nat.le_of_ble_eq_true rfl), (Nat.le_of_ble_eq_true rfl)⟩) hS (fun q _ h => hFc q h) hFc (fun r_194 u t H locs ht hvm w_193 hB hz1 hk1 hS => ?_)
                obtain ⟨v_195, fa_196⟩ := u
                obtain ⟨hP1, hK1, hD1⟩ := hB
                rw [ht] at hP1
                have hP : va_P (dC, dI) vwCl (mW g0 pq cp v_195 fa_196) H := hP1
                have hD : va_D A (mW g0 pq cp v_195 fa_196) := hD1.weaken (fun _ _ _ h => hFc _ h)
                clear hP1 hK1 hD1 hk1 hz1 hvm ht hFc
                obtain ⟨ef_197, w_193⟩ := w_193
                dsimp only at ef_197 w_193
                rcases w_193 with ⟨rfl, ev_198⟩ | ⟨rfl, hwe_199, hlt_200, ev_198⟩
                · have ea_v_195 : v_195 47 = nI k_125 := by rw [ev_198]; exact ea_128
                  have es_v_195 : v_195 50 = nI n := by rw [ev_198]; exact es_v_123
                  have hb_v_195 : v_195 49 < 0 ∨ ∃ j : Nat, j ≤ 1740 ∧ v_195 49 = nI j := by rw [ev_198]; exact hb_v_123
                  have sm_v_195 : ∀ i, i ≠ 47 → i ≠ 48 → i ≠ 51 → v_195 i = v i := by rw [ev_198]; exact sm_v_123
                  refine lv_if_ne (tgt := 198) hx hb dX11_unit_190 (by decide) (fun c_201 => absurd c_201 (by decide)) (fun _ => ?_)
                  refine lv_aload_n hx hb dX11_unit_193 rfl (lv_at hl 4 rfl) ?_
                  have hFc := va_free (wc := (mW g0 pq cp v_195 fa_196)) hD hS hA (List.range 48) rfl
                  refine va_calli (va_runV (As := []) (rest := []) ⟨hx, hb, hml, hown, hts⟩ (c_X11_breaks l dC dI H.size g0 pq cp v_195 fa_196) (cwV 0 hts gX11_unit_X11_breaks rfl rfl rfl (by decide +kernel) ⟨(Nat.le_of_ble_eq_true rfl), (Nat.le_of_ble_eq_true rfl)⟩) (pr_V (r := (RX11, TX11, 63)) hP hK hD 0 11 rfl rfl) rfl rfl hl.1 rfl (lv_room (Nat.le_of_ble_eq_true rfl)) dX11_unit_194 ⟨(Nat.le_of_ble_eq_true rfl), (Nat.le_of_ble_eq_true rfl)⟩) hS (fun q _ h => hFc q h) hFc (fun r_203 u t H locs ht hvm w_202 hB hz1 hk1 hS => ?_)
                  obtain ⟨v_204, fa_205⟩ := u
                  obtain ⟨hP1, hK1, hD1⟩ := hB
                  rw [ht] at hP1
                  have hP : va_P (dC, dI) vwCl (mW g0 pq cp v_204 fa_205) H := hP1
                  have hD : va_D A (mW g0 pq cp v_204 fa_205) := hD1.weaken (fun _ _ _ h => hFc _ h)
                  clear hP1 hK1 hD1 hk1 hz1 hvm ht hFc
                  obtain ⟨rfl, ev_206, ef_207⟩ := w_202
                  dsimp only at ev_206 ef_207
                  have ea_v_204 : v_204 47 = nI k_125 := by rw [ev_206]; exact ea_v_195
                  have es_v_204 : v_204 50 = nI n := by rw [ev_206]; exact es_v_195
                  have hb_v_204 : v_204 49 < 0 ∨ ∃ j : Nat, j ≤ 1740 ∧ v_204 49 = nI j := by rw [ev_206]; exact hb_v_195
                  have we_v_204 : v_204 51 = 0 := by rw [ev_206]; rfl
                  have sm_v_204 : ∀ i, i ≠ 47 → i ≠ 48 → i ≠ 51 → v_204 i = v i := by intro i h1 h2 h3; rw [ev_206]; exact (if_neg h3).trans (sm_v_195 i h1 h2 h3)
                  exact W.iret (v := 0) hx hb hr (fun t ht hW => ⟨⟨0, (v_204, fa_205), rfl, ⟨⟨k_125, by omega, hb_127, ea_v_204, (Or.inl we_v_204), sm_v_204⟩, (ef_207.trans (ef_197.trans (ef_131.trans ef_96)))⟩, ⟨by rw [ht]; exact hP, va_K.moved hW.alike hK, hD⟩⟩, hS.F ht⟩) hS.2.2 dX11_unit_197
                · have ea_v_195 : v_195 47 = nI (k_125 + 1) := by rw [ev_198]; show v_123 47 + 1 = _; rw [ea_128]; exact nI_1 _
                  have es_v_195 : v_195 50 = nI n := by rw [ev_198]; exact es_v_123
                  have hb_v_195 : v_195 49 < 0 ∨ ∃ j : Nat, j ≤ 1740 ∧ v_195 49 = nI j := by rw [ev_198]; exact hb_v_123
                  have sm_v_195 : ∀ i, i ≠ 47 → i ≠ 48 → i ≠ 51 → v_195 i = v i := by intro i h1 h2 h3; rw [ev_198]; exact (if_neg h1).trans (sm_v_123 i h1 h2 h3)
                  obtain ⟨we_208, de_209⟩ := Or.resolve_left wd_129 hwe_199
                  have we_v_195 : v_195 51 = 1 := by rw [ev_198]; exact we_208
                  have de_v_195 : v_195 48 = nI 5 := by rw [ev_198]; exact de_209
                  refine lv_if_ne (tgt := 198) hx hb dX11_unit_190 (by decide) (fun _ => ?_) (fun c_210 => absurd c_210 (by decide))
                  refine lv_aload_n hx hb dX11_unit_198 rfl (lv_at hl 4 rfl) ?_
                  refine lv_dup hx hb dX11_unit_199 rfl ?_
                  refine va_get (D := (dC, dI)) (ci := 11) (v := .int (v_195 48)) (C := RX11) (T := TX11) (N := 63) hx hb hts in_wsX11_unit_X11 hown hK hP 0 rfl rfl 48 (by decide) (hts (.fieldLink RX11 244 "ShipOfficeModel" "deep" "I") iw_X11_unit_3) (fun _ h9 => h9) rfl dX11_unit_200 ?_
                  refine lv_topi (fun y ey => ?_)
                  obtain rfl : y = 5 := ey.trans (de_v_195.trans (by decide))
                  refine lv_iconst (v := 1) hx hb dX11_unit_203 (by decide) ?_
                  refine lv_isub hx hb dX11_unit_204 ?_
                  refine lv_topi (fun y ey => ?_)
                  obtain rfl : y = 4 := ey.trans (by decide)
                  refine va_put (D := (dC, dI)) (ci := 11) (v := .int 4) (ty := .int) (C := RX11) (T := TX11) (N := 63) hx hb hts in_wsX11_unit_X11 tyX11 tyX11_ok nmX11 hown hK hP hD hS 0 rfl rfl 48 (by decide) (hts (.fieldLink RX11 244 "ShipOfficeModel" "deep" "I") iw_X11_unit_3) (fun _ h9 => h9) rfl (by decide +kernel) rfl rfl (Nat.le_of_ble_eq_true rfl) dX11_unit_205 (fun H locs hP hD hS => ?_)
                  have hP : va_P (dC, dI) vwCl (mW g0 pq cp (upd v_195 48 4) fa_196) H := hP
                  have hD : va_D A (mW g0 pq cp (upd v_195 48 4) fa_196) := hD
                  obtain ⟨z_211, ez_211⟩ : ∃ zq, zq = (upd v_195 48 4) := ⟨_, rfl⟩
                  rw [← ez_211] at hP hD
                  have ea_z_211 : z_211 47 = nI (k_125 + 1) := by rw [ez_211]; exact ea_v_195
                  have es_z_211 : z_211 50 = nI n := by rw [ez_211]; exact es_v_195
                  have hb_z_211 : z_211 49 < 0 ∨ ∃ j : Nat, j ≤ 1740 ∧ z_211 49 = nI j := by rw [ez_211]; exact hb_v_195
                  have we_z_211 : z_211 51 = 1 := by rw [ez_211]; exact we_v_195
                  have de_z_211 : z_211 48 = nI 4 := by rw [ez_211]; rfl
                  have sm_z_211 : ∀ i, i ≠ 47 → i ≠ 48 → i ≠ 51 → z_211 i = v i := by intro i h1 h2 h3; rw [ez_211]; exact (if_neg h2).trans (sm_v_195 i h1 h2 h3)
                  refine lv_iload_n hx hb dX11_unit_208 rfl (lv_at hl 0 rfl) ?_
                  exact W.iret (v := 1) hx hb hr (fun t ht hW => ⟨⟨1, (z_211, fa_196), rfl, ⟨⟨(k_125 + 1), by omega, hlt_200, ea_z_211, (Or.inr ⟨we_z_211, de_z_211⟩), sm_z_211⟩, (ef_197.trans (ef_131.trans ef_96))⟩, ⟨by rw [ht]; exact hP, va_K.moved hW.alike hK, hD⟩⟩, hS.F ht⟩) hS.2.2 dX11_unit_209
          · refine lv_iload_n hx hb dX11_unit_138 rfl (lv_at hl 2 rfl) ?_
            refine lv_iload hx hb dX11_unit_139 (lv_at hl 0 rfl) ?_
            refine lv_icmp_ge (tgt := 148) hx hb dX11_unit_141 (by decide) (fun c_212 => ?_) (fun c_212 => ?_)
            · refine lv_iconst (v := 0) hx hb dX11_unit_148 (by decide) ?_
              refine lv_goto (tgt := 183) hx hb dX11_unit_149 (by decide) ?_
              refine lv_istore_n (lv' := [(2, .int 0), (4, .int r_122), (3, .int r_98), (1, .int r_3), (0, .ref g0)]) hx hb dX11_unit_183 rfl hl (by decide) rfl (fun ls hl => ?_)
              refine lv_aload_n hx hb dX11_unit_184 rfl (lv_at hl 4 rfl) ?_
              refine lv_bipush (v := 41) hx hb dX11_unit_185 (by decide) ?_
              have hFc := va_free (wc := (mW g0 pq cp v_123 fa_124)) hD hS hA (List.range 48) rfl
              refine va_calli (va_runV (As := [.int 41]) (rest := []) ⟨hx, hb, hml, hown, hts⟩ (c_X11_takes_b l dC dI H.size g0 pq cp v_123 fa_124 k_125 n hb_127 hn ea_128 es_v_123 hb_v_123 41 (by decide)) (cwV 1 hts gX11_unit_X11_takes rfl rfl rfl (by decide +kernel) ⟨(Nat.le_of_ble_eq_true rfl), (Nat.le_of_ble_eq_true rfl)⟩) (pr_V (r := (RX11, TX11, 63)) hP hK hD 0 11 rfl rfl) rfl rfl hl.1 rfl (lv_room (Nat.le_of_ble_eq_true rfl)) dX11_unit_187 ⟨(Nat.le_of_ble_eq_true rfl), (Nat.le_of_ble_eq_true rfl)⟩) hS (fun q _ h => hFc q h) hFc (fun r_214 u t H locs ht hvm w_213 hB hz1 hk1 hS => ?_)
              obtain ⟨v_215, fa_216⟩ := u
              obtain ⟨hP1, hK1, hD1⟩ := hB
              rw [ht] at hP1
              have hP : va_P (dC, dI) vwCl (mW g0 pq cp v_215 fa_216) H := hP1
              have hD : va_D A (mW g0 pq cp v_215 fa_216) := hD1.weaken (fun _ _ _ h => hFc _ h)
              clear hP1 hK1 hD1 hk1 hz1 hvm ht hFc
              obtain ⟨ef_217, w_213⟩ := w_213
              dsimp only at ef_217 w_213
              rcases w_213 with ⟨rfl, ev_218⟩ | ⟨rfl, hwe_219, hlt_220, ev_218⟩
              · have ea_v_215 : v_215 47 = nI k_125 := by rw [ev_218]; exact ea_128
                have es_v_215 : v_215 50 = nI n := by rw [ev_218]; exact es_v_123
                have hb_v_215 : v_215 49 < 0 ∨ ∃ j : Nat, j ≤ 1740 ∧ v_215 49 = nI j := by rw [ev_218]; exact hb_v_123
                have sm_v_215 : ∀ i, i ≠ 47 → i ≠ 48 → i ≠ 51 → v_215 i = v i := by rw [ev_218]; exact sm_v_123
                refine lv_if_ne (tgt := 198) hx hb dX11_unit_190 (by decide) (fun c_221 => absurd c_221 (by decide)) (fun _ => ?_)
                refine lv_aload_n hx hb dX11_unit_193 rfl (lv_at hl 4 rfl) ?_
                have hFc := va_free (wc := (mW g0 pq cp v_215 fa_216)) hD hS hA (List.range 48) rfl
                refine va_calli (va_runV (As := []) (rest := []) ⟨hx, hb, hml, hown, hts⟩ (c_X11_breaks l dC dI H.size g0 pq cp v_215 fa_216) (cwV 0 hts gX11_unit_X11_breaks rfl rfl rfl (by decide +kernel) ⟨(Nat.le_of_ble_eq_true rfl), (Nat.le_of_ble_eq_true rfl)⟩) (pr_V (r := (RX11, TX11, 63)) hP hK hD 0 11 rfl rfl) rfl rfl hl.1 rfl (lv_room (Nat.le_of_ble_eq_true rfl)) dX11_unit_194 ⟨(Nat.le_of_ble_eq_true rfl), (Nat.le_of_ble_eq_true rfl)⟩) hS (fun q _ h => hFc q h) hFc (fun r_223 u t H locs ht hvm w_222 hB hz1 hk1 hS => ?_)
                obtain ⟨v_224, fa_225⟩ := u
                obtain ⟨hP1, hK1, hD1⟩ := hB
                rw [ht] at hP1
                have hP : va_P (dC, dI) vwCl (mW g0 pq cp v_224 fa_225) H := hP1
                have hD : va_D A (mW g0 pq cp v_224 fa_225) := hD1.weaken (fun _ _ _ h => hFc _ h)
                clear hP1 hK1 hD1 hk1 hz1 hvm ht hFc
                obtain ⟨rfl, ev_226, ef_227⟩ := w_222
                dsimp only at ev_226 ef_227
                have ea_v_224 : v_224 47 = nI k_125 := by rw [ev_226]; exact ea_v_215
                have es_v_224 : v_224 50 = nI n := by rw [ev_226]; exact es_v_215
                have hb_v_224 : v_224 49 < 0 ∨ ∃ j : Nat, j ≤ 1740 ∧ v_224 49 = nI j := by rw [ev_226]; exact hb_v_215
                have we_v_224 : v_224 51 = 0 := by rw [ev_226]; rfl
                have sm_v_224 : ∀ i, i ≠ 47 → i ≠ 48 → i ≠ 51 → v_224 i = v i := by intro i h1 h2 h3; rw [ev_226]; exact (if_neg h3).trans (sm_v_215 i h1 h2 h3)
                exact W.iret (v := 0) hx hb hr (fun t ht hW => ⟨⟨0, (v_224, fa_225), rfl, ⟨⟨k_125, by omega, hb_127, ea_v_224, (Or.inl we_v_224), sm_v_224⟩, (ef_227.trans (ef_217.trans (ef_131.trans ef_96)))⟩, ⟨by rw [ht]; exact hP, va_K.moved hW.alike hK, hD⟩⟩, hS.F ht⟩) hS.2.2 dX11_unit_197
              · have ea_v_215 : v_215 47 = nI (k_125 + 1) := by rw [ev_218]; show v_123 47 + 1 = _; rw [ea_128]; exact nI_1 _
                have es_v_215 : v_215 50 = nI n := by rw [ev_218]; exact es_v_123
                have hb_v_215 : v_215 49 < 0 ∨ ∃ j : Nat, j ≤ 1740 ∧ v_215 49 = nI j := by rw [ev_218]; exact hb_v_123
                have sm_v_215 : ∀ i, i ≠ 47 → i ≠ 48 → i ≠ 51 → v_215 i = v i := by intro i h1 h2 h3; rw [ev_218]; exact (if_neg h1).trans (sm_v_123 i h1 h2 h3)
                obtain ⟨we_228, de_229⟩ := Or.resolve_left wd_129 hwe_219
                have we_v_215 : v_215 51 = 1 := by rw [ev_218]; exact we_228
                have de_v_215 : v_215 48 = nI 5 := by rw [ev_218]; exact de_229
                refine lv_if_ne (tgt := 198) hx hb dX11_unit_190 (by decide) (fun _ => ?_) (fun c_230 => absurd c_230 (by decide))
                refine lv_aload_n hx hb dX11_unit_198 rfl (lv_at hl 4 rfl) ?_
                refine lv_dup hx hb dX11_unit_199 rfl ?_
                refine va_get (D := (dC, dI)) (ci := 11) (v := .int (v_215 48)) (C := RX11) (T := TX11) (N := 63) hx hb hts in_wsX11_unit_X11 hown hK hP 0 rfl rfl 48 (by decide) (hts (.fieldLink RX11 244 "ShipOfficeModel" "deep" "I") iw_X11_unit_3) (fun _ h9 => h9) rfl dX11_unit_200 ?_
                refine lv_topi (fun y ey => ?_)
                obtain rfl : y = 5 := ey.trans (de_v_215.trans (by decide))
                refine lv_iconst (v := 1) hx hb dX11_unit_203 (by decide) ?_
                refine lv_isub hx hb dX11_unit_204 ?_
                refine lv_topi (fun y ey => ?_)
                obtain rfl : y = 4 := ey.trans (by decide)
                refine va_put (D := (dC, dI)) (ci := 11) (v := .int 4) (ty := .int) (C := RX11) (T := TX11) (N := 63) hx hb hts in_wsX11_unit_X11 tyX11 tyX11_ok nmX11 hown hK hP hD hS 0 rfl rfl 48 (by decide) (hts (.fieldLink RX11 244 "ShipOfficeModel" "deep" "I") iw_X11_unit_3) (fun _ h9 => h9) rfl (by decide +kernel) rfl rfl (Nat.le_of_ble_eq_true rfl) dX11_unit_205 (fun H locs hP hD hS => ?_)
                have hP : va_P (dC, dI) vwCl (mW g0 pq cp (upd v_215 48 4) fa_216) H := hP
                have hD : va_D A (mW g0 pq cp (upd v_215 48 4) fa_216) := hD
                obtain ⟨z_231, ez_231⟩ : ∃ zq, zq = (upd v_215 48 4) := ⟨_, rfl⟩
                rw [← ez_231] at hP hD
                have ea_z_231 : z_231 47 = nI (k_125 + 1) := by rw [ez_231]; exact ea_v_215
                have es_z_231 : z_231 50 = nI n := by rw [ez_231]; exact es_v_215
                have hb_z_231 : z_231 49 < 0 ∨ ∃ j : Nat, j ≤ 1740 ∧ z_231 49 = nI j := by rw [ez_231]; exact hb_v_215
                have we_z_231 : z_231 51 = 1 := by rw [ez_231]; exact we_v_215
                have de_z_231 : z_231 48 = nI 4 := by rw [ez_231]; rfl
                have sm_z_231 : ∀ i, i ≠ 47 → i ≠ 48 → i ≠ 51 → z_231 i = v i := by intro i h1 h2 h3; rw [ez_231]; exact (if_neg h2).trans (sm_v_215 i h1 h2 h3)
                refine lv_iload_n hx hb dX11_unit_208 rfl (lv_at hl 0 rfl) ?_
                exact W.iret (v := 0) hx hb hr (fun t ht hW => ⟨⟨0, (z_231, fa_216), rfl, ⟨⟨(k_125 + 1), by omega, hlt_220, ea_z_231, (Or.inr ⟨we_z_231, de_z_231⟩), sm_z_231⟩, (ef_217.trans (ef_131.trans ef_96))⟩, ⟨by rw [ht]; exact hP, va_K.moved hW.alike hK, hD⟩⟩, hS.F ht⟩) hS.2.2 dX11_unit_209
            · refine lv_iconst (v := 1) hx hb dX11_unit_144 (by decide) ?_
              refine lv_goto (tgt := 183) hx hb dX11_unit_145 (by decide) ?_
              refine lv_istore_n (lv' := [(2, .int 1), (4, .int r_122), (3, .int r_98), (1, .int r_3), (0, .ref g0)]) hx hb dX11_unit_183 rfl hl (by decide) rfl (fun ls hl => ?_)
              refine lv_aload_n hx hb dX11_unit_184 rfl (lv_at hl 4 rfl) ?_
              refine lv_bipush (v := 41) hx hb dX11_unit_185 (by decide) ?_
              have hFc := va_free (wc := (mW g0 pq cp v_123 fa_124)) hD hS hA (List.range 48) rfl
              refine va_calli (va_runV (As := [.int 41]) (rest := []) ⟨hx, hb, hml, hown, hts⟩ (c_X11_takes_b l dC dI H.size g0 pq cp v_123 fa_124 k_125 n hb_127 hn ea_128 es_v_123 hb_v_123 41 (by decide)) (cwV 1 hts gX11_unit_X11_takes rfl rfl rfl (by decide +kernel) ⟨(Nat.le_of_ble_eq_true rfl), (Nat.le_of_ble_eq_true rfl)⟩) (pr_V (r := (RX11, TX11, 63)) hP hK hD 0 11 rfl rfl) rfl rfl hl.1 rfl (lv_room (Nat.le_of_ble_eq_true rfl)) dX11_unit_187 ⟨(Nat.le_of_ble_eq_true rfl), (Nat.le_of_ble_eq_true rfl)⟩) hS (fun q _ h => hFc q h) hFc (fun r_233 u t H locs ht hvm w_232 hB hz1 hk1 hS => ?_)
              obtain ⟨v_234, fa_235⟩ := u
              obtain ⟨hP1, hK1, hD1⟩ := hB
              rw [ht] at hP1
              have hP : va_P (dC, dI) vwCl (mW g0 pq cp v_234 fa_235) H := hP1
              have hD : va_D A (mW g0 pq cp v_234 fa_235) := hD1.weaken (fun _ _ _ h => hFc _ h)
              clear hP1 hK1 hD1 hk1 hz1 hvm ht hFc
              obtain ⟨ef_236, w_232⟩ := w_232
              dsimp only at ef_236 w_232
              rcases w_232 with ⟨rfl, ev_237⟩ | ⟨rfl, hwe_238, hlt_239, ev_237⟩
              · have ea_v_234 : v_234 47 = nI k_125 := by rw [ev_237]; exact ea_128
                have es_v_234 : v_234 50 = nI n := by rw [ev_237]; exact es_v_123
                have hb_v_234 : v_234 49 < 0 ∨ ∃ j : Nat, j ≤ 1740 ∧ v_234 49 = nI j := by rw [ev_237]; exact hb_v_123
                have sm_v_234 : ∀ i, i ≠ 47 → i ≠ 48 → i ≠ 51 → v_234 i = v i := by rw [ev_237]; exact sm_v_123
                refine lv_if_ne (tgt := 198) hx hb dX11_unit_190 (by decide) (fun c_240 => absurd c_240 (by decide)) (fun _ => ?_)
                refine lv_aload_n hx hb dX11_unit_193 rfl (lv_at hl 4 rfl) ?_
                have hFc := va_free (wc := (mW g0 pq cp v_234 fa_235)) hD hS hA (List.range 48) rfl
                refine va_calli (va_runV (As := []) (rest := []) ⟨hx, hb, hml, hown, hts⟩ (c_X11_breaks l dC dI H.size g0 pq cp v_234 fa_235) (cwV 0 hts gX11_unit_X11_breaks rfl rfl rfl (by decide +kernel) ⟨(Nat.le_of_ble_eq_true rfl), (Nat.le_of_ble_eq_true rfl)⟩) (pr_V (r := (RX11, TX11, 63)) hP hK hD 0 11 rfl rfl) rfl rfl hl.1 rfl (lv_room (Nat.le_of_ble_eq_true rfl)) dX11_unit_194 ⟨(Nat.le_of_ble_eq_true rfl), (Nat.le_of_ble_eq_true rfl)⟩) hS (fun q _ h => hFc q h) hFc (fun r_242 u t H locs ht hvm w_241 hB hz1 hk1 hS => ?_)
                obtain ⟨v_243, fa_244⟩ := u
                obtain ⟨hP1, hK1, hD1⟩ := hB
                rw [ht] at hP1
                have hP : va_P (dC, dI) vwCl (mW g0 pq cp v_243 fa_244) H := hP1
                have hD : va_D A (mW g0 pq cp v_243 fa_244) := hD1.weaken (fun _ _ _ h => hFc _ h)
                clear hP1 hK1 hD1 hk1 hz1 hvm ht hFc
                obtain ⟨rfl, ev_245, ef_246⟩ := w_241
                dsimp only at ev_245 ef_246
                have ea_v_243 : v_243 47 = nI k_125 := by rw [ev_245]; exact ea_v_234
                have es_v_243 : v_243 50 = nI n := by rw [ev_245]; exact es_v_234
                have hb_v_243 : v_243 49 < 0 ∨ ∃ j : Nat, j ≤ 1740 ∧ v_243 49 = nI j := by rw [ev_245]; exact hb_v_234
                have we_v_243 : v_243 51 = 0 := by rw [ev_245]; rfl
                have sm_v_243 : ∀ i, i ≠ 47 → i ≠ 48 → i ≠ 51 → v_243 i = v i := by intro i h1 h2 h3; rw [ev_245]; exact (if_neg h3).trans (sm_v_234 i h1 h2 h3)
                exact W.iret (v := 0) hx hb hr (fun t ht hW => ⟨⟨0, (v_243, fa_244), rfl, ⟨⟨k_125, by omega, hb_127, ea_v_243, (Or.inl we_v_243), sm_v_243⟩, (ef_246.trans (ef_236.trans (ef_131.trans ef_96)))⟩, ⟨by rw [ht]; exact hP, va_K.moved hW.alike hK, hD⟩⟩, hS.F ht⟩) hS.2.2 dX11_unit_197
              · have ea_v_234 : v_234 47 = nI (k_125 + 1) := by rw [ev_237]; show v_123 47 + 1 = _; rw [ea_128]; exact nI_1 _
                have es_v_234 : v_234 50 = nI n := by rw [ev_237]; exact es_v_123
                have hb_v_234 : v_234 49 < 0 ∨ ∃ j : Nat, j ≤ 1740 ∧ v_234 49 = nI j := by rw [ev_237]; exact hb_v_123
                have sm_v_234 : ∀ i, i ≠ 47 → i ≠ 48 → i ≠ 51 → v_234 i = v i := by intro i h1 h2 h3; rw [ev_237]; exact (if_neg h1).trans (sm_v_123 i h1 h2 h3)
                obtain ⟨we_247, de_248⟩ := Or.resolve_left wd_129 hwe_238
                have we_v_234 : v_234 51 = 1 := by rw [ev_237]; exact we_247
                have de_v_234 : v_234 48 = nI 5 := by rw [ev_237]; exact de_248
                refine lv_if_ne (tgt := 198) hx hb dX11_unit_190 (by decide) (fun _ => ?_) (fun c_249 => absurd c_249 (by decide))
                refine lv_aload_n hx hb dX11_unit_198 rfl (lv_at hl 4 rfl) ?_
                refine lv_dup hx hb dX11_unit_199 rfl ?_
                refine va_get (D := (dC, dI)) (ci := 11) (v := .int (v_234 48)) (C := RX11) (T := TX11) (N := 63) hx hb hts in_wsX11_unit_X11 hown hK hP 0 rfl rfl 48 (by decide) (hts (.fieldLink RX11 244 "ShipOfficeModel" "deep" "I") iw_X11_unit_3) (fun _ h9 => h9) rfl dX11_unit_200 ?_
                refine lv_topi (fun y ey => ?_)
                obtain rfl : y = 5 := ey.trans (de_v_234.trans (by decide))
                refine lv_iconst (v := 1) hx hb dX11_unit_203 (by decide) ?_
                refine lv_isub hx hb dX11_unit_204 ?_
                refine lv_topi (fun y ey => ?_)
                obtain rfl : y = 4 := ey.trans (by decide)
                refine va_put (D := (dC, dI)) (ci := 11) (v := .int 4) (ty := .int) (C := RX11) (T := TX11) (N := 63) hx hb hts in_wsX11_unit_X11 tyX11 tyX11_ok nmX11 hown hK hP hD hS 0 rfl rfl 48 (by decide) (hts (.fieldLink RX11 244 "ShipOfficeModel" "deep" "I") iw_X11_unit_3) (fun _ h9 => h9) rfl (by decide +kernel) rfl rfl (Nat.le_of_ble_eq_true rfl) dX11_unit_205 (fun H locs hP hD hS => ?_)
                have hP : va_P (dC, dI) vwCl (mW g0 pq cp (upd v_234 48 4) fa_235) H := hP
                have hD : va_D A (mW g0 pq cp (upd v_234 48 4) fa_235) := hD
                obtain ⟨z_250, ez_250⟩ : ∃ zq, zq = (upd v_234 48 4) := ⟨_, rfl⟩
                rw [← ez_250] at hP hD
                have ea_z_250 : z_250 47 = nI (k_125 + 1) := by rw [ez_250]; exact ea_v_234
                have es_z_250 : z_250 50 = nI n := by rw [ez_250]; exact es_v_234
                have hb_z_250 : z_250 49 < 0 ∨ ∃ j : Nat, j ≤ 1740 ∧ z_250 49 = nI j := by rw [ez_250]; exact hb_v_234
                have we_z_250 : z_250 51 = 1 := by rw [ez_250]; exact we_v_234
                have de_z_250 : z_250 48 = nI 4 := by rw [ez_250]; rfl
                have sm_z_250 : ∀ i, i ≠ 47 → i ≠ 48 → i ≠ 51 → z_250 i = v i := by intro i h1 h2 h3; rw [ez_250]; exact (if_neg h2).trans (sm_v_234 i h1 h2 h3)
                refine lv_iload_n hx hb dX11_unit_208 rfl (lv_at hl 0 rfl) ?_
                exact W.iret (v := 1) hx hb hr (fun t ht hW => ⟨⟨1, (z_250, fa_235), rfl, ⟨⟨(k_125 + 1), by omega, hlt_239, ea_z_250, (Or.inr ⟨we_z_250, de_z_250⟩), sm_z_250⟩, (ef_236.trans (ef_131.trans ef_96))⟩, ⟨by rw [ht]; exact hP, va_K.moved hW.alike hK, hD⟩⟩, hS.F ht⟩) hS.2.2 dX11_unit_209
        · refine lv_iload_n hx hb dX11_unit_104 rfl (lv_at hl 0 rfl) ?_
          refine lv_bipush (v := 61) hx hb dX11_unit_105 (by decide) ?_
          refine lv_icmp_eq (tgt := 116) hx hb dX11_unit_107 (by decide) (fun c_251 => ?_) (fun c_251 => ?_)
          · refine lv_aload_n hx hb dX11_unit_116 rfl (lv_at hl 3 rfl) ?_
            refine lv_dup hx hb dX11_unit_117 rfl ?_
            refine va_get (D := (dC, dI)) (ci := 11) (v := .int (v_88 47)) (C := RX11) (T := TX11) (N := 63) hx hb hts in_wsX11_unit_X11 hown hK hP 0 rfl rfl 47 (by decide) (hts (.fieldLink RX11 210 "ShipOfficeModel" "at" "I") iw_X11_unit_2) (fun _ h9 => h9) rfl dX11_unit_118 ?_
            refine lv_iconst (v := 1) hx hb dX11_unit_121 (by decide) ?_
            refine lv_iadd hx hb dX11_unit_122 ?_
            refine lv_topi (fun y ey => ?_)
            obtain rfl : y = nI (k_90 + 1) := ey.trans (by rw [ea_93]; exact nI_1 _)
            refine va_put (D := (dC, dI)) (ci := 11) (v := .int (nI (k_90 + 1))) (ty := .int) (C := RX11) (T := TX11) (N := 63) hx hb hts in_wsX11_unit_X11 tyX11 tyX11_ok nmX11 hown hK hP hD hS 0 rfl rfl 47 (by decide) (hts (.fieldLink RX11 210 "ShipOfficeModel" "at" "I") iw_X11_unit_2) (fun _ h9 => h9) rfl (by decide +kernel) rfl rfl (Nat.le_of_ble_eq_true rfl) dX11_unit_123 (fun H locs hP hD hS => ?_)
            have hP : va_P (dC, dI) vwCl (mW g0 pq cp (upd v_88 47 (nI (k_90 + 1))) fa_89) H := hP
            have hD : va_D A (mW g0 pq cp (upd v_88 47 (nI (k_90 + 1))) fa_89) := hD
            obtain ⟨z_252, ez_252⟩ : ∃ zq, zq = (upd v_88 47 (nI (k_90 + 1))) := ⟨_, rfl⟩
            rw [← ez_252] at hP hD
            have ea_z_252 : z_252 47 = nI (k_90 + 1) := by rw [ez_252]; rfl
            have es_z_252 : z_252 50 = nI n := by rw [ez_252]; exact es_v_88
            have hb_z_252 : z_252 49 < 0 ∨ ∃ j : Nat, j ≤ 1740 ∧ z_252 49 = nI j := by rw [ez_252]; exact hb_v_88
            have we_z_252 : z_252 51 = 1 := by rw [ez_252]; exact we_100
            have de_z_252 : z_252 48 = nI 5 := by rw [ez_252]; exact de_101
            have sm_z_252 : ∀ i, i ≠ 47 → i ≠ 48 → i ≠ 51 → z_252 i = v i := by intro i h1 h2 h3; rw [ez_252]; exact (if_neg h1).trans (sm_v_88 i h1 h2 h3)
            have hkn_z_252 : (k_90 + 1) ≤ n := (w_97.resolve_left (fun h => absurd (c_251.symm.trans h) (by decide)))
            have hk0_z_252 : k ≤ (k_90 + 1) := by omega
            refine lv_aload_n hx hb dX11_unit_126 rfl (lv_at hl 3 rfl) ?_
            have hFc := va_free (wc := (mW g0 pq cp z_252 fa_89)) hD hS hA (List.range 48) rfl
            refine va_calli (va_runV (As := []) (rest := []) ⟨hx, hb, hml, hown, hts⟩ (c_X11_sum_5 l dC dI H.size g0 pq cp z_252 fa_89 (k_90 + 1) n hkn_z_252 hn ea_z_252 es_z_252 hb_z_252 we_z_252 de_z_252) (cwV 0 hts gX11_unit_X11_sum rfl rfl rfl (by decide +kernel) ⟨(Nat.le_of_ble_eq_true rfl), (Nat.le_of_ble_eq_true rfl)⟩) (pr_V (r := (RX11, TX11, 63)) hP hK hD 0 11 rfl rfl) rfl rfl hl.1 rfl (lv_room (Nat.le_of_ble_eq_true rfl)) dX11_unit_127 ⟨(Nat.le_of_ble_eq_true rfl), (Nat.le_of_ble_eq_true rfl)⟩) hS (fun q _ h => hFc q h) hFc (fun r_254 u t H locs ht hvm w_253 hB hz1 hk1 hS => ?_)
            obtain ⟨v_255, fa_256⟩ := u
            obtain ⟨hP1, hK1, hD1⟩ := hB
            rw [ht] at hP1
            have hP : va_P (dC, dI) vwCl (mW g0 pq cp v_255 fa_256) H := hP1
            have hD : va_D A (mW g0 pq cp v_255 fa_256) := hD1.weaken (fun _ _ _ h => hFc _ h)
            clear hP1 hK1 hD1 hk1 hz1 hvm ht hFc
            obtain ⟨⟨k_257, ha_258, hb_259, ea_260, wd_261, sm_262⟩, ef_263⟩ := w_253
            dsimp only at ea_260 wd_261 sm_262 ef_263
            have es_v_255 : v_255 50 = nI n := (sm_262 50 (by decide) (by decide) (by decide)).trans es_z_252
            have hb_v_255 : v_255 49 < 0 ∨ ∃ j : Nat, j ≤ 1740 ∧ v_255 49 = nI j := by rw [sm_262 49 (by decide) (by decide) (by decide)]; exact hb_z_252
            have sm_v_255 : ∀ i, i ≠ 47 → i ≠ 48 → i ≠ 51 → v_255 i = v i := fun i h1 h2 h3 => (sm_262 i h1 h2 h3).trans (sm_z_252 i h1 h2 h3)
            refine lv_istore (lv' := [(4, .int r_254), (3, .int r_98), (2, .int r_87), (1, .int r_3), (0, .ref g0)]) hx hb dX11_unit_130 hl (by decide) rfl (fun ls hl => ?_)
            refine lv_iload_n hx hb dX11_unit_132 rfl (lv_at hl 1 rfl) ?_
            refine lv_bipush (v := 60) hx hb dX11_unit_133 (by decide) ?_
            refine lv_icmp_ne (tgt := 152) hx hb dX11_unit_135 (by decide) (fun c_264 => ?_) (fun c_264 => ?_)
            · refine lv_iload_n hx hb dX11_unit_152 rfl (lv_at hl 1 rfl) ?_
              refine lv_bipush (v := 61) hx hb dX11_unit_153 (by decide) ?_
              refine lv_icmp_ne (tgt := 172) hx hb dX11_unit_155 (by decide) (fun c_265 => ?_) (fun c_265 => ?_)
              · refine lv_iload_n hx hb dX11_unit_172 rfl (lv_at hl 2 rfl) ?_
                refine lv_iload hx hb dX11_unit_173 (lv_at hl 0 rfl) ?_
                refine lv_icmp_le (tgt := 182) hx hb dX11_unit_175 (by decide) (fun c_266 => ?_) (fun c_266 => ?_)
                · refine lv_iconst (v := 0) hx hb dX11_unit_182 (by decide) ?_
                  refine lv_istore_n (lv' := [(2, .int 0), (4, .int r_254), (3, .int r_98), (1, .int r_3), (0, .ref g0)]) hx hb dX11_unit_183 rfl hl (by decide) rfl (fun ls hl => ?_)
                  refine lv_aload_n hx hb dX11_unit_184 rfl (lv_at hl 4 rfl) ?_
                  refine lv_bipush (v := 41) hx hb dX11_unit_185 (by decide) ?_
                  have hFc := va_free (wc := (mW g0 pq cp v_255 fa_256)) hD hS hA (List.range 48) rfl
                  refine va_calli (va_runV (As := [.int 41]) (rest := []) ⟨hx, hb, hml, hown, hts⟩ (c_X11_takes_b l dC dI H.size g0 pq cp v_255 fa_256 k_257 n hb_259 hn ea_260 es_v_255 hb_v_255 41 (by decide)) (cwV 1 hts gX11_unit_X11_takes rfl rfl rfl (by decide +kernel) ⟨(Nat.le_of_ble_eq_true rfl), (Nat.le_of_ble_eq_true rfl)⟩) (pr_V (r := (RX11, TX11, 63)) hP hK hD 0 11 rfl rfl) rfl rfl hl.1 rfl (lv_room (Nat.le_of_ble_eq_true rfl)) dX11_unit_187 ⟨(Nat.le_of_ble_eq_true rfl), (Nat.le_of_ble_eq_true rfl)⟩) hS (fun q _ h => hFc q h) hFc (fun r_268 u t H locs ht hvm w_267 hB hz1 hk1 hS => ?_)
                  obtain ⟨v_269, fa_270⟩ := u
                  obtain ⟨hP1, hK1, hD1⟩ := hB
                  rw [ht] at hP1
                  have hP : va_P (dC, dI) vwCl (mW g0 pq cp v_269 fa_270) H := hP1
                  have hD : va_D A (mW g0 pq cp v_269 fa_270) := hD1.weaken (fun _ _ _ h => hFc _ h)
                  clear hP1 hK1 hD1 hk1 hz1 hvm ht hFc
                  obtain ⟨ef_271, w_267⟩ := w_267
                  dsimp only at ef_271 w_267
                  rcases w_267 with ⟨rfl, ev_272⟩ | ⟨rfl, hwe_273, hlt_274, ev_272⟩
                  · have ea_v_269 : v_269 47 = nI k_257 := by rw [ev_272]; exact ea_260
                    have es_v_269 : v_269 50 = nI n := by rw [ev_272]; exact es_v_255
                    have hb_v_269 : v_269 49 < 0 ∨ ∃ j : Nat, j ≤ 1740 ∧ v_269 49 = nI j := by rw [ev_272]; exact hb_v_255
                    have sm_v_269 : ∀ i, i ≠ 47 → i ≠ 48 → i ≠ 51 → v_269 i = v i := by rw [ev_272]; exact sm_v_255
                    refine lv_if_ne (tgt := 198) hx hb dX11_unit_190 (by decide) (fun c_275 => absurd c_275 (by decide)) (fun _ => ?_)
                    refine lv_aload_n hx hb dX11_unit_193 rfl (lv_at hl 4 rfl) ?_
                    have hFc := va_free (wc := (mW g0 pq cp v_269 fa_270)) hD hS hA (List.range 48) rfl
                    refine va_calli (va_runV (As := []) (rest := []) ⟨hx, hb, hml, hown, hts⟩ (c_X11_breaks l dC dI H.size g0 pq cp v_269 fa_270) (cwV 0 hts gX11_unit_X11_breaks rfl rfl rfl (by decide +kernel) ⟨(Nat.le_of_ble_eq_true rfl), (Nat.le_of_ble_eq_true rfl)⟩) (pr_V (r := (RX11, TX11, 63)) hP hK hD 0 11 rfl rfl) rfl rfl hl.1 rfl (lv_room (Nat.le_of_ble_eq_true rfl)) dX11_unit_194 ⟨(Nat.le_of_ble_eq_true rfl), (Nat.le_of_ble_eq_true rfl)⟩) hS (fun q _ h => hFc q h) hFc (fun r_277 u t H locs ht hvm w_276 hB hz1 hk1 hS => ?_)
                    obtain ⟨v_278, fa_279⟩ := u
                    obtain ⟨hP1, hK1, hD1⟩ := hB
                    rw [ht] at hP1
                    have hP : va_P (dC, dI) vwCl (mW g0 pq cp v_278 fa_279) H := hP1
                    have hD : va_D A (mW g0 pq cp v_278 fa_279) := hD1.weaken (fun _ _ _ h => hFc _ h)
                    clear hP1 hK1 hD1 hk1 hz1 hvm ht hFc
                    obtain ⟨rfl, ev_280, ef_281⟩ := w_276
                    dsimp only at ev_280 ef_281
                    have ea_v_278 : v_278 47 = nI k_257 := by rw [ev_280]; exact ea_v_269
                    have es_v_278 : v_278 50 = nI n := by rw [ev_280]; exact es_v_269
                    have hb_v_278 : v_278 49 < 0 ∨ ∃ j : Nat, j ≤ 1740 ∧ v_278 49 = nI j := by rw [ev_280]; exact hb_v_269
                    have we_v_278 : v_278 51 = 0 := by rw [ev_280]; rfl
                    have sm_v_278 : ∀ i, i ≠ 47 → i ≠ 48 → i ≠ 51 → v_278 i = v i := by intro i h1 h2 h3; rw [ev_280]; exact (if_neg h3).trans (sm_v_269 i h1 h2 h3)
                    exact W.iret (v := 0) hx hb hr (fun t ht hW => ⟨⟨0, (v_278, fa_279), rfl, ⟨⟨k_257, by omega, hb_259, ea_v_278, (Or.inl we_v_278), sm_v_278⟩, (ef_281.trans (ef_271.trans (ef_263.trans ef_96)))⟩, ⟨by rw [ht]; exact hP, va_K.moved hW.alike hK, hD⟩⟩, hS.F ht⟩) hS.2.2 dX11_unit_197
                  · have ea_v_269 : v_269 47 = nI (k_257 + 1) := by rw [ev_272]; show v_255 47 + 1 = _; rw [ea_260]; exact nI_1 _
                    have es_v_269 : v_269 50 = nI n := by rw [ev_272]; exact es_v_255
                    have hb_v_269 : v_269 49 < 0 ∨ ∃ j : Nat, j ≤ 1740 ∧ v_269 49 = nI j := by rw [ev_272]; exact hb_v_255
                    have sm_v_269 : ∀ i, i ≠ 47 → i ≠ 48 → i ≠ 51 → v_269 i = v i := by intro i h1 h2 h3; rw [ev_272]; exact (if_neg h1).trans (sm_v_255 i h1 h2 h3)
                    obtain ⟨we_282, de_283⟩ := Or.resolve_left wd_261 hwe_273
                    have we_v_269 : v_269 51 = 1 := by rw [ev_272]; exact we_282
                    have de_v_269 : v_269 48 = nI 5 := by rw [ev_272]; exact de_283
                    refine lv_if_ne (tgt := 198) hx hb dX11_unit_190 (by decide) (fun _ => ?_) (fun c_284 => absurd c_284 (by decide))
                    refine lv_aload_n hx hb dX11_unit_198 rfl (lv_at hl 4 rfl) ?_
                    refine lv_dup hx hb dX11_unit_199 rfl ?_
                    refine va_get (D := (dC, dI)) (ci := 11) (v := .int (v_269 48)) (C := RX11) (T := TX11) (N := 63) hx hb hts in_wsX11_unit_X11 hown hK hP 0 rfl rfl 48 (by decide) (hts (.fieldLink RX11 244 "ShipOfficeModel" "deep" "I") iw_X11_unit_3) (fun _ h9 => h9) rfl dX11_unit_200 ?_
                    refine lv_topi (fun y ey => ?_)
                    obtain rfl : y = 5 := ey.trans (de_v_269.trans (by decide))
                    refine lv_iconst (v := 1) hx hb dX11_unit_203 (by decide) ?_
                    refine lv_isub hx hb dX11_unit_204 ?_
                    refine lv_topi (fun y ey => ?_)
                    obtain rfl : y = 4 := ey.trans (by decide)
                    refine va_put (D := (dC, dI)) (ci := 11) (v := .int 4) (ty := .int) (C := RX11) (T := TX11) (N := 63) hx hb hts in_wsX11_unit_X11 tyX11 tyX11_ok nmX11 hown hK hP hD hS 0 rfl rfl 48 (by decide) (hts (.fieldLink RX11 244 "ShipOfficeModel" "deep" "I") iw_X11_unit_3) (fun _ h9 => h9) rfl (by decide +kernel) rfl rfl (Nat.le_of_ble_eq_true rfl) dX11_unit_205 (fun H locs hP hD hS => ?_)
                    have hP : va_P (dC, dI) vwCl (mW g0 pq cp (upd v_269 48 4) fa_270) H := hP
                    have hD : va_D A (mW g0 pq cp (upd v_269 48 4) fa_270) := hD
                    obtain ⟨z_285, ez_285⟩ : ∃ zq, zq = (upd v_269 48 4) := ⟨_, rfl⟩
                    rw [← ez_285] at hP hD
                    have ea_z_285 : z_285 47 = nI (k_257 + 1) := by rw [ez_285]; exact ea_v_269
                    have es_z_285 : z_285 50 = nI n := by rw [ez_285]; exact es_v_269
                    have hb_z_285 : z_285 49 < 0 ∨ ∃ j : Nat, j ≤ 1740 ∧ z_285 49 = nI j := by rw [ez_285]; exact hb_v_269
                    have we_z_285 : z_285 51 = 1 := by rw [ez_285]; exact we_v_269
                    have de_z_285 : z_285 48 = nI 4 := by rw [ez_285]; rfl
                    have sm_z_285 : ∀ i, i ≠ 47 → i ≠ 48 → i ≠ 51 → z_285 i = v i := by intro i h1 h2 h3; rw [ez_285]; exact (if_neg h2).trans (sm_v_269 i h1 h2 h3)
                    refine lv_iload_n hx hb dX11_unit_208 rfl (lv_at hl 0 rfl) ?_
                    exact W.iret (v := 0) hx hb hr (fun t ht hW => ⟨⟨0, (z_285, fa_270), rfl, ⟨⟨(k_257 + 1), by omega, hlt_274, ea_z_285, (Or.inr ⟨we_z_285, de_z_285⟩), sm_z_285⟩, (ef_271.trans (ef_263.trans ef_96))⟩, ⟨by rw [ht]; exact hP, va_K.moved hW.alike hK, hD⟩⟩, hS.F ht⟩) hS.2.2 dX11_unit_209
                · refine lv_iconst (v := 1) hx hb dX11_unit_178 (by decide) ?_
                  refine lv_goto (tgt := 183) hx hb dX11_unit_179 (by decide) ?_
                  refine lv_istore_n (lv' := [(2, .int 1), (4, .int r_254), (3, .int r_98), (1, .int r_3), (0, .ref g0)]) hx hb dX11_unit_183 rfl hl (by decide) rfl (fun ls hl => ?_)
                  refine lv_aload_n hx hb dX11_unit_184 rfl (lv_at hl 4 rfl) ?_
                  refine lv_bipush (v := 41) hx hb dX11_unit_185 (by decide) ?_
                  have hFc := va_free (wc := (mW g0 pq cp v_255 fa_256)) hD hS hA (List.range 48) rfl
                  refine va_calli (va_runV (As := [.int 41]) (rest := []) ⟨hx, hb, hml, hown, hts⟩ (c_X11_takes_b l dC dI H.size g0 pq cp v_255 fa_256 k_257 n hb_259 hn ea_260 es_v_255 hb_v_255 41 (by decide)) (cwV 1 hts gX11_unit_X11_takes rfl rfl rfl (by decide +kernel) ⟨(Nat.le_of_ble_eq_true rfl), (Nat.le_of_ble_eq_true rfl)⟩) (pr_V (r := (RX11, TX11, 63)) hP hK hD 0 11 rfl rfl) rfl rfl hl.1 rfl (lv_room (Nat.le_of_ble_eq_true rfl)) dX11_unit_187 ⟨(Nat.le_of_ble_eq_true rfl), (Nat.le_of_ble_eq_true rfl)⟩) hS (fun q _ h => hFc q h) hFc (fun r_287 u t H locs ht hvm w_286 hB hz1 hk1 hS => ?_)
                  obtain ⟨v_288, fa_289⟩ := u
                  obtain ⟨hP1, hK1, hD1⟩ := hB
                  rw [ht] at hP1
                  have hP : va_P (dC, dI) vwCl (mW g0 pq cp v_288 fa_289) H := hP1
                  have hD : va_D A (mW g0 pq cp v_288 fa_289) := hD1.weaken (fun _ _ _ h => hFc _ h)
                  clear hP1 hK1 hD1 hk1 hz1 hvm ht hFc
                  obtain ⟨ef_290, w_286⟩ := w_286
                  dsimp only at ef_290 w_286
                  rcases w_286 with ⟨rfl, ev_291⟩ | ⟨rfl, hwe_292, hlt_293, ev_291⟩
                  · have ea_v_288 : v_288 47 = nI k_257 := by rw [ev_291]; exact ea_260
                    have es_v_288 : v_288 50 = nI n := by rw [ev_291]; exact es_v_255
                    have hb_v_288 : v_288 49 < 0 ∨ ∃ j : Nat, j ≤ 1740 ∧ v_288 49 = nI j := by rw [ev_291]; exact hb_v_255
                    have sm_v_288 : ∀ i, i ≠ 47 → i ≠ 48 → i ≠ 51 → v_288 i = v i := by rw [ev_291]; exact sm_v_255
                    refine lv_if_ne (tgt := 198) hx hb dX11_unit_190 (by decide) (fun c_294 => absurd c_294 (by decide)) (fun _ => ?_)
                    refine lv_aload_n hx hb dX11_unit_193 rfl (lv_at hl 4 rfl) ?_
                    have hFc := va_free (wc := (mW g0 pq cp v_288 fa_289)) hD hS hA (List.range 48) rfl
                    refine va_calli (va_runV (As := []) (rest := []) ⟨hx, hb, hml, hown, hts⟩ (c_X11_breaks l dC dI H.size g0 pq cp v_288 fa_289) (cwV 0 hts gX11_unit_X11_breaks rfl rfl rfl (by decide +kernel) ⟨(Nat.le_of_ble_eq_true rfl), (Nat.le_of_ble_eq_true rfl)⟩) (pr_V (r := (RX11, TX11, 63)) hP hK hD 0 11 rfl rfl) rfl rfl hl.1 rfl (lv_room (Nat.le_of_ble_eq_true rfl)) dX11_unit_194 ⟨(Nat.le_of_ble_eq_true rfl), (Nat.le_of_ble_eq_true rfl)⟩) hS (fun q _ h => hFc q h) hFc (fun r_296 u t H locs ht hvm w_295 hB hz1 hk1 hS => ?_)
                    obtain ⟨v_297, fa_298⟩ := u
                    obtain ⟨hP1, hK1, hD1⟩ := hB
                    rw [ht] at hP1
                    have hP : va_P (dC, dI) vwCl (mW g0 pq cp v_297 fa_298) H := hP1
                    have hD : va_D A (mW g0 pq cp v_297 fa_298) := hD1.weaken (fun _ _ _ h => hFc _ h)
                    clear hP1 hK1 hD1 hk1 hz1 hvm ht hFc
                    obtain ⟨rfl, ev_299, ef_300⟩ := w_295
                    dsimp only at ev_299 ef_300
                    have ea_v_297 : v_297 47 = nI k_257 := by rw [ev_299]; exact ea_v_288
                    have es_v_297 : v_297 50 = nI n := by rw [ev_299]; exact es_v_288
                    have hb_v_297 : v_297 49 < 0 ∨ ∃ j : Nat, j ≤ 1740 ∧ v_297 49 = nI j := by rw [ev_299]; exact hb_v_288
                    have we_v_297 : v_297 51 = 0 := by rw [ev_299]; rfl
                    have sm_v_297 : ∀ i, i ≠ 47 → i ≠ 48 → i ≠ 51 → v_297 i = v i := by intro i h1 h2 h3; rw [ev_299]; exact (if_neg h3).trans (sm_v_288 i h1 h2 h3)
                    exact W.iret (v := 0) hx hb hr (fun t ht hW => ⟨⟨0, (v_297, fa_298), rfl, ⟨⟨k_257, by omega, hb_259, ea_v_297, (Or.inl we_v_297), sm_v_297⟩, (ef_300.trans (ef_290.trans (ef_263.trans ef_96)))⟩, ⟨by rw [ht]; exact hP, va_K.moved hW.alike hK, hD⟩⟩, hS.F ht⟩) hS.2.2 dX11_unit_197
                  · have ea_v_288 : v_288 47 = nI (k_257 + 1) := by rw [ev_291]; show v_255 47 + 1 = _; rw [ea_260]; exact nI_1 _
                    have es_v_288 : v_288 50 = nI n := by rw [ev_291]; exact es_v_255
                    have hb_v_288 : v_288 49 < 0 ∨ ∃ j : Nat, j ≤ 1740 ∧ v_288 49 = nI j := by rw [ev_291]; exact hb_v_255
                    have sm_v_288 : ∀ i, i ≠ 47 → i ≠ 48 → i ≠ 51 → v_288 i = v i := by intro i h1 h2 h3; rw [ev_291]; exact (if_neg h1).trans (sm_v_255 i h1 h2 h3)
                    obtain ⟨we_301, de_302⟩ := Or.resolve_left wd_261 hwe_292
                    have we_v_288 : v_288 51 = 1 := by rw [ev_291]; exact we_301
                    have de_v_288 : v_288 48 = nI 5 := by rw [ev_291]; exact de_302
                    refine lv_if_ne (tgt := 198) hx hb dX11_unit_190 (by decide) (fun _ => ?_) (fun c_303 => absurd c_303 (by decide))
                    refine lv_aload_n hx hb dX11_unit_198 rfl (lv_at hl 4 rfl) ?_
                    refine lv_dup hx hb dX11_unit_199 rfl ?_
                    refine va_get (D := (dC, dI)) (ci := 11) (v := .int (v_288 48)) (C := RX11) (T := TX11) (N := 63) hx hb hts in_wsX11_unit_X11 hown hK hP 0 rfl rfl 48 (by decide) (hts (.fieldLink RX11 244 "ShipOfficeModel" "deep" "I") iw_X11_unit_3) (fun _ h9 => h9) rfl dX11_unit_200 ?_
                    refine lv_topi (fun y ey => ?_)
                    obtain rfl : y = 5 := ey.trans (de_v_288.trans (by decide))
                    refine lv_iconst (v := 1) hx hb dX11_unit_203 (by decide) ?_
                    refine lv_isub hx hb dX11_unit_204 ?_
                    refine lv_topi (fun y ey => ?_)
                    obtain rfl : y = 4 := ey.trans (by decide)
                    refine va_put (D := (dC, dI)) (ci := 11) (v := .int 4) (ty := .int) (C := RX11) (T := TX11) (N := 63) hx hb hts in_wsX11_unit_X11 tyX11 tyX11_ok nmX11 hown hK hP hD hS 0 rfl rfl 48 (by decide) (hts (.fieldLink RX11 244 "ShipOfficeModel" "deep" "I") iw_X11_unit_3) (fun _ h9 => h9) rfl (by decide +kernel) rfl rfl (Nat.le_of_ble_eq_true rfl) dX11_unit_205 (fun H locs hP hD hS => ?_)
                    have hP : va_P (dC, dI) vwCl (mW g0 pq cp (upd v_288 48 4) fa_289) H := hP
                    have hD : va_D A (mW g0 pq cp (upd v_288 48 4) fa_289) := hD
                    obtain ⟨z_304, ez_304⟩ : ∃ zq, zq = (upd v_288 48 4) := ⟨_, rfl⟩
                    rw [← ez_304] at hP hD
                    have ea_z_304 : z_304 47 = nI (k_257 + 1) := by rw [ez_304]; exact ea_v_288
                    have es_z_304 : z_304 50 = nI n := by rw [ez_304]; exact es_v_288
                    have hb_z_304 : z_304 49 < 0 ∨ ∃ j : Nat, j ≤ 1740 ∧ z_304 49 = nI j := by rw [ez_304]; exact hb_v_288
                    have we_z_304 : z_304 51 = 1 := by rw [ez_304]; exact we_v_288
                    have de_z_304 : z_304 48 = nI 4 := by rw [ez_304]; rfl
                    have sm_z_304 : ∀ i, i ≠ 47 → i ≠ 48 → i ≠ 51 → z_304 i = v i := by intro i h1 h2 h3; rw [ez_304]; exact (if_neg h2).trans (sm_v_288 i h1 h2 h3)
                    refine lv_iload_n hx hb dX11_unit_208 rfl (lv_at hl 0 rfl) ?_
                    exact W.iret (v := 1) hx hb hr (fun t ht hW => ⟨⟨1, (z_304, fa_289), rfl, ⟨⟨(k_257 + 1), by omega, hlt_293, ea_z_304, (Or.inr ⟨we_z_304, de_z_304⟩), sm_z_304⟩, (ef_290.trans (ef_263.trans ef_96))⟩, ⟨by rw [ht]; exact hP, va_K.moved hW.alike hK, hD⟩⟩, hS.F ht⟩) hS.2.2 dX11_unit_209
              · refine lv_iload_n hx hb dX11_unit_158 rfl (lv_at hl 2 rfl) ?_
                refine lv_iload hx hb dX11_unit_159 (lv_at hl 0 rfl) ?_
                refine lv_icmp_ne (tgt := 168) hx hb dX11_unit_161 (by decide) (fun c_305 => ?_) (fun c_305 => ?_)
                · refine lv_iconst (v := 0) hx hb dX11_unit_168 (by decide) ?_
                  refine lv_goto (tgt := 183) hx hb dX11_unit_169 (by decide) ?_
                  refine lv_istore_n (lv' := [(2, .int 0), (4, .int r_254), (3, .int r_98), (1, .int r_3), (0, .ref g0)]) hx hb dX11_unit_183 rfl hl (by decide) rfl (fun ls hl => ?_)
                  refine lv_aload_n hx hb dX11_unit_184 rfl (lv_at hl 4 rfl) ?_
                  refine lv_bipush (v := 41) hx hb dX11_unit_185 (by decide) ?_
                  have hFc := va_free (wc := (mW g0 pq cp v_255 fa_256)) hD hS hA (List.range 48) rfl
                  refine va_calli (va_runV (As := [.int 41]) (rest := []) ⟨hx, hb, hml, hown, hts⟩ (c_X11_takes_b l dC dI H.size g0 pq cp v_255 fa_256 k_257 n hb_259 hn ea_260 es_v_255 hb_v_255 41 (by decide)) (cwV 1 hts gX11_unit_X11_takes rfl rfl rfl (by decide +kernel) ⟨(Nat.le_of_ble_eq_true rfl), (Nat.le_of_ble_eq_true rfl)⟩) (pr_V (r := (RX11, TX11, 63)) hP hK hD 0 11 rfl rfl) rfl rfl hl.1 rfl (lv_room (Nat.le_of_ble_eq_true rfl)) dX11_unit_187 ⟨(Nat.le_of_ble_eq_true rfl), (Nat.le_of_ble_eq_true rfl)⟩) hS (fun q _ h => hFc q h) hFc (fun r_307 u t H locs ht hvm w_306 hB hz1 hk1 hS => ?_)
                  obtain ⟨v_308, fa_309⟩ := u
                  obtain ⟨hP1, hK1, hD1⟩ := hB
                  rw [ht] at hP1
                  have hP : va_P (dC, dI) vwCl (mW g0 pq cp v_308 fa_309) H := hP1
                  have hD : va_D A (mW g0 pq cp v_308 fa_309) := hD1.weaken (fun _ _ _ h => hFc _ h)
                  clear hP1 hK1 hD1 hk1 hz1 hvm ht hFc
                  obtain ⟨ef_310, w_306⟩ := w_306
                  dsimp only at ef_310 w_306
                  rcases w_306 with ⟨rfl, ev_311⟩ | ⟨rfl, hwe_312, hlt_313, ev_311⟩
                  · have ea_v_308 : v_308 47 = nI k_257 := by rw [ev_311]; exact ea_260
                    have es_v_308 : v_308 50 = nI n := by rw [ev_311]; exact es_v_255
                    have hb_v_308 : v_308 49 < 0 ∨ ∃ j : Nat, j ≤ 1740 ∧ v_308 49 = nI j := by rw [ev_311]; exact hb_v_255
                    have sm_v_308 : ∀ i, i ≠ 47 → i ≠ 48 → i ≠ 51 → v_308 i = v i := by rw [ev_311]; exact sm_v_255
                    refine lv_if_ne (tgt := 198) hx hb dX11_unit_190 (by decide) (fun c_314 => absurd c_314 (by decide)) (fun _ => ?_)
                    refine lv_aload_n hx hb dX11_unit_193 rfl (lv_at hl 4 rfl) ?_
                    have hFc := va_free (wc := (mW g0 pq cp v_308 fa_309)) hD hS hA (List.range 48) rfl
                    refine va_calli (va_runV (As := []) (rest := []) ⟨hx, hb, hml, hown, hts⟩ (c_X11_breaks l dC dI H.size g0 pq cp v_308 fa_309) (cwV 0 hts gX11_unit_X11_breaks rfl rfl rfl (by decide +kernel) ⟨(Nat.le_of_ble_eq_true rfl), (Nat.le_of_ble_eq_true rfl)⟩) (pr_V (r := (RX11, TX11, 63)) hP hK hD 0 11 rfl rfl) rfl rfl hl.1 rfl (lv_room (Nat.le_of_ble_eq_true rfl)) dX11_unit_194 ⟨(Nat.le_of_ble_eq_true rfl), (Nat.le_of_ble_eq_true rfl)⟩) hS (fun q _ h => hFc q h) hFc (fun r_316 u t H locs ht hvm w_315 hB hz1 hk1 hS => ?_)
                    obtain ⟨v_317, fa_318⟩ := u
                    obtain ⟨hP1, hK1, hD1⟩ := hB
                    rw [ht] at hP1
                    have hP : va_P (dC, dI) vwCl (mW g0 pq cp v_317 fa_318) H := hP1
                    have hD : va_D A (mW g0 pq cp v_317 fa_318) := hD1.weaken (fun _ _ _ h => hFc _ h)
                    clear hP1 hK1 hD1 hk1 hz1 hvm ht hFc
                    obtain ⟨rfl, ev_319, ef_320⟩ := w_315
                    dsimp only at ev_319 ef_320
                    have ea_v_317 : v_317 47 = nI k_257 := by rw [ev_319]; exact ea_v_308
                    have es_v_317 : v_317 50 = nI n := by rw [ev_319]; exact es_v_308
                    have hb_v_317 : v_317 49 < 0 ∨ ∃ j : Nat, j ≤ 1740 ∧ v_317 49 = nI j := by rw [ev_319]; exact hb_v_308
                    have we_v_317 : v_317 51 = 0 := by rw [ev_319]; rfl
                    have sm_v_317 : ∀ i, i ≠ 47 → i ≠ 48 → i ≠ 51 → v_317 i = v i := by intro i h1 h2 h3; rw [ev_319]; exact (if_neg h3).trans (sm_v_308 i h1 h2 h3)
                    exact W.iret (v := 0) hx hb hr (fun t ht hW => ⟨⟨0, (v_317, fa_318), rfl, ⟨⟨k_257, by omega, hb_259, ea_v_317, (Or.inl we_v_317), sm_v_317⟩, (ef_320.trans (ef_310.trans (ef_263.trans ef_96)))⟩, ⟨by rw [ht]; exact hP, va_K.moved hW.alike hK, hD⟩⟩, hS.F ht⟩) hS.2.2 dX11_unit_197
                  · have ea_v_308 : v_308 47 = nI (k_257 + 1) := by rw [ev_311]; show v_255 47 + 1 = _; rw [ea_260]; exact nI_1 _
                    have es_v_308 : v_308 50 = nI n := by rw [ev_311]; exact es_v_255
                    have hb_v_308 : v_308 49 < 0 ∨ ∃ j : Nat, j ≤ 1740 ∧ v_308 49 = nI j := by rw [ev_311]; exact hb_v_255
                    have sm_v_308 : ∀ i, i ≠ 47 → i ≠ 48 → i ≠ 51 → v_308 i = v i := by intro i h1 h2 h3; rw [ev_311]; exact (if_neg h1).trans (sm_v_255 i h1 h2 h3)
                    obtain ⟨we_321, de_322⟩ := Or.resolve_left wd_261 hwe_312
                    have we_v_308 : v_308 51 = 1 := by rw [ev_311]; exact we_321
                    have de_v_308 : v_308 48 = nI 5 := by rw [ev_311]; exact de_322
                    refine lv_if_ne (tgt := 198) hx hb dX11_unit_190 (by decide) (fun _ => ?_) (fun c_323 => absurd c_323 (by decide))
                    refine lv_aload_n hx hb dX11_unit_198 rfl (lv_at hl 4 rfl) ?_
                    refine lv_dup hx hb dX11_unit_199 rfl ?_
                    refine va_get (D := (dC, dI)) (ci := 11) (v := .int (v_308 48)) (C := RX11) (T := TX11) (N := 63) hx hb hts in_wsX11_unit_X11 hown hK hP 0 rfl rfl 48 (by decide) (hts (.fieldLink RX11 244 "ShipOfficeModel" "deep" "I") iw_X11_unit_3) (fun _ h9 => h9) rfl dX11_unit_200 ?_
                    refine lv_topi (fun y ey => ?_)
                    obtain rfl : y = 5 := ey.trans (de_v_308.trans (by decide))
                    refine lv_iconst (v := 1) hx hb dX11_unit_203 (by decide) ?_
                    refine lv_isub hx hb dX11_unit_204 ?_
                    refine lv_topi (fun y ey => ?_)
                    obtain rfl : y = 4 := ey.trans (by decide)
                    refine va_put (D := (dC, dI)) (ci := 11) (v := .int 4) (ty := .int) (C := RX11) (T := TX11) (N := 63) hx hb hts in_wsX11_unit_X11 tyX11 tyX11_ok nmX11 hown hK hP hD hS 0 rfl rfl 48 (by decide) (hts (.fieldLink RX11 244 "ShipOfficeModel" "deep" "I") iw_X11_unit_3) (fun _ h9 => h9) rfl (by decide +kernel) rfl rfl (Nat.le_of_ble_eq_true rfl) dX11_unit_205 (fun H locs hP hD hS => ?_)
                    have hP : va_P (dC, dI) vwCl (mW g0 pq cp (upd v_308 48 4) fa_309) H := hP
                    have hD : va_D A (mW g0 pq cp (upd v_308 48 4) fa_309) := hD
                    obtain ⟨z_324, ez_324⟩ : ∃ zq, zq = (upd v_308 48 4) := ⟨_, rfl⟩
                    rw [← ez_324] at hP hD
                    have ea_z_324 : z_324 47 = nI (k_257 + 1) := by rw [ez_324]; exact ea_v_308
                    have es_z_324 : z_324 50 = nI n := by rw [ez_324]; exact es_v_308
                    have hb_z_324 : z_324 49 < 0 ∨ ∃ j : Nat, j ≤ 1740 ∧ z_324 49 = nI j := by rw [ez_324]; exact hb_v_308
                    have we_z_324 : z_324 51 = 1 := by rw [ez_324]; exact we_v_308
                    have de_z_324 : z_324 48 = nI 4 := by rw [ez_324]; rfl
                    have sm_z_324 : ∀ i, i ≠ 47 → i ≠ 48 → i ≠ 51 → z_324 i = v i := by intro i h1 h2 h3; rw [ez_324]; exact (if_neg h2).trans (sm_v_308 i h1 h2 h3)
                    refine lv_iload_n hx hb dX11_unit_208 rfl (lv_at hl 0 rfl) ?_
                    exact W.iret (v := 0) hx hb hr (fun t ht hW => ⟨⟨0, (z_324, fa_309), rfl, ⟨⟨(k_257 + 1), by omega, hlt_313, ea_z_324, (Or.inr ⟨we_z_324, de_z_324⟩), sm_z_324⟩, (ef_310.trans (ef_263.trans ef_96))⟩, ⟨by rw [ht]; exact hP, va_K.moved hW.alike hK, hD⟩⟩, hS.F ht⟩) hS.2.2 dX11_unit_209
                · refine lv_iconst (v := 1) hx hb dX11_unit_164 (by decide) ?_
                  refine lv_goto (tgt := 183) hx hb dX11_unit_165 (by decide) ?_
                  refine lv_istore_n (lv' := [(2, .int 1), (4, .int r_254), (3, .int r_98), (1, .int r_3), (0, .ref g0)]) hx hb dX11_unit_183 rfl hl (by decide) rfl (fun ls hl => ?_)
                  refine lv_aload_n hx hb dX11_unit_184 rfl (lv_at hl 4 rfl) ?_
                  refine lv_bipush (v := 41) hx hb dX11_unit_185 (by decide) ?_
                  have hFc := va_free (wc := (mW g0 pq cp v_255 fa_256)) hD hS hA (List.range 48) rfl
                  refine va_calli (va_runV (As := [.int 41]) (rest := []) ⟨hx, hb, hml, hown, hts⟩ (c_X11_takes_b l dC dI H.size g0 pq cp v_255 fa_256 k_257 n hb_259 hn ea_260 es_v_255 hb_v_255 41 (by decide)) (cwV 1 hts gX11_unit_X11_takes rfl rfl rfl (by decide +kernel) ⟨(Nat.le_of_ble_eq_true rfl), (Nat.le_of_ble_eq_true rfl)⟩) (pr_V (r := (RX11, TX11, 63)) hP hK hD 0 11 rfl rfl) rfl rfl hl.1 rfl (lv_room (Nat.le_of_ble_eq_true rfl)) dX11_unit_187 ⟨(Nat.le_of_ble_eq_true rfl), (Nat.le_of_ble_eq_true rfl)⟩) hS (fun q _ h => hFc q h) hFc (fun r_326 u t H locs ht hvm w_325 hB hz1 hk1 hS => ?_)
                  obtain ⟨v_327, fa_328⟩ := u
                  obtain ⟨hP1, hK1, hD1⟩ := hB
                  rw [ht] at hP1
                  have hP : va_P (dC, dI) vwCl (mW g0 pq cp v_327 fa_328) H := hP1
                  have hD : va_D A (mW g0 pq cp v_327 fa_328) := hD1.weaken (fun _ _ _ h => hFc _ h)
                  clear hP1 hK1 hD1 hk1 hz1 hvm ht hFc
                  obtain ⟨ef_329, w_325⟩ := w_325
                  dsimp only at ef_329 w_325
                  rcases w_325 with ⟨rfl, ev_330⟩ | ⟨rfl, hwe_331, hlt_332, ev_330⟩
                  · have ea_v_327 : v_327 47 = nI k_257 := by rw [ev_330]; exact ea_260
                    have es_v_327 : v_327 50 = nI n := by rw [ev_330]; exact es_v_255
                    have hb_v_327 : v_327 49 < 0 ∨ ∃ j : Nat, j ≤ 1740 ∧ v_327 49 = nI j := by rw [ev_330]; exact hb_v_255
                    have sm_v_327 : ∀ i, i ≠ 47 → i ≠ 48 → i ≠ 51 → v_327 i = v i := by rw [ev_330]; exact sm_v_255
                    refine lv_if_ne (tgt := 198) hx hb dX11_unit_190 (by decide) (fun c_333 => absurd c_333 (by decide)) (fun _ => ?_)
                    refine lv_aload_n hx hb dX11_unit_193 rfl (lv_at hl 4 rfl) ?_
                    have hFc := va_free (wc := (mW g0 pq cp v_327 fa_328)) hD hS hA (List.range 48) rfl
                    refine va_calli (va_runV (As := []) (rest := []) ⟨hx, hb, hml, hown, hts⟩ (c_X11_breaks l dC dI H.size g0 pq cp v_327 fa_328) (cwV 0 hts gX11_unit_X11_breaks rfl rfl rfl (by decide +kernel) ⟨(Nat.le_of_ble_eq_true rfl), (Nat.le_of_ble_eq_true rfl)⟩) (pr_V (r := (RX11, TX11, 63)) hP hK hD 0 11 rfl rfl) rfl rfl hl.1 rfl (lv_room (Nat.le_of_ble_eq_true rfl)) dX11_unit_194 ⟨(Nat.le_of_ble_eq_true rfl), (Nat.le_of_ble_eq_true rfl)⟩) hS (fun q _ h => hFc q h) hFc (fun r_335 u t H locs ht hvm w_334 hB hz1 hk1 hS => ?_)
                    obtain ⟨v_336, fa_337⟩ := u
                    obtain ⟨hP1, hK1, hD1⟩ := hB
                    rw [ht] at hP1
                    have hP : va_P (dC, dI) vwCl (mW g0 pq cp v_336 fa_337) H := hP1
                    have hD : va_D A (mW g0 pq cp v_336 fa_337) := hD1.weaken (fun _ _ _ h => hFc _ h)
                    clear hP1 hK1 hD1 hk1 hz1 hvm ht hFc
                    obtain ⟨rfl, ev_338, ef_339⟩ := w_334
                    dsimp only at ev_338 ef_339
                    have ea_v_336 : v_336 47 = nI k_257 := by rw [ev_338]; exact ea_v_327
                    have es_v_336 : v_336 50 = nI n := by rw [ev_338]; exact es_v_327
                    have hb_v_336 : v_336 49 < 0 ∨ ∃ j : Nat, j ≤ 1740 ∧ v_336 49 = nI j := by rw [ev_338]; exact hb_v_327
                    have we_v_336 : v_336 51 = 0 := by rw [ev_338]; rfl
                    have sm_v_336 : ∀ i, i ≠ 47 → i ≠ 48 → i ≠ 51 → v_336 i = v i := by intro i h1 h2 h3; rw [ev_338]; exact (if_neg h3).trans (sm_v_327 i h1 h2 h3)
                    exact W.iret (v := 0) hx hb hr (fun t ht hW => ⟨⟨0, (v_336, fa_337), rfl, ⟨⟨k_257, by omega, hb_259, ea_v_336, (Or.inl we_v_336), sm_v_336⟩, (ef_339.trans (ef_329.trans (ef_263.trans ef_96)))⟩, ⟨by rw [ht]; exact hP, va_K.moved hW.alike hK, hD⟩⟩, hS.F ht⟩) hS.2.2 dX11_unit_197
                  · have ea_v_327 : v_327 47 = nI (k_257 + 1) := by rw [ev_330]; show v_255 47 + 1 = _; rw [ea_260]; exact nI_1 _
                    have es_v_327 : v_327 50 = nI n := by rw [ev_330]; exact es_v_255
                    have hb_v_327 : v_327 49 < 0 ∨ ∃ j : Nat, j ≤ 1740 ∧ v_327 49 = nI j := by rw [ev_330]; exact hb_v_255
                    have sm_v_327 : ∀ i, i ≠ 47 → i ≠ 48 → i ≠ 51 → v_327 i = v i := by intro i h1 h2 h3; rw [ev_330]; exact (if_neg h1).trans (sm_v_255 i h1 h2 h3)
                    obtain ⟨we_340, de_341⟩ := Or.resolve_left wd_261 hwe_331
                    have we_v_327 : v_327 51 = 1 := by rw [ev_330]; exact we_340
                    have de_v_327 : v_327 48 = nI 5 := by rw [ev_330]; exact de_341
                    refine lv_if_ne (tgt := 198) hx hb dX11_unit_190 (by decide) (fun _ => ?_) (fun c_342 => absurd c_342 (by decide))
                    refine lv_aload_n hx hb dX11_unit_198 rfl (lv_at hl 4 rfl) ?_
                    refine lv_dup hx hb dX11_unit_199 rfl ?_
                    refine va_get (D := (dC, dI)) (ci := 11) (v := .int (v_327 48)) (C := RX11) (T := TX11) (N := 63) hx hb hts in_wsX11_unit_X11 hown hK hP 0 rfl rfl 48 (by decide) (hts (.fieldLink RX11 244 "ShipOfficeModel" "deep" "I") iw_X11_unit_3) (fun _ h9 => h9) rfl dX11_unit_200 ?_
                    refine lv_topi (fun y ey => ?_)
                    obtain rfl : y = 5 := ey.trans (de_v_327.trans (by decide))
                    refine lv_iconst (v := 1) hx hb dX11_unit_203 (by decide) ?_
                    refine lv_isub hx hb dX11_unit_204 ?_
                    refine lv_topi (fun y ey => ?_)
                    obtain rfl : y = 4 := ey.trans (by decide)
                    refine va_put (D := (dC, dI)) (ci := 11) (v := .int 4) (ty := .int) (C := RX11) (T := TX11) (N := 63) hx hb hts in_wsX11_unit_X11 tyX11 tyX11_ok nmX11 hown hK hP hD hS 0 rfl rfl 48 (by decide) (hts (.fieldLink RX11 244 "ShipOfficeModel" "deep" "I") iw_X11_unit_3) (fun _ h9 => h9) rfl (by decide +kernel) rfl rfl (Nat.le_of_ble_eq_true rfl) dX11_unit_205 (fun H locs hP hD hS => ?_)
                    have hP : va_P (dC, dI) vwCl (mW g0 pq cp (upd v_327 48 4) fa_328) H := hP
                    have hD : va_D A (mW g0 pq cp (upd v_327 48 4) fa_328) := hD
                    obtain ⟨z_343, ez_343⟩ : ∃ zq, zq = (upd v_327 48 4) := ⟨_, rfl⟩
                    rw [← ez_343] at hP hD
                    have ea_z_343 : z_343 47 = nI (k_257 + 1) := by rw [ez_343]; exact ea_v_327
                    have es_z_343 : z_343 50 = nI n := by rw [ez_343]; exact es_v_327
                    have hb_z_343 : z_343 49 < 0 ∨ ∃ j : Nat, j ≤ 1740 ∧ z_343 49 = nI j := by rw [ez_343]; exact hb_v_327
                    have we_z_343 : z_343 51 = 1 := by rw [ez_343]; exact we_v_327
                    have de_z_343 : z_343 48 = nI 4 := by rw [ez_343]; rfl
                    have sm_z_343 : ∀ i, i ≠ 47 → i ≠ 48 → i ≠ 51 → z_343 i = v i := by intro i h1 h2 h3; rw [ez_343]; exact (if_neg h2).trans (sm_v_327 i h1 h2 h3)
                    refine lv_iload_n hx hb dX11_unit_208 rfl (lv_at hl 0 rfl) ?_
                    exact W.iret (v := 1) hx hb hr (fun t ht hW => ⟨⟨1, (z_343, fa_328), rfl, ⟨⟨(k_257 + 1), by omega, hlt_332, ea_z_343, (Or.inr ⟨we_z_343, de_z_343⟩), sm_z_343⟩, (ef_329.trans (ef_263.trans ef_96))⟩, ⟨by rw [ht]; exact hP, va_K.moved hW.alike hK, hD⟩⟩, hS.F ht⟩) hS.2.2 dX11_unit_209
            · refine lv_iload_n hx hb dX11_unit_138 rfl (lv_at hl 2 rfl) ?_
              refine lv_iload hx hb dX11_unit_139 (lv_at hl 0 rfl) ?_
              refine lv_icmp_ge (tgt := 148) hx hb dX11_unit_141 (by decide) (fun c_344 => ?_) (fun c_344 => ?_)
              · refine lv_iconst (v := 0) hx hb dX11_unit_148 (by decide) ?_
                refine lv_goto (tgt := 183) hx hb dX11_unit_149 (by decide) ?_
                refine lv_istore_n (lv' := [(2, .int 0), (4, .int r_254), (3, .int r_98), (1, .int r_3), (0, .ref g0)]) hx hb dX11_unit_183 rfl hl (by decide) rfl (fun ls hl => ?_)
                refine lv_aload_n hx hb dX11_unit_184 rfl (lv_at hl 4 rfl) ?_
                refine lv_bipush (v := 41) hx hb dX11_unit_185 (by decide) ?_
                have hFc := va_free (wc := (mW g0 pq cp v_255 fa_256)) hD hS hA (List.range 48) rfl
                refine va_calli (va_runV (As := [.int 41]) (rest := []) ⟨hx, hb, hml, hown, hts⟩ (c_X11_takes_b l dC dI H.size g0 pq cp v_255 fa_256 k_257 n hb_259 hn ea_260 es_v_255 hb_v_255 41 (by decide)) (cwV 1 hts gX11_unit_X11_takes rfl rfl rfl (by decide +kernel) ⟨(Nat.le_of_ble_eq_true rfl), (Nat.le_of_ble_eq_true rfl)⟩) (pr_V (r := (RX11, TX11, 63)) hP hK hD 0 11 rfl rfl) rfl rfl hl.1 rfl (lv_room (Nat.le_of_ble_eq_true rfl)) dX11_unit_187 ⟨(Nat.le_of_ble_eq_true rfl), (Nat.le_of_ble_eq_true rfl)⟩) hS (fun q _ h => hFc q h) hFc (fun r_346 u t H locs ht hvm w_345 hB hz1 hk1 hS => ?_)
                obtain ⟨v_347, fa_348⟩ := u
                obtain ⟨hP1, hK1, hD1⟩ := hB
                rw [ht] at hP1
                have hP : va_P (dC, dI) vwCl (mW g0 pq cp v_347 fa_348) H := hP1
                have hD : va_D A (mW g0 pq cp v_347 fa_348) := hD1.weaken (fun _ _ _ h => hFc _ h)
                clear hP1 hK1 hD1 hk1 hz1 hvm ht hFc
                obtain ⟨ef_349, w_345⟩ := w_345
                dsimp only at ef_349 w_345
                rcases w_345 with ⟨rfl, ev_350⟩ | ⟨rfl, hwe_351, hlt_352, ev_350⟩
                · have ea_v_347 : v_347 47 = nI k_257 := by rw [ev_350]; exact ea_260
                  have es_v_347 : v_347 50 = nI n := by rw [ev_350]; exact es_v_255
                  have hb_v_347 : v_347 49 < 0 ∨ ∃ j : Nat, j ≤ 1740 ∧ v_347 49 = nI j := by rw [ev_350]; exact hb_v_255
                  have sm_v_347 : ∀ i, i ≠ 47 → i ≠ 48 → i ≠ 51 → v_347 i = v i := by rw [ev_350]; exact sm_v_255
                  refine lv_if_ne (tgt := 198) hx hb dX11_unit_190 (by decide) (fun c_353 => absurd c_353 (by decide)) (fun _ => ?_)
                  refine lv_aload_n hx hb dX11_unit_193 rfl (lv_at hl 4 rfl) ?_
                  have hFc := va_free (wc := (mW g0 pq cp v_347 fa_348)) hD hS hA (List.range 48) rfl
                  refine va_calli (va_runV (As := []) (rest := []) ⟨hx, hb, hml, hown, hts⟩ (c_X11_breaks l dC dI H.size g0 pq cp v_347 fa_348) (cwV 0 hts gX11_unit_X11_breaks rfl rfl rfl (by decide +kernel) ⟨(Nat.le_of_ble_eq_true rfl), (Nat.le_of_ble_eq_true rfl)⟩) (pr_V (r := (RX11, TX11, 63)) hP hK hD 0 11 rfl rfl) rfl rfl hl.1 rfl (lv_room (Nat.le_of_ble_eq_true rfl)) dX11_unit_194 ⟨(Nat.le_of_ble_eq_true rfl), (Nat.le_of_ble_eq_true rfl)⟩) hS (fun q _ h => hFc q h) hFc (fun r_355 u t H locs ht hvm w_354 hB hz1 hk1 hS => ?_)
                  obtain ⟨v_356, fa_357⟩ := u
                  obtain ⟨hP1, hK1, hD1⟩ := hB
                  rw [ht] at hP1
                  have hP : va_P (dC, dI) vwCl (mW g0 pq cp v_356 fa_357) H := hP1
                  have hD : va_D A (mW g0 pq cp v_356 fa_357) := hD1.weaken (fun _ _ _ h => hFc _ h)
                  clear hP1 hK1 hD1 hk1 hz1 hvm ht hFc
                  obtain ⟨rfl, ev_358, ef_359⟩ := w_354
                  dsimp only at ev_358 ef_359
                  have ea_v_356 : v_356 47 = nI k_257 := by rw [ev_358]; exact ea_v_347
                  have es_v_356 : v_356 50 = nI n := by rw [ev_358]; exact es_v_347
                  have hb_v_356 : v_356 49 < 0 ∨ ∃ j : Nat, j ≤ 1740 ∧ v_356 49 = nI j := by rw [ev_358]; exact hb_v_347
                  have we_v_356 : v_356 51 = 0 := by rw [ev_358]; rfl
                  have sm_v_356 : ∀ i, i ≠ 47 → i ≠ 48 → i ≠ 51 → v_356 i = v i := by intro i h1 h2 h3; rw [ev_358]; exact (if_neg h3).trans (sm_v_347 i h1 h2 h3)
                  exact W.iret (v := 0) hx hb hr (fun t ht hW => ⟨⟨0, (v_356, fa_357), rfl, ⟨⟨k_257, by omega, hb_259, ea_v_356, (Or.inl we_v_356), sm_v_356⟩, (ef_359.trans (ef_349.trans (ef_263.trans ef_96)))⟩, ⟨by rw [ht]; exact hP, va_K.moved hW.alike hK, hD⟩⟩, hS.F ht⟩) hS.2.2 dX11_unit_197
                · have ea_v_347 : v_347 47 = nI (k_257 + 1) := by rw [ev_350]; show v_255 47 + 1 = _; rw [ea_260]; exact nI_1 _
                  have es_v_347 : v_347 50 = nI n := by rw [ev_350]; exact es_v_255
                  have hb_v_347 : v_347 49 < 0 ∨ ∃ j : Nat, j ≤ 1740 ∧ v_347 49 = nI j := by rw [ev_350]; exact hb_v_255
                  have sm_v_347 : ∀ i, i ≠ 47 → i ≠ 48 → i ≠ 51 → v_347 i = v i := by intro i h1 h2 h3; rw [ev_350]; exact (if_neg h1).trans (sm_v_255 i h1 h2 h3)
                  obtain ⟨we_360, de_361⟩ := Or.resolve_left wd_261 hwe_351
                  have we_v_347 : v_347 51 = 1 := by rw [ev_350]; exact we_360
                  have de_v_347 : v_347 48 = nI 5 := by rw [ev_350]; exact de_361
                  refine lv_if_ne (tgt := 198) hx hb dX11_unit_190 (by decide) (fun _ => ?_) (fun c_362 => absurd c_362 (by decide))
                  refine lv_aload_n hx hb dX11_unit_198 rfl (lv_at hl 4 rfl) ?_
                  refine lv_dup hx hb dX11_unit_199 rfl ?_
                  refine va_get (D := (dC, dI)) (ci := 11) (v := .int (v_347 48)) (C := RX11) (T := TX11) (N := 63) hx hb hts in_wsX11_unit_X11 hown hK hP 0 rfl rfl 48 (by decide) (hts (.fieldLink RX11 244 "ShipOfficeModel" "deep" "I") iw_X11_unit_3) (fun _ h9 => h9) rfl dX11_unit_200 ?_
                  refine lv_topi (fun y ey => ?_)
                  obtain rfl : y = 5 := ey.trans (de_v_347.trans (by decide))
                  refine lv_iconst (v := 1) hx hb dX11_unit_203 (by decide) ?_
                  refine lv_isub hx hb dX11_unit_204 ?_
                  refine lv_topi (fun y ey => ?_)
                  obtain rfl : y = 4 := ey.trans (by decide)
                  refine va_put (D := (dC, dI)) (ci := 11) (v := .int 4) (ty := .int) (C := RX11) (T := TX11) (N := 63) hx hb hts in_wsX11_unit_X11 tyX11 tyX11_ok nmX11 hown hK hP hD hS 0 rfl rfl 48 (by decide) (hts (.fieldLink RX11 244 "ShipOfficeModel" "deep" "I") iw_X11_unit_3) (fun _ h9 => h9) rfl (by decide +kernel) rfl rfl (Nat.le_of_ble_eq_true rfl) dX11_unit_205 (fun H locs hP hD hS => ?_)
                  have hP : va_P (dC, dI) vwCl (mW g0 pq cp (upd v_347 48 4) fa_348) H := hP
                  have hD : va_D A (mW g0 pq cp (upd v_347 48 4) fa_348) := hD
                  obtain ⟨z_363, ez_363⟩ : ∃ zq, zq = (upd v_347 48 4) := ⟨_, rfl⟩
                  rw [← ez_363] at hP hD
                  have ea_z_363 : z_363 47 = nI (k_257 + 1) := by rw [ez_363]; exact ea_v_347
                  have es_z_363 : z_363 50 = nI n := by rw [ez_363]; exact es_v_347
                  have hb_z_363 : z_363 49 < 0 ∨ ∃ j : Nat, j ≤ 1740 ∧ z_363 49 = nI j := by rw [ez_363]; exact hb_v_347
                  have we_z_363 : z_363 51 = 1 := by rw [ez_363]; exact we_v_347
                  have de_z_363 : z_363 48 = nI 4 := by rw [ez_363]; rfl
                  have sm_z_363 : ∀ i, i ≠ 47 → i ≠ 48 → i ≠ 51 → z_363 i = v i := by intro i h1 h2 h3; rw [ez_363]; exact (if_neg h2).trans (sm_v_347 i h1 h2 h3)
                  refine lv_iload_n hx hb dX11_unit_208 rfl (lv_at hl 0 rfl) ?_
                  exact W.iret (v := 0) hx hb hr (fun t ht hW => ⟨⟨0, (z_363, fa_348), rfl, ⟨⟨(k_257 + 1), by omega, hlt_352, ea_z_363, (Or.inr ⟨we_z_363, de_z_363⟩), sm_z_363⟩, (ef_349.trans (ef_263.trans ef_96))⟩, ⟨by rw [ht]; exact hP, va_K.moved hW.alike hK, hD⟩⟩, hS.F ht⟩) hS.2.2 dX11_unit_209
              · refine lv_iconst (v := 1) hx hb dX11_unit_144 (by decide) ?_
                refine lv_goto (tgt := 183) hx hb dX11_unit_145 (by decide) ?_
                refine lv_istore_n (lv' := [(2, .int 1), (4, .int r_254), (3, .int r_98), (1, .int r_3), (0, .ref g0)]) hx hb dX11_unit_183 rfl hl (by decide) rfl (fun ls hl => ?_)
                refine lv_aload_n hx hb dX11_unit_184 rfl (lv_at hl 4 rfl) ?_
                refine lv_bipush (v := 41) hx hb dX11_unit_185 (by decide) ?_
                have hFc := va_free (wc := (mW g0 pq cp v_255 fa_256)) hD hS hA (List.range 48) rfl
                refine va_calli (va_runV (As := [.int 41]) (rest := []) ⟨hx, hb, hml, hown, hts⟩ (c_X11_takes_b l dC dI H.size g0 pq cp v_255 fa_256 k_257 n hb_259 hn ea_260 es_v_255 hb_v_255 41 (by decide)) (cwV 1 hts gX11_unit_X11_takes rfl rfl rfl (by decide +kernel) ⟨(Nat.le_of_ble_eq_true rfl), (Nat.le_of_ble_eq_true rfl)⟩) (pr_V (r := (RX11, TX11, 63)) hP hK hD 0 11 rfl rfl) rfl rfl hl.1 rfl (lv_room (Nat.le_of_ble_eq_true rfl)) dX11_unit_187 ⟨(Nat.le_of_ble_eq_true rfl), (Nat.le_of_ble_eq_true rfl)⟩) hS (fun q _ h => hFc q h) hFc (fun r_365 u t H locs ht hvm w_364 hB hz1 hk1 hS => ?_)
                obtain ⟨v_366, fa_367⟩ := u
                obtain ⟨hP1, hK1, hD1⟩ := hB
                rw [ht] at hP1
                have hP : va_P (dC, dI) vwCl (mW g0 pq cp v_366 fa_367) H := hP1
                have hD : va_D A (mW g0 pq cp v_366 fa_367) := hD1.weaken (fun _ _ _ h => hFc _ h)
                clear hP1 hK1 hD1 hk1 hz1 hvm ht hFc
                obtain ⟨ef_368, w_364⟩ := w_364
                dsimp only at ef_368 w_364
                rcases w_364 with ⟨rfl, ev_369⟩ | ⟨rfl, hwe_370, hlt_371, ev_369⟩
                · have ea_v_366 : v_366 47 = nI k_257 := by rw [ev_369]; exact ea_260
                  have es_v_366 : v_366 50 = nI n := by rw [ev_369]; exact es_v_255
                  have hb_v_366 : v_366 49 < 0 ∨ ∃ j : Nat, j ≤ 1740 ∧ v_366 49 = nI j := by rw [ev_369]; exact hb_v_255
                  have sm_v_366 : ∀ i, i ≠ 47 → i ≠ 48 → i ≠ 51 → v_366 i = v i := by rw [ev_369]; exact sm_v_255
                  refine lv_if_ne (tgt := 198) hx hb dX11_unit_190 (by decide) (fun c_372 => absurd c_372 (by decide)) (fun _ => ?_)
                  refine lv_aload_n hx hb dX11_unit_193 rfl (lv_at hl 4 rfl) ?_
                  have hFc := va_free (wc := (mW g0 pq cp v_366 fa_367)) hD hS hA (List.range 48) rfl
                  refine va_calli (va_runV (As := []) (rest := []) ⟨hx, hb, hml, hown, hts⟩ (c_X11_breaks l dC dI H.size g0 pq cp v_366 fa_367) (cwV 0 hts gX11_unit_X11_breaks rfl rfl rfl (by decide +kernel) ⟨(Nat.le_of_ble_eq_true rfl), (Nat.le_of_ble_eq_true rfl)⟩) (pr_V (r := (RX11, TX11, 63)) hP hK hD 0 11 rfl rfl) rfl rfl hl.1 rfl (lv_room (Nat.le_of_ble_eq_true rfl)) dX11_unit_194 ⟨(Nat.le_of_ble_eq_true rfl), (Nat.le_of_ble_eq_true rfl)⟩) hS (fun q _ h => hFc q h) hFc (fun r_374 u t H locs ht hvm w_373 hB hz1 hk1 hS => ?_)
                  obtain ⟨v_375, fa_376⟩ := u
                  obtain ⟨hP1, hK1, hD1⟩ := hB
                  rw [ht] at hP1
                  have hP : va_P (dC, dI) vwCl (mW g0 pq cp v_375 fa_376) H := hP1
                  have hD : va_D A (mW g0 pq cp v_375 fa_376) := hD1.weaken (fun _ _ _ h => hFc _ h)
                  clear hP1 hK1 hD1 hk1 hz1 hvm ht hFc
                  obtain ⟨rfl, ev_377, ef_378⟩ := w_373
                  dsimp only at ev_377 ef_378
                  have ea_v_375 : v_375 47 = nI k_257 := by rw [ev_377]; exact ea_v_366
                  have es_v_375 : v_375 50 = nI n := by rw [ev_377]; exact es_v_366
                  have hb_v_375 : v_375 49 < 0 ∨ ∃ j : Nat, j ≤ 1740 ∧ v_375 49 = nI j := by rw [ev_377]; exact hb_v_366
                  have we_v_375 : v_375 51 = 0 := by rw [ev_377]; rfl
                  have sm_v_375 : ∀ i, i ≠ 47 → i ≠ 48 → i ≠ 51 → v_375 i = v i := by intro i h1 h2 h3; rw [ev_377]; exact (if_neg h3).trans (sm_v_366 i h1 h2 h3)
                  exact W.iret (v := 0) hx hb hr (fun t ht hW => ⟨⟨0, (v_375, fa_376), rfl, ⟨⟨k_257, by omega, hb_259, ea_v_375, (Or.inl we_v_375), sm_v_375⟩, (ef_378.trans (ef_368.trans (ef_263.trans ef_96)))⟩, ⟨by rw [ht]; exact hP, va_K.moved hW.alike hK, hD⟩⟩, hS.F ht⟩) hS.2.2 dX11_unit_197
                · have ea_v_366 : v_366 47 = nI (k_257 + 1) := by rw [ev_369]; show v_255 47 + 1 = _; rw [ea_260]; exact nI_1 _
                  have es_v_366 : v_366 50 = nI n := by rw [ev_369]; exact es_v_255
                  have hb_v_366 : v_366 49 < 0 ∨ ∃ j : Nat, j ≤ 1740 ∧ v_366 49 = nI j := by rw [ev_369]; exact hb_v_255
                  have sm_v_366 : ∀ i, i ≠ 47 → i ≠ 48 → i ≠ 51 → v_366 i = v i := by intro i h1 h2 h3; rw [ev_369]; exact (if_neg h1).trans (sm_v_255 i h1 h2 h3)
                  obtain ⟨we_379, de_380⟩ := Or.resolve_left wd_261 hwe_370
                  have we_v_366 : v_366 51 = 1 := by rw [ev_369]; exact we_379
                  have de_v_366 : v_366 48 = nI 5 := by rw [ev_369]; exact de_380
                  refine lv_if_ne (tgt := 198) hx hb dX11_unit_190 (by decide) (fun _ => ?_) (fun c_381 => absurd c_381 (by decide))
                  refine lv_aload_n hx hb dX11_unit_198 rfl (lv_at hl 4 rfl) ?_
                  refine lv_dup hx hb dX11_unit_199 rfl ?_
                  refine va_get (D := (dC, dI)) (ci := 11) (v := .int (v_366 48)) (C := RX11) (T := TX11) (N := 63) hx hb hts in_wsX11_unit_X11 hown hK hP 0 rfl rfl 48 (by decide) (hts (.fieldLink RX11 244 "ShipOfficeModel" "deep" "I") iw_X11_unit_3) (fun _ h9 => h9) rfl dX11_unit_200 ?_
                  refine lv_topi (fun y ey => ?_)
                  obtain rfl : y = 5 := ey.trans (de_v_366.trans (by decide))
                  refine lv_iconst (v := 1) hx hb dX11_unit_203 (by decide) ?_
                  refine lv_isub hx hb dX11_unit_204 ?_
                  refine lv_topi (fun y ey => ?_)
                  obtain rfl : y = 4 := ey.trans (by decide)
                  refine va_put (D := (dC, dI)) (ci := 11) (v := .int 4) (ty := .int) (C := RX11) (T := TX11) (N := 63) hx hb hts in_wsX11_unit_X11 tyX11 tyX11_ok nmX11 hown hK hP hD hS 0 rfl rfl 48 (by decide) (hts (.fieldLink RX11 244 "ShipOfficeModel" "deep" "I") iw_X11_unit_3) (fun _ h9 => h9) rfl (by decide +kernel) rfl rfl (Nat.le_of_ble_eq_true rfl) dX11_unit_205 (fun H locs hP hD hS => ?_)
                  have hP : va_P (dC, dI) vwCl (mW g0 pq cp (upd v_366 48 4) fa_367) H := hP
                  have hD : va_D A (mW g0 pq cp (upd v_366 48 4) fa_367) := hD
                  obtain ⟨z_382, ez_382⟩ : ∃ zq, zq = (upd v_366 48 4) := ⟨_, rfl⟩
                  rw [← ez_382] at hP hD
                  have ea_z_382 : z_382 47 = nI (k_257 + 1) := by rw [ez_382]; exact ea_v_366
                  have es_z_382 : z_382 50 = nI n := by rw [ez_382]; exact es_v_366
                  have hb_z_382 : z_382 49 < 0 ∨ ∃ j : Nat, j ≤ 1740 ∧ z_382 49 = nI j := by rw [ez_382]; exact hb_v_366
                  have we_z_382 : z_382 51 = 1 := by rw [ez_382]; exact we_v_366
                  have de_z_382 : z_382 48 = nI 4 := by rw [ez_382]; rfl
                  have sm_z_382 : ∀ i, i ≠ 47 → i ≠ 48 → i ≠ 51 → z_382 i = v i := by intro i h1 h2 h3; rw [ez_382]; exact (if_neg h2).trans (sm_v_366 i h1 h2 h3)
                  refine lv_iload_n hx hb dX11_unit_208 rfl (lv_at hl 0 rfl) ?_
                  exact W.iret (v := 1) hx hb hr (fun t ht hW => ⟨⟨1, (z_382, fa_367), rfl, ⟨⟨(k_257 + 1), by omega, hlt_371, ea_z_382, (Or.inr ⟨we_z_382, de_z_382⟩), sm_z_382⟩, (ef_368.trans (ef_263.trans ef_96))⟩, ⟨by rw [ht]; exact hP, va_K.moved hW.alike hK, hD⟩⟩, hS.F ht⟩) hS.2.2 dX11_unit_209
          · refine lv_iload_n hx hb dX11_unit_110 rfl (lv_at hl 0 rfl) ?_
            refine lv_bipush (v := 62) hx hb dX11_unit_111 (by decide) ?_
            refine lv_icmp_ne (tgt := 184) hx hb dX11_unit_113 (by decide) (fun c_383 => ?_) (fun c_383 => ?_)
            · refine lv_aload_n hx hb dX11_unit_184 rfl (lv_at hl 3 rfl) ?_
              refine lv_bipush (v := 41) hx hb dX11_unit_185 (by decide) ?_
              have hFc := va_free (wc := (mW g0 pq cp v_88 fa_89)) hD hS hA (List.range 48) rfl
              refine va_calli (va_runV (As := [.int 41]) (rest := []) ⟨hx, hb, hml, hown, hts⟩ (c_X11_takes_b l dC dI H.size g0 pq cp v_88 fa_89 k_90 n hb_92 hn ea_93 es_v_88 hb_v_88 41 (by decide)) (cwV 1 hts gX11_unit_X11_takes rfl rfl rfl (by decide +kernel) ⟨(Nat.le_of_ble_eq_true rfl), (Nat.le_of_ble_eq_true rfl)⟩) (pr_V (r := (RX11, TX11, 63)) hP hK hD 0 11 rfl rfl) rfl rfl hl.1 rfl (lv_room (Nat.le_of_ble_eq_true rfl)) dX11_unit_187 ⟨(Nat.le_of_ble_eq_true rfl), (Nat.le_of_ble_eq_true rfl)⟩) hS (fun q _ h => hFc q h) hFc (fun r_385 u t H locs ht hvm w_384 hB hz1 hk1 hS => ?_)
              obtain ⟨v_386, fa_387⟩ := u
              obtain ⟨hP1, hK1, hD1⟩ := hB
              rw [ht] at hP1
              have hP : va_P (dC, dI) vwCl (mW g0 pq cp v_386 fa_387) H := hP1
              have hD : va_D A (mW g0 pq cp v_386 fa_387) := hD1.weaken (fun _ _ _ h => hFc _ h)
              clear hP1 hK1 hD1 hk1 hz1 hvm ht hFc
              obtain ⟨ef_388, w_384⟩ := w_384
              dsimp only at ef_388 w_384
              rcases w_384 with ⟨rfl, ev_389⟩ | ⟨rfl, hwe_390, hlt_391, ev_389⟩
              · have ea_v_386 : v_386 47 = nI k_90 := by rw [ev_389]; exact ea_93
                have es_v_386 : v_386 50 = nI n := by rw [ev_389]; exact es_v_88
                have hb_v_386 : v_386 49 < 0 ∨ ∃ j : Nat, j ≤ 1740 ∧ v_386 49 = nI j := by rw [ev_389]; exact hb_v_88
                have sm_v_386 : ∀ i, i ≠ 47 → i ≠ 48 → i ≠ 51 → v_386 i = v i := by rw [ev_389]; exact sm_v_88
                refine lv_if_ne (tgt := 198) hx hb dX11_unit_190 (by decide) (fun c_392 => absurd c_392 (by decide)) (fun _ => ?_)
                refine lv_aload_n hx hb dX11_unit_193 rfl (lv_at hl 3 rfl) ?_
                have hFc := va_free (wc := (mW g0 pq cp v_386 fa_387)) hD hS hA (List.range 48) rfl
                refine va_calli (va_runV (As := []) (rest := []) ⟨hx, hb, hml, hown, hts⟩ (c_X11_breaks l dC dI H.size g0 pq cp v_386 fa_387) (cwV 0 hts gX11_unit_X11_breaks rfl rfl rfl (by decide +kernel) ⟨(Nat.le_of_ble_eq_true rfl), (Nat.le_of_ble_eq_true rfl)⟩) (pr_V (r := (RX11, TX11, 63)) hP hK hD 0 11 rfl rfl) rfl rfl hl.1 rfl (lv_room (Nat.le_of_ble_eq_true rfl)) dX11_unit_194 ⟨(Nat.le_of_ble_eq_true rfl), (Nat.le_of_ble_eq_true rfl)⟩) hS (fun q _ h => hFc q h) hFc (fun r_394 u t H locs ht hvm w_393 hB hz1 hk1 hS => ?_)
                obtain ⟨v_395, fa_396⟩ := u
                obtain ⟨hP1, hK1, hD1⟩ := hB
                rw [ht] at hP1
                have hP : va_P (dC, dI) vwCl (mW g0 pq cp v_395 fa_396) H := hP1
                have hD : va_D A (mW g0 pq cp v_395 fa_396) := hD1.weaken (fun _ _ _ h => hFc _ h)
                clear hP1 hK1 hD1 hk1 hz1 hvm ht hFc
                obtain ⟨rfl, ev_397, ef_398⟩ := w_393
                dsimp only at ev_397 ef_398
                have ea_v_395 : v_395 47 = nI k_90 := by rw [ev_397]; exact ea_v_386
                have es_v_395 : v_395 50 = nI n := by rw [ev_397]; exact es_v_386
                have hb_v_395 : v_395 49 < 0 ∨ ∃ j : Nat, j ≤ 1740 ∧ v_395 49 = nI j := by rw [ev_397]; exact hb_v_386
                have we_v_395 : v_395 51 = 0 := by rw [ev_397]; rfl
                have sm_v_395 : ∀ i, i ≠ 47 → i ≠ 48 → i ≠ 51 → v_395 i = v i := by intro i h1 h2 h3; rw [ev_397]; exact (if_neg h3).trans (sm_v_386 i h1 h2 h3)
                exact W.iret (v := 0) hx hb hr (fun t ht hW => ⟨⟨0, (v_395, fa_396), rfl, ⟨⟨k_90, by omega, hb_92, ea_v_395, (Or.inl we_v_395), sm_v_395⟩, (ef_398.trans (ef_388.trans ef_96))⟩, ⟨by rw [ht]; exact hP, va_K.moved hW.alike hK, hD⟩⟩, hS.F ht⟩) hS.2.2 dX11_unit_197
              · have ea_v_386 : v_386 47 = nI (k_90 + 1) := by rw [ev_389]; show v_88 47 + 1 = _; rw [ea_93]; exact nI_1 _
                have es_v_386 : v_386 50 = nI n := by rw [ev_389]; exact es_v_88
                have hb_v_386 : v_386 49 < 0 ∨ ∃ j : Nat, j ≤ 1740 ∧ v_386 49 = nI j := by rw [ev_389]; exact hb_v_88
                have sm_v_386 : ∀ i, i ≠ 47 → i ≠ 48 → i ≠ 51 → v_386 i = v i := by intro i h1 h2 h3; rw [ev_389]; exact (if_neg h1).trans (sm_v_88 i h1 h2 h3)
                have we_v_386 : v_386 51 = 1 := by rw [ev_389]; exact we_100
                have de_v_386 : v_386 48 = nI 5 := by rw [ev_389]; exact de_101
                refine lv_if_ne (tgt := 198) hx hb dX11_unit_190 (by decide) (fun _ => ?_) (fun c_401 => absurd c_401 (by decide))
                refine lv_aload_n hx hb dX11_unit_198 rfl (lv_at hl 3 rfl) ?_
                refine lv_dup hx hb dX11_unit_199 rfl ?_
                refine va_get (D := (dC, dI)) (ci := 11) (v := .int (v_386 48)) (C := RX11) (T := TX11) (N := 63) hx hb hts in_wsX11_unit_X11 hown hK hP 0 rfl rfl 48 (by decide) (hts (.fieldLink RX11 244 "ShipOfficeModel" "deep" "I") iw_X11_unit_3) (fun _ h9 => h9) rfl dX11_unit_200 ?_
                refine lv_topi (fun y ey => ?_)
                obtain rfl : y = 5 := ey.trans (de_v_386.trans (by decide))
                refine lv_iconst (v := 1) hx hb dX11_unit_203 (by decide) ?_
                refine lv_isub hx hb dX11_unit_204 ?_
                refine lv_topi (fun y ey => ?_)
                obtain rfl : y = 4 := ey.trans (by decide)
                refine va_put (D := (dC, dI)) (ci := 11) (v := .int 4) (ty := .int) (C := RX11) (T := TX11) (N := 63) hx hb hts in_wsX11_unit_X11 tyX11 tyX11_ok nmX11 hown hK hP hD hS 0 rfl rfl 48 (by decide) (hts (.fieldLink RX11 244 "ShipOfficeModel" "deep" "I") iw_X11_unit_3) (fun _ h9 => h9) rfl (by decide +kernel) rfl rfl (Nat.le_of_ble_eq_true rfl) dX11_unit_205 (fun H locs hP hD hS => ?_)
                have hP : va_P (dC, dI) vwCl (mW g0 pq cp (upd v_386 48 4) fa_387) H := hP
                have hD : va_D A (mW g0 pq cp (upd v_386 48 4) fa_387) := hD
                obtain ⟨z_402, ez_402⟩ : ∃ zq, zq = (upd v_386 48 4) := ⟨_, rfl⟩
                rw [← ez_402] at hP hD
                have ea_z_402 : z_402 47 = nI (k_90 + 1) := by rw [ez_402]; exact ea_v_386
                have es_z_402 : z_402 50 = nI n := by rw [ez_402]; exact es_v_386
                have hb_z_402 : z_402 49 < 0 ∨ ∃ j : Nat, j ≤ 1740 ∧ z_402 49 = nI j := by rw [ez_402]; exact hb_v_386
                have we_z_402 : z_402 51 = 1 := by rw [ez_402]; exact we_v_386
                have de_z_402 : z_402 48 = nI 4 := by rw [ez_402]; rfl
                have sm_z_402 : ∀ i, i ≠ 47 → i ≠ 48 → i ≠ 51 → z_402 i = v i := by intro i h1 h2 h3; rw [ez_402]; exact (if_neg h2).trans (sm_v_386 i h1 h2 h3)
                refine lv_iload_n hx hb dX11_unit_208 rfl (lv_at hl 1 rfl) ?_
                exact W.iret (v := r_87) hx hb hr (fun t ht hW => ⟨⟨r_87, (z_402, fa_387), rfl, ⟨⟨(k_90 + 1), by omega, hlt_391, ea_z_402, (Or.inr ⟨we_z_402, de_z_402⟩), sm_z_402⟩, (ef_388.trans ef_96)⟩, ⟨by rw [ht]; exact hP, va_K.moved hW.alike hK, hD⟩⟩, hS.F ht⟩) hS.2.2 dX11_unit_209
            · refine lv_aload_n hx hb dX11_unit_116 rfl (lv_at hl 3 rfl) ?_
              refine lv_dup hx hb dX11_unit_117 rfl ?_
              refine va_get (D := (dC, dI)) (ci := 11) (v := .int (v_88 47)) (C := RX11) (T := TX11) (N := 63) hx hb hts in_wsX11_unit_X11 hown hK hP 0 rfl rfl 47 (by decide) (hts (.fieldLink RX11 210 "ShipOfficeModel" "at" "I") iw_X11_unit_2) (fun _ h9 => h9) rfl dX11_unit_118 ?_
              refine lv_iconst (v := 1) hx hb dX11_unit_121 (by decide) ?_
              refine lv_iadd hx hb dX11_unit_122 ?_
              refine lv_topi (fun y ey => ?_)
              obtain rfl : y = nI (k_90 + 1) := ey.trans (by rw [ea_93]; exact nI_1 _)
              refine va_put (D := (dC, dI)) (ci := 11) (v := .int (nI (k_90 + 1))) (ty := .int) (C := RX11) (T := TX11) (N := 63) hx hb hts in_wsX11_unit_X11 tyX11 tyX11_ok nmX11 hown hK hP hD hS 0 rfl rfl 47 (by decide) (hts (.fieldLink RX11 210 "ShipOfficeModel" "at" "I") iw_X11_unit_2) (fun _ h9 => h9) rfl (by decide +kernel) rfl rfl (Nat.le_of_ble_eq_true rfl) dX11_unit_123 (fun H locs hP hD hS => ?_)
              have hP : va_P (dC, dI) vwCl (mW g0 pq cp (upd v_88 47 (nI (k_90 + 1))) fa_89) H := hP
              have hD : va_D A (mW g0 pq cp (upd v_88 47 (nI (k_90 + 1))) fa_89) := hD
              obtain ⟨z_403, ez_403⟩ : ∃ zq, zq = (upd v_88 47 (nI (k_90 + 1))) := ⟨_, rfl⟩
              rw [← ez_403] at hP hD
              have ea_z_403 : z_403 47 = nI (k_90 + 1) := by rw [ez_403]; rfl
              have es_z_403 : z_403 50 = nI n := by rw [ez_403]; exact es_v_88
              have hb_z_403 : z_403 49 < 0 ∨ ∃ j : Nat, j ≤ 1740 ∧ z_403 49 = nI j := by rw [ez_403]; exact hb_v_88
              have we_z_403 : z_403 51 = 1 := by rw [ez_403]; exact we_100
              have de_z_403 : z_403 48 = nI 5 := by rw [ez_403]; exact de_101
              have sm_z_403 : ∀ i, i ≠ 47 → i ≠ 48 → i ≠ 51 → z_403 i = v i := by intro i h1 h2 h3; rw [ez_403]; exact (if_neg h1).trans (sm_v_88 i h1 h2 h3)
              have hkn_z_403 : (k_90 + 1) ≤ n := (w_97.resolve_left (fun h => absurd (c_383.symm.trans h) (by decide)))
              have hk0_z_403 : k ≤ (k_90 + 1) := by omega
              refine lv_aload_n hx hb dX11_unit_126 rfl (lv_at hl 3 rfl) ?_
              have hFc := va_free (wc := (mW g0 pq cp z_403 fa_89)) hD hS hA (List.range 48) rfl
              refine va_calli (va_runV (As := []) (rest := []) ⟨hx, hb, hml, hown, hts⟩ (c_X11_sum_5 l dC dI H.size g0 pq cp z_403 fa_89 (k_90 + 1) n hkn_z_403 hn ea_z_403 es_z_403 hb_z_403 we_z_403 de_z_403) (cwV 0 hts gX11_unit_X11_sum rfl rfl rfl (by decide +kernel) ⟨(Nat.le_of_ble_eq_true rfl), (Nat.le_of_ble_eq_true rfl)⟩) (pr_V (r := (RX11, TX11, 63)) hP hK hD 0 11 rfl rfl) rfl rfl hl.1 rfl (lv_room (Nat.le_of_ble_eq_true rfl)) dX11_unit_127 ⟨(Nat.le_of_ble_eq_true rfl), (Nat.le_of_ble_eq_true rfl)⟩) hS (fun q _ h => hFc q h) hFc (fun r_405 u t H locs ht hvm w_404 hB hz1 hk1 hS => ?_)
              obtain ⟨v_406, fa_407⟩ := u
              obtain ⟨hP1, hK1, hD1⟩ := hB
              rw [ht] at hP1
              have hP : va_P (dC, dI) vwCl (mW g0 pq cp v_406 fa_407) H := hP1
              have hD : va_D A (mW g0 pq cp v_406 fa_407) := hD1.weaken (fun _ _ _ h => hFc _ h)
              clear hP1 hK1 hD1 hk1 hz1 hvm ht hFc
              obtain ⟨⟨k_408, ha_409, hb_410, ea_411, wd_412, sm_413⟩, ef_414⟩ := w_404
              dsimp only at ea_411 wd_412 sm_413 ef_414
              have es_v_406 : v_406 50 = nI n := (sm_413 50 (by decide) (by decide) (by decide)).trans es_z_403
              have hb_v_406 : v_406 49 < 0 ∨ ∃ j : Nat, j ≤ 1740 ∧ v_406 49 = nI j := by rw [sm_413 49 (by decide) (by decide) (by decide)]; exact hb_z_403
              have sm_v_406 : ∀ i, i ≠ 47 → i ≠ 48 → i ≠ 51 → v_406 i = v i := fun i h1 h2 h3 => (sm_413 i h1 h2 h3).trans (sm_z_403 i h1 h2 h3)
              refine lv_istore (lv' := [(4, .int r_405), (3, .int r_98), (2, .int r_87), (1, .int r_3), (0, .ref g0)]) hx hb dX11_unit_130 hl (by decide) rfl (fun ls hl => ?_)
              refine lv_iload_n hx hb dX11_unit_132 rfl (lv_at hl 1 rfl) ?_
              refine lv_bipush (v := 60) hx hb dX11_unit_133 (by decide) ?_
              refine lv_icmp_ne (tgt := 152) hx hb dX11_unit_135 (by decide) (fun c_415 => ?_) (fun c_415 => ?_)
              · refine lv_iload_n hx hb dX11_unit_152 rfl (lv_at hl 1 rfl) ?_
                refine lv_bipush (v := 61) hx hb dX11_unit_153 (by decide) ?_
                refine lv_icmp_ne (tgt := 172) hx hb dX11_unit_155 (by decide) (fun c_416 => ?_) (fun c_416 => ?_)
                · refine lv_iload_n hx hb dX11_unit_172 rfl (lv_at hl 2 rfl) ?_
                  refine lv_iload hx hb dX11_unit_173 (lv_at hl 0 rfl) ?_
                  refine lv_icmp_le (tgt := 182) hx hb dX11_unit_175 (by decide) (fun c_417 => ?_) (fun c_417 => ?_)
                  · refine lv_iconst (v := 0) hx hb dX11_unit_182 (by decide) ?_
                    refine lv_istore_n (lv' := [(2, .int 0), (4, .int r_405), (3, .int r_98), (1, .int r_3), (0, .ref g0)]) hx hb dX11_unit_183 rfl hl (by decide) rfl (fun ls hl => ?_)
                    refine lv_aload_n hx hb dX11_unit_184 rfl (lv_at hl 4 rfl) ?_
                    refine lv_bipush (v := 41) hx hb dX11_unit_185 (by decide) ?_
                    have hFc := va_free (wc := (mW g0 pq cp v_406 fa_407)) hD hS hA (List.range 48) rfl
                    refine va_calli (va_runV (As := [.int 41]) (rest := []) ⟨hx, hb, hml, hown, hts⟩ (c_X11_takes_b l dC dI H.size g0 pq cp v_406 fa_407 k_408 n hb_410 hn ea_411 es_v_406 hb_v_406 41 (by decide)) (cwV 1 hts gX11_unit_X11_takes rfl rfl rfl (by decide +kernel) ⟨(Nat.le_of_ble_eq_true rfl), (Nat.le_of_ble_eq_true rfl)⟩) (pr_V (r := (RX11, TX11, 63)) hP hK hD 0 11 rfl rfl) rfl rfl hl.1 rfl (lv_room (Nat.le_of_ble_eq_true rfl)) dX11_unit_187 ⟨(Nat.le_of_ble_eq_true rfl), (Nat.le_of_ble_eq_true rfl)⟩) hS (fun q _ h => hFc q h) hFc (fun r_419 u t H locs ht hvm w_418 hB hz1 hk1 hS => ?_)
                    obtain ⟨v_420, fa_421⟩ := u
                    obtain ⟨hP1, hK1, hD1⟩ := hB
                    rw [ht] at hP1
                    have hP : va_P (dC, dI) vwCl (mW g0 pq cp v_420 fa_421) H := hP1
                    have hD : va_D A (mW g0 pq cp v_420 fa_421) := hD1.weaken (fun _ _ _ h => hFc _ h)
                    clear hP1 hK1 hD1 hk1 hz1 hvm ht hFc
                    obtain ⟨ef_422, w_418⟩ := w_418
                    dsimp only at ef_422 w_418
                    rcases w_418 with ⟨rfl, ev_423⟩ | ⟨rfl, hwe_424, hlt_425, ev_423⟩
                    · have ea_v_420 : v_420 47 = nI k_408 := by rw [ev_423]; exact ea_411
                      have es_v_420 : v_420 50 = nI n := by rw [ev_423]; exact es_v_406
                      have hb_v_420 : v_420 49 < 0 ∨ ∃ j : Nat, j ≤ 1740 ∧ v_420 49 = nI j := by rw [ev_423]; exact hb_v_406
                      have sm_v_420 : ∀ i, i ≠ 47 → i ≠ 48 → i ≠ 51 → v_420 i = v i := by rw [ev_423]; exact sm_v_406
                      refine lv_if_ne (tgt := 198) hx hb dX11_unit_190 (by decide) (fun c_426 => absurd c_426 (by decide)) (fun _ => ?_)
                      refine lv_aload_n hx hb dX11_unit_193 rfl (lv_at hl 4 rfl) ?_
                      have hFc := va_free (wc := (mW g0 pq cp v_420 fa_421)) hD hS hA (List.range 48) rfl
                      refine va_calli (va_runV (As := []) (rest := []) ⟨hx, hb, hml, hown, hts⟩ (c_X11_breaks l dC dI H.size g0 pq cp v_420 fa_421) (cwV 0 hts gX11_unit_X11_breaks rfl rfl rfl (by decide +kernel) ⟨(Nat.le_of_ble_eq_true rfl), (Nat.le_of_ble_eq_true rfl)⟩) (pr_V (r := (RX11, TX11, 63)) hP hK hD 0 11 rfl rfl) rfl rfl hl.1 rfl (lv_room (Nat.le_of_ble_eq_true rfl)) dX11_unit_194 ⟨(Nat.le_of_ble_eq_true rfl), (Nat.le_of_ble_eq_true rfl)⟩) hS (fun q _ h => hFc q h) hFc (fun r_428 u t H locs ht hvm w_427 hB hz1 hk1 hS => ?_)
                      obtain ⟨v_429, fa_430⟩ := u
                      obtain ⟨hP1, hK1, hD1⟩ := hB
                      rw [ht] at hP1
                      have hP : va_P (dC, dI) vwCl (mW g0 pq cp v_429 fa_430) H := hP1
                      have hD : va_D A (mW g0 pq cp v_429 fa_430) := hD1.weaken (fun _ _ _ h => hFc _ h)
                      clear hP1 hK1 hD1 hk1 hz1 hvm ht hFc
                      obtain ⟨rfl, ev_431, ef_432⟩ := w_427
                      dsimp only at ev_431 ef_432
                      have ea_v_429 : v_429 47 = nI k_408 := by rw [ev_431]; exact ea_v_420
                      have es_v_429 : v_429 50 = nI n := by rw [ev_431]; exact es_v_420
                      have hb_v_429 : v_429 49 < 0 ∨ ∃ j : Nat, j ≤ 1740 ∧ v_429 49 = nI j := by rw [ev_431]; exact hb_v_420
                      have we_v_429 : v_429 51 = 0 := by rw [ev_431]; rfl
                      have sm_v_429 : ∀ i, i ≠ 47 → i ≠ 48 → i ≠ 51 → v_429 i = v i := by intro i h1 h2 h3; rw [ev_431]; exact (if_neg h3).trans (sm_v_420 i h1 h2 h3)
                      exact W.iret (v := 0) hx hb hr (fun t ht hW => ⟨⟨0, (v_429, fa_430), rfl, ⟨⟨k_408, by omega, hb_410, ea_v_429, (Or.inl we_v_429), sm_v_429⟩, (ef_432.trans (ef_422.trans (ef_414.trans ef_96)))⟩, ⟨by rw [ht]; exact hP, va_K.moved hW.alike hK, hD⟩⟩, hS.F ht⟩) hS.2.2 dX11_unit_197
                    · have ea_v_420 : v_420 47 = nI (k_408 + 1) := by rw [ev_423]; show v_406 47 + 1 = _; rw [ea_411]; exact nI_1 _
                      have es_v_420 : v_420 50 = nI n := by rw [ev_423]; exact es_v_406
                      have hb_v_420 : v_420 49 < 0 ∨ ∃ j : Nat, j ≤ 1740 ∧ v_420 49 = nI j := by rw [ev_423]; exact hb_v_406
                      have sm_v_420 : ∀ i, i ≠ 47 → i ≠ 48 → i ≠ 51 → v_420 i = v i := by intro i h1 h2 h3; rw [ev_423]; exact (if_neg h1).trans (sm_v_406 i h1 h2 h3)
                      obtain ⟨we_433, de_434⟩ := Or.resolve_left wd_412 hwe_424
                      have we_v_420 : v_420 51 = 1 := by rw [ev_423]; exact we_433
                      have de_v_420 : v_420 48 = nI 5 := by rw [ev_423]; exact de_434
                      refine lv_if_ne (tgt := 198) hx hb dX11_unit_190 (by decide) (fun _ => ?_) (fun c_435 => absurd c_435 (by decide))
                      refine lv_aload_n hx hb dX11_unit_198 rfl (lv_at hl 4 rfl) ?_
                      refine lv_dup hx hb dX11_unit_199 rfl ?_
                      refine va_get (D := (dC, dI)) (ci := 11) (v := .int (v_420 48)) (C := RX11) (T := TX11) (N := 63) hx hb hts in_wsX11_unit_X11 hown hK hP 0 rfl rfl 48 (by decide) (hts (.fieldLink RX11 244 "ShipOfficeModel" "deep" "I") iw_X11_unit_3) (fun _ h9 => h9) rfl dX11_unit_200 ?_
                      refine lv_topi (fun y ey => ?_)
                      obtain rfl : y = 5 := ey.trans (de_v_420.trans (by decide))
                      refine lv_iconst (v := 1) hx hb dX11_unit_203 (by decide) ?_
                      refine lv_isub hx hb dX11_unit_204 ?_
                      refine lv_topi (fun y ey => ?_)
                      obtain rfl : y = 4 := ey.trans (by decide)
                      refine va_put (D := (dC, dI)) (ci := 11) (v := .int 4) (ty := .int) (C := RX11) (T := TX11) (N := 63) hx hb hts in_wsX11_unit_X11 tyX11 tyX11_ok nmX11 hown hK hP hD hS 0 rfl rfl 48 (by decide) (hts (.fieldLink RX11 244 "ShipOfficeModel" "deep" "I") iw_X11_unit_3) (fun _ h9 => h9) rfl (by decide +kernel) rfl rfl (Nat.le_of_ble_eq_true rfl) dX11_unit_205 (fun H locs hP hD hS => ?_)
                      have hP : va_P (dC, dI) vwCl (mW g0 pq cp (upd v_420 48 4) fa_421) H := hP
                      have hD : va_D A (mW g0 pq cp (upd v_420 48 4) fa_421) := hD
                      obtain ⟨z_436, ez_436⟩ : ∃ zq, zq = (upd v_420 48 4) := ⟨_, rfl⟩
                      rw [← ez_436] at hP hD
                      have ea_z_436 : z_436 47 = nI (k_408 + 1) := by rw [ez_436]; exact ea_v_420
                      have es_z_436 : z_436 50 = nI n := by rw [ez_436]; exact es_v_420
                      have hb_z_436 : z_436 49 < 0 ∨ ∃ j : Nat, j ≤ 1740 ∧ z_436 49 = nI j := by rw [ez_436]; exact hb_v_420
                      have we_z_436 : z_436 51 = 1 := by rw [ez_436]; exact we_v_420
                      have de_z_436 : z_436 48 = nI 4 := by rw [ez_436]; rfl
                      have sm_z_436 : ∀ i, i ≠ 47 → i ≠ 48 → i ≠ 51 → z_436 i = v i := by intro i h1 h2 h3; rw [ez_436]; exact (if_neg h2).trans (sm_v_420 i h1 h2 h3)
                      refine lv_iload_n hx hb dX11_unit_208 rfl (lv_at hl 0 rfl) ?_
                      exact W.iret (v := 0) hx hb hr (fun t ht hW => ⟨⟨0, (z_436, fa_421), rfl, ⟨⟨(k_408 + 1), by omega, hlt_425, ea_z_436, (Or.inr ⟨we_z_436, de_z_436⟩), sm_z_436⟩, (ef_422.trans (ef_414.trans ef_96))⟩, ⟨by rw [ht]; exact hP, va_K.moved hW.alike hK, hD⟩⟩, hS.F ht⟩) hS.2.2 dX11_unit_209
                  · refine lv_iconst (v := 1) hx hb dX11_unit_178 (by decide) ?_
                    refine lv_goto (tgt := 183) hx hb dX11_unit_179 (by decide) ?_
                    refine lv_istore_n (lv' := [(2, .int 1), (4, .int r_405), (3, .int r_98), (1, .int r_3), (0, .ref g0)]) hx hb dX11_unit_183 rfl hl (by decide) rfl (fun ls hl => ?_)
                    refine lv_aload_n hx hb dX11_unit_184 rfl (lv_at hl 4 rfl) ?_
                    refine lv_bipush (v := 41) hx hb dX11_unit_185 (by decide) ?_
                    have hFc := va_free (wc := (mW g0 pq cp v_406 fa_407)) hD hS hA (List.range 48) rfl
                    refine va_calli (va_runV (As := [.int 41]) (rest := []) ⟨hx, hb, hml, hown, hts⟩ (c_X11_takes_b l dC dI H.size g0 pq cp v_406 fa_407 k_408 n hb_410 hn ea_411 es_v_406 hb_v_406 41 (by decide)) (cwV 1 hts gX11_unit_X11_takes rfl rfl rfl (by decide +kernel) ⟨(Nat.le_of_ble_eq_true rfl), (Nat.le_of_ble_eq_true rfl)⟩) (pr_V (r := (RX11, TX11, 63)) hP hK hD 0 11 rfl rfl) rfl rfl hl.1 rfl (lv_room (Nat.le_of_ble_eq_true rfl)) dX11_unit_187 ⟨(Nat.le_of_ble_eq_true rfl), (Nat.le_of_ble_eq_true rfl)⟩) hS (fun q _ h => hFc q h) hFc (fun r_438 u t H locs ht hvm w_437 hB hz1 hk1 hS => ?_)
                    obtain ⟨v_439, fa_440⟩ := u
                    obtain ⟨hP1, hK1, hD1⟩ := hB
                    rw [ht] at hP1
                    have hP : va_P (dC, dI) vwCl (mW g0 pq cp v_439 fa_440) H := hP1
                    have hD : va_D A (mW g0 pq cp v_439 fa_440) := hD1.weaken (fun _ _ _ h => hFc _ h)
                    clear hP1 hK1 hD1 hk1 hz1 hvm ht hFc
                    obtain ⟨ef_441, w_437⟩ := w_437
                    dsimp only at ef_441 w_437
                    rcases w_437 with ⟨rfl, ev_442⟩ | ⟨rfl, hwe_443, hlt_444, ev_442⟩
                    · have ea_v_439 : v_439 47 = nI k_408 := by rw [ev_442]; exact ea_411
                      have es_v_439 : v_439 50 = nI n := by rw [ev_442]; exact es_v_406
                      have hb_v_439 : v_439 49 < 0 ∨ ∃ j : Nat, j ≤ 1740 ∧ v_439 49 = nI j := by rw [ev_442]; exact hb_v_406
                      have sm_v_439 : ∀ i, i ≠ 47 → i ≠ 48 → i ≠ 51 → v_439 i = v i := by rw [ev_442]; exact sm_v_406
                      refine lv_if_ne (tgt := 198) hx hb dX11_unit_190 (by decide) (fun c_445 => absurd c_445 (by decide)) (fun _ => ?_)
                      refine lv_aload_n hx hb dX11_unit_193 rfl (lv_at hl 4 rfl) ?_
                      have hFc := va_free (wc := (mW g0 pq cp v_439 fa_440)) hD hS hA (List.range 48) rfl
                      refine va_calli (va_runV (As := []) (rest := []) ⟨hx, hb, hml, hown, hts⟩ (c_X11_breaks l dC dI H.size g0 pq cp v_439 fa_440) (cwV 0 hts gX11_unit_X11_breaks rfl rfl rfl (by decide +kernel) ⟨(Nat.le_of_ble_eq_true rfl), (Nat.le_of_ble_eq_true rfl)⟩) (pr_V (r := (RX11, TX11, 63)) hP hK hD 0 11 rfl rfl) rfl rfl hl.1 rfl (lv_room (Nat.le_of_ble_eq_true rfl)) dX11_unit_194 ⟨(Nat.le_of_ble_eq_true rfl), (Nat.le_of_ble_eq_true rfl)⟩) hS (fun q _ h => hFc q h) hFc (fun r_447 u t H locs ht hvm w_446 hB hz1 hk1 hS => ?_)
                      obtain ⟨v_448, fa_449⟩ := u
                      obtain ⟨hP1, hK1, hD1⟩ := hB
                      rw [ht] at hP1
                      have hP : va_P (dC, dI) vwCl (mW g0 pq cp v_448 fa_449) H := hP1
                      have hD : va_D A (mW g0 pq cp v_448 fa_449) := hD1.weaken (fun _ _ _ h => hFc _ h)
                      clear hP1 hK1 hD1 hk1 hz1 hvm ht hFc
                      obtain ⟨rfl, ev_450, ef_451⟩ := w_446
                      dsimp only at ev_450 ef_451
                      have ea_v_448 : v_448 47 = nI k_408 := by rw [ev_450]; exact ea_v_439
                      have es_v_448 : v_448 50 = nI n := by rw [ev_450]; exact es_v_439
                      have hb_v_448 : v_448 49 < 0 ∨ ∃ j : Nat, j ≤ 1740 ∧ v_448 49 = nI j := by rw [ev_450]; exact hb_v_439
                      have we_v_448 : v_448 51 = 0 := by rw [ev_450]; rfl
                      have sm_v_448 : ∀ i, i ≠ 47 → i ≠ 48 → i ≠ 51 → v_448 i = v i := by intro i h1 h2 h3; rw [ev_450]; exact (if_neg h3).trans (sm_v_439 i h1 h2 h3)
                      exact W.iret (v := 0) hx hb hr (fun t ht hW => ⟨⟨0, (v_448, fa_449), rfl, ⟨⟨k_408, by omega, hb_410, ea_v_448, (Or.inl we_v_448), sm_v_448⟩, (ef_451.trans (ef_441.trans (ef_414.trans ef_96)))⟩, ⟨by rw [ht]; exact hP, va_K.moved hW.alike hK, hD⟩⟩, hS.F ht⟩) hS.2.2 dX11_unit_197
                    · have ea_v_439 : v_439 47 = nI (k_408 + 1) := by rw [ev_442]; show v_406 47 + 1 = _; rw [ea_411]; exact nI_1 _
                      have es_v_439 : v_439 50 = nI n := by rw [ev_442]; exact es_v_406
                      have hb_v_439 : v_439 49 < 0 ∨ ∃ j : Nat, j ≤ 1740 ∧ v_439 49 = nI j := by rw [ev_442]; exact hb_v_406
                      have sm_v_439 : ∀ i, i ≠ 47 → i ≠ 48 → i ≠ 51 → v_439 i = v i := by intro i h1 h2 h3; rw [ev_442]; exact (if_neg h1).trans (sm_v_406 i h1 h2 h3)
                      obtain ⟨we_452, de_453⟩ := Or.resolve_left wd_412 hwe_443
                      have we_v_439 : v_439 51 = 1 := by rw [ev_442]; exact we_452
                      have de_v_439 : v_439 48 = nI 5 := by rw [ev_442]; exact de_453
                      refine lv_if_ne (tgt := 198) hx hb dX11_unit_190 (by decide) (fun _ => ?_) (fun c_454 => absurd c_454 (by decide))
                      refine lv_aload_n hx hb dX11_unit_198 rfl (lv_at hl 4 rfl) ?_
                      refine lv_dup hx hb dX11_unit_199 rfl ?_
                      refine va_get (D := (dC, dI)) (ci := 11) (v := .int (v_439 48)) (C := RX11) (T := TX11) (N := 63) hx hb hts in_wsX11_unit_X11 hown hK hP 0 rfl rfl 48 (by decide) (hts (.fieldLink RX11 244 "ShipOfficeModel" "deep" "I") iw_X11_unit_3) (fun _ h9 => h9) rfl dX11_unit_200 ?_
                      refine lv_topi (fun y ey => ?_)
                      obtain rfl : y = 5 := ey.trans (de_v_439.trans (by decide))
                      refine lv_iconst (v := 1) hx hb dX11_unit_203 (by decide) ?_
                      refine lv_isub hx hb dX11_unit_204 ?_
                      refine lv_topi (fun y ey => ?_)
                      obtain rfl : y = 4 := ey.trans (by decide)
                      refine va_put (D := (dC, dI)) (ci := 11) (v := .int 4) (ty := .int) (C := RX11) (T := TX11) (N := 63) hx hb hts in_wsX11_unit_X11 tyX11 tyX11_ok nmX11 hown hK hP hD hS 0 rfl rfl 48 (by decide) (hts (.fieldLink RX11 244 "ShipOfficeModel" "deep" "I") iw_X11_unit_3) (fun _ h9 => h9) rfl (by decide +kernel) rfl rfl (Nat.le_of_ble_eq_true rfl) dX11_unit_205 (fun H locs hP hD hS => ?_)
                      have hP : va_P (dC, dI) vwCl (mW g0 pq cp (upd v_439 48 4) fa_440) H := hP
                      have hD : va_D A (mW g0 pq cp (upd v_439 48 4) fa_440) := hD
                      obtain ⟨z_455, ez_455⟩ : ∃ zq, zq = (upd v_439 48 4) := ⟨_, rfl⟩
                      rw [← ez_455] at hP hD
                      have ea_z_455 : z_455 47 = nI (k_408 + 1) := by rw [ez_455]; exact ea_v_439
                      have es_z_455 : z_455 50 = nI n := by rw [ez_455]; exact es_v_439
                      have hb_z_455 : z_455 49 < 0 ∨ ∃ j : Nat, j ≤ 1740 ∧ z_455 49 = nI j := by rw [ez_455]; exact hb_v_439
                      have we_z_455 : z_455 51 = 1 := by rw [ez_455]; exact we_v_439
                      have de_z_455 : z_455 48 = nI 4 := by rw [ez_455]; rfl
                      have sm_z_455 : ∀ i, i ≠ 47 → i ≠ 48 → i ≠ 51 → z_455 i = v i := by intro i h1 h2 h3; rw [ez_455]; exact (if_neg h2).trans (sm_v_439 i h1 h2 h3)
                      refine lv_iload_n hx hb dX11_unit_208 rfl (lv_at hl 0 rfl) ?_
                      exact W.iret (v := 1) hx hb hr (fun t ht hW => ⟨⟨1, (z_455, fa_440), rfl, ⟨⟨(k_408 + 1), by omega, hlt_444, ea_z_455, (Or.inr ⟨we_z_455, de_z_455⟩), sm_z_455⟩, (ef_441.trans (ef_414.trans ef_96))⟩, ⟨by rw [ht]; exact hP, va_K.moved hW.alike hK, hD⟩⟩, hS.F ht⟩) hS.2.2 dX11_unit_209
                · refine lv_iload_n hx hb dX11_unit_158 rfl (lv_at hl 2 rfl) ?_
                  refine lv_iload hx hb dX11_unit_159 (lv_at hl 0 rfl) ?_
                  refine lv_icmp_ne (tgt := 168) hx hb dX11_unit_161 (by decide) (fun c_456 => ?_) (fun c_456 => ?_)
                  · refine lv_iconst (v := 0) hx hb dX11_unit_168 (by decide) ?_
                    refine lv_goto (tgt := 183) hx hb dX11_unit_169 (by decide) ?_
                    refine lv_istore_n (lv' := [(2, .int 0), (4, .int r_405), (3, .int r_98), (1, .int r_3), (0, .ref g0)]) hx hb dX11_unit_183 rfl hl (by decide) rfl (fun ls hl => ?_)
                    refine lv_aload_n hx hb dX11_unit_184 rfl (lv_at hl 4 rfl) ?_
                    refine lv_bipush (v := 41) hx hb dX11_unit_185 (by decide) ?_
                    have hFc := va_free (wc := (mW g0 pq cp v_406 fa_407)) hD hS hA (List.range 48) rfl
                    refine va_calli (va_runV (As := [.int 41]) (rest := []) ⟨hx, hb, hml, hown, hts⟩ (c_X11_takes_b l dC dI H.size g0 pq cp v_406 fa_407 k_408 n hb_410 hn ea_411 es_v_406 hb_v_406 41 (by decide)) (cwV 1 hts gX11_unit_X11_takes rfl rfl rfl (by decide +kernel) ⟨(Nat.le_of_ble_eq_true rfl), (Nat.le_of_ble_eq_true rfl)⟩) (pr_V (r := (RX11, TX11, 63)) hP hK hD 0 11 rfl rfl) rfl rfl hl.1 rfl (lv_room (Nat.le_of_ble_eq_true rfl)) dX11_unit_187 ⟨(Nat.le_of_ble_eq_true rfl), (Nat.le_of_ble_eq_true rfl)⟩) hS (fun q _ h => hFc q h) hFc (fun r_458 u t H locs ht hvm w_457 hB hz1 hk1 hS => ?_)
                    obtain ⟨v_459, fa_460⟩ := u
                    obtain ⟨hP1, hK1, hD1⟩ := hB
                    rw [ht] at hP1
                    have hP : va_P (dC, dI) vwCl (mW g0 pq cp v_459 fa_460) H := hP1
                    have hD : va_D A (mW g0 pq cp v_459 fa_460) := hD1.weaken (fun _ _ _ h => hFc _ h)
                    clear hP1 hK1 hD1 hk1 hz1 hvm ht hFc
                    obtain ⟨ef_461, w_457⟩ := w_457
                    dsimp only at ef_461 w_457
                    rcases w_457 with ⟨rfl, ev_462⟩ | ⟨rfl, hwe_463, hlt_464, ev_462⟩
                    · have ea_v_459 : v_459 47 = nI k_408 := by rw [ev_462]; exact ea_411
                      have es_v_459 : v_459 50 = nI n := by rw [ev_462]; exact es_v_406
                      have hb_v_459 : v_459 49 < 0 ∨ ∃ j : Nat, j ≤ 1740 ∧ v_459 49 = nI j := by rw [ev_462]; exact hb_v_406
                      have sm_v_459 : ∀ i, i ≠ 47 → i ≠ 48 → i ≠ 51 → v_459 i = v i := by rw [ev_462]; exact sm_v_406
                      refine lv_if_ne (tgt := 198) hx hb dX11_unit_190 (by decide) (fun c_465 => absurd c_465 (by decide)) (fun _ => ?_)
                      refine lv_aload_n hx hb dX11_unit_193 rfl (lv_at hl 4 rfl) ?_
                      have hFc := va_free (wc := (mW g0 pq cp v_459 fa_460)) hD hS hA (List.range 48) rfl
                      refine va_calli (va_runV (As := []) (rest := []) ⟨hx, hb, hml, hown, hts⟩ (c_X11_breaks l dC dI H.size g0 pq cp v_459 fa_460) (cwV 0 hts gX11_unit_X11_breaks rfl rfl rfl (by decide +kernel) ⟨(Nat.le_of_ble_eq_true rfl), (Nat.le_of_ble_eq_true rfl)⟩) (pr_V (r := (RX11, TX11, 63)) hP hK hD 0 11 rfl rfl) rfl rfl hl.1 rfl (lv_room (Nat.le_of_ble_eq_true rfl)) dX11_unit_194 ⟨(Nat.le_of_ble_eq_true rfl), (Nat.le_of_ble_eq_true rfl)⟩) hS (fun q _ h => hFc q h) hFc (fun r_467 u t H locs ht hvm w_466 hB hz1 hk1 hS => ?_)
                      obtain ⟨v_468, fa_469⟩ := u
                      obtain ⟨hP1, hK1, hD1⟩ := hB
                      rw [ht] at hP1
                      have hP : va_P (dC, dI) vwCl (mW g0 pq cp v_468 fa_469) H := hP1
                      have hD : va_D A (mW g0 pq cp v_468 fa_469) := hD1.weaken (fun _ _ _ h => hFc _ h)
                      clear hP1 hK1 hD1 hk1 hz1 hvm ht hFc
                      obtain ⟨rfl, ev_470, ef_471⟩ := w_466
                      dsimp only at ev_470 ef_471
                      have ea_v_468 : v_468 47 = nI k_408 := by rw [ev_470]; exact ea_v_459
                      have es_v_468 : v_468 50 = nI n := by rw [ev_470]; exact es_v_459
                      have hb_v_468 : v_468 49 < 0 ∨ ∃ j : Nat, j ≤ 1740 ∧ v_468 49 = nI j := by rw [ev_470]; exact hb_v_459
                      have we_v_468 : v_468 51 = 0 := by rw [ev_470]; rfl
                      have sm_v_468 : ∀ i, i ≠ 47 → i ≠ 48 → i ≠ 51 → v_468 i = v i := by intro i h1 h2 h3; rw [ev_470]; exact (if_neg h3).trans (sm_v_459 i h1 h2 h3)
                      exact W.iret (v := 0) hx hb hr (fun t ht hW => ⟨⟨0, (v_468, fa_469), rfl, ⟨⟨k_408, by omega, hb_410, ea_v_468, (Or.inl we_v_468), sm_v_468⟩, (ef_471.trans (ef_461.trans (ef_414.trans ef_96)))⟩, ⟨by rw [ht]; exact hP, va_K.moved hW.alike hK, hD⟩⟩, hS.F ht⟩) hS.2.2 dX11_unit_197
                    · have ea_v_459 : v_459 47 = nI (k_408 + 1) := by rw [ev_462]; show v_406 47 + 1 = _; rw [ea_411]; exact nI_1 _
                      have es_v_459 : v_459 50 = nI n := by rw [ev_462]; exact es_v_406
                      have hb_v_459 : v_459 49 < 0 ∨ ∃ j : Nat, j ≤ 1740 ∧ v_459 49 = nI j := by rw [ev_462]; exact hb_v_406
                      have sm_v_459 : ∀ i, i ≠ 47 → i ≠ 48 → i ≠ 51 → v_459 i = v i := by intro i h1 h2 h3; rw [ev_462]; exact (if_neg h1).trans (sm_v_406 i h1 h2 h3)
                      obtain ⟨we_472, de_473⟩ := Or.resolve_left wd_412 hwe_463
                      have we_v_459 : v_459 51 = 1 := by rw [ev_462]; exact we_472
                      have de_v_459 : v_459 48 = nI 5 := by rw [ev_462]; exact de_473
                      refine lv_if_ne (tgt := 198) hx hb dX11_unit_190 (by decide) (fun _ => ?_) (fun c_474 => absurd c_474 (by decide))
                      refine lv_aload_n hx hb dX11_unit_198 rfl (lv_at hl 4 rfl) ?_
                      refine lv_dup hx hb dX11_unit_199 rfl ?_
                      refine va_get (D := (dC, dI)) (ci := 11) (v := .int (v_459 48)) (C := RX11) (T := TX11) (N := 63) hx hb hts in_wsX11_unit_X11 hown hK hP 0 rfl rfl 48 (by decide) (hts (.fieldLink RX11 244 "ShipOfficeModel" "deep" "I") iw_X11_unit_3) (fun _ h9 => h9) rfl dX11_unit_200 ?_
                      refine lv_topi (fun y ey => ?_)
                      obtain rfl : y = 5 := ey.trans (de_v_459.trans (by decide))
                      refine lv_iconst (v := 1) hx hb dX11_unit_203 (by decide) ?_
                      refine lv_isub hx hb dX11_unit_204 ?_
                      refine lv_topi (fun y ey => ?_)
                      obtain rfl : y = 4 := ey.trans (by decide)
                      refine va_put (D := (dC, dI)) (ci := 11) (v := .int 4) (ty := .int) (C := RX11) (T := TX11) (N := 63) hx hb hts in_wsX11_unit_X11 tyX11 tyX11_ok nmX11 hown hK hP hD hS 0 rfl rfl 48 (by decide) (hts (.fieldLink RX11 244 "ShipOfficeModel" "deep" "I") iw_X11_unit_3) (fun _ h9 => h9) rfl (by decide +kernel) rfl rfl (Nat.le_of_ble_eq_true rfl) dX11_unit_205 (fun H locs hP hD hS => ?_)
                      have hP : va_P (dC, dI) vwCl (mW g0 pq cp (upd v_459 48 4) fa_460) H := hP
                      have hD : va_D A (mW g0 pq cp (upd v_459 48 4) fa_460) := hD
                      obtain ⟨z_475, ez_475⟩ : ∃ zq, zq = (upd v_459 48 4) := ⟨_, rfl⟩
                      rw [← ez_475] at hP hD
                      have ea_z_475 : z_475 47 = nI (k_408 + 1) := by rw [ez_475]; exact ea_v_459
                      have es_z_475 : z_475 50 = nI n := by rw [ez_475]; exact es_v_459
                      have hb_z_475 : z_475 49 < 0 ∨ ∃ j : Nat, j ≤ 1740 ∧ z_475 49 = nI j := by rw [ez_475]; exact hb_v_459
                      have we_z_475 : z_475 51 = 1 := by rw [ez_475]; exact we_v_459
                      have de_z_475 : z_475 48 = nI 4 := by rw [ez_475]; rfl
                      have sm_z_475 : ∀ i, i ≠ 47 → i ≠ 48 → i ≠ 51 → z_475 i = v i := by intro i h1 h2 h3; rw [ez_475]; exact (if_neg h2).trans (sm_v_459 i h1 h2 h3)
                      refine lv_iload_n hx hb dX11_unit_208 rfl (lv_at hl 0 rfl) ?_
                      exact W.iret (v := 0) hx hb hr (fun t ht hW => ⟨⟨0, (z_475, fa_460), rfl, ⟨⟨(k_408 + 1), by omega, hlt_464, ea_z_475, (Or.inr ⟨we_z_475, de_z_475⟩), sm_z_475⟩, (ef_461.trans (ef_414.trans ef_96))⟩, ⟨by rw [ht]; exact hP, va_K.moved hW.alike hK, hD⟩⟩, hS.F ht⟩) hS.2.2 dX11_unit_209
                  · refine lv_iconst (v := 1) hx hb dX11_unit_164 (by decide) ?_
                    refine lv_goto (tgt := 183) hx hb dX11_unit_165 (by decide) ?_
                    refine lv_istore_n (lv' := [(2, .int 1), (4, .int r_405), (3, .int r_98), (1, .int r_3), (0, .ref g0)]) hx hb dX11_unit_183 rfl hl (by decide) rfl (fun ls hl => ?_)
                    refine lv_aload_n hx hb dX11_unit_184 rfl (lv_at hl 4 rfl) ?_
                    refine lv_bipush (v := 41) hx hb dX11_unit_185 (by decide) ?_
                    have hFc := va_free (wc := (mW g0 pq cp v_406 fa_407)) hD hS hA (List.range 48) rfl
                    refine va_calli (va_runV (As := [.int 41]) (rest := []) ⟨hx, hb, hml, hown, hts⟩ (c_X11_takes_b l dC dI H.size g0 pq cp v_406 fa_407 k_408 n hb_410 hn ea_411 es_v_406 hb_v_406 41 (by decide)) (cwV 1 hts gX11_unit_X11_takes rfl rfl rfl (by decide +kernel) ⟨(Nat.le_of_ble_eq_true rfl), (Nat.le_of_ble_eq_true rfl)⟩) (pr_V (r := (RX11, TX11, 63)) hP hK hD 0 11 rfl rfl) rfl rfl hl.1 rfl (lv_room (Nat.le_of_ble_eq_true rfl)) dX11_unit_187 ⟨(Nat.le_of_ble_eq_true rfl), (Nat.le_of_ble_eq_true rfl)⟩) hS (fun q _ h => hFc q h) hFc (fun r_477 u t H locs ht hvm w_476 hB hz1 hk1 hS => ?_)
                    obtain ⟨v_478, fa_479⟩ := u
                    obtain ⟨hP1, hK1, hD1⟩ := hB
                    rw [ht] at hP1
                    have hP : va_P (dC, dI) vwCl (mW g0 pq cp v_478 fa_479) H := hP1
                    have hD : va_D A (mW g0 pq cp v_478 fa_479) := hD1.weaken (fun _ _ _ h => hFc _ h)
                    clear hP1 hK1 hD1 hk1 hz1 hvm ht hFc
                    obtain ⟨ef_480, w_476⟩ := w_476
                    dsimp only at ef_480 w_476
                    rcases w_476 with ⟨rfl, ev_481⟩ | ⟨rfl, hwe_482, hlt_483, ev_481⟩
                    · have ea_v_478 : v_478 47 = nI k_408 := by rw [ev_481]; exact ea_411
                      have es_v_478 : v_478 50 = nI n := by rw [ev_481]; exact es_v_406
                      have hb_v_478 : v_478 49 < 0 ∨ ∃ j : Nat, j ≤ 1740 ∧ v_478 49 = nI j := by rw [ev_481]; exact hb_v_406
                      have sm_v_478 : ∀ i, i ≠ 47 → i ≠ 48 → i ≠ 51 → v_478 i = v i := by rw [ev_481]; exact sm_v_406
                      refine lv_if_ne (tgt := 198) hx hb dX11_unit_190 (by decide) (fun c_484 => absurd c_484 (by decide)) (fun _ => ?_)
                      refine lv_aload_n hx hb dX11_unit_193 rfl (lv_at hl 4 rfl) ?_
                      have hFc := va_free (wc := (mW g0 pq cp v_478 fa_479)) hD hS hA (List.range 48) rfl
                      refine va_calli (va_runV (As := []) (rest := []) ⟨hx, hb, hml, hown, hts⟩ (c_X11_breaks l dC dI H.size g0 pq cp v_478 fa_479) (cwV 0 hts gX11_unit_X11_breaks rfl rfl rfl (by decide +kernel) ⟨(Nat.le_of_ble_eq_true rfl), (Nat.le_of_ble_eq_true rfl)⟩) (pr_V (r := (RX11, TX11, 63)) hP hK hD 0 11 rfl rfl) rfl rfl hl.1 rfl (lv_room (Nat.le_of_ble_eq_true rfl)) dX11_unit_194 ⟨(Nat.le_of_ble_eq_true rfl), (Nat.le_of_ble_eq_true rfl)⟩) hS (fun q _ h => hFc q h) hFc (fun r_486 u t H locs ht hvm w_485 hB hz1 hk1 hS => ?_)
                      obtain ⟨v_487, fa_488⟩ := u
                      obtain ⟨hP1, hK1, hD1⟩ := hB
                      rw [ht] at hP1
                      have hP : va_P (dC, dI) vwCl (mW g0 pq cp v_487 fa_488) H := hP1
                      have hD : va_D A (mW g0 pq cp v_487 fa_488) := hD1.weaken (fun _ _ _ h => hFc _ h)
                      clear hP1 hK1 hD1 hk1 hz1 hvm ht hFc
                      obtain ⟨rfl, ev_489, ef_490⟩ := w_485
                      dsimp only at ev_489 ef_490
                      have ea_v_487 : v_487 47 = nI k_408 := by rw [ev_489]; exact ea_v_478
                      have es_v_487 : v_487 50 = nI n := by rw [ev_489]; exact es_v_478
                      have hb_v_487 : v_487 49 < 0 ∨ ∃ j : Nat, j ≤ 1740 ∧ v_487 49 = nI j := by rw [ev_489]; exact hb_v_478
                      have we_v_487 : v_487 51 = 0 := by rw [ev_489]; rfl
                      have sm_v_487 : ∀ i, i ≠ 47 → i ≠ 48 → i ≠ 51 → v_487 i = v i := by intro i h1 h2 h3; rw [ev_489]; exact (if_neg h3).trans (sm_v_478 i h1 h2 h3)
                      exact W.iret (v := 0) hx hb hr (fun t ht hW => ⟨⟨0, (v_487, fa_488), rfl, ⟨⟨k_408, by omega, hb_410, ea_v_487, (Or.inl we_v_487), sm_v_487⟩, (ef_490.trans (ef_480.trans (ef_414.trans ef_96)))⟩, ⟨by rw [ht]; exact hP, va_K.moved hW.alike hK, hD⟩⟩, hS.F ht⟩) hS.2.2 dX11_unit_197
                    · have ea_v_478 : v_478 47 = nI (k_408 + 1) := by rw [ev_481]; show v_406 47 + 1 = _; rw [ea_411]; exact nI_1 _
                      have es_v_478 : v_478 50 = nI n := by rw [ev_481]; exact es_v_406
                      have hb_v_478 : v_478 49 < 0 ∨ ∃ j : Nat, j ≤ 1740 ∧ v_478 49 = nI j := by rw [ev_481]; exact hb_v_406
                      have sm_v_478 : ∀ i, i ≠ 47 → i ≠ 48 → i ≠ 51 → v_478 i = v i := by intro i h1 h2 h3; rw [ev_481]; exact (if_neg h1).trans (sm_v_406 i h1 h2 h3)
                      obtain ⟨we_491, de_492⟩ := Or.resolve_left wd_412 hwe_482
                      have we_v_478 : v_478 51 = 1 := by rw [ev_481]; exact we_491
                      have de_v_478 : v_478 48 = nI 5 := by rw [ev_481]; exact de_492
                      refine lv_if_ne (tgt := 198) hx hb dX11_unit_190 (by decide) (fun _ => ?_) (fun c_493 => absurd c_493 (by decide))
                      refine lv_aload_n hx hb dX11_unit_198 rfl (lv_at hl 4 rfl) ?_
                      refine lv_dup hx hb dX11_unit_199 rfl ?_
                      refine va_get (D := (dC, dI)) (ci := 11) (v := .int (v_478 48)) (C := RX11) (T := TX11) (N := 63) hx hb hts in_wsX11_unit_X11 hown hK hP 0 rfl rfl 48 (by decide) (hts (.fieldLink RX11 244 "ShipOfficeModel" "deep" "I") iw_X11_unit_3) (fun _ h9 => h9) rfl dX11_unit_200 ?_
                      refine lv_topi (fun y ey => ?_)
                      obtain rfl : y = 5 := ey.trans (de_v_478.trans (by decide))
                      refine lv_iconst (v := 1) hx hb dX11_unit_203 (by decide) ?_
                      refine lv_isub hx hb dX11_unit_204 ?_
                      refine lv_topi (fun y ey => ?_)
                      obtain rfl : y = 4 := ey.trans (by decide)
                      refine va_put (D := (dC, dI)) (ci := 11) (v := .int 4) (ty := .int) (C := RX11) (T := TX11) (N := 63) hx hb hts in_wsX11_unit_X11 tyX11 tyX11_ok nmX11 hown hK hP hD hS 0 rfl rfl 48 (by decide) (hts (.fieldLink RX11 244 "ShipOfficeModel" "deep" "I") iw_X11_unit_3) (fun _ h9 => h9) rfl (by decide +kernel) rfl rfl (Nat.le_of_ble_eq_true rfl) dX11_unit_205 (fun H locs hP hD hS => ?_)
                      have hP : va_P (dC, dI) vwCl (mW g0 pq cp (upd v_478 48 4) fa_479) H := hP
                      have hD : va_D A (mW g0 pq cp (upd v_478 48 4) fa_479) := hD
                      obtain ⟨z_494, ez_494⟩ : ∃ zq, zq = (upd v_478 48 4) := ⟨_, rfl⟩
                      rw [← ez_494] at hP hD
                      have ea_z_494 : z_494 47 = nI (k_408 + 1) := by rw [ez_494]; exact ea_v_478
                      have es_z_494 : z_494 50 = nI n := by rw [ez_494]; exact es_v_478
                      have hb_z_494 : z_494 49 < 0 ∨ ∃ j : Nat, j ≤ 1740 ∧ z_494 49 = nI j := by rw [ez_494]; exact hb_v_478
                      have we_z_494 : z_494 51 = 1 := by rw [ez_494]; exact we_v_478
                      have de_z_494 : z_494 48 = nI 4 := by rw [ez_494]; rfl
                      have sm_z_494 : ∀ i, i ≠ 47 → i ≠ 48 → i ≠ 51 → z_494 i = v i := by intro i h1 h2 h3; rw [ez_494]; exact (if_neg h2).trans (sm_v_478 i h1 h2 h3)
                      refine lv_iload_n hx hb dX11_unit_208 rfl (lv_at hl 0 rfl) ?_
                      exact W.iret (v := 1) hx hb hr (fun t ht hW => ⟨⟨1, (z_494, fa_479), rfl, ⟨⟨(k_408 + 1), by omega, hlt_483, ea_z_494, (Or.inr ⟨we_z_494, de_z_494⟩), sm_z_494⟩, (ef_480.trans (ef_414.trans ef_96))⟩, ⟨by rw [ht]; exact hP, va_K.moved hW.alike hK, hD⟩⟩, hS.F ht⟩) hS.2.2 dX11_unit_209
              · refine lv_iload_n hx hb dX11_unit_138 rfl (lv_at hl 2 rfl) ?_
                refine lv_iload hx hb dX11_unit_139 (lv_at hl 0 rfl) ?_
                refine lv_icmp_ge (tgt := 148) hx hb dX11_unit_141 (by decide) (fun c_495 => ?_) (fun c_495 => ?_)
                · refine lv_iconst (v := 0) hx hb dX11_unit_148 (by decide) ?_
                  refine lv_goto (tgt := 183) hx hb dX11_unit_149 (by decide) ?_
                  refine lv_istore_n (lv' := [(2, .int 0), (4, .int r_405), (3, .int r_98), (1, .int r_3), (0, .ref g0)]) hx hb dX11_unit_183 rfl hl (by decide) rfl (fun ls hl => ?_)
                  refine lv_aload_n hx hb dX11_unit_184 rfl (lv_at hl 4 rfl) ?_
                  refine lv_bipush (v := 41) hx hb dX11_unit_185 (by decide) ?_
                  have hFc := va_free (wc := (mW g0 pq cp v_406 fa_407)) hD hS hA (List.range 48) rfl
                  refine va_calli (va_runV (As := [.int 41]) (rest := []) ⟨hx, hb, hml, hown, hts⟩ (c_X11_takes_b l dC dI H.size g0 pq cp v_406 fa_407 k_408 n hb_410 hn ea_411 es_v_406 hb_v_406 41 (by decide)) (cwV 1 hts gX11_unit_X11_takes rfl rfl rfl (by decide +kernel) ⟨(Nat.le_of_ble_eq_true rfl), (Nat.le_of_ble_eq_true rfl)⟩) (pr_V (r := (RX11, TX11, 63)) hP hK hD 0 11 rfl rfl) rfl rfl hl.1 rfl (lv_room (Nat.le_of_ble_eq_true rfl)) dX11_unit_187 ⟨(Nat.le_of_ble_eq_true rfl), (Nat.le_of_ble_eq_true rfl)⟩) hS (fun q _ h => hFc q h) hFc (fun r_497 u t H locs ht hvm w_496 hB hz1 hk1 hS => ?_)
                  obtain ⟨v_498, fa_499⟩ := u
                  obtain ⟨hP1, hK1, hD1⟩ := hB
                  rw [ht] at hP1
                  have hP : va_P (dC, dI) vwCl (mW g0 pq cp v_498 fa_499) H := hP1
                  have hD : va_D A (mW g0 pq cp v_498 fa_499) := hD1.weaken (fun _ _ _ h => hFc _ h)
                  clear hP1 hK1 hD1 hk1 hz1 hvm ht hFc
                  obtain ⟨ef_500, w_496⟩ := w_496
                  dsimp only at ef_500 w_496
                  rcases w_496 with ⟨rfl, ev_501⟩ | ⟨rfl, hwe_502, hlt_503, ev_501⟩
                  · have ea_v_498 : v_498 47 = nI k_408 := by rw [ev_501]; exact ea_411
                    have es_v_498 : v_498 50 = nI n := by rw [ev_501]; exact es_v_406
                    have hb_v_498 : v_498 49 < 0 ∨ ∃ j : Nat, j ≤ 1740 ∧ v_498 49 = nI j := by rw [ev_501]; exact hb_v_406
                    have sm_v_498 : ∀ i, i ≠ 47 → i ≠ 48 → i ≠ 51 → v_498 i = v i := by rw [ev_501]; exact sm_v_406
                    refine lv_if_ne (tgt := 198) hx hb dX11_unit_190 (by decide) (fun c_504 => absurd c_504 (by decide)) (fun _ => ?_)
                    refine lv_aload_n hx hb dX11_unit_193 rfl (lv_at hl 4 rfl) ?_
                    have hFc := va_free (wc := (mW g0 pq cp v_498 fa_499)) hD hS hA (List.range 48) rfl
                    refine va_calli (va_runV (As := []) (rest := []) ⟨hx, hb, hml, hown, hts⟩ (c_X11_breaks l dC dI H.size g0 pq cp v_498 fa_499) (cwV 0 hts gX11_unit_X11_breaks rfl rfl rfl (by decide +kernel) ⟨(Nat.le_of_ble_eq_true rfl), (Nat.le_of_ble_eq_true rfl)⟩) (pr_V (r := (RX11, TX11, 63)) hP hK hD 0 11 rfl rfl) rfl rfl hl.1 rfl (lv_room (Nat.le_of_ble_eq_true rfl)) dX11_unit_194 ⟨(Nat.le_of_ble_eq_true rfl), (Nat.le_of_ble_eq_true rfl)⟩) hS (fun q _ h => hFc q h) hFc (fun r_506 u t H locs ht hvm w_505 hB hz1 hk1 hS => ?_)
                    obtain ⟨v_507, fa_508⟩ := u
                    obtain ⟨hP1, hK1, hD1⟩ := hB
                    rw [ht] at hP1
                    have hP : va_P (dC, dI) vwCl (mW g0 pq cp v_507 fa_508) H := hP1
                    have hD : va_D A (mW g0 pq cp v_507 fa_508) := hD1.weaken (fun _ _ _ h => hFc _ h)
                    clear hP1 hK1 hD1 hk1 hz1 hvm ht hFc
                    obtain ⟨rfl, ev_509, ef_510⟩ := w_505
                    dsimp only at ev_509 ef_510
                    have ea_v_507 : v_507 47 = nI k_408 := by rw [ev_509]; exact ea_v_498
                    have es_v_507 : v_507 50 = nI n := by rw [ev_509]; exact es_v_498
                    have hb_v_507 : v_507 49 < 0 ∨ ∃ j : Nat, j ≤ 1740 ∧ v_507 49 = nI j := by rw [ev_509]; exact hb_v_498
                    have we_v_507 : v_507 51 = 0 := by rw [ev_509]; rfl
                    have sm_v_507 : ∀ i, i ≠ 47 → i ≠ 48 → i ≠ 51 → v_507 i = v i := by intro i h1 h2 h3; rw [ev_509]; exact (if_neg h3).trans (sm_v_498 i h1 h2 h3)
                    exact W.iret (v := 0) hx hb hr (fun t ht hW => ⟨⟨0, (v_507, fa_508), rfl, ⟨⟨k_408, by omega, hb_410, ea_v_507, (Or.inl we_v_507), sm_v_507⟩, (ef_510.trans (ef_500.trans (ef_414.trans ef_96)))⟩, ⟨by rw [ht]; exact hP, va_K.moved hW.alike hK, hD⟩⟩, hS.F ht⟩) hS.2.2 dX11_unit_197
                  · have ea_v_498 : v_498 47 = nI (k_408 + 1) := by rw [ev_501]; show v_406 47 + 1 = _; rw [ea_411]; exact nI_1 _
                    have es_v_498 : v_498 50 = nI n := by rw [ev_501]; exact es_v_406
                    have hb_v_498 : v_498 49 < 0 ∨ ∃ j : Nat, j ≤ 1740 ∧ v_498 49 = nI j := by rw [ev_501]; exact hb_v_406
                    have sm_v_498 : ∀ i, i ≠ 47 → i ≠ 48 → i ≠ 51 → v_498 i = v i := by intro i h1 h2 h3; rw [ev_501]; exact (if_neg h1).trans (sm_v_406 i h1 h2 h3)
                    obtain ⟨we_511, de_512⟩ := Or.resolve_left wd_412 hwe_502
                    have we_v_498 : v_498 51 = 1 := by rw [ev_501]; exact we_511
                    have de_v_498 : v_498 48 = nI 5 := by rw [ev_501]; exact de_512
                    refine lv_if_ne (tgt := 198) hx hb dX11_unit_190 (by decide) (fun _ => ?_) (fun c_513 => absurd c_513 (by decide))
                    refine lv_aload_n hx hb dX11_unit_198 rfl (lv_at hl 4 rfl) ?_
                    refine lv_dup hx hb dX11_unit_199 rfl ?_
                    refine va_get (D := (dC, dI)) (ci := 11) (v := .int (v_498 48)) (C := RX11) (T := TX11) (N := 63) hx hb hts in_wsX11_unit_X11 hown hK hP 0 rfl rfl 48 (by decide) (hts (.fieldLink RX11 244 "ShipOfficeModel" "deep" "I") iw_X11_unit_3) (fun _ h9 => h9) rfl dX11_unit_200 ?_
                    refine lv_topi (fun y ey => ?_)
                    obtain rfl : y = 5 := ey.trans (de_v_498.trans (by decide))
                    refine lv_iconst (v := 1) hx hb dX11_unit_203 (by decide) ?_
                    refine lv_isub hx hb dX11_unit_204 ?_
                    refine lv_topi (fun y ey => ?_)
                    obtain rfl : y = 4 := ey.trans (by decide)
                    refine va_put (D := (dC, dI)) (ci := 11) (v := .int 4) (ty := .int) (C := RX11) (T := TX11) (N := 63) hx hb hts in_wsX11_unit_X11 tyX11 tyX11_ok nmX11 hown hK hP hD hS 0 rfl rfl 48 (by decide) (hts (.fieldLink RX11 244 "ShipOfficeModel" "deep" "I") iw_X11_unit_3) (fun _ h9 => h9) rfl (by decide +kernel) rfl rfl (Nat.le_of_ble_eq_true rfl) dX11_unit_205 (fun H locs hP hD hS => ?_)
                    have hP : va_P (dC, dI) vwCl (mW g0 pq cp (upd v_498 48 4) fa_499) H := hP
                    have hD : va_D A (mW g0 pq cp (upd v_498 48 4) fa_499) := hD
                    obtain ⟨z_514, ez_514⟩ : ∃ zq, zq = (upd v_498 48 4) := ⟨_, rfl⟩
                    rw [← ez_514] at hP hD
                    have ea_z_514 : z_514 47 = nI (k_408 + 1) := by rw [ez_514]; exact ea_v_498
                    have es_z_514 : z_514 50 = nI n := by rw [ez_514]; exact es_v_498
                    have hb_z_514 : z_514 49 < 0 ∨ ∃ j : Nat, j ≤ 1740 ∧ z_514 49 = nI j := by rw [ez_514]; exact hb_v_498
                    have we_z_514 : z_514 51 = 1 := by rw [ez_514]; exact we_v_498
                    have de_z_514 : z_514 48 = nI 4 := by rw [ez_514]; rfl
                    have sm_z_514 : ∀ i, i ≠ 47 → i ≠ 48 → i ≠ 51 → z_514 i = v i := by intro i h1 h2 h3; rw [ez_514]; exact (if_neg h2).trans (sm_v_498 i h1 h2 h3)
                    refine lv_iload_n hx hb dX11_unit_208 rfl (lv_at hl 0 rfl) ?_
                    exact W.iret (v := 0) hx hb hr (fun t ht hW => ⟨⟨0, (z_514, fa_499), rfl, ⟨⟨(k_408 + 1), by omega, hlt_503, ea_z_514, (Or.inr ⟨we_z_514, de_z_514⟩), sm_z_514⟩, (ef_500.trans (ef_414.trans ef_96))⟩, ⟨by rw [ht]; exact hP, va_K.moved hW.alike hK, hD⟩⟩, hS.F ht⟩) hS.2.2 dX11_unit_209
                · refine lv_iconst (v := 1) hx hb dX11_unit_144 (by decide) ?_
                  refine lv_goto (tgt := 183) hx hb dX11_unit_145 (by decide) ?_
                  refine lv_istore_n (lv' := [(2, .int 1), (4, .int r_405), (3, .int r_98), (1, .int r_3), (0, .ref g0)]) hx hb dX11_unit_183 rfl hl (by decide) rfl (fun ls hl => ?_)
                  refine lv_aload_n hx hb dX11_unit_184 rfl (lv_at hl 4 rfl) ?_
                  refine lv_bipush (v := 41) hx hb dX11_unit_185 (by decide) ?_
                  have hFc := va_free (wc := (mW g0 pq cp v_406 fa_407)) hD hS hA (List.range 48) rfl
                  refine va_calli (va_runV (As := [.int 41]) (rest := []) ⟨hx, hb, hml, hown, hts⟩ (c_X11_takes_b l dC dI H.size g0 pq cp v_406 fa_407 k_408 n hb_410 hn ea_411 es_v_406 hb_v_406 41 (by decide)) (cwV 1 hts gX11_unit_X11_takes rfl rfl rfl (by decide +kernel) ⟨(Nat.le_of_ble_eq_true rfl), (Nat.le_of_ble_eq_true rfl)⟩) (pr_V (r := (RX11, TX11, 63)) hP hK hD 0 11 rfl rfl) rfl rfl hl.1 rfl (lv_room (Nat.le_of_ble_eq_true rfl)) dX11_unit_187 ⟨(Nat.le_of_ble_eq_true rfl), (Nat.le_of_ble_eq_true rfl)⟩) hS (fun q _ h => hFc q h) hFc (fun r_516 u t H locs ht hvm w_515 hB hz1 hk1 hS => ?_)
                  obtain ⟨v_517, fa_518⟩ := u
                  obtain ⟨hP1, hK1, hD1⟩ := hB
                  rw [ht] at hP1
                  have hP : va_P (dC, dI) vwCl (mW g0 pq cp v_517 fa_518) H := hP1
                  have hD : va_D A (mW g0 pq cp v_517 fa_518) := hD1.weaken (fun _ _ _ h => hFc _ h)
                  clear hP1 hK1 hD1 hk1 hz1 hvm ht hFc
                  obtain ⟨ef_519, w_515⟩ := w_515
                  dsimp only at ef_519 w_515
                  rcases w_515 with ⟨rfl, ev_520⟩ | ⟨rfl, hwe_521, hlt_522, ev_520⟩
                  · have ea_v_517 : v_517 47 = nI k_408 := by rw [ev_520]; exact ea_411
                    have es_v_517 : v_517 50 = nI n := by rw [ev_520]; exact es_v_406
                    have hb_v_517 : v_517 49 < 0 ∨ ∃ j : Nat, j ≤ 1740 ∧ v_517 49 = nI j := by rw [ev_520]; exact hb_v_406
                    have sm_v_517 : ∀ i, i ≠ 47 → i ≠ 48 → i ≠ 51 → v_517 i = v i := by rw [ev_520]; exact sm_v_406
                    refine lv_if_ne (tgt := 198) hx hb dX11_unit_190 (by decide) (fun c_523 => absurd c_523 (by decide)) (fun _ => ?_)
                    refine lv_aload_n hx hb dX11_unit_193 rfl (lv_at hl 4 rfl) ?_
                    have hFc := va_free (wc := (mW g0 pq cp v_517 fa_518)) hD hS hA (List.range 48) rfl
                    refine va_calli (va_runV (As := []) (rest := []) ⟨hx, hb, hml, hown, hts⟩ (c_X11_breaks l dC dI H.size g0 pq cp v_517 fa_518) (cwV 0 hts gX11_unit_X11_breaks rfl rfl rfl (by decide +kernel) ⟨(Nat.le_of_ble_eq_true rfl), (Nat.le_of_ble_eq_true rfl)⟩) (pr_V (r := (RX11, TX11, 63)) hP hK hD 0 11 rfl rfl) rfl rfl hl.1 rfl (lv_room (Nat.le_of_ble_eq_true rfl)) dX11_unit_194 ⟨(Nat.le_of_ble_eq_true rfl), (Nat.le_of_ble_eq_true rfl)⟩) hS (fun q _ h => hFc q h) hFc (fun r_525 u t H locs ht hvm w_524 hB hz1 hk1 hS => ?_)
                    obtain ⟨v_526, fa_527⟩ := u
                    obtain ⟨hP1, hK1, hD1⟩ := hB
                    rw [ht] at hP1
                    have hP : va_P (dC, dI) vwCl (mW g0 pq cp v_526 fa_527) H := hP1
                    have hD : va_D A (mW g0 pq cp v_526 fa_527) := hD1.weaken (fun _ _ _ h => hFc _ h)
                    clear hP1 hK1 hD1 hk1 hz1 hvm ht hFc
                    obtain ⟨rfl, ev_528, ef_529⟩ := w_524
                    dsimp only at ev_528 ef_529
                    have ea_v_526 : v_526 47 = nI k_408 := by rw [ev_528]; exact ea_v_517
                    have es_v_526 : v_526 50 = nI n := by rw [ev_528]; exact es_v_517
                    have hb_v_526 : v_526 49 < 0 ∨ ∃ j : Nat, j ≤ 1740 ∧ v_526 49 = nI j := by rw [ev_528]; exact hb_v_517
                    have we_v_526 : v_526 51 = 0 := by rw [ev_528]; rfl
                    have sm_v_526 : ∀ i, i ≠ 47 → i ≠ 48 → i ≠ 51 → v_526 i = v i := by intro i h1 h2 h3; rw [ev_528]; exact (if_neg h3).trans (sm_v_517 i h1 h2 h3)
                    exact W.iret (v := 0) hx hb hr (fun t ht hW => ⟨⟨0, (v_526, fa_527), rfl, ⟨⟨k_408, by omega, hb_410, ea_v_526, (Or.inl we_v_526), sm_v_526⟩, (ef_529.trans (ef_519.trans (ef_414.trans ef_96)))⟩, ⟨by rw [ht]; exact hP, va_K.moved hW.alike hK, hD⟩⟩, hS.F ht⟩) hS.2.2 dX11_unit_197
                  · have ea_v_517 : v_517 47 = nI (k_408 + 1) := by rw [ev_520]; show v_406 47 + 1 = _; rw [ea_411]; exact nI_1 _
                    have es_v_517 : v_517 50 = nI n := by rw [ev_520]; exact es_v_406
                    have hb_v_517 : v_517 49 < 0 ∨ ∃ j : Nat, j ≤ 1740 ∧ v_517 49 = nI j := by rw [ev_520]; exact hb_v_406
                    have sm_v_517 : ∀ i, i ≠ 47 → i ≠ 48 → i ≠ 51 → v_517 i = v i := by intro i h1 h2 h3; rw [ev_520]; exact (if_neg h1).trans (sm_v_406 i h1 h2 h3)
                    obtain ⟨we_530, de_531⟩ := Or.resolve_left wd_412 hwe_521
                    have we_v_517 : v_517 51 = 1 := by rw [ev_520]; exact we_530
                    have de_v_517 : v_517 48 = nI 5 := by rw [ev_520]; exact de_531
                    refine lv_if_ne (tgt := 198) hx hb dX11_unit_190 (by decide) (fun _ => ?_) (fun c_532 => absurd c_532 (by decide))
                    refine lv_aload_n hx hb dX11_unit_198 rfl (lv_at hl 4 rfl) ?_
                    refine lv_dup hx hb dX11_unit_199 rfl ?_
                    refine va_get (D := (dC, dI)) (ci := 11) (v := .int (v_517 48)) (C := RX11) (T := TX11) (N := 63) hx hb hts in_wsX11_unit_X11 hown hK hP 0 rfl rfl 48 (by decide) (hts (.fieldLink RX11 244 "ShipOfficeModel" "deep" "I") iw_X11_unit_3) (fun _ h9 => h9) rfl dX11_unit_200 ?_
                    refine lv_topi (fun y ey => ?_)
                    obtain rfl : y = 5 := ey.trans (de_v_517.trans (by decide))
                    refine lv_iconst (v := 1) hx hb dX11_unit_203 (by decide) ?_
                    refine lv_isub hx hb dX11_unit_204 ?_
                    refine lv_topi (fun y ey => ?_)
                    obtain rfl : y = 4 := ey.trans (by decide)
                    refine va_put (D := (dC, dI)) (ci := 11) (v := .int 4) (ty := .int) (C := RX11) (T := TX11) (N := 63) hx hb hts in_wsX11_unit_X11 tyX11 tyX11_ok nmX11 hown hK hP hD hS 0 rfl rfl 48 (by decide) (hts (.fieldLink RX11 244 "ShipOfficeModel" "deep" "I") iw_X11_unit_3) (fun _ h9 => h9) rfl (by decide +kernel) rfl rfl (Nat.le_of_ble_eq_true rfl) dX11_unit_205 (fun H locs hP hD hS => ?_)
                    have hP : va_P (dC, dI) vwCl (mW g0 pq cp (upd v_517 48 4) fa_518) H := hP
                    have hD : va_D A (mW g0 pq cp (upd v_517 48 4) fa_518) := hD
                    obtain ⟨z_533, ez_533⟩ : ∃ zq, zq = (upd v_517 48 4) := ⟨_, rfl⟩
                    rw [← ez_533] at hP hD
                    have ea_z_533 : z_533 47 = nI (k_408 + 1) := by rw [ez_533]; exact ea_v_517
                    have es_z_533 : z_533 50 = nI n := by rw [ez_533]; exact es_v_517
                    have hb_z_533 : z_533 49 < 0 ∨ ∃ j : Nat, j ≤ 1740 ∧ z_533 49 = nI j := by rw [ez_533]; exact hb_v_517
                    have we_z_533 : z_533 51 = 1 := by rw [ez_533]; exact we_v_517
                    have de_z_533 : z_533 48 = nI 4 := by rw [ez_533]; rfl
                    have sm_z_533 : ∀ i, i ≠ 47 → i ≠ 48 → i ≠ 51 → z_533 i = v i := by intro i h1 h2 h3; rw [ez_533]; exact (if_neg h2).trans (sm_v_517 i h1 h2 h3)
                    refine lv_iload_n hx hb dX11_unit_208 rfl (lv_at hl 0 rfl) ?_
                    exact W.iret (v := 1) hx hb hr (fun t ht hW => ⟨⟨1, (z_533, fa_518), rfl, ⟨⟨(k_408 + 1), by omega, hlt_522, ea_z_533, (Or.inr ⟨we_z_533, de_z_533⟩), sm_z_533⟩, (ef_519.trans (ef_414.trans ef_96))⟩, ⟨by rw [ht]; exact hP, va_K.moved hW.alike hK, hD⟩⟩, hS.F ht⟩) hS.2.2 dX11_unit_209
  · refine lv_if_eq (tgt := 42) hx hb dX11_unit_18 (by decide) (fun c_534 => absurd c_534 (by decide)) (fun _ => ?_)
    refine lv_aload_n hx hb dX11_unit_21 rfl (lv_at hl 1 rfl) ?_
    refine lv_dup hx hb dX11_unit_22 rfl ?_
    refine va_get (D := (dC, dI)) (ci := 11) (v := .int (v 47)) (C := RX11) (T := TX11) (N := 63) hx hb hts in_wsX11_unit_X11 hown hK hP 0 rfl rfl 47 (by decide) (hts (.fieldLink RX11 210 "ShipOfficeModel" "at" "I") iw_X11_unit_2) (fun _ h9 => h9) rfl dX11_unit_23 ?_
    refine lv_iconst (v := 1) hx hb dX11_unit_26 (by decide) ?_
    refine lv_iadd hx hb dX11_unit_27 ?_
    refine lv_topi (fun y ey => ?_)
    obtain rfl : y = nI (k + 1) := ey.trans (by rw [ea]; exact nI_1 _)
    refine va_put (D := (dC, dI)) (ci := 11) (v := .int (nI (k + 1))) (ty := .int) (C := RX11) (T := TX11) (N := 63) hx hb hts in_wsX11_unit_X11 tyX11 tyX11_ok nmX11 hown hK hP hD hS 0 rfl rfl 47 (by decide) (hts (.fieldLink RX11 210 "ShipOfficeModel" "at" "I") iw_X11_unit_2) (fun _ h9 => h9) rfl (by decide +kernel) rfl rfl (Nat.le_of_ble_eq_true rfl) dX11_unit_28 (fun H locs hP hD hS => ?_)
    have hP : va_P (dC, dI) vwCl (mW g0 pq cp (upd v 47 (nI (k + 1))) fa) H := hP
    have hD : va_D A (mW g0 pq cp (upd v 47 (nI (k + 1))) fa) := hD
    obtain ⟨z_535, ez_535⟩ : ∃ zq, zq = (upd v 47 (nI (k + 1))) := ⟨_, rfl⟩
    rw [← ez_535] at hP hD
    have ea_z_535 : z_535 47 = nI (k + 1) := by rw [ez_535]; rfl
    have es_z_535 : z_535 50 = nI n := by rw [ez_535]; exact es
    have hb_z_535 : z_535 49 < 0 ∨ ∃ j : Nat, j ≤ 1740 ∧ z_535 49 = nI j := by rw [ez_535]; exact hb0
    have we_z_535 : z_535 51 = 1 := by rw [ez_535]; exact hwe
    have de_z_535 : z_535 48 = nI 4 := by rw [ez_535]; exact hde
    have sm_z_535 : ∀ i, i ≠ 47 → i ≠ 48 → i ≠ 51 → z_535 i = v i := by intro i h1 h2 h3; rw [ez_535]; exact (if_neg h1).trans ((fun i _ _ _ => rfl) i h1 h2 h3)
    have hkn_z_535 : (k + 1) ≤ n := (w_2.resolve_left (ns_in hl_6))
    have hk0_z_535 : k ≤ (k + 1) := by omega
    refine lv_aload_n hx hb dX11_unit_31 rfl (lv_at hl 1 rfl) ?_
    refine va_get (D := (dC, dI)) (ci := 11) (v := .ref (pq 45)) (C := RX11) (T := TX11) (N := 63) hx hb hts in_wsX11_unit_X11 hown hK hP 0 rfl rfl 45 (by decide) (hts (.fieldLink RX11 128 "ShipOfficeModel" "letters" "[I") iw_X11_unit_4) (fun _ h9 => h9) rfl dX11_unit_32 ?_
    refine lv_iload_n hx hb dX11_unit_35 rfl (lv_at hl 0 rfl) ?_
    refine va_iald hx hb hK hP 40 39 rfl rfl hl_6 dX11_unit_36 ?_
    refine lv_i2l (v := (fa 45 (r_3 : Int32).toNatClampNeg : Int32).toInt64) hx hb dX11_unit_37 rfl ?_
    have hFc : ∀ q, va_A [] H.size q → A q := pu_free hS hA
    have hPc := hP.sub (ws' := []) [] rfl
    have hDc := hD.sub (ws' := []) [] (by decide) rfl
    have hKc := hK.sub (tys' := []) [] rfl
    refine va_calli (va_runS (As := [.long ((fa 45 (r_3 : Int32).toNatClampNeg : Int32).toInt64)]) (rest := []) ⟨hx, hb, hml, hown, hts⟩ (c_X11_held l dC dI H.size ((fa 45 (r_3 : Int32).toNatClampNeg : Int32).toInt64)) (va_cwS 1 hts gX11_unit_X11_held rfl rfl rfl (by decide +kernel) ⟨(Nat.le_of_ble_eq_true rfl), (Nat.le_of_ble_eq_true rfl)⟩) (pr_S hPc hKc hDc) rfl rfl hl.1 rfl (lv_room (Nat.le_of_ble_eq_true rfl)) dX11_unit_38 ⟨(Nat.le_of_ble_eq_true rfl), (Nat.le_of_ble_eq_true rfl)⟩) hS (fun q _ h => hFc q h) hFc (fun r_537 u t H locs ht hvm w_536 hB hz1 hk1 hS => ?_)
    have hP := pu_keep hP hk1
    clear hk1 hz1 hvm hB ht hFc hPc hDc hKc
    exact W.iret (v := r_537) hx hb hr (fun t ht hW => ⟨⟨r_537, (z_535, fa), rfl, ⟨⟨(k + 1), by omega, hkn_z_535, ea_z_535, (Or.inr ⟨we_z_535, de_z_535⟩), sm_z_535⟩, rfl⟩, ⟨by rw [ht]; exact hP, va_K.moved hW.alike hK, hD⟩⟩, hS.F ht⟩) hS.2.2 dX11_unit_41
