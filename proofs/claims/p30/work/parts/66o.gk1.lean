

/-- miles of a pair of ports -/
def miF (fa : Nat → Nat → Int32) (a b : Nat) : Int := (fa 1 (10 * a + b)).toInt
section
variable {w : Nat → Nat → Int} {M : Int} {D : Nat → Int} {fz : Nat → Nat → Int32} {f : Nat → Int32} {K a b p : Nat} {y : Int32}
theorem wyx_u (h : ∀ x, x < 10 → (fz K x).toInt = D x) (hc : 0 < w a b ∧ D a < M ∧ D a + w a b < D b) (hy : y.toInt = D a + w a b) : ∀ x, x < 10 → (upF fz K b y K x).toInt = wyx w M D a b x := fun x hx => by
  rw [show upF fz K b y K = upd (fz K) b y from if_pos rfl]
  unfold wyx
  by_cases c : x = b
  · rw [if_pos ⟨c, hc⟩, c, upd_eq]
    exact hy
  · rw [if_neg (fun q => c q.1), upd_ne c]
    exact h x hx
theorem wyx_n (h : ∀ x, x < 10 → (fz K x).toInt = D x) (hc : ¬ (0 < w a b ∧ D a < M ∧ D a + w a b < D b)) : ∀ x, x < 10 → (fz K x).toInt = wyx w M D a b x := fun x hx => by
  unfold wyx
  rw [if_neg (fun q => hc q.2)]
  exact h x hx
theorem wy_fill {k : Nat} (h : ∀ x, x < k → (fz K x).toInt = wy0 M p x) (hy : y.toInt = wy0 M p k) : ∀ x, x < k + 1 → (upF fz K k y K x).toInt = wy0 M p x := fun x hx => by
  rw [show upF fz K k y K = upd (fz K) k y from if_pos rfl]
  by_cases c : x = k
  · rw [c, upd_eq]; exact hy
  · rw [upd_ne c]; exact h x (by omega)
theorem wy0_b {x : Nat} (hM : 0 ≤ M) : 0 ≤ wy0 M p x ∧ wy0 M p x ≤ M := by
  unfold wy0
  split <;> omega
theorem wyB_b {d : Nat → Int} {x n : Nat} (h : ∀ x, 0 ≤ d x) (h2 : ∀ x, d x ≤ M) : 0 ≤ wyB w M d a n x ∧ wyB w M d a n x ≤ M := ⟨wyB_0 h x, Int.le_trans wyB_le (h2 x)⟩
theorem wyA_b {d : Nat → Int} {x n : Nat} (h : ∀ x, 0 ≤ d x) (h2 : ∀ x, d x ≤ M) : 0 ≤ wyA w M d n x ∧ wyA w M d n x ≤ M := ⟨wyA_0 h x, Int.le_trans wyA_le (h2 x)⟩
theorem wyR_b {d : Nat → Int} {x n : Nat} (h : ∀ x, 0 ≤ d x) (h2 : ∀ x, d x ≤ M) : 0 ≤ wyR w M d n x ∧ wyR w M d n x ≤ M := ⟨wyR_0 h x, Int.le_trans wyR_le (h2 x)⟩
/-- behind a rounds and an a and a b: between 0 and M -/
theorem wyD_b {r a2 n : Nat} (hM : 0 ≤ M) : ∀ x, 0 ≤ wyB w M (wyA w M (wyR w M (wy0 M p) r) a2) a n x ∧ wyB w M (wyA w M (wyR w M (wy0 M p) r) a2) a n x ≤ M := fun x =>
  wyB_b (fun x => (wyA_b (fun x => (wyR_b (fun x => (wy0_b hM).1) (fun x => (wy0_b hM).2)).1) (fun x => (wyR_b (fun x => (wy0_b hM).1) (fun x => (wy0_b hM).2)).2)).1) (fun x => (wyA_b (fun x => (wyR_b (fun x => (wy0_b hM).1) (fun x => (wy0_b hM).2)).1) (fun x => (wyR_b (fun x => (wy0_b hM).1) (fun x => (wy0_b hM).2)).2)).2)
end
theorem ni_lt10 {x : Int32} (h0 : 0 ≤ x.toInt) (h : x.toInt < 10) : x.toNatClampNeg < 10 := show x.toInt.toNat < 10 by omega
set_option maxHeartbeats 4000000 in
set_option maxRecDepth 100000 in
theorem c_X11_wayTo_f (l : Launch) (dC : Nat → ClassId) (dI : Nat → Nat → Nat) (sz : Nat) (g0 : Nat) (pq : Nat → Nat) (cp : Nat → ClassId) (v : Nat → Int32) (fa : Nat → Nat → Int32) (gV : mV v) (gA : mA fa) (x1 : Int32) (hx1 : 0 ≤ x1.toInt ∧ x1.toInt ≤ 9) (x2 : Int32) (hx2 : 0 ≤ x2.toInt ∧ x2.toInt ≤ 9) (hMi : ∀ i, 0 ≤ (fa 1 i).toInt ∧ (fa 1 i).toInt ≤ 9999) : Met l yX11_wayTo wsX11_wayTo ({ frames := 0, cells := 0, slots := 0, locals := 0 }) (va_Pc [.ref g0, .int x1, .int x2] (pcW (dC, dI) (mT cp) (mW g0 pq cp v fa) sz)) (va_Qi (fun (r : Int32) (u : (Nat → Int32) × (Nat → Nat → Int32)) => mV u.1 ∧ mA u.2 ∧ scr v fa u.1 u.2 ∧ (r.toInt = wyF (miF fa) x1.toNatClampNeg x2.toNatClampNeg)) (fun u t => va_P (dC, dI) vwCl (mW g0 pq cp u.1 u.2) t.heap ∧ va_K (dC, dI) vwCl (mT cp) t ∧ va_D (va_A (mW g0 pq cp v fa) sz) (mW g0 pq cp u.1 u.2)) (va_A (mW g0 pq cp v fa) sz)) 0 0 (va_A (mW g0 pq cp v fa) sz) := by
  refine Met.ofW (cc := cX11_wayTo) (maxL := 6) (ret := (some .int)) (by decide) rfl ?_
  intro p e s m args below meth c s₁ B hml hv
  obtain ⟨rfl, hsz, hP, hK, hD0⟩ := hv
  have hx := B.exec
  have hb := B.bytes
  have hr := B.returns
  have hts := atoms_spec (ws := wsX11_wayTo) B.pre
  have hown : s.vm.findClass RX11 = some m.cls := findClass_of_methodNamed B.named
  have hlocks := B.notSynchronized
  subst hsz
  have hD := hD0.self (sz := s.heap.size)
  generalize hAe : va_A (mW g0 pq cp v fa) s.heap.size = A at hD ⊢
  have hA : ∀ q : Nat, s.heap.size ≤ q → A q := fun q h => by rw [← hAe]; exact Or.inr h
  have hS : va_S A s.heap s.heap [] := va_S.rf
  have hP : va_P (dC, dI) vwCl (mW g0 pq cp v fa) s.heap := hP
  have hl := lv_entry ([.ref g0, .int x1, .int x2]) (n := 6) (Nat.le_of_ble_eq_true rfl)
  rw [lg_entry_eq]
  generalize (lg_sl ([.ref g0, .int x1, .int x2]) ++ List.replicate (6 - (lg_sl ([.ref g0, .int x1, .int x2])).length) Slot.unset).toArray = ls at hl ⊢
  have hl : lv_has ls 6 [(0, .ref g0), (1, .int x1), (2, .int x2)] := hl
  refine lv_iconst (v := 0) hx hb dX11_wayTo_0 (by decide) ?_
  refine lv_istore_n (lv' := [(3, .int 0), (0, .ref g0), (1, .int x1), (2, .int x2)]) hx hb dX11_wayTo_1 rfl hl (by decide) rfl (fun ls hl => ?_)
  have cut_1 : ∀ (n : Nat) (y_2 : Int32) (z_3 : Nat → Int32) (fz_4 : Nat → Nat → Int32) (H : Heap) (locs : List Loc) (ls : Array Slot), 10 - y_2.toInt ≤ (n : Int) → (0 ≤ y_2.toInt ∧ y_2.toInt ≤ 10) → (∀ x, x < y_2.toNatClampNeg → (fz_4 53 x).toInt = wy0 1000000000 x1.toNatClampNeg x) → mV z_3 → mA fz_4 → scr v fa z_3 fz_4 → va_P (dC, dI) vwCl (mW g0 pq cp z_3 fz_4) H → va_D A (mW g0 pq cp z_3 fz_4) → va_S A s.heap H locs → lv_has ls 6 [(3, .int y_2), (0, .ref g0), (1, .int x1), (2, .int x2)] → W p l e (headSpec wsX11_wayTo { frames := 0, cells := 0, slots := 0, locals := 0 }).room s m #[Value.ref g0, Value.int x1, Value.int x2] below meth c H locs 0 0 (MQ below (va_Qi (fun (r : Int32) (u : (Nat → Int32) × (Nat → Nat → Int32)) => mV u.1 ∧ mA u.2 ∧ scr v fa u.1 u.2 ∧ (r.toInt = wyF (miF fa) x1.toNatClampNeg x2.toNatClampNeg)) (fun u t => va_P (dC, dI) vwCl (mW g0 pq cp u.1 u.2) t.heap ∧ va_K (dC, dI) vwCl (mT cp) t ∧ va_D A (mW g0 pq cp u.1 u.2)) A) #[Value.ref g0, Value.int x1, Value.int x2] s 0 0 A) (F0 m 2 ls []) := by
    intro n
    induction n using Nat.strongRecOn with
    | ind n ih =>
      intro y_2 z_3 fz_4 H locs ls hm hy_2 hq0_cut_1 hVz_3 hAz_3 hRz_3 hP hD hS hl
      have tn_5 : ((y_2.toNatClampNeg : Nat) : Int) = y_2.toInt := tn_i (by omega)
      have tn_6 : ((x1.toNatClampNeg : Nat) : Int) = x1.toInt := tn_i (by omega)
      refine lv_iload_n hx hb dX11_wayTo_2 rfl (lv_at hl 0 rfl) ?_
      refine lv_bipush (v := 10) hx hb dX11_wayTo_3 (by decide) ?_
      refine lv_icmp_ge (tgt := 31) hx hb dX11_wayTo_5 (by decide) (fun c_7 => ?_) (fun c_7 => ?_)
      · have dc_7 := c_le (a := 10) (b := y_2.toInt) (by decide) rfl c_7
        refine lv_iconst (v := 0) hx hb dX11_wayTo_31 (by decide) ?_
        refine lv_istore_n (lv' := [(3, .int 0), (0, .ref g0), (1, .int x1), (2, .int x2)]) hx hb dX11_wayTo_32 rfl hl (by decide) rfl (fun ls hl => ?_)
        have cut_8 : ∀ (n2 : Nat) (y_9 : Int32) (z_10 : Nat → Int32) (fz_11 : Nat → Nat → Int32) (H : Heap) (locs : List Loc) (ls : Array Slot), 10 - y_9.toInt ≤ (n2 : Int) → (0 ≤ y_9.toInt ∧ y_9.toInt ≤ 10) → (∀ x, x < 10 → (fz_11 53 x).toInt = (wyR (miF fa) 1000000000 (wy0 1000000000 x1.toNatClampNeg) y_9.toNatClampNeg) x) → mV z_10 → mA fz_11 → scr v fa z_10 fz_11 → va_P (dC, dI) vwCl (mW g0 pq cp z_10 fz_11) H → va_D A (mW g0 pq cp z_10 fz_11) → va_S A s.heap H locs → lv_has ls 6 [(3, .int y_9), (0, .ref g0), (1, .int x1), (2, .int x2)] → W p l e (headSpec wsX11_wayTo { frames := 0, cells := 0, slots := 0, locals := 0 }).room s m #[Value.ref g0, Value.int x1, Value.int x2] below meth c H locs 0 0 (MQ below (va_Qi (fun (r : Int32) (u : (Nat → Int32) × (Nat → Nat → Int32)) => mV u.1 ∧ mA u.2 ∧ scr v fa u.1 u.2 ∧ (r.toInt = wyF (miF fa) x1.toNatClampNeg x2.toNatClampNeg)) (fun u t => va_P (dC, dI) vwCl (mW g0 pq cp u.1 u.2) t.heap ∧ va_K (dC, dI) vwCl (mT cp) t ∧ va_D A (mW g0 pq cp u.1 u.2)) A) #[Value.ref g0, Value.int x1, Value.int x2] s 0 0 A) (F0 m 33 ls []) := by
          intro n2
          induction n2 using Nat.strongRecOn with
          | ind n2 ih2 =>
            intro y_9 z_10 fz_11 H locs ls hm hy_9 hq0_cut_8 hVz_10 hAz_10 hRz_10 hP hD hS hl
            have tn_12 : ((y_9.toNatClampNeg : Nat) : Int) = y_9.toInt := tn_i (by omega)
            refine lv_iload_n hx hb dX11_wayTo_33 rfl (lv_at hl 0 rfl) ?_
            refine lv_bipush (v := 10) hx hb dX11_wayTo_34 (by decide) ?_
            refine lv_icmp_ge (tgt := 164) hx hb dX11_wayTo_36 (by decide) (fun c_13 => ?_) (fun c_13 => ?_)
            · have dc_13 := c_le (a := 10) (b := y_9.toInt) (by decide) rfl c_13
              refine lv_aload_n hx hb dX11_wayTo_164 rfl (lv_at hl 1 rfl) ?_
              refine va_get (D := (dC, dI)) (ci := 11) (v := .ref (pq 53)) (C := RX11) (T := TX11) (N := 63) hx hb hts in_wsX11_wayTo_X11 hown hK hP 0 rfl rfl 53 (by decide) (hts (.fieldLink RX11 134 "ShipOfficeModel" "far" "[I") iw_X11_wayTo_1) (fun _ h9 => h9) rfl dX11_wayTo_165 ?_
              refine lv_iload_n hx hb dX11_wayTo_168 rfl (lv_at hl 3 rfl) ?_
              refine va_iald hx hb hK hP 42 41 rfl rfl (vp_in_iff.mpr (by omega)) dX11_wayTo_169 ?_
              refine lv_topi (fun x_14 ex_14 => ?_)
              have gx_14 : x_14.toInt = (fz_11 53 (x2 : Int32).toNatClampNeg).toInt := iv_to ex_14
              clear ex_14
              have gfx_14 := hq0_cut_8 x2.toNatClampNeg (ni_lt10 (by omega) (by omega))
              refine lv_ldc (v := 1000000000) hx hb hown (hts (.constant RX11 152 (1000000000)) (by decide +kernel)) dX11_wayTo_170 ?_
              refine lv_icmp_ne (tgt := 180) hx hb dX11_wayTo_172 (by decide) (fun c_15 => ?_) (fun c_15 => ?_)
              · have dc_15 := c_ne (a := x_14.toInt) (b := 1000000000) rfl (by decide) c_15
                refine lv_aload_n hx hb dX11_wayTo_180 rfl (lv_at hl 1 rfl) ?_
                refine va_get (D := (dC, dI)) (ci := 11) (v := .ref (pq 53)) (C := RX11) (T := TX11) (N := 63) hx hb hts in_wsX11_wayTo_X11 hown hK hP 0 rfl rfl 53 (by decide) (hts (.fieldLink RX11 134 "ShipOfficeModel" "far" "[I") iw_X11_wayTo_1) (fun _ h9 => h9) rfl dX11_wayTo_181 ?_
                refine lv_iload_n hx hb dX11_wayTo_184 rfl (lv_at hl 3 rfl) ?_
                refine va_iald hx hb hK hP 42 41 rfl rfl (vp_in_iff.mpr (by omega)) dX11_wayTo_185 ?_
                refine lv_topi (fun x_16 ex_16 => ?_)
                have gx_16 : x_16.toInt = (fz_11 53 (x2 : Int32).toNatClampNeg).toInt := iv_to ex_16
                clear ex_16
                have gfx_16 := hq0_cut_8 x2.toNatClampNeg (ni_lt10 (by omega) (by omega))
                exact W.iret (v := x_16) hx hb hr (fun t ht hW => ⟨⟨x_16, (z_10, fz_11), rfl, ⟨hVz_10, hAz_10, hRz_10, (by have q := hq0_cut_8 x2.toNatClampNeg (ni_lt10 (by omega) (by omega)); rw [(show y_9.toNatClampNeg = 10 from (show y_9.toInt.toNat = 10 by omega))] at q; unfold wyF; (repeat (first | rw [if_pos (by omega)] | rw [if_neg (by omega)])); omega)⟩, ⟨by rw [ht]; exact hP, va_K.moved hW.alike hK, hD⟩⟩, hS.F ht⟩) hS.2.2 dX11_wayTo_186
              · have dc_15 := c_eq (a := x_14.toInt) (b := 1000000000) rfl (by decide) c_15
                refine lv_bipush (v := (-9)) hx hb dX11_wayTo_175 (by decide) ?_
                refine lv_goto (tgt := 186) hx hb dX11_wayTo_177 (by decide) ?_
                exact W.iret (v := (-9)) hx hb hr (fun t ht hW => ⟨⟨(-9), (z_10, fz_11), rfl, ⟨hVz_10, hAz_10, hRz_10, (by have rc : ((-9) : Int32).toInt = -9 := (by decide); have q := hq0_cut_8 x2.toNatClampNeg (ni_lt10 (by omega) (by omega)); rw [(show y_9.toNatClampNeg = 10 from (show y_9.toInt.toNat = 10 by omega))] at q; unfold wyF; (repeat (first | rw [if_pos (by omega)] | rw [if_neg (by omega)])); omega)⟩, ⟨by rw [ht]; exact hP, va_K.moved hW.alike hK, hD⟩⟩, hS.F ht⟩) hS.2.2 dX11_wayTo_186
            · have dc_13 := c_nle (a := 10) (b := y_9.toInt) (by decide) rfl c_13
              refine lv_iconst (v := 0) hx hb dX11_wayTo_39 (by decide) ?_
              refine lv_istore (lv' := [(4, .int 0), (3, .int y_9), (0, .ref g0), (1, .int x1), (2, .int x2)]) hx hb dX11_wayTo_40 hl (by decide) rfl (fun ls hl => ?_)
              have cut_17 : ∀ (n3 : Nat) (y_18 : Int32) (z_19 : Nat → Int32) (fz_20 : Nat → Nat → Int32) (H : Heap) (locs : List Loc) (ls : Array Slot), 10 - y_18.toInt ≤ (n3 : Int) → (0 ≤ y_18.toInt ∧ y_18.toInt ≤ 10) → (∀ x, x < 10 → (fz_20 53 x).toInt = (wyA (miF fa) 1000000000 (wyR (miF fa) 1000000000 (wy0 1000000000 x1.toNatClampNeg) y_9.toNatClampNeg) y_18.toNatClampNeg) x) → mV z_19 → mA fz_20 → scr v fa z_19 fz_20 → va_P (dC, dI) vwCl (mW g0 pq cp z_19 fz_20) H → va_D A (mW g0 pq cp z_19 fz_20) → va_S A s.heap H locs → lv_has ls 6 [(4, .int y_18), (3, .int y_9), (0, .ref g0), (1, .int x1), (2, .int x2)] → W p l e (headSpec wsX11_wayTo { frames := 0, cells := 0, slots := 0, locals := 0 }).room s m #[Value.ref g0, Value.int x1, Value.int x2] below meth c H locs 0 0 (MQ below (va_Qi (fun (r : Int32) (u : (Nat → Int32) × (Nat → Nat → Int32)) => mV u.1 ∧ mA u.2 ∧ scr v fa u.1 u.2 ∧ (r.toInt = wyF (miF fa) x1.toNatClampNeg x2.toNatClampNeg)) (fun u t => va_P (dC, dI) vwCl (mW g0 pq cp u.1 u.2) t.heap ∧ va_K (dC, dI) vwCl (mT cp) t ∧ va_D A (mW g0 pq cp u.1 u.2)) A) #[Value.ref g0, Value.int x1, Value.int x2] s 0 0 A) (F0 m 42 ls []) := by
                intro n3
                induction n3 using Nat.strongRecOn with
                | ind n3 ih3 =>
                  intro y_18 z_19 fz_20 H locs ls hm hy_18 hq0_cut_17 hVz_19 hAz_19 hRz_19 hP hD hS hl
                  have tn_21 : ((y_18.toNatClampNeg : Nat) : Int) = y_18.toInt := tn_i (by omega)
                  refine lv_iload hx hb dX11_wayTo_42 (lv_at hl 0 rfl) ?_
                  refine lv_bipush (v := 10) hx hb dX11_wayTo_44 (by decide) ?_
                  refine lv_icmp_ge (tgt := 158) hx hb dX11_wayTo_46 (by decide) (fun c_22 => ?_) (fun c_22 => ?_)
                  · have dc_22 := c_le (a := 10) (b := y_18.toInt) (by decide) rfl c_22
                    obtain ⟨x_23, ex_23⟩ : ∃ zq : Int32, y_9 + 1 = zq := ⟨_, rfl⟩
                    have hx_23 : x_23.toInt = y_9.toInt + 1 := (iv_to ex_23).symm.trans (ad_i rfl (by decide) (by omega) (by omega))
                    refine lv_iinc (v := x_23) (lv' := [(3, .int x_23), (4, .int y_18), (0, .ref g0), (1, .int x1), (2, .int x2)]) hx hb dX11_wayTo_158 hl (k := 1) rfl ex_23 (by decide) rfl (fun ls hl => ?_)
                    clear ex_23
                    refine lv_goto (tgt := 33) hx hb dX11_wayTo_161 (by decide) ?_
                    exact ih2 (n2 - 1) (by omega) x_23 z_19 fz_20 _ _ ls (by omega) (by omega) (fun x hx => by have q := hq0_cut_17 x hx; rw [(show y_18.toNatClampNeg = 10 from (show y_18.toInt.toNat = 10 by omega))] at q; rw [(show x_23.toNatClampNeg = y_9.toNatClampNeg + 1 from (show x_23.toInt.toNat = y_9.toInt.toNat + 1 by omega))]; exact q) hVz_19 hAz_19 hRz_19 hP hD hS (lv_sub hl [0, 2, 3, 4] rfl)
                  · have dc_22 := c_nle (a := 10) (b := y_18.toInt) (by decide) rfl c_22
                    refine lv_iconst (v := 0) hx hb dX11_wayTo_49 (by decide) ?_
                    refine lv_istore (lv' := [(5, .int 0), (4, .int y_18), (3, .int y_9), (0, .ref g0), (1, .int x1), (2, .int x2)]) hx hb dX11_wayTo_50 hl (by decide) rfl (fun ls hl => ?_)
                    have cut_24 : ∀ (n4 : Nat) (y_25 : Int32) (z_26 : Nat → Int32) (fz_27 : Nat → Nat → Int32) (H : Heap) (locs : List Loc) (ls : Array Slot), 10 - y_25.toInt ≤ (n4 : Int) → (0 ≤ y_25.toInt ∧ y_25.toInt ≤ 10) → (∀ x, x < 10 → (fz_27 53 x).toInt = (wyB (miF fa) 1000000000 (wyA (miF fa) 1000000000 (wyR (miF fa) 1000000000 (wy0 1000000000 x1.toNatClampNeg) y_9.toNatClampNeg) y_18.toNatClampNeg) y_18.toNatClampNeg y_25.toNatClampNeg) x) → mV z_26 → mA fz_27 → scr v fa z_26 fz_27 → va_P (dC, dI) vwCl (mW g0 pq cp z_26 fz_27) H → va_D A (mW g0 pq cp z_26 fz_27) → va_S A s.heap H locs → lv_has ls 6 [(5, .int y_25), (4, .int y_18), (3, .int y_9), (0, .ref g0), (1, .int x1), (2, .int x2)] → W p l e (headSpec wsX11_wayTo { frames := 0, cells := 0, slots := 0, locals := 0 }).room s m #[Value.ref g0, Value.int x1, Value.int x2] below meth c H locs 0 0 (MQ below (va_Qi (fun (r : Int32) (u : (Nat → Int32) × (Nat → Nat → Int32)) => mV u.1 ∧ mA u.2 ∧ scr v fa u.1 u.2 ∧ (r.toInt = wyF (miF fa) x1.toNatClampNeg x2.toNatClampNeg)) (fun u t => va_P (dC, dI) vwCl (mW g0 pq cp u.1 u.2) t.heap ∧ va_K (dC, dI) vwCl (mT cp) t ∧ va_D A (mW g0 pq cp u.1 u.2)) A) #[Value.ref g0, Value.int x1, Value.int x2] s 0 0 A) (F0 m 52 ls []) := by
                      intro n4
                      induction n4 using Nat.strongRecOn with
                      | ind n4 ih4 =>
                        intro y_25 z_26 fz_27 H locs ls hm hy_25 hq0_cut_24 hVz_26 hAz_26 hRz_26 hP hD hS hl
                        have tn_28 : ((y_25.toNatClampNeg : Nat) : Int) = y_25.toInt := tn_i (by omega)
                        refine lv_iload hx hb dX11_wayTo_52 (lv_at hl 0 rfl) ?_
                        refine lv_bipush (v := 10) hx hb dX11_wayTo_54 (by decide) ?_
                        refine lv_icmp_ge (tgt := 152) hx hb dX11_wayTo_56 (by decide) (fun c_29 => ?_) (fun c_29 => ?_)
                        · have dc_29 := c_le (a := 10) (b := y_25.toInt) (by decide) rfl c_29
                          obtain ⟨x_30, ex_30⟩ : ∃ zq : Int32, y_18 + 1 = zq := ⟨_, rfl⟩
                          have hx_30 : x_30.toInt = y_18.toInt + 1 := (iv_to ex_30).symm.trans (ad_i rfl (by decide) (by omega) (by omega))
                          refine lv_iinc (v := x_30) (lv' := [(4, .int x_30), (5, .int y_25), (3, .int y_9), (0, .ref g0), (1, .int x1), (2, .int x2)]) hx hb dX11_wayTo_152 hl (k := 1) rfl ex_30 (by decide) rfl (fun ls hl => ?_)
                          clear ex_30
                          refine lv_goto (tgt := 42) hx hb dX11_wayTo_155 (by decide) ?_
                          exact ih3 (n3 - 1) (by omega) x_30 z_26 fz_27 _ _ ls (by omega) (by omega) (fun x hx => by have q := hq0_cut_24 x hx; rw [(show y_25.toNatClampNeg = 10 from (show y_25.toInt.toNat = 10 by omega))] at q; rw [(show x_30.toNatClampNeg = y_18.toNatClampNeg + 1 from (show x_30.toInt.toNat = y_18.toInt.toNat + 1 by omega))]; exact q) hVz_26 hAz_26 hRz_26 hP hD hS (lv_sub hl [0, 2, 3, 4, 5] rfl)
                        · have dc_29 := c_nle (a := 10) (b := y_25.toInt) (by decide) rfl c_29
                          have cut_31 : ∀ (z_32 : Nat → Int32) (fz_33 : Nat → Nat → Int32) (H : Heap) (locs : List Loc) (ls : Array Slot), (∀ x, x < 10 → (fz_33 53 x).toInt = (wyx (miF fa) 1000000000 (wyB (miF fa) 1000000000 (wyA (miF fa) 1000000000 (wyR (miF fa) 1000000000 (wy0 1000000000 x1.toNatClampNeg) y_9.toNatClampNeg) y_18.toNatClampNeg) y_18.toNatClampNeg y_25.toNatClampNeg) y_18.toNatClampNeg y_25.toNatClampNeg) x) → mV z_32 → mA fz_33 → scr v fa z_32 fz_33 → va_P (dC, dI) vwCl (mW g0 pq cp z_32 fz_33) H → va_D A (mW g0 pq cp z_32 fz_33) → va_S A s.heap H locs → lv_has ls 6 [(5, .int y_25), (4, .int y_18), (3, .int y_9), (0, .ref g0), (1, .int x1), (2, .int x2)] → W p l e (headSpec wsX11_wayTo { frames := 0, cells := 0, slots := 0, locals := 0 }).room s m #[Value.ref g0, Value.int x1, Value.int x2] below meth c H locs 0 0 (MQ below (va_Qi (fun (r : Int32) (u : (Nat → Int32) × (Nat → Nat → Int32)) => mV u.1 ∧ mA u.2 ∧ scr v fa u.1 u.2 ∧ (r.toInt = wyF (miF fa) x1.toNatClampNeg x2.toNatClampNeg)) (fun u t => va_P (dC, dI) vwCl (mW g0 pq cp u.1 u.2) t.heap ∧ va_K (dC, dI) vwCl (mT cp) t ∧ va_D A (mW g0 pq cp u.1 u.2)) A) #[Value.ref g0, Value.int x1, Value.int x2] s 0 0 A) (F0 m 146 ls []) := by
                            intro  z_32 fz_33 H locs ls hq0_cut_31 hVz_32 hAz_32 hRz_32 hP hD hS hl
                            obtain ⟨x_34, ex_34⟩ : ∃ zq : Int32, y_25 + 1 = zq := ⟨_, rfl⟩
                            have hx_34 : x_34.toInt = y_25.toInt + 1 := (iv_to ex_34).symm.trans (ad_i rfl (by decide) (by omega) (by omega))
                            refine lv_iinc (v := x_34) (lv' := [(5, .int x_34), (4, .int y_18), (3, .int y_9), (0, .ref g0), (1, .int x1), (2, .int x2)]) hx hb dX11_wayTo_146 hl (k := 0) rfl ex_34 (by decide) rfl (fun ls hl => ?_)
                            clear ex_34
                            refine lv_goto (tgt := 52) hx hb dX11_wayTo_149 (by decide) ?_
                            exact ih4 (n4 - 1) (by omega) x_34 z_32 fz_33 _ _ ls (by omega) (by omega) (fun x hx => by have q := hq0_cut_31 x hx; rw [(show x_34.toNatClampNeg = y_25.toNatClampNeg + 1 from (show x_34.toInt.toNat = y_25.toInt.toNat + 1 by omega))]; exact q) hVz_32 hAz_32 hRz_32 hP hD hS (lv_sub hl [0, 1, 2, 3, 4, 5] rfl)
                          refine lv_aload_n hx hb dX11_wayTo_59 rfl (lv_at hl 3 rfl) ?_
                          refine va_get (D := (dC, dI)) (ci := 11) (v := .ref (pq 1)) (C := RX11) (T := TX11) (N := 63) hx hb hts in_wsX11_wayTo_X11 hown hK hP 0 rfl rfl 1 (by decide) (hts (.fieldLink RX11 13 "ShipOfficeModel" "mile" "[I") iw_X11_wayTo_2) (fun _ h9 => h9) rfl dX11_wayTo_60 ?_
                          refine lv_bipush (v := 10) hx hb dX11_wayTo_63 (by decide) ?_
                          refine lv_iload hx hb dX11_wayTo_65 (lv_at hl 1 rfl) ?_
                          refine lv_imul hx hb dX11_wayTo_67 ?_
                          refine lv_topi (fun x_35 ex_35 => ?_)
                          have hx_35 : x_35.toInt = 10 * y_18.toInt := (iv_to ex_35).trans (mu_i (by decide) rfl (by omega) (by omega))
                          refine lv_iload hx hb dX11_wayTo_68 (lv_at hl 0 rfl) ?_
                          refine lv_iadd hx hb dX11_wayTo_70 ?_
                          refine lv_topi (fun x_36 ex_36 => ?_)
                          have hx_36 : x_36.toInt = x_35.toInt + y_25.toInt := (iv_to ex_36).trans (ad_i rfl rfl (by omega) (by omega))
                          refine va_iald hx hb hK hP 2 1 rfl rfl (vp_in_iff.mpr (by omega)) dX11_wayTo_71 ?_
                          refine lv_topi (fun x_37 ex_37 => ?_)
                          have gx_37 : x_37.toInt = (fz_27 1 (x_36 : Int32).toNatClampNeg).toInt := iv_to ex_37
                          clear ex_37
                          rw [show fz_27 1 = fa 1 from hRz_26.2 1 rfl] at gx_37
                          have gmx_37 : x_37.toInt = miF fa y_18.toNatClampNeg y_25.toNatClampNeg := by unfold miF; rw [← show (x_36 : Int32).toNatClampNeg = 10 * y_18.toNatClampNeg + y_25.toNatClampNeg from (show x_36.toInt.toNat = 10 * y_18.toInt.toNat + y_25.toInt.toNat by omega)]; exact gx_37
                          have gbx_37 : 0 ≤ x_37.toInt ∧ x_37.toInt ≤ 9999 := by rw [gx_37]; exact hMi _
                          refine lv_if_le (tgt := 146) hx hb dX11_wayTo_72 (by decide) (fun c_38 => ?_) (fun c_38 => ?_)
                          · have dc_38 := c_le (a := x_37.toInt) (b := 0) rfl (by decide) c_38
                            exact cut_31  z_26 fz_27 _ _ ls (wyx_n hq0_cut_24 (by omega)) hVz_26 hAz_26 hRz_26 hP hD hS (lv_sub hl [0, 1, 2, 3, 4, 5] rfl)
                          · have dc_38 := c_nle (a := x_37.toInt) (b := 0) rfl (by decide) c_38
                            refine lv_aload_n hx hb dX11_wayTo_75 rfl (lv_at hl 3 rfl) ?_
                            refine va_get (D := (dC, dI)) (ci := 11) (v := .ref (pq 53)) (C := RX11) (T := TX11) (N := 63) hx hb hts in_wsX11_wayTo_X11 hown hK hP 0 rfl rfl 53 (by decide) (hts (.fieldLink RX11 134 "ShipOfficeModel" "far" "[I") iw_X11_wayTo_1) (fun _ h9 => h9) rfl dX11_wayTo_76 ?_
                            refine lv_iload hx hb dX11_wayTo_79 (lv_at hl 1 rfl) ?_
                            refine va_iald hx hb hK hP 42 41 rfl rfl (vp_in_iff.mpr (by omega)) dX11_wayTo_81 ?_
                            refine lv_topi (fun x_39 ex_39 => ?_)
                            have gx_39 : x_39.toInt = (fz_27 53 (y_18 : Int32).toNatClampNeg).toInt := iv_to ex_39
                            clear ex_39
                            have gfx_39 := hq0_cut_24 y_18.toNatClampNeg (ni_lt10 (by omega) (by omega))
                            have gdx_39 := wyD_b (w := (miF fa)) (M := 1000000000) (p := x1.toNatClampNeg) (r := y_9.toNatClampNeg) (a2 := y_18.toNatClampNeg) (a := y_18.toNatClampNeg) (n := y_25.toNatClampNeg) (by decide) y_18.toNatClampNeg
                            have gwx_39 : 0 ≤ x_39.toInt ∧ x_39.toInt ≤ 1000000000 := by omega
                            refine lv_ldc (v := 1000000000) hx hb hown (hts (.constant RX11 152 (1000000000)) (by decide +kernel)) dX11_wayTo_82 ?_
                            refine lv_icmp_ge (tgt := 146) hx hb dX11_wayTo_84 (by decide) (fun c_40 => ?_) (fun c_40 => ?_)
                            · have dc_40 := c_le (a := 1000000000) (b := x_39.toInt) (by decide) rfl c_40
                              exact cut_31  z_26 fz_27 _ _ ls (wyx_n hq0_cut_24 (by omega)) hVz_26 hAz_26 hRz_26 hP hD hS (lv_sub hl [0, 1, 2, 3, 4, 5] rfl)
                            · have dc_40 := c_nle (a := 1000000000) (b := x_39.toInt) (by decide) rfl c_40
                              refine lv_aload_n hx hb dX11_wayTo_87 rfl (lv_at hl 3 rfl) ?_
                              refine va_get (D := (dC, dI)) (ci := 11) (v := .ref (pq 53)) (C := RX11) (T := TX11) (N := 63) hx hb hts in_wsX11_wayTo_X11 hown hK hP 0 rfl rfl 53 (by decide) (hts (.fieldLink RX11 134 "ShipOfficeModel" "far" "[I") iw_X11_wayTo_1) (fun _ h9 => h9) rfl dX11_wayTo_88 ?_
                              refine lv_iload hx hb dX11_wayTo_91 (lv_at hl 1 rfl) ?_
                              refine va_iald hx hb hK hP 42 41 rfl rfl (vp_in_iff.mpr (by omega)) dX11_wayTo_93 ?_
                              refine lv_topi (fun x_41 ex_41 => ?_)
                              have gx_41 : x_41.toInt = (fz_27 53 (y_18 : Int32).toNatClampNeg).toInt := iv_to ex_41
                              clear ex_41
                              have gfx_41 := hq0_cut_24 y_18.toNatClampNeg (ni_lt10 (by omega) (by omega))
                              have gdx_41 := wyD_b (w := (miF fa)) (M := 1000000000) (p := x1.toNatClampNeg) (r := y_9.toNatClampNeg) (a2 := y_18.toNatClampNeg) (a := y_18.toNatClampNeg) (n := y_25.toNatClampNeg) (by decide) y_18.toNatClampNeg
                              have gwx_41 : 0 ≤ x_41.toInt ∧ x_41.toInt ≤ 1000000000 := by omega
                              refine lv_aload_n hx hb dX11_wayTo_94 rfl (lv_at hl 3 rfl) ?_
                              refine va_get (D := (dC, dI)) (ci := 11) (v := .ref (pq 1)) (C := RX11) (T := TX11) (N := 63) hx hb hts in_wsX11_wayTo_X11 hown hK hP 0 rfl rfl 1 (by decide) (hts (.fieldLink RX11 13 "ShipOfficeModel" "mile" "[I") iw_X11_wayTo_2) (fun _ h9 => h9) rfl dX11_wayTo_95 ?_
                              refine lv_bipush (v := 10) hx hb dX11_wayTo_98 (by decide) ?_
                              refine lv_iload hx hb dX11_wayTo_100 (lv_at hl 1 rfl) ?_
                              refine lv_imul hx hb dX11_wayTo_102 ?_
                              refine lv_topi (fun x_42 ex_42 => ?_)
                              have hx_42 : x_42.toInt = 10 * y_18.toInt := (iv_to ex_42).trans (mu_i (by decide) rfl (by omega) (by omega))
                              refine lv_iload hx hb dX11_wayTo_103 (lv_at hl 0 rfl) ?_
                              refine lv_iadd hx hb dX11_wayTo_105 ?_
                              refine lv_topi (fun x_43 ex_43 => ?_)
                              have hx_43 : x_43.toInt = x_42.toInt + y_25.toInt := (iv_to ex_43).trans (ad_i rfl rfl (by omega) (by omega))
                              refine va_iald hx hb hK hP 2 1 rfl rfl (vp_in_iff.mpr (by omega)) dX11_wayTo_106 ?_
                              refine lv_topi (fun x_44 ex_44 => ?_)
                              have gx_44 : x_44.toInt = (fz_27 1 (x_43 : Int32).toNatClampNeg).toInt := iv_to ex_44
                              clear ex_44
                              rw [show fz_27 1 = fa 1 from hRz_26.2 1 rfl] at gx_44
                              have gmx_44 : x_44.toInt = miF fa y_18.toNatClampNeg y_25.toNatClampNeg := by unfold miF; rw [← show (x_43 : Int32).toNatClampNeg = 10 * y_18.toNatClampNeg + y_25.toNatClampNeg from (show x_43.toInt.toNat = 10 * y_18.toInt.toNat + y_25.toInt.toNat by omega)]; exact gx_44
                              have gbx_44 : 0 ≤ x_44.toInt ∧ x_44.toInt ≤ 9999 := by rw [gx_44]; exact hMi _
                              refine lv_iadd hx hb dX11_wayTo_107 ?_
                              refine lv_topi (fun x_45 ex_45 => ?_)
                              have hx_45 : x_45.toInt = x_41.toInt + x_44.toInt := (iv_to ex_45).trans (ad_i rfl rfl (by omega) (by omega))
                              refine lv_aload_n hx hb dX11_wayTo_108 rfl (lv_at hl 3 rfl) ?_
                              refine va_get (D := (dC, dI)) (ci := 11) (v := .ref (pq 53)) (C := RX11) (T := TX11) (N := 63) hx hb hts in_wsX11_wayTo_X11 hown hK hP 0 rfl rfl 53 (by decide) (hts (.fieldLink RX11 134 "ShipOfficeModel" "far" "[I") iw_X11_wayTo_1) (fun _ h9 => h9) rfl dX11_wayTo_109 ?_
                              refine lv_iload hx hb dX11_wayTo_112 (lv_at hl 0 rfl) ?_
                              refine va_iald hx hb hK hP 42 41 rfl rfl (vp_in_iff.mpr (by omega)) dX11_wayTo_114 ?_
                              refine lv_topi (fun x_46 ex_46 => ?_)
                              have gx_46 : x_46.toInt = (fz_27 53 (y_25 : Int32).toNatClampNeg).toInt := iv_to ex_46
                              clear ex_46
                              have gfx_46 := hq0_cut_24 y_25.toNatClampNeg (ni_lt10 (by omega) (by omega))
                              have gdx_46 := wyD_b (w := (miF fa)) (M := 1000000000) (p := x1.toNatClampNeg) (r := y_9.toNatClampNeg) (a2 := y_18.toNatClampNeg) (a := y_18.toNatClampNeg) (n := y_25.toNatClampNeg) (by decide) y_25.toNatClampNeg
                              have gwx_46 : 0 ≤ x_46.toInt ∧ x_46.toInt ≤ 1000000000 := by omega
                              refine lv_icmp_ge (tgt := 146) hx hb dX11_wayTo_115 (by decide) (fun c_47 => ?_) (fun c_47 => ?_)
                              · have dc_47 := c_le (a := x_46.toInt) (b := x_45.toInt) rfl rfl c_47
                                exact cut_31  z_26 fz_27 _ _ ls (wyx_n hq0_cut_24 (by omega)) hVz_26 hAz_26 hRz_26 hP hD hS (lv_sub hl [0, 1, 2, 3, 4, 5] rfl)
                              · have dc_47 := c_nle (a := x_46.toInt) (b := x_45.toInt) rfl rfl c_47
                                refine lv_aload_n hx hb dX11_wayTo_118 rfl (lv_at hl 3 rfl) ?_
                                refine va_get (D := (dC, dI)) (ci := 11) (v := .ref (pq 53)) (C := RX11) (T := TX11) (N := 63) hx hb hts in_wsX11_wayTo_X11 hown hK hP 0 rfl rfl 53 (by decide) (hts (.fieldLink RX11 134 "ShipOfficeModel" "far" "[I") iw_X11_wayTo_1) (fun _ h9 => h9) rfl dX11_wayTo_119 ?_
                                refine lv_iload hx hb dX11_wayTo_122 (lv_at hl 0 rfl) ?_
                                refine lv_aload_n hx hb dX11_wayTo_124 rfl (lv_at hl 3 rfl) ?_
                                refine va_get (D := (dC, dI)) (ci := 11) (v := .ref (pq 53)) (C := RX11) (T := TX11) (N := 63) hx hb hts in_wsX11_wayTo_X11 hown hK hP 0 rfl rfl 53 (by decide) (hts (.fieldLink RX11 134 "ShipOfficeModel" "far" "[I") iw_X11_wayTo_1) (fun _ h9 => h9) rfl dX11_wayTo_125 ?_
                                refine lv_iload hx hb dX11_wayTo_128 (lv_at hl 1 rfl) ?_
                                refine va_iald hx hb hK hP 42 41 rfl rfl (vp_in_iff.mpr (by omega)) dX11_wayTo_130 ?_
                                refine lv_topi (fun x_48 ex_48 => ?_)
                                have gx_48 : x_48.toInt = (fz_27 53 (y_18 : Int32).toNatClampNeg).toInt := iv_to ex_48
                                clear ex_48
                                have gfx_48 := hq0_cut_24 y_18.toNatClampNeg (ni_lt10 (by omega) (by omega))
                                have gdx_48 := wyD_b (w := (miF fa)) (M := 1000000000) (p := x1.toNatClampNeg) (r := y_9.toNatClampNeg) (a2 := y_18.toNatClampNeg) (a := y_18.toNatClampNeg) (n := y_25.toNatClampNeg) (by decide) y_18.toNatClampNeg
                                have gwx_48 : 0 ≤ x_48.toInt ∧ x_48.toInt ≤ 1000000000 := by omega
                                refine lv_aload_n hx hb dX11_wayTo_131 rfl (lv_at hl 3 rfl) ?_
                                refine va_get (D := (dC, dI)) (ci := 11) (v := .ref (pq 1)) (C := RX11) (T := TX11) (N := 63) hx hb hts in_wsX11_wayTo_X11 hown hK hP 0 rfl rfl 1 (by decide) (hts (.fieldLink RX11 13 "ShipOfficeModel" "mile" "[I") iw_X11_wayTo_2) (fun _ h9 => h9) rfl dX11_wayTo_132 ?_
                                refine lv_bipush (v := 10) hx hb dX11_wayTo_135 (by decide) ?_
                                refine lv_iload hx hb dX11_wayTo_137 (lv_at hl 1 rfl) ?_
                                refine lv_imul hx hb dX11_wayTo_139 ?_
                                refine lv_topi (fun x_49 ex_49 => ?_)
                                have hx_49 : x_49.toInt = 10 * y_18.toInt := (iv_to ex_49).trans (mu_i (by decide) rfl (by omega) (by omega))
                                refine lv_iload hx hb dX11_wayTo_140 (lv_at hl 0 rfl) ?_
                                refine lv_iadd hx hb dX11_wayTo_142 ?_
                                refine lv_topi (fun x_50 ex_50 => ?_)
                                have hx_50 : x_50.toInt = x_49.toInt + y_25.toInt := (iv_to ex_50).trans (ad_i rfl rfl (by omega) (by omega))
                                refine va_iald hx hb hK hP 2 1 rfl rfl (vp_in_iff.mpr (by omega)) dX11_wayTo_143 ?_
                                refine lv_topi (fun x_51 ex_51 => ?_)
                                have gx_51 : x_51.toInt = (fz_27 1 (x_50 : Int32).toNatClampNeg).toInt := iv_to ex_51
                                clear ex_51
                                rw [show fz_27 1 = fa 1 from hRz_26.2 1 rfl] at gx_51
                                have gmx_51 : x_51.toInt = miF fa y_18.toNatClampNeg y_25.toNatClampNeg := by unfold miF; rw [← show (x_50 : Int32).toNatClampNeg = 10 * y_18.toNatClampNeg + y_25.toNatClampNeg from (show x_50.toInt.toNat = 10 * y_18.toInt.toNat + y_25.toInt.toNat by omega)]; exact gx_51
                                have gbx_51 : 0 ≤ x_51.toInt ∧ x_51.toInt ≤ 9999 := by rw [gx_51]; exact hMi _
                                refine lv_iadd hx hb dX11_wayTo_144 ?_
                                refine lv_topi (fun x_52 ex_52 => ?_)
                                have hx_52 : x_52.toInt = x_48.toInt + x_51.toInt := (iv_to ex_52).trans (ad_i rfl rfl (by omega) (by omega))
                                refine va_iast hx hb hK hP hD hS 42 41 rfl rfl (vp_in_iff.mpr (by omega)) dX11_wayTo_145 (fun H locs hP hD hS => ?_)
                                have hP : va_P (dC, dI) vwCl (mW g0 pq cp z_26 (upF fz_27 53 (y_25 : Int32).toNatClampNeg x_52)) H := hP
                                have hD : va_D A (mW g0 pq cp z_26 (upF fz_27 53 (y_25 : Int32).toNatClampNeg x_52)) := hD
                                obtain ⟨fz_53, efz_53⟩ : ∃ zq, zq = (upF fz_27 53 (y_25 : Int32).toNatClampNeg x_52) := ⟨_, rfl⟩
                                rw [← efz_53] at hP hD
                                have hAfz_53 : mA fz_53 := by rw [efz_53]; exact mA_upF (lo := -2147483648) (hi := 2147483647) hAz_26 rfl rfl (iv_all _)
                                have hRfz_53 : scr v fa z_26 fz_53 := by rw [efz_53]; exact scr.uF hRz_26 rfl
                                have g_54 : (fz_53 1 (x_36 : Int32).toNatClampNeg).toInt = (fz_27 1 (x_36 : Int32).toNatClampNeg).toInt := by rw [efz_53]; exact uF_ne (by decide)
                                have g_55 : (fz_53 1 (x_43 : Int32).toNatClampNeg).toInt = (fz_27 1 (x_43 : Int32).toNatClampNeg).toInt := by rw [efz_53]; exact uF_ne (by decide)
                                have g_56 : (fz_53 1 (x_50 : Int32).toNatClampNeg).toInt = (fz_27 1 (x_50 : Int32).toNatClampNeg).toInt := by rw [efz_53]; exact uF_ne (by decide)
                                have sc_57 : scr v fa z_26 fz_53 := by rw [efz_53]; exact scr.uF hRz_26 rfl
                                have q0_58 : fz_53 0 = fa 0 := by rw [efz_53]; exact (if_neg (by decide)).trans (hRz_26.2 0 rfl)
                                exact cut_31  z_26 fz_53 _ _ ls (by rw [efz_53]; exact wyx_u hq0_cut_24 (by omega) (by omega)) hVz_26 hAfz_53 hRfz_53 hP hD hS (lv_sub hl [0, 1, 2, 3, 4, 5] rfl)
                    have kc_59 : (0 : Int32).toInt = 0 := by decide
                    exact cut_24 11 0 z_19 fz_20 _ _ ls (by omega) (by decide) (fun x hx => by rw [(show (0 : Int32).toNatClampNeg = 0 from by decide)]; exact hq0_cut_17 x hx) hVz_19 hAz_19 hRz_19 hP hD hS (lv_sub hl [0, 1, 2, 3, 4, 5] rfl)
              have kc_60 : (0 : Int32).toInt = 0 := by decide
              exact cut_17 11 0 z_10 fz_11 _ _ ls (by omega) (by decide) (fun x hx => by rw [(show (0 : Int32).toNatClampNeg = 0 from by decide)]; exact hq0_cut_8 x hx) hVz_10 hAz_10 hRz_10 hP hD hS (lv_sub hl [0, 1, 2, 3, 4] rfl)
        have kc_61 : (0 : Int32).toInt = 0 := by decide
        exact cut_8 11 0 z_3 fz_4 _ _ ls (by omega) (by decide) (fun x hx => by rw [(show (0 : Int32).toNatClampNeg = 0 from by decide)]; exact hq0_cut_1 x (show x < y_2.toInt.toNat by omega)) hVz_3 hAz_3 hRz_3 hP hD hS (lv_sub hl [0, 1, 2, 3] rfl)
      · have dc_7 := c_nle (a := 10) (b := y_2.toInt) (by decide) rfl c_7
        refine lv_aload_n hx hb dX11_wayTo_8 rfl (lv_at hl 1 rfl) ?_
        refine va_get (D := (dC, dI)) (ci := 11) (v := .ref (pq 53)) (C := RX11) (T := TX11) (N := 63) hx hb hts in_wsX11_wayTo_X11 hown hK hP 0 rfl rfl 53 (by decide) (hts (.fieldLink RX11 134 "ShipOfficeModel" "far" "[I") iw_X11_wayTo_1) (fun _ h9 => h9) rfl dX11_wayTo_9 ?_
        refine lv_iload_n hx hb dX11_wayTo_12 rfl (lv_at hl 0 rfl) ?_
        refine lv_iload_n hx hb dX11_wayTo_13 rfl (lv_at hl 0 rfl) ?_
        refine lv_iload_n hx hb dX11_wayTo_14 rfl (lv_at hl 2 rfl) ?_
        refine lv_icmp_ne (tgt := 22) hx hb dX11_wayTo_15 (by decide) (fun c_62 => ?_) (fun c_62 => ?_)
        · have dc_62 := c_ne (a := y_2.toInt) (b := x1.toInt) rfl rfl c_62
          refine lv_ldc (v := 1000000000) hx hb hown (hts (.constant RX11 152 (1000000000)) (by decide +kernel)) dX11_wayTo_22 ?_
          refine va_iast hx hb hK hP hD hS 42 41 rfl rfl (vp_in_iff.mpr (by omega)) dX11_wayTo_24 (fun H locs hP hD hS => ?_)
          have hP : va_P (dC, dI) vwCl (mW g0 pq cp z_3 (upF fz_4 53 (y_2 : Int32).toNatClampNeg 1000000000)) H := hP
          have hD : va_D A (mW g0 pq cp z_3 (upF fz_4 53 (y_2 : Int32).toNatClampNeg 1000000000)) := hD
          obtain ⟨fz_63, efz_63⟩ : ∃ zq, zq = (upF fz_4 53 (y_2 : Int32).toNatClampNeg 1000000000) := ⟨_, rfl⟩
          rw [← efz_63] at hP hD
          have hAfz_63 : mA fz_63 := by rw [efz_63]; exact mA_upF (lo := -2147483648) (hi := 2147483647) hAz_3 rfl rfl (iv_all _)
          have hRfz_63 : scr v fa z_3 fz_63 := by rw [efz_63]; exact scr.uF hRz_3 rfl
          have sc_64 : scr v fa z_3 fz_63 := by rw [efz_63]; exact scr.uF hRz_3 rfl
          have q0_65 : fz_63 0 = fa 0 := by rw [efz_63]; exact (if_neg (by decide)).trans (hRz_3.2 0 rfl)
          obtain ⟨x_66, ex_66⟩ : ∃ zq : Int32, y_2 + 1 = zq := ⟨_, rfl⟩
          have hx_66 : x_66.toInt = y_2.toInt + 1 := (iv_to ex_66).symm.trans (ad_i rfl (by decide) (by omega) (by omega))
          refine lv_iinc (v := x_66) (lv' := [(3, .int x_66), (0, .ref g0), (1, .int x1), (2, .int x2)]) hx hb dX11_wayTo_25 hl (k := 0) rfl ex_66 (by decide) rfl (fun ls hl => ?_)
          clear ex_66
          refine lv_goto (tgt := 2) hx hb dX11_wayTo_28 (by decide) ?_
          exact ih (n - 1) (by omega) x_66 z_3 fz_63 _ _ ls (by omega) (by omega) (by rw [(show x_66.toNatClampNeg = y_2.toNatClampNeg + 1 from (show x_66.toInt.toNat = y_2.toInt.toNat + 1 by omega)), efz_63]; exact wy_fill hq0_cut_1 (by unfold wy0; (repeat (first | rw [if_pos (by omega)] | rw [if_neg (by omega)])); (first | decide | omega))) hVz_3 hAfz_63 hRfz_63 hP hD hS (lv_sub hl [0, 1, 2, 3] rfl)
        · have dc_62 := c_eq (a := y_2.toInt) (b := x1.toInt) rfl rfl c_62
          refine lv_iconst (v := 0) hx hb dX11_wayTo_18 (by decide) ?_
          refine lv_goto (tgt := 24) hx hb dX11_wayTo_19 (by decide) ?_
          refine va_iast hx hb hK hP hD hS 42 41 rfl rfl (vp_in_iff.mpr (by omega)) dX11_wayTo_24 (fun H locs hP hD hS => ?_)
          have hP : va_P (dC, dI) vwCl (mW g0 pq cp z_3 (upF fz_4 53 (y_2 : Int32).toNatClampNeg 0)) H := hP
          have hD : va_D A (mW g0 pq cp z_3 (upF fz_4 53 (y_2 : Int32).toNatClampNeg 0)) := hD
          obtain ⟨fz_67, efz_67⟩ : ∃ zq, zq = (upF fz_4 53 (y_2 : Int32).toNatClampNeg 0) := ⟨_, rfl⟩
          rw [← efz_67] at hP hD
          have hAfz_67 : mA fz_67 := by rw [efz_67]; exact mA_upF (lo := -2147483648) (hi := 2147483647) hAz_3 rfl rfl (iv_all _)
          have hRfz_67 : scr v fa z_3 fz_67 := by rw [efz_67]; exact scr.uF hRz_3 rfl
          have sc_68 : scr v fa z_3 fz_67 := by rw [efz_67]; exact scr.uF hRz_3 rfl
          have q0_69 : fz_67 0 = fa 0 := by rw [efz_67]; exact (if_neg (by decide)).trans (hRz_3.2 0 rfl)
          obtain ⟨x_70, ex_70⟩ : ∃ zq : Int32, y_2 + 1 = zq := ⟨_, rfl⟩
          have hx_70 : x_70.toInt = y_2.toInt + 1 := (iv_to ex_70).symm.trans (ad_i rfl (by decide) (by omega) (by omega))
          refine lv_iinc (v := x_70) (lv' := [(3, .int x_70), (0, .ref g0), (1, .int x1), (2, .int x2)]) hx hb dX11_wayTo_25 hl (k := 0) rfl ex_70 (by decide) rfl (fun ls hl => ?_)
          clear ex_70
          refine lv_goto (tgt := 2) hx hb dX11_wayTo_28 (by decide) ?_
          exact ih (n - 1) (by omega) x_70 z_3 fz_67 _ _ ls (by omega) (by omega) (by rw [(show x_70.toNatClampNeg = y_2.toNatClampNeg + 1 from (show x_70.toInt.toNat = y_2.toInt.toNat + 1 by omega)), efz_67]; exact wy_fill hq0_cut_1 (by unfold wy0; (repeat (first | rw [if_pos (by omega)] | rw [if_neg (by omega)])); (first | decide | omega))) hVz_3 hAfz_67 hRfz_67 hP hD hS (lv_sub hl [0, 1, 2, 3] rfl)
  have kc_71 : (0 : Int32).toInt = 0 := by decide
  exact cut_1 11 0 v fa _ _ ls (by omega) (by decide) (fun x hx => absurd hx (by rw [(show (0 : Int32).toNatClampNeg = 0 from by decide)]; exact Nat.not_lt_zero x)) gV gA scr.rf hP hD hS (lv_sub hl [0, 1, 2, 3] rfl)
