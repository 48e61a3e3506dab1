

/-- two men are alike -/
def alk (nm mk : Nat → Int32) (a b : Nat) : Prop := (mk a).toInt = (mk b).toInt ∨ ((nm a).toInt = (nm b).toInt ∧ dga 5 (mk a).toInt (mk b).toInt < 2)
theorem alk_sy {nm mk : Nat → Int32} : ∀ a b, alk nm mk a b → alk nm mk b a := fun a b h => by
  unfold alk at *
  rw [dga_sy 5 (mk b).toInt (mk a).toInt]
  omega
def alF (fa : Nat → Nat → Int32) : Nat → Nat → Prop := alk (fa 2) (fa 3)
theorem alF_sy {fa : Nat → Nat → Int32} : ∀ a b, alF fa a b → alF fa b a := alk_sy
theorem alF_s {v z : Nat → Int32} {fa fz : Nat → Nat → Int32} (h : scr v fa z fz) : alF fz = alF fa := by
  unfold alF
  rw [h.2 2 rfl, h.2 3 rfl]
theorem dgA_0 {c a b A B : Int} {k : Nat} (hc : c = 0) (hk : k = 0) (ha : a = A) (hb : b = B) : c + dga (5 - k) a b = dga 5 A B := by
  rw [hc, hk, ha, hb]
  exact Int.zero_add _
theorem dgA_s {c c1 a a1 b b1 A B : Int} {k k1 : Nat} (h : c + dga (5 - k) a b = dga 5 A B) (hk : k < 5) (hk1 : k1 = k + 1) (ha : a1 = a / 10) (hb : b1 = b / 10) (hc : (a % 10 = b % 10 ∧ c1 = c) ∨ (¬ a % 10 = b % 10 ∧ c1 = c + 1)) : c1 + dga (5 - k1) a1 b1 = dga 5 A B := by
  rw [show 5 - k = (5 - k1) + 1 from by omega] at h
  rw [ha, hb]
  rw [show dga ((5 - k1) + 1) a b = (if a % 10 = b % 10 then 0 else 1) + dga (5 - k1) (a / 10) (b / 10) from rfl] at h
  rcases hc with ⟨c1, c2⟩ | ⟨c1, c2⟩
  · rw [if_pos c1] at h
    omega
  · rw [if_neg c1] at h
    omega
theorem dgA_e {c a b A B : Int} {k : Nat} (h : c + dga (5 - k) a b = dga 5 A B) (hk : k = 5) : c = dga 5 A B := by
  rw [hk] at h
  rw [← h]
  exact (Int.add_zero c).symm
/-- marks lie in their bounds -/
def mkB (fa : Nat → Nat → Int32) : Prop := ∀ i, 0 ≤ (fa 3 i).toInt ∧ (fa 3 i).toInt ≤ 99999
/-- the groups' numbers -/
def gpF (fa : Nat → Nat → Int32) : Nat → Int := fun m => (fa 52 m).toInt
theorem gpF_f {fz fy : Nat → Nat → Int32} {i i1 : Int32} (h : ∀ m, m < i.toNatClampNeg → gpF fz m = m) (e : fy = upF fz 52 i.toNatClampNeg i) (h0 : 0 ≤ i.toInt) (e1 : i1.toInt = i.toInt + 1) : ∀ m, m < i1.toNatClampNeg → gpF fy m = m := fun m hm => by
  have n1 : i.toNatClampNeg = i.toInt.toNat := rfl
  have n2 : i1.toNatClampNeg = i1.toInt.toNat := rfl
  rw [e]
  show (upF fz 52 i.toNatClampNeg i 52 m).toInt = m
  rw [show upF fz 52 i.toNatClampNeg i 52 = upd (fz 52) i.toNatClampNeg i from if_pos rfl]
  by_cases c : m = i.toNatClampNeg
  · rw [c, upd_eq]
    omega
  · rw [upd_ne c]
    exact h m (by omega)
theorem gpF_u {fz fy : Nat → Nat → Int32} {i o n : Nat} {k : Int32} (e : fy = upF fz 52 i k) (hk : k.toInt = (fz 52 o).toInt) : ∀ x, x < n → gpF fy x = if x = i then gpF fz o else gpF fz x := fun x _ => by
  rw [e]
  show (upF fz 52 i k 52 x).toInt = _
  rw [show upF fz 52 i k 52 = upd (fz 52) i k from if_pos rfl]
  by_cases c : x = i
  · rw [if_pos c, c, upd_eq]
    exact hk
  · rw [if_neg c, upd_ne c]
    rfl
/-- the search on its way -/
def fgV (A : Nat → Nat → Prop) (n : Nat) (g : Nat → Int) (q : Int) (m o : Nat) : Prop := labR A n g ∧ (q = 0 → (∀ x, x < m → ∀ y, y < n → ¬ (g y < g x ∧ A x y)) ∧ ∀ y, y < o → ¬ (g y < g m ∧ A m y))
section
variable {A : Nat → Nat → Prop} {n m m1 o o1 : Nat} {g g2 : Nat → Int} {q q1 : Int}
theorem fgV_1 (h : ∀ m, m < n → g m = m) (hq : q = 1) : fgV A n g q m o := ⟨labR_0 h, fun e => by omega⟩
theorem fgV_c (h : fgV A n g q m o) (em : m1 = m) (eo : o1 = o) : fgV A n g q m1 o1 := by rw [em, eo]; exact h
theorem fgV_b (h : fgV A n g q m o) (em : m1 = 0) (eo : o1 = 0) : fgV A n g q1 m1 o1 := ⟨h.1, fun _ => ⟨fun x hx => by omega, fun y hy => by omega⟩⟩
theorem fgV_n (h : fgV A n g q m o) (c : ¬ (g o < g m ∧ A m o)) (eo : o1 = o + 1) : fgV A n g q m o1 := ⟨h.1, fun e => ⟨(h.2 e).1, fun y hy => by
  by_cases d : y = o
  · rw [d]; exact c
  · exact (h.2 e).2 y (by omega)⟩⟩
theorem fgV_y (h : fgV A n g q m o) (hm : m < n) (ho : o < n) (ha : A m o) (hlt : g o < g m) (h2 : ∀ x, x < n → g2 x = if x = m then g o else g x) (hq : q1 = 1) : fgV A n g2 q1 m1 o1 := ⟨labR_s h.1 hm ho ha hlt h2, fun e => by omega⟩
theorem fgV_m (h : fgV A n g q m o) (eo : n ≤ o) (em : m1 = m + 1) (e1 : o1 = 0) : fgV A n g q m1 o1 := ⟨h.1, fun e => ⟨fun x hx y hy => by
  by_cases d : x = m
  · rw [d]; exact (h.2 e).2 y (by omega)
  · exact (h.2 e).1 x (by omega) y hy, fun y hy => by omega⟩⟩
theorem fgV_e (h : fgV A n g q m o) (hA : ∀ m o, A m o → A o m) (em : m = n) (hq : q = 0) : lab (gE A n) n g := labR_e h.1 hA (fun x hx y hy => (h.2 hq).1 x (by omega) y hy)
end
set_option maxHeartbeats 4000000 in
set_option maxRecDepth 100000 in
theorem c_X11_isAlike_f (l : Launch) (dC : Nat → ClassId) (dI : Nat → Nat → Nat) (sz : Nat) (g0 : Nat) (pq : Nat → Nat) (cp : Nat → ClassId) (v : Nat → Int32) (fa : Nat → Nat → Int32) (gV : mV v) (gA : mA fa) (x1 : Int32) (hx1 : 0 ≤ x1.toInt ∧ x1.toInt ≤ 39) (x2 : Int32) (hx2 : 0 ≤ x2.toInt ∧ x2.toInt ≤ 39) (hMk : mkB fa) : Met l yX11_isAlike wsX11_isAlike ({ frames := 0, cells := 0, slots := 0, locals := 0 }) (va_Pc [.ref g0, .int x1, .int x2] (pcW (dC, dI) (mT cp) (mW g0 pq cp v fa) sz)) (va_Qi (fun (r : Int32) (u : Unit) => (0 ≤ r.toInt ∧ r.toInt ≤ 1) ∧ (r.toInt = b01 (alF fa x1.toNatClampNeg x2.toNatClampNeg))) (fun _ _ => True) (va_A [] sz)) 0 0 (va_A [] sz) := by
  refine Met.ofW (cc := cX11_isAlike) (maxL := 7) (ret := (some .boolean)) (by decide) rfl ?_
  intro p e s m args below meth c s₁ B hml hv
  obtain ⟨rfl, hsz, hP, hK, hD0⟩ := hv
  have hx := B.exec
  have hb := B.bytes
  have hr := B.returns
  have hts := atoms_spec (ws := wsX11_isAlike) B.pre
  have hown : s.vm.findClass RX11 = some m.cls := findClass_of_methodNamed B.named
  have hlocks := B.notSynchronized
  subst hsz
  have hD := hD0
  generalize hAe : va_A [] s.heap.size = A at ⊢
  have hA : ∀ q : Nat, s.heap.size ≤ q → A q := fun q h => by rw [← hAe]; exact Or.inr h
  have hS : va_S A s.heap s.heap [] := va_S.rf
  have hP : va_P (dC, dI) vwCl (mW g0 pq cp v fa) s.heap := hP
  have hl := lv_entry ([.ref g0, .int x1, .int x2]) (n := 7) (Nat.le_of_ble_eq_true rfl)
  rw [lg_entry_eq]
  generalize (lg_sl ([.ref g0, .int x1, .int x2]) ++ List.replicate (7 - (lg_sl ([.ref g0, .int x1, .int x2])).length) Slot.unset).toArray = ls at hl ⊢
  have hl : lv_has ls 7 [(0, .ref g0), (1, .int x1), (2, .int x2)] := hl
  refine lv_aload_n hx hb dX11_isAlike_0 rfl (lv_at hl 0 rfl) ?_
  refine va_get (D := (dC, dI)) (ci := 11) (v := .ref (pq 3)) (C := RX11) (T := TX11) (N := 63) hx hb hts in_wsX11_isAlike_X11 hown hK hP 0 rfl rfl 3 (by decide) (hts (.fieldLink RX11 19 "ShipOfficeModel" "marks" "[I") iw_X11_isAlike_1) (fun _ h9 => h9) rfl dX11_isAlike_1 ?_
  refine lv_iload_n hx hb dX11_isAlike_4 rfl (lv_at hl 1 rfl) ?_
  refine va_iald hx hb hK hP 4 3 rfl rfl (vp_in_iff.mpr (by omega)) dX11_isAlike_5 ?_
  refine lv_topi (fun x_1 ex_1 => ?_)
  have gx_1 : x_1.toInt = (fa 3 (x1 : Int32).toNatClampNeg).toInt := iv_to ex_1
  clear ex_1
  have gbx_1 : 0 ≤ x_1.toInt ∧ x_1.toInt ≤ 99999 := by rw [gx_1]; exact hMk _
  refine lv_aload_n hx hb dX11_isAlike_6 rfl (lv_at hl 0 rfl) ?_
  refine va_get (D := (dC, dI)) (ci := 11) (v := .ref (pq 3)) (C := RX11) (T := TX11) (N := 63) hx hb hts in_wsX11_isAlike_X11 hown hK hP 0 rfl rfl 3 (by decide) (hts (.fieldLink RX11 19 "ShipOfficeModel" "marks" "[I") iw_X11_isAlike_1) (fun _ h9 => h9) rfl dX11_isAlike_7 ?_
  refine lv_iload_n hx hb dX11_isAlike_10 rfl (lv_at hl 2 rfl) ?_
  refine va_iald hx hb hK hP 4 3 rfl rfl (vp_in_iff.mpr (by omega)) dX11_isAlike_11 ?_
  refine lv_topi (fun x_2 ex_2 => ?_)
  have gx_2 : x_2.toInt = (fa 3 (x2 : Int32).toNatClampNeg).toInt := iv_to ex_2
  clear ex_2
  have gbx_2 : 0 ≤ x_2.toInt ∧ x_2.toInt ≤ 99999 := by rw [gx_2]; exact hMk _
  refine lv_icmp_ne (tgt := 17) hx hb dX11_isAlike_12 (by decide) (fun c_3 => ?_) (fun c_3 => ?_)
  · have dc_3 := c_ne (a := x_1.toInt) (b := x_2.toInt) rfl rfl c_3
    refine lv_iconst (v := 0) hx hb dX11_isAlike_17 (by decide) ?_
    refine lv_istore_n (lv' := [(3, .int 0), (0, .ref g0), (1, .int x1), (2, .int x2)]) hx hb dX11_isAlike_18 rfl hl (by decide) rfl (fun ls hl => ?_)
    refine lv_aload_n hx hb dX11_isAlike_19 rfl (lv_at hl 1 rfl) ?_
    refine va_get (D := (dC, dI)) (ci := 11) (v := .ref (pq 3)) (C := RX11) (T := TX11) (N := 63) hx hb hts in_wsX11_isAlike_X11 hown hK hP 0 rfl rfl 3 (by decide) (hts (.fieldLink RX11 19 "ShipOfficeModel" "marks" "[I") iw_X11_isAlike_1) (fun _ h9 => h9) rfl dX11_isAlike_20 ?_
    refine lv_iload_n hx hb dX11_isAlike_23 rfl (lv_at hl 2 rfl) ?_
    refine va_iald hx hb hK hP 4 3 rfl rfl (vp_in_iff.mpr (by omega)) dX11_isAlike_24 ?_
    refine lv_topi (fun x_4 ex_4 => ?_)
    have gx_4 : x_4.toInt = (fa 3 (x1 : Int32).toNatClampNeg).toInt := iv_to ex_4
    clear ex_4
    have gbx_4 : 0 ≤ x_4.toInt ∧ x_4.toInt ≤ 99999 := by rw [gx_4]; exact hMk _
    refine lv_istore (lv' := [(4, .int x_4), (3, .int 0), (0, .ref g0), (1, .int x1), (2, .int x2)]) hx hb dX11_isAlike_25 hl (by decide) rfl (fun ls hl => ?_)
    refine lv_aload_n hx hb dX11_isAlike_27 rfl (lv_at hl 2 rfl) ?_
    refine va_get (D := (dC, dI)) (ci := 11) (v := .ref (pq 3)) (C := RX11) (T := TX11) (N := 63) hx hb hts in_wsX11_isAlike_X11 hown hK hP 0 rfl rfl 3 (by decide) (hts (.fieldLink RX11 19 "ShipOfficeModel" "marks" "[I") iw_X11_isAlike_1) (fun _ h9 => h9) rfl dX11_isAlike_28 ?_
    refine lv_iload_n hx hb dX11_isAlike_31 rfl (lv_at hl 4 rfl) ?_
    refine va_iald hx hb hK hP 4 3 rfl rfl (vp_in_iff.mpr (by omega)) dX11_isAlike_32 ?_
    refine lv_topi (fun x_5 ex_5 => ?_)
    have gx_5 : x_5.toInt = (fa 3 (x2 : Int32).toNatClampNeg).toInt := iv_to ex_5
    clear ex_5
    have gbx_5 : 0 ≤ x_5.toInt ∧ x_5.toInt ≤ 99999 := by rw [gx_5]; exact hMk _
    refine lv_istore (lv' := [(5, .int x_5), (4, .int x_4), (3, .int 0), (0, .ref g0), (1, .int x1), (2, .int x2)]) hx hb dX11_isAlike_33 hl (by decide) rfl (fun ls hl => ?_)
    refine lv_iconst (v := 0) hx hb dX11_isAlike_35 (by decide) ?_
    refine lv_istore (lv' := [(6, .int 0), (5, .int x_5), (4, .int x_4), (3, .int 0), (0, .ref g0), (1, .int x1), (2, .int x2)]) hx hb dX11_isAlike_36 hl (by decide) rfl (fun ls hl => ?_)
    have cut_6 : ∀ (n : Nat) (y_7 : Int32) (y_8 : Int32) (y_9 : Int32) (y_10 : Int32) (H : Heap) (locs : List Loc) (ls : Array Slot), 5 - y_10.toInt ≤ (n : Int) → (0 ≤ y_7.toInt ∧ y_7.toInt ≤ 5) → (0 ≤ y_8.toInt ∧ y_8.toInt ≤ 99999) → (0 ≤ y_9.toInt ∧ y_9.toInt ≤ 99999) → (0 ≤ y_10.toInt ∧ y_10.toInt ≤ 5) → y_7.toInt + dga (5 - y_10.toNatClampNeg) y_8.toInt y_9.toInt = dga 5 (fa 3 x1.toNatClampNeg).toInt (fa 3 x2.toNatClampNeg).toInt → y_7.toInt ≤ y_10.toInt → va_P (dC, dI) vwCl (mW g0 pq cp v fa) H → va_S A s.heap H locs → lv_has ls 7 [(3, .int y_7), (4, .int y_8), (5, .int y_9), (6, .int y_10), (0, .ref g0), (1, .int x1), (2, .int x2)] → W p l e (headSpec wsX11_isAlike { frames := 0, cells := 0, slots := 0, locals := 0 }).room s m #[Value.ref g0, Value.int x1, Value.int x2] below meth c H locs 0 0 (MQ below (va_Qi (fun (r : Int32) (u : Unit) => (0 ≤ r.toInt ∧ r.toInt ≤ 1) ∧ (r.toInt = b01 (alF fa x1.toNatClampNeg x2.toNatClampNeg))) (fun _ _ => True) A) #[Value.ref g0, Value.int x1, Value.int x2] s 0 0 A) (F0 m 38 ls []) := by
      intro n
      induction n using Nat.strongRecOn with
      | ind n ih =>
        intro y_7 y_8 y_9 y_10 H locs ls hm hy_7 hy_8 hy_9 hy_10 hq0_cut_6 hq1_cut_6 hP hS hl
        refine lv_iload hx hb dX11_isAlike_38 (lv_at hl 3 rfl) ?_
        refine lv_iconst (v := 5) hx hb dX11_isAlike_40 (by decide) ?_
        refine lv_icmp_ge (tgt := 85) hx hb dX11_isAlike_41 (by decide) (fun c_11 => ?_) (fun c_11 => ?_)
        · have dc_11 := c_le (a := 5) (b := y_10.toInt) (by decide) rfl c_11
          refine lv_aload_n hx hb dX11_isAlike_85 rfl (lv_at hl 4 rfl) ?_
          refine va_get (D := (dC, dI)) (ci := 11) (v := .ref (pq 2)) (C := RX11) (T := TX11) (N := 63) hx hb hts in_wsX11_isAlike_X11 hown hK hP 0 rfl rfl 2 (by decide) (hts (.fieldLink RX11 16 "ShipOfficeModel" "name" "[I") iw_X11_isAlike_2) (fun _ h9 => h9) rfl dX11_isAlike_86 ?_
          refine lv_iload_n hx hb dX11_isAlike_89 rfl (lv_at hl 5 rfl) ?_
          refine va_iald hx hb hK hP 3 2 rfl rfl (vp_in_iff.mpr (by omega)) dX11_isAlike_90 ?_
          refine lv_topi (fun x_12 ex_12 => ?_)
          have gx_12 : x_12.toInt = (fa 2 (x1 : Int32).toNatClampNeg).toInt := iv_to ex_12
          clear ex_12
          refine lv_aload_n hx hb dX11_isAlike_91 rfl (lv_at hl 4 rfl) ?_
          refine va_get (D := (dC, dI)) (ci := 11) (v := .ref (pq 2)) (C := RX11) (T := TX11) (N := 63) hx hb hts in_wsX11_isAlike_X11 hown hK hP 0 rfl rfl 2 (by decide) (hts (.fieldLink RX11 16 "ShipOfficeModel" "name" "[I") iw_X11_isAlike_2) (fun _ h9 => h9) rfl dX11_isAlike_92 ?_
          refine lv_iload_n hx hb dX11_isAlike_95 rfl (lv_at hl 6 rfl) ?_
          refine va_iald hx hb hK hP 3 2 rfl rfl (vp_in_iff.mpr (by omega)) dX11_isAlike_96 ?_
          refine lv_topi (fun x_13 ex_13 => ?_)
          have gx_13 : x_13.toInt = (fa 2 (x2 : Int32).toNatClampNeg).toInt := iv_to ex_13
          clear ex_13
          refine lv_icmp_ne (tgt := 109) hx hb dX11_isAlike_97 (by decide) (fun c_14 => ?_) (fun c_14 => ?_)
          · have dc_14 := c_ne (a := x_12.toInt) (b := x_13.toInt) rfl rfl c_14
            refine lv_iconst (v := 0) hx hb dX11_isAlike_109 (by decide) ?_
            exact W.zret (v := 0) hx hb hr rfl (fun t ht hW => ⟨⟨0, (), rfl, ⟨(by decide), (b1_f (by have hD9 := dgA_e hq0_cut_6 (show y_10.toInt.toNat = 5 by omega); unfold alF alk; omega))⟩, trivial⟩, hS.F ht⟩) hS.2.2 dX11_isAlike_110
          · have dc_14 := c_eq (a := x_12.toInt) (b := x_13.toInt) rfl rfl c_14
            refine lv_iload_n hx hb dX11_isAlike_100 rfl (lv_at hl 0 rfl) ?_
            refine lv_iconst (v := 2) hx hb dX11_isAlike_101 (by decide) ?_
            refine lv_icmp_ge (tgt := 109) hx hb dX11_isAlike_102 (by decide) (fun c_15 => ?_) (fun c_15 => ?_)
            · have dc_15 := c_le (a := 2) (b := y_7.toInt) (by decide) rfl c_15
              refine lv_iconst (v := 0) hx hb dX11_isAlike_109 (by decide) ?_
              exact W.zret (v := 0) hx hb hr rfl (fun t ht hW => ⟨⟨0, (), rfl, ⟨(by decide), (b1_f (by have hD9 := dgA_e hq0_cut_6 (show y_10.toInt.toNat = 5 by omega); unfold alF alk; omega))⟩, trivial⟩, hS.F ht⟩) hS.2.2 dX11_isAlike_110
            · have dc_15 := c_nle (a := 2) (b := y_7.toInt) (by decide) rfl c_15
              refine lv_iconst (v := 1) hx hb dX11_isAlike_105 (by decide) ?_
              refine lv_goto (tgt := 110) hx hb dX11_isAlike_106 (by decide) ?_
              exact W.zret (v := 1) hx hb hr rfl (fun t ht hW => ⟨⟨1, (), rfl, ⟨(by decide), (b1_t (by have hD9 := dgA_e hq0_cut_6 (show y_10.toInt.toNat = 5 by omega); unfold alF alk; omega))⟩, trivial⟩, hS.F ht⟩) hS.2.2 dX11_isAlike_110
        · have dc_11 := c_nle (a := 5) (b := y_10.toInt) (by decide) rfl c_11
          refine lv_iload_n hx hb dX11_isAlike_44 rfl (lv_at hl 0 rfl) ?_
          refine lv_iload hx hb dX11_isAlike_45 (lv_at hl 1 rfl) ?_
          refine lv_bipush (v := 10) hx hb dX11_isAlike_47 (by decide) ?_
          refine lv_irem hx hb dX11_isAlike_49 (by decide) ?_
          refine lv_topi (fun x_16 ex_16 => ?_)
          have hx_16 : x_16.toInt = y_8.toInt % 10 := (iv_to ex_16).trans (rm_i (k := 10) rfl (by decide) (by omega) (by decide))
          clear ex_16
          refine lv_iload hx hb dX11_isAlike_50 (lv_at hl 2 rfl) ?_
          refine lv_bipush (v := 10) hx hb dX11_isAlike_52 (by decide) ?_
          refine lv_irem hx hb dX11_isAlike_54 (by decide) ?_
          refine lv_topi (fun x_17 ex_17 => ?_)
          have hx_17 : x_17.toInt = y_9.toInt % 10 := (iv_to ex_17).trans (rm_i (k := 10) rfl (by decide) (by omega) (by decide))
          clear ex_17
          refine lv_icmp_ne (tgt := 62) hx hb dX11_isAlike_55 (by decide) (fun c_18 => ?_) (fun c_18 => ?_)
          · have dc_18 := c_ne (a := x_16.toInt) (b := x_17.toInt) rfl rfl c_18
            refine lv_iconst (v := 1) hx hb dX11_isAlike_62 (by decide) ?_
            refine lv_iadd hx hb dX11_isAlike_63 ?_
            refine lv_topi (fun x_19 ex_19 => ?_)
            have hx_19 : x_19.toInt = y_7.toInt + 1 := (iv_to ex_19).trans (ad_i rfl (by decide) (by omega) (by omega))
            refine lv_istore_n (lv' := [(3, .int x_19), (4, .int y_8), (5, .int y_9), (6, .int y_10), (0, .ref g0), (1, .int x1), (2, .int x2)]) hx hb dX11_isAlike_64 rfl hl (by decide) rfl (fun ls hl => ?_)
            refine lv_iload hx hb dX11_isAlike_65 (lv_at hl 1 rfl) ?_
            refine lv_bipush (v := 10) hx hb dX11_isAlike_67 (by decide) ?_
            refine lv_idiv hx hb dX11_isAlike_69 (by decide) ?_
            refine lv_topi (fun x_20 ex_20 => ?_)
            have hx_20 : x_20.toInt = y_8.toInt / 10 := (iv_to ex_20).trans (dv_i (k := 10) rfl (by decide) (by omega) (by decide))
            clear ex_20
            refine lv_istore (lv' := [(4, .int x_20), (3, .int x_19), (5, .int y_9), (6, .int y_10), (0, .ref g0), (1, .int x1), (2, .int x2)]) hx hb dX11_isAlike_70 hl (by decide) rfl (fun ls hl => ?_)
            refine lv_iload hx hb dX11_isAlike_72 (lv_at hl 2 rfl) ?_
            refine lv_bipush (v := 10) hx hb dX11_isAlike_74 (by decide) ?_
            refine lv_idiv hx hb dX11_isAlike_76 (by decide) ?_
            refine lv_topi (fun x_21 ex_21 => ?_)
            have hx_21 : x_21.toInt = y_9.toInt / 10 := (iv_to ex_21).trans (dv_i (k := 10) rfl (by decide) (by omega) (by decide))
            clear ex_21
            refine lv_istore (lv' := [(5, .int x_21), (4, .int x_20), (3, .int x_19), (6, .int y_10), (0, .ref g0), (1, .int x1), (2, .int x2)]) hx hb dX11_isAlike_77 hl (by decide) rfl (fun ls hl => ?_)
            obtain ⟨x_22, ex_22⟩ : ∃ zq : Int32, y_10 + 1 = zq := ⟨_, rfl⟩
            have hx_22 : x_22.toInt = y_10.toInt + 1 := (iv_to ex_22).symm.trans (ad_i rfl (by decide) (by omega) (by omega))
            refine lv_iinc (v := x_22) (lv' := [(6, .int x_22), (5, .int x_21), (4, .int x_20), (3, .int x_19), (0, .ref g0), (1, .int x1), (2, .int x2)]) hx hb dX11_isAlike_79 hl (k := 3) rfl ex_22 (by decide) rfl (fun ls hl => ?_)
            clear ex_22
            refine lv_goto (tgt := 38) hx hb dX11_isAlike_82 (by decide) ?_
            exact ih (n - 1) (by omega) x_19 x_20 x_21 x_22 _ _ ls (by omega) (by omega) (by omega) (by omega) (by omega) (dgA_s hq0_cut_6 (show y_10.toInt.toNat < 5 by omega) (show x_22.toInt.toNat = y_10.toInt.toNat + 1 by omega) (by omega) (by omega) (by omega)) (by omega) hP hS (lv_sub hl [3, 2, 1, 0, 4, 5, 6] rfl)
          · have dc_18 := c_eq (a := x_16.toInt) (b := x_17.toInt) rfl rfl c_18
            refine lv_iconst (v := 0) hx hb dX11_isAlike_58 (by decide) ?_
            refine lv_goto (tgt := 63) hx hb dX11_isAlike_59 (by decide) ?_
            refine lv_iadd hx hb dX11_isAlike_63 ?_
            refine lv_topi (fun x_23 ex_23 => ?_)
            have hx_23 : x_23.toInt = y_7.toInt + 0 := (iv_to ex_23).trans (ad_i rfl (by decide) (by omega) (by omega))
            refine lv_istore_n (lv' := [(3, .int x_23), (4, .int y_8), (5, .int y_9), (6, .int y_10), (0, .ref g0), (1, .int x1), (2, .int x2)]) hx hb dX11_isAlike_64 rfl hl (by decide) rfl (fun ls hl => ?_)
            refine lv_iload hx hb dX11_isAlike_65 (lv_at hl 1 rfl) ?_
            refine lv_bipush (v := 10) hx hb dX11_isAlike_67 (by decide) ?_
            refine lv_idiv hx hb dX11_isAlike_69 (by decide) ?_
            refine lv_topi (fun x_24 ex_24 => ?_)
            have hx_24 : x_24.toInt = y_8.toInt / 10 := (iv_to ex_24).trans (dv_i (k := 10) rfl (by decide) (by omega) (by decide))
            clear ex_24
            refine lv_istore (lv' := [(4, .int x_24), (3, .int x_23), (5, .int y_9), (6, .int y_10), (0, .ref g0), (1, .int x1), (2, .int x2)]) hx hb dX11_isAlike_70 hl (by decide) rfl (fun ls hl => ?_)
            refine lv_iload hx hb dX11_isAlike_72 (lv_at hl 2 rfl) ?_
            refine lv_bipush (v := 10) hx hb dX11_isAlike_74 (by decide) ?_
            refine lv_idiv hx hb dX11_isAlike_76 (by decide) ?_
            refine lv_topi (fun x_25 ex_25 => ?_)
            have hx_25 : x_25.toInt = y_9.toInt / 10 := (iv_to ex_25).trans (dv_i (k := 10) rfl (by decide) (by omega) (by decide))
            clear ex_25
            refine lv_istore (lv' := [(5, .int x_25), (4, .int x_24), (3, .int x_23), (6, .int y_10), (0, .ref g0), (1, .int x1), (2, .int x2)]) hx hb dX11_isAlike_77 hl (by decide) rfl (fun ls hl => ?_)
            obtain ⟨x_26, ex_26⟩ : ∃ zq : Int32, y_10 + 1 = zq := ⟨_, rfl⟩
            have hx_26 : x_26.toInt = y_10.toInt + 1 := (iv_to ex_26).symm.trans (ad_i rfl (by decide) (by omega) (by omega))
            refine lv_iinc (v := x_26) (lv' := [(6, .int x_26), (5, .int x_25), (4, .int x_24), (3, .int x_23), (0, .ref g0), (1, .int x1), (2, .int x2)]) hx hb dX11_isAlike_79 hl (k := 3) rfl ex_26 (by decide) rfl (fun ls hl => ?_)
            clear ex_26
            refine lv_goto (tgt := 38) hx hb dX11_isAlike_82 (by decide) ?_
            exact ih (n - 1) (by omega) x_23 x_24 x_25 x_26 _ _ ls (by omega) (by omega) (by omega) (by omega) (by omega) (dgA_s hq0_cut_6 (show y_10.toInt.toNat < 5 by omega) (show x_26.toInt.toNat = y_10.toInt.toNat + 1 by omega) (by omega) (by omega) (by omega)) (by omega) hP hS (lv_sub hl [3, 2, 1, 0, 4, 5, 6] rfl)
    have kc_27 : (0 : Int32).toInt = 0 := by decide
    exact cut_6 6 0 x_4 x_5 0 _ _ ls (by omega) (by decide) (by omega) (by omega) (by decide) (dgA_0 (by decide) (by decide) (by omega) (by omega)) (by decide) hP hS (lv_sub hl [3, 2, 1, 0, 4, 5, 6] rfl)
  · have dc_3 := c_eq (a := x_1.toInt) (b := x_2.toInt) rfl rfl c_3
    refine lv_iconst (v := 1) hx hb dX11_isAlike_15 (by decide) ?_
    exact W.zret (v := 1) hx hb hr rfl (fun t ht hW => ⟨⟨1, (), rfl, ⟨(by decide), (b1_t (by unfold alF alk; omega))⟩, trivial⟩, hS.F ht⟩) hS.2.2 dX11_isAlike_16
