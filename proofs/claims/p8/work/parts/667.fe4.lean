

/-- an act's text -/
def txF (fa : Nat → Nat → Int32) (k : Nat) : Nat → Int32 := cI (fun j => fa 19 (60 * k + j)) (fa 16 k).toNatClampNeg
/-- the letters' values, of a row of letters -/
def mLr (L : Nat → Int32) : Int32 → Int32 := fun c => hld (L c.toNatClampNeg).toInt64
/-- the act in force: its place, -1 for none -/
def acB (fa : Nat → Nat → Int32) (p d : Int) : Nat → Int
  | 0 => -1
  | n + 1 => if (fa 17 n).toInt = p ∧ (fa 18 n).toInt ≤ d ∧ (acB fa p d n < 0 ∨ (fa 18 (acB fa p d n).toNat).toInt ≤ (fa 18 n).toInt) then (n : Int) else acB fa p d n
section
variable {fa : Nat → Nat → Int32} {p d : Int} {b i i1 : Int32}
theorem acB_0 (h : i.toInt = 0) : (-1 : Int32).toInt = acB fa p d i.toNatClampNeg := by
  rw [show i.toNatClampNeg = 0 from (show i.toInt.toNat = 0 by omega)]
  show (-1 : Int32).toInt = (-1 : Int)
  decide
theorem acB_t (hb : b.toInt = acB fa p d i.toNatClampNeg) (e : i1.toInt = i.toInt + 1) (h0 : 0 ≤ i.toInt) (h1 : (fa 17 i.toNatClampNeg).toInt = p) (h2 : (fa 18 i.toNatClampNeg).toInt ≤ d) (h3 : b.toInt < 0 ∨ (fa 18 b.toNatClampNeg).toInt ≤ (fa 18 i.toNatClampNeg).toInt) : i.toInt = acB fa p d i1.toNatClampNeg := by
  rw [show i1.toNatClampNeg = i.toNatClampNeg + 1 from (show i1.toInt.toNat = i.toInt.toNat + 1 by omega)]
  unfold acB
  rw [if_pos ⟨h1, h2, by rw [← hb]; exact h3⟩, tn_i h0]
theorem acB_f (hb : b.toInt = acB fa p d i.toNatClampNeg) (e : i1.toInt = i.toInt + 1) (h0 : 0 ≤ i.toInt) (h : ¬ ((fa 17 i.toNatClampNeg).toInt = p ∧ (fa 18 i.toNatClampNeg).toInt ≤ d ∧ (b.toInt < 0 ∨ (fa 18 b.toNatClampNeg).toInt ≤ (fa 18 i.toNatClampNeg).toInt))) : b.toInt = acB fa p d i1.toNatClampNeg := by
  rw [show i1.toNatClampNeg = i.toNatClampNeg + 1 from (show i1.toInt.toNat = i.toInt.toNat + 1 by omega)]
  unfold acB
  rw [if_neg (fun q => h ⟨q.1, q.2.1, by have := q.2.2; rw [← hb] at this; exact this⟩)]
  exact hb
theorem acB_lt {n : Nat} : acB fa p d n < (n : Int) ∧ -1 ≤ acB fa p d n := by
  induction n with
  | zero => exact ⟨by show (-1 : Int) < ((0 : Nat) : Int); decide, by show (-1 : Int) ≤ -1; decide⟩
  | succ n ih =>
    unfold acB
    split <;> omega
end
theorem acB_c {fa fz : Nat → Nat → Int32} {p d : Int} (h1 : fz 17 = fa 17) (h2 : fz 18 = fa 18) : ∀ n, acB fz p d n = acB fa p d n := by
  intro n
  induction n with
  | zero => rfl
  | succ n ih =>
    unfold acB
    rw [ih, h1, h2]
/-- what the text for a purpose is worth on a day, with these letters -/
def wrt (v : Nat → Int32) (fa : Nat → Nat → Int32) (p d : Int) (L : Nat → Int32) : Int32 := if 0 ≤ acB fa p d (v 42).toNatClampNeg then (mvS (mLr L) (txF fa (acB fa p d (v 42).toNatClampNeg).toNat) 5 0).2.2 else if p = 0 then 1 else if p = 1 then L 115 else if p = 2 then 100 else if p = 3 then 50 else 90
/-- every text is a text -/
def wlA (v : Nat → Int32) (fa : Nat → Nat → Int32) : Prop := ∀ k, k < (v 42).toNatClampNeg → (cS (txF fa k) 5 0).2.1 = true
theorem wlA_fr {v z : Nat → Int32} {fa fz : Nat → Nat → Int32} (h : wlA v fa) (h0 : z 42 = v 42) (h1 : fz 19 = fa 19) (h2 : fz 16 = fa 16) : wlA z fz := by
  intro k hk
  rw [h0] at hk
  unfold txF
  rw [h1, h2]
  exact h k hk
/-- two rows of letters alike where letters are -/
def eqL (L L' : Nat → Int32) : Prop := L 119 = L' 119 ∧ L 114 = L' 114 ∧ L 97 = L' 97 ∧ L 100 = L' 100 ∧ L 110 = L' 110 ∧ L 115 = L' 115 ∧ L 108 = L' 108 ∧ L 120 = L' 120
theorem mvS_c {c : Nat → Int32} {lt lt' : Int32 → Int32} (h : ∀ x, isLt x → lt x = lt' x) : (mvS lt c 5 0).1 = (mvS lt' c 5 0).1 ∧ (mvS lt c 5 0).2.1 = (mvS lt' c 5 0).2.1 ∧ ((mvS lt c 5 0).2.1 = true → (mvS lt c 5 0).2.2 = (mvS lt' c 5 0).2.2) := by
  have h := pS_rel (Q := fun (x y : Int32) => x = y) (c := c) (op := mop) (op' := mop) (fun _ _ _ _ _ _ h1 h2 => by rw [h1, h2]) (pU_rel (c := c) (op := mop) (op' := mop) (li := fun x => x) (lt := lt) (li' := fun x => x) (lt' := lt') (dv := 0) (dv' := 0) (fun _ _ _ _ _ _ h1 h2 => by rw [h1, h2]) (fun _ => rfl) h 5) 0
  exact h
theorem mLr_c {L L' : Nat → Int32} (h : eqL L L') : ∀ x, isLt x → mLr L x = mLr L' x := by
  intro x hx
  obtain ⟨h1, h2, h3, h4, h5, h6, h7, h8⟩ := h
  unfold mLr
  rcases hx with q | q | q | q | q | q | q | q <;> subst q
  · exact congrArg (fun y : Int32 => hld y.toInt64) h1
  · exact congrArg (fun y : Int32 => hld y.toInt64) h2
  · exact congrArg (fun y : Int32 => hld y.toInt64) h3
  · exact congrArg (fun y : Int32 => hld y.toInt64) h4
  · exact congrArg (fun y : Int32 => hld y.toInt64) h5
  · exact congrArg (fun y : Int32 => hld y.toInt64) h6
  · exact congrArg (fun y : Int32 => hld y.toInt64) h7
  · exact congrArg (fun y : Int32 => hld y.toInt64) h8
theorem wrt_c {v z : Nat → Int32} {fa fz : Nat → Nat → Int32} {p d : Int} {L L' : Nat → Int32} (hw : wlA v fa) (h0 : z 42 = v 42) (h1 : fz 19 = fa 19) (h2 : fz 16 = fa 16) (h3 : fz 17 = fa 17) (h4 : fz 18 = fa 18) (hL : eqL L L') : wrt z fz p d L = wrt v fa p d L' := by
  unfold wrt
  rw [h0, acB_c h3 h4, show (∀ k, txF fz k = txF fa k) from fun k => by unfold txF; rw [h1, h2]]
  by_cases q : 0 ≤ acB fa p d (v 42).toNatClampNeg
  · rw [if_pos q, if_pos q]
    have hk := acB_lt (fa := fa) (p := p) (d := d) (n := (v 42).toNatClampNeg)
    refine (mvS_c (mLr_c hL)).2.2 ?_
    rw [← (cm_same (lt := mLr L)).2]
    exact hw _ (by omega)
  · rw [if_neg q, if_neg q, hL.2.2.2.2.2.1]
theorem wrt_k {v : Nat → Int32} {fa : Nat → Nat → Int32} {p d : Int} {L : Nat → Int32} {x k n r : Int32} (hw : wlA v fa) (hk : k.toInt = acB fa p d (v 42).toNatClampNeg) (h0 : 0 ≤ k.toInt) (hx : x.toInt = 60 * k.toInt) (hn : n = fa 16 k.toNatClampNeg) (hr : (mvS (mLr L) (cI (fun j => fa 19 (x.toNatClampNeg + j)) n.toNatClampNeg) 5 0).2.1 = true → r = (mvS (mLr L) (cI (fun j => fa 19 (x.toNatClampNeg + j)) n.toNatClampNeg) 5 0).2.2) : r = wrt v fa p d L := by
  have hlt := acB_lt (fa := fa) (p := p) (d := d) (n := (v 42).toNatClampNeg)
  unfold wrt
  rw [if_pos (by omega)]
  have ek : (acB fa p d (v 42).toNatClampNeg).toNat = k.toNatClampNeg := by
    rw [← hk]
    rfl
  rw [ek]
  have e60 : x.toNatClampNeg = 60 * k.toNatClampNeg := (show x.toInt.toNat = 60 * k.toInt.toNat by omega)
  have hk2 : k.toNatClampNeg < (v 42).toNatClampNeg := (show k.toInt.toNat < _ by omega)
  rw [e60, hn] at hr
  refine hr ?_
  have g := hw _ hk2
  rw [(cm_same (lt := mLr L)).2] at g
  exact g
theorem bz_s {f f1 : Nat → Int32} {i i1 : Int32} (h : ∀ j, j < i.toNatClampNeg → f j = 0) (e : i1.toInt = i.toInt + 1) (h0 : 0 ≤ i.toInt) (ef : f1 = upd f i.toNatClampNeg 0) : ∀ j, j < i1.toNatClampNeg → f1 j = 0 := by
  intro j hj
  have n1 : i.toNatClampNeg = i.toInt.toNat := rfl
  have n2 : i1.toNatClampNeg = i1.toInt.toNat := rfl
  rw [ef]
  by_cases q : j = i.toNatClampNeg
  · exact if_pos q
  · exact (if_neg q).trans (h j (by omega))
set_option maxHeartbeats 4000000 in
set_option maxRecDepth 100000 in
theorem c_X11_bare_f (l : Launch) (dC : Nat → ClassId) (dI : Nat → Nat → Nat) (sz : Nat) (g0 : Nat) (pq : Nat → Nat) (cp : Nat → ClassId) (v : Nat → Int32) (fa : Nat → Nat → Int32) (gV : mV v) (gA : mA fa) : Met l yX11_bare wsX11_bare ({ frames := 0, cells := 0, slots := 0, locals := 0 }) (va_Pc [.ref g0] (pcW (dC, dI) (mT cp) (mW g0 pq cp v fa) sz)) (va_Qv (fun (u : (Nat → Int32) × (Nat → Nat → Int32)) => mV u.1 ∧ mA u.2 ∧ scr v fa u.1 u.2 ∧ (∀ j, j < 128 → u.2 45 j = 0)) (fun u t => va_P (dC, dI) vwCl (mW g0 pq cp u.1 u.2) t.heap ∧ va_K (dC, dI) vwCl (mT cp) t ∧ va_D (va_A (mW g0 pq cp v fa) sz) (mW g0 pq cp u.1 u.2)) (va_A (mW g0 pq cp v fa) sz)) 0 0 (va_A (mW g0 pq cp v fa) sz) := by
  refine Met.ofW (cc := cX11_bare) (maxL := 2) (ret := none) (by decide +kernel) rfl ?_
  intro p e s m args below meth c s₁ B hml hv
  obtain ⟨rfl, hsz, hP, hK, hD0⟩ := hv
  have hx := B.exec
  have hb := B.bytes
  have hr := B.returns
  have hts := atoms_spec (ws := wsX11_bare) B.pre
  have hown : s.vm.findClass RX11 = some m.cls := findClass_of_methodNamed B.named
  have hlocks := B.notSynchronized
  subst hsz
  have hD := hD0.self (sz := s.heap.size)
  generalize hAe : va_A (mW g0 pq cp v fa) s.heap.size = A at hD ⊢
  have hA : ∀ q : Nat, s.heap.size ≤ q → A q := fun q h => by rw [← hAe]; exact Or.inr h
  have hS : va_S A s.heap s.heap [] := va_S.rf
  have hP : va_P (dC, dI) vwCl (mW g0 pq cp v fa) s.heap := hP
  have hl := lv_entry ([.ref g0]) (n := 2) (Nat.le_of_ble_eq_true rfl)
  rw [lg_entry_eq]
  generalize (lg_sl ([.ref g0]) ++ List.replicate (2 - (lg_sl ([.ref g0])).length) Slot.unset).toArray = ls at hl ⊢
  have hl : lv_has ls 2 [(0, .ref g0)] := hl
  refine lv_iconst (v := 0) hx hb dX11_bare_0 (by decide +kernel) ?_
  refine lv_istore_n (lv' := [(1, .int 0), (0, .ref g0)]) hx hb dX11_bare_1 rfl hl (by decide +kernel) rfl (fun ls hl => ?_)
  have cut_1 : ∀ (n : Nat) (y_2 : Int32) (z_3 : Nat → Int32) (fz_4 : Nat → Nat → Int32) (H : Heap) (locs : List Loc) (ls : Array Slot), 128 - y_2.toInt ≤ (n : Int) → (0 ≤ y_2.toInt ∧ y_2.toInt ≤ 128) → (∀ j, j < y_2.toNatClampNeg → fz_4 45 j = 0) → mV z_3 → mA fz_4 → scr v fa z_3 fz_4 → va_P (dC, dI) vwCl (mW g0 pq cp z_3 fz_4) H → va_D A (mW g0 pq cp z_3 fz_4) → va_S A s.heap H locs → lv_has ls 2 [(1, .int y_2), (0, .ref g0)] → W p l e (headSpec wsX11_bare { frames := 0, cells := 0, slots := 0, locals := 0 }).room s m #[Value.ref g0] below meth c H locs 0 0 (MQ below (va_Qv (fun (u : (Nat → Int32) × (Nat → Nat → Int32)) => mV u.1 ∧ mA u.2 ∧ scr v fa u.1 u.2 ∧ (∀ j, j < 128 → u.2 45 j = 0)) (fun u t => va_P (dC, dI) vwCl (mW g0 pq cp u.1 u.2) t.heap ∧ va_K (dC, dI) vwCl (mT cp) t ∧ va_D A (mW g0 pq cp u.1 u.2)) A) #[Value.ref g0] s 0 0 A) (F0 m 2 ls []) := by
    intro n
    induction n using Nat.strongRecOn with
    | ind n ih =>
      intro y_2 z_3 fz_4 H locs ls hm hy_2 hq0_cut_1 hVz_3 hAz_3 hRz_3 hP hD hS hl
      refine lv_iload_n hx hb dX11_bare_2 rfl (lv_at hl 0 rfl) ?_
      refine lv_sipush (v := 128) hx hb dX11_bare_3 (by decide +kernel) ?_
      refine lv_icmp_ge (tgt := 22) hx hb dX11_bare_6 (by decide +kernel) (fun c_5 => ?_) (fun c_5 => ?_)
      · have dc_5 := c_le (a := 128) (b := y_2.toInt) (by decide +kernel) rfl c_5
        exact W.vret hx hb hr (fun t ht hW => ⟨⟨(z_3, fz_4), rfl, ⟨hVz_3, hAz_3, hRz_3, (fun j hj => hq0_cut_1 j (show j < y_2.toInt.toNat by omega))⟩, ⟨by rw [ht]; exact hP, va_K.moved hW.alike hK, hD⟩⟩, hS.F ht⟩) hS.2.2 dX11_bare_22
      · have dc_5 := c_nle (a := 128) (b := y_2.toInt) (by decide +kernel) rfl c_5
        refine lv_aload_n hx hb dX11_bare_9 rfl (lv_at hl 1 rfl) ?_
        refine va_get (D := (dC, dI)) (ci := 11) (v := .ref (pq 45)) (C := RX11) (T := TX11) (N := 63) hx hb hts in_wsX11_bare_X11 hown hK hP 0 rfl rfl 45 (by decide +kernel) (hts (.fieldLink RX11 128 "ShipOfficeModel" "letters" "[I") iw_X11_bare_1) (fun _ h9 => h9) rfl dX11_bare_10 ?_
        refine lv_iload_n hx hb dX11_bare_13 rfl (lv_at hl 0 rfl) ?_
        refine lv_iconst (v := 0) hx hb dX11_bare_14 (by decide +kernel) ?_
        refine va_iast hx hb hK hP hD hS 40 39 rfl rfl (vp_in_iff.mpr (by omega)) dX11_bare_15 (fun H locs hP hD hS => ?_)
        have hP : va_P (dC, dI) vwCl (mW g0 pq cp z_3 (upF fz_4 45 (y_2 : Int32).toNatClampNeg 0)) H := hP
        have hD : va_D A (mW g0 pq cp z_3 (upF fz_4 45 (y_2 : Int32).toNatClampNeg 0)) := hD
        obtain ⟨fz_6, efz_6⟩ : ∃ zq, zq = (upF fz_4 45 (y_2 : Int32).toNatClampNeg 0) := ⟨_, rfl⟩
        rw [← efz_6] at hP hD
        have hAfz_6 : mA fz_6 := by rw [efz_6]; exact mA_upF (lo := -2147483648) (hi := 2147483647) hAz_3 rfl rfl (iv_all _)
        have hRfz_6 : scr v fa z_3 fz_6 := by rw [efz_6]; exact scr.uF hRz_3 rfl
        have q0_7 : fz_6 0 = fa 0 := by rw [efz_6]; exact (if_neg (by decide +kernel)).trans (hRz_3.2 0 rfl)
        obtain ⟨x_8, ex_8⟩ : ∃ zq : Int32, y_2 + 1 = zq := ⟨_, rfl⟩
        have hx_8 : x_8.toInt = y_2.toInt + 1 := (iv_to ex_8).symm.trans (ad_i rfl (by decide +kernel) (by omega) (by omega))
        refine lv_iinc (v := x_8) (lv' := [(1, .int x_8), (0, .ref g0)]) hx hb dX11_bare_16 hl (k := 0) rfl ex_8 (by decide +kernel) rfl (fun ls hl => ?_)
        clear ex_8
        refine lv_goto (tgt := 2) hx hb dX11_bare_19 (by decide +kernel) ?_
        exact ih (n - 1) (by omega) x_8 z_3 fz_6 _ _ ls (by omega) (by omega) (bz_s hq0_cut_1 (by omega) (by omega) (by rw [efz_6]; exact if_pos rfl)) hVz_3 hAfz_6 hRfz_6 hP hD hS (lv_sub hl [0, 1] rfl)
  have kc_9 : (0 : Int32).toInt = 0 := by decide
  exact cut_1 129 0 v fa _ _ ls (by omega) (by decide +kernel) (al_0 (by decide +kernel)) gV gA scr.rf hP hD hS (lv_sub hl [0, 1] rfl)
set_option maxHeartbeats 4000000 in
set_option maxRecDepth 100000 in
theorem c_X11_actOn_f (l : Launch) (dC : Nat → ClassId) (dI : Nat → Nat → Nat) (sz : Nat) (g0 : Nat) (pq : Nat → Nat) (cp : Nat → ClassId) (v : Nat → Int32) (fa : Nat → Nat → Int32) (gV : mV v) (gA : mA fa) (x1 : Int32) (x2 : Int32) : Met l yX11_actOn wsX11_actOn ({ frames := 0, cells := 0, slots := 0, locals := 0 }) (va_Pc [.ref g0, .int x1, .int x2] (pcW (dC, dI) (mT cp) (mW g0 pq cp v fa) sz)) (va_Qi (fun (r : Int32) (u : Unit) => (-1 ≤ r.toInt ∧ r.toInt ≤ 29) ∧ (r.toInt = acB fa x1.toInt x2.toInt (v 42).toNatClampNeg)) (fun _ _ => True) (va_A [] sz)) 0 0 (va_A [] sz) := by
  refine Met.ofW (cc := cX11_actOn) (maxL := 5) (ret := (some .int)) (by decide +kernel) rfl ?_
  intro p e s m args below meth c s₁ B hml hv
  obtain ⟨rfl, hsz, hP, hK, hD0⟩ := hv
  have hx := B.exec
  have hb := B.bytes
  have hr := B.returns
  have hts := atoms_spec (ws := wsX11_actOn) B.pre
  have hown : s.vm.findClass RX11 = some m.cls := findClass_of_methodNamed B.named
  have hlocks := B.notSynchronized
  subst hsz
  have hD := hD0
  generalize hAe : va_A [] s.heap.size = A at ⊢
  have hA : ∀ q : Nat, s.heap.size ≤ q → A q := fun q h => by rw [← hAe]; exact Or.inr h
  have hS : va_S A s.heap s.heap [] := va_S.rf
  have hP : va_P (dC, dI) vwCl (mW g0 pq cp v fa) s.heap := hP
  have hl := lv_entry ([.ref g0, .int x1, .int x2]) (n := 5) (Nat.le_of_ble_eq_true rfl)
  rw [lg_entry_eq]
  generalize (lg_sl ([.ref g0, .int x1, .int x2]) ++ List.replicate (5 - (lg_sl ([.ref g0, .int x1, .int x2])).length) Slot.unset).toArray = ls at hl ⊢
  have hl : lv_has ls 5 [(0, .ref g0), (1, .int x1), (2, .int x2)] := hl
  have iv_1 : 0 ≤ (v 42).toInt ∧ (v 42).toInt ≤ 30 := gV 42
  refine lv_iconst (v := (-1)) hx hb dX11_actOn_0 (by decide +kernel) ?_
  refine lv_istore_n (lv' := [(3, .int (-1)), (0, .ref g0), (1, .int x1), (2, .int x2)]) hx hb dX11_actOn_1 rfl hl (by decide +kernel) rfl (fun ls hl => ?_)
  refine lv_iconst (v := 0) hx hb dX11_actOn_2 (by decide +kernel) ?_
  refine lv_istore (lv' := [(4, .int 0), (3, .int (-1)), (0, .ref g0), (1, .int x1), (2, .int x2)]) hx hb dX11_actOn_3 hl (by decide +kernel) rfl (fun ls hl => ?_)
  have cut_2 : ∀ (n : Nat) (y_3 : Int32) (y_4 : Int32) (H : Heap) (locs : List Loc) (ls : Array Slot), 30 - y_3.toInt ≤ (n : Int) → (0 ≤ y_3.toInt ∧ y_3.toInt ≤ 30) → (-1 ≤ y_4.toInt ∧ y_4.toInt ≤ 29) → y_4.toInt = acB fa x1.toInt x2.toInt y_3.toNatClampNeg → y_3.toInt ≤ (v 42).toInt → va_P (dC, dI) vwCl (mW g0 pq cp v fa) H → va_S A s.heap H locs → lv_has ls 5 [(4, .int y_3), (3, .int y_4), (0, .ref g0), (1, .int x1), (2, .int x2)] → W p l e (headSpec wsX11_actOn { frames := 0, cells := 0, slots := 0, locals := 0 }).room s m #[Value.ref g0, Value.int x1, Value.int x2] below meth c H locs 0 0 (MQ below (va_Qi (fun (r : Int32) (u : Unit) => (-1 ≤ r.toInt ∧ r.toInt ≤ 29) ∧ (r.toInt = acB fa x1.toInt x2.toInt (v 42).toNatClampNeg)) (fun _ _ => True) A) #[Value.ref g0, Value.int x1, Value.int x2] s 0 0 A) (F0 m 5 ls []) := by
    intro n
    induction n using Nat.strongRecOn with
    | ind n ih =>
      intro y_3 y_4 H locs ls hm hy_3 hy_4 hq0_cut_2 hq1_cut_2 hP hS hl
      refine lv_iload hx hb dX11_actOn_5 (lv_at hl 0 rfl) ?_
      refine lv_aload_n hx hb dX11_actOn_7 rfl (lv_at hl 2 rfl) ?_
      refine va_get (D := (dC, dI)) (ci := 11) (v := .int (v 42)) (C := RX11) (T := TX11) (N := 63) hx hb hts in_wsX11_actOn_X11 hown hK hP 0 rfl rfl 42 (by decide +kernel) (hts (.fieldLink RX11 256 "ShipOfficeModel" "acts" "I") iw_X11_actOn_1) (fun _ h9 => h9) rfl dX11_actOn_8 ?_
      refine lv_topi (fun x_5 ex_5 => ?_)
      have hx_5 : 0 ≤ x_5.toInt ∧ x_5.toInt ≤ 30 := iv_of ex_5 (gV 42)
      have gx_5 : x_5.toInt = (v 42).toInt := iv_to ex_5
      clear ex_5
      refine lv_icmp_ge (tgt := 65) hx hb dX11_actOn_11 (by decide +kernel) (fun c_6 => ?_) (fun c_6 => ?_)
      · have dc_6 := c_le (a := x_5.toInt) (b := y_3.toInt) rfl rfl c_6
        refine lv_iload_n hx hb dX11_actOn_65 rfl (lv_at hl 1 rfl) ?_
        exact W.iret (v := y_4) hx hb hr (fun t ht hW => ⟨⟨y_4, (), rfl, ⟨(by omega), (by rw [hq0_cut_2, show y_3.toNatClampNeg = (v 42).toNatClampNeg from (show y_3.toInt.toNat = (v 42).toInt.toNat by omega)])⟩, trivial⟩, hS.F ht⟩) hS.2.2 dX11_actOn_66
      · have dc_6 := c_nle (a := x_5.toInt) (b := y_3.toInt) rfl rfl c_6
        refine lv_aload_n hx hb dX11_actOn_14 rfl (lv_at hl 2 rfl) ?_
        refine va_get (D := (dC, dI)) (ci := 11) (v := .ref (pq 17)) (C := RX11) (T := TX11) (N := 63) hx hb hts in_wsX11_actOn_X11 hown hK hP 0 rfl rfl 17 (by decide +kernel) (hts (.fieldLink RX11 61 "ShipOfficeModel" "purpose" "[I") iw_X11_actOn_2) (fun _ h9 => h9) rfl dX11_actOn_15 ?_
        refine lv_iload hx hb dX11_actOn_18 (lv_at hl 0 rfl) ?_
        refine va_iald hx hb hK hP 18 17 rfl rfl (vp_in_iff.mpr (by omega)) dX11_actOn_20 ?_
        refine lv_topi (fun x_7 ex_7 => ?_)
        have gx_7 : x_7.toInt = (fa 17 (y_3 : Int32).toNatClampNeg).toInt := iv_to ex_7
        clear ex_7
        refine lv_iload_n hx hb dX11_actOn_21 rfl (lv_at hl 3 rfl) ?_
        refine lv_icmp_ne (tgt := 59) hx hb dX11_actOn_22 (by decide +kernel) (fun c_8 => ?_) (fun c_8 => ?_)
        · have dc_8 := c_ne (a := x_7.toInt) (b := x1.toInt) rfl rfl c_8
          obtain ⟨x_9, ex_9⟩ : ∃ zq : Int32, y_3 + 1 = zq := ⟨_, rfl⟩
          have hx_9 : x_9.toInt = y_3.toInt + 1 := (iv_to ex_9).symm.trans (ad_i rfl (by decide +kernel) (by omega) (by omega))
          refine lv_iinc (v := x_9) (lv' := [(4, .int x_9), (3, .int y_4), (0, .ref g0), (1, .int x1), (2, .int x2)]) hx hb dX11_actOn_59 hl (k := 0) rfl ex_9 (by decide +kernel) rfl (fun ls hl => ?_)
          clear ex_9
          refine lv_goto (tgt := 5) hx hb dX11_actOn_62 (by decide +kernel) ?_
          exact ih (n - 1) (by omega) x_9 y_4 _ _ ls (by omega) (by omega) (by omega) (acB_f hq0_cut_2 (by omega) (by omega) (by omega)) (by omega) hP hS (lv_sub hl [0, 1, 2, 3, 4] rfl)
        · have dc_8 := c_eq (a := x_7.toInt) (b := x1.toInt) rfl rfl c_8
          refine lv_aload_n hx hb dX11_actOn_25 rfl (lv_at hl 2 rfl) ?_
          refine va_get (D := (dC, dI)) (ci := 11) (v := .ref (pq 18)) (C := RX11) (T := TX11) (N := 63) hx hb hts in_wsX11_actOn_X11 hown hK hP 0 rfl rfl 18 (by decide +kernel) (hts (.fieldLink RX11 64 "ShipOfficeModel" "from" "[I") iw_X11_actOn_3) (fun _ h9 => h9) rfl dX11_actOn_26 ?_
          refine lv_iload hx hb dX11_actOn_29 (lv_at hl 0 rfl) ?_
          refine va_iald hx hb hK hP 19 18 rfl rfl (vp_in_iff.mpr (by omega)) dX11_actOn_31 ?_
          refine lv_topi (fun x_10 ex_10 => ?_)
          have gx_10 : x_10.toInt = (fa 18 (y_3 : Int32).toNatClampNeg).toInt := iv_to ex_10
          clear ex_10
          refine lv_iload_n hx hb dX11_actOn_32 rfl (lv_at hl 4 rfl) ?_
          refine lv_icmp_gt (tgt := 59) hx hb dX11_actOn_33 (by decide +kernel) (fun c_11 => ?_) (fun c_11 => ?_)
          · have dc_11 := c_lt (a := x2.toInt) (b := x_10.toInt) rfl rfl c_11
            obtain ⟨x_12, ex_12⟩ : ∃ zq : Int32, y_3 + 1 = zq := ⟨_, rfl⟩
            have hx_12 : x_12.toInt = y_3.toInt + 1 := (iv_to ex_12).symm.trans (ad_i rfl (by decide +kernel) (by omega) (by omega))
            refine lv_iinc (v := x_12) (lv' := [(4, .int x_12), (3, .int y_4), (0, .ref g0), (1, .int x1), (2, .int x2)]) hx hb dX11_actOn_59 hl (k := 0) rfl ex_12 (by decide +kernel) rfl (fun ls hl => ?_)
            clear ex_12
            refine lv_goto (tgt := 5) hx hb dX11_actOn_62 (by decide +kernel) ?_
            exact ih (n - 1) (by omega) x_12 y_4 _ _ ls (by omega) (by omega) (by omega) (acB_f hq0_cut_2 (by omega) (by omega) (by omega)) (by omega) hP hS (lv_sub hl [0, 1, 2, 3, 4] rfl)
          · have dc_11 := c_nlt (a := x2.toInt) (b := x_10.toInt) rfl rfl c_11
            refine lv_iload_n hx hb dX11_actOn_36 rfl (lv_at hl 1 rfl) ?_
            refine lv_if_lt (tgt := 56) hx hb dX11_actOn_37 (by decide +kernel) (fun c_13 => ?_) (fun c_13 => ?_)
            · have dc_13 := c_lt (a := y_4.toInt) (b := 0) rfl (by decide +kernel) c_13
              refine lv_iload hx hb dX11_actOn_56 (lv_at hl 0 rfl) ?_
              refine lv_istore_n (lv' := [(3, .int y_3), (4, .int y_3), (0, .ref g0), (1, .int x1), (2, .int x2)]) hx hb dX11_actOn_58 rfl hl (by decide +kernel) rfl (fun ls hl => ?_)
              obtain ⟨x_14, ex_14⟩ : ∃ zq : Int32, y_3 + 1 = zq := ⟨_, rfl⟩
              have hx_14 : x_14.toInt = y_3.toInt + 1 := (iv_to ex_14).symm.trans (ad_i rfl (by decide +kernel) (by omega) (by omega))
              refine lv_iinc (v := x_14) (lv' := [(4, .int x_14), (3, .int y_3), (0, .ref g0), (1, .int x1), (2, .int x2)]) hx hb dX11_actOn_59 hl (k := 1) rfl ex_14 (by decide +kernel) rfl (fun ls hl => ?_)
              clear ex_14
              refine lv_goto (tgt := 5) hx hb dX11_actOn_62 (by decide +kernel) ?_
              exact ih (n - 1) (by omega) x_14 y_3 _ _ ls (by omega) (by omega) (by omega) (acB_t hq0_cut_2 (by omega) (by omega) (by omega) (by omega) (by omega)) (by omega) hP hS (lv_sub hl [0, 1, 2, 3, 4] rfl)
            · have dc_13 := c_nlt (a := y_4.toInt) (b := 0) rfl (by decide +kernel) c_13
              refine lv_aload_n hx hb dX11_actOn_40 rfl (lv_at hl 2 rfl) ?_
              refine va_get (D := (dC, dI)) (ci := 11) (v := .ref (pq 18)) (C := RX11) (T := TX11) (N := 63) hx hb hts in_wsX11_actOn_X11 hown hK hP 0 rfl rfl 18 (by decide +kernel) (hts (.fieldLink RX11 64 "ShipOfficeModel" "from" "[I") iw_X11_actOn_3) (fun _ h9 => h9) rfl dX11_actOn_41 ?_
              refine lv_iload hx hb dX11_actOn_44 (lv_at hl 0 rfl) ?_
              refine va_iald hx hb hK hP 19 18 rfl rfl (vp_in_iff.mpr (by omega)) dX11_actOn_46 ?_
              refine lv_topi (fun x_15 ex_15 => ?_)
              have gx_15 : x_15.toInt = (fa 18 (y_3 : Int32).toNatClampNeg).toInt := iv_to ex_15
              clear ex_15
              refine lv_aload_n hx hb dX11_actOn_47 rfl (lv_at hl 2 rfl) ?_
              refine va_get (D := (dC, dI)) (ci := 11) (v := .ref (pq 18)) (C := RX11) (T := TX11) (N := 63) hx hb hts in_wsX11_actOn_X11 hown hK hP 0 rfl rfl 18 (by decide +kernel) (hts (.fieldLink RX11 64 "ShipOfficeModel" "from" "[I") iw_X11_actOn_3) (fun _ h9 => h9) rfl dX11_actOn_48 ?_
              refine lv_iload_n hx hb dX11_actOn_51 rfl (lv_at hl 1 rfl) ?_
              refine va_iald hx hb hK hP 19 18 rfl rfl (vp_in_iff.mpr (by omega)) dX11_actOn_52 ?_
              refine lv_topi (fun x_16 ex_16 => ?_)
              have gx_16 : x_16.toInt = (fa 18 (y_4 : Int32).toNatClampNeg).toInt := iv_to ex_16
              clear ex_16
              refine lv_icmp_lt (tgt := 59) hx hb dX11_actOn_53 (by decide +kernel) (fun c_17 => ?_) (fun c_17 => ?_)
              · have dc_17 := c_lt (a := x_15.toInt) (b := x_16.toInt) rfl rfl c_17
                obtain ⟨x_18, ex_18⟩ : ∃ zq : Int32, y_3 + 1 = zq := ⟨_, rfl⟩
                have hx_18 : x_18.toInt = y_3.toInt + 1 := (iv_to ex_18).symm.trans (ad_i rfl (by decide +kernel) (by omega) (by omega))
                refine lv_iinc (v := x_18) (lv' := [(4, .int x_18), (3, .int y_4), (0, .ref g0), (1, .int x1), (2, .int x2)]) hx hb dX11_actOn_59 hl (k := 0) rfl ex_18 (by decide +kernel) rfl (fun ls hl => ?_)
                clear ex_18
                refine lv_goto (tgt := 5) hx hb dX11_actOn_62 (by decide +kernel) ?_
                exact ih (n - 1) (by omega) x_18 y_4 _ _ ls (by omega) (by omega) (by omega) (acB_f hq0_cut_2 (by omega) (by omega) (by omega)) (by omega) hP hS (lv_sub hl [0, 1, 2, 3, 4] rfl)
              · have dc_17 := c_nlt (a := x_15.toInt) (b := x_16.toInt) rfl rfl c_17
                refine lv_iload hx hb dX11_actOn_56 (lv_at hl 0 rfl) ?_
                refine lv_istore_n (lv' := [(3, .int y_3), (4, .int y_3), (0, .ref g0), (1, .int x1), (2, .int x2)]) hx hb dX11_actOn_58 rfl hl (by decide +kernel) rfl (fun ls hl => ?_)
                obtain ⟨x_19, ex_19⟩ : ∃ zq : Int32, y_3 + 1 = zq := ⟨_, rfl⟩
                have hx_19 : x_19.toInt = y_3.toInt + 1 := (iv_to ex_19).symm.trans (ad_i rfl (by decide +kernel) (by omega) (by omega))
                refine lv_iinc (v := x_19) (lv' := [(4, .int x_19), (3, .int y_3), (0, .ref g0), (1, .int x1), (2, .int x2)]) hx hb dX11_actOn_59 hl (k := 1) rfl ex_19 (by decide +kernel) rfl (fun ls hl => ?_)
                clear ex_19
                refine lv_goto (tgt := 5) hx hb dX11_actOn_62 (by decide +kernel) ?_
                exact ih (n - 1) (by omega) x_19 y_3 _ _ ls (by omega) (by omega) (by omega) (acB_t hq0_cut_2 (by omega) (by omega) (by omega) (by omega) (by omega)) (by omega) hP hS (lv_sub hl [0, 1, 2, 3, 4] rfl)
  have kc_20 : ((-1) : Int32).toInt = -1 := by decide
  have kc_21 : (0 : Int32).toInt = 0 := by decide
  exact cut_2 31 0 (-1) _ _ ls (by omega) (by decide +kernel) (by decide +kernel) (acB_0 (by decide +kernel)) (by have rc : (0 : Int32).toInt = 0 := (by decide +kernel); omega) hP hS (lv_sub hl [0, 1, 2, 3, 4] rfl)
