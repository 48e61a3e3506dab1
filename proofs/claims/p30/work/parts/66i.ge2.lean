

section
variable {S : oS} {b dd tt x a : Nat} {v : Nat → Int32} {fa : Nat → Nat → Int32} {k d n n1 r : Int} {p : Option Nat}
/-- of one kind -/
def qK (v : Nat → Int32) (fa : Nat → Nat → Int32) (kd x k d r : Int) : Prop := ∀ i, i < (v 41).toNatClampNeg → (fa 10 i).toInt = kd → (fa 11 i).toInt = x → (fa 13 i).toInt ≤ k → ¬ (d < (fa 12 i).toInt ∧ (fa 12 i).toInt < r)
theorem qK_m {kd x : Int} (h : qK v fa kd x k d n) (hn : n1 ≤ n) : qK v fa kd x k d n1 := fun i i1 i2 i3 i4 q => h i i1 i2 i3 i4 ⟨q.1, by omega⟩
theorem qK_o {kd : Int} (h : onc S b dd tt v fa kd x) (hn : (oI S b tt).toInt ≤ k ∧ d < (oI S b dd).toInt → n ≤ (oI S b dd).toInt) : qK v fa kd x k d n := fun i i1 i2 i3 i4 q => by
  rcases h with ⟨h, -, -⟩ | ⟨h, j, j1, j2, j3, j4, j5, j6, -⟩
  · exact b01_0 h ⟨i, i1, i2, i3⟩
  · have e := j4 i i1 i2 i3
    rw [e] at q i4
    have := hn ⟨by omega, by omega⟩
    omega
theorem qV_m {x : Int} (h : qV v fa x k d n) (hn : n1 ≤ n) : qV v fa x k d n1 := fun i i1 i2 i3 i4 q => h i i1 i2 i3 i4 ⟨q.1, by omega⟩
theorem qP_m (h : qP v fa d n) (hn : n1 ≤ n) : qP v fa d n1 := fun i i1 i2 q => h i i1 i2 ⟨q.1, by omega⟩
theorem qPn_0 {i : Int32} (h : i.toInt = 0) : qPn fa i.toNatClampNeg d n := fun j hj => absurd hj (by
  have e : i.toNatClampNeg = i.toInt.toNat := rfl
  omega)
theorem qPn_s {i i1 : Int32} (h : qPn fa i.toNatClampNeg d n) (hn : n1 ≤ n) (hw : (fa 17 i.toNatClampNeg).toInt = 4 → ¬ (d < (fa 18 i.toNatClampNeg).toInt ∧ (fa 18 i.toNatClampNeg).toInt < n1)) (e : i1.toInt = i.toInt + 1) (h0 : 0 ≤ i.toInt) : qPn fa i1.toNatClampNeg d n1 := fun j hj hp q => by
  have e1 : i.toNatClampNeg = i.toInt.toNat := rfl
  have e2 : i1.toNatClampNeg = i1.toInt.toNat := rfl
  by_cases c : j = i.toNatClampNeg
  · rw [c] at hp q
    exact hw hp q
  · exact h j (by omega) hp ⟨q.1, by omega⟩
/-- all but what still stands in the chain -/
def chQ (S : oS) (v : Nat → Int32) (fa : Nat → Nat → Int32) (P : Nat → Prop) (k d n : Int) (p : Option Nat) : Prop := ∃ l, chn S fa l p ∧ ∀ i, i < (v 41).toNatClampNeg → P i → (fa 13 i).toInt ≤ k → i ∈ l ∨ ¬ (d < (fa 12 i).toInt ∧ (fa 12 i).toInt < n)
theorem chQ_i {P : Nat → Prop} {Q : Nat → Bool} (h : chn S fa (hls Q (v 41).toNatClampNeg) p) {r : Option Nat} (hr : p = r) (hP : ∀ i, P i → Q i = true) : chQ S v fa P k d n r := ⟨_, by rw [← hr]; exact h, fun i i1 i2 _ => Or.inl (hls_mem.mpr ⟨i1, hP i i2⟩)⟩
theorem chQ_s {P : Nat → Prop} {b : Nat} (h : chQ S v fa P k d n (some b)) (hr : oP S b 5 = p) (hn : n1 ≤ n) (hw : (oI S b 2).toInt ≤ k ∧ d < (oI S b 1).toInt → n1 ≤ (oI S b 1).toInt) : chQ S v fa P k d n1 p := by
  obtain ⟨l, h1, h2⟩ := h
  obtain ⟨i, l, rfl, ⟨g1, g2, g3⟩, h4⟩ := chn_s h1
  rw [hr] at h4
  refine ⟨l, h4, fun j j1 j2 j3 => ?_⟩
  rcases h2 j j1 j2 j3 with q | q
  · rcases List.mem_cons.mp q with e | q
    · refine Or.inr (fun z => ?_)
      rw [e] at z j3
      have := hw ⟨by omega, by omega⟩
      omega
    · exact Or.inl q
  · exact Or.inr (fun z => q ⟨z.1, by omega⟩)
theorem chQ_n {P : Nat → Prop} (h : chQ S v fa P k d n none) : ∀ i, i < (v 41).toNatClampNeg → P i → (fa 13 i).toInt ≤ k → ¬ (d < (fa 12 i).toInt ∧ (fa 12 i).toInt < n) := by
  obtain ⟨l, h1, h2⟩ := h
  rw [chn_n h1] at h2
  intro i i1 i2 i3
  rcases h2 i i1 i2 i3 with q | q
  · exact nomatch q
  · exact q
def pV (fa : Nat → Nat → Int32) (x : Int) (i : Nat) : Prop := (fa 10 i).toInt = 1 ∧ (fa 11 i).toInt = x
def pA (fa : Nat → Nat → Int32) (a : Int) (i : Nat) : Prop := ((fa 10 i).toInt = 3 ∨ (fa 10 i).toInt = 4 ∨ (fa 10 i).toInt = 5) ∧ (fa 11 i).toInt = a
theorem qV_3 {x : Int} (h0 : qK v fa 0 x k d n) (h2 : qK v fa 2 x k d n) (h1 : chQ S v fa (pV fa x) k d n none) : qV v fa x k d n := fun i i1 i2 i3 i4 => by
  rcases i2 with e | e | e
  · exact h0 i i1 e i3 i4
  · exact chQ_n h1 i i1 ⟨e, i3⟩ i4
  · exact h2 i i1 e i3 i4
/-- a set of states: those that earn, or ABOARD alone -/
noncomputable def dG (s : Int) (v : Nat → Int32) (fa : Nat → Nat → Int32) (a : Nat) (k t : Int) : Int := if s = 7 then erG v fa a k t else abG v fa a k t
theorem dG_01 {s t : Int} : dG s v fa a k t = 0 ∨ dG s v fa a k t = 1 := by
  unfold dG
  split
  · exact erG_01
  · exact abG_01
theorem dG_c {s t : Int} (h : stF v fa a t k = stF v fa a d k) : dG s v fa a k t = dG s v fa a k d := by
  unfold dG erG abG
  rw [h]
theorem dG_1 {s st z : Int} (hs : st = stF v fa a d k) (h0 : 0 ≤ st) (hz : z = if s = 7 then (if st < 3 then 1 else 0) else (if st = 1 then 1 else 0)) : dG s v fa a k d = z := by
  unfold dG erG abG
  rw [← hs, hz]
  split
  · split
    · rw [if_pos (by omega)]
    · rw [if_neg (by omega)]
  · rfl
theorem dG_n {s st : Int} (hs : st = stF v fa a d k) (h0 : st < 0) : dG s v fa a k d = 0 := by
  unfold dG erG abG
  rw [← hs]
  split
  · rw [if_neg (by omega)]
  · rw [if_neg (by omega)]
theorem dy_n {g : Int → Int} {lo n n1 d nx d1 : Int} (h : n = cDy g lo (d - lo).toNat) (h01 : g d = 0 ∨ g d = 1) (hl : lo ≤ d) (hc : ∀ t, d ≤ t → t < nx → g t = g d) (h1 : d ≤ d1) (h2 : d1 ≤ nx) (hm : (g d = 1 ∧ n1 = n + (d1 - d)) ∨ (g d = 0 ∧ n1 = n)) : n1 = cDy g lo (d1 - lo).toNat := by
  rw [cD_r h01 hl h1 (fun t q1 q2 => hc t q1 (by omega)), ← h]
  rcases hm with ⟨e, m⟩ | ⟨e, m⟩
  · rw [if_pos e, m]
  · rw [if_neg (by omega), m]; omega
theorem bt_i {x s y z : Int32} (hx : x.toInt = 7 ∨ x.toInt = 2) (hs : 0 ≤ s.toInt ∧ s.toInt ≤ 5) (ey : y = x >>> (s &&& 31)) (ez : z = y &&& 1) : z.toInt = if x.toInt = 7 then (if s.toInt < 3 then 1 else 0) else (if s.toInt = 1 then 1 else 0) := by
  have k : ∀ (n : Int) (y : Int32), y.toInt = n → s.toInt = n → s = y := fun n y h1 h2 => Int32.toInt_inj.mp (h2.trans h1.symm)
  have hx2 : x = 7 ∨ x = 2 := by
    rcases hx with h | h
    · exact Or.inl (Int32.toInt_inj.mp (h.trans (by decide)))
    · exact Or.inr (Int32.toInt_inj.mp (h.trans (by decide)))
  have hs2 : s = 0 ∨ s = 1 ∨ s = 2 ∨ s = 3 ∨ s = 4 ∨ s = 5 := by
    have : s.toInt = 0 ∨ s.toInt = 1 ∨ s.toInt = 2 ∨ s.toInt = 3 ∨ s.toInt = 4 ∨ s.toInt = 5 := by omega
    rcases this with h | h | h | h | h | h
    · exact Or.inl (k 0 0 (by decide) h)
    · exact Or.inr (Or.inl (k 1 1 (by decide) h))
    · exact Or.inr (Or.inr (Or.inl (k 2 2 (by decide) h)))
    · exact Or.inr (Or.inr (Or.inr (Or.inl (k 3 3 (by decide) h))))
    · exact Or.inr (Or.inr (Or.inr (Or.inr (Or.inl (k 4 4 (by decide) h)))))
    · exact Or.inr (Or.inr (Or.inr (Or.inr (Or.inr (k 5 5 (by decide) h)))))
  rw [ez, ey]
  rcases hx2 with rfl | rfl <;> rcases hs2 with rfl | rfl | rfl | rfl | rfl | rfl <;> decide
end
set_option maxHeartbeats 4000000 in
set_option maxRecDepth 100000 in
theorem c_X1_nearer_c (l : Launch) (dC : Nat → ClassId) (dI : Nat → Nat → Nat) (sz : Nat) (x1 : Int32) (x2 : Int32) (x3 : Int32) : Met l yX1_nearer wsX1_nearer ({ frames := 0, cells := 0, slots := 0, locals := 0 }) (va_Pc [.int x1, .int x2, .int x3] (pcW (dC, dI) [] [] sz)) (va_Qi (fun (r : Int32) (u : Unit) => ((x1.toInt < x2.toInt ∧ x2.toInt < x3.toInt ∧ r.toInt = x2.toInt) ∨ (¬ (x1.toInt < x2.toInt ∧ x2.toInt < x3.toInt) ∧ r.toInt = x3.toInt))) (fun _ _ => True) (va_A [] sz)) 0 0 (va_A [] sz) := by
  refine Met.ofW (cc := cX1_nearer) (maxL := 3) (ret := (some .int)) (by decide) rfl ?_
  intro p e s m args below meth c s₁ B hml hv
  obtain ⟨rfl, hsz, hP, hK, hD0⟩ := hv
  have hx := B.exec
  have hb := B.bytes
  have hr := B.returns
  have hts := atoms_spec (ws := wsX1_nearer) B.pre
  have hown : s.vm.findClass RX1 = some m.cls := findClass_of_methodNamed B.named
  have hlocks := B.notSynchronized
  subst hsz
  have hD := hD0
  generalize hAe : va_A [] s.heap.size = A at ⊢
  have hA : ∀ q : Nat, s.heap.size ≤ q → A q := fun q h => by rw [← hAe]; exact Or.inr h
  have hS : va_S A s.heap s.heap [] := va_S.rf
  have hP : va_P (dC, dI) vwCl [] s.heap := hP
  have hl := lv_entry ([.int x1, .int x2, .int x3]) (n := 3) (Nat.le_of_ble_eq_true rfl)
  rw [lg_entry_eq]
  generalize (lg_sl ([.int x1, .int x2, .int x3]) ++ List.replicate (3 - (lg_sl ([.int x1, .int x2, .int x3])).length) Slot.unset).toArray = ls at hl ⊢
  have hl : lv_has ls 3 [(0, .int x1), (1, .int x2), (2, .int x3)] := hl
  refine lv_iload_n hx hb dX1_nearer_0 rfl (lv_at hl 1 rfl) ?_
  refine lv_iload_n hx hb dX1_nearer_1 rfl (lv_at hl 0 rfl) ?_
  refine lv_icmp_le (tgt := 14) hx hb dX1_nearer_2 (by decide) (fun c_1 => ?_) (fun c_1 => ?_)
  · have dc_1 := c_le (a := x2.toInt) (b := x1.toInt) rfl rfl c_1
    refine lv_iload_n hx hb dX1_nearer_14 rfl (lv_at hl 2 rfl) ?_
    exact W.iret (v := x3) hx hb hr (fun t ht hW => ⟨⟨x3, (), rfl, (by omega), trivial⟩, hS.F ht⟩) hS.2.2 dX1_nearer_15
  · have dc_1 := c_nle (a := x2.toInt) (b := x1.toInt) rfl rfl c_1
    refine lv_iload_n hx hb dX1_nearer_5 rfl (lv_at hl 1 rfl) ?_
    refine lv_iload_n hx hb dX1_nearer_6 rfl (lv_at hl 2 rfl) ?_
    refine lv_icmp_ge (tgt := 14) hx hb dX1_nearer_7 (by decide) (fun c_2 => ?_) (fun c_2 => ?_)
    · have dc_2 := c_le (a := x3.toInt) (b := x2.toInt) rfl rfl c_2
      refine lv_iload_n hx hb dX1_nearer_14 rfl (lv_at hl 2 rfl) ?_
      exact W.iret (v := x3) hx hb hr (fun t ht hW => ⟨⟨x3, (), rfl, (by omega), trivial⟩, hS.F ht⟩) hS.2.2 dX1_nearer_15
    · have dc_2 := c_nle (a := x3.toInt) (b := x2.toInt) rfl rfl c_2
      refine lv_iload_n hx hb dX1_nearer_10 rfl (lv_at hl 1 rfl) ?_
      refine lv_goto (tgt := 15) hx hb dX1_nearer_11 (by decide) ?_
      exact W.iret (v := x2) hx hb hr (fun t ht hW => ⟨⟨x2, (), rfl, (by omega), trivial⟩, hS.F ht⟩) hS.2.2 dX1_nearer_15
