

/-- an answer about what is owed -/
def aOw (n now x j k st r : Int) : Prop := (¬ (0 ≤ x ∧ x < n) ∧ r = 1000000001) ∨ (0 ≤ x ∧ x < n ∧ (j < 0 ∨ k < 0) ∧ r = 1000000004) ∨ (0 ≤ x ∧ x < n ∧ 0 ≤ j ∧ 0 ≤ k ∧ (k < j ∨ now < k) ∧ r = 1000000003) ∨ (0 ≤ x ∧ x < n ∧ 0 ≤ j ∧ j ≤ k ∧ k ≤ now ∧ r = st)
theorem aOw_e {n now x j k st r r1 : Int} (h : aOw n now x j k st r) (g : aOw n now x j k st r1) : r = r1 := by
  unfold aOw at *
  omega
/-- a refusal of a sum, or nothing but scratch written -/
def rFr (v : Nat → Int32) (fa : Nat → Nat → Int32) (u : (Nat → Int32) × (Nat → Nat → Int32)) (r : Int32) (bad : Prop) : Prop := (bad ∧ ∃ c : Int32, c.toInt = 1000000000 - r.toInt ∧ sm1 v fa u c) ∨ (¬ bad ∧ u.2 0 = fa 0)
/-- agreements of a voyage below n -/
def ckC (V : Nat → Int) (x : Int) (n : Nat) : Int := smN (fun a => if V a = x then 1 else 0) n
/-- an agreement whose place in the row is wanting, or another sum -/
def ckD (V R O : Nat → Int) (x m : Int) (a : Nat) : Prop := V a = x ∧ (m ≤ ckC V x a ∨ R (ckC V x a).toNat ≠ O a)
def ckA (V R O : Nat → Int) (x m : Int) (n : Nat) (r : Int) : Prop := (∃ a, a < n ∧ ckD V R O x m a ∧ (∀ b, b < a → ¬ ckD V R O x m b) ∧ r = ckC V x a) ∨ ((∀ b, b < n → ¬ ckD V R O x m b) ∧ r = if ckC V x n < m then ckC V x n else -9)
section
variable {V R O : Nat → Int} {x m r r1 : Int} {n : Nat}
theorem ckA_u (h : ckA V R O x m n r) (g : ckA V R O x m n r1) : r = r1 := by
  rcases h with ⟨a, a1, a2, a3, a4⟩ | ⟨h1, h2⟩
  · rcases g with ⟨b, b1, b2, b3, b4⟩ | ⟨g1, g2⟩
    · have e : a = b := by
        rcases Nat.lt_trichotomy a b with q | q | q
        · exact absurd a2 (b3 a q)
        · exact q
        · exact absurd b2 (a3 b q)
      rw [a4, b4, e]
    · exact absurd a2 (g1 a a1)
  · rcases g with ⟨b, b1, b2, b3, b4⟩ | ⟨g1, g2⟩
    · exact absurd b2 (h1 b b1)
    · rw [h2, g2]
theorem ckC_0 {i y : Int32} (h : i.toInt = 0) (hy : y.toInt = 0) : y.toInt = ckC V x i.toNatClampNeg := by
  rw [show i.toNatClampNeg = 0 from (show i.toInt.toNat = 0 by omega), hy]
  rfl
theorem ckC_n {i i1 y y1 : Int32} (h : y.toInt = ckC V x i.toNatClampNeg) (e : i1.toInt = i.toInt + 1) (h0 : 0 ≤ i.toInt) (hy : (V i.toNatClampNeg = x ∧ y1.toInt = y.toInt + 1) ∨ (V i.toNatClampNeg ≠ x ∧ y1.toInt = y.toInt)) : y1.toInt = ckC V x i1.toNatClampNeg := by
  rw [show i1.toNatClampNeg = i.toNatClampNeg + 1 from (show i1.toInt.toNat = i.toInt.toNat + 1 by omega)]
  unfold ckC at *
  rw [smN_s]
  rcases hy with ⟨q, r⟩ | ⟨q, r⟩
  · rw [if_pos q]; omega
  · rw [if_neg q]; omega
/-- the agreement that is looked at: its place is right -/
theorem ckD_n {i y : Int32} (h : y.toInt = ckC V x i.toNatClampNeg) (hy : V i.toNatClampNeg ≠ x ∨ (y.toInt < m ∧ R y.toNatClampNeg = O i.toNatClampNeg)) : ¬ ckD V R O x m i.toNatClampNeg := by
  rintro ⟨q1, q2⟩
  rw [← h] at q2
  rcases hy with hy | ⟨hy, hz⟩
  · exact hy q1
  · rcases q2 with q2 | q2
    · omega
    · exact q2 hz
theorem ckD_y {i y : Int32} (h : y.toInt = ckC V x i.toNatClampNeg) (hx : V i.toNatClampNeg = x) (hy : m ≤ y.toInt ∨ R y.toNatClampNeg ≠ O i.toNatClampNeg) : ckD V R O x m i.toNatClampNeg := by
  refine ⟨hx, ?_⟩
  rw [← h]
  exact hy
end
theorem ck_e {V R O : Nat → Int} {n now x j k m r r1 : Int} {N : Nat} (h : aSt n now x j k r r) (h2 : ¬ bSt n now x j k → ckA V R O x m N r) (g : aSt n now x j k r1 r1) (g2 : ¬ bSt n now x j k → ckA V R O x m N r1) : r = r1 := by
  by_cases c : bSt n now x j k
  · unfold bSt at c
    unfold aSt at h g
    omega
  · exact ckA_u (h2 c) (g2 c)
theorem owF_rd {v : Nat → Int32} {fa : Nat → Nat → Int32} {a : Nat} {j : Int32} {k : Int} : owF (upd v 62 0) fa a j k = owF v fa a j k := rfl
set_option maxHeartbeats 4000000 in
set_option maxRecDepth 100000 in
theorem c_X11_refuseFar_f (l : Launch) (dC : Nat → ClassId) (dI : Nat → Nat → Nat) (sz : Nat) (g0 : Nat) (pq : Nat → Nat) (cp : Nat → ClassId) (v : Nat → Int32) (fa : Nat → Nat → Int32) (gV : mV v) (gA : mA fa) (x1 : Int32) (hx1 : -6 ≤ x1.toInt ∧ x1.toInt ≤ 0) : Met l yX11_refuseFar wsX11_refuseFar ({ frames := 1, cells := 0, slots := 0, locals := 21 }) (va_Pc [.ref g0, .int x1] (pcW (dC, dI) (mT cp) (mW g0 pq cp v fa) sz)) (va_Qi (fun (r : Int32) (u : (Nat → Int32) × (Nat → Nat → Int32)) => mV u.1 ∧ mA u.2 ∧ mX [0] v fa u.1 u.2 ∧ (r.toInt = 1000000000 - x1.toInt ∧ sm1 v fa u x1)) (fun u t => va_P (dC, dI) vwCl (mW g0 pq cp u.1 u.2) t.heap ∧ va_K (dC, dI) vwCl (mT cp) t ∧ va_D (va_A (mW g0 pq cp v fa) sz) (mW g0 pq cp u.1 u.2)) (va_A (mW g0 pq cp v fa) sz)) 0 0 (va_A (mW g0 pq cp v fa) sz) := by
  refine Met.ofW (cc := cX11_refuseFar) (maxL := 2) (ret := (some .int)) (by decide) rfl ?_
  intro p e s m args below meth c s₁ B hml hv
  obtain ⟨rfl, hsz, hP, hK, hD0⟩ := hv
  have hx := B.exec
  have hb := B.bytes
  have hr := B.returns
  have hts := atoms_spec (ws := wsX11_refuseFar) B.pre
  have hown : s.vm.findClass RX11 = some m.cls := findClass_of_methodNamed B.named
  have hlocks := B.notSynchronized
  subst hsz
  have hD := hD0.self (sz := s.heap.size)
  generalize hAe : va_A (mW g0 pq cp v fa) s.heap.size = A at hD ⊢
  have hA : ∀ q : Nat, s.heap.size ≤ q → A q := fun q h => by rw [← hAe]; exact Or.inr h
  have hS : va_S A s.heap s.heap [] := va_S.rf
  have hP : va_P (dC, dI) vwCl (mW g0 pq cp v fa) s.heap := hP
  have hl := lv_entry ([.ref g0, .int x1]) (n := 2) (Nat.le_of_ble_eq_true rfl)
  rw [lg_entry_eq]
  generalize (lg_sl ([.ref g0, .int x1]) ++ List.replicate (2 - (lg_sl ([.ref g0, .int x1])).length) Slot.unset).toArray = ls at hl ⊢
  have hl : lv_has ls 2 [(0, .ref g0), (1, .int x1)] := hl
  refine lv_ldc (v := 1000000000) hx hb hown (hts (.constant RX11 152 (1000000000)) (by decide +kernel)) dX11_refuseFar_0 ?_
  refine lv_aload_n hx hb dX11_refuseFar_2 rfl (lv_at hl 0 rfl) ?_
  refine lv_iload_n hx hb dX11_refuseFar_3 rfl (lv_at hl 1 rfl) ?_
  have hFc := va_free (wc := (mW g0 pq cp v fa)) hD hS hA (List.range 48) rfl
  refine va_calli (va_runV (As := [.int x1]) (rest := [.int 1000000000]) ⟨hx, hb, hml, hown, hts⟩ (c_X11_refuse_f l dC dI s.heap.size g0 pq cp v fa x1 (by apply vp_in_iff.mpr; rw [ng_i (x := x1) rfl (by omega) (by omega)]; omega)) (cwV 1 hts gX11_refuseFar_X11_refuse rfl rfl rfl (by decide +kernel) ⟨(Nat.le_of_ble_eq_true rfl), (Nat.le_of_ble_eq_true rfl)⟩) (pr_V (r := (RX11, TX11, 63)) hP hK hD 0 11 rfl rfl) rfl rfl hl.1 rfl (lv_room (Nat.le_of_ble_eq_true rfl)) dX11_refuseFar_4 ⟨(Nat.le_of_ble_eq_true rfl), (Nat.le_of_ble_eq_true rfl)⟩) hS (fun q _ h => hFc q h) hFc (fun r_2 u t H locs ht hvm w_1 hB hz1 hk1 hS => ?_)
  obtain ⟨v_3, fa_4⟩ := u
  obtain ⟨hP1, hK1, hD1⟩ := hB
  rw [ht] at hP1
  have hP : va_P (dC, dI) vwCl (mW g0 pq cp v_3 fa_4) H := hP1
  have hD : va_D A (mW g0 pq cp v_3 fa_4) := hD1.weaken (fun _ _ _ h => hFc _ h)
  clear hP1 hK1 hD1 hk1 hz1 hvm ht hFc
  obtain ⟨err_2, hs1_5⟩ := w_1
  have hVv_3 : mV v_3 := sm0_V (sm1_0 hs1_5) gV
  have hAv_3 : mA fa_4 := sm0_A (sm1_0 hs1_5) gA
  have hRv_3 : mX [0] v fa v_3 fa_4 := mX.st mX.rf (mX.s0 (sm1_0 hs1_5)) (by decide)
  have erf9 : r_2.toInt = x1.toInt := congrArg Int32.toInt err_2
  refine lv_isub hx hb dX11_refuseFar_7 ?_
  refine lv_topi (fun x_6 ex_6 => ?_)
  have hx_6 : x_6.toInt = 1000000000 - r_2.toInt := (iv_to ex_6).trans (sb_i (by decide) rfl (by omega) (by omega))
  exact W.iret (v := x_6) hx hb hr (fun t ht hW => ⟨⟨x_6, (v_3, fa_4), rfl, ⟨hVv_3, hAv_3, hRv_3, ⟨by omega, by have q := hs1_5; (try rw [err_2] at q); exact q⟩⟩, ⟨by rw [ht]; exact hP, va_K.moved hW.alike hK, hD⟩⟩, hS.F ht⟩) hS.2.2 dX11_refuseFar_8
