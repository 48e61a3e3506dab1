

section
variable {v z z1 : Nat → Int32} {fa fz fy : Nat → Nat → Int32} {n M i i1 k r : Nat} {x y : Int32}
theorem frI_s (h : scr v fa z fz) : frI z fz = frI v fa := by
  funext m
  unfold frI gonI tldI
  rw [h.1 41 rfl, h.1 43 rfl, h.2 10 rfl, h.2 11 rfl, h.2 26 rfl, h.2 21 rfl, h.2 20 rfl]
theorem akP_s (h : scr v fa z fz) : akP fz = akP fa := by
  unfold akP
  rw [h.2 5 rfl]
/-- who may be hired -/
def cnd (v : Nat → Int32) (fa : Nat → Nat → Int32) (m : Nat) : Prop := akP fa m ∧ frI v fa (m : Int) = 1
/-- the first dozen of them, in order -/
def SP (v : Nat → Int32) (fa : Nat → Nat → Int32) (s : Nat → Nat) (M : Nat) : Prop := (∀ j, j < M → cnd v fa (s j) ∧ cnN (cnd v fa) (s j) = (j : Int) ∧ s j < (v 39).toNatClampNeg) ∧ M ≤ 12 ∧ ((M : Int) = cnN (cnd v fa) (v 39).toNatClampNeg ∨ (M = 12 ∧ 12 ≤ cnN (cnd v fa) (v 39).toNatClampNeg))
theorem cnN_i (P : Nat → Prop) (m : Nat) : cnN P (m + 1) = cnN P m + b01 (P m) := rfl
theorem cnN_m {P : Nat → Prop} {a b : Nat} (h : a ≤ b) : cnN P a ≤ cnN P b := by
  induction b with
  | zero => rw [show a = 0 by omega]; exact Int.le_refl _
  | succ b ih =>
    by_cases c : a = b + 1
    · rw [c]; exact Int.le_refl _
    · have := ih (by omega)
      have q := b01_i (P b)
      rw [cnN_i]
      omega
theorem cnN_u {P : Nat → Prop} {a b : Nat} (ha : P a) (hb : P b) (e : cnN P a = cnN P b) : a = b := by
  have key : ∀ {a b : Nat}, P a → a < b → cnN P a < cnN P b := fun {a b} ha h => by
    have q := cnN_m (P := P) (show a + 1 ≤ b by omega)
    rw [cnN_i, b01_t ha] at q
    omega
  rcases Nat.lt_trichotomy a b with h | h | h
  · have := key ha h
    omega
  · exact h
  · have := key hb h
    omega
theorem SP_u {s s2 : Nat → Nat} {M2 : Nat} (h : SP v fa s M) (g : SP v fa s2 M2) : M = M2 ∧ ∀ j, j < M → s j = s2 j := by
  have e : M = M2 := by
    have := h.2
    have := g.2
    omega
  subst e
  exact ⟨rfl, fun j hj => cnN_u (h.1 j hj).1 (g.1 j hj).1 ((h.1 j hj).2.1.trans (g.1 j hj).2.1.symm)⟩
/-- on the way -/
def SPi (v : Nat → Int32) (fa : Nat → Nat → Int32) (s : Nat → Nat) (c : Int) (i : Nat) : Prop := (c = cnN (cnd v fa) i ∨ (c = 12 ∧ 12 ≤ cnN (cnd v fa) i)) ∧ 0 ≤ c ∧ c ≤ 12 ∧ ∀ j : Nat, (j : Int) < c → cnd v fa (s j) ∧ cnN (cnd v fa) (s j) = (j : Int) ∧ s j < i
theorem SPi_0 {s : Nat → Nat} {c : Int} (hc : c = 0) (hi : i = 0) : SPi v fa s c i := by
  rw [hc, hi]
  exact ⟨Or.inl rfl, by omega, by omega, fun j hj => by omega⟩
theorem SPi_n {s : Nat → Nat} {c : Int} (h : SPi v fa s c i) (hn : ¬ cnd v fa i) (e : i1 = i + 1) : SPi v fa s c i1 := by
  obtain ⟨h1, h2, h3, h4⟩ := h
  have q : cnN (cnd v fa) (i + 1) = cnN (cnd v fa) i := by rw [cnN_i, b01_f hn]; omega
  rw [e]
  exact ⟨by rw [q]; exact h1, h2, h3, fun j hj => ⟨(h4 j hj).1, (h4 j hj).2.1, Nat.lt_succ_of_lt (h4 j hj).2.2⟩⟩
theorem SPi_12 {s : Nat → Nat} {c : Int} (h : SPi v fa s c i) (hc : c = 12) (e : i1 = i + 1) : SPi v fa s c i1 := by
  obtain ⟨h1, h2, h3, h4⟩ := h
  have q := cnN_m (P := cnd v fa) (show i ≤ i + 1 by omega)
  rw [e]
  exact ⟨Or.inr ⟨hc, by omega⟩, h2, h3, fun j hj => ⟨(h4 j hj).1, (h4 j hj).2.1, Nat.lt_succ_of_lt (h4 j hj).2.2⟩⟩
theorem SPi_y {s s2 : Nat → Nat} {c c1 : Int} (h : SPi v fa s c i) (hc : cnd v fa i) (hl : c < 12) (ec : c1 = c + 1) (es : ∀ j : Nat, s2 j = if (j : Int) = c then i else s j) (e : i1 = i + 1) : SPi v fa s2 c1 i1 := by
  obtain ⟨h1, h2, h3, h4⟩ := h
  have q : cnN (cnd v fa) (i + 1) = cnN (cnd v fa) i + 1 := by rw [cnN_i, b01_t hc]
  rw [e, ec]
  refine ⟨Or.inl (by omega), by omega, by omega, fun j hj => ?_⟩
  rw [es j]
  by_cases d : (j : Int) = c
  · rw [if_pos d]
    exact ⟨hc, by omega, Nat.lt_succ_self i⟩
  · rw [if_neg d]
    have g := h4 j (by omega)
    exact ⟨g.1, g.2.1, Nat.lt_succ_of_lt g.2.2⟩
theorem SPi_e {s : Nat → Nat} {c : Int} (h : SPi v fa s c i) (hi : i ≤ (v 39).toNatClampNeg) (he : i = (v 39).toNatClampNeg ∨ c = 12) (hM : (M : Int) = c) : SP v fa s M := by
  obtain ⟨h1, h2, h3, h4⟩ := h
  have q := cnN_m (P := cnd v fa) hi
  refine ⟨fun j hj => ?_, by omega, ?_⟩
  · have g := h4 j (by omega)
    exact ⟨g.1, g.2.1, by omega⟩
  · rcases he with he | he
    · rw [← he]
      omega
    · omega
/-- the some of the reference -/
def csS (fa : Nat → Nat → Int32) : Nat → Nat := fun j => (fa 54 j).toNatClampNeg
theorem csS_y {c : Int} (ef : fy = upF fz 54 x.toNatClampNeg y) (hx : x.toInt = c) (h0 : 0 ≤ x.toInt) (hy : y.toNatClampNeg = i) : ∀ j : Nat, csS fy j = if (j : Int) = c then i else csS fz j := fun j => by
  rw [ef]
  unfold csS
  rw [show upF fz 54 x.toNatClampNeg y 54 = upd (fz 54) x.toNatClampNeg y from if_pos rfl]
  by_cases d : (j : Int) = c
  · rw [if_pos d, show j = x.toNatClampNeg from (show j = x.toInt.toNat by omega), upd_eq]
    exact hy
  · rw [if_neg d, upd_ne (fun e => d (by have q : x.toNatClampNeg = x.toInt.toNat := rfl; omega))]
theorem csS_u {k j : Nat} (hk : 54 ≠ k) : csS (upF fz k j x) = csS fz := by
  unfold csS
  rw [show upF fz k j x 54 = fz 54 from if_neg hk]
/-- the hands' ranks, laid out as far as this -/
def fpx (n r : Nat) : Nat := if r < 4 then fpl n r else hnd n
def HKi (n c : Nat) (fz : Nat → Nat → Int32) : Prop := ∀ p, p < c → (fz 55 p).toInt = rkp n p
theorem fpx_s (hr : r < 4) : fpx n (r + 1) = fpx n r + dg n r := by
  unfold fpx
  have v := fpl_v n
  rcases r4 hr with rfl | rfl | rfl | rfl
  · rw [if_pos (by decide), if_pos (by decide), v.1, v.2.1]; omega
  · rw [if_pos (by decide), if_pos (by decide), v.2.1, v.2.2.1]
  · rw [if_pos (by decide), if_pos (by decide), v.2.2.1, v.2.2.2.1]
  · rw [if_neg (by decide), if_pos (by decide), v.2.2.2.1, v.2.2.2.2]
theorem fpx_8 (hr : r < 4) : fpx n r + dg n r ≤ 8 := by
  have h0 := dg_le (c := n) (r := 0)
  have h1 := dg_le (c := n) (r := 1)
  have h2 := dg_le (c := n) (r := 2)
  have h3 := dg_le (c := n) (r := 3)
  have v := fpl_v n
  unfold fpx
  rw [if_pos hr]
  rcases r4 hr with rfl | rfl | rfl | rfl <;> omega
theorem HKi_0 : HKi n 0 fz := fun p hp => absurd hp (Nat.not_lt_zero p)
theorem HKi_s {c c1 : Nat} (h : HKi n c fz) (ef : fy = upF fz 55 x.toNatClampNeg y) (hx : x.toNatClampNeg = c) (hr : r < 4) (hk : k < dg n r) (hc : c = fpx n r + k) (hy : y.toInt = (r : Int)) (e1 : c1 = c + 1) : HKi n c1 fy := fun p hp => by
  have e : fpx n r = fpl n r := if_pos hr
  rw [ef, show upF fz 55 x.toNatClampNeg y 55 = upd (fz 55) x.toNatClampNeg y from if_pos rfl, hx]
  by_cases d : p = c
  · rw [d, upd_eq, hy, hc, e, (pl_1 hr hk).2]
  · rw [upd_ne d]
    exact h p (by omega)
theorem HKi_c {c c1 : Nat} (h : HKi n c fz) (e : c1 = c) : HKi n c1 fz := by rw [e]; exact h
theorem dgr {c r : Nat} {a b : Int} (ha : a = ((c / 3 ^ r : Nat) : Int)) (hb : b = a % 3) : b = (dg c r : Int) := by
  rw [hb, ha]
  unfold dg
  omega
theorem dvr {c r r1 : Nat} {a b : Int} (ha : a = ((c / 3 ^ r : Nat) : Int)) (hb : b = a / 3) (e : r1 = r + 1) : b = ((c / 3 ^ r1 : Nat) : Int) := by
  rw [hb, ha, e, Nat.pow_succ, ← Nat.div_div_eq_div_mul]
  omega
/-- CREW, where it isn't refused -/
def crW (fa : Nat → Nat → Int32) (s : Nat → Nat) : Nat → Nat → Int := fun i r => (fa 5 (4 * s i + r)).toInt
def crF (v : Nat → Int32) (fa : Nat → Nat → Int32) (n : Nat) (w r : Int) : Prop := ∃ s M L b, SP v fa s M ∧ RS n M (crW fa s) 0 1 L b ∧ ((w = 0 ∧ r = L) ∨ (1 ≤ w ∧ ((L = -9 ∨ (hnd n : Int) < w) ∧ r = -9)) ∨ (1 ≤ w ∧ 0 ≤ L ∧ w ≤ (hnd n : Int) ∧ r = (s (b (w - 1).toNat) : Int)))
end
theorem RS_L {n M h T : Nat} {W : Nat → Nat → Int} {L : Int} {b : Nat → Nat} (g : RS n M W h T L b) : L = -9 ∨ 0 ≤ L := by
  rcases g with g | g
  · exact Or.inl g.1
  · exact Or.inr g.1
set_option maxHeartbeats 4000000 in
set_option maxRecDepth 100000 in
theorem c_X11_crew_w (l : Launch) (dC : Nat → ClassId) (dI : Nat → Nat → Nat) (sz : Nat) (g0 : Nat) (pq : Nat → Nat) (cp : Nat → ClassId) (v : Nat → Int32) (fa : Nat → Nat → Int32) (gV : mV v) (gA : mA fa) (x1 : Int32) (x2 : Int32) (hAk : asB fa) : Met l yX11_crew wsX11_crew ({ frames := 9, cells := 0, slots := 0, locals := 234 }) (va_Pc [.ref g0, .int x1, .int x2] (pcW (dC, dI) (mT cp) (mW g0 pq cp v fa) sz)) (va_Qi (fun (r : Int32) (u : (Nat → Int32) × (Nat → Nat → Int32)) => mV u.1 ∧ mA u.2 ∧ mX [0, 45, 47, 48, 49, 50, 51, 52, 53, 54, 55, 56, 57, 58, 59, 60] v fa u.1 u.2 ∧ ((crA x1.toInt x2.toInt r.toInt ∧ (¬ (crB x1.toInt x2.toInt) → crF v fa x1.toNatClampNeg x2.toInt r.toInt)) ∧ rZr v fa u r (crB x1.toInt x2.toInt))) (fun u t => va_P (dC, dI) vwCl (mW g0 pq cp u.1 u.2) t.heap ∧ va_K (dC, dI) vwCl (mT cp) t ∧ va_D (va_A (mW g0 pq cp v fa) sz) (mW g0 pq cp u.1 u.2)) (va_A (mW g0 pq cp v fa) sz)) 0 0 (va_A (mW g0 pq cp v fa) sz) := by
  refine Met.ofW (cc := cX11_crew) (maxL := 6) (ret := (some .int)) (by decide) rfl ?_
  intro p e s m args below meth c s₁ B hml hv
  obtain ⟨rfl, hsz, hP, hK, hD0⟩ := hv
  have hx := B.exec
  have hb := B.bytes
  have hr := B.returns
  have hts := atoms_spec (ws := wsX11_crew) B.pre
  have hown : s.vm.findClass RX11 = some m.cls := findClass_of_methodNamed B.named
  have hlocks := B.notSynchronized
  subst hsz
  have hD := hD0.self (sz := s.heap.size)
  generalize hAe : va_A (mW g0 pq cp v fa) s.heap.size = A at hD ⊢
  have hA : ∀ q : Nat, s.heap.size ≤ q → A q := fun q h => by rw [← hAe]; exact Or.inr h
  have hS : va_S A s.heap s.heap [] := va_S.rf
  have hP : va_P (dC, dI) vwCl (mW g0 pq cp v fa) s.heap := hP
  have hl := lv_entry ([.ref g0, .int x1, .int x2]) (n := 6) (Nat.le_of_ble_eq_true rfl)
  rw [lg_entry_eq]
  generalize (lg_sl ([.ref g0, .int x1, .int x2]) ++ List.replicate (6 - (lg_sl ([.ref g0, .int x1, .int x2])).length) Slot.unset).toArray = ls at hl ⊢
  have hl : lv_has ls 6 [(0, .ref g0), (1, .int x1), (2, .int x2)] := hl
  have iv_1 : 0 ≤ (v 39).toInt ∧ (v 39).toInt ≤ 40 := gV 39
  have iv_2 : 0 ≤ (v 58).toInt ∧ (v 58).toInt ≤ 12 := gV 58
  have iv_3 : 0 ≤ (v 59).toInt ∧ (v 59).toInt ≤ 8 := gV 59
  refine lv_iload_n hx hb dX11_crew_0 rfl (lv_at hl 1 rfl) ?_
  refine lv_if_ge (tgt := 11) hx hb dX11_crew_1 (by decide) (fun c_4 => ?_) (fun c_4 => ?_)
  · have dc_4 := c_le (a := 0) (b := x1.toInt) (by decide) rfl c_4
    refine lv_iload_n hx hb dX11_crew_11 rfl (lv_at hl 1 rfl) ?_
    refine lv_bipush (v := 80) hx hb dX11_crew_12 (by decide) ?_
    refine lv_icmp_le (tgt := 24) hx hb dX11_crew_14 (by decide) (fun c_5 => ?_) (fun c_5 => ?_)
    · have dc_5 := c_le (a := x1.toInt) (b := 80) rfl (by decide) c_5
      refine lv_iload_n hx hb dX11_crew_24 rfl (lv_at hl 2 rfl) ?_
      refine lv_bipush (v := 9) hx hb dX11_crew_25 (by decide) ?_
      have hFc : ∀ q, va_A [] s.heap.size q → A q := pu_free hS hA
      have hPc := hP.sub (ws' := []) [] rfl
      have hDc := hD.sub (ws' := []) [] (by decide) rfl
      have hKc := hK.sub (tys' := []) [] rfl
      refine va_calli (va_runS (As := [.int x2, .int 9]) (rest := []) ⟨hx, hb, hml, hown, hts⟩ (c_X11_isIn l dC dI s.heap.size x2 9) (va_cwS 2 hts gX11_crew_X11_isIn rfl rfl rfl (by decide +kernel) ⟨(Nat.le_of_ble_eq_true rfl), (Nat.le_of_ble_eq_true rfl)⟩) (pr_S hPc hKc hDc) rfl rfl hl.1 rfl (lv_room (Nat.le_of_ble_eq_true rfl)) dX11_crew_27 ⟨(Nat.le_of_ble_eq_true rfl), (Nat.le_of_ble_eq_true rfl)⟩) hS (fun q _ h => hFc q h) hFc (fun r_7 u t H locs ht hvm w_6 hB hz1 hk1 hS => ?_)
      have hP := pu_keep hP hk1
      clear hk1 hz1 hvm hB ht hFc hPc hDc hKc
      have hbr_7 : 0 ≤ r_7.toInt ∧ r_7.toInt ≤ 1 := iv_of w_6 (isI_i _ _)
      refine lv_if_ne (tgt := 40) hx hb dX11_crew_30 (by decide) (fun c_8 => ?_) (fun c_8 => ?_)
      · have dc_8 := c_ne (a := r_7.toInt) (b := 0) rfl (by decide) c_8
        have hi_9 := isI_t w_6 (fun q => c_8 (Int32.toInt_inj.mp q))
        have khi_9 : (9 : Int32).toInt = 9 := by decide
        refine lv_aload_n hx hb dX11_crew_40 rfl (lv_at hl 0 rfl) ?_
        refine lv_iconst (v := 0) hx hb dX11_crew_41 (by decide) ?_
        refine va_put (D := (dC, dI)) (ci := 11) (v := .int 0) (ty := .int) (C := RX11) (T := TX11) (N := 63) hx hb hts in_wsX11_crew_X11 tyX11 tyX11_ok nmX11 hown hK hP hD hS 0 rfl rfl 58 (by decide) (hts (.fieldLink RX11 344 "ShipOfficeModel" "someMany" "I") iw_X11_crew_1) (fun _ h9 => h9) rfl (by decide +kernel) rfl rfl (Nat.le_of_ble_eq_true rfl) dX11_crew_42 (fun H locs hP hD hS => ?_)
        have hP : va_P (dC, dI) vwCl (mW g0 pq cp (upd v 58 0) fa) H := hP
        have hD : va_D A (mW g0 pq cp (upd v 58 0) fa) := hD
        obtain ⟨z_10, ez_10⟩ : ∃ zq, zq = (upd v 58 0) := ⟨_, rfl⟩
        rw [← ez_10] at hP hD
        have hVz_10 : mV z_10 := by rw [ez_10]; exact mV_upd (lo := 0) (hi := 12) gV rfl rfl (by decide)
        have hRz_10 : mX [0, 45, 47, 48, 49, 50, 51, 52, 53, 54, 55, 56, 57, 58, 59, 60] v fa z_10 fa := by rw [ez_10]; exact mX.up mX.rf (by decide)
        have g_11 : (z_10 39).toInt = (v 39).toInt := by rw [ez_10]; exact congrArg Int32.toInt (if_neg (by decide))
        have g_12 : (z_10 58).toInt = 0 := by rw [ez_10, show upd v 58 0 58 = 0 from if_pos rfl]; decide
        have g_13 : (z_10 59).toInt = (v 59).toInt := by rw [ez_10]; exact congrArg Int32.toInt (if_neg (by decide))
        have g_14 : (z_10 60).toInt = (v 60).toInt := by rw [ez_10]; exact congrArg Int32.toInt (if_neg (by decide))
        have sc_15 : scr v fa z_10 fa := by rw [ez_10]; exact scr.up scr.rf rfl
        have cut_16 : ∀ (z_17 : Nat → Int32) (fz_18 : Nat → Nat → Int32) (H : Heap) (locs : List Loc) (ls : Array Slot), scr v fa z_17 fz_18 → SP v fa (csS fz_18) (z_17 58).toNatClampNeg → mV z_17 → mA fz_18 → mX [0, 45, 47, 48, 49, 50, 51, 52, 53, 54, 55, 56, 57, 58, 59, 60] v fa z_17 fz_18 → va_P (dC, dI) vwCl (mW g0 pq cp z_17 fz_18) H → va_D A (mW g0 pq cp z_17 fz_18) → va_S A s.heap H locs → lv_has ls 6 [(0, .ref g0), (1, .int x1), (2, .int x2)] → W p l e (headSpec wsX11_crew { frames := 9, cells := 0, slots := 0, locals := 234 }).room s m #[Value.ref g0, Value.int x1, Value.int x2] below meth c H locs 0 0 (MQ below (va_Qi (fun (r : Int32) (u : (Nat → Int32) × (Nat → Nat → Int32)) => mV u.1 ∧ mA u.2 ∧ mX [0, 45, 47, 48, 49, 50, 51, 52, 53, 54, 55, 56, 57, 58, 59, 60] v fa u.1 u.2 ∧ ((crA x1.toInt x2.toInt r.toInt ∧ (¬ (crB x1.toInt x2.toInt) → crF v fa x1.toNatClampNeg x2.toInt r.toInt)) ∧ rZr v fa u r (crB x1.toInt x2.toInt))) (fun u t => va_P (dC, dI) vwCl (mW g0 pq cp u.1 u.2) t.heap ∧ va_K (dC, dI) vwCl (mT cp) t ∧ va_D A (mW g0 pq cp u.1 u.2)) A) #[Value.ref g0, Value.int x1, Value.int x2] s 0 0 A) (F0 m 109 ls []) := by
          intro  z_17 fz_18 H locs ls hq0_cut_16 hq1_cut_16 hVz_17 hAz_17 hRz_17 hP hD hS hl
          have tn_19 : ((z_17 58).toNatClampNeg : Int) = (z_17 58).toInt := tn_i (hVz_17 58).1
          refine lv_aload_n hx hb dX11_crew_109 rfl (lv_at hl 0 rfl) ?_
          refine lv_iconst (v := 0) hx hb dX11_crew_110 (by decide) ?_
          refine va_put (D := (dC, dI)) (ci := 11) (v := .int 0) (ty := .int) (C := RX11) (T := TX11) (N := 63) hx hb hts in_wsX11_crew_X11 tyX11 tyX11_ok nmX11 hown hK hP hD hS 0 rfl rfl 59 (by decide) (hts (.fieldLink RX11 341 "ShipOfficeModel" "hands" "I") iw_X11_crew_2) (fun _ h9 => h9) rfl (by decide +kernel) rfl rfl (Nat.le_of_ble_eq_true rfl) dX11_crew_111 (fun H locs hP hD hS => ?_)
          have hP : va_P (dC, dI) vwCl (mW g0 pq cp (upd z_17 59 0) fz_18) H := hP
          have hD : va_D A (mW g0 pq cp (upd z_17 59 0) fz_18) := hD
          obtain ⟨z_20, ez_20⟩ : ∃ zq, zq = (upd z_17 59 0) := ⟨_, rfl⟩
          rw [← ez_20] at hP hD
          have hVz_20 : mV z_20 := by rw [ez_20]; exact mV_upd (lo := 0) (hi := 8) hVz_17 rfl rfl (by decide)
          have hRz_20 : mX [0, 45, 47, 48, 49, 50, 51, 52, 53, 54, 55, 56, 57, 58, 59, 60] v fa z_20 fz_18 := by rw [ez_20]; exact mX.up hRz_17 (by decide)
          have g_21 : (z_20 39).toInt = (z_17 39).toInt := by rw [ez_20]; exact congrArg Int32.toInt (if_neg (by decide))
          have g_22 : (z_20 58).toInt = (z_17 58).toInt := by rw [ez_20]; exact congrArg Int32.toInt (if_neg (by decide))
          have g_23 : (z_20 59).toInt = 0 := by rw [ez_20, show upd z_17 59 0 59 = 0 from if_pos rfl]; decide
          have g_24 : (z_20 60).toInt = (z_17 60).toInt := by rw [ez_20]; exact congrArg Int32.toInt (if_neg (by decide))
          have sc_25 : scr v fa z_20 fz_18 := by rw [ez_20]; exact scr.up hq0_cut_16 rfl
          have sp_26 : SP v fa (csS fz_18) (z_20 58).toNatClampNeg := by rw [ez_20]; exact hq1_cut_16
          refine lv_iload_n hx hb dX11_crew_114 rfl (lv_at hl 1 rfl) ?_
          refine lv_istore_n (lv' := [(3, .int x1), (0, .ref g0), (1, .int x1), (2, .int x2)]) hx hb dX11_crew_115 rfl hl (by decide) rfl (fun ls hl => ?_)
          refine lv_iconst (v := 0) hx hb dX11_crew_116 (by decide) ?_
          refine lv_istore (lv' := [(4, .int 0), (3, .int x1), (0, .ref g0), (1, .int x1), (2, .int x2)]) hx hb dX11_crew_117 hl (by decide) rfl (fun ls hl => ?_)
          have cut_27 : ∀ (n : Nat) (y_28 : Int32) (y_29 : Int32) (z_30 : Nat → Int32) (fz_31 : Nat → Nat → Int32) (H : Heap) (locs : List Loc) (ls : Array Slot), 4 - y_28.toInt ≤ (n : Int) → (0 ≤ y_28.toInt ∧ y_28.toInt ≤ 4) → (0 ≤ y_29.toInt ∧ y_29.toInt ≤ 80) → scr v fa z_30 fz_31 → SP v fa (csS fz_31) (z_30 58).toNatClampNeg → ((z_30 59).toInt = (fpx x1.toNatClampNeg y_28.toNatClampNeg : Int) ∧ HKi x1.toNatClampNeg (fpx x1.toNatClampNeg y_28.toNatClampNeg) fz_31 ∧ y_29.toInt = ((x1.toNatClampNeg / 3 ^ y_28.toNatClampNeg : Nat) : Int)) → mV z_30 → mA fz_31 → mX [0, 45, 47, 48, 49, 50, 51, 52, 53, 54, 55, 56, 57, 58, 59, 60] v fa z_30 fz_31 → va_P (dC, dI) vwCl (mW g0 pq cp z_30 fz_31) H → va_D A (mW g0 pq cp z_30 fz_31) → va_S A s.heap H locs → (z_30 39).toInt = (z_20 39).toInt → (z_30 58).toInt = (z_20 58).toInt → (z_30 60).toInt = (z_20 60).toInt → lv_has ls 6 [(4, .int y_28), (3, .int y_29), (0, .ref g0), (1, .int x1), (2, .int x2)] → W p l e (headSpec wsX11_crew { frames := 9, cells := 0, slots := 0, locals := 234 }).room s m #[Value.ref g0, Value.int x1, Value.int x2] below meth c H locs 0 0 (MQ below (va_Qi (fun (r : Int32) (u : (Nat → Int32) × (Nat → Nat → Int32)) => mV u.1 ∧ mA u.2 ∧ mX [0, 45, 47, 48, 49, 50, 51, 52, 53, 54, 55, 56, 57, 58, 59, 60] v fa u.1 u.2 ∧ ((crA x1.toInt x2.toInt r.toInt ∧ (¬ (crB x1.toInt x2.toInt) → crF v fa x1.toNatClampNeg x2.toInt r.toInt)) ∧ rZr v fa u r (crB x1.toInt x2.toInt))) (fun u t => va_P (dC, dI) vwCl (mW g0 pq cp u.1 u.2) t.heap ∧ va_K (dC, dI) vwCl (mT cp) t ∧ va_D A (mW g0 pq cp u.1 u.2)) A) #[Value.ref g0, Value.int x1, Value.int x2] s 0 0 A) (F0 m 119 ls []) := by
            intro n
            induction n using Nat.strongRecOn with
            | ind n ih =>
              intro y_28 y_29 z_30 fz_31 H locs ls hm hy_28 hy_29 hq0_cut_27 hq1_cut_27 hq2_cut_27 hVz_30 hAz_30 hRz_30 hP hD hS g_32 g_33 g_34 hl
              have tn_35 : ((y_28.toNatClampNeg : Nat) : Int) = y_28.toInt := tn_i (by omega)
              have tn_36 : ((y_29.toNatClampNeg : Nat) : Int) = y_29.toInt := tn_i (by omega)
              have tn_37 : ((z_30 58).toNatClampNeg : Int) = (z_30 58).toInt := tn_i (hVz_30 58).1
              refine lv_iload hx hb dX11_crew_119 (lv_at hl 0 rfl) ?_
              refine lv_iconst (v := 4) hx hb dX11_crew_121 (by decide) ?_
              refine lv_icmp_ge (tgt := 173) hx hb dX11_crew_122 (by decide) (fun c_38 => ?_) (fun c_38 => ?_)
              · have dc_38 := c_le (a := 4) (b := y_28.toInt) (by decide) rfl c_38
                have hk9 : HKi x1.toNatClampNeg (hnd x1.toNatClampNeg) fz_31 := HKi_c hq2_cut_27.2.1 (by rw [show hnd x1.toNatClampNeg = fpx x1.toNatClampNeg 4 from rfl, show y_28.toNatClampNeg = 4 from (show y_28.toInt.toNat = 4 by omega)])
                have he9 : (fpx x1.toNatClampNeg y_28.toNatClampNeg : Int) = (fpx x1.toNatClampNeg 4 : Int) := by rw [show y_28.toNatClampNeg = 4 from (show y_28.toInt.toNat = 4 by omega)]
                refine lv_aload_n hx hb dX11_crew_173 rfl (lv_at hl 2 rfl) ?_
                refine lv_bipush (v := (-9)) hx hb dX11_crew_174 (by decide) ?_
                refine va_put (D := (dC, dI)) (ci := 11) (v := .int (-9)) (ty := .int) (C := RX11) (T := TX11) (N := 63) hx hb hts in_wsX11_crew_X11 tyX11 tyX11_ok nmX11 hown hK hP hD hS 0 rfl rfl 60 (by decide) (hts (.fieldLink RX11 338 "ShipOfficeModel" "least" "I") iw_X11_crew_3) (fun _ h9 => h9) rfl (by decide +kernel) rfl rfl (Nat.le_of_ble_eq_true rfl) dX11_crew_176 (fun H locs hP hD hS => ?_)
                have hP : va_P (dC, dI) vwCl (mW g0 pq cp (upd z_30 60 (-9)) fz_31) H := hP
                have hD : va_D A (mW g0 pq cp (upd z_30 60 (-9)) fz_31) := hD
                obtain ⟨z_39, ez_39⟩ : ∃ zq, zq = (upd z_30 60 (-9)) := ⟨_, rfl⟩
                rw [← ez_39] at hP hD
                have hVz_39 : mV z_39 := by rw [ez_39]; exact mV_upd (lo := -2147483648) (hi := 2147483647) hVz_30 rfl rfl (iv_all _)
                have hRz_39 : mX [0, 45, 47, 48, 49, 50, 51, 52, 53, 54, 55, 56, 57, 58, 59, 60] v fa z_39 fz_31 := by rw [ez_39]; exact mX.up hRz_30 (by decide)
                have g_40 : (z_39 39).toInt = (z_30 39).toInt := by rw [ez_39]; exact congrArg Int32.toInt (if_neg (by decide))
                have g_41 : (z_39 58).toInt = (z_30 58).toInt := by rw [ez_39]; exact congrArg Int32.toInt (if_neg (by decide))
                have g_42 : (z_39 59).toInt = (z_30 59).toInt := by rw [ez_39]; exact congrArg Int32.toInt (if_neg (by decide))
                have g_43 : (z_39 60).toInt = (-9) := by rw [ez_39, show upd z_30 60 (-9) 60 = (-9) from if_pos rfl]; decide
                have sc_44 : scr v fa z_39 fz_31 := by rw [ez_39]; exact scr.up hq0_cut_27 rfl
                have sp_45 : SP v fa (csS fz_31) (z_39 58).toNatClampNeg := by rw [ez_39]; exact hq1_cut_27
                refine lv_aload_n hx hb dX11_crew_179 rfl (lv_at hl 2 rfl) ?_
                refine lv_iconst (v := 0) hx hb dX11_crew_180 (by decide) ?_
                refine lv_iconst (v := 0) hx hb dX11_crew_181 (by decide) ?_
                refine lv_iconst (v := 0) hx hb dX11_crew_182 (by decide) ?_
                have tn9 : ((z_39 58).toNatClampNeg : Int) = (z_39 58).toInt := tn_i (hVz_39 58).1
                have z09 : (0 : Int32).toInt = 0 := by decide
                have hCS9 : CS x1.toNatClampNeg (z_39 58).toNatClampNeg z_39 fz_31 := ⟨(by rw [show hnd x1.toNatClampNeg = fpx x1.toNatClampNeg 4 from rfl]; omega), (by omega), sp_45.2.1, (fun p hp => hk9 p hp), (by unfold asB; rw [sc_44.2 5 rfl]; exact hAk)⟩
                have hFc := va_free (wc := (mW g0 pq cp z_39 fz_31)) hD hS hA (List.range 48) rfl
                refine va_callv (va_runV (As := [.int 0, .int 0, .int 0]) (rest := []) ⟨hx, hb, hml, hown, hts⟩ (c_X11_chooses_0w l dC dI H.size g0 pq cp z_39 fz_31 hVz_39 hAz_30 0 (by decide) 0 0 (by decide) (by omega) x1.toNatClampNeg (z_39 58).toNatClampNeg hCS9 ⟨fun p hp => absurd hp (Nat.not_lt_zero p), fun p _ hp => absurd hp (Nat.not_lt_zero p), fun p hp => absurd hp (Nat.not_lt_zero _)⟩ (show (0 : Int32).toInt = (0 : Int) from by decide) (fun y h0 h1 => ⟨fun q => absurd q (ub_0 h0 h1), fun ⟨p, hp, _⟩ => absurd hp (Nat.not_lt_zero p)⟩) (RS_0 (by omega))) (cwV 3 hts gX11_crew_X11_chooses rfl rfl rfl (by decide +kernel) ⟨(Nat.le_of_ble_eq_true rfl), (Nat.le_of_ble_eq_true rfl)⟩) (pr_V (r := (RX11, TX11, 63)) hP hK hD 0 11 rfl rfl) rfl rfl hl.1 rfl (lv_room (Nat.le_of_ble_eq_true rfl)) dX11_crew_183 ⟨(Nat.le_of_ble_eq_true rfl), (Nat.le_of_ble_eq_true rfl)⟩) hS (fun q _ h => hFc q h) hFc (fun u t H locs ht hvm w_46 hB hz1 hk1 hS => ?_)
                obtain ⟨v_48, fa_49⟩ := u
                obtain ⟨hP1, hK1, hD1⟩ := hB
                rw [ht] at hP1
                have hP : va_P (dC, dI) vwCl (mW g0 pq cp v_48 fa_49) H := hP1
                have hD : va_D A (mW g0 pq cp v_48 fa_49) := hD1.weaken (fun _ _ _ h => hFc _ h)
                clear hP1 hK1 hD1 hk1 hz1 hvm ht hFc
                obtain ⟨hV_50, hA_51, hR_52, hx_53⟩ := w_46
                dsimp only at hV_50 hA_51 hR_52 hx_53
                have g_54 : (v_48 39).toInt = (z_39 39).toInt := congrArg Int32.toInt (hR_52.1 39 rfl)
                have R_55 : mX [0, 45, 47, 48, 49, 50, 51, 52, 53, 54, 55, 56, 57, 58, 59, 60] v fa v_48 fa_49 := mX.st hRz_39 (mX.scr hR_52) (by decide)
                have sc_56 := scr.tr sc_44 hR_52
                have q0_57 : fa_49 0 = fa 0 := (hR_52.2 0 rfl).trans (sc_44.2 0 rfl)
                obtain ⟨ch1, ch2, ch3⟩ := hx_53
                have gh9 := congrArg Int32.toInt ch1.1
                have gs9 : csS fa_49 = csS fz_31 := by unfold csS; rw [ch1.2.2.2.1]
                refine lv_iload_n hx hb dX11_crew_186 rfl (lv_at hl 4 rfl) ?_
                refine lv_if_ne (tgt := 195) hx hb dX11_crew_187 (by decide) (fun c_58 => ?_) (fun c_58 => ?_)
                · have dc_58 := c_ne (a := x2.toInt) (b := 0) rfl (by decide) c_58
                  refine lv_aload_n hx hb dX11_crew_195 rfl (lv_at hl 2 rfl) ?_
                  refine va_get (D := (dC, dI)) (ci := 11) (v := .int (v_48 60)) (C := RX11) (T := TX11) (N := 63) hx hb hts in_wsX11_crew_X11 hown hK hP 0 rfl rfl 60 (by decide) (hts (.fieldLink RX11 338 "ShipOfficeModel" "least" "I") iw_X11_crew_3) (fun _ h9 => h9) rfl dX11_crew_196 ?_
                  refine lv_topi (fun x_59 ex_59 => ?_)
                  have gx_59 : x_59.toInt = (v_48 60).toInt := iv_to ex_59
                  clear ex_59
                  refine lv_if_lt (tgt := 210) hx hb dX11_crew_199 (by decide) (fun c_60 => ?_) (fun c_60 => ?_)
                  · have dc_60 := c_lt (a := x_59.toInt) (b := 0) rfl (by decide) c_60
                    refine lv_bipush (v := (-9)) hx hb dX11_crew_210 (by decide) ?_
                    refine lv_goto (tgt := 228) hx hb dX11_crew_212 (by decide) ?_
                    exact W.iret (v := (-9)) hx hb hr (fun t ht hW => ⟨⟨(-9), (v_48, fa_49), rfl, ⟨hV_50, hA_51, R_55, ⟨⟨by have rc : ((-9) : Int32).toInt = -9 := (by decide); unfold crA; omega, fun _ => (by have ch9 : (v_48 60).toInt = -9 ∨ 0 ≤ (v_48 60).toInt := RS_L ch3; have hh9 : ((hnd x1.toNatClampNeg : Nat) : Int) = (z_39 59).toInt := hCS9.1.symm; exact ⟨csS fz_31, (z_39 58).toNatClampNeg, (v_48 60).toInt, csB fa_49, sp_45, (by have q : crW fa (csS fz_31) = csW fz_31 := (by unfold crW csW csS; rw [sc_44.2 5 rfl]); rw [q]; exact ch3), Or.inr (Or.inl ⟨by omega, by omega, by decide⟩)⟩)⟩, (Or.inr ⟨by have rc : ((-9) : Int32).toInt = -9 := (by decide); unfold crB; omega, (by first | exact q0_57 | (dsimp only; exact q0_57))⟩)⟩⟩, ⟨by rw [ht]; exact hP, va_K.moved hW.alike hK, hD⟩⟩, hS.F ht⟩) hS.2.2 dX11_crew_228
                  · have dc_60 := c_nlt (a := x_59.toInt) (b := 0) rfl (by decide) c_60
                    refine lv_iload_n hx hb dX11_crew_202 rfl (lv_at hl 4 rfl) ?_
                    refine lv_aload_n hx hb dX11_crew_203 rfl (lv_at hl 2 rfl) ?_
                    refine va_get (D := (dC, dI)) (ci := 11) (v := .int (v_48 59)) (C := RX11) (T := TX11) (N := 63) hx hb hts in_wsX11_crew_X11 hown hK hP 0 rfl rfl 59 (by decide) (hts (.fieldLink RX11 341 "ShipOfficeModel" "hands" "I") iw_X11_crew_2) (fun _ h9 => h9) rfl dX11_crew_204 ?_
                    refine lv_topi (fun x_61 ex_61 => ?_)
                    have hx_61 : 0 ≤ x_61.toInt ∧ x_61.toInt ≤ 8 := iv_of ex_61 (hV_50 59)
                    have gx_61 : x_61.toInt = (v_48 59).toInt := iv_to ex_61
                    clear ex_61
                    refine lv_icmp_le (tgt := 215) hx hb dX11_crew_207 (by decide) (fun c_62 => ?_) (fun c_62 => ?_)
                    · have dc_62 := c_le (a := x2.toInt) (b := x_61.toInt) rfl rfl c_62
                      refine lv_aload_n hx hb dX11_crew_215 rfl (lv_at hl 2 rfl) ?_
                      refine va_get (D := (dC, dI)) (ci := 11) (v := .ref (pq 54)) (C := RX11) (T := TX11) (N := 63) hx hb hts in_wsX11_crew_X11 hown hK hP 0 rfl rfl 54 (by decide) (hts (.fieldLink RX11 137 "ShipOfficeModel" "some" "[I") iw_X11_crew_4) (fun _ h9 => h9) rfl dX11_crew_216 ?_
                      refine lv_aload_n hx hb dX11_crew_219 rfl (lv_at hl 2 rfl) ?_
                      refine va_get (D := (dC, dI)) (ci := 11) (v := .ref (pq 57)) (C := RX11) (T := TX11) (N := 63) hx hb hts in_wsX11_crew_X11 hown hK hP 0 rfl rfl 57 (by decide) (hts (.fieldLink RX11 146 "ShipOfficeModel" "best" "[I") iw_X11_crew_5) (fun _ h9 => h9) rfl dX11_crew_220 ?_
                      refine lv_iload_n hx hb dX11_crew_223 rfl (lv_at hl 4 rfl) ?_
                      refine lv_iconst (v := 1) hx hb dX11_crew_224 (by decide) ?_
                      refine lv_isub hx hb dX11_crew_225 ?_
                      refine lv_topi (fun x_63 ex_63 => ?_)
                      have hx_63 : x_63.toInt = x2.toInt - 1 := (iv_to ex_63).trans (sb_i rfl (by decide) (by omega) (by omega))
                      refine va_iald hx hb hK hP 46 45 rfl rfl (vp_in_iff.mpr (by omega)) dX11_crew_226 ?_
                      refine lv_topi (fun x_64 ex_64 => ?_)
                      have hx_64 : 0 ≤ x_64.toInt ∧ x_64.toInt ≤ 11 := iv_of ex_64 (hA_51 57 _)
                      have gx_64 : x_64.toInt = (fa_49 57 (x_63 : Int32).toNatClampNeg).toInt := iv_to ex_64
                      clear ex_64
                      refine va_iald hx hb hK hP 43 42 rfl rfl (vp_in_iff.mpr (by omega)) dX11_crew_227 ?_
                      refine lv_topi (fun x_65 ex_65 => ?_)
                      have hx_65 : 0 ≤ x_65.toInt ∧ x_65.toInt ≤ 39 := iv_of ex_65 (hA_51 54 _)
                      have gx_65 : x_65.toInt = (fa_49 54 (x_64 : Int32).toNatClampNeg).toInt := iv_to ex_65
                      clear ex_65
                      exact W.iret (v := x_65) hx hb hr (fun t ht hW => ⟨⟨x_65, (v_48, fa_49), rfl, ⟨hV_50, hA_51, R_55, ⟨⟨by unfold crA; omega, fun _ => (by have ch9 : (v_48 60).toInt = -9 ∨ 0 ≤ (v_48 60).toInt := RS_L ch3; have hh9 : ((hnd x1.toNatClampNeg : Nat) : Int) = (z_39 59).toInt := hCS9.1.symm; exact ⟨csS fz_31, (z_39 58).toNatClampNeg, (v_48 60).toInt, csB fa_49, sp_45, (by have q : crW fa (csS fz_31) = csW fz_31 := (by unfold crW csW csS; rw [sc_44.2 5 rfl]); rw [q]; exact ch3), Or.inr (Or.inr ⟨by omega, by omega, by omega, (by rw [show x_65.toInt = _ from gx_65, show (x_64 : Int32).toNatClampNeg = csB fa_49 (x2.toInt - 1).toNat from (by have q : x_64 = fa_49 57 (x_63 : Int32).toNatClampNeg := Int32.toInt_inj.mp gx_64; unfold csB; rw [q, show (x_63 : Int32).toNatClampNeg = (x2.toInt - 1).toNat from (show x_63.toInt.toNat = (x2.toInt - 1).toNat by omega)]), ← gs9]; exact (tn_i (by have q := hA_51 54 (csB fa_49 (x2.toInt - 1).toNat); exact q.1)).symm)⟩)⟩)⟩, (Or.inr ⟨by unfold crB; omega, (by first | exact q0_57 | (dsimp only; exact q0_57))⟩)⟩⟩, ⟨by rw [ht]; exact hP, va_K.moved hW.alike hK, hD⟩⟩, hS.F ht⟩) hS.2.2 dX11_crew_228
                    · have dc_62 := c_nle (a := x2.toInt) (b := x_61.toInt) rfl rfl c_62
                      refine lv_bipush (v := (-9)) hx hb dX11_crew_210 (by decide) ?_
                      refine lv_goto (tgt := 228) hx hb dX11_crew_212 (by decide) ?_
                      exact W.iret (v := (-9)) hx hb hr (fun t ht hW => ⟨⟨(-9), (v_48, fa_49), rfl, ⟨hV_50, hA_51, R_55, ⟨⟨by have rc : ((-9) : Int32).toInt = -9 := (by decide); unfold crA; omega, fun _ => (by have ch9 : (v_48 60).toInt = -9 ∨ 0 ≤ (v_48 60).toInt := RS_L ch3; have hh9 : ((hnd x1.toNatClampNeg : Nat) : Int) = (z_39 59).toInt := hCS9.1.symm; exact ⟨csS fz_31, (z_39 58).toNatClampNeg, (v_48 60).toInt, csB fa_49, sp_45, (by have q : crW fa (csS fz_31) = csW fz_31 := (by unfold crW csW csS; rw [sc_44.2 5 rfl]); rw [q]; exact ch3), Or.inr (Or.inl ⟨by omega, by omega, by decide⟩)⟩)⟩, (Or.inr ⟨by have rc : ((-9) : Int32).toInt = -9 := (by decide); unfold crB; omega, (by first | exact q0_57 | (dsimp only; exact q0_57))⟩)⟩⟩, ⟨by rw [ht]; exact hP, va_K.moved hW.alike hK, hD⟩⟩, hS.F ht⟩) hS.2.2 dX11_crew_228
                · have dc_58 := c_eq (a := x2.toInt) (b := 0) rfl (by decide) c_58
                  refine lv_aload_n hx hb dX11_crew_190 rfl (lv_at hl 2 rfl) ?_
                  refine va_get (D := (dC, dI)) (ci := 11) (v := .int (v_48 60)) (C := RX11) (T := TX11) (N := 63) hx hb hts in_wsX11_crew_X11 hown hK hP 0 rfl rfl 60 (by decide) (hts (.fieldLink RX11 338 "ShipOfficeModel" "least" "I") iw_X11_crew_3) (fun _ h9 => h9) rfl dX11_crew_191 ?_
                  refine lv_topi (fun x_66 ex_66 => ?_)
                  have gx_66 : x_66.toInt = (v_48 60).toInt := iv_to ex_66
                  clear ex_66
                  exact W.iret (v := x_66) hx hb hr (fun t ht hW => ⟨⟨x_66, (v_48, fa_49), rfl, ⟨hV_50, hA_51, R_55, ⟨⟨by unfold crA; omega, fun _ => (by have ch9 : (v_48 60).toInt = -9 ∨ 0 ≤ (v_48 60).toInt := RS_L ch3; have hh9 : ((hnd x1.toNatClampNeg : Nat) : Int) = (z_39 59).toInt := hCS9.1.symm; exact ⟨csS fz_31, (z_39 58).toNatClampNeg, (v_48 60).toInt, csB fa_49, sp_45, (by have q : crW fa (csS fz_31) = csW fz_31 := (by unfold crW csW csS; rw [sc_44.2 5 rfl]); rw [q]; exact ch3), Or.inl ⟨by omega, by omega⟩⟩)⟩, (Or.inr ⟨by unfold crB; omega, (by first | exact q0_57 | (dsimp only; exact q0_57))⟩)⟩⟩, ⟨by rw [ht]; exact hP, va_K.moved hW.alike hK, hD⟩⟩, hS.F ht⟩) hS.2.2 dX11_crew_194
              · have dc_38 := c_nle (a := 4) (b := y_28.toInt) (by decide) rfl c_38
                refine lv_iconst (v := 0) hx hb dX11_crew_125 (by decide) ?_
                refine lv_istore (lv' := [(5, .int 0), (4, .int y_28), (3, .int y_29), (0, .ref g0), (1, .int x1), (2, .int x2)]) hx hb dX11_crew_126 hl (by decide) rfl (fun ls hl => ?_)
                have cut_67 : ∀ (n2 : Nat) (y_68 : Int32) (z_69 : Nat → Int32) (fz_70 : Nat → Nat → Int32) (H : Heap) (locs : List Loc) (ls : Array Slot), 2 - y_68.toInt ≤ (n2 : Int) → (0 ≤ y_68.toInt ∧ y_68.toInt ≤ 2) → scr v fa z_69 fz_70 → SP v fa (csS fz_70) (z_69 58).toNatClampNeg → ((z_69 59).toInt = (fpx x1.toNatClampNeg y_28.toNatClampNeg : Int) + y_68.toInt ∧ HKi x1.toNatClampNeg (fpx x1.toNatClampNeg y_28.toNatClampNeg + y_68.toNatClampNeg) fz_70 ∧ y_68.toInt ≤ (dg x1.toNatClampNeg y_28.toNatClampNeg : Int)) → mV z_69 → mA fz_70 → mX [0, 45, 47, 48, 49, 50, 51, 52, 53, 54, 55, 56, 57, 58, 59, 60] v fa z_69 fz_70 → va_P (dC, dI) vwCl (mW g0 pq cp z_69 fz_70) H → va_D A (mW g0 pq cp z_69 fz_70) → va_S A s.heap H locs → (z_69 39).toInt = (z_30 39).toInt → (z_69 58).toInt = (z_30 58).toInt → (z_69 60).toInt = (z_30 60).toInt → lv_has ls 6 [(5, .int y_68), (4, .int y_28), (3, .int y_29), (0, .ref g0), (1, .int x1), (2, .int x2)] → W p l e (headSpec wsX11_crew { frames := 9, cells := 0, slots := 0, locals := 234 }).room s m #[Value.ref g0, Value.int x1, Value.int x2] below meth c H locs 0 0 (MQ below (va_Qi (fun (r : Int32) (u : (Nat → Int32) × (Nat → Nat → Int32)) => mV u.1 ∧ mA u.2 ∧ mX [0, 45, 47, 48, 49, 50, 51, 52, 53, 54, 55, 56, 57, 58, 59, 60] v fa u.1 u.2 ∧ ((crA x1.toInt x2.toInt r.toInt ∧ (¬ (crB x1.toInt x2.toInt) → crF v fa x1.toNatClampNeg x2.toInt r.toInt)) ∧ rZr v fa u r (crB x1.toInt x2.toInt))) (fun u t => va_P (dC, dI) vwCl (mW g0 pq cp u.1 u.2) t.heap ∧ va_K (dC, dI) vwCl (mT cp) t ∧ va_D A (mW g0 pq cp u.1 u.2)) A) #[Value.ref g0, Value.int x1, Value.int x2] s 0 0 A) (F0 m 128 ls []) := by
                  intro n2
                  induction n2 using Nat.strongRecOn with
                  | ind n2 ih2 =>
                    intro y_68 z_69 fz_70 H locs ls hm hy_68 hq0_cut_67 hq1_cut_67 hq2_cut_67 hVz_69 hAz_69 hRz_69 hP hD hS g_71 g_72 g_73 hl
                    have tn_74 : ((y_68.toNatClampNeg : Nat) : Int) = y_68.toInt := tn_i (by omega)
                    have tn_75 : ((z_69 58).toNatClampNeg : Int) = (z_69 58).toInt := tn_i (hVz_69 58).1
                    refine lv_iload hx hb dX11_crew_128 (lv_at hl 0 rfl) ?_
                    refine lv_iload_n hx hb dX11_crew_130 rfl (lv_at hl 2 rfl) ?_
                    refine lv_iconst (v := 3) hx hb dX11_crew_131 (by decide) ?_
                    refine lv_irem hx hb dX11_crew_132 (by decide) ?_
                    refine lv_topi (fun x_76 ex_76 => ?_)
                    have hx_76 : x_76.toInt = y_29.toInt % 3 := (iv_to ex_76).trans (rm_i (k := 3) rfl (by decide) (by omega) (by decide))
                    clear ex_76
                    have hd9 := dgr hq2_cut_27.2.2 hx_76
                    have hb8 := fpx_8 (n := x1.toNatClampNeg) (r := y_28.toNatClampNeg) (show y_28.toInt.toNat < 4 by omega)
                    refine lv_icmp_ge (tgt := 163) hx hb dX11_crew_133 (by decide) (fun c_77 => ?_) (fun c_77 => ?_)
                    · have dc_77 := c_le (a := x_76.toInt) (b := y_68.toInt) rfl rfl c_77
                      refine lv_iload_n hx hb dX11_crew_163 rfl (lv_at hl 2 rfl) ?_
                      refine lv_iconst (v := 3) hx hb dX11_crew_164 (by decide) ?_
                      refine lv_idiv hx hb dX11_crew_165 (by decide) ?_
                      refine lv_topi (fun x_78 ex_78 => ?_)
                      have hx_78 : x_78.toInt = y_29.toInt / 3 := (iv_to ex_78).trans (dv_i (k := 3) rfl (by decide) (by omega) (by decide))
                      clear ex_78
                      refine lv_istore_n (lv' := [(3, .int x_78), (5, .int y_68), (4, .int y_28), (0, .ref g0), (1, .int x1), (2, .int x2)]) hx hb dX11_crew_166 rfl hl (by decide) rfl (fun ls hl => ?_)
                      obtain ⟨x_79, ex_79⟩ : ∃ zq : Int32, y_28 + 1 = zq := ⟨_, rfl⟩
                      have hx_79 : x_79.toInt = y_28.toInt + 1 := (iv_to ex_79).symm.trans (ad_i rfl (by decide) (by omega) (by omega))
                      refine lv_iinc (v := x_79) (lv' := [(4, .int x_79), (3, .int x_78), (5, .int y_68), (0, .ref g0), (1, .int x1), (2, .int x2)]) hx hb dX11_crew_167 hl (k := 2) rfl ex_79 (by decide) rfl (fun ls hl => ?_)
                      clear ex_79
                      refine lv_goto (tgt := 119) hx hb dX11_crew_170 (by decide) ?_
                      exact ih (n - 1) (by omega) x_79 x_78 z_69 fz_70 _ _ ls (by omega) (by omega) (by omega) hq0_cut_67 hq1_cut_67 (by have hs9 := fpx_s (n := x1.toNatClampNeg) (r := y_28.toNatClampNeg) (show y_28.toInt.toNat < 4 by omega); rw [show x_79.toNatClampNeg = y_28.toNatClampNeg + 1 from (show x_79.toInt.toNat = y_28.toInt.toNat + 1 by omega), hs9]; exact ⟨by omega, HKi_c hq2_cut_67.2.1 (by omega), dvr hq2_cut_27.2.2 (by omega) rfl⟩) hVz_69 hAz_69 hRz_69 hP hD hS (by omega) (by omega) (by omega) (lv_sub hl [0, 1, 3, 4, 5] rfl)
                    · have dc_77 := c_nle (a := x_76.toInt) (b := y_68.toInt) rfl rfl c_77
                      refine lv_aload_n hx hb dX11_crew_136 rfl (lv_at hl 3 rfl) ?_
                      refine va_get (D := (dC, dI)) (ci := 11) (v := .ref (pq 55)) (C := RX11) (T := TX11) (N := 63) hx hb hts in_wsX11_crew_X11 hown hK hP 0 rfl rfl 55 (by decide) (hts (.fieldLink RX11 140 "ShipOfficeModel" "handRank" "[I") iw_X11_crew_6) (fun _ h9 => h9) rfl dX11_crew_137 ?_
                      refine lv_aload_n hx hb dX11_crew_140 rfl (lv_at hl 3 rfl) ?_
                      refine va_get (D := (dC, dI)) (ci := 11) (v := .int (z_69 59)) (C := RX11) (T := TX11) (N := 63) hx hb hts in_wsX11_crew_X11 hown hK hP 0 rfl rfl 59 (by decide) (hts (.fieldLink RX11 341 "ShipOfficeModel" "hands" "I") iw_X11_crew_2) (fun _ h9 => h9) rfl dX11_crew_141 ?_
                      refine lv_topi (fun x_80 ex_80 => ?_)
                      have hx_80 : 0 ≤ x_80.toInt ∧ x_80.toInt ≤ 8 := iv_of ex_80 (hVz_69 59)
                      have gx_80 : x_80.toInt = (z_69 59).toInt := iv_to ex_80
                      clear ex_80
                      refine lv_iload hx hb dX11_crew_144 (lv_at hl 1 rfl) ?_
                      refine va_iast hx hb hK hP hD hS 44 43 rfl rfl (vp_in_iff.mpr (by omega)) dX11_crew_146 (fun H locs hP hD hS => ?_)
                      have hP : va_P (dC, dI) vwCl (mW g0 pq cp z_69 (upF fz_70 55 (x_80 : Int32).toNatClampNeg y_28)) H := hP
                      have hD : va_D A (mW g0 pq cp z_69 (upF fz_70 55 (x_80 : Int32).toNatClampNeg y_28)) := hD
                      obtain ⟨fz_81, efz_81⟩ : ∃ zq, zq = (upF fz_70 55 (x_80 : Int32).toNatClampNeg y_28) := ⟨_, rfl⟩
                      rw [← efz_81] at hP hD
                      have hAfz_81 : mA fz_81 := by rw [efz_81]; exact mA_upF (lo := 0) (hi := 3) hAz_69 rfl rfl (by omega)
                      have hRfz_81 : mX [0, 45, 47, 48, 49, 50, 51, 52, 53, 54, 55, 56, 57, 58, 59, 60] v fa z_69 fz_81 := by rw [efz_81]; exact mX.uF hRz_69 (by decide)
                      have sc_82 : scr v fa z_69 fz_81 := by rw [efz_81]; exact scr.uF hq0_cut_67 rfl
                      have q0_83 : fz_81 0 = fa 0 := by rw [efz_81]; exact (if_neg (by decide)).trans (hq0_cut_67.2 0 rfl)
                      have sp_84 : SP v fa (csS fz_81) (z_69 58).toNatClampNeg := by rw [efz_81, csS_u (by decide)]; exact hq1_cut_67
                      refine lv_aload_n hx hb dX11_crew_147 rfl (lv_at hl 3 rfl) ?_
                      refine lv_dup hx hb dX11_crew_148 rfl ?_
                      refine va_get (D := (dC, dI)) (ci := 11) (v := .int (z_69 59)) (C := RX11) (T := TX11) (N := 63) hx hb hts in_wsX11_crew_X11 hown hK hP 0 rfl rfl 59 (by decide) (hts (.fieldLink RX11 341 "ShipOfficeModel" "hands" "I") iw_X11_crew_2) (fun _ h9 => h9) rfl dX11_crew_149 ?_
                      refine lv_topi (fun x_85 ex_85 => ?_)
                      have hx_85 : 0 ≤ x_85.toInt ∧ x_85.toInt ≤ 8 := iv_of ex_85 (hVz_69 59)
                      have gx_85 : x_85.toInt = (z_69 59).toInt := iv_to ex_85
                      clear ex_85
                      refine lv_iconst (v := 1) hx hb dX11_crew_152 (by decide) ?_
                      refine lv_iadd hx hb dX11_crew_153 ?_
                      refine lv_topi (fun x_86 ex_86 => ?_)
                      have hx_86 : x_86.toInt = x_85.toInt + 1 := (iv_to ex_86).trans (ad_i rfl (by decide) (by omega) (by omega))
                      refine va_put (D := (dC, dI)) (ci := 11) (v := .int x_86) (ty := .int) (C := RX11) (T := TX11) (N := 63) hx hb hts in_wsX11_crew_X11 tyX11 tyX11_ok nmX11 hown hK hP hD hS 0 rfl rfl 59 (by decide) (hts (.fieldLink RX11 341 "ShipOfficeModel" "hands" "I") iw_X11_crew_2) (fun _ h9 => h9) rfl (by decide +kernel) rfl rfl (Nat.le_of_ble_eq_true rfl) dX11_crew_154 (fun H locs hP hD hS => ?_)
                      have hP : va_P (dC, dI) vwCl (mW g0 pq cp (upd z_69 59 x_86) fz_81) H := hP
                      have hD : va_D A (mW g0 pq cp (upd z_69 59 x_86) fz_81) := hD
                      obtain ⟨z_87, ez_87⟩ : ∃ zq, zq = (upd z_69 59 x_86) := ⟨_, rfl⟩
                      rw [← ez_87] at hP hD
                      have hVz_87 : mV z_87 := by rw [ez_87]; exact mV_upd (lo := 0) (hi := 8) hVz_69 rfl rfl (by omega)
                      have hRz_87 : mX [0, 45, 47, 48, 49, 50, 51, 52, 53, 54, 55, 56, 57, 58, 59, 60] v fa z_87 fz_81 := by rw [ez_87]; exact mX.up hRfz_81 (by decide)
                      have g_88 : (z_87 39).toInt = (z_69 39).toInt := by rw [ez_87]; exact congrArg Int32.toInt (if_neg (by decide))
                      have g_89 : (z_87 58).toInt = (z_69 58).toInt := by rw [ez_87]; exact congrArg Int32.toInt (if_neg (by decide))
                      have g_90 : (z_87 59).toInt = x_86.toInt := by rw [ez_87, show upd z_69 59 x_86 59 = x_86 from if_pos rfl]
                      have g_91 : (z_87 60).toInt = (z_69 60).toInt := by rw [ez_87]; exact congrArg Int32.toInt (if_neg (by decide))
                      have sc_92 : scr v fa z_87 fz_81 := by rw [ez_87]; exact scr.up sc_82 rfl
                      have sp_93 : SP v fa (csS fz_81) (z_87 58).toNatClampNeg := by rw [ez_87]; exact sp_84
                      obtain ⟨x_94, ex_94⟩ : ∃ zq : Int32, y_68 + 1 = zq := ⟨_, rfl⟩
                      have hx_94 : x_94.toInt = y_68.toInt + 1 := (iv_to ex_94).symm.trans (ad_i rfl (by decide) (by omega) (by omega))
                      refine lv_iinc (v := x_94) (lv' := [(5, .int x_94), (4, .int y_28), (3, .int y_29), (0, .ref g0), (1, .int x1), (2, .int x2)]) hx hb dX11_crew_157 hl (k := 0) rfl ex_94 (by decide) rfl (fun ls hl => ?_)
                      clear ex_94
                      refine lv_goto (tgt := 128) hx hb dX11_crew_160 (by decide) ?_
                      exact ih2 (n2 - 1) (by omega) x_94 z_87 fz_81 _ _ ls (by omega) (by omega) sc_92 sp_93 (by have hd9 := dgr hq2_cut_27.2.2 hx_76; exact ⟨by omega, HKi_s hq2_cut_67.2.1 efz_81 (show x_80.toInt.toNat = fpx x1.toNatClampNeg y_28.toNatClampNeg + y_68.toNatClampNeg by omega) (show y_28.toInt.toNat < 4 by omega) (show y_68.toInt.toNat < dg x1.toNatClampNeg y_28.toNatClampNeg by omega) rfl (by omega) (show fpx x1.toNatClampNeg y_28.toNatClampNeg + x_94.toInt.toNat = fpx x1.toNatClampNeg y_28.toNatClampNeg + y_68.toInt.toNat + 1 by omega), by omega⟩) hVz_87 hAfz_81 hRz_87 hP hD hS (by omega) (by omega) (by omega) (lv_sub hl [0, 1, 2, 3, 4, 5] rfl)
                have kc_95 : (0 : Int32).toInt = 0 := by decide
                exact cut_67 3 0 z_30 fz_31 _ _ ls (by omega) (by decide) hq0_cut_27 hq1_cut_27 (by rw [show (0 : Int32).toNatClampNeg = 0 from by decide]; exact ⟨by omega, hq2_cut_27.2.1, by omega⟩) hVz_30 hAz_30 hRz_30 hP hD hS (by omega) (by omega) (by omega) (lv_sub hl [0, 1, 2, 3, 4, 5] rfl)
          have kc_96 : (0 : Int32).toInt = 0 := by decide
          exact cut_27 5 0 x1 z_20 fz_18 _ _ ls (by omega) (by decide) (by omega) sc_25 sp_26 (by rw [show (0 : Int32).toNatClampNeg = 0 from by decide]; exact ⟨(by rw [show fpx x1.toNatClampNeg 0 = 0 from rfl]; omega), HKi_0, (by rw [Nat.pow_zero, Nat.div_one]; exact (tn_i (by omega)).symm)⟩) hVz_20 hAz_17 hRz_20 hP hD hS (by omega) (by omega) (by omega) (lv_sub hl [0, 1, 2, 3, 4] rfl)
        refine lv_iconst (v := 0) hx hb dX11_crew_45 (by decide) ?_
        refine lv_istore_n (lv' := [(3, .int 0), (0, .ref g0), (1, .int x1), (2, .int x2)]) hx hb dX11_crew_46 rfl hl (by decide) rfl (fun ls hl => ?_)
        have cut_97 : ∀ (n : Nat) (y_98 : Int32) (z_99 : Nat → Int32) (fz_100 : Nat → Nat → Int32) (H : Heap) (locs : List Loc) (ls : Array Slot), 40 - y_98.toInt ≤ (n : Int) → (0 ≤ y_98.toInt ∧ y_98.toInt ≤ 40) → scr v fa z_99 fz_100 → SPi v fa (csS fz_100) (z_99 58).toInt y_98.toNatClampNeg → y_98.toInt ≤ (v 39).toInt → mV z_99 → mA fz_100 → mX [0, 45, 47, 48, 49, 50, 51, 52, 53, 54, 55, 56, 57, 58, 59, 60] v fa z_99 fz_100 → va_P (dC, dI) vwCl (mW g0 pq cp z_99 fz_100) H → va_D A (mW g0 pq cp z_99 fz_100) → va_S A s.heap H locs → (z_99 39).toInt = (z_10 39).toInt → (z_99 59).toInt = (z_10 59).toInt → (z_99 60).toInt = (z_10 60).toInt → lv_has ls 6 [(3, .int y_98), (0, .ref g0), (1, .int x1), (2, .int x2)] → W p l e (headSpec wsX11_crew { frames := 9, cells := 0, slots := 0, locals := 234 }).room s m #[Value.ref g0, Value.int x1, Value.int x2] below meth c H locs 0 0 (MQ below (va_Qi (fun (r : Int32) (u : (Nat → Int32) × (Nat → Nat → Int32)) => mV u.1 ∧ mA u.2 ∧ mX [0, 45, 47, 48, 49, 50, 51, 52, 53, 54, 55, 56, 57, 58, 59, 60] v fa u.1 u.2 ∧ ((crA x1.toInt x2.toInt r.toInt ∧ (¬ (crB x1.toInt x2.toInt) → crF v fa x1.toNatClampNeg x2.toInt r.toInt)) ∧ rZr v fa u r (crB x1.toInt x2.toInt))) (fun u t => va_P (dC, dI) vwCl (mW g0 pq cp u.1 u.2) t.heap ∧ va_K (dC, dI) vwCl (mT cp) t ∧ va_D A (mW g0 pq cp u.1 u.2)) A) #[Value.ref g0, Value.int x1, Value.int x2] s 0 0 A) (F0 m 47 ls []) := by
          intro n
          induction n using Nat.strongRecOn with
          | ind n ih =>
            intro y_98 z_99 fz_100 H locs ls hm hy_98 hq0_cut_97 hq1_cut_97 hq2_cut_97 hVz_99 hAz_99 hRz_99 hP hD hS g_101 g_102 g_103 hl
            have tn_104 : ((y_98.toNatClampNeg : Nat) : Int) = y_98.toInt := tn_i (by omega)
            refine lv_iload_n hx hb dX11_crew_47 rfl (lv_at hl 0 rfl) ?_
            refine lv_aload_n hx hb dX11_crew_48 rfl (lv_at hl 1 rfl) ?_
            refine va_get (D := (dC, dI)) (ci := 11) (v := .int (z_99 39)) (C := RX11) (T := TX11) (N := 63) hx hb hts in_wsX11_crew_X11 hown hK hP 0 rfl rfl 39 (by decide) (hts (.fieldLink RX11 157 "ShipOfficeModel" "men" "I") iw_X11_crew_7) (fun _ h9 => h9) rfl dX11_crew_49 ?_
            refine lv_topi (fun x_105 ex_105 => ?_)
            have hx_105 : 0 ≤ x_105.toInt ∧ x_105.toInt ≤ 40 := iv_of ex_105 (hVz_99 39)
            have gx_105 : x_105.toInt = (z_99 39).toInt := iv_to ex_105
            clear ex_105
            rw [show z_99 39 = v 39 from hq0_cut_97.1 39 rfl] at gx_105
            refine lv_icmp_ge (tgt := 109) hx hb dX11_crew_52 (by decide) (fun c_106 => ?_) (fun c_106 => ?_)
            · have dc_106 := c_le (a := x_105.toInt) (b := y_98.toInt) rfl rfl c_106
              exact cut_16  z_99 fz_100 _ _ ls hq0_cut_97 (SPi_e hq1_cut_97 (show y_98.toInt.toNat ≤ (v 39).toInt.toNat by omega) (by have q : y_98.toNatClampNeg = y_98.toInt.toNat := rfl; have q2 : (v 39).toNatClampNeg = (v 39).toInt.toNat := rfl; omega) (tn_i hq1_cut_97.2.1)) hVz_99 hAz_99 hRz_99 hP hD hS (lv_sub hl [1, 2, 3] rfl)
            · have dc_106 := c_nle (a := x_105.toInt) (b := y_98.toInt) rfl rfl c_106
              refine lv_aload_n hx hb dX11_crew_55 rfl (lv_at hl 1 rfl) ?_
              refine va_get (D := (dC, dI)) (ci := 11) (v := .int (z_99 58)) (C := RX11) (T := TX11) (N := 63) hx hb hts in_wsX11_crew_X11 hown hK hP 0 rfl rfl 58 (by decide) (hts (.fieldLink RX11 344 "ShipOfficeModel" "someMany" "I") iw_X11_crew_1) (fun _ h9 => h9) rfl dX11_crew_56 ?_
              refine lv_topi (fun x_107 ex_107 => ?_)
              have hx_107 : 0 ≤ x_107.toInt ∧ x_107.toInt ≤ 12 := iv_of ex_107 (hVz_99 58)
              have gx_107 : x_107.toInt = (z_99 58).toInt := iv_to ex_107
              clear ex_107
              refine lv_bipush (v := 12) hx hb dX11_crew_59 (by decide) ?_
              refine lv_icmp_ge (tgt := 109) hx hb dX11_crew_61 (by decide) (fun c_108 => ?_) (fun c_108 => ?_)
              · have dc_108 := c_le (a := 12) (b := x_107.toInt) (by decide) rfl c_108
                exact cut_16  z_99 fz_100 _ _ ls hq0_cut_97 (SPi_e hq1_cut_97 (show y_98.toInt.toNat ≤ (v 39).toInt.toNat by omega) (by have q : y_98.toNatClampNeg = y_98.toInt.toNat := rfl; have q2 : (v 39).toNatClampNeg = (v 39).toInt.toNat := rfl; omega) (tn_i hq1_cut_97.2.1)) hVz_99 hAz_99 hRz_99 hP hD hS (lv_sub hl [1, 2, 3] rfl)
              · have dc_108 := c_nle (a := 12) (b := x_107.toInt) (by decide) rfl c_108
                refine lv_aload_n hx hb dX11_crew_64 rfl (lv_at hl 1 rfl) ?_
                refine lv_iload_n hx hb dX11_crew_65 rfl (lv_at hl 0 rfl) ?_
                have hFc : ∀ q, va_A [] H.size q → A q := pu_free hS hA
                refine va_calli (va_runV (As := [.int y_98]) (rest := []) ⟨hx, hb, hml, hown, hts⟩ (c_X11_asksAny_f l dC dI H.size g0 pq cp z_99 fz_100 hVz_99 hAz_99 y_98 (by omega) (by unfold asB; rw [hq0_cut_97.2 5 rfl]; exact hAk)) (cwV 1 hts gX11_crew_X11_asksAny rfl rfl rfl (by decide +kernel) ⟨(Nat.le_of_ble_eq_true rfl), (Nat.le_of_ble_eq_true rfl)⟩) (pr_V (r := (RX11, TX11, 63)) hP hK hD 0 11 rfl rfl) rfl rfl hl.1 rfl (lv_room (Nat.le_of_ble_eq_true rfl)) dX11_crew_66 ⟨(Nat.le_of_ble_eq_true rfl), (Nat.le_of_ble_eq_true rfl)⟩) hS (fun q _ h => hFc q h) hFc (fun r_110 u t H locs ht hvm w_109 hB hz1 hk1 hS => ?_)
                have hP := pu_keep hP hk1
                clear hk1 hz1 hvm hB ht hFc
                obtain ⟨hb_111, hx_112⟩ := w_109
                rw [akP_s hq0_cut_97] at hx_112
                refine lv_if_eq (tgt := 103) hx hb dX11_crew_69 (by decide) (fun c_113 => ?_) (fun c_113 => ?_)
                · have dc_113 := c_eq (a := r_110.toInt) (b := 0) rfl (by decide) c_113
                  obtain ⟨x_114, ex_114⟩ : ∃ zq : Int32, y_98 + 1 = zq := ⟨_, rfl⟩
                  have hx_114 : x_114.toInt = y_98.toInt + 1 := (iv_to ex_114).symm.trans (ad_i rfl (by decide) (by omega) (by omega))
                  refine lv_iinc (v := x_114) (lv' := [(3, .int x_114), (0, .ref g0), (1, .int x1), (2, .int x2)]) hx hb dX11_crew_103 hl (k := 0) rfl ex_114 (by decide) rfl (fun ls hl => ?_)
                  clear ex_114
                  refine lv_goto (tgt := 47) hx hb dX11_crew_106 (by decide) ?_
                  exact ih (n - 1) (by omega) x_114 z_99 fz_100 _ _ ls (by omega) (by omega) hq0_cut_97 (SPi_n hq1_cut_97 (fun q => by have q1 := b01_t q.1; have q2 := q.2; omega) (show x_114.toInt.toNat = y_98.toInt.toNat + 1 by omega)) (by omega) hVz_99 hAz_99 hRz_99 hP hD hS (by omega) (by omega) (by omega) (lv_sub hl [0, 1, 2, 3] rfl)
                · have dc_113 := c_ne (a := r_110.toInt) (b := 0) rfl (by decide) c_113
                  refine lv_aload_n hx hb dX11_crew_72 rfl (lv_at hl 1 rfl) ?_
                  refine lv_iload_n hx hb dX11_crew_73 rfl (lv_at hl 0 rfl) ?_
                  have hFc : ∀ q, va_A [] H.size q → A q := pu_free hS hA
                  refine va_calli (va_runV (As := [.int y_98]) (rest := []) ⟨hx, hb, hml, hown, hts⟩ (c_X11_isFree_f l dC dI H.size g0 pq cp z_99 fz_100 hVz_99 hAz_99 y_98) (cwV 1 hts gX11_crew_X11_isFree rfl rfl rfl (by decide +kernel) ⟨(Nat.le_of_ble_eq_true rfl), (Nat.le_of_ble_eq_true rfl)⟩) (pr_V (r := (RX11, TX11, 63)) hP hK hD 0 11 rfl rfl) rfl rfl hl.1 rfl (lv_room (Nat.le_of_ble_eq_true rfl)) dX11_crew_74 ⟨(Nat.le_of_ble_eq_true rfl), (Nat.le_of_ble_eq_true rfl)⟩) hS (fun q _ h => hFc q h) hFc (fun r_116 u t H locs ht hvm w_115 hB hz1 hk1 hS => ?_)
                  have hP := pu_keep hP hk1
                  clear hk1 hz1 hvm hB ht hFc
                  obtain ⟨hb_117, hx_118⟩ := w_115
                  rw [frI_s hq0_cut_97, ← tn_i (x := y_98) (by omega)] at hx_118
                  refine lv_if_ne (tgt := 83) hx hb dX11_crew_77 (by decide) (fun c_119 => ?_) (fun c_119 => ?_)
                  · have dc_119 := c_ne (a := r_116.toInt) (b := 0) rfl (by decide) c_119
                    refine lv_aload_n hx hb dX11_crew_83 rfl (lv_at hl 1 rfl) ?_
                    refine va_get (D := (dC, dI)) (ci := 11) (v := .ref (pq 54)) (C := RX11) (T := TX11) (N := 63) hx hb hts in_wsX11_crew_X11 hown hK hP 0 rfl rfl 54 (by decide) (hts (.fieldLink RX11 137 "ShipOfficeModel" "some" "[I") iw_X11_crew_4) (fun _ h9 => h9) rfl dX11_crew_84 ?_
                    refine lv_aload_n hx hb dX11_crew_87 rfl (lv_at hl 1 rfl) ?_
                    refine va_get (D := (dC, dI)) (ci := 11) (v := .int (z_99 58)) (C := RX11) (T := TX11) (N := 63) hx hb hts in_wsX11_crew_X11 hown hK hP 0 rfl rfl 58 (by decide) (hts (.fieldLink RX11 344 "ShipOfficeModel" "someMany" "I") iw_X11_crew_1) (fun _ h9 => h9) rfl dX11_crew_88 ?_
                    refine lv_topi (fun x_120 ex_120 => ?_)
                    have hx_120 : 0 ≤ x_120.toInt ∧ x_120.toInt ≤ 12 := iv_of ex_120 (hVz_99 58)
                    have gx_120 : x_120.toInt = (z_99 58).toInt := iv_to ex_120
                    clear ex_120
                    refine lv_iload_n hx hb dX11_crew_91 rfl (lv_at hl 0 rfl) ?_
                    refine va_iast hx hb hK hP hD hS 43 42 rfl rfl (vp_in_iff.mpr (by omega)) dX11_crew_92 (fun H locs hP hD hS => ?_)
                    have hP : va_P (dC, dI) vwCl (mW g0 pq cp z_99 (upF fz_100 54 (x_120 : Int32).toNatClampNeg y_98)) H := hP
                    have hD : va_D A (mW g0 pq cp z_99 (upF fz_100 54 (x_120 : Int32).toNatClampNeg y_98)) := hD
                    obtain ⟨fz_121, efz_121⟩ : ∃ zq, zq = (upF fz_100 54 (x_120 : Int32).toNatClampNeg y_98) := ⟨_, rfl⟩
                    rw [← efz_121] at hP hD
                    have hAfz_121 : mA fz_121 := by rw [efz_121]; exact mA_upF (lo := 0) (hi := 39) hAz_99 rfl rfl (by omega)
                    have hRfz_121 : mX [0, 45, 47, 48, 49, 50, 51, 52, 53, 54, 55, 56, 57, 58, 59, 60] v fa z_99 fz_121 := by rw [efz_121]; exact mX.uF hRz_99 (by decide)
                    have sc_122 : scr v fa z_99 fz_121 := by rw [efz_121]; exact scr.uF hq0_cut_97 rfl
                    have q0_123 : fz_121 0 = fa 0 := by rw [efz_121]; exact (if_neg (by decide)).trans (hq0_cut_97.2 0 rfl)
                    refine lv_aload_n hx hb dX11_crew_93 rfl (lv_at hl 1 rfl) ?_
                    refine lv_dup hx hb dX11_crew_94 rfl ?_
                    refine va_get (D := (dC, dI)) (ci := 11) (v := .int (z_99 58)) (C := RX11) (T := TX11) (N := 63) hx hb hts in_wsX11_crew_X11 hown hK hP 0 rfl rfl 58 (by decide) (hts (.fieldLink RX11 344 "ShipOfficeModel" "someMany" "I") iw_X11_crew_1) (fun _ h9 => h9) rfl dX11_crew_95 ?_
                    refine lv_topi (fun x_124 ex_124 => ?_)
                    have hx_124 : 0 ≤ x_124.toInt ∧ x_124.toInt ≤ 12 := iv_of ex_124 (hVz_99 58)
                    have gx_124 : x_124.toInt = (z_99 58).toInt := iv_to ex_124
                    clear ex_124
                    refine lv_iconst (v := 1) hx hb dX11_crew_98 (by decide) ?_
                    refine lv_iadd hx hb dX11_crew_99 ?_
                    refine lv_topi (fun x_125 ex_125 => ?_)
                    have hx_125 : x_125.toInt = x_124.toInt + 1 := (iv_to ex_125).trans (ad_i rfl (by decide) (by omega) (by omega))
                    refine va_put (D := (dC, dI)) (ci := 11) (v := .int x_125) (ty := .int) (C := RX11) (T := TX11) (N := 63) hx hb hts in_wsX11_crew_X11 tyX11 tyX11_ok nmX11 hown hK hP hD hS 0 rfl rfl 58 (by decide) (hts (.fieldLink RX11 344 "ShipOfficeModel" "someMany" "I") iw_X11_crew_1) (fun _ h9 => h9) rfl (by decide +kernel) rfl rfl (Nat.le_of_ble_eq_true rfl) dX11_crew_100 (fun H locs hP hD hS => ?_)
                    have hP : va_P (dC, dI) vwCl (mW g0 pq cp (upd z_99 58 x_125) fz_121) H := hP
                    have hD : va_D A (mW g0 pq cp (upd z_99 58 x_125) fz_121) := hD
                    obtain ⟨z_126, ez_126⟩ : ∃ zq, zq = (upd z_99 58 x_125) := ⟨_, rfl⟩
                    rw [← ez_126] at hP hD
                    have hVz_126 : mV z_126 := by rw [ez_126]; exact mV_upd (lo := 0) (hi := 12) hVz_99 rfl rfl (by omega)
                    have hRz_126 : mX [0, 45, 47, 48, 49, 50, 51, 52, 53, 54, 55, 56, 57, 58, 59, 60] v fa z_126 fz_121 := by rw [ez_126]; exact mX.up hRfz_121 (by decide)
                    have g_127 : (z_126 39).toInt = (z_99 39).toInt := by rw [ez_126]; exact congrArg Int32.toInt (if_neg (by decide))
                    have g_128 : (z_126 58).toInt = x_125.toInt := by rw [ez_126, show upd z_99 58 x_125 58 = x_125 from if_pos rfl]
                    have g_129 : (z_126 59).toInt = (z_99 59).toInt := by rw [ez_126]; exact congrArg Int32.toInt (if_neg (by decide))
                    have g_130 : (z_126 60).toInt = (z_99 60).toInt := by rw [ez_126]; exact congrArg Int32.toInt (if_neg (by decide))
                    have sc_131 : scr v fa z_126 fz_121 := by rw [ez_126]; exact scr.up sc_122 rfl
                    obtain ⟨x_132, ex_132⟩ : ∃ zq : Int32, y_98 + 1 = zq := ⟨_, rfl⟩
                    have hx_132 : x_132.toInt = y_98.toInt + 1 := (iv_to ex_132).symm.trans (ad_i rfl (by decide) (by omega) (by omega))
                    refine lv_iinc (v := x_132) (lv' := [(3, .int x_132), (0, .ref g0), (1, .int x1), (2, .int x2)]) hx hb dX11_crew_103 hl (k := 0) rfl ex_132 (by decide) rfl (fun ls hl => ?_)
                    clear ex_132
                    refine lv_goto (tgt := 47) hx hb dX11_crew_106 (by decide) ?_
                    exact ih (n - 1) (by omega) x_132 z_126 fz_121 _ _ ls (by omega) (by omega) sc_131 (SPi_y hq1_cut_97 ⟨b01_1 (by omega), by omega⟩ (by omega) (by omega) (csS_y efz_121 (by omega) (by omega) rfl) (show x_132.toInt.toNat = y_98.toInt.toNat + 1 by omega)) (by omega) hVz_126 hAfz_121 hRz_126 hP hD hS (by omega) (by omega) (by omega) (lv_sub hl [0, 1, 2, 3] rfl)
                  · have dc_119 := c_eq (a := r_116.toInt) (b := 0) rfl (by decide) c_119
                    refine lv_goto (tgt := 103) hx hb dX11_crew_80 (by decide) ?_
                    obtain ⟨x_133, ex_133⟩ : ∃ zq : Int32, y_98 + 1 = zq := ⟨_, rfl⟩
                    have hx_133 : x_133.toInt = y_98.toInt + 1 := (iv_to ex_133).symm.trans (ad_i rfl (by decide) (by omega) (by omega))
                    refine lv_iinc (v := x_133) (lv' := [(3, .int x_133), (0, .ref g0), (1, .int x1), (2, .int x2)]) hx hb dX11_crew_103 hl (k := 0) rfl ex_133 (by decide) rfl (fun ls hl => ?_)
                    clear ex_133
                    refine lv_goto (tgt := 47) hx hb dX11_crew_106 (by decide) ?_
                    exact ih (n - 1) (by omega) x_133 z_99 fz_100 _ _ ls (by omega) (by omega) hq0_cut_97 (SPi_n hq1_cut_97 (fun q => by have q1 := b01_t q.1; have q2 := q.2; omega) (show x_133.toInt.toNat = y_98.toInt.toNat + 1 by omega)) (by omega) hVz_99 hAz_99 hRz_99 hP hD hS (by omega) (by omega) (by omega) (lv_sub hl [0, 1, 2, 3] rfl)
        have kc_134 : (0 : Int32).toInt = 0 := by decide
        exact cut_97 41 0 z_10 fa _ _ ls (by omega) (by decide) sc_15 (SPi_0 (by omega) (by decide)) (by have rc : (0 : Int32).toInt = 0 := (by decide); omega) hVz_10 gA hRz_10 hP hD hS (by omega) (by omega) (by omega) (lv_sub hl [0, 1, 2, 3] rfl)
      · have dc_8 := c_eq (a := r_7.toInt) (b := 0) rfl (by decide) c_8
        have hz_135 := isI_0 (w_6.symm.trans c_8)
        have kc_136 : (9 : Int32).toInt = 9 := by decide
        refine lv_aload_n hx hb dX11_crew_33 rfl (lv_at hl 0 rfl) ?_
        refine lv_bipush (v := (-2)) hx hb dX11_crew_34 (by decide) ?_
        have hFc := va_free (wc := (mW g0 pq cp v fa)) hD hS hA (List.range 48) rfl
        refine va_calli (va_runV (As := [.int (-2)]) (rest := []) ⟨hx, hb, hml, hown, hts⟩ (c_X11_refuse_f l dC dI H.size g0 pq cp v fa (-2) (by unfold vp_in; decide)) (cwV 1 hts gX11_crew_X11_refuse rfl rfl rfl (by decide +kernel) ⟨(Nat.le_of_ble_eq_true rfl), (Nat.le_of_ble_eq_true rfl)⟩) (pr_V (r := (RX11, TX11, 63)) hP hK hD 0 11 rfl rfl) rfl rfl hl.1 rfl (lv_room (Nat.le_of_ble_eq_true rfl)) dX11_crew_36 ⟨(Nat.le_of_ble_eq_true rfl), (Nat.le_of_ble_eq_true rfl)⟩) hS (fun q _ h => hFc q h) hFc (fun r_138 u t H locs ht hvm w_137 hB hz1 hk1 hS => ?_)
        obtain ⟨v_139, fa_140⟩ := u
        obtain ⟨hP1, hK1, hD1⟩ := hB
        rw [ht] at hP1
        have hP : va_P (dC, dI) vwCl (mW g0 pq cp v_139 fa_140) H := hP1
        have hD : va_D A (mW g0 pq cp v_139 fa_140) := hD1.weaken (fun _ _ _ h => hFc _ h)
        clear hP1 hK1 hD1 hk1 hz1 hvm ht hFc
        obtain ⟨rfl, hs1_141⟩ := w_137
        have hVv_139 : mV v_139 := sm0_V (sm1_0 hs1_141) gV
        have hAv_139 : mA fa_140 := sm0_A (sm1_0 hs1_141) gA
        have g_142 : (v_139 39).toInt = (v 39).toInt := congrArg Int32.toInt (congrFun hs1_141.1 39)
        have g_143 : (v_139 58).toInt = (v 58).toInt := congrArg Int32.toInt (congrFun hs1_141.1 58)
        have g_144 : (v_139 59).toInt = (v 59).toInt := congrArg Int32.toInt (congrFun hs1_141.1 59)
        have g_145 : (v_139 60).toInt = (v 60).toInt := congrArg Int32.toInt (congrFun hs1_141.1 60)
        have hRv_139 : mX [0, 45, 47, 48, 49, 50, 51, 52, 53, 54, 55, 56, 57, 58, 59, 60] v fa v_139 fa_140 := mX.st mX.rf (mX.s0 (sm1_0 hs1_141)) (by decide)
        exact W.iret (v := (-2)) hx hb hr (fun t ht hW => ⟨⟨(-2), (v_139, fa_140), rfl, ⟨hVv_139, hAv_139, hRv_139, ⟨⟨by have rc : ((-2) : Int32).toInt = -2 := (by decide); unfold crA; omega, fun q => absurd (by have rc : ((-2) : Int32).toInt = -2 := (by decide); unfold crB; omega) q⟩, (Or.inl ⟨by have rc : ((-2) : Int32).toInt = -2 := (by decide); unfold crB; omega, sm2_1 hs1_141⟩)⟩⟩, ⟨by rw [ht]; exact hP, va_K.moved hW.alike hK, hD⟩⟩, hS.F ht⟩) hS.2.2 dX11_crew_39
    · have dc_5 := c_nle (a := x1.toInt) (b := 80) rfl (by decide) c_5
      refine lv_aload_n hx hb dX11_crew_17 rfl (lv_at hl 0 rfl) ?_
      refine lv_bipush (v := (-6)) hx hb dX11_crew_18 (by decide) ?_
      have hFc := va_free (wc := (mW g0 pq cp v fa)) hD hS hA (List.range 48) rfl
      refine va_calli (va_runV (As := [.int (-6)]) (rest := []) ⟨hx, hb, hml, hown, hts⟩ (c_X11_refuse_f l dC dI s.heap.size g0 pq cp v fa (-6) (by unfold vp_in; decide)) (cwV 1 hts gX11_crew_X11_refuse rfl rfl rfl (by decide +kernel) ⟨(Nat.le_of_ble_eq_true rfl), (Nat.le_of_ble_eq_true rfl)⟩) (pr_V (r := (RX11, TX11, 63)) hP hK hD 0 11 rfl rfl) rfl rfl hl.1 rfl (lv_room (Nat.le_of_ble_eq_true rfl)) dX11_crew_20 ⟨(Nat.le_of_ble_eq_true rfl), (Nat.le_of_ble_eq_true rfl)⟩) hS (fun q _ h => hFc q h) hFc (fun r_147 u t H locs ht hvm w_146 hB hz1 hk1 hS => ?_)
      obtain ⟨v_148, fa_149⟩ := u
      obtain ⟨hP1, hK1, hD1⟩ := hB
      rw [ht] at hP1
      have hP : va_P (dC, dI) vwCl (mW g0 pq cp v_148 fa_149) H := hP1
      have hD : va_D A (mW g0 pq cp v_148 fa_149) := hD1.weaken (fun _ _ _ h => hFc _ h)
      clear hP1 hK1 hD1 hk1 hz1 hvm ht hFc
      obtain ⟨rfl, hs1_150⟩ := w_146
      have hVv_148 : mV v_148 := sm0_V (sm1_0 hs1_150) gV
      have hAv_148 : mA fa_149 := sm0_A (sm1_0 hs1_150) gA
      have g_151 : (v_148 39).toInt = (v 39).toInt := congrArg Int32.toInt (congrFun hs1_150.1 39)
      have g_152 : (v_148 58).toInt = (v 58).toInt := congrArg Int32.toInt (congrFun hs1_150.1 58)
      have g_153 : (v_148 59).toInt = (v 59).toInt := congrArg Int32.toInt (congrFun hs1_150.1 59)
      have g_154 : (v_148 60).toInt = (v 60).toInt := congrArg Int32.toInt (congrFun hs1_150.1 60)
      have hRv_148 : mX [0, 45, 47, 48, 49, 50, 51, 52, 53, 54, 55, 56, 57, 58, 59, 60] v fa v_148 fa_149 := mX.st mX.rf (mX.s0 (sm1_0 hs1_150)) (by decide)
      exact W.iret (v := (-6)) hx hb hr (fun t ht hW => ⟨⟨(-6), (v_148, fa_149), rfl, ⟨hVv_148, hAv_148, hRv_148, ⟨⟨by have rc : ((-6) : Int32).toInt = -6 := (by decide); unfold crA; omega, fun q => absurd (by have rc : ((-6) : Int32).toInt = -6 := (by decide); unfold crB; omega) q⟩, (Or.inl ⟨by have rc : ((-6) : Int32).toInt = -6 := (by decide); unfold crB; omega, sm2_1 hs1_150⟩)⟩⟩, ⟨by rw [ht]; exact hP, va_K.moved hW.alike hK, hD⟩⟩, hS.F ht⟩) hS.2.2 dX11_crew_23
  · have dc_4 := c_nle (a := 0) (b := x1.toInt) (by decide) rfl c_4
    refine lv_aload_n hx hb dX11_crew_4 rfl (lv_at hl 0 rfl) ?_
    refine lv_bipush (v := (-4)) hx hb dX11_crew_5 (by decide) ?_
    have hFc := va_free (wc := (mW g0 pq cp v fa)) hD hS hA (List.range 48) rfl
    refine va_calli (va_runV (As := [.int (-4)]) (rest := []) ⟨hx, hb, hml, hown, hts⟩ (c_X11_refuse_f l dC dI s.heap.size g0 pq cp v fa (-4) (by unfold vp_in; decide)) (cwV 1 hts gX11_crew_X11_refuse rfl rfl rfl (by decide +kernel) ⟨(Nat.le_of_ble_eq_true rfl), (Nat.le_of_ble_eq_true rfl)⟩) (pr_V (r := (RX11, TX11, 63)) hP hK hD 0 11 rfl rfl) rfl rfl hl.1 rfl (lv_room (Nat.le_of_ble_eq_true rfl)) dX11_crew_7 ⟨(Nat.le_of_ble_eq_true rfl), (Nat.le_of_ble_eq_true rfl)⟩) hS (fun q _ h => hFc q h) hFc (fun r_156 u t H locs ht hvm w_155 hB hz1 hk1 hS => ?_)
    obtain ⟨v_157, fa_158⟩ := u
    obtain ⟨hP1, hK1, hD1⟩ := hB
    rw [ht] at hP1
    have hP : va_P (dC, dI) vwCl (mW g0 pq cp v_157 fa_158) H := hP1
    have hD : va_D A (mW g0 pq cp v_157 fa_158) := hD1.weaken (fun _ _ _ h => hFc _ h)
    clear hP1 hK1 hD1 hk1 hz1 hvm ht hFc
    obtain ⟨rfl, hs1_159⟩ := w_155
    have hVv_157 : mV v_157 := sm0_V (sm1_0 hs1_159) gV
    have hAv_157 : mA fa_158 := sm0_A (sm1_0 hs1_159) gA
    have g_160 : (v_157 39).toInt = (v 39).toInt := congrArg Int32.toInt (congrFun hs1_159.1 39)
    have g_161 : (v_157 58).toInt = (v 58).toInt := congrArg Int32.toInt (congrFun hs1_159.1 58)
    have g_162 : (v_157 59).toInt = (v 59).toInt := congrArg Int32.toInt (congrFun hs1_159.1 59)
    have g_163 : (v_157 60).toInt = (v 60).toInt := congrArg Int32.toInt (congrFun hs1_159.1 60)
    have hRv_157 : mX [0, 45, 47, 48, 49, 50, 51, 52, 53, 54, 55, 56, 57, 58, 59, 60] v fa v_157 fa_158 := mX.st mX.rf (mX.s0 (sm1_0 hs1_159)) (by decide)
    exact W.iret (v := (-4)) hx hb hr (fun t ht hW => ⟨⟨(-4), (v_157, fa_158), rfl, ⟨hVv_157, hAv_157, hRv_157, ⟨⟨by have rc : ((-4) : Int32).toInt = -4 := (by decide); unfold crA; omega, fun q => absurd (by have rc : ((-4) : Int32).toInt = -4 := (by decide); unfold crB; omega) q⟩, (Or.inl ⟨by have rc : ((-4) : Int32).toInt = -4 := (by decide); unfold crB; omega, sm2_1 hs1_159⟩)⟩⟩, ⟨by rw [ht]; exact hP, va_K.moved hW.alike hK, hD⟩⟩, hS.F ht⟩) hS.2.2 dX11_crew_10
