

/-- sums and differences that stay in an int -/
theorem ad_i {x y : Int32} {a b : Int} (hx : x.toInt = a) (hy : y.toInt = b) (h1 : -2147483648 ≤ a + b) (h2 : a + b ≤ 2147483647) : (x + y).toInt = a + b := by
  rw [Int32.toInt_add, hx, hy]
  exact Int.bmod_eq_of_le (by omega) (by omega)
theorem sb_i {x y : Int32} {a b : Int} (hx : x.toInt = a) (hy : y.toInt = b) (h1 : -2147483648 ≤ a - b) (h2 : a - b ≤ 2147483647) : (x - y).toInt = a - b := by
  rw [Int32.toInt_sub, hx, hy]
  exact Int.bmod_eq_of_le (by omega) (by omega)
theorem mu_i {x y : Int32} {a b : Int} (hx : x.toInt = a) (hy : y.toInt = b) (h1 : -2147483648 ≤ a * b) (h2 : a * b ≤ 2147483647) : (x * y).toInt = a * b := by
  rw [Int32.toInt_mul, hx, hy]
  exact Int.bmod_eq_of_le (by omega) (by omega)
theorem ng_i {x : Int32} {a : Int} (hx : x.toInt = a) (h1 : -2147483648 < a) (h2 : a ≤ 2147483647) : (-x).toInt = -a := by
  rw [Int32.toInt_neg, hx]
  exact Int.bmod_eq_of_le (by omega) (by omega)
theorem dv_i {x y : Int32} {a k : Int} (hx : x.toInt = a) (hy : y.toInt = k) (h0 : 0 ≤ a) (hk : 0 < k) : (x / y).toInt = a / k := by
  have hb := Int32.toInt_lt x
  have hq : a / k ≤ a := Int.ediv_le_self k h0
  have hn : 0 ≤ a / k := Int.ediv_nonneg h0 (Int.le_of_lt hk)
  rw [Int32.toInt_div, hx, hy, Int.tdiv_eq_ediv_of_nonneg h0]
  exact Int.bmod_eq_of_le (by omega) (by omega)
theorem rm_i {x y : Int32} {a k : Int} (hx : x.toInt = a) (hy : y.toInt = k) (h0 : 0 ≤ a) (hk : 0 < k) : (x - x / y * y).toInt = a % k := by
  have hb := Int32.toInt_lt x
  have hd := dv_i hx hy h0 hk
  have hn : 0 ≤ a / k := Int.ediv_nonneg h0 (Int.le_of_lt hk)
  have e := Int.emod_add_mul_ediv a k
  have e2 : a / k * k = k * (a / k) := Int.mul_comm _ _
  have h1 := Int.emod_nonneg a (Int.ne_of_gt hk)
  have hp : 0 ≤ k * (a / k) := Int.mul_nonneg (Int.le_of_lt hk) hn
  have hm : (x / y * y).toInt = a / k * k := mu_i hd hy (by omega) (by omega)
  rw [sb_i hx hm (by omega) (by omega)]
  omega
theorem iv_to {x y : Int32} (e : x = y) : x.toInt = y.toInt := congrArg Int32.toInt e
theorem iv_of {x y : Int32} {lo hi : Int} (e : x = y) (h : lo ≤ y.toInt ∧ y.toInt ≤ hi) : lo ≤ x.toInt ∧ x.toInt ≤ hi := by subst e; exact h
theorem c_lt {x y : Int32} {a b : Int} (hx : x.toInt = a) (hy : y.toInt = b) (h : x < y) : a < b := by
  subst hx hy; exact Int32.lt_iff_toInt_lt.mp h
theorem c_nlt {x y : Int32} {a b : Int} (hx : x.toInt = a) (hy : y.toInt = b) (h : ¬ x < y) : b ≤ a := by
  subst hx hy; exact Int.not_lt.mp (fun q => h (Int32.lt_iff_toInt_lt.mpr q))
theorem c_le {x y : Int32} {a b : Int} (hx : x.toInt = a) (hy : y.toInt = b) (h : x ≤ y) : a ≤ b := by
  subst hx hy; exact Int32.le_iff_toInt_le.mp h
theorem c_nle {x y : Int32} {a b : Int} (hx : x.toInt = a) (hy : y.toInt = b) (h : ¬ x ≤ y) : b < a := by
  subst hx hy; exact Int.not_le.mp (fun q => h (Int32.le_iff_toInt_le.mpr q))
theorem c_eq {x y : Int32} {a b : Int} (hx : x.toInt = a) (hy : y.toInt = b) (h : x = y) : a = b := by
  subst hx hy; rw [h]
theorem c_ne {x y : Int32} {a b : Int} (hx : x.toInt = a) (hy : y.toInt = b) (h : ¬ x = y) : ¬ a = b := by
  subst hx hy; exact fun q => h (Int32.toInt_inj.mp q)
theorem iv_all (x : Int32) : -2147483648 ≤ x.toInt ∧ x.toInt ≤ 2147483647 := ⟨Int32.le_toInt x, Int.le_of_lt_add_one (Int32.toInt_lt x)⟩
theorem cn_le {x : Int32} {n : Nat} (h : 0 ≤ x.toInt ∧ x.toInt ≤ (n : Int)) : x.toNatClampNeg ≤ n := by
  have e : x.toNatClampNeg = x.toInt.toNat := rfl
  omega
theorem cn_eq {x : Int32} {n : Int} (h : 0 ≤ x.toInt ∧ x.toInt ≤ n) : x = nI x.toNatClampNeg := by
  have e : x.toNatClampNeg = x.toInt.toNat := rfl
  have h2 := (iv_all x).2
  apply Int32.toInt_inj.mp
  rw [nI_toInt (by omega), e]
  omega
def vLo : Nat → Int := fun i => match i with
  | 38 => 0
  | 39 => 0
  | 40 => 0
  | 41 => 0
  | 42 => 0
  | 43 => 0
  | 46 => 0
  | 58 => 0
  | 59 => 0
  | 62 => 0
  | _ => -2147483648
def vHi : Nat → Int := fun i => match i with
  | 38 => 3000
  | 39 => 40
  | 40 => 20
  | 41 => 200
  | 42 => 30
  | 43 => 60
  | 46 => 60
  | 58 => 12
  | 59 => 8
  | 62 => 12
  | _ => 2147483647
def aLo : Nat → Int := fun i => match i with
  | 7 => 0
  | 8 => 0
  | 12 => 0
  | 15 => 0
  | 16 => 0
  | 20 => 0
  | 21 => 0
  | 24 => -1
  | 25 => 0
  | 30 => 0
  | 31 => 0
  | 33 => 0
  | 52 => 0
  | 54 => 0
  | 55 => 0
  | 56 => 0
  | 57 => 0
  | _ => -2147483648
def aHi : Nat → Int := fun i => match i with
  | 7 => 3000
  | 8 => 9
  | 12 => 3000
  | 15 => 9
  | 16 => 60
  | 20 => 39
  | 21 => 19
  | 24 => 59
  | 25 => 3000
  | 30 => 6
  | 31 => 20
  | 33 => 3000
  | 52 => 39
  | 54 => 39
  | 55 => 3
  | 56 => 11
  | 57 => 11
  | _ => 2147483647
/-- every int field of the reference, every element of its arrays lies in its bounds -/
def mV (v : Nat → Int32) : Prop := ∀ i, vLo i ≤ (v i).toInt ∧ (v i).toInt ≤ vHi i
def mA (fa : Nat → Nat → Int32) : Prop := ∀ k j, aLo k ≤ (fa k j).toInt ∧ (fa k j).toInt ≤ aHi k
def scI (i : Nat) : Bool := match i with
  | 47 => true
  | 48 => true
  | 49 => true
  | 50 => true
  | 51 => true
  | 58 => true
  | 59 => true
  | 60 => true
  | _ => false
def scA (i : Nat) : Bool := match i with
  | 45 => true
  | 52 => true
  | 53 => true
  | 54 => true
  | 55 => true
  | 56 => true
  | 57 => true
  | _ => false
/-- only what readers use for themselves has changed -/
def scr (v : Nat → Int32) (fa : Nat → Nat → Int32) (z : Nat → Int32) (fz : Nat → Nat → Int32) : Prop := (∀ i, scI i = false → z i = v i) ∧ ∀ k, scA k = false → fz k = fa k
theorem scr.rf {v : Nat → Int32} {fa : Nat → Nat → Int32} : scr v fa v fa := ⟨fun _ _ => rfl, fun _ _ => rfl⟩
theorem scr.tr {v z y : Nat → Int32} {fa fz fy : Nat → Nat → Int32} (h : scr v fa z fz) (g : scr z fz y fy) : scr v fa y fy := ⟨fun i q => (g.1 i q).trans (h.1 i q), fun k q => (g.2 k q).trans (h.2 k q)⟩
theorem scr.up {v z : Nat → Int32} {fa fz : Nat → Nat → Int32} {i : Nat} {x : Int32} (h : scr v fa z fz) (hi : scI i = true) : scr v fa (upd z i x) fz := ⟨fun j q => by
  have hn : j ≠ i := fun e => by rw [e, hi] at q; cases q
  exact (if_neg hn).trans (h.1 j q), h.2⟩
theorem scr.uF {v z : Nat → Int32} {fa fz : Nat → Nat → Int32} {k j : Nat} {x : Int32} (h : scr v fa z fz) (hi : scA k = true) : scr v fa z (upF fz k j x) := ⟨h.1, fun i q => by
  have hn : i ≠ k := fun e => by rw [e, hi] at q; cases q
  exact (if_neg hn).trans (h.2 i q)⟩
theorem mV_upd {z : Nat → Int32} {i : Nat} {x : Int32} {lo hi : Int} (h : mV z) (e1 : vLo i = lo) (e2 : vHi i = hi) (hx : lo ≤ x.toInt ∧ x.toInt ≤ hi) : mV (upd z i x) := by
  intro j
  by_cases q : j = i
  · subst q
    rw [e1, e2, show upd z j x j = x from if_pos rfl]
    exact hx
  · rw [show upd z i x j = z j from if_neg q]
    exact h j
theorem mA_upF {fz : Nat → Nat → Int32} {k n : Nat} {x : Int32} {lo hi : Int} (h : mA fz) (e1 : aLo k = lo) (e2 : aHi k = hi) (hx : lo ≤ x.toInt ∧ x.toInt ≤ hi) : mA (upF fz k n x) := by
  intro i j
  by_cases q : i = k
  · subst q
    rw [e1, e2, show upF fz i n x i = upd (fz i) n x from if_pos rfl]
    by_cases q2 : j = n
    · subst q2
      rw [show upd (fz i) j x j = x from if_pos rfl]
      exact hx
    · rw [show upd (fz i) n x j = fz i j from if_neg q2]
      have := h i j
      rw [e1, e2] at this
      exact this
  · rw [show upF fz k n x i = fz i from if_neg q]
    exact h i j
theorem uF_ne {fz : Nat → Nat → Int32} {k n j i : Nat} {x : Int32} (h : j ≠ k) : (upF fz k n x j i).toInt = (fz j i).toInt := by rw [show upF fz k n x j = fz j from if_neg h]
theorem scr.now {v z : Nat → Int32} {fa fz : Nat → Nat → Int32} (h : scr v fa z fz) : z 38 = v 38 := h.1 38 rfl
/-- only the fields that W names have changed, or the rows behind them -/
def mX (W : List Nat) (v : Nat → Int32) (fa : Nat → Nat → Int32) (z : Nat → Int32) (fz : Nat → Nat → Int32) : Prop := (∀ i, i ∉ W → z i = v i) ∧ ∀ k, k ∉ W → fz k = fa k
theorem mX.rf {W : List Nat} {v : Nat → Int32} {fa : Nat → Nat → Int32} : mX W v fa v fa := ⟨fun _ _ => rfl, fun _ _ => rfl⟩
theorem mX.st {W W1 : List Nat} {v z y : Nat → Int32} {fa fz fy : Nat → Nat → Int32} (h : mX W v fa z fz) (g : mX W1 z fz y fy) (hs : ∀ x ∈ W1, x ∈ W) : mX W v fa y fy := ⟨fun i q => (g.1 i (fun m => q (hs i m))).trans (h.1 i q), fun k q => (g.2 k (fun m => q (hs k m))).trans (h.2 k q)⟩
theorem mX.up {W : List Nat} {v z : Nat → Int32} {fa fz : Nat → Nat → Int32} {i : Nat} {x : Int32} (h : mX W v fa z fz) (hi : i ∈ W) : mX W v fa (upd z i x) fz := ⟨fun j q => (if_neg (fun e => q (by rw [e]; exact hi))).trans (h.1 j q), h.2⟩
theorem mX.uF {W : List Nat} {v z : Nat → Int32} {fa fz : Nat → Nat → Int32} {k j : Nat} {x : Int32} (h : mX W v fa z fz) (hi : k ∈ W) : mX W v fa z (upF fz k j x) := ⟨h.1, fun i q => (if_neg (fun e => q (by rw [e]; exact hi))).trans (h.2 i q)⟩
theorem mX.scr {v z : Nat → Int32} {fa fz : Nat → Nat → Int32} (h : scr v fa z fz) : mX [45, 47, 48, 49, 50, 51, 52, 53, 54, 55, 56, 57, 58, 59, 60] v fa z fz := by
  refine ⟨fun i q => h.1 i ?_, fun k q => h.2 k ?_⟩
  · unfold scI
    split
    all_goals first | rfl | exact absurd (by decide +kernel) q
  · unfold scA
    split
    all_goals first | rfl | exact absurd (by decide +kernel) q
theorem mX.s0 {v : Nat → Int32} {fa : Nat → Nat → Int32} {u : (Nat → Int32) × (Nat → Nat → Int32)} (h : sm0 v fa u) : mX [0] v fa u.1 u.2 := ⟨fun i _ => by rw [h.1], fun k q => h.2 k (fun e => q (by rw [e]; exact List.mem_singleton.mpr rfl))⟩
theorem sm0_V {v : Nat → Int32} {fa : Nat → Nat → Int32} {u : (Nat → Int32) × (Nat → Nat → Int32)} (h : sm0 v fa u) (hV : mV v) : mV u.1 := by rw [h.1]; exact hV
theorem sm0_A {v : Nat → Int32} {fa : Nat → Nat → Int32} {u : (Nat → Int32) × (Nat → Nat → Int32)} (h : sm0 v fa u) (hA : mA fa) : mA u.2 := by
  intro k j
  by_cases q : k = 0
  · subst q
    exact iv_all _
  · rw [h.2 k q]
    exact hA k j
theorem isI_0 {x n : Int32} (h : isI x n = 0) : x.toInt < 0 ∨ n.toInt ≤ x.toInt := by
  unfold isI at h
  split at h
  · rename_i h1; exact Or.inl (Int32.lt_iff_toInt_lt.mp h1)
  · split at h
    · rename_i h2; exact Or.inr (Int32.le_iff_toInt_le.mp h2)
    · exact absurd h (by decide +kernel)
theorem z1_i {r : Int32} (h : r = 0 ∨ r = 1) : 0 ≤ r.toInt ∧ r.toInt ≤ 1 := by
  rcases h with rfl | rfl <;> decide
theorem dr_i {r : Int32} (h : dayR r) : -1 ≤ r.toInt ∧ r.toInt ≤ 3000 := by
  unfold dayR at h
  omega
theorem pl_i {r : Int32} {n m : Nat} (h : plR r n) (hn : n ≤ m) : -1 ≤ r.toInt ∧ r.toInt ≤ (m : Int) - 1 := by
  unfold plR at h
  omega
theorem isI_i (x n : Int32) : 0 ≤ (isI x n).toInt ∧ (isI x n).toInt ≤ 1 := z1_i (isI_01 x n)
theorem isI_t {x n r : Int32} (e : r = isI x n) (h : ¬ r.toInt = 0) : 0 ≤ x.toInt ∧ x.toInt < n.toInt := by
  refine isI_nz (fun q => h ?_)
  rw [e, q]
  decide
/-- the byte at a place of a text of n bytes; -1 behind its end -/
def cI (f : Nat → Int32) (n p : Nat) : Int32 := if p < n then f p else -1
theorem cI_lt {f : Nat → Int32} {n p : Nat} (h : p < n) : cI f n p = f p := if_pos h
theorem cI_ge {f : Nat → Int32} {n p : Nat} (h : ¬ p < n) : cI f n p = -1 := if_neg h
theorem cI_in {f : Nat → Int32} {n p : Nat} {x : Int32} (h : cI f n p = x) (hx : ¬ x = -1) : p < n := by
  unfold cI at h
  split at h
  · assumption
  · exact absurd h.symm hx
theorem cI_gt {f : Nat → Int32} {n p : Nat} {x : Int32} (h : x ≤ cI f n p) (hx : ¬ x ≤ -1) : p < n := by
  unfold cI at h
  split at h
  · assumption
  · exact absurd h hx
abbrev isLt (c : Int32) : Prop := c = 119 ∨ c = 114 ∨ c = 97 ∨ c = 100 ∨ c = 110 ∨ c = 115 ∨ c = 108 ∨ c = 120
theorem isLt_in {f : Nat → Int32} {n p : Nat} (h : isLt (cI f n p)) : p < n := by
  refine Decidable.byContradiction (fun q => ?_)
  rw [cI_ge q] at h
  exact absurd h (by decide +kernel)
theorem isLt_128 {c : Int32} (h : isLt c) : vp_in c 128 := by
  rcases h with h | h | h | h | h | h | h | h <;> rw [h] <;> unfold vp_in <;> decide
/-- held within its bounds -/
def hld (x : Int64) : Int32 := if lg_cmp x 1000000000 ≤ 0 then (if 0 ≤ lg_cmp x (-1000000000) then x.toInt32 else -1000000000) else 1000000000
/-- a number of k digits at most -/
def pNum (c : Nat → Int32) : Nat → Int32 → Nat → Nat × Int32
  | 0, v, p => (p, v)
  | k + 1, v, p => if 48 ≤ c p ∧ c p ≤ 57 then pNum c k (10 * v + c p - 48) (p + 1) else (p, v)
theorem pNum_s {c : Nat → Int32} {k p : Nat} {v : Int32} (h1 : 48 ≤ c p) (h2 : c p ≤ 57) : pNum c (k + 1) v p = pNum c k (10 * v + c p - 48) (p + 1) := by
  rw [pNum]
  exact if_pos ⟨h1, h2⟩
theorem pNum_e {c : Nat → Int32} {k p : Nat} {v : Int32} (h : ¬ (48 ≤ c p ∧ c p ≤ 57)) : pNum c k v p = (p, v) := by
  cases k with
  | zero => rfl
  | succ k => rw [pNum]; exact if_neg h
/-- parts joined by two signs, from the left on -/
def pL {α : Type} (U : Nat → Nat × Bool × α) (c : Nat → Int32) (s1 s2 : Int32) (op : Int32 → α → α → α) : Nat → Nat × Bool × α → Nat × Bool × α
  | 0, x => x
  | k + 1, x => if x.2.1 = true ∧ (c x.1 = s1 ∨ c x.1 = s2) then pL U c s1 s2 op k ((U (x.1 + 1)).1, (U (x.1 + 1)).2.1, op (c x.1) x.2.2 (U (x.1 + 1)).2.2) else x
theorem pL_stop {α : Type} {U : Nat → Nat × Bool × α} {c : Nat → Int32} {s1 s2 : Int32} {op : Int32 → α → α → α} {k p : Nat} {w : Bool} {x : α} (h : ¬ (w = true ∧ (c p = s1 ∨ c p = s2))) : pL U c s1 s2 op k (p, w, x) = (p, w, x) := by
  cases k with
  | zero => rfl
  | succ k => rw [pL]; exact if_neg h
theorem pL_go {α : Type} {U : Nat → Nat × Bool × α} {c : Nat → Int32} {s1 s2 : Int32} {op : Int32 → α → α → α} {k p q : Nat} {w : Bool} {x y : α} (h : c p = s1 ∨ c p = s2) (e : U (p + 1) = (q, w, y)) : pL U c s1 s2 op (k + 1) (p, true, x) = pL U c s1 s2 op k (q, w, op (c p) x y) := by
  rw [pL]
  refine (if_pos ⟨rfl, h⟩).trans ?_
  show pL U c s1 s2 op k ((U (p + 1)).1, (U (p + 1)).2.1, op (c p) x (U (p + 1)).2.2) = _
  rw [e]
def pT {α : Type} (U : Nat → Nat × Bool × α) (c : Nat → Int32) (op : Int32 → α → α → α) (p : Nat) : Nat × Bool × α := pL U c 42 47 op 60 (U p)
def pS {α : Type} (U : Nat → Nat × Bool × α) (c : Nat → Int32) (op : Int32 → α → α → α) (p : Nat) : Nat × Bool × α := pL (pT U c op) c 43 45 op 60 (pT U c op p)
def pB {α : Type} (sm : Nat → Nat × Bool × α) (c : Nat → Int32) (op : Int32 → α → α → α) (dv : α) (p : Nat) : Nat × Bool × α :=
  if (sm p).2.1 = true then
    if c (sm p).1 = 60 ∨ c (sm p).1 = 61 ∨ c (sm p).1 = 62 then
      if (sm ((sm p).1 + 1)).2.1 = true ∧ c (sm ((sm p).1 + 1)).1 = 41 then ((sm ((sm p).1 + 1)).1 + 1, true, op (c (sm p).1) (sm p).2.2 (sm ((sm p).1 + 1)).2.2) else ((sm ((sm p).1 + 1)).1, false, dv)
    else if c (sm p).1 = 41 then ((sm p).1 + 1, true, (sm p).2.2) else ((sm p).1, false, dv)
  else ((sm p).1, false, dv)
def pX {α : Type} (li lt : Int32 → α) (dv : α) (c : Nat → Int32) (br : Nat → Nat × Bool × α) (p : Nat) : Nat × Bool × α :=
  if isLt (c p) then (p + 1, true, lt (c p)) else if c p = 40 then br p else if (pNum c 5 0 p).1 = p then (p, false, dv) else ((pNum c 5 0 p).1, true, li (pNum c 5 0 p).2)
/-- a unit with brackets d deep at most -/
def pU {α : Type} (li lt : Int32 → α) (op : Int32 → α → α → α) (dv : α) (c : Nat → Int32) : Nat → Nat → Nat × Bool × α
  | 0 => pX li lt dv c (fun p => (p, false, dv))
  | d + 1 => pX li lt dv c (fun p => pB (pS (pU li lt op dv c d) c op) c op dv (p + 1))
theorem pU_0 {α : Type} {li lt : Int32 → α} {op : Int32 → α → α → α} {dv : α} {c : Nat → Int32} : pU li lt op dv c 0 = pX li lt dv c (fun p => (p, false, dv)) := rfl
theorem pU_s {α : Type} {li lt : Int32 → α} {op : Int32 → α → α → α} {dv : α} {c : Nat → Int32} {d : Nat} : pU li lt op dv c (d + 1) = pX li lt dv c (fun p => pB (pS (pU li lt op dv c d) c op) c op dv (p + 1)) := rfl
section
variable {α : Type} {li lt : Int32 → α} {op : Int32 → α → α → α} {dv : α} {c : Nat → Int32} {br sm : Nat → Nat × Bool × α} {p q q2 : Nat} {x y : α} {w : Bool} {z : Int32}
theorem uX_l (h : isLt (c p)) : pX li lt dv c br p = (p + 1, true, lt (c p)) := if_pos h
theorem uX_b (h : c p = 40) : pX li lt dv c br p = br p := by
  unfold pX
  rw [if_neg (by rw [h]; decide), if_pos h]
theorem uX_n (h1 : ¬ isLt (c p)) (h2 : ¬ c p = 40) (e : pNum c 5 0 p = (q, z)) (hq : ¬ q = p) : pX li lt dv c br p = (q, true, li z) := by
  unfold pX
  rw [if_neg h1, if_neg h2, e]
  exact if_neg hq
theorem uX_e (h1 : ¬ isLt (c p)) (h2 : ¬ c p = 40) (e : pNum c 5 0 p = (p, z)) : pX li lt dv c br p = (p, false, dv) := by
  unfold pX
  rw [if_neg h1, if_neg h2, e]
  exact if_pos rfl
theorem uB_0 (e : sm p = (q, false, x)) : pB sm c op dv p = (q, false, dv) := by
  unfold pB
  rw [e]
  exact if_neg Bool.false_ne_true
theorem uB_c0 (e1 : sm p = (q, true, x)) (hc : c q = 60 ∨ c q = 61 ∨ c q = 62) (e2 : sm (q + 1) = (q2, false, y)) : pB sm c op dv p = (q2, false, dv) := by
  unfold pB
  rw [e1]
  dsimp only
  rw [if_pos rfl, if_pos hc, e2]
  exact if_neg (fun h => Bool.false_ne_true h.1)
theorem uB_c1 (e1 : sm p = (q, true, x)) (hc : c q = 60 ∨ c q = 61 ∨ c q = 62) (e2 : sm (q + 1) = (q2, true, y)) (h : c q2 = 41) : pB sm c op dv p = (q2 + 1, true, op (c q) x y) := by
  unfold pB
  rw [e1]
  dsimp only
  rw [if_pos rfl, if_pos hc, e2]
  exact if_pos ⟨rfl, h⟩
theorem uB_c2 (e1 : sm p = (q, true, x)) (hc : c q = 60 ∨ c q = 61 ∨ c q = 62) (e2 : sm (q + 1) = (q2, w, y)) (h : ¬ c q2 = 41) : pB sm c op dv p = (q2, false, dv) := by
  unfold pB
  rw [e1]
  dsimp only
  rw [if_pos rfl, if_pos hc, e2]
  exact if_neg (fun g => h g.2)
theorem uB_1 (e1 : sm p = (q, true, x)) (hc : ¬ (c q = 60 ∨ c q = 61 ∨ c q = 62)) (h : c q = 41) : pB sm c op dv p = (q + 1, true, x) := by
  unfold pB
  rw [e1]
  dsimp only
  rw [if_pos rfl, if_neg hc]
  exact if_pos h
theorem uB_2 (e1 : sm p = (q, true, x)) (hc : ¬ (c q = 60 ∨ c q = 61 ∨ c q = 62)) (h : ¬ c q = 41) : pB sm c op dv p = (q, false, dv) := by
  unfold pB
  rw [e1]
  dsimp only
  rw [if_pos rfl, if_neg hc]
  exact if_neg h
end
theorem or3_41 {x : Int32} (h : x = 41) : ¬ (x = 60 ∨ x = 61 ∨ x = 62) := by
  rw [h]
  decide
/-- what a sign does to two values -/
def mop (s x y : Int32) : Int32 := if s = 43 then hld (x.toInt64 + y.toInt64) else if s = 45 then hld (x.toInt64 - y.toInt64) else if s = 42 then hld (x.toInt64 * y.toInt64) else if s = 47 then (if y = 0 then 0 else hld (x.toInt64 / y.toInt64)) else if s = 60 then (if y ≤ x then 0 else 1) else if s = 61 then (if x = y then 1 else 0) else (if x ≤ y then 0 else 1)
theorem mop_43 {x y : Int32} : mop 43 x y = hld (x.toInt64 + y.toInt64) := by unfold mop; rw [if_pos rfl]
theorem mop_45 {x y : Int32} : mop 45 x y = hld (x.toInt64 - y.toInt64) := by unfold mop; rw [if_neg (by decide +kernel), if_pos rfl]
theorem mop_42 {x y : Int32} : mop 42 x y = hld (x.toInt64 * y.toInt64) := by unfold mop; rw [if_neg (by decide +kernel), if_neg (by decide +kernel), if_pos rfl]
theorem mop_47 {x y : Int32} : mop 47 x y = if y = 0 then 0 else hld (x.toInt64 / y.toInt64) := by unfold mop; rw [if_neg (by decide +kernel), if_neg (by decide +kernel), if_neg (by decide +kernel), if_pos rfl]
theorem mop_60 {x y : Int32} : mop 60 x y = if y ≤ x then 0 else 1 := by unfold mop; rw [if_neg (by decide +kernel), if_neg (by decide +kernel), if_neg (by decide +kernel), if_neg (by decide +kernel), if_pos rfl]
theorem mop_61 {x y : Int32} : mop 61 x y = if x = y then 1 else 0 := by unfold mop; rw [if_neg (by decide +kernel), if_neg (by decide +kernel), if_neg (by decide +kernel), if_neg (by decide +kernel), if_neg (by decide +kernel), if_pos rfl]
theorem mop_62 {x y : Int32} : mop 62 x y = if x ≤ y then 0 else 1 := by unfold mop; rw [if_neg (by decide +kernel), if_neg (by decide +kernel), if_neg (by decide +kernel), if_neg (by decide +kernel), if_neg (by decide +kernel), if_neg (by decide +kernel)]
abbrev mvU (lt : Int32 → Int32) (c : Nat → Int32) (d : Nat) : Nat → Nat × Bool × Int32 := pU (fun x => x) lt mop 0 c d
abbrev mvT (lt : Int32 → Int32) (c : Nat → Int32) (d : Nat) : Nat → Nat × Bool × Int32 := pT (mvU lt c d) c mop
abbrev mvS (lt : Int32 → Int32) (c : Nat → Int32) (d : Nat) : Nat → Nat × Bool × Int32 := pS (mvU lt c d) c mop
/-- the text that the reader stands in: the tape, or a text that was kept -/
def hbF (b : Int32) (fa : Nat → Nat → Int32) (f : Nat → Int32) (n : Nat) : Prop := (b < 0 ∧ ∀ j, j < n → fa 44 j = f j) ∨ ∃ b0 : Nat, b0 ≤ 1740 ∧ b = nI b0 ∧ ∀ j, j < n → fa 19 (b0 + j) = f j
theorem hbF_b {b : Int32} {fa : Nat → Nat → Int32} {f : Nat → Int32} {n : Nat} (h : hbF b fa f n) : b < 0 ∨ ∃ j : Nat, j ≤ 1740 ∧ b = nI j := h.elim (fun h => Or.inl h.1) (fun ⟨j, h1, h2, _⟩ => Or.inr ⟨j, h1, h2⟩)
theorem nI_ge0 {b : Nat} (h : b ≤ 1740) : (0 : Int32) ≤ nI b := by
  rw [Int32.le_iff_toInt_le, nI_toInt (by omega)]
  have : (0 : Int32).toInt = 0 := by decide
  omega
theorem sg_ge {x y : Int32} {k n : Nat} (ea : x = nI k) (es : y = nI n) (hk : k ≤ n) (hn : n ≤ 60) (c : ¬ x < y) : ¬ k < n := fun h => c (by
  subst ea es
  exact (nI_ltI (by omega) (by omega)).mpr h)
theorem sg_t {x y b : Int32} {fa : Nat → Nat → Int32} {f : Nat → Int32} {k n : Nat} (ea : x = nI k) (es : y = nI n) (hk : k ≤ n) (hn : n ≤ 60) (c : x < y) (hb : hbF b fa f n) (c2 : ¬ 0 ≤ b) : fa 44 x.toNatClampNeg = cI f n k := by
  have h := sg_lt ea es hk hn c
  rw [cI_lt h, ea, nI_clamp (by omega)]
  rcases hb with ⟨-, hb⟩ | ⟨b0, hb1, hb2, -⟩
  · exact hb k h
  · exact absurd (by rw [hb2]; exact nI_ge0 hb1) c2
theorem sg_x {x y b : Int32} {fa : Nat → Nat → Int32} {f : Nat → Int32} {k n : Nat} (ea : x = nI k) (es : y = nI n) (hk : k ≤ n) (hn : n ≤ 60) (c : x < y) (hb : hbF b fa f n) (c2 : 0 ≤ b) : fa 19 (b + x).toNatClampNeg = cI f n k := by
  have h := sg_lt ea es hk hn c
  rcases hb with ⟨hb, -⟩ | ⟨b0, hb1, hb2, hb3⟩
  · exact absurd hb (Int32.not_lt.mpr c2)
  · rw [cI_lt h, ea, hb2, nI_add, nI_clamp (by omega)]
    exact hb3 k h
/-- what a letter is worth -/
def mL (fa : Nat → Nat → Int32) : Int32 → Int32 := fun ch => hld (fa 45 ch.toNatClampNeg).toInt64
/-- behind a reader at level d that has read R -/
def pzf (R : Nat × Bool × Int32) (v : Nat → Int32) (k n lev : Nat) (u : Nat → Int32) (r : Int32) : Prop := ∃ (k' : Nat) (w : Bool) (x : Int32), R = (k', w, x) ∧ k ≤ k' ∧ k' ≤ n ∧ u 47 = nI k' ∧ ((w = false ∧ u 51 = 0) ∨ (w = true ∧ u 51 = 1 ∧ u 48 = nI lev ∧ r = x)) ∧ ∀ i, i ≠ 47 → i ≠ 48 → i ≠ 51 → u i = v i
theorem cI_nl {f : Nat → Int32} {n p : Nat} (h : ¬ cI f n p < 48) : p < n := by
  refine Decidable.byContradiction (fun q => ?_)
  rw [cI_ge q] at h
  exact h (by decide +kernel)
set_option maxHeartbeats 4000000 in
set_option maxRecDepth 100000 in
theorem c_X11_sign_f (l : Launch) (dC : Nat → ClassId) (dI : Nat → Nat → Nat) (sz : Nat) (g0 : Nat) (pq : Nat → Nat) (cp : Nat → ClassId) (v : Nat → Int32) (fa : Nat → Nat → Int32) (k n : Nat) (hk : k ≤ n) (hn : n ≤ 60) (ea : v 47 = nI k) (es : v 50 = nI n) (f : Nat → Int32) (hb0 : hbF (v 49) fa f n) : Met l yX11_sign wsX11_sign ({ frames := 0, cells := 0, slots := 0, locals := 0 }) (va_Pc [.ref g0] (pcW (dC, dI) (mT cp) (mW g0 pq cp v fa) sz)) (va_Qi (fun (r : Int32) (u : Unit) => r = cI f n k) (fun _ _ => True) (va_A [] sz)) 0 0 (va_A [] sz) := by
  refine Met.ofW (cc := cX11_sign) (maxL := 1) (ret := (some .int)) (by decide +kernel) rfl ?_
  intro p e s m args below meth c s₁ B hml hv
  obtain ⟨rfl, hsz, hP, hK, hD0⟩ := hv
  have hx := B.exec
  have hb := B.bytes
  have hr := B.returns
  have hts := atoms_spec (ws := wsX11_sign) B.pre
  have hown : s.vm.findClass RX11 = some m.cls := findClass_of_methodNamed B.named
  have hlocks := B.notSynchronized
  subst hsz
  have hD := hD0
  generalize hAe : va_A [] s.heap.size = A at ⊢
  have hA : ∀ q : Nat, s.heap.size ≤ q → A q := fun q h => by rw [← hAe]; exact Or.inr h
  have hS : va_S A s.heap s.heap [] := va_S.rf
  have hP : va_P (dC, dI) vwCl (mW g0 pq cp v fa) s.heap := hP
  have hl := lv_entry ([.ref g0]) (n := 1) (Nat.le_of_ble_eq_true rfl)
  rw [lg_entry_eq]
  generalize (lg_sl ([.ref g0]) ++ List.replicate (1 - (lg_sl ([.ref g0])).length) Slot.unset).toArray = ls at hl ⊢
  have hl : lv_has ls 1 [(0, .ref g0)] := hl
  refine lv_aload_n hx hb dX11_sign_0 rfl (lv_at hl 0 rfl) ?_
  refine va_get (D := (dC, dI)) (ci := 11) (v := .int (v 47)) (C := RX11) (T := TX11) (N := 63) hx hb hts in_wsX11_sign_X11 hown hK hP 0 rfl rfl 47 (by decide +kernel) (hts (.fieldLink RX11 210 "ShipOfficeModel" "at" "I") iw_X11_sign_1) (fun _ h9 => h9) rfl dX11_sign_1 ?_
  refine lv_aload_n hx hb dX11_sign_4 rfl (lv_at hl 0 rfl) ?_
  refine va_get (D := (dC, dI)) (ci := 11) (v := .int (v 50)) (C := RX11) (T := TX11) (N := 63) hx hb hts in_wsX11_sign_X11 hown hK hP 0 rfl rfl 50 (by decide +kernel) (hts (.fieldLink RX11 213 "ShipOfficeModel" "size" "I") iw_X11_sign_2) (fun _ h9 => h9) rfl dX11_sign_5 ?_
  refine lv_icmp_lt (tgt := 15) hx hb dX11_sign_8 (by decide +kernel) (fun c_1 => ?_) (fun c_1 => ?_)
  · refine lv_aload_n hx hb dX11_sign_15 rfl (lv_at hl 0 rfl) ?_
    refine va_get (D := (dC, dI)) (ci := 11) (v := .int (v 49)) (C := RX11) (T := TX11) (N := 63) hx hb hts in_wsX11_sign_X11 hown hK hP 0 rfl rfl 49 (by decide +kernel) (hts (.fieldLink RX11 216 "ShipOfficeModel" "base" "I") iw_X11_sign_3) (fun _ h9 => h9) rfl dX11_sign_16 ?_
    refine lv_if_ge (tgt := 34) hx hb dX11_sign_19 (by decide +kernel) (fun c_2 => ?_) (fun c_2 => ?_)
    · refine lv_aload_n hx hb dX11_sign_34 rfl (lv_at hl 0 rfl) ?_
      refine va_get (D := (dC, dI)) (ci := 11) (v := .ref (pq 19)) (C := RX11) (T := TX11) (N := 63) hx hb hts in_wsX11_sign_X11 hown hK hP 0 rfl rfl 19 (by decide +kernel) (hts (.fieldLink RX11 67 "ShipOfficeModel" "text" "[I") iw_X11_sign_4) (fun _ h9 => h9) rfl dX11_sign_35 ?_
      refine lv_aload_n hx hb dX11_sign_38 rfl (lv_at hl 0 rfl) ?_
      refine va_get (D := (dC, dI)) (ci := 11) (v := .int (v 49)) (C := RX11) (T := TX11) (N := 63) hx hb hts in_wsX11_sign_X11 hown hK hP 0 rfl rfl 49 (by decide +kernel) (hts (.fieldLink RX11 216 "ShipOfficeModel" "base" "I") iw_X11_sign_3) (fun _ h9 => h9) rfl dX11_sign_39 ?_
      refine lv_aload_n hx hb dX11_sign_42 rfl (lv_at hl 0 rfl) ?_
      refine va_get (D := (dC, dI)) (ci := 11) (v := .int (v 47)) (C := RX11) (T := TX11) (N := 63) hx hb hts in_wsX11_sign_X11 hown hK hP 0 rfl rfl 47 (by decide +kernel) (hts (.fieldLink RX11 210 "ShipOfficeModel" "at" "I") iw_X11_sign_1) (fun _ h9 => h9) rfl dX11_sign_43 ?_
      refine lv_iadd hx hb dX11_sign_46 ?_
      refine va_iald hx hb hK hP 20 19 rfl rfl (sg_in2 ea es hk hn c_1 (hbF_b hb0) c_2) dX11_sign_47 ?_
      exact W.iret (v := (fa 19 ((v 49) + (v 47) : Int32).toNatClampNeg)) hx hb hr (fun t ht hW => ⟨⟨(fa 19 ((v 49) + (v 47) : Int32).toNatClampNeg), (), rfl, (sg_x ea es hk hn c_1 hb0 c_2), trivial⟩, hS.F ht⟩) hS.2.2 dX11_sign_48
    · refine lv_aload_n hx hb dX11_sign_22 rfl (lv_at hl 0 rfl) ?_
      refine va_get (D := (dC, dI)) (ci := 11) (v := .ref (pq 44)) (C := RX11) (T := TX11) (N := 63) hx hb hts in_wsX11_sign_X11 hown hK hP 0 rfl rfl 44 (by decide +kernel) (hts (.fieldLink RX11 125 "ShipOfficeModel" "tape" "[I") iw_X11_sign_5) (fun _ h9 => h9) rfl dX11_sign_23 ?_
      refine lv_aload_n hx hb dX11_sign_26 rfl (lv_at hl 0 rfl) ?_
      refine va_get (D := (dC, dI)) (ci := 11) (v := .int (v 47)) (C := RX11) (T := TX11) (N := 63) hx hb hts in_wsX11_sign_X11 hown hK hP 0 rfl rfl 47 (by decide +kernel) (hts (.fieldLink RX11 210 "ShipOfficeModel" "at" "I") iw_X11_sign_1) (fun _ h9 => h9) rfl dX11_sign_27 ?_
      refine va_iald hx hb hK hP 39 38 rfl rfl (sg_in ea es hk hn c_1) dX11_sign_30 ?_
      refine lv_goto (tgt := 48) hx hb dX11_sign_31 (by decide +kernel) ?_
      exact W.iret (v := (fa 44 (v 47 : Int32).toNatClampNeg)) hx hb hr (fun t ht hW => ⟨⟨(fa 44 (v 47 : Int32).toNatClampNeg), (), rfl, (sg_t ea es hk hn c_1 hb0 c_2), trivial⟩, hS.F ht⟩) hS.2.2 dX11_sign_48
  · refine lv_iconst (v := (-1)) hx hb dX11_sign_11 (by decide +kernel) ?_
    refine lv_goto (tgt := 48) hx hb dX11_sign_12 (by decide +kernel) ?_
    exact W.iret (v := (-1)) hx hb hr (fun t ht hW => ⟨⟨(-1), (), rfl, ((cI_ge (sg_ge ea es hk hn c_1)).symm), trivial⟩, hS.F ht⟩) hS.2.2 dX11_sign_48
set_option maxHeartbeats 4000000 in
set_option maxRecDepth 100000 in
theorem c_X11_isLetter_f (l : Launch) (dC : Nat → ClassId) (dI : Nat → Nat → Nat) (sz : Nat) (x1 : Int32) : Met l yX11_isLetter wsX11_isLetter ({ frames := 0, cells := 0, slots := 0, locals := 0 }) (va_Pc [.int x1] (pcW (dC, dI) [] [] sz)) (va_Qi (fun (r : Int32) (u : Unit) => (r = 1 ∧ isLt x1) ∨ (r = 0 ∧ ¬ isLt x1)) (fun _ _ => True) (va_A [] sz)) 0 0 (va_A [] sz) := by
  refine Met.ofW (cc := cX11_isLetter) (maxL := 1) (ret := (some .boolean)) (by decide +kernel) rfl ?_
  intro p e s m args below meth c s₁ B hml hv
  obtain ⟨rfl, hsz, hP, hK, hD0⟩ := hv
  have hx := B.exec
  have hb := B.bytes
  have hr := B.returns
  have hts := atoms_spec (ws := wsX11_isLetter) B.pre
  have hown : s.vm.findClass RX11 = some m.cls := findClass_of_methodNamed B.named
  have hlocks := B.notSynchronized
  subst hsz
  have hD := hD0
  generalize hAe : va_A [] s.heap.size = A at ⊢
  have hA : ∀ q : Nat, s.heap.size ≤ q → A q := fun q h => by rw [← hAe]; exact Or.inr h
  have hS : va_S A s.heap s.heap [] := va_S.rf
  have hP : va_P (dC, dI) vwCl [] s.heap := hP
  have hl := lv_entry ([.int x1]) (n := 1) (Nat.le_of_ble_eq_true rfl)
  rw [lg_entry_eq]
  generalize (lg_sl ([.int x1]) ++ List.replicate (1 - (lg_sl ([.int x1])).length) Slot.unset).toArray = ls at hl ⊢
  have hl : lv_has ls 1 [(0, .int x1)] := hl
  refine lv_iload_n hx hb dX11_isLetter_0 rfl (lv_at hl 0 rfl) ?_
  refine lv_bipush (v := 119) hx hb dX11_isLetter_1 (by decide +kernel) ?_
  refine lv_icmp_eq (tgt := 48) hx hb dX11_isLetter_3 (by decide +kernel) (fun c_1 => ?_) (fun c_1 => ?_)
  · refine lv_iconst (v := 1) hx hb dX11_isLetter_48 (by decide +kernel) ?_
    refine lv_goto (tgt := 53) hx hb dX11_isLetter_49 (by decide +kernel) ?_
    exact W.zret (v := 1) hx hb hr rfl (fun t ht hW => ⟨⟨1, (), rfl, (Or.inl ⟨rfl, (Or.inl c_1)⟩), trivial⟩, hS.F ht⟩) hS.2.2 dX11_isLetter_53
  · refine lv_iload_n hx hb dX11_isLetter_6 rfl (lv_at hl 0 rfl) ?_
    refine lv_bipush (v := 114) hx hb dX11_isLetter_7 (by decide +kernel) ?_
    refine lv_icmp_eq (tgt := 48) hx hb dX11_isLetter_9 (by decide +kernel) (fun c_2 => ?_) (fun c_2 => ?_)
    · refine lv_iconst (v := 1) hx hb dX11_isLetter_48 (by decide +kernel) ?_
      refine lv_goto (tgt := 53) hx hb dX11_isLetter_49 (by decide +kernel) ?_
      exact W.zret (v := 1) hx hb hr rfl (fun t ht hW => ⟨⟨1, (), rfl, (Or.inl ⟨rfl, (Or.inr (Or.inl c_2))⟩), trivial⟩, hS.F ht⟩) hS.2.2 dX11_isLetter_53
    · refine lv_iload_n hx hb dX11_isLetter_12 rfl (lv_at hl 0 rfl) ?_
      refine lv_bipush (v := 97) hx hb dX11_isLetter_13 (by decide +kernel) ?_
      refine lv_icmp_eq (tgt := 48) hx hb dX11_isLetter_15 (by decide +kernel) (fun c_3 => ?_) (fun c_3 => ?_)
      · refine lv_iconst (v := 1) hx hb dX11_isLetter_48 (by decide +kernel) ?_
        refine lv_goto (tgt := 53) hx hb dX11_isLetter_49 (by decide +kernel) ?_
        exact W.zret (v := 1) hx hb hr rfl (fun t ht hW => ⟨⟨1, (), rfl, (Or.inl ⟨rfl, (Or.inr (Or.inr (Or.inl c_3)))⟩), trivial⟩, hS.F ht⟩) hS.2.2 dX11_isLetter_53
      · refine lv_iload_n hx hb dX11_isLetter_18 rfl (lv_at hl 0 rfl) ?_
        refine lv_bipush (v := 100) hx hb dX11_isLetter_19 (by decide +kernel) ?_
        refine lv_icmp_eq (tgt := 48) hx hb dX11_isLetter_21 (by decide +kernel) (fun c_4 => ?_) (fun c_4 => ?_)
        · refine lv_iconst (v := 1) hx hb dX11_isLetter_48 (by decide +kernel) ?_
          refine lv_goto (tgt := 53) hx hb dX11_isLetter_49 (by decide +kernel) ?_
          exact W.zret (v := 1) hx hb hr rfl (fun t ht hW => ⟨⟨1, (), rfl, (Or.inl ⟨rfl, (Or.inr (Or.inr (Or.inr (Or.inl c_4))))⟩), trivial⟩, hS.F ht⟩) hS.2.2 dX11_isLetter_53
        · refine lv_iload_n hx hb dX11_isLetter_24 rfl (lv_at hl 0 rfl) ?_
          refine lv_bipush (v := 110) hx hb dX11_isLetter_25 (by decide +kernel) ?_
          refine lv_icmp_eq (tgt := 48) hx hb dX11_isLetter_27 (by decide +kernel) (fun c_5 => ?_) (fun c_5 => ?_)
          · refine lv_iconst (v := 1) hx hb dX11_isLetter_48 (by decide +kernel) ?_
            refine lv_goto (tgt := 53) hx hb dX11_isLetter_49 (by decide +kernel) ?_
            exact W.zret (v := 1) hx hb hr rfl (fun t ht hW => ⟨⟨1, (), rfl, (Or.inl ⟨rfl, (Or.inr (Or.inr (Or.inr (Or.inr (Or.inl c_5)))))⟩), trivial⟩, hS.F ht⟩) hS.2.2 dX11_isLetter_53
          · refine lv_iload_n hx hb dX11_isLetter_30 rfl (lv_at hl 0 rfl) ?_
            refine lv_bipush (v := 115) hx hb dX11_isLetter_31 (by decide +kernel) ?_
            refine lv_icmp_eq (tgt := 48) hx hb dX11_isLetter_33 (by decide +kernel) (fun c_6 => ?_) (fun c_6 => ?_)
            · refine lv_iconst (v := 1) hx hb dX11_isLetter_48 (by decide +kernel) ?_
              refine lv_goto (tgt := 53) hx hb dX11_isLetter_49 (by decide +kernel) ?_
              exact W.zret (v := 1) hx hb hr rfl (fun t ht hW => ⟨⟨1, (), rfl, (Or.inl ⟨rfl, (Or.inr (Or.inr (Or.inr (Or.inr (Or.inr (Or.inl c_6))))))⟩), trivial⟩, hS.F ht⟩) hS.2.2 dX11_isLetter_53
            · refine lv_iload_n hx hb dX11_isLetter_36 rfl (lv_at hl 0 rfl) ?_
              refine lv_bipush (v := 108) hx hb dX11_isLetter_37 (by decide +kernel) ?_
              refine lv_icmp_eq (tgt := 48) hx hb dX11_isLetter_39 (by decide +kernel) (fun c_7 => ?_) (fun c_7 => ?_)
              · refine lv_iconst (v := 1) hx hb dX11_isLetter_48 (by decide +kernel) ?_
                refine lv_goto (tgt := 53) hx hb dX11_isLetter_49 (by decide +kernel) ?_
                exact W.zret (v := 1) hx hb hr rfl (fun t ht hW => ⟨⟨1, (), rfl, (Or.inl ⟨rfl, (Or.inr (Or.inr (Or.inr (Or.inr (Or.inr (Or.inr (Or.inl c_7)))))))⟩), trivial⟩, hS.F ht⟩) hS.2.2 dX11_isLetter_53
              · refine lv_iload_n hx hb dX11_isLetter_42 rfl (lv_at hl 0 rfl) ?_
                refine lv_bipush (v := 120) hx hb dX11_isLetter_43 (by decide +kernel) ?_
                refine lv_icmp_ne (tgt := 52) hx hb dX11_isLetter_45 (by decide +kernel) (fun c_8 => ?_) (fun c_8 => ?_)
                · refine lv_iconst (v := 0) hx hb dX11_isLetter_52 (by decide +kernel) ?_
                  exact W.zret (v := 0) hx hb hr rfl (fun t ht hW => ⟨⟨0, (), rfl, (Or.inr ⟨rfl, (fun h => h.elim c_1 (fun h => h.elim c_2 (fun h => h.elim c_3 (fun h => h.elim c_4 (fun h => h.elim c_5 (fun h => h.elim c_6 (fun h => h.elim c_7 c_8)))))))⟩), trivial⟩, hS.F ht⟩) hS.2.2 dX11_isLetter_53
                · refine lv_iconst (v := 1) hx hb dX11_isLetter_48 (by decide +kernel) ?_
                  refine lv_goto (tgt := 53) hx hb dX11_isLetter_49 (by decide +kernel) ?_
                  exact W.zret (v := 1) hx hb hr rfl (fun t ht hW => ⟨⟨1, (), rfl, (Or.inl ⟨rfl, (Or.inr (Or.inr (Or.inr (Or.inr (Or.inr (Or.inr (Or.inr c_8)))))))⟩), trivial⟩, hS.F ht⟩) hS.2.2 dX11_isLetter_53
set_option maxHeartbeats 4000000 in
set_option maxRecDepth 100000 in
theorem c_X11_held_f (l : Launch) (dC : Nat → ClassId) (dI : Nat → Nat → Nat) (sz : Nat) (x1 : Int64) : Met l yX11_held wsX11_held ({ frames := 0, cells := 0, slots := 0, locals := 0 }) (va_Pc [.long x1] (pcW (dC, dI) [] [] sz)) (va_Qi (fun (r : Int32) (u : Unit) => r = hld x1) (fun _ _ => True) (va_A [] sz)) 0 0 (va_A [] sz) := by
  refine Met.ofW (cc := cX11_held) (maxL := 2) (ret := (some .int)) (by decide +kernel) rfl ?_
  intro p e s m args below meth c s₁ B hml hv
  obtain ⟨rfl, hsz, hP, hK, hD0⟩ := hv
  have hx := B.exec
  have hb := B.bytes
  have hr := B.returns
  have hts := atoms_spec (ws := wsX11_held) B.pre
  have hown : s.vm.findClass RX11 = some m.cls := findClass_of_methodNamed B.named
  have hlocks := B.notSynchronized
  subst hsz
  have hD := hD0
  generalize hAe : va_A [] s.heap.size = A at ⊢
  have hA : ∀ q : Nat, s.heap.size ≤ q → A q := fun q h => by rw [← hAe]; exact Or.inr h
  have hS : va_S A s.heap s.heap [] := va_S.rf
  have hP : va_P (dC, dI) vwCl [] s.heap := hP
  have hl := lv_entry ([.long x1]) (n := 2) (Nat.le_of_ble_eq_true rfl)
  rw [lg_entry_eq]
  generalize (lg_sl ([.long x1]) ++ List.replicate (2 - (lg_sl ([.long x1])).length) Slot.unset).toArray = ls at hl ⊢
  have hl : lv_has ls 2 [(0, .long x1)] := hl
  refine lv_lload_n hx hb dX11_held_0 rfl (lv_at hl 0 rfl) ?_
  refine lv_ldc2 (v := 1000000000) hx hb hown (hts (.constantLong RX11 219 (1000000000)) (by decide +kernel)) dX11_held_1 ?_
  refine W.lcmp hx hb dX11_held_4 ?_
  refine lv_if_le (tgt := 14) hx hb dX11_held_5 (by decide +kernel) (fun c_1 => ?_) (fun c_1 => ?_)
  · refine lv_lload_n hx hb dX11_held_14 rfl (lv_at hl 0 rfl) ?_
    refine lv_ldc2 (v := (-1000000000)) hx hb hown (hts (.constantLong RX11 221 (-1000000000)) (by decide +kernel)) dX11_held_15 ?_
    refine W.lcmp hx hb dX11_held_18 ?_
    refine lv_if_ge (tgt := 28) hx hb dX11_held_19 (by decide +kernel) (fun c_2 => ?_) (fun c_2 => ?_)
    · refine lv_lload_n hx hb dX11_held_28 rfl (lv_at hl 0 rfl) ?_
      refine lv_l2i (v := (x1 : Int64).toInt32) hx hb dX11_held_29 rfl ?_
      exact W.iret (v := ((x1 : Int64).toInt32)) hx hb hr (fun t ht hW => ⟨⟨((x1 : Int64).toInt32), (), rfl, (by unfold hld; rw [if_pos c_1, if_pos c_2]), trivial⟩, hS.F ht⟩) hS.2.2 dX11_held_30
    · refine lv_ldc2 (v := (-1000000000)) hx hb hown (hts (.constantLong RX11 221 (-1000000000)) (by decide +kernel)) dX11_held_22 ?_
      refine lv_goto (tgt := 29) hx hb dX11_held_25 (by decide +kernel) ?_
      refine lv_l2i (v := ((-1000000000) : Int64).toInt32) hx hb dX11_held_29 rfl ?_
      exact W.iret (v := (((-1000000000) : Int64).toInt32)) hx hb hr (fun t ht hW => ⟨⟨(((-1000000000) : Int64).toInt32), (), rfl, (by unfold hld; rw [if_pos c_1, if_neg c_2] <;> decide), trivial⟩, hS.F ht⟩) hS.2.2 dX11_held_30
  · refine lv_ldc2 (v := 1000000000) hx hb hown (hts (.constantLong RX11 219 (1000000000)) (by decide +kernel)) dX11_held_8 ?_
    refine lv_goto (tgt := 29) hx hb dX11_held_11 (by decide +kernel) ?_
    refine lv_l2i (v := (1000000000 : Int64).toInt32) hx hb dX11_held_29 rfl ?_
    exact W.iret (v := ((1000000000 : Int64).toInt32)) hx hb hr (fun t ht hW => ⟨⟨((1000000000 : Int64).toInt32), (), rfl, (by unfold hld; rw [if_neg c_1] <;> decide), trivial⟩, hS.F ht⟩) hS.2.2 dX11_held_30
set_option maxHeartbeats 4000000 in
set_option maxRecDepth 100000 in
theorem c_X11_takes_f (l : Launch) (dC : Nat → ClassId) (dI : Nat → Nat → Nat) (sz : Nat) (g0 : Nat) (pq : Nat → Nat) (cp : Nat → ClassId) (v : Nat → Int32) (fa : Nat → Nat → Int32) (k n : Nat) (hk : k ≤ n) (hn : n ≤ 60) (ea : v 47 = nI k) (es : v 50 = nI n) (f : Nat → Int32) (hb0 : hbF (v 49) fa f n) (x1 : Int32) (hx1 : ¬ x1 = -1) : Met l yX11_takes wsX11_takes ({ frames := 1, cells := 0, slots := 0, locals := 20 }) (va_Pc [.ref g0, .int x1] (pcW (dC, dI) (mT cp) (mW g0 pq cp v fa) sz)) (va_Qi (fun (r : Int32) (u : (Nat → Int32) × (Nat → Nat → Int32)) => u.2 = fa ∧ ((r = 0 ∧ u.1 = v ∧ (v 51 = 0 ∨ ¬ cI f n k = x1)) ∨ (r = 1 ∧ ¬ v 51 = 0 ∧ cI f n k = x1 ∧ k < n ∧ u.1 = upd v 47 (v 47 + 1)))) (fun u t => va_P (dC, dI) vwCl (mW g0 pq cp u.1 u.2) t.heap ∧ va_K (dC, dI) vwCl (mT cp) t ∧ va_D (va_A (mW g0 pq cp v fa) sz) (mW g0 pq cp u.1 u.2)) (va_A (mW g0 pq cp v fa) sz)) 0 0 (va_A (mW g0 pq cp v fa) sz) := by
  refine Met.ofW (cc := cX11_takes) (maxL := 2) (ret := (some .boolean)) (by decide +kernel) rfl ?_
  intro p e s m args below meth c s₁ B hml hv
  obtain ⟨rfl, hsz, hP, hK, hD0⟩ := hv
  have hx := B.exec
  have hb := B.bytes
  have hr := B.returns
  have hts := atoms_spec (ws := wsX11_takes) B.pre
  have hown : s.vm.findClass RX11 = some m.cls := findClass_of_methodNamed B.named
  have hlocks := B.notSynchronized
  subst hsz
  have hD := hD0.self (sz := s.heap.size)
  generalize hAe : va_A (mW g0 pq cp v fa) s.heap.size = A at hD ⊢
  have hA : ∀ q : Nat, s.heap.size ≤ q → A q := fun q h => by rw [← hAe]; exact Or.inr h
  have hS : va_S A s.heap s.heap [] := va_S.rf
  have hP : va_P (dC, dI) vwCl (mW g0 pq cp v fa) s.heap := hP
  have hl := lv_entry ([.ref g0, .int x1]) (n := 2) (Nat.le_of_ble_eq_true rfl)
  rw [lg_entry_eq]
  generalize (lg_sl ([.ref g0, .int x1]) ++ List.replicate (2 - (lg_sl ([.ref g0, .int x1])).length) Slot.unset).toArray = ls at hl ⊢
  have hl : lv_has ls 2 [(0, .ref g0), (1, .int x1)] := hl
  refine lv_aload_n hx hb dX11_takes_0 rfl (lv_at hl 0 rfl) ?_
  refine va_get (D := (dC, dI)) (ci := 11) (v := .int (v 51)) (C := RX11) (T := TX11) (N := 63) hx hb hts in_wsX11_takes_X11 hown hK hP 0 rfl rfl 51 (by decide +kernel) (hts (.fieldLink RX11 223 "ShipOfficeModel" "isWell" "Z") iw_X11_takes_1) (fun _ h9 => h9) rfl dX11_takes_1 ?_
  refine lv_if_eq (tgt := 15) hx hb dX11_takes_4 (by decide +kernel) (fun c_1 => ?_) (fun c_1 => ?_)
  · refine lv_iconst (v := 0) hx hb dX11_takes_15 (by decide +kernel) ?_
    exact W.zret (v := 0) hx hb hr rfl (fun t ht hW => ⟨⟨0, (v, fa), rfl, ⟨rfl, Or.inl ⟨rfl, rfl, Or.inl c_1⟩⟩, ⟨by rw [ht]; exact hP, va_K.moved hW.alike hK, hD⟩⟩, hS.F ht⟩) hS.2.2 dX11_takes_16
  · refine lv_aload_n hx hb dX11_takes_7 rfl (lv_at hl 0 rfl) ?_
    have hFc : ∀ q, va_A [] s.heap.size q → A q := pu_free hS hA
    refine va_calli (va_runV (As := []) (rest := []) ⟨hx, hb, hml, hown, hts⟩ (c_X11_sign_f l dC dI s.heap.size g0 pq cp v fa k n hk hn ea es f hb0) (cwV 0 hts gX11_takes_X11_sign rfl rfl rfl (by decide +kernel) ⟨(Nat.le_of_ble_eq_true rfl), (Nat.le_of_ble_eq_true rfl)⟩) (pr_V (r := (RX11, TX11, 63)) hP hK hD 0 11 rfl rfl) rfl rfl hl.1 rfl (lv_room (Nat.le_of_ble_eq_true rfl)) dX11_takes_8 ⟨(Nat.le_of_ble_eq_true rfl), (Nat.le_of_ble_eq_true rfl)⟩) hS (fun q _ h => hFc q h) hFc (fun r_3 u t H locs ht hvm w_2 hB hz1 hk1 hS => ?_)
    have hP := pu_keep hP hk1
    clear hk1 hz1 hvm hB ht hFc
    subst w_2
    refine lv_iload_n hx hb dX11_takes_11 rfl (lv_at hl 1 rfl) ?_
    refine lv_icmp_eq (tgt := 17) hx hb dX11_takes_12 (by decide +kernel) (fun c_4 => ?_) (fun c_4 => ?_)
    · refine lv_aload_n hx hb dX11_takes_17 rfl (lv_at hl 0 rfl) ?_
      refine lv_dup hx hb dX11_takes_18 rfl ?_
      refine va_get (D := (dC, dI)) (ci := 11) (v := .int (v 47)) (C := RX11) (T := TX11) (N := 63) hx hb hts in_wsX11_takes_X11 hown hK hP 0 rfl rfl 47 (by decide +kernel) (hts (.fieldLink RX11 210 "ShipOfficeModel" "at" "I") iw_X11_takes_2) (fun _ h9 => h9) rfl dX11_takes_19 ?_
      refine lv_iconst (v := 1) hx hb dX11_takes_22 (by decide +kernel) ?_
      refine lv_iadd hx hb dX11_takes_23 ?_
      refine va_put (D := (dC, dI)) (ci := 11) (v := .int ((v 47) + 1)) (ty := .int) (C := RX11) (T := TX11) (N := 63) hx hb hts in_wsX11_takes_X11 tyX11 tyX11_ok nmX11 hown hK hP hD hS 0 rfl rfl 47 (by decide +kernel) (hts (.fieldLink RX11 210 "ShipOfficeModel" "at" "I") iw_X11_takes_2) (fun _ h9 => h9) rfl (by decide +kernel) rfl rfl (Nat.le_of_ble_eq_true rfl) dX11_takes_24 (fun H locs hP hD hS => ?_)
      have hP : va_P (dC, dI) vwCl (mW g0 pq cp (upd v 47 ((v 47) + 1)) fa) H := hP
      have hD : va_D A (mW g0 pq cp (upd v 47 ((v 47) + 1)) fa) := hD
      refine lv_iconst (v := 1) hx hb dX11_takes_27 (by decide +kernel) ?_
      exact W.zret (v := 1) hx hb hr rfl (fun t ht hW => ⟨⟨1, ((upd v 47 ((v 47) + 1)), fa), rfl, ⟨rfl, Or.inr ⟨rfl, c_1, c_4, cI_in c_4 hx1, rfl⟩⟩, ⟨by rw [ht]; exact hP, va_K.moved hW.alike hK, hD⟩⟩, hS.F ht⟩) hS.2.2 dX11_takes_28
    · refine lv_iconst (v := 0) hx hb dX11_takes_15 (by decide +kernel) ?_
      exact W.zret (v := 0) hx hb hr rfl (fun t ht hW => ⟨⟨0, (v, fa), rfl, ⟨rfl, Or.inl ⟨rfl, rfl, Or.inr c_4⟩⟩, ⟨by rw [ht]; exact hP, va_K.moved hW.alike hK, hD⟩⟩, hS.F ht⟩) hS.2.2 dX11_takes_16
set_option maxHeartbeats 4000000 in
set_option maxRecDepth 100000 in
theorem c_X11_unit_5f (l : Launch) (dC : Nat → ClassId) (dI : Nat → Nat → Nat) (sz : Nat) (g0 : Nat) (pq : Nat → Nat) (cp : Nat → ClassId) (v : Nat → Int32) (fa : Nat → Nat → Int32) (k n : Nat) (hk : k ≤ n) (hn : n ≤ 60) (ea : v 47 = nI k) (es : v 50 = nI n) (f : Nat → Int32) (hb0 : hbF (v 49) fa f n) (hwe : v 51 = 1) (hde : v 48 = nI 5) : Met l yX11_unit wsX11_unit ({ frames := 1, cells := 0, slots := 0, locals := 21 }) (va_Pc [.ref g0] (pcW (dC, dI) (mT cp) (mW g0 pq cp v fa) sz)) (va_Qi (fun (r : Int32) (u : (Nat → Int32) × (Nat → Nat → Int32)) => pzf (mvU (mL fa) (cI f n) 0 k) v k n 5 u.1 r ∧ u.2 = fa) (fun u t => va_P (dC, dI) vwCl (mW g0 pq cp u.1 u.2) t.heap ∧ va_K (dC, dI) vwCl (mT cp) t ∧ va_D (va_A (mW g0 pq cp v fa) sz) (mW g0 pq cp u.1 u.2)) (va_A (mW g0 pq cp v fa) sz)) 0 0 (va_A (mW g0 pq cp v fa) sz) := by
  refine Met.ofW (cc := cX11_unit) (maxL := 5) (ret := (some .int)) (by decide +kernel) rfl ?_
  intro p e s m args below meth c s₁ B hml hv
  obtain ⟨rfl, hsz, hP, hK, hD0⟩ := hv
  have hx := B.exec
  have hb := B.bytes
  have hr := B.returns
  have hts := atoms_spec (ws := wsX11_unit) B.pre
  have hown : s.vm.findClass RX11 = some m.cls := findClass_of_methodNamed B.named
  have hlocks := B.notSynchronized
  subst hsz
  have hD := hD0.self (sz := s.heap.size)
  generalize hAe : va_A (mW g0 pq cp v fa) s.heap.size = A at hD ⊢
  have hA : ∀ q : Nat, s.heap.size ≤ q → A q := fun q h => by rw [← hAe]; exact Or.inr h
  have hS : va_S A s.heap s.heap [] := va_S.rf
  have hP : va_P (dC, dI) vwCl (mW g0 pq cp v fa) s.heap := hP
  have hl := lv_entry ([.ref g0]) (n := 5) (Nat.le_of_ble_eq_true rfl)
  rw [lg_entry_eq]
  generalize (lg_sl ([.ref g0]) ++ List.replicate (5 - (lg_sl ([.ref g0])).length) Slot.unset).toArray = ls at hl ⊢
  have hl : lv_has ls 5 [(0, .ref g0)] := hl
  refine lv_aload_n hx hb dX11_unit_0 rfl (lv_at hl 0 rfl) ?_
  refine va_get (D := (dC, dI)) (ci := 11) (v := .int (v 51)) (C := RX11) (T := TX11) (N := 63) hx hb hts in_wsX11_unit_X11 hown hK hP 0 rfl rfl 51 (by decide +kernel) (hts (.fieldLink RX11 223 "ShipOfficeModel" "isWell" "Z") iw_X11_unit_1) (fun _ h9 => h9) rfl dX11_unit_1 ?_
  refine lv_topi (fun y ey => ?_)
  obtain rfl : y = 1 := ey.trans (hwe.trans (by decide +kernel))
  refine lv_if_ne (tgt := 9) hx hb dX11_unit_4 (by decide +kernel) (fun _ => ?_) (fun c_1 => absurd c_1 (by decide +kernel))
  refine lv_aload_n hx hb dX11_unit_9 rfl (lv_at hl 0 rfl) ?_
  have hFc : ∀ q, va_A [] s.heap.size q → A q := pu_free hS hA
  refine va_calli (va_runV (As := []) (rest := []) ⟨hx, hb, hml, hown, hts⟩ (c_X11_sign_f l dC dI s.heap.size g0 pq cp v fa k n hk hn ea es f hb0) (cwV 0 hts gX11_unit_X11_sign rfl rfl rfl (by decide +kernel) ⟨(Nat.le_of_ble_eq_true rfl), (Nat.le_of_ble_eq_true rfl)⟩) (pr_V (r := (RX11, TX11, 63)) hP hK hD 0 11 rfl rfl) rfl rfl hl.1 rfl (lv_room (Nat.le_of_ble_eq_true rfl)) dX11_unit_10 ⟨(Nat.le_of_ble_eq_true rfl), (Nat.le_of_ble_eq_true rfl)⟩) hS (fun q _ h => hFc q h) hFc (fun r_3 u t H locs ht hvm w_2 hB hz1 hk1 hS => ?_)
  have hP := pu_keep hP hk1
  clear hk1 hz1 hvm hB ht hFc
  subst w_2
  refine lv_istore_n (lv' := [(1, .int (cI f n k)), (0, .ref g0)]) hx hb dX11_unit_13 rfl hl (by decide +kernel) rfl (fun ls hl => ?_)
  refine lv_iload_n hx hb dX11_unit_14 rfl (lv_at hl 0 rfl) ?_
  have hFc : ∀ q, va_A [] H.size q → A q := pu_free hS hA
  have hPc := hP.sub (ws' := []) [] rfl
  have hDc := hD.sub (ws' := []) [] (by decide +kernel) rfl
  have hKc := hK.sub (tys' := []) [] rfl
  refine va_calli (va_runS (As := [.int (cI f n k)]) (rest := []) ⟨hx, hb, hml, hown, hts⟩ (c_X11_isLetter_f l dC dI H.size (cI f n k)) (va_cwS 1 hts gX11_unit_X11_isLetter rfl rfl rfl (by decide +kernel) ⟨(Nat.le_of_ble_eq_true rfl), (Nat.le_of_ble_eq_true rfl)⟩) (pr_S hPc hKc hDc) rfl rfl hl.1 rfl (lv_room (Nat.le_of_ble_eq_true rfl)) dX11_unit_15 ⟨(Nat.le_of_ble_eq_true rfl), (Nat.le_of_ble_eq_true rfl)⟩) hS (fun q _ h => hFc q h) hFc (fun r_5 u t H locs ht hvm w_4 hB hz1 hk1 hS => ?_)
  have hP := pu_keep hP hk1
  clear hk1 hz1 hvm hB ht hFc hPc hDc hKc
  rcases w_4 with ⟨rfl, hl_6⟩ | ⟨rfl, hl_6⟩
  · refine lv_if_eq (tgt := 42) hx hb dX11_unit_18 (by decide +kernel) (fun c_7 => absurd c_7 (by decide +kernel)) (fun _ => ?_)
    refine lv_aload_n hx hb dX11_unit_21 rfl (lv_at hl 1 rfl) ?_
    refine lv_dup hx hb dX11_unit_22 rfl ?_
    refine va_get (D := (dC, dI)) (ci := 11) (v := .int (v 47)) (C := RX11) (T := TX11) (N := 63) hx hb hts in_wsX11_unit_X11 hown hK hP 0 rfl rfl 47 (by decide +kernel) (hts (.fieldLink RX11 210 "ShipOfficeModel" "at" "I") iw_X11_unit_2) (fun _ h9 => h9) rfl dX11_unit_23 ?_
    refine lv_iconst (v := 1) hx hb dX11_unit_26 (by decide +kernel) ?_
    refine lv_iadd hx hb dX11_unit_27 ?_
    refine lv_topi (fun y ey => ?_)
    obtain rfl : y = nI (k + 1) := ey.trans (by rw [ea]; exact nI_1 _)
    refine va_put (D := (dC, dI)) (ci := 11) (v := .int (nI (k + 1))) (ty := .int) (C := RX11) (T := TX11) (N := 63) hx hb hts in_wsX11_unit_X11 tyX11 tyX11_ok nmX11 hown hK hP hD hS 0 rfl rfl 47 (by decide +kernel) (hts (.fieldLink RX11 210 "ShipOfficeModel" "at" "I") iw_X11_unit_2) (fun _ h9 => h9) rfl (by decide +kernel) rfl rfl (Nat.le_of_ble_eq_true rfl) dX11_unit_28 (fun H locs hP hD hS => ?_)
    have hP : va_P (dC, dI) vwCl (mW g0 pq cp (upd v 47 (nI (k + 1))) fa) H := hP
    have hD : va_D A (mW g0 pq cp (upd v 47 (nI (k + 1))) fa) := hD
    obtain ⟨z_8, ez_8⟩ : ∃ zq, zq = (upd v 47 (nI (k + 1))) := ⟨_, rfl⟩
    rw [← ez_8] at hP hD
    have ea_z_8 : z_8 47 = nI (k + 1) := by rw [ez_8]; rfl
    have es_z_8 : z_8 50 = nI n := by rw [ez_8]; exact es
    have hb_z_8 : hbF (z_8 49) fa f n := by rw [ez_8]; exact hb0
    have we_z_8 : z_8 51 = 1 := by rw [ez_8]; exact hwe
    have de_z_8 : z_8 48 = nI 5 := by rw [ez_8]; exact hde
    have sm_z_8 : ∀ i, i ≠ 47 → i ≠ 48 → i ≠ 51 → z_8 i = v i := by intro i h1 h2 h3; rw [ez_8]; exact (if_neg h1).trans ((fun i _ _ _ => rfl) i h1 h2 h3)
    have hkn_z_8 : (k + 1) ≤ n := (isLt_in hl_6)
    have hk0_z_8 : k ≤ (k + 1) := by omega
    refine lv_aload_n hx hb dX11_unit_31 rfl (lv_at hl 1 rfl) ?_
    refine va_get (D := (dC, dI)) (ci := 11) (v := .ref (pq 45)) (C := RX11) (T := TX11) (N := 63) hx hb hts in_wsX11_unit_X11 hown hK hP 0 rfl rfl 45 (by decide +kernel) (hts (.fieldLink RX11 128 "ShipOfficeModel" "letters" "[I") iw_X11_unit_4) (fun _ h9 => h9) rfl dX11_unit_32 ?_
    refine lv_iload_n hx hb dX11_unit_35 rfl (lv_at hl 0 rfl) ?_
    refine va_iald hx hb hK hP 40 39 rfl rfl (isLt_128 hl_6) dX11_unit_36 ?_
    refine lv_i2l (v := (fa 45 (cI f n k : Int32).toNatClampNeg : Int32).toInt64) hx hb dX11_unit_37 rfl ?_
    have hFc : ∀ q, va_A [] H.size q → A q := pu_free hS hA
    have hPc := hP.sub (ws' := []) [] rfl
    have hDc := hD.sub (ws' := []) [] (by decide +kernel) rfl
    have hKc := hK.sub (tys' := []) [] rfl
    refine va_calli (va_runS (As := [.long ((fa 45 (cI f n k : Int32).toNatClampNeg : Int32).toInt64)]) (rest := []) ⟨hx, hb, hml, hown, hts⟩ (c_X11_held_f l dC dI H.size ((fa 45 (cI f n k : Int32).toNatClampNeg : Int32).toInt64)) (va_cwS 1 hts gX11_unit_X11_held rfl rfl rfl (by decide +kernel) ⟨(Nat.le_of_ble_eq_true rfl), (Nat.le_of_ble_eq_true rfl)⟩) (pr_S hPc hKc hDc) rfl rfl hl.1 rfl (lv_room (Nat.le_of_ble_eq_true rfl)) dX11_unit_38 ⟨(Nat.le_of_ble_eq_true rfl), (Nat.le_of_ble_eq_true rfl)⟩) hS (fun q _ h => hFc q h) hFc (fun r_10 u t H locs ht hvm w_9 hB hz1 hk1 hS => ?_)
    have hP := pu_keep hP hk1
    clear hk1 hz1 hvm hB ht hFc hPc hDc hKc
    subst w_9
    exact W.iret (v := (hld ((fa 45 (cI f n k : Int32).toNatClampNeg : Int32).toInt64))) hx hb hr (fun t ht hW => ⟨⟨(hld ((fa 45 (cI f n k : Int32).toNatClampNeg : Int32).toInt64)), (z_8, fa), rfl, ⟨⟨(k + 1), true, _, (congrFun pU_0 _).trans (uX_l hl_6), by omega, hkn_z_8, ea_z_8, (Or.inr ⟨rfl, we_z_8, de_z_8, rfl⟩), sm_z_8⟩, rfl⟩, ⟨by rw [ht]; exact hP, va_K.moved hW.alike hK, hD⟩⟩, hS.F ht⟩) hS.2.2 dX11_unit_41
  · refine lv_if_eq (tgt := 42) hx hb dX11_unit_18 (by decide +kernel) (fun _ => ?_) (fun c_11 => absurd c_11 (by decide +kernel))
    refine lv_iload_n hx hb dX11_unit_42 rfl (lv_at hl 0 rfl) ?_
    refine lv_bipush (v := 40) hx hb dX11_unit_43 (by decide +kernel) ?_
    refine lv_icmp_ne (tgt := 210) hx hb dX11_unit_45 (by decide +kernel) (fun c_12 => ?_) (fun c_12 => ?_)
    · refine lv_iconst (v := 0) hx hb dX11_unit_210 (by decide +kernel) ?_
      refine lv_istore_n (lv' := [(2, .int 0), (1, .int (cI f n k)), (0, .ref g0)]) hx hb dX11_unit_211 rfl hl (by decide +kernel) rfl (fun ls hl => ?_)
      refine lv_iconst (v := 0) hx hb dX11_unit_212 (by decide +kernel) ?_
      refine lv_istore_n (lv' := [(3, .int 0), (2, .int 0), (1, .int (cI f n k)), (0, .ref g0)]) hx hb dX11_unit_213 rfl hl (by decide +kernel) rfl (fun ls hl => ?_)
      refine lv_iload_n hx hb dX11_unit_214 rfl (lv_at hl 0 rfl) ?_
      refine lv_iconst (v := 5) hx hb dX11_unit_215 (by decide +kernel) ?_
      refine lv_icmp_ge (tgt := 266) hx hb dX11_unit_216 (by decide +kernel) (fun c_13 => absurd c_13 (by decide +kernel)) (fun _ => ?_)
      refine lv_aload_n hx hb dX11_unit_219 rfl (lv_at hl 3 rfl) ?_
      have hFc : ∀ q, va_A [] H.size q → A q := pu_free hS hA
      refine va_calli (va_runV (As := []) (rest := []) ⟨hx, hb, hml, hown, hts⟩ (c_X11_sign_f l dC dI H.size g0 pq cp v fa k n hk hn ea es f hb0) (cwV 0 hts gX11_unit_X11_sign rfl rfl rfl (by decide +kernel) ⟨(Nat.le_of_ble_eq_true rfl), (Nat.le_of_ble_eq_true rfl)⟩) (pr_V (r := (RX11, TX11, 63)) hP hK hD 0 11 rfl rfl) rfl rfl hl.1 rfl (lv_room (Nat.le_of_ble_eq_true rfl)) dX11_unit_220 ⟨(Nat.le_of_ble_eq_true rfl), (Nat.le_of_ble_eq_true rfl)⟩) hS (fun q _ h => hFc q h) hFc (fun r_15 u t H locs ht hvm w_14 hB hz1 hk1 hS => ?_)
      have hP := pu_keep hP hk1
      clear hk1 hz1 hvm hB ht hFc
      subst w_14
      refine lv_bipush (v := 48) hx hb dX11_unit_223 (by decide +kernel) ?_
      refine lv_icmp_lt (tgt := 266) hx hb dX11_unit_225 (by decide +kernel) (fun c_16 => ?_) (fun c_16 => ?_)
      · refine lv_iload_n hx hb dX11_unit_266 rfl (lv_at hl 0 rfl) ?_
        refine lv_if_ne (tgt := 277) hx hb dX11_unit_267 (by decide +kernel) (fun c_17 => absurd c_17 (by decide +kernel)) (fun _ => ?_)
        refine lv_aload_n hx hb dX11_unit_270 rfl (lv_at hl 3 rfl) ?_
        have hFc := va_free (wc := (mW g0 pq cp v fa)) hD hS hA (List.range 48) rfl
        refine va_calli (va_runV (As := []) (rest := []) ⟨hx, hb, hml, hown, hts⟩ (c_X11_breaks l dC dI H.size g0 pq cp v fa) (cwV 0 hts gX11_unit_X11_breaks rfl rfl rfl (by decide +kernel) ⟨(Nat.le_of_ble_eq_true rfl), (Nat.le_of_ble_eq_true rfl)⟩) (pr_V (r := (RX11, TX11, 63)) hP hK hD 0 11 rfl rfl) rfl rfl hl.1 rfl (lv_room (Nat.le_of_ble_eq_true rfl)) dX11_unit_271 ⟨(Nat.le_of_ble_eq_true rfl), (Nat.le_of_ble_eq_true rfl)⟩) hS (fun q _ h => hFc q h) hFc (fun r_19 u t H locs ht hvm w_18 hB hz1 hk1 hS => ?_)
        obtain ⟨v_20, fa_21⟩ := u
        obtain ⟨hP1, hK1, hD1⟩ := hB
        rw [ht] at hP1
        have hP : va_P (dC, dI) vwCl (mW g0 pq cp v_20 fa_21) H := hP1
        have hD : va_D A (mW g0 pq cp v_20 fa_21) := hD1.weaken (fun _ _ _ h => hFc _ h)
        clear hP1 hK1 hD1 hk1 hz1 hvm ht hFc
        obtain ⟨rfl, ev_22, ef_23⟩ := w_18
        dsimp only at ev_22 ef_23
        have ef2 := ef_23.symm
        subst ef2
        have ea_v_20 : v_20 47 = nI k := by rw [ev_22]; exact ea
        have es_v_20 : v_20 50 = nI n := by rw [ev_22]; exact es
        have hb_v_20 : hbF (v_20 49) fa f n := by rw [ev_22]; exact hb0
        have we_v_20 : v_20 51 = 0 := by rw [ev_22]; rfl
        have de_v_20 : v_20 48 = nI 5 := by rw [ev_22]; exact hde
        have sm_v_20 : ∀ i, i ≠ 47 → i ≠ 48 → i ≠ 51 → v_20 i = v i := by intro i h1 h2 h3; rw [ev_22]; exact (if_neg h3).trans ((fun i _ _ _ => rfl) i h1 h2 h3)
        refine lv_goto (tgt := 278) hx hb dX11_unit_274 (by decide +kernel) ?_
        exact W.iret (v := 0) hx hb hr (fun t ht hW => ⟨⟨0, (v_20, fa), rfl, ⟨⟨k, false, _, (congrFun pU_0 _).trans (uX_e hl_6 c_12 (pNum_e (fun h => absurd c_16 (Int32.not_lt.mpr h.1)))), by omega, hk, ea_v_20, (Or.inl ⟨rfl, we_v_20⟩), sm_v_20⟩, rfl⟩, ⟨by rw [ht]; exact hP, va_K.moved hW.alike hK, hD⟩⟩, hS.F ht⟩) hS.2.2 dX11_unit_278
      · refine lv_aload_n hx hb dX11_unit_228 rfl (lv_at hl 3 rfl) ?_
        have hFc : ∀ q, va_A [] H.size q → A q := pu_free hS hA
        refine va_calli (va_runV (As := []) (rest := []) ⟨hx, hb, hml, hown, hts⟩ (c_X11_sign_f l dC dI H.size g0 pq cp v fa k n hk hn ea es f hb0) (cwV 0 hts gX11_unit_X11_sign rfl rfl rfl (by decide +kernel) ⟨(Nat.le_of_ble_eq_true rfl), (Nat.le_of_ble_eq_true rfl)⟩) (pr_V (r := (RX11, TX11, 63)) hP hK hD 0 11 rfl rfl) rfl rfl hl.1 rfl (lv_room (Nat.le_of_ble_eq_true rfl)) dX11_unit_229 ⟨(Nat.le_of_ble_eq_true rfl), (Nat.le_of_ble_eq_true rfl)⟩) hS (fun q _ h => hFc q h) hFc (fun r_25 u t H locs ht hvm w_24 hB hz1 hk1 hS => ?_)
        have hP := pu_keep hP hk1
        clear hk1 hz1 hvm hB ht hFc
        subst w_24
        refine lv_bipush (v := 57) hx hb dX11_unit_232 (by decide +kernel) ?_
        refine lv_icmp_gt (tgt := 266) hx hb dX11_unit_234 (by decide +kernel) (fun c_26 => ?_) (fun c_26 => ?_)
        · refine lv_iload_n hx hb dX11_unit_266 rfl (lv_at hl 0 rfl) ?_
          refine lv_if_ne (tgt := 277) hx hb dX11_unit_267 (by decide +kernel) (fun c_27 => absurd c_27 (by decide +kernel)) (fun _ => ?_)
          refine lv_aload_n hx hb dX11_unit_270 rfl (lv_at hl 3 rfl) ?_
          have hFc := va_free (wc := (mW g0 pq cp v fa)) hD hS hA (List.range 48) rfl
          refine va_calli (va_runV (As := []) (rest := []) ⟨hx, hb, hml, hown, hts⟩ (c_X11_breaks l dC dI H.size g0 pq cp v fa) (cwV 0 hts gX11_unit_X11_breaks rfl rfl rfl (by decide +kernel) ⟨(Nat.le_of_ble_eq_true rfl), (Nat.le_of_ble_eq_true rfl)⟩) (pr_V (r := (RX11, TX11, 63)) hP hK hD 0 11 rfl rfl) rfl rfl hl.1 rfl (lv_room (Nat.le_of_ble_eq_true rfl)) dX11_unit_271 ⟨(Nat.le_of_ble_eq_true rfl), (Nat.le_of_ble_eq_true rfl)⟩) hS (fun q _ h => hFc q h) hFc (fun r_29 u t H locs ht hvm w_28 hB hz1 hk1 hS => ?_)
          obtain ⟨v_30, fa_31⟩ := u
          obtain ⟨hP1, hK1, hD1⟩ := hB
          rw [ht] at hP1
          have hP : va_P (dC, dI) vwCl (mW g0 pq cp v_30 fa_31) H := hP1
          have hD : va_D A (mW g0 pq cp v_30 fa_31) := hD1.weaken (fun _ _ _ h => hFc _ h)
          clear hP1 hK1 hD1 hk1 hz1 hvm ht hFc
          obtain ⟨rfl, ev_32, ef_33⟩ := w_28
          dsimp only at ev_32 ef_33
          have ef2 := ef_33.symm
          subst ef2
          have ea_v_30 : v_30 47 = nI k := by rw [ev_32]; exact ea
          have es_v_30 : v_30 50 = nI n := by rw [ev_32]; exact es
          have hb_v_30 : hbF (v_30 49) fa f n := by rw [ev_32]; exact hb0
          have we_v_30 : v_30 51 = 0 := by rw [ev_32]; rfl
          have de_v_30 : v_30 48 = nI 5 := by rw [ev_32]; exact hde
          have sm_v_30 : ∀ i, i ≠ 47 → i ≠ 48 → i ≠ 51 → v_30 i = v i := by intro i h1 h2 h3; rw [ev_32]; exact (if_neg h3).trans ((fun i _ _ _ => rfl) i h1 h2 h3)
          refine lv_goto (tgt := 278) hx hb dX11_unit_274 (by decide +kernel) ?_
          exact W.iret (v := 0) hx hb hr (fun t ht hW => ⟨⟨0, (v_30, fa), rfl, ⟨⟨k, false, _, (congrFun pU_0 _).trans (uX_e hl_6 c_12 (pNum_e (fun h => absurd c_26 (Int32.not_lt.mpr h.2)))), by omega, hk, ea_v_30, (Or.inl ⟨rfl, we_v_30⟩), sm_v_30⟩, rfl⟩, ⟨by rw [ht]; exact hP, va_K.moved hW.alike hK, hD⟩⟩, hS.F ht⟩) hS.2.2 dX11_unit_278
        · refine lv_bipush (v := 10) hx hb dX11_unit_237 (by decide +kernel) ?_
          refine lv_iload_n hx hb dX11_unit_239 rfl (lv_at hl 1 rfl) ?_
          refine lv_imul hx hb dX11_unit_240 ?_
          refine lv_topi (fun y ey => ?_)
          obtain rfl : y = 0 := ey.trans (by decide +kernel)
          refine lv_aload_n hx hb dX11_unit_241 rfl (lv_at hl 3 rfl) ?_
          have hFc : ∀ q, va_A [] H.size q → A q := pu_free hS hA
          refine va_calli (va_runV (As := []) (rest := [.int 0]) ⟨hx, hb, hml, hown, hts⟩ (c_X11_sign_f l dC dI H.size g0 pq cp v fa k n hk hn ea es f hb0) (cwV 0 hts gX11_unit_X11_sign rfl rfl rfl (by decide +kernel) ⟨(Nat.le_of_ble_eq_true rfl), (Nat.le_of_ble_eq_true rfl)⟩) (pr_V (r := (RX11, TX11, 63)) hP hK hD 0 11 rfl rfl) rfl rfl hl.1 rfl (lv_room (Nat.le_of_ble_eq_true rfl)) dX11_unit_242 ⟨(Nat.le_of_ble_eq_true rfl), (Nat.le_of_ble_eq_true rfl)⟩) hS (fun q _ h => hFc q h) hFc (fun r_35 u t H locs ht hvm w_34 hB hz1 hk1 hS => ?_)
          have hP := pu_keep hP hk1
          clear hk1 hz1 hvm hB ht hFc
          subst w_34
          refine lv_iadd hx hb dX11_unit_245 ?_
          refine lv_bipush (v := 48) hx hb dX11_unit_246 (by decide +kernel) ?_
          refine lv_isub hx hb dX11_unit_248 ?_
          refine lv_istore_n (lv' := [(2, .int ((0 + (cI f n k)) - 48)), (3, .int 0), (1, .int (cI f n k)), (0, .ref g0)]) hx hb dX11_unit_249 rfl hl (by decide +kernel) rfl (fun ls hl => ?_)
          refine lv_aload_n hx hb dX11_unit_250 rfl (lv_at hl 3 rfl) ?_
          refine lv_dup hx hb dX11_unit_251 rfl ?_
          refine va_get (D := (dC, dI)) (ci := 11) (v := .int (v 47)) (C := RX11) (T := TX11) (N := 63) hx hb hts in_wsX11_unit_X11 hown hK hP 0 rfl rfl 47 (by decide +kernel) (hts (.fieldLink RX11 210 "ShipOfficeModel" "at" "I") iw_X11_unit_2) (fun _ h9 => h9) rfl dX11_unit_252 ?_
          refine lv_iconst (v := 1) hx hb dX11_unit_255 (by decide +kernel) ?_
          refine lv_iadd hx hb dX11_unit_256 ?_
          refine lv_topi (fun y ey => ?_)
          obtain rfl : y = nI (k + 1) := ey.trans (by rw [ea]; exact nI_1 _)
          refine va_put (D := (dC, dI)) (ci := 11) (v := .int (nI (k + 1))) (ty := .int) (C := RX11) (T := TX11) (N := 63) hx hb hts in_wsX11_unit_X11 tyX11 tyX11_ok nmX11 hown hK hP hD hS 0 rfl rfl 47 (by decide +kernel) (hts (.fieldLink RX11 210 "ShipOfficeModel" "at" "I") iw_X11_unit_2) (fun _ h9 => h9) rfl (by decide +kernel) rfl rfl (Nat.le_of_ble_eq_true rfl) dX11_unit_257 (fun H locs hP hD hS => ?_)
          have hP : va_P (dC, dI) vwCl (mW g0 pq cp (upd v 47 (nI (k + 1))) fa) H := hP
          have hD : va_D A (mW g0 pq cp (upd v 47 (nI (k + 1))) fa) := hD
          obtain ⟨z_36, ez_36⟩ : ∃ zq, zq = (upd v 47 (nI (k + 1))) := ⟨_, rfl⟩
          rw [← ez_36] at hP hD
          have ea_z_36 : z_36 47 = nI (k + 1) := by rw [ez_36]; rfl
          have es_z_36 : z_36 50 = nI n := by rw [ez_36]; exact es
          have hb_z_36 : hbF (z_36 49) fa f n := by rw [ez_36]; exact hb0
          have we_z_36 : z_36 51 = 1 := by rw [ez_36]; exact hwe
          have de_z_36 : z_36 48 = nI 5 := by rw [ez_36]; exact hde
          have sm_z_36 : ∀ i, i ≠ 47 → i ≠ 48 → i ≠ 51 → z_36 i = v i := by intro i h1 h2 h3; rw [ez_36]; exact (if_neg h1).trans ((fun i _ _ _ => rfl) i h1 h2 h3)
          have hkn_z_36 : (k + 1) ≤ n := (cI_nl c_16)
          have hk0_z_36 : k ≤ (k + 1) := by omega
          refine lv_iinc (v := 1) (lv' := [(3, .int 1), (2, .int ((0 + (cI f n k)) - 48)), (1, .int (cI f n k)), (0, .ref g0)]) hx hb dX11_unit_260 hl (k := 1) rfl (by decide +kernel) (by decide +kernel) rfl (fun ls hl => ?_)
          refine lv_goto (tgt := 214) hx hb dX11_unit_263 (by decide +kernel) ?_
          refine lv_iload_n hx hb dX11_unit_214 rfl (lv_at hl 0 rfl) ?_
          refine lv_iconst (v := 5) hx hb dX11_unit_215 (by decide +kernel) ?_
          refine lv_icmp_ge (tgt := 266) hx hb dX11_unit_216 (by decide +kernel) (fun c_37 => absurd c_37 (by decide +kernel)) (fun _ => ?_)
          refine lv_aload_n hx hb dX11_unit_219 rfl (lv_at hl 3 rfl) ?_
          have hFc : ∀ q, va_A [] H.size q → A q := pu_free hS hA
          refine va_calli (va_runV (As := []) (rest := []) ⟨hx, hb, hml, hown, hts⟩ (c_X11_sign_f l dC dI H.size g0 pq cp z_36 fa (k + 1) n hkn_z_36 hn ea_z_36 es_z_36 f hb_z_36) (cwV 0 hts gX11_unit_X11_sign rfl rfl rfl (by decide +kernel) ⟨(Nat.le_of_ble_eq_true rfl), (Nat.le_of_ble_eq_true rfl)⟩) (pr_V (r := (RX11, TX11, 63)) hP hK hD 0 11 rfl rfl) rfl rfl hl.1 rfl (lv_room (Nat.le_of_ble_eq_true rfl)) dX11_unit_220 ⟨(Nat.le_of_ble_eq_true rfl), (Nat.le_of_ble_eq_true rfl)⟩) hS (fun q _ h => hFc q h) hFc (fun r_39 u t H locs ht hvm w_38 hB hz1 hk1 hS => ?_)
          have hP := pu_keep hP hk1
          clear hk1 hz1 hvm hB ht hFc
          subst w_38
          refine lv_bipush (v := 48) hx hb dX11_unit_223 (by decide +kernel) ?_
          refine lv_icmp_lt (tgt := 266) hx hb dX11_unit_225 (by decide +kernel) (fun c_40 => ?_) (fun c_40 => ?_)
          · refine lv_iload_n hx hb dX11_unit_266 rfl (lv_at hl 0 rfl) ?_
            refine lv_if_ne (tgt := 277) hx hb dX11_unit_267 (by decide +kernel) (fun _ => ?_) (fun c_41 => absurd c_41 (by decide +kernel))
            refine lv_iload_n hx hb dX11_unit_277 rfl (lv_at hl 1 rfl) ?_
            exact W.iret (v := ((0 + (cI f n k)) - 48)) hx hb hr (fun t ht hW => ⟨⟨((0 + (cI f n k)) - 48), (z_36, fa), rfl, ⟨⟨(k + 1), true, _, (congrFun pU_0 _).trans (uX_n hl_6 c_12 ((pNum_s (Int32.not_lt.mp c_16) (Int32.not_lt.mp c_26)).trans (pNum_e (fun h => absurd c_40 (Int32.not_lt.mpr h.1)))) (by omega)), by omega, hkn_z_36, ea_z_36, (Or.inr ⟨rfl, we_z_36, de_z_36, rfl⟩), sm_z_36⟩, rfl⟩, ⟨by rw [ht]; exact hP, va_K.moved hW.alike hK, hD⟩⟩, hS.F ht⟩) hS.2.2 dX11_unit_278
          · refine lv_aload_n hx hb dX11_unit_228 rfl (lv_at hl 3 rfl) ?_
            have hFc : ∀ q, va_A [] H.size q → A q := pu_free hS hA
            refine va_calli (va_runV (As := []) (rest := []) ⟨hx, hb, hml, hown, hts⟩ (c_X11_sign_f l dC dI H.size g0 pq cp z_36 fa (k + 1) n hkn_z_36 hn ea_z_36 es_z_36 f hb_z_36) (cwV 0 hts gX11_unit_X11_sign rfl rfl rfl (by decide +kernel) ⟨(Nat.le_of_ble_eq_true rfl), (Nat.le_of_ble_eq_true rfl)⟩) (pr_V (r := (RX11, TX11, 63)) hP hK hD 0 11 rfl rfl) rfl rfl hl.1 rfl (lv_room (Nat.le_of_ble_eq_true rfl)) dX11_unit_229 ⟨(Nat.le_of_ble_eq_true rfl), (Nat.le_of_ble_eq_true rfl)⟩) hS (fun q _ h => hFc q h) hFc (fun r_43 u t H locs ht hvm w_42 hB hz1 hk1 hS => ?_)
            have hP := pu_keep hP hk1
            clear hk1 hz1 hvm hB ht hFc
            subst w_42
            refine lv_bipush (v := 57) hx hb dX11_unit_232 (by decide +kernel) ?_
            refine lv_icmp_gt (tgt := 266) hx hb dX11_unit_234 (by decide +kernel) (fun c_44 => ?_) (fun c_44 => ?_)
            · refine lv_iload_n hx hb dX11_unit_266 rfl (lv_at hl 0 rfl) ?_
              refine lv_if_ne (tgt := 277) hx hb dX11_unit_267 (by decide +kernel) (fun _ => ?_) (fun c_45 => absurd c_45 (by decide +kernel))
              refine lv_iload_n hx hb dX11_unit_277 rfl (lv_at hl 1 rfl) ?_
              exact W.iret (v := ((0 + (cI f n k)) - 48)) hx hb hr (fun t ht hW => ⟨⟨((0 + (cI f n k)) - 48), (z_36, fa), rfl, ⟨⟨(k + 1), true, _, (congrFun pU_0 _).trans (uX_n hl_6 c_12 ((pNum_s (Int32.not_lt.mp c_16) (Int32.not_lt.mp c_26)).trans (pNum_e (fun h => absurd c_44 (Int32.not_lt.mpr h.2)))) (by omega)), by omega, hkn_z_36, ea_z_36, (Or.inr ⟨rfl, we_z_36, de_z_36, rfl⟩), sm_z_36⟩, rfl⟩, ⟨by rw [ht]; exact hP, va_K.moved hW.alike hK, hD⟩⟩, hS.F ht⟩) hS.2.2 dX11_unit_278
            · refine lv_bipush (v := 10) hx hb dX11_unit_237 (by decide +kernel) ?_
              refine lv_iload_n hx hb dX11_unit_239 rfl (lv_at hl 1 rfl) ?_
              refine lv_imul hx hb dX11_unit_240 ?_
              refine lv_aload_n hx hb dX11_unit_241 rfl (lv_at hl 3 rfl) ?_
              have hFc : ∀ q, va_A [] H.size q → A q := pu_free hS hA
              refine va_calli (va_runV (As := []) (rest := [.int (10 * ((0 + (cI f n k)) - 48))]) ⟨hx, hb, hml, hown, hts⟩ (c_X11_sign_f l dC dI H.size g0 pq cp z_36 fa (k + 1) n hkn_z_36 hn ea_z_36 es_z_36 f hb_z_36) (cwV 0 hts gX11_unit_X11_sign rfl rfl rfl (by decide +kernel) ⟨(Nat.le_of_ble_eq_true rfl), (Nat.le_of_ble_eq_true rfl)⟩) (pr_V (r := (RX11, TX11, 63)) hP hK hD 0 11 rfl rfl) rfl rfl hl.1 rfl (lv_room (Nat.le_of_ble_eq_true rfl)) dX11_unit_242 ⟨(Nat.le_of_ble_eq_true rfl), (Nat.le_of_ble_eq_true rfl)⟩) hS (fun q _ h => hFc q h) hFc (fun r_47 u t H locs ht hvm w_46 hB hz1 hk1 hS => ?_)
              have hP := pu_keep hP hk1
              clear hk1 hz1 hvm hB ht hFc
              subst w_46
              refine lv_iadd hx hb dX11_unit_245 ?_
              refine lv_bipush (v := 48) hx hb dX11_unit_246 (by decide +kernel) ?_
              refine lv_isub hx hb dX11_unit_248 ?_
              refine lv_istore_n (lv' := [(2, .int (((10 * ((0 + (cI f n k)) - 48)) + (cI f n (k + 1))) - 48)), (3, .int 1), (1, .int (cI f n k)), (0, .ref g0)]) hx hb dX11_unit_249 rfl hl (by decide +kernel) rfl (fun ls hl => ?_)
              refine lv_aload_n hx hb dX11_unit_250 rfl (lv_at hl 3 rfl) ?_
              refine lv_dup hx hb dX11_unit_251 rfl ?_
              refine va_get (D := (dC, dI)) (ci := 11) (v := .int (z_36 47)) (C := RX11) (T := TX11) (N := 63) hx hb hts in_wsX11_unit_X11 hown hK hP 0 rfl rfl 47 (by decide +kernel) (hts (.fieldLink RX11 210 "ShipOfficeModel" "at" "I") iw_X11_unit_2) (fun _ h9 => h9) rfl dX11_unit_252 ?_
              refine lv_iconst (v := 1) hx hb dX11_unit_255 (by decide +kernel) ?_
              refine lv_iadd hx hb dX11_unit_256 ?_
              refine lv_topi (fun y ey => ?_)
              obtain rfl : y = nI ((k + 1) + 1) := ey.trans (by rw [ea_z_36]; exact nI_1 _)
              refine va_put (D := (dC, dI)) (ci := 11) (v := .int (nI ((k + 1) + 1))) (ty := .int) (C := RX11) (T := TX11) (N := 63) hx hb hts in_wsX11_unit_X11 tyX11 tyX11_ok nmX11 hown hK hP hD hS 0 rfl rfl 47 (by decide +kernel) (hts (.fieldLink RX11 210 "ShipOfficeModel" "at" "I") iw_X11_unit_2) (fun _ h9 => h9) rfl (by decide +kernel) rfl rfl (Nat.le_of_ble_eq_true rfl) dX11_unit_257 (fun H locs hP hD hS => ?_)
              have hP : va_P (dC, dI) vwCl (mW g0 pq cp (upd z_36 47 (nI ((k + 1) + 1))) fa) H := hP
              have hD : va_D A (mW g0 pq cp (upd z_36 47 (nI ((k + 1) + 1))) fa) := hD
              obtain ⟨z_48, ez_48⟩ : ∃ zq, zq = (upd z_36 47 (nI ((k + 1) + 1))) := ⟨_, rfl⟩
              rw [← ez_48] at hP hD
              have ea_z_48 : z_48 47 = nI ((k + 1) + 1) := by rw [ez_48]; rfl
              have es_z_48 : z_48 50 = nI n := by rw [ez_48]; exact es_z_36
              have hb_z_48 : hbF (z_48 49) fa f n := by rw [ez_48]; exact hb_z_36
              have we_z_48 : z_48 51 = 1 := by rw [ez_48]; exact we_z_36
              have de_z_48 : z_48 48 = nI 5 := by rw [ez_48]; exact de_z_36
              have sm_z_48 : ∀ i, i ≠ 47 → i ≠ 48 → i ≠ 51 → z_48 i = v i := by intro i h1 h2 h3; rw [ez_48]; exact (if_neg h1).trans (sm_z_36 i h1 h2 h3)
              have hkn_z_48 : ((k + 1) + 1) ≤ n := (cI_nl c_40)
              have hk0_z_48 : k ≤ ((k + 1) + 1) := by omega
              refine lv_iinc (v := 2) (lv' := [(3, .int 2), (2, .int (((10 * ((0 + (cI f n k)) - 48)) + (cI f n (k + 1))) - 48)), (1, .int (cI f n k)), (0, .ref g0)]) hx hb dX11_unit_260 hl (k := 1) rfl (by decide +kernel) (by decide +kernel) rfl (fun ls hl => ?_)
              refine lv_goto (tgt := 214) hx hb dX11_unit_263 (by decide +kernel) ?_
              refine lv_iload_n hx hb dX11_unit_214 rfl (lv_at hl 0 rfl) ?_
              refine lv_iconst (v := 5) hx hb dX11_unit_215 (by decide +kernel) ?_
              refine lv_icmp_ge (tgt := 266) hx hb dX11_unit_216 (by decide +kernel) (fun c_49 => absurd c_49 (by decide +kernel)) (fun _ => ?_)
              refine lv_aload_n hx hb dX11_unit_219 rfl (lv_at hl 3 rfl) ?_
              have hFc : ∀ q, va_A [] H.size q → A q := pu_free hS hA
              refine va_calli (va_runV (As := []) (rest := []) ⟨hx, hb, hml, hown, hts⟩ (c_X11_sign_f l dC dI H.size g0 pq cp z_48 fa ((k + 1) + 1) n hkn_z_48 hn ea_z_48 es_z_48 f hb_z_48) (cwV 0 hts gX11_unit_X11_sign rfl rfl rfl (by decide +kernel) ⟨(Nat.le_of_ble_eq_true rfl), (Nat.le_of_ble_eq_true rfl)⟩) (pr_V (r := (RX11, TX11, 63)) hP hK hD 0 11 rfl rfl) rfl rfl hl.1 rfl (lv_room (Nat.le_of_ble_eq_true rfl)) dX11_unit_220 ⟨(Nat.le_of_ble_eq_true rfl), (Nat.le_of_ble_eq_true rfl)⟩) hS (fun q _ h => hFc q h) hFc (fun r_51 u t H locs ht hvm w_50 hB hz1 hk1 hS => ?_)
              have hP := pu_keep hP hk1
              clear hk1 hz1 hvm hB ht hFc
              subst w_50
              refine lv_bipush (v := 48) hx hb dX11_unit_223 (by decide +kernel) ?_
              refine lv_icmp_lt (tgt := 266) hx hb dX11_unit_225 (by decide +kernel) (fun c_52 => ?_) (fun c_52 => ?_)
              · refine lv_iload_n hx hb dX11_unit_266 rfl (lv_at hl 0 rfl) ?_
                refine lv_if_ne (tgt := 277) hx hb dX11_unit_267 (by decide +kernel) (fun _ => ?_) (fun c_53 => absurd c_53 (by decide +kernel))
                refine lv_iload_n hx hb dX11_unit_277 rfl (lv_at hl 1 rfl) ?_
                exact W.iret (v := (((10 * ((0 + (cI f n k)) - 48)) + (cI f n (k + 1))) - 48)) hx hb hr (fun t ht hW => ⟨⟨(((10 * ((0 + (cI f n k)) - 48)) + (cI f n (k + 1))) - 48), (z_48, fa), rfl, ⟨⟨((k + 1) + 1), true, _, (congrFun pU_0 _).trans (uX_n hl_6 c_12 ((pNum_s (Int32.not_lt.mp c_16) (Int32.not_lt.mp c_26)).trans ((pNum_s (Int32.not_lt.mp c_40) (Int32.not_lt.mp c_44)).trans (pNum_e (fun h => absurd c_52 (Int32.not_lt.mpr h.1))))) (by omega)), by omega, hkn_z_48, ea_z_48, (Or.inr ⟨rfl, we_z_48, de_z_48, rfl⟩), sm_z_48⟩, rfl⟩, ⟨by rw [ht]; exact hP, va_K.moved hW.alike hK, hD⟩⟩, hS.F ht⟩) hS.2.2 dX11_unit_278
              · refine lv_aload_n hx hb dX11_unit_228 rfl (lv_at hl 3 rfl) ?_
                have hFc : ∀ q, va_A [] H.size q → A q := pu_free hS hA
                refine va_calli (va_runV (As := []) (rest := []) ⟨hx, hb, hml, hown, hts⟩ (c_X11_sign_f l dC dI H.size g0 pq cp z_48 fa ((k + 1) + 1) n hkn_z_48 hn ea_z_48 es_z_48 f hb_z_48) (cwV 0 hts gX11_unit_X11_sign rfl rfl rfl (by decide +kernel) ⟨(Nat.le_of_ble_eq_true rfl), (Nat.le_of_ble_eq_true rfl)⟩) (pr_V (r := (RX11, TX11, 63)) hP hK hD 0 11 rfl rfl) rfl rfl hl.1 rfl (lv_room (Nat.le_of_ble_eq_true rfl)) dX11_unit_229 ⟨(Nat.le_of_ble_eq_true rfl), (Nat.le_of_ble_eq_true rfl)⟩) hS (fun q _ h => hFc q h) hFc (fun r_55 u t H locs ht hvm w_54 hB hz1 hk1 hS => ?_)
                have hP := pu_keep hP hk1
                clear hk1 hz1 hvm hB ht hFc
                subst w_54
                refine lv_bipush (v := 57) hx hb dX11_unit_232 (by decide +kernel) ?_
                refine lv_icmp_gt (tgt := 266) hx hb dX11_unit_234 (by decide +kernel) (fun c_56 => ?_) (fun c_56 => ?_)
                · refine lv_iload_n hx hb dX11_unit_266 rfl (lv_at hl 0 rfl) ?_
                  refine lv_if_ne (tgt := 277) hx hb dX11_unit_267 (by decide +kernel) (fun _ => ?_) (fun c_57 => absurd c_57 (by decide +kernel))
                  refine lv_iload_n hx hb dX11_unit_277 rfl (lv_at hl 1 rfl) ?_
                  exact W.iret (v := (((10 * ((0 + (cI f n k)) - 48)) + (cI f n (k + 1))) - 48)) hx hb hr (fun t ht hW => ⟨⟨(((10 * ((0 + (cI f n k)) - 48)) + (cI f n (k + 1))) - 48), (z_48, fa), rfl, ⟨⟨((k + 1) + 1), true, _, (congrFun pU_0 _).trans (uX_n hl_6 c_12 ((pNum_s (Int32.not_lt.mp c_16) (Int32.not_lt.mp c_26)).trans ((pNum_s (Int32.not_lt.mp c_40) (Int32.not_lt.mp c_44)).trans (pNum_e (fun h => absurd c_56 (Int32.not_lt.mpr h.2))))) (by omega)), by omega, hkn_z_48, ea_z_48, (Or.inr ⟨rfl, we_z_48, de_z_48, rfl⟩), sm_z_48⟩, rfl⟩, ⟨by rw [ht]; exact hP, va_K.moved hW.alike hK, hD⟩⟩, hS.F ht⟩) hS.2.2 dX11_unit_278
                · refine lv_bipush (v := 10) hx hb dX11_unit_237 (by decide +kernel) ?_
                  refine lv_iload_n hx hb dX11_unit_239 rfl (lv_at hl 1 rfl) ?_
                  refine lv_imul hx hb dX11_unit_240 ?_
                  refine lv_aload_n hx hb dX11_unit_241 rfl (lv_at hl 3 rfl) ?_
                  have hFc : ∀ q, va_A [] H.size q → A q := pu_free hS hA
                  refine va_calli (va_runV (As := []) (rest := [.int (10 * (((10 * ((0 + (cI f n k)) - 48)) + (cI f n (k + 1))) - 48))]) ⟨hx, hb, hml, hown, hts⟩ (c_X11_sign_f l dC dI H.size g0 pq cp z_48 fa ((k + 1) + 1) n hkn_z_48 hn ea_z_48 es_z_48 f hb_z_48) (cwV 0 hts gX11_unit_X11_sign rfl rfl rfl (by decide +kernel) ⟨(Nat.le_of_ble_eq_true rfl), (Nat.le_of_ble_eq_true rfl)⟩) (pr_V (r := (RX11, TX11, 63)) hP hK hD 0 11 rfl rfl) rfl rfl hl.1 rfl (lv_room (Nat.le_of_ble_eq_true rfl)) dX11_unit_242 ⟨(Nat.le_of_ble_eq_true rfl), (Nat.le_of_ble_eq_true rfl)⟩) hS (fun q _ h => hFc q h) hFc (fun r_59 u t H locs ht hvm w_58 hB hz1 hk1 hS => ?_)
                  have hP := pu_keep hP hk1
                  clear hk1 hz1 hvm hB ht hFc
                  subst w_58
                  refine lv_iadd hx hb dX11_unit_245 ?_
                  refine lv_bipush (v := 48) hx hb dX11_unit_246 (by decide +kernel) ?_
                  refine lv_isub hx hb dX11_unit_248 ?_
                  refine lv_istore_n (lv' := [(2, .int (((10 * (((10 * ((0 + (cI f n k)) - 48)) + (cI f n (k + 1))) - 48)) + (cI f n ((k + 1) + 1))) - 48)), (3, .int 2), (1, .int (cI f n k)), (0, .ref g0)]) hx hb dX11_unit_249 rfl hl (by decide +kernel) rfl (fun ls hl => ?_)
                  refine lv_aload_n hx hb dX11_unit_250 rfl (lv_at hl 3 rfl) ?_
                  refine lv_dup hx hb dX11_unit_251 rfl ?_
                  refine va_get (D := (dC, dI)) (ci := 11) (v := .int (z_48 47)) (C := RX11) (T := TX11) (N := 63) hx hb hts in_wsX11_unit_X11 hown hK hP 0 rfl rfl 47 (by decide +kernel) (hts (.fieldLink RX11 210 "ShipOfficeModel" "at" "I") iw_X11_unit_2) (fun _ h9 => h9) rfl dX11_unit_252 ?_
                  refine lv_iconst (v := 1) hx hb dX11_unit_255 (by decide +kernel) ?_
                  refine lv_iadd hx hb dX11_unit_256 ?_
                  refine lv_topi (fun y ey => ?_)
                  obtain rfl : y = nI (((k + 1) + 1) + 1) := ey.trans (by rw [ea_z_48]; exact nI_1 _)
                  refine va_put (D := (dC, dI)) (ci := 11) (v := .int (nI (((k + 1) + 1) + 1))) (ty := .int) (C := RX11) (T := TX11) (N := 63) hx hb hts in_wsX11_unit_X11 tyX11 tyX11_ok nmX11 hown hK hP hD hS 0 rfl rfl 47 (by decide +kernel) (hts (.fieldLink RX11 210 "ShipOfficeModel" "at" "I") iw_X11_unit_2) (fun _ h9 => h9) rfl (by decide +kernel) rfl rfl (Nat.le_of_ble_eq_true rfl) dX11_unit_257 (fun H locs hP hD hS => ?_)
                  have hP : va_P (dC, dI) vwCl (mW g0 pq cp (upd z_48 47 (nI (((k + 1) + 1) + 1))) fa) H := hP
                  have hD : va_D A (mW g0 pq cp (upd z_48 47 (nI (((k + 1) + 1) + 1))) fa) := hD
                  obtain ⟨z_60, ez_60⟩ : ∃ zq, zq = (upd z_48 47 (nI (((k + 1) + 1) + 1))) := ⟨_, rfl⟩
                  rw [← ez_60] at hP hD
                  have ea_z_60 : z_60 47 = nI (((k + 1) + 1) + 1) := by rw [ez_60]; rfl
                  have es_z_60 : z_60 50 = nI n := by rw [ez_60]; exact es_z_48
                  have hb_z_60 : hbF (z_60 49) fa f n := by rw [ez_60]; exact hb_z_48
                  have we_z_60 : z_60 51 = 1 := by rw [ez_60]; exact we_z_48
                  have de_z_60 : z_60 48 = nI 5 := by rw [ez_60]; exact de_z_48
                  have sm_z_60 : ∀ i, i ≠ 47 → i ≠ 48 → i ≠ 51 → z_60 i = v i := by intro i h1 h2 h3; rw [ez_60]; exact (if_neg h1).trans (sm_z_48 i h1 h2 h3)
                  have hkn_z_60 : (((k + 1) + 1) + 1) ≤ n := (cI_nl c_52)
                  have hk0_z_60 : k ≤ (((k + 1) + 1) + 1) := by omega
                  refine lv_iinc (v := 3) (lv' := [(3, .int 3), (2, .int (((10 * (((10 * ((0 + (cI f n k)) - 48)) + (cI f n (k + 1))) - 48)) + (cI f n ((k + 1) + 1))) - 48)), (1, .int (cI f n k)), (0, .ref g0)]) hx hb dX11_unit_260 hl (k := 1) rfl (by decide +kernel) (by decide +kernel) rfl (fun ls hl => ?_)
                  refine lv_goto (tgt := 214) hx hb dX11_unit_263 (by decide +kernel) ?_
                  refine lv_iload_n hx hb dX11_unit_214 rfl (lv_at hl 0 rfl) ?_
                  refine lv_iconst (v := 5) hx hb dX11_unit_215 (by decide +kernel) ?_
                  refine lv_icmp_ge (tgt := 266) hx hb dX11_unit_216 (by decide +kernel) (fun c_61 => absurd c_61 (by decide +kernel)) (fun _ => ?_)
                  refine lv_aload_n hx hb dX11_unit_219 rfl (lv_at hl 3 rfl) ?_
                  have hFc : ∀ q, va_A [] H.size q → A q := pu_free hS hA
                  refine va_calli (va_runV (As := []) (rest := []) ⟨hx, hb, hml, hown, hts⟩ (c_X11_sign_f l dC dI H.size g0 pq cp z_60 fa (((k + 1) + 1) + 1) n hkn_z_60 hn ea_z_60 es_z_60 f hb_z_60) (cwV 0 hts gX11_unit_X11_sign rfl rfl rfl (by decide +kernel) ⟨(Nat.le_of_ble_eq_true rfl), (Nat.le_of_ble_eq_true rfl)⟩) (pr_V (r := (RX11, TX11, 63)) hP hK hD 0 11 rfl rfl) rfl rfl hl.1 rfl (lv_room (Nat.le_of_ble_eq_true rfl)) dX11_unit_220 ⟨(Nat.le_of_ble_eq_true rfl), (Nat.le_of_ble_eq_true rfl)⟩) hS (fun q _ h => hFc q h) hFc (fun r_63 u t H locs ht hvm w_62 hB hz1 hk1 hS => ?_)
                  have hP := pu_keep hP hk1
                  clear hk1 hz1 hvm hB ht hFc
                  subst w_62
                  refine lv_bipush (v := 48) hx hb dX11_unit_223 (by decide +kernel) ?_
                  refine lv_icmp_lt (tgt := 266) hx hb dX11_unit_225 (by decide +kernel) (fun c_64 => ?_) (fun c_64 => ?_)
                  · refine lv_iload_n hx hb dX11_unit_266 rfl (lv_at hl 0 rfl) ?_
                    refine lv_if_ne (tgt := 277) hx hb dX11_unit_267 (by decide +kernel) (fun _ => ?_) (fun c_65 => absurd c_65 (by decide +kernel))
                    refine lv_iload_n hx hb dX11_unit_277 rfl (lv_at hl 1 rfl) ?_
                    exact W.iret (v := (((10 * (((10 * ((0 + (cI f n k)) - 48)) + (cI f n (k + 1))) - 48)) + (cI f n ((k + 1) + 1))) - 48)) hx hb hr (fun t ht hW => ⟨⟨(((10 * (((10 * ((0 + (cI f n k)) - 48)) + (cI f n (k + 1))) - 48)) + (cI f n ((k + 1) + 1))) - 48), (z_60, fa), rfl, ⟨⟨(((k + 1) + 1) + 1), true, _, (congrFun pU_0 _).trans (uX_n hl_6 c_12 ((pNum_s (Int32.not_lt.mp c_16) (Int32.not_lt.mp c_26)).trans ((pNum_s (Int32.not_lt.mp c_40) (Int32.not_lt.mp c_44)).trans ((pNum_s (Int32.not_lt.mp c_52) (Int32.not_lt.mp c_56)).trans (pNum_e (fun h => absurd c_64 (Int32.not_lt.mpr h.1)))))) (by omega)), by omega, hkn_z_60, ea_z_60, (Or.inr ⟨rfl, we_z_60, de_z_60, rfl⟩), sm_z_60⟩, rfl⟩, ⟨by rw [ht]; exact hP, va_K.moved hW.alike hK, hD⟩⟩, hS.F ht⟩) hS.2.2 dX11_unit_278
                  · refine lv_aload_n hx hb dX11_unit_228 rfl (lv_at hl 3 rfl) ?_
                    have hFc : ∀ q, va_A [] H.size q → A q := pu_free hS hA
                    refine va_calli (va_runV (As := []) (rest := []) ⟨hx, hb, hml, hown, hts⟩ (c_X11_sign_f l dC dI H.size g0 pq cp z_60 fa (((k + 1) + 1) + 1) n hkn_z_60 hn ea_z_60 es_z_60 f hb_z_60) (cwV 0 hts gX11_unit_X11_sign rfl rfl rfl (by decide +kernel) ⟨(Nat.le_of_ble_eq_true rfl), (Nat.le_of_ble_eq_true rfl)⟩) (pr_V (r := (RX11, TX11, 63)) hP hK hD 0 11 rfl rfl) rfl rfl hl.1 rfl (lv_room (Nat.le_of_ble_eq_true rfl)) dX11_unit_229 ⟨(Nat.le_of_ble_eq_true rfl), (Nat.le_of_ble_eq_true rfl)⟩) hS (fun q _ h => hFc q h) hFc (fun r_67 u t H locs ht hvm w_66 hB hz1 hk1 hS => ?_)
                    have hP := pu_keep hP hk1
                    clear hk1 hz1 hvm hB ht hFc
                    subst w_66
                    refine lv_bipush (v := 57) hx hb dX11_unit_232 (by decide +kernel) ?_
                    refine lv_icmp_gt (tgt := 266) hx hb dX11_unit_234 (by decide +kernel) (fun c_68 => ?_) (fun c_68 => ?_)
                    · refine lv_iload_n hx hb dX11_unit_266 rfl (lv_at hl 0 rfl) ?_
                      refine lv_if_ne (tgt := 277) hx hb dX11_unit_267 (by decide +kernel) (fun _ => ?_) (fun c_69 => absurd c_69 (by decide +kernel))
                      refine lv_iload_n hx hb dX11_unit_277 rfl (lv_at hl 1 rfl) ?_
                      exact W.iret (v := (((10 * (((10 * ((0 + (cI f n k)) - 48)) + (cI f n (k + 1))) - 48)) + (cI f n ((k + 1) + 1))) - 48)) hx hb hr (fun t ht hW => ⟨⟨(((10 * (((10 * ((0 + (cI f n k)) - 48)) + (cI f n (k + 1))) - 48)) + (cI f n ((k + 1) + 1))) - 48), (z_60, fa), rfl, ⟨⟨(((k + 1) + 1) + 1), true, _, (congrFun pU_0 _).trans (uX_n hl_6 c_12 ((pNum_s (Int32.not_lt.mp c_16) (Int32.not_lt.mp c_26)).trans ((pNum_s (Int32.not_lt.mp c_40) (Int32.not_lt.mp c_44)).trans ((pNum_s (Int32.not_lt.mp c_52) (Int32.not_lt.mp c_56)).trans (pNum_e (fun h => absurd c_68 (Int32.not_lt.mpr h.2)))))) (by omega)), by omega, hkn_z_60, ea_z_60, (Or.inr ⟨rfl, we_z_60, de_z_60, rfl⟩), sm_z_60⟩, rfl⟩, ⟨by rw [ht]; exact hP, va_K.moved hW.alike hK, hD⟩⟩, hS.F ht⟩) hS.2.2 dX11_unit_278
                    · refine lv_bipush (v := 10) hx hb dX11_unit_237 (by decide +kernel) ?_
                      refine lv_iload_n hx hb dX11_unit_239 rfl (lv_at hl 1 rfl) ?_
                      refine lv_imul hx hb dX11_unit_240 ?_
                      refine lv_aload_n hx hb dX11_unit_241 rfl (lv_at hl 3 rfl) ?_
                      have hFc : ∀ q, va_A [] H.size q → A q := pu_free hS hA
                      refine va_calli (va_runV (As := []) (rest := [.int (10 * (((10 * (((10 * ((0 + (cI f n k)) - 48)) + (cI f n (k + 1))) - 48)) + (cI f n ((k + 1) + 1))) - 48))]) ⟨hx, hb, hml, hown, hts⟩ (c_X11_sign_f l dC dI H.size g0 pq cp z_60 fa (((k + 1) + 1) + 1) n hkn_z_60 hn ea_z_60 es_z_60 f hb_z_60) (cwV 0 hts gX11_unit_X11_sign rfl rfl rfl (by decide +kernel) ⟨(Nat.le_of_ble_eq_true rfl), (Nat.le_of_ble_eq_true rfl)⟩) (pr_V (r := (RX11, TX11, 63)) hP hK hD 0 11 rfl rfl) rfl rfl hl.1 rfl (lv_room (Nat.le_of_ble_eq_true rfl)) dX11_unit_242 ⟨(Nat.le_of_ble_eq_true rfl), (Nat.le_of_ble_eq_true rfl)⟩) hS (fun q _ h => hFc q h) hFc (fun r_71 u t H locs ht hvm w_70 hB hz1 hk1 hS => ?_)
                      have hP := pu_keep hP hk1
                      clear hk1 hz1 hvm hB ht hFc
                      subst w_70
                      refine lv_iadd hx hb dX11_unit_245 ?_
                      refine lv_bipush (v := 48) hx hb dX11_unit_246 (by decide +kernel) ?_
                      refine lv_isub hx hb dX11_unit_248 ?_
                      refine lv_istore_n (lv' := [(2, .int (((10 * (((10 * (((10 * ((0 + (cI f n k)) - 48)) + (cI f n (k + 1))) - 48)) + (cI f n ((k + 1) + 1))) - 48)) + (cI f n (((k + 1) + 1) + 1))) - 48)), (3, .int 3), (1, .int (cI f n k)), (0, .ref g0)]) hx hb dX11_unit_249 rfl hl (by decide +kernel) rfl (fun ls hl => ?_)
                      refine lv_aload_n hx hb dX11_unit_250 rfl (lv_at hl 3 rfl) ?_
                      refine lv_dup hx hb dX11_unit_251 rfl ?_
                      refine va_get (D := (dC, dI)) (ci := 11) (v := .int (z_60 47)) (C := RX11) (T := TX11) (N := 63) hx hb hts in_wsX11_unit_X11 hown hK hP 0 rfl rfl 47 (by decide +kernel) (hts (.fieldLink RX11 210 "ShipOfficeModel" "at" "I") iw_X11_unit_2) (fun _ h9 => h9) rfl dX11_unit_252 ?_
                      refine lv_iconst (v := 1) hx hb dX11_unit_255 (by decide +kernel) ?_
                      refine lv_iadd hx hb dX11_unit_256 ?_
                      refine lv_topi (fun y ey => ?_)
                      obtain rfl : y = nI ((((k + 1) + 1) + 1) + 1) := ey.trans (by rw [ea_z_60]; exact nI_1 _)
                      refine va_put (D := (dC, dI)) (ci := 11) (v := .int (nI ((((k + 1) + 1) + 1) + 1))) (ty := .int) (C := RX11) (T := TX11) (N := 63) hx hb hts in_wsX11_unit_X11 tyX11 tyX11_ok nmX11 hown hK hP hD hS 0 rfl rfl 47 (by decide +kernel) (hts (.fieldLink RX11 210 "ShipOfficeModel" "at" "I") iw_X11_unit_2) (fun _ h9 => h9) rfl (by decide +kernel) rfl rfl (Nat.le_of_ble_eq_true rfl) dX11_unit_257 (fun H locs hP hD hS => ?_)
                      have hP : va_P (dC, dI) vwCl (mW g0 pq cp (upd z_60 47 (nI ((((k + 1) + 1) + 1) + 1))) fa) H := hP
                      have hD : va_D A (mW g0 pq cp (upd z_60 47 (nI ((((k + 1) + 1) + 1) + 1))) fa) := hD
                      obtain ⟨z_72, ez_72⟩ : ∃ zq, zq = (upd z_60 47 (nI ((((k + 1) + 1) + 1) + 1))) := ⟨_, rfl⟩
                      rw [← ez_72] at hP hD
                      have ea_z_72 : z_72 47 = nI ((((k + 1) + 1) + 1) + 1) := by rw [ez_72]; rfl
                      have es_z_72 : z_72 50 = nI n := by rw [ez_72]; exact es_z_60
                      have hb_z_72 : hbF (z_72 49) fa f n := by rw [ez_72]; exact hb_z_60
                      have we_z_72 : z_72 51 = 1 := by rw [ez_72]; exact we_z_60
                      have de_z_72 : z_72 48 = nI 5 := by rw [ez_72]; exact de_z_60
                      have sm_z_72 : ∀ i, i ≠ 47 → i ≠ 48 → i ≠ 51 → z_72 i = v i := by intro i h1 h2 h3; rw [ez_72]; exact (if_neg h1).trans (sm_z_60 i h1 h2 h3)
                      have hkn_z_72 : ((((k + 1) + 1) + 1) + 1) ≤ n := (cI_nl c_64)
                      have hk0_z_72 : k ≤ ((((k + 1) + 1) + 1) + 1) := by omega
                      refine lv_iinc (v := 4) (lv' := [(3, .int 4), (2, .int (((10 * (((10 * (((10 * ((0 + (cI f n k)) - 48)) + (cI f n (k + 1))) - 48)) + (cI f n ((k + 1) + 1))) - 48)) + (cI f n (((k + 1) + 1) + 1))) - 48)), (1, .int (cI f n k)), (0, .ref g0)]) hx hb dX11_unit_260 hl (k := 1) rfl (by decide +kernel) (by decide +kernel) rfl (fun ls hl => ?_)
                      refine lv_goto (tgt := 214) hx hb dX11_unit_263 (by decide +kernel) ?_
                      refine lv_iload_n hx hb dX11_unit_214 rfl (lv_at hl 0 rfl) ?_
                      refine lv_iconst (v := 5) hx hb dX11_unit_215 (by decide +kernel) ?_
                      refine lv_icmp_ge (tgt := 266) hx hb dX11_unit_216 (by decide +kernel) (fun c_73 => absurd c_73 (by decide +kernel)) (fun _ => ?_)
                      refine lv_aload_n hx hb dX11_unit_219 rfl (lv_at hl 3 rfl) ?_
                      have hFc : ∀ q, va_A [] H.size q → A q := pu_free hS hA
                      refine va_calli (va_runV (As := []) (rest := []) ⟨hx, hb, hml, hown, hts⟩ (c_X11_sign_f l dC dI H.size g0 pq cp z_72 fa ((((k + 1) + 1) + 1) + 1) n hkn_z_72 hn ea_z_72 es_z_72 f hb_z_72) (cwV 0 hts gX11_unit_X11_sign rfl rfl rfl (by decide +kernel) ⟨(Nat.le_of_ble_eq_true rfl), (Nat.le_of_ble_eq_true rfl)⟩) (pr_V (r := (RX11, TX11, 63)) hP hK hD 0 11 rfl rfl) rfl rfl hl.1 rfl (lv_room (Nat.le_of_ble_eq_true rfl)) dX11_unit_220 ⟨(Nat.le_of_ble_eq_true rfl), (Nat.le_of_ble_eq_true rfl)⟩) hS (fun q _ h => hFc q h) hFc (fun r_75 u t H locs ht hvm w_74 hB hz1 hk1 hS => ?_)
                      have hP := pu_keep hP hk1
                      clear hk1 hz1 hvm hB ht hFc
                      subst w_74
                      refine lv_bipush (v := 48) hx hb dX11_unit_223 (by decide +kernel) ?_
                      refine lv_icmp_lt (tgt := 266) hx hb dX11_unit_225 (by decide +kernel) (fun c_76 => ?_) (fun c_76 => ?_)
                      · refine lv_iload_n hx hb dX11_unit_266 rfl (lv_at hl 0 rfl) ?_
                        refine lv_if_ne (tgt := 277) hx hb dX11_unit_267 (by decide +kernel) (fun _ => ?_) (fun c_77 => absurd c_77 (by decide +kernel))
                        refine lv_iload_n hx hb dX11_unit_277 rfl (lv_at hl 1 rfl) ?_
                        exact W.iret (v := (((10 * (((10 * (((10 * ((0 + (cI f n k)) - 48)) + (cI f n (k + 1))) - 48)) + (cI f n ((k + 1) + 1))) - 48)) + (cI f n (((k + 1) + 1) + 1))) - 48)) hx hb hr (fun t ht hW => ⟨⟨(((10 * (((10 * (((10 * ((0 + (cI f n k)) - 48)) + (cI f n (k + 1))) - 48)) + (cI f n ((k + 1) + 1))) - 48)) + (cI f n (((k + 1) + 1) + 1))) - 48), (z_72, fa), rfl, ⟨⟨((((k + 1) + 1) + 1) + 1), true, _, (congrFun pU_0 _).trans (uX_n hl_6 c_12 ((pNum_s (Int32.not_lt.mp c_16) (Int32.not_lt.mp c_26)).trans ((pNum_s (Int32.not_lt.mp c_40) (Int32.not_lt.mp c_44)).trans ((pNum_s (Int32.not_lt.mp c_52) (Int32.not_lt.mp c_56)).trans ((pNum_s (Int32.not_lt.mp c_64) (Int32.not_lt.mp c_68)).trans (pNum_e (fun h => absurd c_76 (Int32.not_lt.mpr h.1))))))) (by omega)), by omega, hkn_z_72, ea_z_72, (Or.inr ⟨rfl, we_z_72, de_z_72, rfl⟩), sm_z_72⟩, rfl⟩, ⟨by rw [ht]; exact hP, va_K.moved hW.alike hK, hD⟩⟩, hS.F ht⟩) hS.2.2 dX11_unit_278
                      · refine lv_aload_n hx hb dX11_unit_228 rfl (lv_at hl 3 rfl) ?_
                        have hFc : ∀ q, va_A [] H.size q → A q := pu_free hS hA
                        refine va_calli (va_runV (As := []) (rest := []) ⟨hx, hb, hml, hown, hts⟩ (c_X11_sign_f l dC dI H.size g0 pq cp z_72 fa ((((k + 1) + 1) + 1) + 1) n hkn_z_72 hn ea_z_72 es_z_72 f hb_z_72) (cwV 0 hts gX11_unit_X11_sign rfl rfl rfl (by decide +kernel) ⟨(Nat.le_of_ble_eq_true rfl), (Nat.le_of_ble_eq_true rfl)⟩) (pr_V (r := (RX11, TX11, 63)) hP hK hD 0 11 rfl rfl) rfl rfl hl.1 rfl (lv_room (Nat.le_of_ble_eq_true rfl)) dX11_unit_229 ⟨(Nat.le_of_ble_eq_true rfl), (Nat.le_of_ble_eq_true rfl)⟩) hS (fun q _ h => hFc q h) hFc (fun r_79 u t H locs ht hvm w_78 hB hz1 hk1 hS => ?_)
                        have hP := pu_keep hP hk1
                        clear hk1 hz1 hvm hB ht hFc
                        subst w_78
                        refine lv_bipush (v := 57) hx hb dX11_unit_232 (by decide +kernel) ?_
                        refine lv_icmp_gt (tgt := 266) hx hb dX11_unit_234 (by decide +kernel) (fun c_80 => ?_) (fun c_80 => ?_)
                        · refine lv_iload_n hx hb dX11_unit_266 rfl (lv_at hl 0 rfl) ?_
                          refine lv_if_ne (tgt := 277) hx hb dX11_unit_267 (by decide +kernel) (fun _ => ?_) (fun c_81 => absurd c_81 (by decide +kernel))
                          refine lv_iload_n hx hb dX11_unit_277 rfl (lv_at hl 1 rfl) ?_
                          exact W.iret (v := (((10 * (((10 * (((10 * ((0 + (cI f n k)) - 48)) + (cI f n (k + 1))) - 48)) + (cI f n ((k + 1) + 1))) - 48)) + (cI f n (((k + 1) + 1) + 1))) - 48)) hx hb hr (fun t ht hW => ⟨⟨(((10 * (((10 * (((10 * ((0 + (cI f n k)) - 48)) + (cI f n (k + 1))) - 48)) + (cI f n ((k + 1) + 1))) - 48)) + (cI f n (((k + 1) + 1) + 1))) - 48), (z_72, fa), rfl, ⟨⟨((((k + 1) + 1) + 1) + 1), true, _, (congrFun pU_0 _).trans (uX_n hl_6 c_12 ((pNum_s (Int32.not_lt.mp c_16) (Int32.not_lt.mp c_26)).trans ((pNum_s (Int32.not_lt.mp c_40) (Int32.not_lt.mp c_44)).trans ((pNum_s (Int32.not_lt.mp c_52) (Int32.not_lt.mp c_56)).trans ((pNum_s (Int32.not_lt.mp c_64) (Int32.not_lt.mp c_68)).trans (pNum_e (fun h => absurd c_80 (Int32.not_lt.mpr h.2))))))) (by omega)), by omega, hkn_z_72, ea_z_72, (Or.inr ⟨rfl, we_z_72, de_z_72, rfl⟩), sm_z_72⟩, rfl⟩, ⟨by rw [ht]; exact hP, va_K.moved hW.alike hK, hD⟩⟩, hS.F ht⟩) hS.2.2 dX11_unit_278
                        · refine lv_bipush (v := 10) hx hb dX11_unit_237 (by decide +kernel) ?_
                          refine lv_iload_n hx hb dX11_unit_239 rfl (lv_at hl 1 rfl) ?_
                          refine lv_imul hx hb dX11_unit_240 ?_
                          refine lv_aload_n hx hb dX11_unit_241 rfl (lv_at hl 3 rfl) ?_
                          have hFc : ∀ q, va_A [] H.size q → A q := pu_free hS hA
                          refine va_calli (va_runV (As := []) (rest := [.int (10 * (((10 * (((10 * (((10 * ((0 + (cI f n k)) - 48)) + (cI f n (k + 1))) - 48)) + (cI f n ((k + 1) + 1))) - 48)) + (cI f n (((k + 1) + 1) + 1))) - 48))]) ⟨hx, hb, hml, hown, hts⟩ (c_X11_sign_f l dC dI H.size g0 pq cp z_72 fa ((((k + 1) + 1) + 1) + 1) n hkn_z_72 hn ea_z_72 es_z_72 f hb_z_72) (cwV 0 hts gX11_unit_X11_sign rfl rfl rfl (by decide +kernel) ⟨(Nat.le_of_ble_eq_true rfl), (Nat.le_of_ble_eq_true rfl)⟩) (pr_V (r := (RX11, TX11, 63)) hP hK hD 0 11 rfl rfl) rfl rfl hl.1 rfl (lv_room (Nat.le_of_ble_eq_true rfl)) dX11_unit_242 ⟨(Nat.le_of_ble_eq_true rfl), (Nat.le_of_ble_eq_true rfl)⟩) hS (fun q _ h => hFc q h) hFc (fun r_83 u t H locs ht hvm w_82 hB hz1 hk1 hS => ?_)
                          have hP := pu_keep hP hk1
                          clear hk1 hz1 hvm hB ht hFc
                          subst w_82
                          refine lv_iadd hx hb dX11_unit_245 ?_
                          refine lv_bipush (v := 48) hx hb dX11_unit_246 (by decide +kernel) ?_
                          refine lv_isub hx hb dX11_unit_248 ?_
                          refine lv_istore_n (lv' := [(2, .int (((10 * (((10 * (((10 * (((10 * ((0 + (cI f n k)) - 48)) + (cI f n (k + 1))) - 48)) + (cI f n ((k + 1) + 1))) - 48)) + (cI f n (((k + 1) + 1) + 1))) - 48)) + (cI f n ((((k + 1) + 1) + 1) + 1))) - 48)), (3, .int 4), (1, .int (cI f n k)), (0, .ref g0)]) hx hb dX11_unit_249 rfl hl (by decide +kernel) rfl (fun ls hl => ?_)
                          refine lv_aload_n hx hb dX11_unit_250 rfl (lv_at hl 3 rfl) ?_
                          refine lv_dup hx hb dX11_unit_251 rfl ?_
                          refine va_get (D := (dC, dI)) (ci := 11) (v := .int (z_72 47)) (C := RX11) (T := TX11) (N := 63) hx hb hts in_wsX11_unit_X11 hown hK hP 0 rfl rfl 47 (by decide +kernel) (hts (.fieldLink RX11 210 "ShipOfficeModel" "at" "I") iw_X11_unit_2) (fun _ h9 => h9) rfl dX11_unit_252 ?_
                          refine lv_iconst (v := 1) hx hb dX11_unit_255 (by decide +kernel) ?_
                          refine lv_iadd hx hb dX11_unit_256 ?_
                          refine lv_topi (fun y ey => ?_)
                          obtain rfl : y = nI (((((k + 1) + 1) + 1) + 1) + 1) := ey.trans (by rw [ea_z_72]; exact nI_1 _)
                          refine va_put (D := (dC, dI)) (ci := 11) (v := .int (nI (((((k + 1) + 1) + 1) + 1) + 1))) (ty := .int) (C := RX11) (T := TX11) (N := 63) hx hb hts in_wsX11_unit_X11 tyX11 tyX11_ok nmX11 hown hK hP hD hS 0 rfl rfl 47 (by decide +kernel) (hts (.fieldLink RX11 210 "ShipOfficeModel" "at" "I") iw_X11_unit_2) (fun _ h9 => h9) rfl (by decide +kernel) rfl rfl (Nat.le_of_ble_eq_true rfl) dX11_unit_257 (fun H locs hP hD hS => ?_)
                          have hP : va_P (dC, dI) vwCl (mW g0 pq cp (upd z_72 47 (nI (((((k + 1) + 1) + 1) + 1) + 1))) fa) H := hP
                          have hD : va_D A (mW g0 pq cp (upd z_72 47 (nI (((((k + 1) + 1) + 1) + 1) + 1))) fa) := hD
                          obtain ⟨z_84, ez_84⟩ : ∃ zq, zq = (upd z_72 47 (nI (((((k + 1) + 1) + 1) + 1) + 1))) := ⟨_, rfl⟩
                          rw [← ez_84] at hP hD
                          have ea_z_84 : z_84 47 = nI (((((k + 1) + 1) + 1) + 1) + 1) := by rw [ez_84]; rfl
                          have es_z_84 : z_84 50 = nI n := by rw [ez_84]; exact es_z_72
                          have hb_z_84 : hbF (z_84 49) fa f n := by rw [ez_84]; exact hb_z_72
                          have we_z_84 : z_84 51 = 1 := by rw [ez_84]; exact we_z_72
                          have de_z_84 : z_84 48 = nI 5 := by rw [ez_84]; exact de_z_72
                          have sm_z_84 : ∀ i, i ≠ 47 → i ≠ 48 → i ≠ 51 → z_84 i = v i := by intro i h1 h2 h3; rw [ez_84]; exact (if_neg h1).trans (sm_z_72 i h1 h2 h3)
                          have hkn_z_84 : (((((k + 1) + 1) + 1) + 1) + 1) ≤ n := (cI_nl c_76)
                          have hk0_z_84 : k ≤ (((((k + 1) + 1) + 1) + 1) + 1) := by omega
                          refine lv_iinc (v := 5) (lv' := [(3, .int 5), (2, .int (((10 * (((10 * (((10 * (((10 * ((0 + (cI f n k)) - 48)) + (cI f n (k + 1))) - 48)) + (cI f n ((k + 1) + 1))) - 48)) + (cI f n (((k + 1) + 1) + 1))) - 48)) + (cI f n ((((k + 1) + 1) + 1) + 1))) - 48)), (1, .int (cI f n k)), (0, .ref g0)]) hx hb dX11_unit_260 hl (k := 1) rfl (by decide +kernel) (by decide +kernel) rfl (fun ls hl => ?_)
                          refine lv_goto (tgt := 214) hx hb dX11_unit_263 (by decide +kernel) ?_
                          refine lv_iload_n hx hb dX11_unit_214 rfl (lv_at hl 0 rfl) ?_
                          refine lv_iconst (v := 5) hx hb dX11_unit_215 (by decide +kernel) ?_
                          refine lv_icmp_ge (tgt := 266) hx hb dX11_unit_216 (by decide +kernel) (fun _ => ?_) (fun c_85 => absurd c_85 (by decide +kernel))
                          refine lv_iload_n hx hb dX11_unit_266 rfl (lv_at hl 0 rfl) ?_
                          refine lv_if_ne (tgt := 277) hx hb dX11_unit_267 (by decide +kernel) (fun _ => ?_) (fun c_86 => absurd c_86 (by decide +kernel))
                          refine lv_iload_n hx hb dX11_unit_277 rfl (lv_at hl 1 rfl) ?_
                          exact W.iret (v := (((10 * (((10 * (((10 * (((10 * ((0 + (cI f n k)) - 48)) + (cI f n (k + 1))) - 48)) + (cI f n ((k + 1) + 1))) - 48)) + (cI f n (((k + 1) + 1) + 1))) - 48)) + (cI f n ((((k + 1) + 1) + 1) + 1))) - 48)) hx hb hr (fun t ht hW => ⟨⟨(((10 * (((10 * (((10 * (((10 * ((0 + (cI f n k)) - 48)) + (cI f n (k + 1))) - 48)) + (cI f n ((k + 1) + 1))) - 48)) + (cI f n (((k + 1) + 1) + 1))) - 48)) + (cI f n ((((k + 1) + 1) + 1) + 1))) - 48), (z_84, fa), rfl, ⟨⟨(((((k + 1) + 1) + 1) + 1) + 1), true, _, (congrFun pU_0 _).trans (uX_n hl_6 c_12 ((pNum_s (Int32.not_lt.mp c_16) (Int32.not_lt.mp c_26)).trans ((pNum_s (Int32.not_lt.mp c_40) (Int32.not_lt.mp c_44)).trans ((pNum_s (Int32.not_lt.mp c_52) (Int32.not_lt.mp c_56)).trans ((pNum_s (Int32.not_lt.mp c_64) (Int32.not_lt.mp c_68)).trans ((pNum_s (Int32.not_lt.mp c_76) (Int32.not_lt.mp c_80)).trans rfl))))) (by omega)), by omega, hkn_z_84, ea_z_84, (Or.inr ⟨rfl, we_z_84, de_z_84, rfl⟩), sm_z_84⟩, rfl⟩, ⟨by rw [ht]; exact hP, va_K.moved hW.alike hK, hD⟩⟩, hS.F ht⟩) hS.2.2 dX11_unit_278
    · refine lv_aload_n hx hb dX11_unit_48 rfl (lv_at hl 1 rfl) ?_
      refine va_get (D := (dC, dI)) (ci := 11) (v := .int (v 48)) (C := RX11) (T := TX11) (N := 63) hx hb hts in_wsX11_unit_X11 hown hK hP 0 rfl rfl 48 (by decide +kernel) (hts (.fieldLink RX11 244 "ShipOfficeModel" "deep" "I") iw_X11_unit_3) (fun _ h9 => h9) rfl dX11_unit_49 ?_
      refine lv_topi (fun y ey => ?_)
      obtain rfl : y = 5 := ey.trans (hde.trans (by decide +kernel))
      refine lv_iconst (v := 5) hx hb dX11_unit_52 (by decide +kernel) ?_
      refine lv_icmp_ne (tgt := 61) hx hb dX11_unit_53 (by decide +kernel) (fun c_87 => absurd c_87 (by decide +kernel)) (fun _ => ?_)
      refine lv_aload_n hx hb dX11_unit_56 rfl (lv_at hl 1 rfl) ?_
      have hFc := va_free (wc := (mW g0 pq cp v fa)) hD hS hA (List.range 48) rfl
      refine va_calli (va_runV (As := []) (rest := []) ⟨hx, hb, hml, hown, hts⟩ (c_X11_breaks l dC dI H.size g0 pq cp v fa) (cwV 0 hts gX11_unit_X11_breaks rfl rfl rfl (by decide +kernel) ⟨(Nat.le_of_ble_eq_true rfl), (Nat.le_of_ble_eq_true rfl)⟩) (pr_V (r := (RX11, TX11, 63)) hP hK hD 0 11 rfl rfl) rfl rfl hl.1 rfl (lv_room (Nat.le_of_ble_eq_true rfl)) dX11_unit_57 ⟨(Nat.le_of_ble_eq_true rfl), (Nat.le_of_ble_eq_true rfl)⟩) hS (fun q _ h => hFc q h) hFc (fun r_89 u t H locs ht hvm w_88 hB hz1 hk1 hS => ?_)
      obtain ⟨v_90, fa_91⟩ := u
      obtain ⟨hP1, hK1, hD1⟩ := hB
      rw [ht] at hP1
      have hP : va_P (dC, dI) vwCl (mW g0 pq cp v_90 fa_91) H := hP1
      have hD : va_D A (mW g0 pq cp v_90 fa_91) := hD1.weaken (fun _ _ _ h => hFc _ h)
      clear hP1 hK1 hD1 hk1 hz1 hvm ht hFc
      obtain ⟨rfl, ev_92, ef_93⟩ := w_88
      dsimp only at ev_92 ef_93
      have ef2 := ef_93.symm
      subst ef2
      have ea_v_90 : v_90 47 = nI k := by rw [ev_92]; exact ea
      have es_v_90 : v_90 50 = nI n := by rw [ev_92]; exact es
      have hb_v_90 : hbF (v_90 49) fa f n := by rw [ev_92]; exact hb0
      have we_v_90 : v_90 51 = 0 := by rw [ev_92]; rfl
      have de_v_90 : v_90 48 = nI 5 := by rw [ev_92]; exact hde
      have sm_v_90 : ∀ i, i ≠ 47 → i ≠ 48 → i ≠ 51 → v_90 i = v i := by intro i h1 h2 h3; rw [ev_92]; exact (if_neg h3).trans ((fun i _ _ _ => rfl) i h1 h2 h3)
      exact W.iret (v := 0) hx hb hr (fun t ht hW => ⟨⟨0, (v_90, fa), rfl, ⟨⟨k, false, _, (congrFun pU_0 _).trans ((uX_b c_12).trans rfl), by omega, hk, ea_v_90, (Or.inl ⟨rfl, we_v_90⟩), sm_v_90⟩, rfl⟩, ⟨by rw [ht]; exact hP, va_K.moved hW.alike hK, hD⟩⟩, hS.F ht⟩) hS.2.2 dX11_unit_60
set_option maxHeartbeats 4000000 in
set_option maxRecDepth 100000 in
theorem c_X11_term_5f (l : Launch) (dC : Nat → ClassId) (dI : Nat → Nat → Nat) (sz : Nat) (g0 : Nat) (pq : Nat → Nat) (cp : Nat → ClassId) (v : Nat → Int32) (fa : Nat → Nat → Int32) (k n : Nat) (hk : k ≤ n) (hn : n ≤ 60) (ea : v 47 = nI k) (es : v 50 = nI n) (f : Nat → Int32) (hb0 : hbF (v 49) fa f n) (hwe : v 51 = 1) (hde : v 48 = nI 5) : Met l yX11_term wsX11_term ({ frames := 2, cells := 0, slots := 0, locals := 45 }) (va_Pc [.ref g0] (pcW (dC, dI) (mT cp) (mW g0 pq cp v fa) sz)) (va_Qi (fun (r : Int32) (u : (Nat → Int32) × (Nat → Nat → Int32)) => pzf (mvT (mL fa) (cI f n) 0 k) v k n 5 u.1 r ∧ u.2 = fa) (fun u t => va_P (dC, dI) vwCl (mW g0 pq cp u.1 u.2) t.heap ∧ va_K (dC, dI) vwCl (mT cp) t ∧ va_D (va_A (mW g0 pq cp v fa) sz) (mW g0 pq cp u.1 u.2)) (va_A (mW g0 pq cp v fa) sz)) 0 0 (va_A (mW g0 pq cp v fa) sz) := by
  refine Met.ofW (cc := cX11_term) (maxL := 4) (ret := (some .int)) (by decide +kernel) rfl ?_
  intro p e s m args below meth c s₁ B hml hv
  obtain ⟨rfl, hsz, hP, hK, hD0⟩ := hv
  have hx := B.exec
  have hb := B.bytes
  have hr := B.returns
  have hts := atoms_spec (ws := wsX11_term) B.pre
  have hown : s.vm.findClass RX11 = some m.cls := findClass_of_methodNamed B.named
  have hlocks := B.notSynchronized
  subst hsz
  have hD := hD0.self (sz := s.heap.size)
  generalize hAe : va_A (mW g0 pq cp v fa) s.heap.size = A at hD ⊢
  have hA : ∀ q : Nat, s.heap.size ≤ q → A q := fun q h => by rw [← hAe]; exact Or.inr h
  have hS : va_S A s.heap s.heap [] := va_S.rf
  have hP : va_P (dC, dI) vwCl (mW g0 pq cp v fa) s.heap := hP
  have hl := lv_entry ([.ref g0]) (n := 4) (Nat.le_of_ble_eq_true rfl)
  rw [lg_entry_eq]
  generalize (lg_sl ([.ref g0]) ++ List.replicate (4 - (lg_sl ([.ref g0])).length) Slot.unset).toArray = ls at hl ⊢
  have hl : lv_has ls 4 [(0, .ref g0)] := hl
  refine lv_aload_n hx hb dX11_term_0 rfl (lv_at hl 0 rfl) ?_
  have hFc := va_free (wc := (mW g0 pq cp v fa)) hD hS hA (List.range 48) rfl
  refine va_calli (va_runV (As := []) (rest := []) ⟨hx, hb, hml, hown, hts⟩ (c_X11_unit_5f l dC dI s.heap.size g0 pq cp v fa k n hk hn ea es f hb0 hwe hde) (cwV 0 hts gX11_term_X11_unit rfl rfl rfl (by decide +kernel) ⟨(Nat.le_of_ble_eq_true rfl), (Nat.le_of_ble_eq_true rfl)⟩) (pr_V (r := (RX11, TX11, 63)) hP hK hD 0 11 rfl rfl) rfl rfl hl.1 rfl (lv_room (Nat.le_of_ble_eq_true rfl)) dX11_term_1 ⟨(Nat.le_of_ble_eq_true rfl), (Nat.le_of_ble_eq_true rfl)⟩) hS (fun q _ h => hFc q h) hFc (fun r_2 u t H locs ht hvm w_1 hB hz1 hk1 hS => ?_)
  obtain ⟨v_3, fa_4⟩ := u
  obtain ⟨hP1, hK1, hD1⟩ := hB
  rw [ht] at hP1
  have hP : va_P (dC, dI) vwCl (mW g0 pq cp v_3 fa_4) H := hP1
  have hD : va_D A (mW g0 pq cp v_3 fa_4) := hD1.weaken (fun _ _ _ h => hFc _ h)
  clear hP1 hK1 hD1 hk1 hz1 hvm ht hFc
  obtain ⟨⟨k_5, w_6, y_7, er_8, ha_9, hb_10, ea_11, wd_12, sm_13⟩, ef_14⟩ := w_1
  dsimp only at ea_11 wd_12 sm_13 ef_14
  have ef2 := ef_14.symm
  subst ef2
  have es_v_3 : v_3 50 = nI n := (sm_13 50 (by decide +kernel) (by decide +kernel) (by decide +kernel)).trans es
  have hb_v_3 : hbF (v_3 49) fa f n := by rw [sm_13 49 (by decide +kernel) (by decide +kernel) (by decide +kernel)]; exact hb0
  have sm_v_3 : ∀ i, i ≠ 47 → i ≠ 48 → i ≠ 51 → v_3 i = v i := fun i h1 h2 h3 => (sm_13 i h1 h2 h3).trans ((fun i _ _ _ => rfl) i h1 h2 h3)
  refine lv_istore_n (lv' := [(1, .int r_2), (0, .ref g0)]) hx hb dX11_term_4 rfl hl (by decide +kernel) rfl (fun ls hl => ?_)
  have hloop : ∀ (N : Nat) (z : Nat → Int32) (kz : Nat) (wz : Bool) (yz x : Int32) (H : Heap) (locs : List Loc) (ls : Array Slot), n ≤ kz + N → k ≤ kz → kz ≤ n → z 47 = nI kz → z 50 = nI n → hbF (z 49) fa f n → pL (mvU (mL fa) (cI f n) 0) (cI f n) 42 47 mop N (kz, wz, yz) = mvT (mL fa) (cI f n) 0 k → ((wz = false ∧ z 51 = 0) ∨ (wz = true ∧ z 51 = 1 ∧ z 48 = nI 5 ∧ x = yz)) → (∀ i, i ≠ 47 → i ≠ 48 → i ≠ 51 → z i = v i) → va_P (dC, dI) vwCl (mW g0 pq cp z fa) H → va_D A (mW g0 pq cp z fa) → va_S A s.heap H locs → lv_has ls 4 [(1, .int x), (0, .ref g0)] → W p l e (headSpec wsX11_term { frames := 2, cells := 0, slots := 0, locals := 45 }).room s m #[Value.ref g0] below meth c H locs 0 0 (MQ below (va_Qi (fun (r : Int32) (u : (Nat → Int32) × (Nat → Nat → Int32)) => pzf (mvT (mL fa) (cI f n) 0 k) v k n 5 u.1 r ∧ u.2 = fa) (fun u t => va_P (dC, dI) vwCl (mW g0 pq cp u.1 u.2) t.heap ∧ va_K (dC, dI) vwCl (mT cp) t ∧ va_D A (mW g0 pq cp u.1 u.2)) A) #[Value.ref g0] s 0 0 A) (F0 m 5 ls []) := by
    intro N
    induction N with
    | zero =>
      intro z kz wz yz x H locs ls hN hk0 hkn eaz esz hbz hpl wdz smz hP hD hS hl
      refine lv_aload_n hx hb dX11_term_5 rfl (lv_at hl 1 rfl) ?_
      rcases wdz with ⟨ew_18, we_15⟩ | ⟨ew_18, we_16, de_17, rx_19⟩
      · subst ew_18
        refine va_get (D := (dC, dI)) (ci := 11) (v := .int (z 51)) (C := RX11) (T := TX11) (N := 63) hx hb hts in_wsX11_term_X11 hown hK hP 0 rfl rfl 51 (by decide +kernel) (hts (.fieldLink RX11 223 "ShipOfficeModel" "isWell" "Z") iw_X11_term_1) (fun _ h9 => h9) rfl dX11_term_6 ?_
        refine lv_topi (fun y ey => ?_)
        obtain rfl : y = 0 := ey.trans (we_15.trans (by decide +kernel))
        refine lv_if_eq (tgt := 87) hx hb dX11_term_9 (by decide +kernel) (fun _ => ?_) (fun c_20 => absurd c_20 (by decide +kernel))
        refine lv_iload_n hx hb dX11_term_87 rfl (lv_at hl 0 rfl) ?_
        exact W.iret (v := x) hx hb hr (fun t ht hW => ⟨⟨x, (z, fa), rfl, ⟨⟨kz, false, _, hpl.symm.trans (pL_stop (fun h => Bool.false_ne_true h.1)), by omega, hkn, eaz, (Or.inl ⟨rfl, we_15⟩), smz⟩, rfl⟩, ⟨by rw [ht]; exact hP, va_K.moved hW.alike hK, hD⟩⟩, hS.F ht⟩) hS.2.2 dX11_term_88
      · subst ew_18
        subst rx_19
        refine va_get (D := (dC, dI)) (ci := 11) (v := .int (z 51)) (C := RX11) (T := TX11) (N := 63) hx hb hts in_wsX11_term_X11 hown hK hP 0 rfl rfl 51 (by decide +kernel) (hts (.fieldLink RX11 223 "ShipOfficeModel" "isWell" "Z") iw_X11_term_1) (fun _ h9 => h9) rfl dX11_term_6 ?_
        refine lv_topi (fun y ey => ?_)
        obtain rfl : y = 1 := ey.trans (we_16.trans (by decide +kernel))
        refine lv_if_eq (tgt := 87) hx hb dX11_term_9 (by decide +kernel) (fun c_21 => absurd c_21 (by decide +kernel)) (fun _ => ?_)
        refine lv_aload_n hx hb dX11_term_12 rfl (lv_at hl 1 rfl) ?_
        have hFc : ∀ q, va_A [] H.size q → A q := pu_free hS hA
        refine va_calli (va_runV (As := []) (rest := []) ⟨hx, hb, hml, hown, hts⟩ (c_X11_sign_f l dC dI H.size g0 pq cp z fa kz n hkn hn eaz esz f hbz) (cwV 0 hts gX11_term_X11_sign rfl rfl rfl (by decide +kernel) ⟨(Nat.le_of_ble_eq_true rfl), (Nat.le_of_ble_eq_true rfl)⟩) (pr_V (r := (RX11, TX11, 63)) hP hK hD 0 11 rfl rfl) rfl rfl hl.1 rfl (lv_room (Nat.le_of_ble_eq_true rfl)) dX11_term_13 ⟨(Nat.le_of_ble_eq_true rfl), (Nat.le_of_ble_eq_true rfl)⟩) hS (fun q _ h => hFc q h) hFc (fun r_23 u t H locs ht hvm w_22 hB hz1 hk1 hS => ?_)
        have hP := pu_keep hP hk1
        clear hk1 hz1 hvm hB ht hFc
        subst w_22
        refine lv_bipush (v := 42) hx hb dX11_term_16 (by decide +kernel) ?_
        refine lv_icmp_eq (tgt := 30) hx hb dX11_term_18 (by decide +kernel) (fun c_24 => ?_) (fun c_24 => ?_)
        · have hlt : kz < n := (cI_in c_24 (by decide +kernel))
          exact absurd hlt (by omega)
        · refine lv_aload_n hx hb dX11_term_21 rfl (lv_at hl 1 rfl) ?_
          have hFc : ∀ q, va_A [] H.size q → A q := pu_free hS hA
          refine va_calli (va_runV (As := []) (rest := []) ⟨hx, hb, hml, hown, hts⟩ (c_X11_sign_f l dC dI H.size g0 pq cp z fa kz n hkn hn eaz esz f hbz) (cwV 0 hts gX11_term_X11_sign rfl rfl rfl (by decide +kernel) ⟨(Nat.le_of_ble_eq_true rfl), (Nat.le_of_ble_eq_true rfl)⟩) (pr_V (r := (RX11, TX11, 63)) hP hK hD 0 11 rfl rfl) rfl rfl hl.1 rfl (lv_room (Nat.le_of_ble_eq_true rfl)) dX11_term_22 ⟨(Nat.le_of_ble_eq_true rfl), (Nat.le_of_ble_eq_true rfl)⟩) hS (fun q _ h => hFc q h) hFc (fun r_26 u t H locs ht hvm w_25 hB hz1 hk1 hS => ?_)
          have hP := pu_keep hP hk1
          clear hk1 hz1 hvm hB ht hFc
          subst w_25
          refine lv_bipush (v := 47) hx hb dX11_term_25 (by decide +kernel) ?_
          refine lv_icmp_ne (tgt := 87) hx hb dX11_term_27 (by decide +kernel) (fun c_27 => ?_) (fun c_27 => ?_)
          · refine lv_iload_n hx hb dX11_term_87 rfl (lv_at hl 0 rfl) ?_
            exact W.iret (v := x) hx hb hr (fun t ht hW => ⟨⟨x, (z, fa), rfl, ⟨⟨kz, true, _, hpl.symm.trans (pL_stop (fun h => h.2.elim c_24 c_27)), by omega, hkn, eaz, (Or.inr ⟨rfl, we_16, de_17, rfl⟩), smz⟩, rfl⟩, ⟨by rw [ht]; exact hP, va_K.moved hW.alike hK, hD⟩⟩, hS.F ht⟩) hS.2.2 dX11_term_88
          · have hlt : kz < n := (cI_in c_27 (by decide +kernel))
            exact absurd hlt (by omega)
    | succ N ih =>
      intro z kz wz yz x H locs ls hN hk0 hkn eaz esz hbz hpl wdz smz hP hD hS hl
      refine lv_aload_n hx hb dX11_term_5 rfl (lv_at hl 1 rfl) ?_
      rcases wdz with ⟨ew_31, we_28⟩ | ⟨ew_31, we_29, de_30, rx_32⟩
      · subst ew_31
        refine va_get (D := (dC, dI)) (ci := 11) (v := .int (z 51)) (C := RX11) (T := TX11) (N := 63) hx hb hts in_wsX11_term_X11 hown hK hP 0 rfl rfl 51 (by decide +kernel) (hts (.fieldLink RX11 223 "ShipOfficeModel" "isWell" "Z") iw_X11_term_1) (fun _ h9 => h9) rfl dX11_term_6 ?_
        refine lv_topi (fun y ey => ?_)
        obtain rfl : y = 0 := ey.trans (we_28.trans (by decide +kernel))
        refine lv_if_eq (tgt := 87) hx hb dX11_term_9 (by decide +kernel) (fun _ => ?_) (fun c_33 => absurd c_33 (by decide +kernel))
        refine lv_iload_n hx hb dX11_term_87 rfl (lv_at hl 0 rfl) ?_
        exact W.iret (v := x) hx hb hr (fun t ht hW => ⟨⟨x, (z, fa), rfl, ⟨⟨kz, false, _, hpl.symm.trans (pL_stop (fun h => Bool.false_ne_true h.1)), by omega, hkn, eaz, (Or.inl ⟨rfl, we_28⟩), smz⟩, rfl⟩, ⟨by rw [ht]; exact hP, va_K.moved hW.alike hK, hD⟩⟩, hS.F ht⟩) hS.2.2 dX11_term_88
      · subst ew_31
        subst rx_32
        refine va_get (D := (dC, dI)) (ci := 11) (v := .int (z 51)) (C := RX11) (T := TX11) (N := 63) hx hb hts in_wsX11_term_X11 hown hK hP 0 rfl rfl 51 (by decide +kernel) (hts (.fieldLink RX11 223 "ShipOfficeModel" "isWell" "Z") iw_X11_term_1) (fun _ h9 => h9) rfl dX11_term_6 ?_
        refine lv_topi (fun y ey => ?_)
        obtain rfl : y = 1 := ey.trans (we_29.trans (by decide +kernel))
        refine lv_if_eq (tgt := 87) hx hb dX11_term_9 (by decide +kernel) (fun c_34 => absurd c_34 (by decide +kernel)) (fun _ => ?_)
        refine lv_aload_n hx hb dX11_term_12 rfl (lv_at hl 1 rfl) ?_
        have hFc : ∀ q, va_A [] H.size q → A q := pu_free hS hA
        refine va_calli (va_runV (As := []) (rest := []) ⟨hx, hb, hml, hown, hts⟩ (c_X11_sign_f l dC dI H.size g0 pq cp z fa kz n hkn hn eaz esz f hbz) (cwV 0 hts gX11_term_X11_sign rfl rfl rfl (by decide +kernel) ⟨(Nat.le_of_ble_eq_true rfl), (Nat.le_of_ble_eq_true rfl)⟩) (pr_V (r := (RX11, TX11, 63)) hP hK hD 0 11 rfl rfl) rfl rfl hl.1 rfl (lv_room (Nat.le_of_ble_eq_true rfl)) dX11_term_13 ⟨(Nat.le_of_ble_eq_true rfl), (Nat.le_of_ble_eq_true rfl)⟩) hS (fun q _ h => hFc q h) hFc (fun r_36 u t H locs ht hvm w_35 hB hz1 hk1 hS => ?_)
        have hP := pu_keep hP hk1
        clear hk1 hz1 hvm hB ht hFc
        subst w_35
        refine lv_bipush (v := 42) hx hb dX11_term_16 (by decide +kernel) ?_
        refine lv_icmp_eq (tgt := 30) hx hb dX11_term_18 (by decide +kernel) (fun c_37 => ?_) (fun c_37 => ?_)
        · refine lv_aload_n hx hb dX11_term_30 rfl (lv_at hl 1 rfl) ?_
          have hFc : ∀ q, va_A [] H.size q → A q := pu_free hS hA
          refine va_calli (va_runV (As := []) (rest := []) ⟨hx, hb, hml, hown, hts⟩ (c_X11_sign_f l dC dI H.size g0 pq cp z fa kz n hkn hn eaz esz f hbz) (cwV 0 hts gX11_term_X11_sign rfl rfl rfl (by decide +kernel) ⟨(Nat.le_of_ble_eq_true rfl), (Nat.le_of_ble_eq_true rfl)⟩) (pr_V (r := (RX11, TX11, 63)) hP hK hD 0 11 rfl rfl) rfl rfl hl.1 rfl (lv_room (Nat.le_of_ble_eq_true rfl)) dX11_term_31 ⟨(Nat.le_of_ble_eq_true rfl), (Nat.le_of_ble_eq_true rfl)⟩) hS (fun q _ h => hFc q h) hFc (fun r_39 u t H locs ht hvm w_38 hB hz1 hk1 hS => ?_)
          have hP := pu_keep hP hk1
          clear hk1 hz1 hvm hB ht hFc
          subst w_38
          refine lv_istore_n (lv' := [(2, .int (cI f n kz)), (1, .int x), (0, .ref g0)]) hx hb dX11_term_34 rfl hl (by decide +kernel) rfl (fun ls hl => ?_)
          refine lv_aload_n hx hb dX11_term_35 rfl (lv_at hl 2 rfl) ?_
          refine lv_dup hx hb dX11_term_36 rfl ?_
          refine va_get (D := (dC, dI)) (ci := 11) (v := .int (z 47)) (C := RX11) (T := TX11) (N := 63) hx hb hts in_wsX11_term_X11 hown hK hP 0 rfl rfl 47 (by decide +kernel) (hts (.fieldLink RX11 210 "ShipOfficeModel" "at" "I") iw_X11_term_2) (fun _ h9 => h9) rfl dX11_term_37 ?_
          refine lv_iconst (v := 1) hx hb dX11_term_40 (by decide +kernel) ?_
          refine lv_iadd hx hb dX11_term_41 ?_
          refine lv_topi (fun y ey => ?_)
          obtain rfl : y = nI (kz + 1) := ey.trans (by rw [eaz]; exact nI_1 _)
          refine va_put (D := (dC, dI)) (ci := 11) (v := .int (nI (kz + 1))) (ty := .int) (C := RX11) (T := TX11) (N := 63) hx hb hts in_wsX11_term_X11 tyX11 tyX11_ok nmX11 hown hK hP hD hS 0 rfl rfl 47 (by decide +kernel) (hts (.fieldLink RX11 210 "ShipOfficeModel" "at" "I") iw_X11_term_2) (fun _ h9 => h9) rfl (by decide +kernel) rfl rfl (Nat.le_of_ble_eq_true rfl) dX11_term_42 (fun H locs hP hD hS => ?_)
          have hP : va_P (dC, dI) vwCl (mW g0 pq cp (upd z 47 (nI (kz + 1))) fa) H := hP
          have hD : va_D A (mW g0 pq cp (upd z 47 (nI (kz + 1))) fa) := hD
          obtain ⟨z_40, ez_40⟩ : ∃ zq, zq = (upd z 47 (nI (kz + 1))) := ⟨_, rfl⟩
          rw [← ez_40] at hP hD
          have ea_z_40 : z_40 47 = nI (kz + 1) := by rw [ez_40]; rfl
          have es_z_40 : z_40 50 = nI n := by rw [ez_40]; exact esz
          have hb_z_40 : hbF (z_40 49) fa f n := by rw [ez_40]; exact hbz
          have we_z_40 : z_40 51 = 1 := by rw [ez_40]; exact we_29
          have de_z_40 : z_40 48 = nI 5 := by rw [ez_40]; exact de_30
          have sm_z_40 : ∀ i, i ≠ 47 → i ≠ 48 → i ≠ 51 → z_40 i = v i := by intro i h1 h2 h3; rw [ez_40]; exact (if_neg h1).trans (smz i h1 h2 h3)
          have hkn_z_40 : (kz + 1) ≤ n := (cI_in c_37 (by decide +kernel))
          have hk0_z_40 : k ≤ (kz + 1) := by omega
          refine lv_aload_n hx hb dX11_term_45 rfl (lv_at hl 2 rfl) ?_
          have hFc := va_free (wc := (mW g0 pq cp z_40 fa)) hD hS hA (List.range 48) rfl
          refine va_calli (va_runV (As := []) (rest := []) ⟨hx, hb, hml, hown, hts⟩ (c_X11_unit_5f l dC dI H.size g0 pq cp z_40 fa (kz + 1) n hkn_z_40 hn ea_z_40 es_z_40 f hb_z_40 we_z_40 de_z_40) (cwV 0 hts gX11_term_X11_unit rfl rfl rfl (by decide +kernel) ⟨(Nat.le_of_ble_eq_true rfl), (Nat.le_of_ble_eq_true rfl)⟩) (pr_V (r := (RX11, TX11, 63)) hP hK hD 0 11 rfl rfl) rfl rfl hl.1 rfl (lv_room (Nat.le_of_ble_eq_true rfl)) dX11_term_46 ⟨(Nat.le_of_ble_eq_true rfl), (Nat.le_of_ble_eq_true rfl)⟩) hS (fun q _ h => hFc q h) hFc (fun r_42 u t H locs ht hvm w_41 hB hz1 hk1 hS => ?_)
          obtain ⟨v_43, fa_44⟩ := u
          obtain ⟨hP1, hK1, hD1⟩ := hB
          rw [ht] at hP1
          have hP : va_P (dC, dI) vwCl (mW g0 pq cp v_43 fa_44) H := hP1
          have hD : va_D A (mW g0 pq cp v_43 fa_44) := hD1.weaken (fun _ _ _ h => hFc _ h)
          clear hP1 hK1 hD1 hk1 hz1 hvm ht hFc
          obtain ⟨⟨k_45, w_46, y_47, er_48, ha_49, hb_50, ea_51, wd_52, sm_53⟩, ef_54⟩ := w_41
          dsimp only at ea_51 wd_52 sm_53 ef_54
          have ef2 := ef_54.symm
          subst ef2
          have es_v_43 : v_43 50 = nI n := (sm_53 50 (by decide +kernel) (by decide +kernel) (by decide +kernel)).trans es_z_40
          have hb_v_43 : hbF (v_43 49) fa f n := by rw [sm_53 49 (by decide +kernel) (by decide +kernel) (by decide +kernel)]; exact hb_z_40
          have sm_v_43 : ∀ i, i ≠ 47 → i ≠ 48 → i ≠ 51 → v_43 i = v i := fun i h1 h2 h3 => (sm_53 i h1 h2 h3).trans (sm_z_40 i h1 h2 h3)
          refine lv_istore_n (lv' := [(3, .int r_42), (2, .int (cI f n kz)), (1, .int x), (0, .ref g0)]) hx hb dX11_term_49 rfl hl (by decide +kernel) rfl (fun ls hl => ?_)
          refine lv_iload_n hx hb dX11_term_50 rfl (lv_at hl 1 rfl) ?_
          refine lv_bipush (v := 42) hx hb dX11_term_51 (by decide +kernel) ?_
          refine lv_icmp_ne (tgt := 67) hx hb dX11_term_53 (by decide +kernel) (fun c_55 => absurd c_55 (fun h => h c_37)) (fun c_55 => ?_)
          refine lv_iload_n hx hb dX11_term_56 rfl (lv_at hl 2 rfl) ?_
          refine lv_i2l (v := (x : Int32).toInt64) hx hb dX11_term_57 rfl ?_
          refine lv_iload_n hx hb dX11_term_58 rfl (lv_at hl 0 rfl) ?_
          refine lv_i2l (v := (r_42 : Int32).toInt64) hx hb dX11_term_59 rfl ?_
          refine lv_lmul hx hb dX11_term_60 ?_
          have hFc : ∀ q, va_A [] H.size q → A q := pu_free hS hA
          have hPc := hP.sub (ws' := []) [] rfl
          have hDc := hD.sub (ws' := []) [] (by decide +kernel) rfl
          have hKc := hK.sub (tys' := []) [] rfl
          refine va_calli (va_runS (As := [.long (((x : Int32).toInt64) * ((r_42 : Int32).toInt64))]) (rest := []) ⟨hx, hb, hml, hown, hts⟩ (c_X11_held_f l dC dI H.size (((x : Int32).toInt64) * ((r_42 : Int32).toInt64))) (va_cwS 1 hts gX11_term_X11_held rfl rfl rfl (by decide +kernel) ⟨(Nat.le_of_ble_eq_true rfl), (Nat.le_of_ble_eq_true rfl)⟩) (pr_S hPc hKc hDc) rfl rfl hl.1 rfl (lv_room (Nat.le_of_ble_eq_true rfl)) dX11_term_61 ⟨(Nat.le_of_ble_eq_true rfl), (Nat.le_of_ble_eq_true rfl)⟩) hS (fun q _ h => hFc q h) hFc (fun r_57 u t H locs ht hvm w_56 hB hz1 hk1 hS => ?_)
          have hP := pu_keep hP hk1
          clear hk1 hz1 hvm hB ht hFc hPc hDc hKc
          subst w_56
          refine lv_goto (tgt := 83) hx hb dX11_term_64 (by decide +kernel) ?_
          refine lv_istore_n (lv' := [(1, .int (hld (((x : Int32).toInt64) * ((r_42 : Int32).toInt64)))), (3, .int r_42), (2, .int (cI f n kz)), (0, .ref g0)]) hx hb dX11_term_83 rfl hl (by decide +kernel) rfl (fun ls hl => ?_)
          refine lv_goto (tgt := 5) hx hb dX11_term_84 (by decide +kernel) ?_
          exact ih v_43 k_45 w_46 (mop (cI f n kz) x y_47) (hld (((x : Int32).toInt64) * ((r_42 : Int32).toInt64))) _ _ ls (by omega) (by omega) hb_50 ea_51 es_v_43 hb_v_43 ((pL_go (Or.inl c_37) er_48).symm.trans hpl) (Or.imp_right (fun h => ⟨h.1, h.2.1, h.2.2.1, by rw [← h.2.2.2, c_37, mop_42]⟩) wd_52) sm_v_43 hP hD hS (lv_sub hl [0, 3] rfl)
        · refine lv_aload_n hx hb dX11_term_21 rfl (lv_at hl 1 rfl) ?_
          have hFc : ∀ q, va_A [] H.size q → A q := pu_free hS hA
          refine va_calli (va_runV (As := []) (rest := []) ⟨hx, hb, hml, hown, hts⟩ (c_X11_sign_f l dC dI H.size g0 pq cp z fa kz n hkn hn eaz esz f hbz) (cwV 0 hts gX11_term_X11_sign rfl rfl rfl (by decide +kernel) ⟨(Nat.le_of_ble_eq_true rfl), (Nat.le_of_ble_eq_true rfl)⟩) (pr_V (r := (RX11, TX11, 63)) hP hK hD 0 11 rfl rfl) rfl rfl hl.1 rfl (lv_room (Nat.le_of_ble_eq_true rfl)) dX11_term_22 ⟨(Nat.le_of_ble_eq_true rfl), (Nat.le_of_ble_eq_true rfl)⟩) hS (fun q _ h => hFc q h) hFc (fun r_59 u t H locs ht hvm w_58 hB hz1 hk1 hS => ?_)
          have hP := pu_keep hP hk1
          clear hk1 hz1 hvm hB ht hFc
          subst w_58
          refine lv_bipush (v := 47) hx hb dX11_term_25 (by decide +kernel) ?_
          refine lv_icmp_ne (tgt := 87) hx hb dX11_term_27 (by decide +kernel) (fun c_60 => ?_) (fun c_60 => ?_)
          · refine lv_iload_n hx hb dX11_term_87 rfl (lv_at hl 0 rfl) ?_
            exact W.iret (v := x) hx hb hr (fun t ht hW => ⟨⟨x, (z, fa), rfl, ⟨⟨kz, true, _, hpl.symm.trans (pL_stop (fun h => h.2.elim c_37 c_60)), by omega, hkn, eaz, (Or.inr ⟨rfl, we_29, de_30, rfl⟩), smz⟩, rfl⟩, ⟨by rw [ht]; exact hP, va_K.moved hW.alike hK, hD⟩⟩, hS.F ht⟩) hS.2.2 dX11_term_88
          · refine lv_aload_n hx hb dX11_term_30 rfl (lv_at hl 1 rfl) ?_
            have hFc : ∀ q, va_A [] H.size q → A q := pu_free hS hA
            refine va_calli (va_runV (As := []) (rest := []) ⟨hx, hb, hml, hown, hts⟩ (c_X11_sign_f l dC dI H.size g0 pq cp z fa kz n hkn hn eaz esz f hbz) (cwV 0 hts gX11_term_X11_sign rfl rfl rfl (by decide +kernel) ⟨(Nat.le_of_ble_eq_true rfl), (Nat.le_of_ble_eq_true rfl)⟩) (pr_V (r := (RX11, TX11, 63)) hP hK hD 0 11 rfl rfl) rfl rfl hl.1 rfl (lv_room (Nat.le_of_ble_eq_true rfl)) dX11_term_31 ⟨(Nat.le_of_ble_eq_true rfl), (Nat.le_of_ble_eq_true rfl)⟩) hS (fun q _ h => hFc q h) hFc (fun r_62 u t H locs ht hvm w_61 hB hz1 hk1 hS => ?_)
            have hP := pu_keep hP hk1
            clear hk1 hz1 hvm hB ht hFc
            subst w_61
            refine lv_istore_n (lv' := [(2, .int (cI f n kz)), (1, .int x), (0, .ref g0)]) hx hb dX11_term_34 rfl hl (by decide +kernel) rfl (fun ls hl => ?_)
            refine lv_aload_n hx hb dX11_term_35 rfl (lv_at hl 2 rfl) ?_
            refine lv_dup hx hb dX11_term_36 rfl ?_
            refine va_get (D := (dC, dI)) (ci := 11) (v := .int (z 47)) (C := RX11) (T := TX11) (N := 63) hx hb hts in_wsX11_term_X11 hown hK hP 0 rfl rfl 47 (by decide +kernel) (hts (.fieldLink RX11 210 "ShipOfficeModel" "at" "I") iw_X11_term_2) (fun _ h9 => h9) rfl dX11_term_37 ?_
            refine lv_iconst (v := 1) hx hb dX11_term_40 (by decide +kernel) ?_
            refine lv_iadd hx hb dX11_term_41 ?_
            refine lv_topi (fun y ey => ?_)
            obtain rfl : y = nI (kz + 1) := ey.trans (by rw [eaz]; exact nI_1 _)
            refine va_put (D := (dC, dI)) (ci := 11) (v := .int (nI (kz + 1))) (ty := .int) (C := RX11) (T := TX11) (N := 63) hx hb hts in_wsX11_term_X11 tyX11 tyX11_ok nmX11 hown hK hP hD hS 0 rfl rfl 47 (by decide +kernel) (hts (.fieldLink RX11 210 "ShipOfficeModel" "at" "I") iw_X11_term_2) (fun _ h9 => h9) rfl (by decide +kernel) rfl rfl (Nat.le_of_ble_eq_true rfl) dX11_term_42 (fun H locs hP hD hS => ?_)
            have hP : va_P (dC, dI) vwCl (mW g0 pq cp (upd z 47 (nI (kz + 1))) fa) H := hP
            have hD : va_D A (mW g0 pq cp (upd z 47 (nI (kz + 1))) fa) := hD
            obtain ⟨z_63, ez_63⟩ : ∃ zq, zq = (upd z 47 (nI (kz + 1))) := ⟨_, rfl⟩
            rw [← ez_63] at hP hD
            have ea_z_63 : z_63 47 = nI (kz + 1) := by rw [ez_63]; rfl
            have es_z_63 : z_63 50 = nI n := by rw [ez_63]; exact esz
            have hb_z_63 : hbF (z_63 49) fa f n := by rw [ez_63]; exact hbz
            have we_z_63 : z_63 51 = 1 := by rw [ez_63]; exact we_29
            have de_z_63 : z_63 48 = nI 5 := by rw [ez_63]; exact de_30
            have sm_z_63 : ∀ i, i ≠ 47 → i ≠ 48 → i ≠ 51 → z_63 i = v i := by intro i h1 h2 h3; rw [ez_63]; exact (if_neg h1).trans (smz i h1 h2 h3)
            have hkn_z_63 : (kz + 1) ≤ n := (cI_in c_60 (by decide +kernel))
            have hk0_z_63 : k ≤ (kz + 1) := by omega
            refine lv_aload_n hx hb dX11_term_45 rfl (lv_at hl 2 rfl) ?_
            have hFc := va_free (wc := (mW g0 pq cp z_63 fa)) hD hS hA (List.range 48) rfl
            refine va_calli (va_runV (As := []) (rest := []) ⟨hx, hb, hml, hown, hts⟩ (c_X11_unit_5f l dC dI H.size g0 pq cp z_63 fa (kz + 1) n hkn_z_63 hn ea_z_63 es_z_63 f hb_z_63 we_z_63 de_z_63) (cwV 0 hts gX11_term_X11_unit rfl rfl rfl (by decide +kernel) ⟨(Nat.le_of_ble_eq_true rfl), (Nat.le_of_ble_eq_true rfl)⟩) (pr_V (r := (RX11, TX11, 63)) hP hK hD 0 11 rfl rfl) rfl rfl hl.1 rfl (lv_room (Nat.le_of_ble_eq_true rfl)) dX11_term_46 ⟨(Nat.le_of_ble_eq_true rfl), (Nat.le_of_ble_eq_true rfl)⟩) hS (fun q _ h => hFc q h) hFc (fun r_65 u t H locs ht hvm w_64 hB hz1 hk1 hS => ?_)
            obtain ⟨v_66, fa_67⟩ := u
            obtain ⟨hP1, hK1, hD1⟩ := hB
            rw [ht] at hP1
            have hP : va_P (dC, dI) vwCl (mW g0 pq cp v_66 fa_67) H := hP1
            have hD : va_D A (mW g0 pq cp v_66 fa_67) := hD1.weaken (fun _ _ _ h => hFc _ h)
            clear hP1 hK1 hD1 hk1 hz1 hvm ht hFc
            obtain ⟨⟨k_68, w_69, y_70, er_71, ha_72, hb_73, ea_74, wd_75, sm_76⟩, ef_77⟩ := w_64
            dsimp only at ea_74 wd_75 sm_76 ef_77
            have ef2 := ef_77.symm
            subst ef2
            have es_v_66 : v_66 50 = nI n := (sm_76 50 (by decide +kernel) (by decide +kernel) (by decide +kernel)).trans es_z_63
            have hb_v_66 : hbF (v_66 49) fa f n := by rw [sm_76 49 (by decide +kernel) (by decide +kernel) (by decide +kernel)]; exact hb_z_63
            have sm_v_66 : ∀ i, i ≠ 47 → i ≠ 48 → i ≠ 51 → v_66 i = v i := fun i h1 h2 h3 => (sm_76 i h1 h2 h3).trans (sm_z_63 i h1 h2 h3)
            refine lv_istore_n (lv' := [(3, .int r_65), (2, .int (cI f n kz)), (1, .int x), (0, .ref g0)]) hx hb dX11_term_49 rfl hl (by decide +kernel) rfl (fun ls hl => ?_)
            refine lv_iload_n hx hb dX11_term_50 rfl (lv_at hl 1 rfl) ?_
            refine lv_bipush (v := 42) hx hb dX11_term_51 (by decide +kernel) ?_
            refine lv_icmp_ne (tgt := 67) hx hb dX11_term_53 (by decide +kernel) (fun c_78 => ?_) (fun c_78 => absurd c_78 (fun h => absurd (c_60.symm.trans h) (by decide +kernel)))
            refine lv_iload_n hx hb dX11_term_67 rfl (lv_at hl 0 rfl) ?_
            refine lv_if_ne (tgt := 75) hx hb dX11_term_68 (by decide +kernel) (fun c_79 => ?_) (fun c_79 => ?_)
            · refine lv_iload_n hx hb dX11_term_75 rfl (lv_at hl 2 rfl) ?_
              refine lv_i2l (v := (x : Int32).toInt64) hx hb dX11_term_76 rfl ?_
              refine lv_iload_n hx hb dX11_term_77 rfl (lv_at hl 0 rfl) ?_
              refine lv_i2l (v := (r_65 : Int32).toInt64) hx hb dX11_term_78 rfl ?_
              refine lv_ldiv hx hb dX11_term_79 (wd_ne c_79) ?_
              have hFc : ∀ q, va_A [] H.size q → A q := pu_free hS hA
              have hPc := hP.sub (ws' := []) [] rfl
              have hDc := hD.sub (ws' := []) [] (by decide +kernel) rfl
              have hKc := hK.sub (tys' := []) [] rfl
              refine va_calli (va_runS (As := [.long (((x : Int32).toInt64) / ((r_65 : Int32).toInt64))]) (rest := []) ⟨hx, hb, hml, hown, hts⟩ (c_X11_held_f l dC dI H.size (((x : Int32).toInt64) / ((r_65 : Int32).toInt64))) (va_cwS 1 hts gX11_term_X11_held rfl rfl rfl (by decide +kernel) ⟨(Nat.le_of_ble_eq_true rfl), (Nat.le_of_ble_eq_true rfl)⟩) (pr_S hPc hKc hDc) rfl rfl hl.1 rfl (lv_room (Nat.le_of_ble_eq_true rfl)) dX11_term_80 ⟨(Nat.le_of_ble_eq_true rfl), (Nat.le_of_ble_eq_true rfl)⟩) hS (fun q _ h => hFc q h) hFc (fun r_81 u t H locs ht hvm w_80 hB hz1 hk1 hS => ?_)
              have hP := pu_keep hP hk1
              clear hk1 hz1 hvm hB ht hFc hPc hDc hKc
              subst w_80
              refine lv_istore_n (lv' := [(1, .int (hld (((x : Int32).toInt64) / ((r_65 : Int32).toInt64)))), (3, .int r_65), (2, .int (cI f n kz)), (0, .ref g0)]) hx hb dX11_term_83 rfl hl (by decide +kernel) rfl (fun ls hl => ?_)
              refine lv_goto (tgt := 5) hx hb dX11_term_84 (by decide +kernel) ?_
              exact ih v_66 k_68 w_69 (mop (cI f n kz) x y_70) (hld (((x : Int32).toInt64) / ((r_65 : Int32).toInt64))) _ _ ls (by omega) (by omega) hb_73 ea_74 es_v_66 hb_v_66 ((pL_go (Or.inr c_60) er_71).symm.trans hpl) (Or.imp_right (fun h => ⟨h.1, h.2.1, h.2.2.1, by rw [← h.2.2.2, c_60, mop_47]; exact (if_neg c_79).symm⟩) wd_75) sm_v_66 hP hD hS (lv_sub hl [0, 3] rfl)
            · refine lv_iconst (v := 0) hx hb dX11_term_71 (by decide +kernel) ?_
              refine lv_goto (tgt := 83) hx hb dX11_term_72 (by decide +kernel) ?_
              refine lv_istore_n (lv' := [(1, .int 0), (3, .int r_65), (2, .int (cI f n kz)), (0, .ref g0)]) hx hb dX11_term_83 rfl hl (by decide +kernel) rfl (fun ls hl => ?_)
              refine lv_goto (tgt := 5) hx hb dX11_term_84 (by decide +kernel) ?_
              exact ih v_66 k_68 w_69 (mop (cI f n kz) x y_70) 0 _ _ ls (by omega) (by omega) hb_73 ea_74 es_v_66 hb_v_66 ((pL_go (Or.inr c_60) er_71).symm.trans hpl) (Or.imp_right (fun h => ⟨h.1, h.2.1, h.2.2.1, by rw [← h.2.2.2, c_60, mop_47]; exact (if_pos c_79).symm⟩) wd_75) sm_v_66 hP hD hS (lv_sub hl [0, 3] rfl)
  exact hloop 60 v_3 k_5 w_6 y_7 r_2 _ _ ls (by omega) (by omega) hb_10 ea_11 es_v_3 hb_v_3 ((congrArg (pL (mvU (mL fa) (cI f n) 0) (cI f n) 42 47 mop 60) er_8).symm) wd_12 sm_v_3 hP hD hS (lv_sub hl [0, 1] rfl)
set_option maxHeartbeats 4000000 in
set_option maxRecDepth 100000 in
theorem c_X11_sum_5f (l : Launch) (dC : Nat → ClassId) (dI : Nat → Nat → Nat) (sz : Nat) (g0 : Nat) (pq : Nat → Nat) (cp : Nat → ClassId) (v : Nat → Int32) (fa : Nat → Nat → Int32) (k n : Nat) (hk : k ≤ n) (hn : n ≤ 60) (ea : v 47 = nI k) (es : v 50 = nI n) (f : Nat → Int32) (hb0 : hbF (v 49) fa f n) (hwe : v 51 = 1) (hde : v 48 = nI 5) : Met l yX11_sum wsX11_sum ({ frames := 3, cells := 0, slots := 0, locals := 68 }) (va_Pc [.ref g0] (pcW (dC, dI) (mT cp) (mW g0 pq cp v fa) sz)) (va_Qi (fun (r : Int32) (u : (Nat → Int32) × (Nat → Nat → Int32)) => pzf (mvS (mL fa) (cI f n) 0 k) v k n 5 u.1 r ∧ u.2 = fa) (fun u t => va_P (dC, dI) vwCl (mW g0 pq cp u.1 u.2) t.heap ∧ va_K (dC, dI) vwCl (mT cp) t ∧ va_D (va_A (mW g0 pq cp v fa) sz) (mW g0 pq cp u.1 u.2)) (va_A (mW g0 pq cp v fa) sz)) 0 0 (va_A (mW g0 pq cp v fa) sz) := by
  refine Met.ofW (cc := cX11_sum) (maxL := 4) (ret := (some .int)) (by decide +kernel) rfl ?_
  intro p e s m args below meth c s₁ B hml hv
  obtain ⟨rfl, hsz, hP, hK, hD0⟩ := hv
  have hx := B.exec
  have hb := B.bytes
  have hr := B.returns
  have hts := atoms_spec (ws := wsX11_sum) B.pre
  have hown : s.vm.findClass RX11 = some m.cls := findClass_of_methodNamed B.named
  have hlocks := B.notSynchronized
  subst hsz
  have hD := hD0.self (sz := s.heap.size)
  generalize hAe : va_A (mW g0 pq cp v fa) s.heap.size = A at hD ⊢
  have hA : ∀ q : Nat, s.heap.size ≤ q → A q := fun q h => by rw [← hAe]; exact Or.inr h
  have hS : va_S A s.heap s.heap [] := va_S.rf
  have hP : va_P (dC, dI) vwCl (mW g0 pq cp v fa) s.heap := hP
  have hl := lv_entry ([.ref g0]) (n := 4) (Nat.le_of_ble_eq_true rfl)
  rw [lg_entry_eq]
  generalize (lg_sl ([.ref g0]) ++ List.replicate (4 - (lg_sl ([.ref g0])).length) Slot.unset).toArray = ls at hl ⊢
  have hl : lv_has ls 4 [(0, .ref g0)] := hl
  refine lv_aload_n hx hb dX11_sum_0 rfl (lv_at hl 0 rfl) ?_
  have hFc := va_free (wc := (mW g0 pq cp v fa)) hD hS hA (List.range 48) rfl
  refine va_calli (va_runV (As := []) (rest := []) ⟨hx, hb, hml, hown, hts⟩ (c_X11_term_5f l dC dI s.heap.size g0 pq cp v fa k n hk hn ea es f hb0 hwe hde) (cwV 0 hts gX11_sum_X11_term rfl rfl rfl (by decide +kernel) ⟨(Nat.le_of_ble_eq_true rfl), (Nat.le_of_ble_eq_true rfl)⟩) (pr_V (r := (RX11, TX11, 63)) hP hK hD 0 11 rfl rfl) rfl rfl hl.1 rfl (lv_room (Nat.le_of_ble_eq_true rfl)) dX11_sum_1 ⟨(Nat.le_of_ble_eq_true rfl), (Nat.le_of_ble_eq_true rfl)⟩) hS (fun q _ h => hFc q h) hFc (fun r_2 u t H locs ht hvm w_1 hB hz1 hk1 hS => ?_)
  obtain ⟨v_3, fa_4⟩ := u
  obtain ⟨hP1, hK1, hD1⟩ := hB
  rw [ht] at hP1
  have hP : va_P (dC, dI) vwCl (mW g0 pq cp v_3 fa_4) H := hP1
  have hD : va_D A (mW g0 pq cp v_3 fa_4) := hD1.weaken (fun _ _ _ h => hFc _ h)
  clear hP1 hK1 hD1 hk1 hz1 hvm ht hFc
  obtain ⟨⟨k_5, w_6, y_7, er_8, ha_9, hb_10, ea_11, wd_12, sm_13⟩, ef_14⟩ := w_1
  dsimp only at ea_11 wd_12 sm_13 ef_14
  have ef2 := ef_14.symm
  subst ef2
  have es_v_3 : v_3 50 = nI n := (sm_13 50 (by decide +kernel) (by decide +kernel) (by decide +kernel)).trans es
  have hb_v_3 : hbF (v_3 49) fa f n := by rw [sm_13 49 (by decide +kernel) (by decide +kernel) (by decide +kernel)]; exact hb0
  have sm_v_3 : ∀ i, i ≠ 47 → i ≠ 48 → i ≠ 51 → v_3 i = v i := fun i h1 h2 h3 => (sm_13 i h1 h2 h3).trans ((fun i _ _ _ => rfl) i h1 h2 h3)
  refine lv_istore_n (lv' := [(1, .int r_2), (0, .ref g0)]) hx hb dX11_sum_4 rfl hl (by decide +kernel) rfl (fun ls hl => ?_)
  have hloop : ∀ (N : Nat) (z : Nat → Int32) (kz : Nat) (wz : Bool) (yz x : Int32) (H : Heap) (locs : List Loc) (ls : Array Slot), n ≤ kz + N → k ≤ kz → kz ≤ n → z 47 = nI kz → z 50 = nI n → hbF (z 49) fa f n → pL (mvT (mL fa) (cI f n) 0) (cI f n) 43 45 mop N (kz, wz, yz) = mvS (mL fa) (cI f n) 0 k → ((wz = false ∧ z 51 = 0) ∨ (wz = true ∧ z 51 = 1 ∧ z 48 = nI 5 ∧ x = yz)) → (∀ i, i ≠ 47 → i ≠ 48 → i ≠ 51 → z i = v i) → va_P (dC, dI) vwCl (mW g0 pq cp z fa) H → va_D A (mW g0 pq cp z fa) → va_S A s.heap H locs → lv_has ls 4 [(1, .int x), (0, .ref g0)] → W p l e (headSpec wsX11_sum { frames := 3, cells := 0, slots := 0, locals := 68 }).room s m #[Value.ref g0] below meth c H locs 0 0 (MQ below (va_Qi (fun (r : Int32) (u : (Nat → Int32) × (Nat → Nat → Int32)) => pzf (mvS (mL fa) (cI f n) 0 k) v k n 5 u.1 r ∧ u.2 = fa) (fun u t => va_P (dC, dI) vwCl (mW g0 pq cp u.1 u.2) t.heap ∧ va_K (dC, dI) vwCl (mT cp) t ∧ va_D A (mW g0 pq cp u.1 u.2)) A) #[Value.ref g0] s 0 0 A) (F0 m 5 ls []) := by
    intro N
    induction N with
    | zero =>
      intro z kz wz yz x H locs ls hN hk0 hkn eaz esz hbz hpl wdz smz hP hD hS hl
      refine lv_aload_n hx hb dX11_sum_5 rfl (lv_at hl 1 rfl) ?_
      rcases wdz with ⟨ew_18, we_15⟩ | ⟨ew_18, we_16, de_17, rx_19⟩
      · subst ew_18
        refine va_get (D := (dC, dI)) (ci := 11) (v := .int (z 51)) (C := RX11) (T := TX11) (N := 63) hx hb hts in_wsX11_sum_X11 hown hK hP 0 rfl rfl 51 (by decide +kernel) (hts (.fieldLink RX11 223 "ShipOfficeModel" "isWell" "Z") iw_X11_sum_1) (fun _ h9 => h9) rfl dX11_sum_6 ?_
        refine lv_topi (fun y ey => ?_)
        obtain rfl : y = 0 := ey.trans (we_15.trans (by decide +kernel))
        refine lv_if_eq (tgt := 76) hx hb dX11_sum_9 (by decide +kernel) (fun _ => ?_) (fun c_20 => absurd c_20 (by decide +kernel))
        refine lv_iload_n hx hb dX11_sum_76 rfl (lv_at hl 0 rfl) ?_
        exact W.iret (v := x) hx hb hr (fun t ht hW => ⟨⟨x, (z, fa), rfl, ⟨⟨kz, false, _, hpl.symm.trans (pL_stop (fun h => Bool.false_ne_true h.1)), by omega, hkn, eaz, (Or.inl ⟨rfl, we_15⟩), smz⟩, rfl⟩, ⟨by rw [ht]; exact hP, va_K.moved hW.alike hK, hD⟩⟩, hS.F ht⟩) hS.2.2 dX11_sum_77
      · subst ew_18
        subst rx_19
        refine va_get (D := (dC, dI)) (ci := 11) (v := .int (z 51)) (C := RX11) (T := TX11) (N := 63) hx hb hts in_wsX11_sum_X11 hown hK hP 0 rfl rfl 51 (by decide +kernel) (hts (.fieldLink RX11 223 "ShipOfficeModel" "isWell" "Z") iw_X11_sum_1) (fun _ h9 => h9) rfl dX11_sum_6 ?_
        refine lv_topi (fun y ey => ?_)
        obtain rfl : y = 1 := ey.trans (we_16.trans (by decide +kernel))
        refine lv_if_eq (tgt := 76) hx hb dX11_sum_9 (by decide +kernel) (fun c_21 => absurd c_21 (by decide +kernel)) (fun _ => ?_)
        refine lv_aload_n hx hb dX11_sum_12 rfl (lv_at hl 1 rfl) ?_
        have hFc : ∀ q, va_A [] H.size q → A q := pu_free hS hA
        refine va_calli (va_runV (As := []) (rest := []) ⟨hx, hb, hml, hown, hts⟩ (c_X11_sign_f l dC dI H.size g0 pq cp z fa kz n hkn hn eaz esz f hbz) (cwV 0 hts gX11_sum_X11_sign rfl rfl rfl (by decide +kernel) ⟨(Nat.le_of_ble_eq_true rfl), (Nat.le_of_ble_eq_true rfl)⟩) (pr_V (r := (RX11, TX11, 63)) hP hK hD 0 11 rfl rfl) rfl rfl hl.1 rfl (lv_room (Nat.le_of_ble_eq_true rfl)) dX11_sum_13 ⟨(Nat.le_of_ble_eq_true rfl), (Nat.le_of_ble_eq_true rfl)⟩) hS (fun q _ h => hFc q h) hFc (fun r_23 u t H locs ht hvm w_22 hB hz1 hk1 hS => ?_)
        have hP := pu_keep hP hk1
        clear hk1 hz1 hvm hB ht hFc
        subst w_22
        refine lv_bipush (v := 43) hx hb dX11_sum_16 (by decide +kernel) ?_
        refine lv_icmp_eq (tgt := 30) hx hb dX11_sum_18 (by decide +kernel) (fun c_24 => ?_) (fun c_24 => ?_)
        · have hlt : kz < n := (cI_in c_24 (by decide +kernel))
          exact absurd hlt (by omega)
        · refine lv_aload_n hx hb dX11_sum_21 rfl (lv_at hl 1 rfl) ?_
          have hFc : ∀ q, va_A [] H.size q → A q := pu_free hS hA
          refine va_calli (va_runV (As := []) (rest := []) ⟨hx, hb, hml, hown, hts⟩ (c_X11_sign_f l dC dI H.size g0 pq cp z fa kz n hkn hn eaz esz f hbz) (cwV 0 hts gX11_sum_X11_sign rfl rfl rfl (by decide +kernel) ⟨(Nat.le_of_ble_eq_true rfl), (Nat.le_of_ble_eq_true rfl)⟩) (pr_V (r := (RX11, TX11, 63)) hP hK hD 0 11 rfl rfl) rfl rfl hl.1 rfl (lv_room (Nat.le_of_ble_eq_true rfl)) dX11_sum_22 ⟨(Nat.le_of_ble_eq_true rfl), (Nat.le_of_ble_eq_true rfl)⟩) hS (fun q _ h => hFc q h) hFc (fun r_26 u t H locs ht hvm w_25 hB hz1 hk1 hS => ?_)
          have hP := pu_keep hP hk1
          clear hk1 hz1 hvm hB ht hFc
          subst w_25
          refine lv_bipush (v := 45) hx hb dX11_sum_25 (by decide +kernel) ?_
          refine lv_icmp_ne (tgt := 76) hx hb dX11_sum_27 (by decide +kernel) (fun c_27 => ?_) (fun c_27 => ?_)
          · refine lv_iload_n hx hb dX11_sum_76 rfl (lv_at hl 0 rfl) ?_
            exact W.iret (v := x) hx hb hr (fun t ht hW => ⟨⟨x, (z, fa), rfl, ⟨⟨kz, true, _, hpl.symm.trans (pL_stop (fun h => h.2.elim c_24 c_27)), by omega, hkn, eaz, (Or.inr ⟨rfl, we_16, de_17, rfl⟩), smz⟩, rfl⟩, ⟨by rw [ht]; exact hP, va_K.moved hW.alike hK, hD⟩⟩, hS.F ht⟩) hS.2.2 dX11_sum_77
          · have hlt : kz < n := (cI_in c_27 (by decide +kernel))
            exact absurd hlt (by omega)
    | succ N ih =>
      intro z kz wz yz x H locs ls hN hk0 hkn eaz esz hbz hpl wdz smz hP hD hS hl
      refine lv_aload_n hx hb dX11_sum_5 rfl (lv_at hl 1 rfl) ?_
      rcases wdz with ⟨ew_31, we_28⟩ | ⟨ew_31, we_29, de_30, rx_32⟩
      · subst ew_31
        refine va_get (D := (dC, dI)) (ci := 11) (v := .int (z 51)) (C := RX11) (T := TX11) (N := 63) hx hb hts in_wsX11_sum_X11 hown hK hP 0 rfl rfl 51 (by decide +kernel) (hts (.fieldLink RX11 223 "ShipOfficeModel" "isWell" "Z") iw_X11_sum_1) (fun _ h9 => h9) rfl dX11_sum_6 ?_
        refine lv_topi (fun y ey => ?_)
        obtain rfl : y = 0 := ey.trans (we_28.trans (by decide +kernel))
        refine lv_if_eq (tgt := 76) hx hb dX11_sum_9 (by decide +kernel) (fun _ => ?_) (fun c_33 => absurd c_33 (by decide +kernel))
        refine lv_iload_n hx hb dX11_sum_76 rfl (lv_at hl 0 rfl) ?_
        exact W.iret (v := x) hx hb hr (fun t ht hW => ⟨⟨x, (z, fa), rfl, ⟨⟨kz, false, _, hpl.symm.trans (pL_stop (fun h => Bool.false_ne_true h.1)), by omega, hkn, eaz, (Or.inl ⟨rfl, we_28⟩), smz⟩, rfl⟩, ⟨by rw [ht]; exact hP, va_K.moved hW.alike hK, hD⟩⟩, hS.F ht⟩) hS.2.2 dX11_sum_77
      · subst ew_31
        subst rx_32
        refine va_get (D := (dC, dI)) (ci := 11) (v := .int (z 51)) (C := RX11) (T := TX11) (N := 63) hx hb hts in_wsX11_sum_X11 hown hK hP 0 rfl rfl 51 (by decide +kernel) (hts (.fieldLink RX11 223 "ShipOfficeModel" "isWell" "Z") iw_X11_sum_1) (fun _ h9 => h9) rfl dX11_sum_6 ?_
        refine lv_topi (fun y ey => ?_)
        obtain rfl : y = 1 := ey.trans (we_29.trans (by decide +kernel))
        refine lv_if_eq (tgt := 76) hx hb dX11_sum_9 (by decide +kernel) (fun c_34 => absurd c_34 (by decide +kernel)) (fun _ => ?_)
        refine lv_aload_n hx hb dX11_sum_12 rfl (lv_at hl 1 rfl) ?_
        have hFc : ∀ q, va_A [] H.size q → A q := pu_free hS hA
        refine va_calli (va_runV (As := []) (rest := []) ⟨hx, hb, hml, hown, hts⟩ (c_X11_sign_f l dC dI H.size g0 pq cp z fa kz n hkn hn eaz esz f hbz) (cwV 0 hts gX11_sum_X11_sign rfl rfl rfl (by decide +kernel) ⟨(Nat.le_of_ble_eq_true rfl), (Nat.le_of_ble_eq_true rfl)⟩) (pr_V (r := (RX11, TX11, 63)) hP hK hD 0 11 rfl rfl) rfl rfl hl.1 rfl (lv_room (Nat.le_of_ble_eq_true rfl)) dX11_sum_13 ⟨(Nat.le_of_ble_eq_true rfl), (Nat.le_of_ble_eq_true rfl)⟩) hS (fun q _ h => hFc q h) hFc (fun r_36 u t H locs ht hvm w_35 hB hz1 hk1 hS => ?_)
        have hP := pu_keep hP hk1
        clear hk1 hz1 hvm hB ht hFc
        subst w_35
        refine lv_bipush (v := 43) hx hb dX11_sum_16 (by decide +kernel) ?_
        refine lv_icmp_eq (tgt := 30) hx hb dX11_sum_18 (by decide +kernel) (fun c_37 => ?_) (fun c_37 => ?_)
        · refine lv_aload_n hx hb dX11_sum_30 rfl (lv_at hl 1 rfl) ?_
          have hFc : ∀ q, va_A [] H.size q → A q := pu_free hS hA
          refine va_calli (va_runV (As := []) (rest := []) ⟨hx, hb, hml, hown, hts⟩ (c_X11_sign_f l dC dI H.size g0 pq cp z fa kz n hkn hn eaz esz f hbz) (cwV 0 hts gX11_sum_X11_sign rfl rfl rfl (by decide +kernel) ⟨(Nat.le_of_ble_eq_true rfl), (Nat.le_of_ble_eq_true rfl)⟩) (pr_V (r := (RX11, TX11, 63)) hP hK hD 0 11 rfl rfl) rfl rfl hl.1 rfl (lv_room (Nat.le_of_ble_eq_true rfl)) dX11_sum_31 ⟨(Nat.le_of_ble_eq_true rfl), (Nat.le_of_ble_eq_true rfl)⟩) hS (fun q _ h => hFc q h) hFc (fun r_39 u t H locs ht hvm w_38 hB hz1 hk1 hS => ?_)
          have hP := pu_keep hP hk1
          clear hk1 hz1 hvm hB ht hFc
          subst w_38
          refine lv_istore_n (lv' := [(2, .int (cI f n kz)), (1, .int x), (0, .ref g0)]) hx hb dX11_sum_34 rfl hl (by decide +kernel) rfl (fun ls hl => ?_)
          refine lv_aload_n hx hb dX11_sum_35 rfl (lv_at hl 2 rfl) ?_
          refine lv_dup hx hb dX11_sum_36 rfl ?_
          refine va_get (D := (dC, dI)) (ci := 11) (v := .int (z 47)) (C := RX11) (T := TX11) (N := 63) hx hb hts in_wsX11_sum_X11 hown hK hP 0 rfl rfl 47 (by decide +kernel) (hts (.fieldLink RX11 210 "ShipOfficeModel" "at" "I") iw_X11_sum_2) (fun _ h9 => h9) rfl dX11_sum_37 ?_
          refine lv_iconst (v := 1) hx hb dX11_sum_40 (by decide +kernel) ?_
          refine lv_iadd hx hb dX11_sum_41 ?_
          refine lv_topi (fun y ey => ?_)
          obtain rfl : y = nI (kz + 1) := ey.trans (by rw [eaz]; exact nI_1 _)
          refine va_put (D := (dC, dI)) (ci := 11) (v := .int (nI (kz + 1))) (ty := .int) (C := RX11) (T := TX11) (N := 63) hx hb hts in_wsX11_sum_X11 tyX11 tyX11_ok nmX11 hown hK hP hD hS 0 rfl rfl 47 (by decide +kernel) (hts (.fieldLink RX11 210 "ShipOfficeModel" "at" "I") iw_X11_sum_2) (fun _ h9 => h9) rfl (by decide +kernel) rfl rfl (Nat.le_of_ble_eq_true rfl) dX11_sum_42 (fun H locs hP hD hS => ?_)
          have hP : va_P (dC, dI) vwCl (mW g0 pq cp (upd z 47 (nI (kz + 1))) fa) H := hP
          have hD : va_D A (mW g0 pq cp (upd z 47 (nI (kz + 1))) fa) := hD
          obtain ⟨z_40, ez_40⟩ : ∃ zq, zq = (upd z 47 (nI (kz + 1))) := ⟨_, rfl⟩
          rw [← ez_40] at hP hD
          have ea_z_40 : z_40 47 = nI (kz + 1) := by rw [ez_40]; rfl
          have es_z_40 : z_40 50 = nI n := by rw [ez_40]; exact esz
          have hb_z_40 : hbF (z_40 49) fa f n := by rw [ez_40]; exact hbz
          have we_z_40 : z_40 51 = 1 := by rw [ez_40]; exact we_29
          have de_z_40 : z_40 48 = nI 5 := by rw [ez_40]; exact de_30
          have sm_z_40 : ∀ i, i ≠ 47 → i ≠ 48 → i ≠ 51 → z_40 i = v i := by intro i h1 h2 h3; rw [ez_40]; exact (if_neg h1).trans (smz i h1 h2 h3)
          have hkn_z_40 : (kz + 1) ≤ n := (cI_in c_37 (by decide +kernel))
          have hk0_z_40 : k ≤ (kz + 1) := by omega
          refine lv_aload_n hx hb dX11_sum_45 rfl (lv_at hl 2 rfl) ?_
          have hFc := va_free (wc := (mW g0 pq cp z_40 fa)) hD hS hA (List.range 48) rfl
          refine va_calli (va_runV (As := []) (rest := []) ⟨hx, hb, hml, hown, hts⟩ (c_X11_term_5f l dC dI H.size g0 pq cp z_40 fa (kz + 1) n hkn_z_40 hn ea_z_40 es_z_40 f hb_z_40 we_z_40 de_z_40) (cwV 0 hts gX11_sum_X11_term rfl rfl rfl (by decide +kernel) ⟨(Nat.le_of_ble_eq_true rfl), (Nat.le_of_ble_eq_true rfl)⟩) (pr_V (r := (RX11, TX11, 63)) hP hK hD 0 11 rfl rfl) rfl rfl hl.1 rfl (lv_room (Nat.le_of_ble_eq_true rfl)) dX11_sum_46 ⟨(Nat.le_of_ble_eq_true rfl), (Nat.le_of_ble_eq_true rfl)⟩) hS (fun q _ h => hFc q h) hFc (fun r_42 u t H locs ht hvm w_41 hB hz1 hk1 hS => ?_)
          obtain ⟨v_43, fa_44⟩ := u
          obtain ⟨hP1, hK1, hD1⟩ := hB
          rw [ht] at hP1
          have hP : va_P (dC, dI) vwCl (mW g0 pq cp v_43 fa_44) H := hP1
          have hD : va_D A (mW g0 pq cp v_43 fa_44) := hD1.weaken (fun _ _ _ h => hFc _ h)
          clear hP1 hK1 hD1 hk1 hz1 hvm ht hFc
          obtain ⟨⟨k_45, w_46, y_47, er_48, ha_49, hb_50, ea_51, wd_52, sm_53⟩, ef_54⟩ := w_41
          dsimp only at ea_51 wd_52 sm_53 ef_54
          have ef2 := ef_54.symm
          subst ef2
          have es_v_43 : v_43 50 = nI n := (sm_53 50 (by decide +kernel) (by decide +kernel) (by decide +kernel)).trans es_z_40
          have hb_v_43 : hbF (v_43 49) fa f n := by rw [sm_53 49 (by decide +kernel) (by decide +kernel) (by decide +kernel)]; exact hb_z_40
          have sm_v_43 : ∀ i, i ≠ 47 → i ≠ 48 → i ≠ 51 → v_43 i = v i := fun i h1 h2 h3 => (sm_53 i h1 h2 h3).trans (sm_z_40 i h1 h2 h3)
          refine lv_istore_n (lv' := [(3, .int r_42), (2, .int (cI f n kz)), (1, .int x), (0, .ref g0)]) hx hb dX11_sum_49 rfl hl (by decide +kernel) rfl (fun ls hl => ?_)
          refine lv_iload_n hx hb dX11_sum_50 rfl (lv_at hl 1 rfl) ?_
          refine lv_bipush (v := 43) hx hb dX11_sum_51 (by decide +kernel) ?_
          refine lv_icmp_ne (tgt := 64) hx hb dX11_sum_53 (by decide +kernel) (fun c_55 => absurd c_55 (fun h => h c_37)) (fun c_55 => ?_)
          refine lv_iload_n hx hb dX11_sum_56 rfl (lv_at hl 2 rfl) ?_
          refine lv_i2l (v := (x : Int32).toInt64) hx hb dX11_sum_57 rfl ?_
          refine lv_iload_n hx hb dX11_sum_58 rfl (lv_at hl 0 rfl) ?_
          refine lv_i2l (v := (r_42 : Int32).toInt64) hx hb dX11_sum_59 rfl ?_
          refine lv_ladd hx hb dX11_sum_60 ?_
          refine lv_goto (tgt := 69) hx hb dX11_sum_61 (by decide +kernel) ?_
          have hFc : ∀ q, va_A [] H.size q → A q := pu_free hS hA
          have hPc := hP.sub (ws' := []) [] rfl
          have hDc := hD.sub (ws' := []) [] (by decide +kernel) rfl
          have hKc := hK.sub (tys' := []) [] rfl
          refine va_calli (va_runS (As := [.long (((x : Int32).toInt64) + ((r_42 : Int32).toInt64))]) (rest := []) ⟨hx, hb, hml, hown, hts⟩ (c_X11_held_f l dC dI H.size (((x : Int32).toInt64) + ((r_42 : Int32).toInt64))) (va_cwS 1 hts gX11_sum_X11_held rfl rfl rfl (by decide +kernel) ⟨(Nat.le_of_ble_eq_true rfl), (Nat.le_of_ble_eq_true rfl)⟩) (pr_S hPc hKc hDc) rfl rfl hl.1 rfl (lv_room (Nat.le_of_ble_eq_true rfl)) dX11_sum_69 ⟨(Nat.le_of_ble_eq_true rfl), (Nat.le_of_ble_eq_true rfl)⟩) hS (fun q _ h => hFc q h) hFc (fun r_57 u t H locs ht hvm w_56 hB hz1 hk1 hS => ?_)
          have hP := pu_keep hP hk1
          clear hk1 hz1 hvm hB ht hFc hPc hDc hKc
          subst w_56
          refine lv_istore_n (lv' := [(1, .int (hld (((x : Int32).toInt64) + ((r_42 : Int32).toInt64)))), (3, .int r_42), (2, .int (cI f n kz)), (0, .ref g0)]) hx hb dX11_sum_72 rfl hl (by decide +kernel) rfl (fun ls hl => ?_)
          refine lv_goto (tgt := 5) hx hb dX11_sum_73 (by decide +kernel) ?_
          exact ih v_43 k_45 w_46 (mop (cI f n kz) x y_47) (hld (((x : Int32).toInt64) + ((r_42 : Int32).toInt64))) _ _ ls (by omega) (by omega) hb_50 ea_51 es_v_43 hb_v_43 ((pL_go (Or.inl c_37) er_48).symm.trans hpl) (Or.imp_right (fun h => ⟨h.1, h.2.1, h.2.2.1, by rw [← h.2.2.2, c_37, mop_43]⟩) wd_52) sm_v_43 hP hD hS (lv_sub hl [0, 3] rfl)
        · refine lv_aload_n hx hb dX11_sum_21 rfl (lv_at hl 1 rfl) ?_
          have hFc : ∀ q, va_A [] H.size q → A q := pu_free hS hA
          refine va_calli (va_runV (As := []) (rest := []) ⟨hx, hb, hml, hown, hts⟩ (c_X11_sign_f l dC dI H.size g0 pq cp z fa kz n hkn hn eaz esz f hbz) (cwV 0 hts gX11_sum_X11_sign rfl rfl rfl (by decide +kernel) ⟨(Nat.le_of_ble_eq_true rfl), (Nat.le_of_ble_eq_true rfl)⟩) (pr_V (r := (RX11, TX11, 63)) hP hK hD 0 11 rfl rfl) rfl rfl hl.1 rfl (lv_room (Nat.le_of_ble_eq_true rfl)) dX11_sum_22 ⟨(Nat.le_of_ble_eq_true rfl), (Nat.le_of_ble_eq_true rfl)⟩) hS (fun q _ h => hFc q h) hFc (fun r_59 u t H locs ht hvm w_58 hB hz1 hk1 hS => ?_)
          have hP := pu_keep hP hk1
          clear hk1 hz1 hvm hB ht hFc
          subst w_58
          refine lv_bipush (v := 45) hx hb dX11_sum_25 (by decide +kernel) ?_
          refine lv_icmp_ne (tgt := 76) hx hb dX11_sum_27 (by decide +kernel) (fun c_60 => ?_) (fun c_60 => ?_)
          · refine lv_iload_n hx hb dX11_sum_76 rfl (lv_at hl 0 rfl) ?_
            exact W.iret (v := x) hx hb hr (fun t ht hW => ⟨⟨x, (z, fa), rfl, ⟨⟨kz, true, _, hpl.symm.trans (pL_stop (fun h => h.2.elim c_37 c_60)), by omega, hkn, eaz, (Or.inr ⟨rfl, we_29, de_30, rfl⟩), smz⟩, rfl⟩, ⟨by rw [ht]; exact hP, va_K.moved hW.alike hK, hD⟩⟩, hS.F ht⟩) hS.2.2 dX11_sum_77
          · refine lv_aload_n hx hb dX11_sum_30 rfl (lv_at hl 1 rfl) ?_
            have hFc : ∀ q, va_A [] H.size q → A q := pu_free hS hA
            refine va_calli (va_runV (As := []) (rest := []) ⟨hx, hb, hml, hown, hts⟩ (c_X11_sign_f l dC dI H.size g0 pq cp z fa kz n hkn hn eaz esz f hbz) (cwV 0 hts gX11_sum_X11_sign rfl rfl rfl (by decide +kernel) ⟨(Nat.le_of_ble_eq_true rfl), (Nat.le_of_ble_eq_true rfl)⟩) (pr_V (r := (RX11, TX11, 63)) hP hK hD 0 11 rfl rfl) rfl rfl hl.1 rfl (lv_room (Nat.le_of_ble_eq_true rfl)) dX11_sum_31 ⟨(Nat.le_of_ble_eq_true rfl), (Nat.le_of_ble_eq_true rfl)⟩) hS (fun q _ h => hFc q h) hFc (fun r_62 u t H locs ht hvm w_61 hB hz1 hk1 hS => ?_)
            have hP := pu_keep hP hk1
            clear hk1 hz1 hvm hB ht hFc
            subst w_61
            refine lv_istore_n (lv' := [(2, .int (cI f n kz)), (1, .int x), (0, .ref g0)]) hx hb dX11_sum_34 rfl hl (by decide +kernel) rfl (fun ls hl => ?_)
            refine lv_aload_n hx hb dX11_sum_35 rfl (lv_at hl 2 rfl) ?_
            refine lv_dup hx hb dX11_sum_36 rfl ?_
            refine va_get (D := (dC, dI)) (ci := 11) (v := .int (z 47)) (C := RX11) (T := TX11) (N := 63) hx hb hts in_wsX11_sum_X11 hown hK hP 0 rfl rfl 47 (by decide +kernel) (hts (.fieldLink RX11 210 "ShipOfficeModel" "at" "I") iw_X11_sum_2) (fun _ h9 => h9) rfl dX11_sum_37 ?_
            refine lv_iconst (v := 1) hx hb dX11_sum_40 (by decide +kernel) ?_
            refine lv_iadd hx hb dX11_sum_41 ?_
            refine lv_topi (fun y ey => ?_)
            obtain rfl : y = nI (kz + 1) := ey.trans (by rw [eaz]; exact nI_1 _)
            refine va_put (D := (dC, dI)) (ci := 11) (v := .int (nI (kz + 1))) (ty := .int) (C := RX11) (T := TX11) (N := 63) hx hb hts in_wsX11_sum_X11 tyX11 tyX11_ok nmX11 hown hK hP hD hS 0 rfl rfl 47 (by decide +kernel) (hts (.fieldLink RX11 210 "ShipOfficeModel" "at" "I") iw_X11_sum_2) (fun _ h9 => h9) rfl (by decide +kernel) rfl rfl (Nat.le_of_ble_eq_true rfl) dX11_sum_42 (fun H locs hP hD hS => ?_)
            have hP : va_P (dC, dI) vwCl (mW g0 pq cp (upd z 47 (nI (kz + 1))) fa) H := hP
            have hD : va_D A (mW g0 pq cp (upd z 47 (nI (kz + 1))) fa) := hD
            obtain ⟨z_63, ez_63⟩ : ∃ zq, zq = (upd z 47 (nI (kz + 1))) := ⟨_, rfl⟩
            rw [← ez_63] at hP hD
            have ea_z_63 : z_63 47 = nI (kz + 1) := by rw [ez_63]; rfl
            have es_z_63 : z_63 50 = nI n := by rw [ez_63]; exact esz
            have hb_z_63 : hbF (z_63 49) fa f n := by rw [ez_63]; exact hbz
            have we_z_63 : z_63 51 = 1 := by rw [ez_63]; exact we_29
            have de_z_63 : z_63 48 = nI 5 := by rw [ez_63]; exact de_30
            have sm_z_63 : ∀ i, i ≠ 47 → i ≠ 48 → i ≠ 51 → z_63 i = v i := by intro i h1 h2 h3; rw [ez_63]; exact (if_neg h1).trans (smz i h1 h2 h3)
            have hkn_z_63 : (kz + 1) ≤ n := (cI_in c_60 (by decide +kernel))
            have hk0_z_63 : k ≤ (kz + 1) := by omega
            refine lv_aload_n hx hb dX11_sum_45 rfl (lv_at hl 2 rfl) ?_
            have hFc := va_free (wc := (mW g0 pq cp z_63 fa)) hD hS hA (List.range 48) rfl
            refine va_calli (va_runV (As := []) (rest := []) ⟨hx, hb, hml, hown, hts⟩ (c_X11_term_5f l dC dI H.size g0 pq cp z_63 fa (kz + 1) n hkn_z_63 hn ea_z_63 es_z_63 f hb_z_63 we_z_63 de_z_63) (cwV 0 hts gX11_sum_X11_term rfl rfl rfl (by decide +kernel) ⟨(Nat.le_of_ble_eq_true rfl), (Nat.le_of_ble_eq_true rfl)⟩) (pr_V (r := (RX11, TX11, 63)) hP hK hD 0 11 rfl rfl) rfl rfl hl.1 rfl (lv_room (Nat.le_of_ble_eq_true rfl)) dX11_sum_46 ⟨(Nat.le_of_ble_eq_true rfl), (Nat.le_of_ble_eq_true rfl)⟩) hS (fun q _ h => hFc q h) hFc (fun r_65 u t H locs ht hvm w_64 hB hz1 hk1 hS => ?_)
            obtain ⟨v_66, fa_67⟩ := u
            obtain ⟨hP1, hK1, hD1⟩ := hB
            rw [ht] at hP1
            have hP : va_P (dC, dI) vwCl (mW g0 pq cp v_66 fa_67) H := hP1
            have hD : va_D A (mW g0 pq cp v_66 fa_67) := hD1.weaken (fun _ _ _ h => hFc _ h)
            clear hP1 hK1 hD1 hk1 hz1 hvm ht hFc
            obtain ⟨⟨k_68, w_69, y_70, er_71, ha_72, hb_73, ea_74, wd_75, sm_76⟩, ef_77⟩ := w_64
            dsimp only at ea_74 wd_75 sm_76 ef_77
            have ef2 := ef_77.symm
            subst ef2
            have es_v_66 : v_66 50 = nI n := (sm_76 50 (by decide +kernel) (by decide +kernel) (by decide +kernel)).trans es_z_63
            have hb_v_66 : hbF (v_66 49) fa f n := by rw [sm_76 49 (by decide +kernel) (by decide +kernel) (by decide +kernel)]; exact hb_z_63
            have sm_v_66 : ∀ i, i ≠ 47 → i ≠ 48 → i ≠ 51 → v_66 i = v i := fun i h1 h2 h3 => (sm_76 i h1 h2 h3).trans (sm_z_63 i h1 h2 h3)
            refine lv_istore_n (lv' := [(3, .int r_65), (2, .int (cI f n kz)), (1, .int x), (0, .ref g0)]) hx hb dX11_sum_49 rfl hl (by decide +kernel) rfl (fun ls hl => ?_)
            refine lv_iload_n hx hb dX11_sum_50 rfl (lv_at hl 1 rfl) ?_
            refine lv_bipush (v := 43) hx hb dX11_sum_51 (by decide +kernel) ?_
            refine lv_icmp_ne (tgt := 64) hx hb dX11_sum_53 (by decide +kernel) (fun c_78 => ?_) (fun c_78 => absurd c_78 (fun h => absurd (c_60.symm.trans h) (by decide +kernel)))
            refine lv_iload_n hx hb dX11_sum_64 rfl (lv_at hl 2 rfl) ?_
            refine lv_i2l (v := (x : Int32).toInt64) hx hb dX11_sum_65 rfl ?_
            refine lv_iload_n hx hb dX11_sum_66 rfl (lv_at hl 0 rfl) ?_
            refine lv_i2l (v := (r_65 : Int32).toInt64) hx hb dX11_sum_67 rfl ?_
            refine lv_lsub hx hb dX11_sum_68 ?_
            have hFc : ∀ q, va_A [] H.size q → A q := pu_free hS hA
            have hPc := hP.sub (ws' := []) [] rfl
            have hDc := hD.sub (ws' := []) [] (by decide +kernel) rfl
            have hKc := hK.sub (tys' := []) [] rfl
            refine va_calli (va_runS (As := [.long (((x : Int32).toInt64) - ((r_65 : Int32).toInt64))]) (rest := []) ⟨hx, hb, hml, hown, hts⟩ (c_X11_held_f l dC dI H.size (((x : Int32).toInt64) - ((r_65 : Int32).toInt64))) (va_cwS 1 hts gX11_sum_X11_held rfl rfl rfl (by decide +kernel) ⟨(Nat.le_of_ble_eq_true rfl), (Nat.le_of_ble_eq_true rfl)⟩) (pr_S hPc hKc hDc) rfl rfl hl.1 rfl (lv_room (Nat.le_of_ble_eq_true rfl)) dX11_sum_69 ⟨(Nat.le_of_ble_eq_true rfl), (Nat.le_of_ble_eq_true rfl)⟩) hS (fun q _ h => hFc q h) hFc (fun r_80 u t H locs ht hvm w_79 hB hz1 hk1 hS => ?_)
            have hP := pu_keep hP hk1
            clear hk1 hz1 hvm hB ht hFc hPc hDc hKc
            subst w_79
            refine lv_istore_n (lv' := [(1, .int (hld (((x : Int32).toInt64) - ((r_65 : Int32).toInt64)))), (3, .int r_65), (2, .int (cI f n kz)), (0, .ref g0)]) hx hb dX11_sum_72 rfl hl (by decide +kernel) rfl (fun ls hl => ?_)
            refine lv_goto (tgt := 5) hx hb dX11_sum_73 (by decide +kernel) ?_
            exact ih v_66 k_68 w_69 (mop (cI f n kz) x y_70) (hld (((x : Int32).toInt64) - ((r_65 : Int32).toInt64))) _ _ ls (by omega) (by omega) hb_73 ea_74 es_v_66 hb_v_66 ((pL_go (Or.inr c_60) er_71).symm.trans hpl) (Or.imp_right (fun h => ⟨h.1, h.2.1, h.2.2.1, by rw [← h.2.2.2, c_60, mop_45]⟩) wd_75) sm_v_66 hP hD hS (lv_sub hl [0, 3] rfl)
  exact hloop 60 v_3 k_5 w_6 y_7 r_2 _ _ ls (by omega) (by omega) hb_10 ea_11 es_v_3 hb_v_3 ((congrArg (pL (mvT (mL fa) (cI f n) 0) (cI f n) 43 45 mop 60) er_8).symm) wd_12 sm_v_3 hP hD hS (lv_sub hl [0, 1] rfl)
