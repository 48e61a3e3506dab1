


theorem fpl_v (n : Nat) : fpl n 0 = 0 ∧ fpl n 1 = dg n 0 ∧ fpl n 2 = dg n 0 + dg n 1 ∧ fpl n 3 = dg n 0 + dg n 1 + dg n 2 ∧ hnd n = dg n 0 + dg n 1 + dg n 2 + dg n 3 := ⟨rfl, rfl, rfl, rfl, rfl⟩
theorem hnd_8 {n : Nat} : hnd n ≤ 8 := by
  have h0 := dg_le (c := n) (r := 0)
  have h1 := dg_le (c := n) (r := 1)
  have h2 := dg_le (c := n) (r := 2)
  have h3 := dg_le (c := n) (r := 3)
  have v := fpl_v n
  omega
theorem pl_1 {n r j : Nat} (hr : r < 4) (hj : j < dg n r) : fpl n r + j < hnd n ∧ rkp n (fpl n r + j) = r := by
  have v := fpl_v n
  unfold rkp
  rcases r4 hr with rfl | rfl | rfl | rfl
  · exact ⟨by omega, by rw [if_pos (by omega)]⟩
  · exact ⟨by omega, by rw [if_neg (by omega), if_pos (by omega)]⟩
  · exact ⟨by omega, by rw [if_neg (by omega), if_neg (by omega), if_pos (by omega)]⟩
  · exact ⟨by omega, by rw [if_neg (by omega), if_neg (by omega), if_neg (by omega)]⟩
theorem pl_2 {n p : Nat} (hp : p < hnd n) : rkp n p < 4 ∧ fpl n (rkp n p) ≤ p ∧ p - fpl n (rkp n p) < dg n (rkp n p) := by
  have v := fpl_v n
  unfold rkp
  by_cases c1 : p < fpl n 1
  · rw [if_pos c1]; omega
  · rw [if_neg c1]
    by_cases c2 : p < fpl n 2
    · rw [if_pos c2]; omega
    · rw [if_neg c2]
      by_cases c3 : p < fpl n 3
      · rw [if_pos c3]; omega
      · rw [if_neg c3]; omega
/-- the first h places are filled as they may be -/
def PR (n M : Nat) (W : Nat → Nat → Int) (h : Nat) (t : Nat → Nat) : Prop := (∀ p, p < h → t p < M ∧ 0 < W (t p) (rkp n p)) ∧ (∀ p q, p < h → q < h → t p = t q → p = q) ∧ ∀ p, p + 1 < h → rkp n p = rkp n (p + 1) → t p < t (p + 1)
theorem PR_c {n M h : Nat} {W : Nat → Nat → Int} {t t2 : Nat → Nat} (h1 : ∀ p, p < h → t2 p = t p) (g : PR n M W h t) : PR n M W h t2 := by
  obtain ⟨g1, g2, g3⟩ := g
  refine ⟨fun p hp => by rw [h1 p hp]; exact g1 p hp, fun p q hp hq e => ?_, fun p hp e => ?_⟩
  · rw [h1 p hp, h1 q hq] at e
    exact g2 p q hp hq e
  · rw [h1 p (by omega), h1 (p + 1) hp]
    exact g3 p hp e
/-- the number that the first h places make; what they come to -/
def pc (t : Nat → Nat) : Nat → Nat
  | 0 => 0
  | h + 1 => 16 * pc t h + t h
def sw (n : Nat) (W : Nat → Nat → Int) (t : Nat → Nat) (h : Nat) : Int := smI (fun p => W (t p) (rkp n p)) h
theorem pc_c {t t2 : Nat → Nat} : ∀ {h : Nat}, (∀ p, p < h → t2 p = t p) → pc t2 h = pc t h := by
  intro h
  induction h with
  | zero => intro _; rfl
  | succ h ih =>
    intro g
    unfold pc
    rw [ih (fun p hp => g p (by omega)), g h (by omega)]
theorem sw_c {n h : Nat} {W : Nat → Nat → Int} {t t2 : Nat → Nat} (g : ∀ p, p < h → t2 p = t p) : sw n W t2 h = sw n W t h := smI_c (fun p hp => by rw [g p hp])
theorem pc_inj {t t2 : Nat → Nat} : ∀ {h : Nat}, (∀ p, p < h → t p < 16 ∧ t2 p < 16) → pc t h = pc t2 h → ∀ p, p < h → t p = t2 p := by
  intro h
  induction h with
  | zero => intro _ _ p hp; exact absurd hp (Nat.not_lt_zero p)
  | succ h ih =>
    intro g e p hp
    unfold pc at e
    have g0 := g h (by omega)
    by_cases c : p = h
    · rw [c]; omega
    · exact ih (fun p hp => g p (by omega)) (by omega) p (by omega)
theorem pc_lt {t : Nat → Nat} : ∀ {h : Nat}, (∀ p, p < h → t p < 16) → pc t h < 16 ^ h := by
  intro h
  induction h with
  | zero => intro _; exact (show (0 : Nat) < 16 ^ 0 by decide)
  | succ h ih =>
    intro g
    have g0 := g h (by omega)
    have g1 := ih (fun p hp => g p (by omega))
    rw [Nat.pow_succ]
    unfold pc
    omega
/-- what stands in order at h stands so behind it -/
theorem pc_mono {t t2 : Nat → Nat} {h : Nat} (hl : pc t h < pc t2 h) : ∀ {k : Nat}, h ≤ k → (∀ p, p < k → t p < 16) → pc t k < pc t2 k := by
  intro k hk
  induction k with
  | zero =>
    intro _
    have : h = 0 := by omega
    rw [this] at hl
    exact hl
  | succ k ih =>
    intro g
    by_cases c : h = k + 1
    · rw [← c]; exact hl
    · have g1 := ih (by omega) (fun p hp => g p (by omega))
      have g0 := g k (by omega)
      unfold pc
      omega
theorem sw_le {n : Nat} {W : Nat → Nat → Int} {t : Nat → Nat} {h : Nat} : ∀ {k : Nat}, h ≤ k → (∀ p, p < k → 0 < W (t p) (rkp n p)) → sw n W t h ≤ sw n W t k := by
  intro k hk
  induction k with
  | zero =>
    intro _
    have : h = 0 := by omega
    rw [this]
    exact Int.le_refl _
  | succ k ih =>
    intro g
    by_cases c : h = k + 1
    · rw [c]
      exact Int.le_refl _
    · have g1 := ih (by omega) (fun p hp => g p (by omega))
      have g0 := g k (by omega)
      have e : sw n W t (k + 1) = sw n W t k + W (t k) (rkp n k) := rfl
      omega
theorem sw_b {n : Nat} {W : Nat → Nat → Int} {t : Nat → Nat} : ∀ {h : Nat}, (∀ p, p < h → 0 < W (t p) (rkp n p) ∧ W (t p) (rkp n p) ≤ 9999) → 0 ≤ sw n W t h ∧ sw n W t h ≤ 9999 * (h : Int) := by
  intro h
  induction h with
  | zero => intro _; exact ⟨Int.le_refl _, Int.le_refl _⟩
  | succ h ih =>
    intro g
    have g1 := ih (fun p hp => g p (by omega))
    have g0 := g h (by omega)
    have e : sw n W t (h + 1) = sw n W t h + W (t h) (rkp n h) := rfl
    omega
/-- the least found so far, of all hands whose first h places make less than T -/
def RS (n M : Nat) (W : Nat → Nat → Int) (h T : Nat) (L : Int) (b : Nat → Nat) : Prop := (L = -9 ∧ ∀ c, PR n M W (hnd n) c → ¬ pc c h < T) ∨ (0 ≤ L ∧ PR n M W (hnd n) b ∧ pc b h < T ∧ L = sw n W b (hnd n) ∧ ∀ c, PR n M W (hnd n) c → pc c h < T → sw n W b (hnd n) < sw n W c (hnd n) ∨ (sw n W b (hnd n) = sw n W c (hnd n) ∧ pc b (hnd n) ≤ pc c (hnd n)))
section
variable {n M h h2 T T2 i : Nat} {W : Nat → Nat → Int} {L L2 : Int} {b b2 t t2 : Nat → Nat}
theorem RS_iff (hi : ∀ c, PR n M W (hnd n) c → (pc c h < T ↔ pc c h2 < T2)) (g : RS n M W h T L b) : RS n M W h2 T2 L b := by
  rcases g with ⟨g1, g2⟩ | ⟨g1, g2, g3, g4, g5⟩
  · exact Or.inl ⟨g1, fun c hc q => g2 c hc ((hi c hc).mpr q)⟩
  · exact Or.inr ⟨g1, g2, (hi b g2).mp g3, g4, fun c hc q => g5 c hc ((hi c hc).mpr q)⟩
/-- the first that may stand at h -/
def frs (n h : Nat) (t : Nat → Nat) : Nat := if 0 < h ∧ rkp n (h - 1) = rkp n h then t (h - 1) + 1 else 0
theorem PR_16 (hM : M ≤ 12) (g : PR n M W h t) : ∀ p, p < h → t p < 16 := fun p hp => Nat.lt_of_lt_of_le (g.1 p hp).1 (by omega)
theorem pc_s : pc t (h + 1) = 16 * pc t h + t h := rfl
theorem frs_16 (hM : M ≤ 12) (ht : PR n M W h t) : frs n h t ≤ 12 := by
  unfold frs
  split
  · rename_i c
    have := (ht.1 (h - 1) (by omega)).1
    omega
  · omega
theorem frs_le {c : Nat → Nat} (hc : PR n M W (hnd n) c) (hh : h < hnd n) (e : ∀ p, p < h → c p = t p) : frs n h t ≤ c h := by
  unfold frs
  split
  · rename_i q
    have g := hc.2.2 (h - 1) (by omega) (by rw [show h - 1 + 1 = h by omega]; exact q.2)
    rw [show h - 1 + 1 = h by omega, e (h - 1) (by omega)] at g
    omega
  · exact Nat.zero_le _
theorem RS_en (hM : M ≤ 12) (hh : h < hnd n) (ht : PR n M W h t) (hi : i = frs n h t) (hT : T = pc t h) (g : RS n M W h T L b) : RS n M W (h + 1) (16 * pc t h + i) L b := by
  refine RS_iff (fun c hc => ?_) g
  rw [hi, hT, pc_s]
  have f := frs_16 hM ht
  have c16 := PR_16 hM hc
  have ch := c16 h hh
  constructor
  · intro q; omega
  · intro q
    by_cases e : pc c h = pc t h
    · exfalso
      have ee := pc_inj (t := c) (t2 := t) (h := h) (fun p hp => ⟨c16 p (by omega), PR_16 hM ht p hp⟩) e
      have := frs_le hc hh ee
      omega
    · omega
theorem RS_sk (hM : M ≤ 12) (hh : h < hnd n) (ht : PR n M W h t) (hi : i < M) (hn : ∀ c, PR n M W (hnd n) c → (∀ p, p < h → c p = t p) → c h ≠ i) (g : RS n M W (h + 1) (16 * pc t h + i) L b) : RS n M W (h + 1) (16 * pc t h + (i + 1)) L b := by
  refine RS_iff (fun c hc => ?_) g
  have c16 := PR_16 hM hc
  have ch := c16 h hh
  constructor
  · intro q; omega
  · intro q
    by_cases e : pc c (h + 1) = 16 * pc t h + i
    · exfalso
      rw [pc_s] at e
      have ee := pc_inj (t := c) (t2 := t) (h := h) (fun p hp => ⟨c16 p (by omega), PR_16 hM ht p hp⟩) (by omega)
      exact hn c hc ee (by omega)
    · omega
theorem sk_w (hw : ¬ 0 < W i (rkp n h)) (hh : h < hnd n) : ∀ c, PR n M W (hnd n) c → (∀ p, p < h → c p = t p) → c h ≠ i := fun c hc _ e => hw (by
  have g := (hc.1 h hh).2
  rw [e] at g
  exact g)
theorem sk_u (hu : ∃ p, p < h ∧ t p = i) (hh : h < hnd n) : ∀ c, PR n M W (hnd n) c → (∀ p, p < h → c p = t p) → c h ≠ i := fun c hc e e2 => by
  obtain ⟨p, hp, ep⟩ := hu
  have := hc.2.1 p h (by omega) hh (by rw [e p hp, ep, e2])
  omega
theorem RS_lp (hM : M ≤ 12) (hh : h < hnd n) (hi : i = M) (g : RS n M W (h + 1) (16 * pc t h + i) L b) : RS n M W h (pc t h + 1) L b := by
  refine RS_iff (fun c hc => ?_) g
  have ch := (hc.1 h hh).1
  rw [hi, pc_s]
  constructor
  · intro q; omega
  · intro q; omega
theorem RS_pr (hM : M ≤ 12) (hh : h ≤ hnd n) (ht : PR n M W h t) (h0 : 0 ≤ L) (hl : L ≤ sw n W t h) (g : RS n M W h (pc t h) L b) : RS n M W h (pc t h + 1) L b := by
  rcases g with ⟨g1, g2⟩ | ⟨g1, g2, g3, g4, g5⟩
  · omega
  · refine Or.inr ⟨g1, g2, by omega, g4, fun c hc q => ?_⟩
    by_cases e : pc c h < pc t h
    · exact g5 c hc e
    · have e2 : pc c h = pc t h := by omega
      have ee := pc_inj (t := c) (t2 := t) (h := h) (fun p hp => ⟨PR_16 hM hc p (by omega), PR_16 hM ht p hp⟩) e2
      have s1 : sw n W c h = sw n W t h := sw_c ee
      have s2 := sw_le (n := n) (W := W) (t := c) hh (fun p hp => (hc.1 p hp).2)
      by_cases s3 : sw n W b (hnd n) < sw n W c (hnd n)
      · exact Or.inl s3
      · refine Or.inr ⟨by omega, Nat.le_of_lt (pc_mono (h := h) (by omega) hh (PR_16 hM g2))⟩
theorem RS_lf (hh : h = hnd n) (ht : PR n M W h t) (hb : ∀ p, p < h → b2 p = t p) (hl : L < 0 ∨ sw n W t h < L) (hs : L2 = sw n W t h) (h0 : 0 ≤ sw n W t h) (hM : M ≤ 12) (g : RS n M W h (pc t h) L b) : RS n M W h (pc t h + 1) L2 b2 := by
  subst hh
  have eb : sw n W b2 (hnd n) = sw n W t (hnd n) := sw_c hb
  have ep : pc b2 (hnd n) = pc t (hnd n) := pc_c hb
  refine Or.inr ⟨by omega, PR_c hb ht, by omega, by omega, fun c hc q => ?_⟩
  rw [eb, ep]
  by_cases e : pc c (hnd n) < pc t (hnd n)
  · rcases g with ⟨g1, g2⟩ | ⟨g1, g2, g3, g4, g5⟩
    · exact absurd e (g2 c hc)
    · have := g5 c hc e
      omega
  · have e2 : pc c (hnd n) = pc t (hnd n) := by omega
    have ee := pc_inj (t := c) (t2 := t) (h := hnd n) (fun p hp => ⟨PR_16 hM hc p hp, PR_16 hM ht p hp⟩) e2
    exact Or.inr ⟨(sw_c ee).symm, by omega⟩
/-- one more at h -/
theorem PR_s (ht : PR n M W h t) (hb : ∀ p, p < h → t2 p = t p) (hi : t2 h = i) (hM : i < M) (hw : 0 < W i (rkp n h)) (hu : ¬ ∃ p, p < h ∧ t p = i) (hf : frs n h t ≤ i) : PR n M W (h + 1) t2 := by
  obtain ⟨g1, g2, g3⟩ := ht
  refine ⟨fun p hp => ?_, fun p q hp hq e => ?_, fun p hp e => ?_⟩
  · by_cases c : p = h
    · rw [c, hi]; exact ⟨hM, hw⟩
    · rw [hb p (by omega)]; exact g1 p (by omega)
  · by_cases c : p = h
    · by_cases d : q = h
      · rw [c, d]
      · exfalso
        rw [c, hi, hb q (by omega)] at e
        exact hu ⟨q, by omega, e.symm⟩
    · by_cases d : q = h
      · exfalso
        rw [d, hi, hb p (by omega)] at e
        exact hu ⟨p, by omega, e⟩
      · rw [hb p (by omega), hb q (by omega)] at e
        exact g2 p q (by omega) (by omega) e
  · by_cases c : p + 1 = h
    · rw [c, hi, hb p (by omega)]
      rw [c] at e
      unfold frs at hf
      rw [if_pos ⟨by omega, by rw [show h - 1 = p by omega]; exact e⟩, show h - 1 = p by omega] at hf
      omega
    · rw [hb p (by omega), hb (p + 1) (by omega)]
      exact g3 p (by omega) e
theorem RS_0 (hL : L = -9) : RS n M W 0 0 L b := Or.inl ⟨hL, fun c _ => Nat.not_lt_zero _⟩
end
/-- both: the hands by places, and by ranks -/
theorem PR_PV {n M : Nat} {W : Nat → Nat → Int} {b : Nat → Nat} (h : PR n M W (hnd n) b) : PV n W M n (fun r j => b (fpl n r + j)) := by
  obtain ⟨h1, h2, h3⟩ := h
  refine ⟨fun r _ => Nat.le_refl _, fun r j hr hj => ?_, fun r j r2 j2 hr hj hr2 hj2 e => ?_, fun r hr hj => ?_⟩
  · have p := pl_1 hr hj
    have g := h1 _ p.1
    rw [p.2] at g
    exact g
  · have p := pl_1 hr hj
    have q := pl_1 hr2 hj2
    have e1 := h2 _ _ p.1 q.1 e
    have e2 : r = r2 := by rw [← p.2, ← q.2, e1]
    subst e2
    exact ⟨rfl, by omega⟩
  · have p := pl_1 hr (show 0 < dg n r by omega)
    have q := pl_1 hr hj
    exact h3 _ q.1 (p.2.trans q.2.symm)
theorem PV_PR {n M : Nat} {W : Nat → Nat → Int} {b : Nat → Nat → Nat} (h : PV n W M n b) : PR n M W (hnd n) (fun p => b (rkp n p) (p - fpl n (rkp n p))) := by
  obtain ⟨-, h2, h3, h4⟩ := h
  refine ⟨fun p hp => ?_, fun p q hp hq e => ?_, fun p hp e => ?_⟩
  · have g := pl_2 hp
    exact h2 _ _ g.1 g.2.2
  · have g := pl_2 hp
    have g2 := pl_2 hq
    have z := h3 _ _ _ _ g.1 g.2.2 g2.1 g2.2.2 e
    have z1 := z.1
    have z2 := z.2
    rw [z1] at z2 g
    omega
  · have g := pl_2 (show p < hnd n by omega)
    have g2 := pl_2 hp
    show b (rkp n p) (p - fpl n (rkp n p)) < b (rkp n (p + 1)) (p + 1 - fpl n (rkp n (p + 1)))
    rw [← e] at g2 ⊢
    have d := dg_le (c := n) (r := rkp n p)
    have e0 : p - fpl n (rkp n p) = 0 := by omega
    rw [e0, show p + 1 - fpl n (rkp n p) = 1 by omega]
    exact h4 _ g.1 (by omega)
theorem smI_add {f : Nat → Int} {a : Nat} : ∀ {k : Nat}, smI f (a + k) = smI f a + smI (fun j => f (a + j)) k := by
  intro k
  induction k with
  | zero => exact (Int.add_zero _).symm
  | succ k ih =>
    show smI f (a + k) + f (a + k) = smI f a + (smI (fun j => f (a + j)) k + f (a + k))
    rw [ih]
    omega
/-- what hands come to, by places -/
def cdP (n : Nat) (W : Nat → Nat → Int) (b : Nat → Nat) (p : Nat) : Int := W (b p) (rkp n p) * 4294967296 + (b p : Int) * 16 ^ (7 - p)
theorem cdS_P {n : Nat} {W : Nat → Nat → Int} {b : Nat → Nat} : cdS n W n (fun r j => b (fpl n r + j)) = smI (cdP n W b) (hnd n) := by
  have e : ∀ r, r < 4 → smI (tm n W (fun r j => b (fpl n r + j)) r) (dg n r) = smI (fun j => cdP n W b (fpl n r + j)) (dg n r) := fun r hr => smI_c (fun j hj => by
    unfold tm cdI cdP
    rw [(pl_1 hr hj).2])
  unfold cdS
  rw [e 0 (by decide), e 1 (by decide), e 2 (by decide), e 3 (by decide)]
  have v := fpl_v n
  rw [v.2.2.2.2, smI_add, smI_add, smI_add, v.1, v.2.1, v.2.2.1, v.2.2.2.1, show (fun j => cdP n W b (0 + j)) = cdP n W b from funext fun j => by rw [Nat.zero_add]]
theorem smI_cd {n : Nat} {W : Nat → Nat → Int} {b : Nat → Nat} : ∀ {h : Nat}, h ≤ 8 → smI (cdP n W b) h = sw n W b h * 4294967296 + (pc b h : Int) * 16 ^ (8 - h) := by
  intro h
  induction h with
  | zero =>
    intro _
    show (0 : Int) = 0 * 4294967296 + ((0 : Nat) : Int) * 16 ^ (8 - 0)
    simp
  | succ h ih =>
    intro hh
    show smI (cdP n W b) h + cdP n W b h = (sw n W b h + W (b h) (rkp n h)) * 4294967296 + ((16 * pc b h + b h : Nat) : Int) * 16 ^ (8 - (h + 1))
    rw [ih (by omega)]
    unfold cdP
    rw [show 8 - h = (7 - h) + 1 by omega, show 8 - (h + 1) = 7 - h by omega, Int.pow_succ, Int.add_mul, Int.natCast_add, Int.natCast_mul, Int.add_mul]
    have e : (pc b h : Int) * (16 ^ (7 - h) * 16) = ((16 : Nat) : Int) * (pc b h : Int) * 16 ^ (7 - h) := by
      rw [Int.mul_comm (16 ^ (7 - h)) 16, ← Int.mul_assoc, Int.mul_comm (pc b h : Int) 16]
      rfl
    rw [e]
    omega
