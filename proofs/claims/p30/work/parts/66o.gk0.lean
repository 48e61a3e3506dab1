

/-- a way made shorter, if it is -/
def wyx (w : Nat → Nat → Int) (M : Int) (d : Nat → Int) (a b : Nat) : Nat → Int := fun x => if x = b ∧ 0 < w a b ∧ d a < M ∧ d a + w a b < d b then d a + w a b else d x
def wyB (w : Nat → Nat → Int) (M : Int) (d : Nat → Int) (a : Nat) : Nat → Nat → Int
  | 0 => d
  | n + 1 => wyx w M (wyB w M d a n) a n
def wyA (w : Nat → Nat → Int) (M : Int) (d : Nat → Int) : Nat → Nat → Int
  | 0 => d
  | n + 1 => wyB w M (wyA w M d n) n 10
def wyR (w : Nat → Nat → Int) (M : Int) (d : Nat → Int) : Nat → Nat → Int
  | 0 => d
  | n + 1 => wyA w M (wyR w M d n) 10
section
variable {w : Nat → Nat → Int} {M : Int} {d e F : Nat → Int} {a b x n p r : Nat}
theorem wyx_le : wyx w M d a b x ≤ d x := by
  unfold wyx
  split
  · rename_i h; rw [h.1]; omega
  · exact Int.le_refl _
theorem wyB_le : ∀ {n : Nat}, wyB w M d a n x ≤ d x := by
  intro n
  induction n with
  | zero => exact Int.le_refl _
  | succ n ih => exact Int.le_trans wyx_le ih
theorem wyA_le : ∀ {n : Nat}, wyA w M d n x ≤ d x := by
  intro n
  induction n with
  | zero => exact Int.le_refl _
  | succ n ih => exact Int.le_trans wyB_le ih
theorem wyR_le : ∀ {n : Nat}, wyR w M d n x ≤ d x := by
  intro n
  induction n with
  | zero => exact Int.le_refl _
  | succ n ih => exact Int.le_trans wyA_le ih
theorem wyx_hit (hw : 0 < w a b) (ha : d a < M) : wyx w M d a b b ≤ d a + w a b := by
  unfold wyx
  split
  · exact Int.le_refl _
  · rename_i h
    by_cases c : d a + w a b < d b
    · exact absurd ⟨rfl, hw, ha, c⟩ h
    · omega
theorem wyB_hit (hw : 0 < w a b) (ha : d a < M) : ∀ {n : Nat}, b < n → wyB w M d a n b ≤ d a + w a b := by
  intro n
  induction n with
  | zero => intro h; exact absurd h (Nat.not_lt_zero _)
  | succ n ih =>
    intro h
    by_cases c : b = n
    · subst c
      have q : wyB w M d a b a ≤ d a := wyB_le
      have := wyx_hit (d := wyB w M d a b) (M := M) hw (by omega)
      show wyx w M (wyB w M d a b) a b b ≤ _
      omega
    · exact Int.le_trans wyx_le (ih (by omega))
theorem wyA_hit (hw : 0 < w a b) (ha : d a < M) (hb : b < 10) : ∀ {n : Nat}, a < n → wyA w M d n b ≤ d a + w a b := by
  intro n
  induction n with
  | zero => intro h; exact absurd h (Nat.not_lt_zero _)
  | succ n ih =>
    intro h
    by_cases c : a = n
    · subst c
      have q : wyA w M d a a ≤ d a := wyA_le
      have := wyB_hit (d := wyA w M d a) (M := M) hw (by omega) hb
      show wyB w M (wyA w M d a) a 10 b ≤ _
      omega
    · exact Int.le_trans wyB_le (ih (by omega))
/-- nothing is to be made shorter -/
def wyc (w : Nat → Nat → Int) (M : Int) (F : Nat → Int) : Prop := ∀ a b, a < 10 → b < 10 → 0 < w a b → F a < M → F b ≤ F a + w a b
theorem wyx_ge (hF : wyc w M F) (h : ∀ x, x < 10 → F x ≤ d x) (ha : a < 10) (hb : b < 10) : ∀ x, x < 10 → F x ≤ wyx w M d a b x := by
  intro x hx
  unfold wyx
  split
  · rename_i g
    have q1 := h a ha
    have q2 := hF a b ha hb g.2.1 (by omega)
    rw [g.1]
    omega
  · exact h x hx
theorem wyB_ge (hF : wyc w M F) (h : ∀ x, x < 10 → F x ≤ d x) (ha : a < 10) : ∀ {n : Nat}, n ≤ 10 → ∀ x, x < 10 → F x ≤ wyB w M d a n x := by
  intro n
  induction n with
  | zero => intro _; exact h
  | succ n ih => intro hn; exact wyx_ge hF (ih (by omega)) ha (by omega)
theorem wyA_ge (hF : wyc w M F) (h : ∀ x, x < 10 → F x ≤ d x) : ∀ {n : Nat}, n ≤ 10 → ∀ x, x < 10 → F x ≤ wyA w M d n x := by
  intro n
  induction n with
  | zero => intro _; exact h
  | succ n ih => intro hn; exact wyB_ge hF (ih (by omega)) (by omega) (Nat.le_refl _)
theorem wyR_ge (hF : wyc w M F) (h : ∀ x, x < 10 → F x ≤ d x) : ∀ {n : Nat}, ∀ x, x < 10 → F x ≤ wyR w M d n x := by
  intro n
  induction n with
  | zero => exact h
  | succ n ih => exact wyA_ge hF ih (Nat.le_refl _)
/-- each value has a ground -/
def wyt (w : Nat → Nat → Int) (M : Int) (p : Nat) (d : Nat → Int) : Prop := ∀ b, b < 10 → d b = M ∨ (b = p ∧ d b = 0) ∨ ∃ a, a < 10 ∧ 0 < w a b ∧ d a < M ∧ d a + w a b ≤ d b
theorem wyx_tgt (h : wyt w M p d) (ha : a < 10) : wyt w M p (wyx w M d a b) := by
  intro c hc
  have key : ∀ y, wyx w M d a b y ≤ d y := fun y => wyx_le
  by_cases g : c = b ∧ 0 < w a b ∧ d a < M ∧ d a + w a b < d b
  · have e : wyx w M d a b c = d a + w a b := by unfold wyx; rw [if_pos g]
    refine Or.inr (Or.inr ⟨a, ha, by rw [g.1]; exact g.2.1, ?_, ?_⟩)
    · have := key a; omega
    · have := key a; rw [e, g.1]; omega
  · have e : wyx w M d a b c = d c := by unfold wyx; rw [if_neg g]
    rw [e]
    rcases h c hc with q | q | ⟨a', q1, q2, q3, q4⟩
    · exact Or.inl q
    · exact Or.inr (Or.inl q)
    · have := key a'
      exact Or.inr (Or.inr ⟨a', q1, q2, by omega, by omega⟩)
theorem wyB_tgt (h : wyt w M p d) (ha : a < 10) : ∀ {n : Nat}, wyt w M p (wyB w M d a n) := by
  intro n
  induction n with
  | zero => exact h
  | succ n ih => exact wyx_tgt ih ha
theorem wyA_tgt (h : wyt w M p d) : ∀ {n : Nat}, n ≤ 10 → wyt w M p (wyA w M d n) := by
  intro n
  induction n with
  | zero => intro _; exact h
  | succ n ih => intro hn; exact wyB_tgt (ih (by omega)) (by omega)
theorem wyR_tgt (h : wyt w M p d) : ∀ {n : Nat}, wyt w M p (wyR w M d n) := by
  intro n
  induction n with
  | zero => exact h
  | succ n ih => exact wyA_tgt ih (Nat.le_refl _)
theorem wyx_0 (h : ∀ x, 0 ≤ d x) : ∀ x, 0 ≤ wyx w M d a b x := by
  intro x
  unfold wyx
  split
  · rename_i g; have := h a; omega
  · exact h x
theorem wyB_0 (h : ∀ x, 0 ≤ d x) : ∀ {n : Nat}, ∀ x, 0 ≤ wyB w M d a n x := by
  intro n
  induction n with
  | zero => exact h
  | succ n ih => exact wyx_0 ih
theorem wyA_0 (h : ∀ x, 0 ≤ d x) : ∀ {n : Nat}, ∀ x, 0 ≤ wyA w M d n x := by
  intro n
  induction n with
  | zero => exact h
  | succ n ih => exact wyB_0 ih
theorem wyR_0 (h : ∀ x, 0 ≤ d x) : ∀ {n : Nat}, ∀ x, 0 ≤ wyR w M d n x := by
  intro n
  induction n with
  | zero => exact h
  | succ n ih => exact wyA_0 ih
theorem smn_le {f g : Nat → Int} : ∀ {n : Nat}, (∀ x, x < n → f x ≤ g x) → smN f n ≤ smN g n := by
  intro n
  induction n with
  | zero => intro _; exact Int.le_refl _
  | succ n ih =>
    intro h
    have := ih (fun x hx => h x (by omega))
    have := h n (by omega)
    rw [smN_s, smN_s]
    omega
theorem smn_lt {f g : Nat → Int} : ∀ {n : Nat}, (∀ x, x < n → f x ≤ g x) → ∀ y, y < n → f y < g y → smN f n < smN g n := by
  intro n
  induction n with
  | zero => intro _ y hy; exact absurd hy (Nat.not_lt_zero _)
  | succ n ih =>
    intro h y hy q
    rw [smN_s, smN_s]
    by_cases c : y = n
    · subst c
      have := smn_le (n := y) (f := f) (g := g) (fun x hx => h x (by omega))
      omega
    · have := ih (fun x hx => h x (by omega)) y (by omega) q
      have := h n (by omega)
      omega
theorem smn_0 {f : Nat → Int} (h : ∀ x, 0 ≤ f x) : ∀ {n : Nat}, 0 ≤ smN f n := by
  intro n
  induction n with
  | zero => exact Int.le_refl _
  | succ n ih => rw [smN_s]; have := h n; omega
/-- it comes to an end -/
theorem wyx_fix (h : ∀ x, 0 ≤ d x) : ∀ (k : Nat), ∀ r, smN (wyR w M d r) 10 ≤ k → ∃ R, ∀ x, x < 10 → wyR w M d (R + 1) x = wyR w M d R x := by
  intro k
  induction k with
  | zero =>
    intro r hr
    refine ⟨r, fun x hx => ?_⟩
    have l : wyR w M d (r + 1) x ≤ wyR w M d r x := wyA_le
    by_cases c : wyR w M d (r + 1) x < wyR w M d r x
    · have := smn_lt (f := wyR w M d (r + 1)) (g := wyR w M d r) (fun y _ => wyA_le) x hx c
      have := smn_0 (f := wyR w M d (r + 1)) (wyR_0 h) (n := 10)
      omega
    · omega
  | succ k ih =>
    intro r hr
    by_cases c : ∃ x, x < 10 ∧ wyR w M d (r + 1) x < wyR w M d r x
    · obtain ⟨x, hx, c⟩ := c
      have := smn_lt (f := wyR w M d (r + 1)) (g := wyR w M d r) (fun y _ => wyA_le) x hx c
      exact ih (r + 1) (by omega)
    · refine ⟨r, fun x hx => ?_⟩
      have l : wyR w M d (r + 1) x ≤ wyR w M d r x := wyA_le
      by_cases c2 : wyR w M d (r + 1) x < wyR w M d r x
      · exact absurd ⟨x, hx, c2⟩ c
      · omega
theorem wy_min {P : Nat → Prop} {f : Nat → Int} (h0 : ∀ x, 0 ≤ f x) : ∀ (k : Nat) (x : Nat), P x → f x ≤ k → ∃ y, P y ∧ ∀ z, P z → f y ≤ f z := by
  intro k
  induction k with
  | zero =>
    intro x hx hf
    refine ⟨x, hx, fun z _ => ?_⟩
    have := h0 z
    omega
  | succ k ih =>
    intro x hx hf
    by_cases c : ∃ z, P z ∧ f z < f x
    · obtain ⟨z, h1, h2⟩ := c
      exact ih z h1 (by omega)
    · refine ⟨x, hx, fun z hz => ?_⟩
      by_cases c2 : f z < f x
      · exact absurd ⟨z, hz, c2⟩ c
      · omega
/-- after nine rounds nothing is to be made shorter -/
theorem wyx_nine (hp : p < 10) (h0 : ∀ x, 0 ≤ d x) (hM : ∀ x, d x ≤ M) (hd : d p = 0) (ht : wyt w M p d) : ∀ x, x < 10 → wyR w M d 10 x = wyR w M d 9 x := by
  obtain ⟨R, hR⟩ := wyx_fix (w := w) (M := M) h0 (smN (wyR w M d 0) 10).toNat 0 (by have := smn_0 (f := wyR w M d 0) (wyR_0 h0) (n := 10); omega)
  obtain ⟨F, eF⟩ : ∃ F, F = wyR w M d R := ⟨_, rfl⟩
  have F0 : ∀ x, 0 ≤ F x := by rw [eF]; exact wyR_0 h0
  have Fc : wyc w M F := by
    intro a b ha hb hw hm
    have := wyA_hit (d := F) hw hm hb ha
    have e := hR b hb
    rw [← eF] at e
    have e2 : wyR w M d (R + 1) b = wyA w M F 10 b := by rw [eF]; rfl
    omega
  have Ft : wyt w M p F := by rw [eF]; exact wyR_tgt ht
  have Fd : ∀ x, x < 10 → F x ≤ d x := fun x _ => by rw [eF]; exact wyR_le
  have Fr : ∀ r x, x < 10 → F x ≤ wyR w M d r x := fun r => wyR_ge Fc Fd
  have pr : ∀ r, wyR w M d r p = 0 := fun r => by
    have h1 : wyR w M d r p ≤ d p := wyR_le
    have h2 := wyR_0 (w := w) (M := M) h0 (n := r) p
    omega
  have Fp : F p = 0 := by rw [eF]; exact pr R
  have cn : ∀ r : Nat, r ≤ 9 → (r : Int) + 1 ≤ smN (fun x => if wyR w M d r x = F x then 1 else 0) 10 := by
    intro r
    induction r with
    | zero =>
      intro _
      have := smn_lt (f := fun _ => (0 : Int)) (g := fun x => if wyR w M d 0 x = F x then 1 else 0) (n := 10) (fun x _ => by split <;> decide) p hp (by rw [if_pos (by rw [pr 0, Fp])]; decide)
      have z : smN (fun _ => (0 : Int)) 10 = 0 := rfl
      omega
    | succ r ih =>
      intro hr
      have i1 := ih (by omega)
      have st : ∀ x, x < 10 → wyR w M d r x = F x → wyR w M d (r + 1) x = F x := fun x hx e => by
        have h1 := Fr (r + 1) x hx
        have h2 : wyR w M d (r + 1) x ≤ wyR w M d r x := wyA_le
        omega
      have le : ∀ x, x < 10 → (if wyR w M d r x = F x then (1 : Int) else 0) ≤ if wyR w M d (r + 1) x = F x then 1 else 0 := fun x hx => by
        by_cases c : wyR w M d r x = F x
        · rw [if_pos c, if_pos (st x hx c)]; exact Int.le_refl _
        · rw [if_neg c]; split <;> decide
      by_cases c : ∃ x, x < 10 ∧ wyR w M d r x ≠ F x
      · obtain ⟨x, hx, hne⟩ := c
        obtain ⟨b, ⟨hb, hbn⟩, hmin⟩ := wy_min (P := fun x => x < 10 ∧ wyR w M d r x ≠ F x) F0 (F x).toNat x ⟨hx, hne⟩ (by have := F0 x; omega)
        have hb1 := Fr r b hb
        have hb2 : wyR w M d r b ≤ d b := wyR_le
        have hb3 := hM b
        have e : wyR w M d (r + 1) b = F b := by
          rcases Ft b hb with q | ⟨q1, q2⟩ | ⟨a, q1, q2, q3, q4⟩
          · omega
          · subst q1
            exact absurd ((pr r).trans q2.symm) hbn
          · have ea : wyR w M d r a = F a := by
              by_cases ca : wyR w M d r a = F a
              · exact ca
              · have := hmin a ⟨q1, ca⟩
                omega
            have h1 : wyR w M d (r + 1) b ≤ wyR w M d r a + w a b := wyA_hit q2 (by omega) hb q1
            have h2 := Fr (r + 1) b hb
            omega
        have := smn_lt (n := 10) le b hb (by rw [if_neg hbn, if_pos e]; decide)
        omega
      · have all : ∀ x, x < 10 → wyR w M d (r + 1) x = F x := fun x hx => st x hx (Classical.byContradiction fun q => c ⟨x, hx, q⟩)
        have e10 : smN (fun x => if wyR w M d (r + 1) x = F x then (1 : Int) else 0) 10 = 10 := by
          simp only [smN, all _ (by decide : 0 < 10), all _ (by decide : 1 < 10), all _ (by decide : 2 < 10), all _ (by decide : 3 < 10), all _ (by decide : 4 < 10), all _ (by decide : 5 < 10), all _ (by decide : 6 < 10), all _ (by decide : 7 < 10), all _ (by decide : 8 < 10), all _ (by decide : 9 < 10), if_true]
          rfl
        omega
  have all : ∀ x, x < 10 → wyR w M d 9 x = F x := fun x hx => by
    by_cases c : wyR w M d 9 x = F x
    · exact c
    · have h1 := cn 9 (Nat.le_refl _)
      have h2 := smn_lt (f := fun x => if wyR w M d 9 x = F x then (1 : Int) else 0) (g := fun _ => (1 : Int)) (n := 10) (fun y _ => by split <;> decide) x hx (by rw [if_neg c]; decide)
      have z : smN (fun _ => (1 : Int)) 10 = 10 := rfl
      omega
  intro x hx
  have h1 := Fr 10 x hx
  have h2 : wyR w M d 10 x ≤ wyR w M d 9 x := wyA_le
  have := all x hx
  omega
/-- the same length, or none on both sides -/
def wyl (s : Int) (u u' : Int) : Prop := (u = 1000000000 ∧ u' = 1000000) ∨ (u = u' ∧ 0 ≤ u ∧ u ≤ 9999 * s)
theorem wyx_a {w : Nat → Nat → Int} {M : Int} {d : Nat → Int} {a b : Nat} : wyx w M d a b a = d a := by
  unfold wyx
  split
  · rename_i g
    obtain ⟨g1, g2, -, g4⟩ := g
    subst g1
    omega
  · rfl
theorem wyx_rl {w : Nat → Nat → Int} {d e : Nat → Int} {s : Int} (hw : ∀ a b, w a b ≤ 9999) (h0 : 0 ≤ s) (hs : s ≤ 99) (h : ∀ x, wyl (s + 1) (d x) (e x)) (ha : wyl s (d a) (e a)) : ∀ x, wyl (s + 1) (wyx w 1000000000 d a b x) (wyx w 1000000 e a b x) := by
  intro x
  have hb := h b
  have hx := h x
  have hwb := hw a b
  unfold wyl at *
  unfold wyx
  by_cases c : x = b ∧ 0 < w a b ∧ d a < 1000000000 ∧ d a + w a b < d b
  · have c2 : x = b ∧ 0 < w a b ∧ e a < 1000000 ∧ e a + w a b < e b := ⟨c.1, c.2.1, by omega, by omega⟩
    rw [if_pos c, if_pos c2]
    omega
  · by_cases c2 : x = b ∧ 0 < w a b ∧ e a < 1000000 ∧ e a + w a b < e b
    · exact absurd ⟨c2.1, c2.2.1, by omega, by omega⟩ c
    · rw [if_neg c, if_neg c2]
      exact hx
theorem wyB_rl {w : Nat → Nat → Int} {d e : Nat → Int} {s : Int} (hw : ∀ a b, w a b ≤ 9999) (h0 : 0 ≤ s) (hs : s ≤ 99) (h : ∀ x, wyl s (d x) (e x)) : ∀ {n : Nat}, (∀ x, wyl (s + 1) (wyB w 1000000000 d a n x) (wyB w 1000000 e a n x)) ∧ wyl s (wyB w 1000000000 d a n a) (wyB w 1000000 e a n a) := by
  intro n
  induction n with
  | zero => exact ⟨fun x => by have := h x; unfold wyl at *; show _ ∨ _; unfold wyB; omega, h a⟩
  | succ n ih =>
    refine ⟨wyx_rl hw h0 hs ih.1 ih.2, ?_⟩
    show wyl s (wyx w _ (wyB w _ d a n) a n a) (wyx w _ (wyB w _ e a n) a n a)
    rw [wyx_a, wyx_a]
    exact ih.2
theorem wyA_rl {w : Nat → Nat → Int} {d e : Nat → Int} {s : Int} (hw : ∀ a b, w a b ≤ 9999) (h0 : 0 ≤ s) (h : ∀ x, wyl s (d x) (e x)) : ∀ {n : Nat}, s + n ≤ 100 → ∀ x, wyl (s + n) (wyA w 1000000000 d n x) (wyA w 1000000 e n x) := by
  intro n
  induction n with
  | zero => intro _ x; rw [show s + ((0 : Nat) : Int) = s by omega]; exact h x
  | succ n ih =>
    intro hn x
    have := (wyB_rl (a := n) hw (s := s + n) (by omega) (by omega) (ih (by omega)) (n := 10)).1 x
    rw [show s + ((n + 1 : Nat) : Int) = s + n + 1 by omega]
    exact this
theorem wyR_rl {w : Nat → Nat → Int} {d e : Nat → Int} (hw : ∀ a b, w a b ≤ 9999) (h : ∀ x, wyl 0 (d x) (e x)) : ∀ {n : Nat}, n ≤ 10 → ∀ x, wyl (10 * n) (wyR w 1000000000 d n x) (wyR w 1000000 e n x) := by
  intro n
  induction n with
  | zero => intro _ x; exact h x
  | succ n ih =>
    intro hn x
    have := wyA_rl hw (s := 10 * n) (by omega) (ih (by omega)) (n := 10) (by omega) x
    rw [show (10 * ((n + 1 : Nat) : Int)) = 10 * n + (10 : Nat) by omega]
    exact this
/-- how a way begins -/
def wy0 (M : Int) (p : Nat) : Nat → Int := fun x => if x = p then 0 else M
/-- WAY: the reference's words -/
def wyF (w : Nat → Nat → Int) (p q : Nat) : Int := if wyR w 1000000000 (wy0 1000000000 p) 10 q = 1000000000 then -9 else wyR w 1000000000 (wy0 1000000000 p) 10 q
theorem wyF_o {w : Nat → Nat → Int} {p q : Nat} (hw : ∀ a b, w a b ≤ 9999) (hp : p < 10) (hq : q < 10) : wyF w p q = if wyR w 1000000 (wy0 1000000 p) 9 q = 1000000 then -9 else wyR w 1000000 (wy0 1000000 p) 9 q := by
  have e := wyx_nine (w := w) (M := 1000000000) (d := wy0 1000000000 p) hp (fun x => by unfold wy0; split <;> omega) (fun x => by unfold wy0; split <;> omega) (if_pos rfl) (fun b _ => by
    by_cases c : b = p
    · exact Or.inr (Or.inl ⟨c, if_pos c⟩)
    · exact Or.inl (if_neg c)) q hq
  have r := wyR_rl hw (d := wy0 1000000000 p) (e := wy0 1000000 p) (fun x => by
    unfold wy0 wyl
    by_cases c : x = p
    · rw [if_pos c, if_pos c]; omega
    · rw [if_neg c, if_neg c]; omega) (n := 9) (by decide) q
  unfold wyF
  rw [e]
  unfold wyl at r
  by_cases c : wyR w 1000000000 (wy0 1000000000 p) 9 q = 1000000000
  · rw [if_pos c, if_pos (by omega)]
  · rw [if_neg c, if_neg (by omega)]
    omega
end
