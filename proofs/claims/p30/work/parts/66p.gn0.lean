

/-- reached by edges -/
def rch (E : Nat → Nat → Prop) (m o : Nat) : Prop := ∀ P : Nat → Prop, P m → (∀ x y, P x → E x y → P y) → P o
/-- labels: the least of a component -/
def lab (E : Nat → Nat → Prop) (n : Nat) (g : Nat → Int) : Prop := (∀ m, m < n → 0 ≤ g m ∧ g m ≤ m) ∧ (∀ m o, E m o → g m = g o) ∧ ∀ m, m < n → rch E m (g m).toNat
section
variable {E E2 : Nat → Nat → Prop} {n m o p a b : Nat} {g g2 : Nat → Int}
theorem rch_rf : rch E m m := fun _ h _ => h
theorem rch_st (h : rch E m o) (e : E o p) : rch E m p := fun P h0 hs => hs _ _ (h P h0 hs) e
theorem rch_t (h : rch E m o) (h2 : rch E o p) : rch E m p := fun P h0 hs => h2 P (h P h0 hs) hs
theorem rch_sy (hs : ∀ m o, E m o → E o m) (h : rch E m o) : rch E o m := h (fun x => rch E x m) rch_rf (fun _ _ hx e => rch_t (rch_st rch_rf (hs _ _ e)) hx)
theorem rch_m (hi : ∀ m o, E m o → E2 m o) (h : rch E m o) : rch E2 m o := fun P h0 hs => h P h0 (fun x y hx e => hs x y hx (hi x y e))
theorem lab_c (h : ∀ m o, E m o → g m = g o) (r : rch E m o) : g m = g o := r (fun x => g m = g x) rfl (fun x y hx e => hx.trans (h x y e))
theorem lab_le (h : lab E n g) (h2 : lab E n g2) (hm : m < n) : g2 m ≤ g m := by
  have b := h.1 m hm
  have e := lab_c h2.2.1 (h.2.2 m hm)
  have b2 := h2.1 (g m).toNat (by omega)
  omega
/-- labels are one -/
theorem lab_u (h : lab E n g) (h2 : lab E n g2) (hm : m < n) : g m = g2 m := Int.le_antisymm (lab_le h2 h hm) (lab_le h h2 hm)
theorem lab_E (h : lab E n g) (hi : ∀ m o, E m o ↔ E2 m o) (hg : ∀ m, m < n → g m = g2 m) (hd : ∀ m o, E m o → m < n ∧ o < n) : lab E2 n g2 := by
  obtain ⟨h1, h2, h3⟩ := h
  refine ⟨fun m hm => by rw [← hg m hm]; exact h1 m hm, fun m o e => ?_, fun m hm => by rw [← hg m hm]; exact rch_m (fun m o => (hi m o).mp) (h3 m hm)⟩
  have e1 := (hi m o).mpr e
  have d := hd m o e1
  rw [← hg m d.1, ← hg o d.2]
  exact h2 m o e1
/-- two labels become one -/
def mrg (g : Nat → Int) (x y : Int) : Nat → Int := fun m => if g m = (if x ≤ y then y else x) then (if x ≤ y then x else y) else g m
theorem lab_mrg (h : lab E n g) (hs : ∀ m o, E m o → E o m) (ha : a < n) (hb : b < n) (h2 : ∀ m o, E2 m o ↔ E m o ∨ (m = a ∧ o = b) ∨ (m = b ∧ o = a)) : lab E2 n (mrg g (g a) (g b)) := by
  obtain ⟨h1, h3, h4⟩ := h
  have ba := h1 a ha
  have bb := h1 b hb
  have sub : ∀ m o, E m o → E2 m o := fun m o e => (h2 m o).mpr (Or.inl e)
  have sy2 : ∀ m o, E2 m o → E2 o m := fun m o e => by
    rcases (h2 m o).mp e with q | ⟨q1, q2⟩ | ⟨q1, q2⟩
    · exact sub _ _ (hs _ _ q)
    · exact (h2 o m).mpr (Or.inr (Or.inr ⟨q2, q1⟩))
    · exact (h2 o m).mpr (Or.inr (Or.inl ⟨q2, q1⟩))
  have rab : rch E2 a b := rch_st (rch_rf) ((h2 a b).mpr (Or.inr (Or.inl ⟨rfl, rfl⟩)))
  have ra : rch E2 a (g a).toNat := rch_m sub (h4 a ha)
  have rb : rch E2 b (g b).toNat := rch_m sub (h4 b hb)
  refine ⟨fun m hm => ?_, fun m o e => ?_, fun m hm => ?_⟩
  · have := h1 m hm
    unfold mrg
    by_cases c : g a ≤ g b
    · rw [if_pos c, if_pos c]
      split <;> omega
    · rw [if_neg c, if_neg c]
      split <;> omega
  · rcases (h2 m o).mp e with q | ⟨q1, q2⟩ | ⟨q1, q2⟩
    · unfold mrg
      rw [h3 m o q]
    · subst q1 q2
      unfold mrg
      by_cases c : g m ≤ g o
      · rw [if_pos c, if_pos c, if_pos rfl]
        by_cases d : g m = g o
        · rw [if_pos d]
        · rw [if_neg d]
      · rw [if_neg c, if_neg c, if_pos rfl]
        by_cases d : g o = g m
        · rw [if_pos d]
        · rw [if_neg d]
    · subst q1 q2
      unfold mrg
      by_cases c : g o ≤ g m
      · rw [if_pos c, if_pos c, if_pos rfl]
        by_cases d : g o = g m
        · rw [if_pos d]
        · rw [if_neg d]
      · rw [if_neg c, if_neg c, if_pos rfl]
        by_cases d : g m = g o
        · rw [if_pos d]
        · rw [if_neg d]
  · have rm := rch_m sub (h4 m hm)
    unfold mrg
    by_cases c : g a ≤ g b
    · rw [if_pos c, if_pos c]
      by_cases d : g m = g b
      · rw [if_pos d]
        rw [d] at rm
        exact rch_t rm (rch_t (rch_sy sy2 rb) (rch_t (rch_sy sy2 rab) ra))
      · rw [if_neg d]
        exact rm
    · rw [if_neg c, if_neg c]
      by_cases d : g m = g a
      · rw [if_pos d]
        rw [d] at rm
        exact rch_t rm (rch_t (rch_sy sy2 ra) (rch_t rab rb))
      · rw [if_neg d]
        exact rm
/-- edges below n -/
def gE (A : Nat → Nat → Prop) (n m o : Nat) : Prop := A m o ∧ m < n ∧ o < n
/-- edges below k, and of k with those below i -/
def gEi (A : Nat → Nat → Prop) (k i m o : Nat) : Prop := A m o ∧ m < k + 1 ∧ o < k + 1 ∧ ((m < k ∧ o < k) ∨ (m = k ∧ o < i) ∨ (o = k ∧ m < i))
variable {A : Nat → Nat → Prop} {k i : Nat}
theorem gEi_sy (hA : ∀ m o, A m o → A o m) : ∀ m o, gEi A k i m o → gEi A k i o m := fun m o h => ⟨hA _ _ h.1, h.2.2.1, h.2.1, by have := h.2.2.2; omega⟩
theorem lab_0 (h : lab (gE A k) k g) (hk : g k = k) : lab (gEi A k 0) (k + 1) g := by
  obtain ⟨h1, h2, h3⟩ := h
  refine ⟨fun m hm => ?_, fun m o e => ?_, fun m hm => ?_⟩
  · by_cases c : m = k
    · rw [c, hk]; omega
    · exact h1 m (by omega)
  · exact h2 m o ⟨e.1, by have := e.2.2.2; omega, by have := e.2.2.2; omega⟩
  · by_cases c : m = k
    · rw [c, hk]; exact rch_rf
    · exact rch_m (fun m o e => ⟨e.1, by have := e.2; omega, by have := e.2; omega, Or.inl e.2⟩) (h3 m (by omega))
theorem lab_y (h : lab (gEi A k i) (k + 1) g) (hA : ∀ m o, A m o → A o m) (hi : i < k + 1) (ha : A k i) : lab (gEi A k (i + 1)) (k + 1) (mrg g (g k) (g i)) := by
  refine lab_mrg h (gEi_sy hA) (Nat.lt_succ_self k) hi (fun m o => ⟨fun e => ?_, fun e => ?_⟩)
  · obtain ⟨e1, e2, e3, e4⟩ := e
    by_cases c : (m < k ∧ o < k) ∨ (m = k ∧ o < i) ∨ (o = k ∧ m < i)
    · exact Or.inl ⟨e1, e2, e3, c⟩
    · exact Or.inr (by omega)
  · rcases e with ⟨e1, e2, e3, e4⟩ | ⟨e1, e2⟩ | ⟨e1, e2⟩
    · exact ⟨e1, e2, e3, by omega⟩
    · subst e1 e2
      exact ⟨ha, by omega, by omega, by omega⟩
    · subst e1 e2
      exact ⟨hA _ _ ha, by omega, by omega, by omega⟩
theorem lab_n (h : lab (gEi A k i) (k + 1) g) (hA : ∀ m o, A m o → A o m) (ha : ¬ A k i) : lab (gEi A k (i + 1)) (k + 1) g := by
  refine lab_E h (fun m o => ⟨fun e => ⟨e.1, e.2.1, e.2.2.1, by have := e.2.2.2; omega⟩, fun e => ⟨e.1, e.2.1, e.2.2.1, ?_⟩⟩) (fun _ _ => rfl) (fun m o e => ⟨e.2.1, e.2.2.1⟩)
  obtain ⟨e1, e2, e3, e4⟩ := e
  by_cases c : (m < k ∧ o < k) ∨ (m = k ∧ o < i) ∨ (o = k ∧ m < i)
  · exact c
  · have c2 : (m = k ∧ o = i) ∨ (o = k ∧ m = i) := by omega
    rcases c2 with ⟨q1, q2⟩ | ⟨q1, q2⟩
    · subst q1 q2; exact absurd e1 ha
    · subst q1 q2; exact absurd (hA _ _ e1) ha
theorem lab_e (h : lab (gEi A k (k + 1)) (k + 1) g) : lab (gE A (k + 1)) (k + 1) g := lab_E h (fun m o => ⟨fun e => ⟨e.1, e.2.1, e.2.2.1⟩, fun e => ⟨e.1, e.2.1, e.2.2, by have := e.2; omega⟩⟩) (fun _ _ => rfl) (fun m o e => ⟨e.2.1, e.2.2.1⟩)
/-- the reference on its way: reached, and not above -/
def labR (A : Nat → Nat → Prop) (n : Nat) (g : Nat → Int) : Prop := ∀ m, m < n → (0 ≤ g m ∧ g m ≤ m) ∧ rch (gE A n) m (g m).toNat
theorem labR_0 (h : ∀ m, m < n → g m = m) : labR A n g := fun m hm => by
  rw [h m hm]
  exact ⟨by omega, rch_rf⟩
theorem labR_s (h : labR A n g) (hm : m < n) (ho : o < n) (ha : A m o) (hlt : g o < g m) (h2 : ∀ x, x < n → g2 x = if x = m then g o else g x) : labR A n g2 := fun x hx => by
  rw [h2 x hx]
  by_cases c : x = m
  · subst c
    rw [if_pos rfl]
    have q1 := h x hx
    have q2 := h o ho
    exact ⟨by omega, rch_t (rch_st (rch_rf) ⟨ha, hm, ho⟩) q2.2⟩
  · rw [if_neg c]
    exact h x hx
theorem labR_e (h : labR A n g) (hA : ∀ m o, A m o → A o m) (he : ∀ m, m < n → ∀ o, o < n → ¬ (g o < g m ∧ A m o)) : lab (gE A n) n g := by
  refine ⟨fun m hm => (h m hm).1, fun m o e => ?_, fun m hm => (h m hm).2⟩
  have q1 := he m e.2.1 o e.2.2
  have q2 := he o e.2.2 m e.2.1
  have n1 : ¬ g o < g m := fun q => q1 ⟨q, e.1⟩
  have n2 : ¬ g m < g o := fun q => q2 ⟨q, hA _ _ e.1⟩
  omega
end
/-- digits apart -/
def dga : Nat → Int → Int → Int
  | 0, _, _ => 0
  | n + 1, a, b => (if a % 10 = b % 10 then 0 else 1) + dga n (a / 10) (b / 10)
theorem dga_sy : ∀ (n : Nat) (a b : Int), dga n a b = dga n b a := by
  intro n
  induction n with
  | zero => intro a b; rfl
  | succ n ih =>
    intro a b
    unfold dga
    rw [ih (a / 10) (b / 10)]
    by_cases c : a % 10 = b % 10
    · rw [if_pos c, if_pos c.symm]
    · rw [if_neg c, if_neg (fun q => c q.symm)]
