

abbrev isSg (s : Int32) : Prop := s = 43 ∨ s = 45 ∨ s = 42 ∨ s = 47 ∨ s = 60 ∨ s = 61 ∨ s = 62
def rel3 {α β : Type} (Q : α → β → Prop) (R : Nat × Bool × α) (R' : Nat × Bool × β) : Prop := R.1 = R'.1 ∧ R.2.1 = R'.2.1 ∧ (R.2.1 = true → Q R.2.2 R'.2.2)
section
variable {α β : Type} {Q : α → β → Prop} {U sm br : Nat → Nat × Bool × α} {U' sm' br' : Nat → Nat × Bool × β} {c : Nat → Int32} {op : Int32 → α → α → α} {op' : Int32 → β → β → β} {li lt : Int32 → α} {li' lt' : Int32 → β} {dv : α} {dv' : β}
theorem pL_rel {s1 s2 : Int32} (h1 : isSg s1) (h2 : isSg s2) (hop : ∀ s, isSg s → ∀ x x' y y', Q x x' → Q y y' → Q (op s x y) (op' s x' y')) (hU : ∀ p, rel3 Q (U p) (U' p)) : ∀ (k : Nat) (x : Nat × Bool × α) (x' : Nat × Bool × β), rel3 Q x x' → rel3 Q (pL U c s1 s2 op k x) (pL U' c s1 s2 op' k x') := by
  intro k
  induction k with
  | zero => intro x x' h; exact h
  | succ k ih =>
    intro x x' h
    obtain ⟨a1, a2, a3⟩ := h
    obtain ⟨p, w, y⟩ := x
    obtain ⟨p', w', y'⟩ := x'
    simp only at a1 a2 a3
    subst a1 a2
    by_cases g : w = true ∧ (c p = s1 ∨ c p = s2)
    · obtain ⟨gw, gs⟩ := g
      subst gw
      obtain ⟨b1, b2, b3⟩ := hU (p + 1)
      rw [pL_go (q := (U (p + 1)).1) (w := (U (p + 1)).2.1) (y := (U (p + 1)).2.2) gs rfl, pL_go (q := (U' (p + 1)).1) (w := (U' (p + 1)).2.1) (y := (U' (p + 1)).2.2) gs rfl]
      refine ih _ _ ⟨b1, b2, fun q => hop _ ?_ _ _ _ _ (a3 rfl) (b3 q)⟩
      rcases gs with e | e
      · rw [e]; exact h1
      · rw [e]; exact h2
    · rw [pL_stop g, pL_stop g]
      exact ⟨rfl, rfl, a3⟩
theorem pT_rel (hop : ∀ s, isSg s → ∀ x x' y y', Q x x' → Q y y' → Q (op s x y) (op' s x' y')) (hU : ∀ p, rel3 Q (U p) (U' p)) (p : Nat) : rel3 Q (pT U c op p) (pT U' c op' p) := pL_rel (by decide +kernel) (by decide +kernel) hop hU 60 _ _ (hU p)
theorem pS_rel (hop : ∀ s, isSg s → ∀ x x' y y', Q x x' → Q y y' → Q (op s x y) (op' s x' y')) (hU : ∀ p, rel3 Q (U p) (U' p)) (p : Nat) : rel3 Q (pS U c op p) (pS U' c op' p) := pL_rel (by decide +kernel) (by decide +kernel) hop (pT_rel hop hU) 60 _ _ (pT_rel hop hU p)
theorem pB_rel (hop : ∀ s, isSg s → ∀ x x' y y', Q x x' → Q y y' → Q (op s x y) (op' s x' y')) (hs : ∀ p, rel3 Q (sm p) (sm' p)) (p : Nat) : rel3 Q (pB sm c op dv p) (pB sm' c op' dv' p) := by
  have h := hs p
  rcases e : sm p with ⟨q, w, x⟩
  rcases e' : sm' p with ⟨q', w', x'⟩
  rw [e, e'] at h
  obtain ⟨a1, a2, a3⟩ := h
  simp only at a1 a2 a3
  subst a1 a2
  cases w with
  | false =>
    rw [uB_0 e, uB_0 e']
    exact ⟨rfl, rfl, fun g => by cases g⟩
  | true =>
    by_cases hc : c q = 60 ∨ c q = 61 ∨ c q = 62
    · have h2 := hs (q + 1)
      rcases e2 : sm (q + 1) with ⟨q2, w2, y⟩
      rcases e2' : sm' (q + 1) with ⟨q2', w2', y'⟩
      rw [e2, e2'] at h2
      obtain ⟨b1, b2, b3⟩ := h2
      simp only at b1 b2 b3
      subst b1 b2
      cases w2 with
      | false =>
        rw [uB_c0 e hc e2, uB_c0 e' hc e2']
        exact ⟨rfl, rfl, fun g => by cases g⟩
      | true =>
        by_cases h41 : c q2 = 41
        · rw [uB_c1 e hc e2 h41, uB_c1 e' hc e2' h41]
          refine ⟨rfl, rfl, fun _ => hop _ ?_ _ _ _ _ (a3 rfl) (b3 rfl)⟩
          rcases hc with g | g | g <;> rw [g] <;> decide
        · rw [uB_c2 e hc e2 h41, uB_c2 e' hc e2' h41]
          exact ⟨rfl, rfl, fun g => by cases g⟩
    · by_cases h41 : c q = 41
      · rw [uB_1 e hc h41, uB_1 e' hc h41]
        exact ⟨rfl, rfl, a3⟩
      · rw [uB_2 e hc h41, uB_2 e' hc h41]
        exact ⟨rfl, rfl, fun g => by cases g⟩
theorem pX_rel (hli : ∀ p, Q (li (pNum c 5 0 p).2) (li' (pNum c 5 0 p).2)) (hlt : ∀ x, isLt x → Q (lt x) (lt' x)) {p : Nat} (hbr : rel3 Q (br p) (br' p)) : rel3 Q (pX li lt dv c br p) (pX li' lt' dv' c br' p) := by
  by_cases h1 : isLt (c p)
  · rw [uX_l h1, uX_l h1]
    exact ⟨rfl, rfl, fun _ => hlt _ h1⟩
  · by_cases h2 : c p = 40
    · rw [uX_b h2, uX_b h2]
      exact hbr
    · rcases e : pNum c 5 0 p with ⟨q, z⟩
      by_cases h3 : q = p
      · subst h3
        rw [uX_e h1 h2 e, uX_e h1 h2 e]
        exact ⟨rfl, rfl, fun g => by cases g⟩
      · rw [uX_n h1 h2 e h3, uX_n h1 h2 e h3]
        have g := hli p
        rw [e] at g
        exact ⟨rfl, rfl, fun _ => g⟩
theorem pU_rel (hop : ∀ s, isSg s → ∀ x x' y y', Q x x' → Q y y' → Q (op s x y) (op' s x' y')) (hli : ∀ p, Q (li (pNum c 5 0 p).2) (li' (pNum c 5 0 p).2)) (hlt : ∀ x, isLt x → Q (lt x) (lt' x)) : ∀ (d p : Nat), rel3 Q (pU li lt op dv c d p) (pU li' lt' op' dv' c d p) := by
  intro d
  induction d with
  | zero =>
    intro p
    exact pX_rel hli hlt ⟨rfl, rfl, fun g => by cases g⟩
  | succ d ih =>
    intro p
    exact pX_rel hli hlt (pB_rel hop (pS_rel hop ih) (p + 1))
end
theorem cI_congr {f g : Nat → Int32} {n : Nat} (h : ∀ j, j < n → f j = g j) : cI f n = cI g n := funext fun p => by
  unfold cI
  split
  · exact h p (by assumption)
  · rfl
/-- a code and a value of one text: the same end -/
theorem cm_same {c : Nat → Int32} {lt : Int32 → Int32} : (cS c 5 0).1 = (mvS lt c 5 0).1 ∧ (cS c 5 0).2.1 = (mvS lt c 5 0).2.1 := by
  have h := pS_rel (Q := fun (_ : List Int32) (_ : Int32) => True) (c := c) (op := cop) (op' := mop) (fun _ _ _ _ _ _ _ _ => trivial) (pU_rel (c := c) (op := cop) (op' := mop) (li := fun x => [x]) (lt := cLt) (li' := fun x => x) (lt' := lt) (dv := []) (dv' := 0) (fun _ _ _ _ _ _ _ _ => trivial) (fun _ => trivial) (fun _ _ => trivial) 5) 0
  exact ⟨h.1, h.2.1⟩
