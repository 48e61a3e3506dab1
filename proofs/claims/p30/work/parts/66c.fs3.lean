

/-- the last day of a chain's happenings that count -/
def lfM (fa : Nat → Nat → Int32) (d k : Int) : Int → List Nat → Int
  | a, [] => a
  | a, i :: l => lfM fa d k (if (fa 13 i).toInt ≤ k ∧ (fa 12 i).toInt ≤ d ∧ a < (fa 12 i).toInt then (fa 12 i).toInt else a) l
/-- the LEFT or BACK of a chain that counts, the newest first -/
def lwM (fa : Nat → Nat → Int32) (d k : Int) : Option Nat → List Nat → Option Nat
  | b, [] => b
  | b, i :: l => lwM fa d k (if (fa 10 i).toInt ≠ 4 ∧ (fa 13 i).toInt ≤ k ∧ (fa 12 i).toInt ≤ d ∧ (∀ j, b = some j → (fa 12 j).toInt < (fa 12 i).toInt) then some i else b) l
section
variable {fa : Nat → Nat → Int32} {d k x a0 : Int} {n : Nat}
theorem lfM_spec : ∀ (l : List Nat) (a : Int), a ≤ lfM fa d k a l ∧ (∀ i, i ∈ l → (fa 13 i).toInt ≤ k → (fa 12 i).toInt ≤ d → (fa 12 i).toInt ≤ lfM fa d k a l) ∧ (lfM fa d k a l = a ∨ ∃ i, i ∈ l ∧ (fa 13 i).toInt ≤ k ∧ (fa 12 i).toInt ≤ d ∧ (fa 12 i).toInt = lfM fa d k a l) := by
  intro l
  induction l with
  | nil => intro a; exact ⟨Int.le_refl _, fun i hi => (nomatch hi), Or.inl rfl⟩
  | cons i l ih =>
    intro a
    unfold lfM
    by_cases c : (fa 13 i).toInt ≤ k ∧ (fa 12 i).toInt ≤ d ∧ a < (fa 12 i).toInt
    · rw [if_pos c]
      obtain ⟨h1, h2, h3⟩ := ih (fa 12 i).toInt
      refine ⟨by omega, fun j hj g1 g2 => ?_, ?_⟩
      · rcases List.mem_cons.mp hj with e | hj
        · rw [e]; exact h1
        · exact h2 j hj g1 g2
      · rcases h3 with h3 | ⟨j, h4, h5⟩
        · exact Or.inr ⟨i, List.mem_cons_self, c.1, c.2.1, h3.symm⟩
        · exact Or.inr ⟨j, List.mem_cons_of_mem _ h4, h5⟩
    · rw [if_neg c]
      obtain ⟨h1, h2, h3⟩ := ih a
      refine ⟨h1, fun j hj g1 g2 => ?_, ?_⟩
      · rcases List.mem_cons.mp hj with e | hj
        · rw [e] at g1 g2 ⊢
          omega
        · exact h2 j hj g1 g2
      · rcases h3 with h3 | ⟨j, h4, h5⟩
        · exact Or.inl h3
        · exact Or.inr ⟨j, List.mem_cons_of_mem _ h4, h5⟩
def lhP (fa : Nat → Nat → Int32) (x d k : Int) (j : Nat) : Prop := ((fa 10 j).toInt = 1 ∨ (fa 10 j).toInt = 0) ∧ (fa 11 j).toInt = x ∧ (fa 13 j).toInt ≤ k ∧ (fa 12 j).toInt ≤ d
theorem lhB_spec (hd : ∀ j, 0 ≤ (fa 12 j).toInt) : ∀ {n : Nat}, -1 ≤ lhB fa x d k n ∧ (∀ j, j < n → lhP fa x d k j → (fa 12 j).toInt ≤ lhB fa x d k n) ∧ (lhB fa x d k n = -1 ∨ ∃ j, j < n ∧ lhP fa x d k j ∧ (fa 12 j).toInt = lhB fa x d k n) := by
  intro n
  induction n with
  | zero => exact ⟨Int.le_refl _, fun j hj => absurd hj (Nat.not_lt_zero j), Or.inl rfl⟩
  | succ n ih =>
    obtain ⟨h1, h2, h3⟩ := ih
    have hn := hd n
    unfold lhB
    by_cases c : ((fa 10 n).toInt = 1 ∨ (fa 10 n).toInt = 0) ∧ (fa 11 n).toInt = x ∧ (fa 13 n).toInt ≤ k ∧ (fa 12 n).toInt ≤ d ∧ lhB fa x d k n < (fa 12 n).toInt
    · rw [if_pos c]
      refine ⟨by omega, fun j hj g => ?_, Or.inr ⟨n, by omega, ⟨c.1, c.2.1, c.2.2.1, c.2.2.2.1⟩, rfl⟩⟩
      by_cases e : j = n
      · rw [e]; exact Int.le_refl _
      · have := h2 j (by omega) g
        omega
    · rw [if_neg c]
      refine ⟨h1, fun j hj g => ?_, ?_⟩
      · by_cases e : j = n
        · rw [e] at g ⊢
          unfold lhP at g
          omega
        · exact h2 j (by omega) g
      · rcases h3 with h3 | ⟨j, h4, h5⟩
        · exact Or.inl h3
        · exact Or.inr ⟨j, by omega, h5⟩
/-- the chain's last day, from the day of sailing on, is the reference's -/
theorem lfM_lh {v : Nat → Int32} {x : Nat} (hd : ∀ j, 0 ≤ (fa 12 j).toInt) (ha : (a0 = -1 ∧ ∀ j, j < (v 41).toNatClampNeg → (fa 10 j).toInt = 0 → (fa 11 j).toInt = x → ¬ ((fa 13 j).toInt ≤ k ∧ (fa 12 j).toInt ≤ d)) ∨ ∃ j, j < (v 41).toNatClampNeg ∧ lhP fa x d k j ∧ (fa 12 j).toInt = a0 ∧ ∀ i, i < (v 41).toNatClampNeg → (fa 10 i).toInt = 0 → (fa 11 i).toInt = x → i = j) : lfM fa d k a0 (hls (hvS fa x) (v 41).toNatClampNeg) = lhO v fa x d k := by
  obtain ⟨f1, f2, f3⟩ := lfM_spec (fa := fa) (d := d) (k := k) (hls (hvS fa x) (v 41).toNatClampNeg) a0
  obtain ⟨g1, g2, g3⟩ := lhB_spec (x := x) (d := d) (k := k) hd (n := (v 41).toNatClampNeg)
  have mem : ∀ i, i ∈ hls (hvS fa x) (v 41).toNatClampNeg ↔ i < (v 41).toNatClampNeg ∧ (fa 10 i).toInt = 1 ∧ (fa 11 i).toInt = x := fun i => by
    rw [hls_mem]
    unfold hvS
    rw [decide_eq_true_iff]
  unfold lhO
  apply Int.le_antisymm
  · rcases f3 with f3 | ⟨i, i1, i2, i3, i4⟩
    · rw [f3]
      rcases ha with ⟨e, -⟩ | ⟨j, j1, j2, j3, -⟩
      · omega
      · rw [← j3]; exact g2 j j1 j2
    · rw [← i4]
      have m := (mem i).mp i1
      exact g2 i m.1 ⟨Or.inl m.2.1, m.2.2, i2, i3⟩
  · rcases g3 with g3 | ⟨j, j1, ⟨j2, j3, j4, j5⟩, j6⟩
    · rw [g3]
      rcases ha with ⟨e, -⟩ | ⟨j, -, -, j3, -⟩
      · omega
      · have := hd j
        omega
    · rw [← j6]
      rcases j2 with j2 | j2
      · exact f2 j ((mem j).mpr ⟨j1, j2, j3⟩) j4 j5
      · rcases ha with ⟨-, e⟩ | ⟨i, i1, i2, i3, i4⟩
        · exact absurd ⟨j4, j5⟩ (e j j1 j2 j3)
        · rw [i4 j j1 j2 j3, i3]
          exact f1
/-- the one that counts: none, or the latest day, of several the one told last -/
def isB (fa : Nat → Nat → Int32) (P : Nat → Prop) (r : Option Nat) : Prop := (r = none ∧ ∀ j, ¬ P j) ∨ ∃ i, r = some i ∧ P i ∧ ∀ j, P j → (fa 12 j).toInt < (fa 12 i).toInt ∨ ((fa 12 j).toInt = (fa 12 i).toInt ∧ j ≤ i)
theorem isB_u {P : Nat → Prop} {r s : Option Nat} (h : isB fa P r) (g : isB fa P s) : r = s := by
  rcases h with ⟨h1, h2⟩ | ⟨i, h1, h2, h3⟩
  · rcases g with ⟨g1, -⟩ | ⟨j, -, g2, -⟩
    · rw [h1, g1]
    · exact absurd g2 (h2 j)
  · rcases g with ⟨-, g2⟩ | ⟨j, g1, g2, g3⟩
    · exact absurd h2 (g2 i)
    · have a := h3 j g2
      have b := g3 i h2
      have e : i = j := by omega
      rw [h1, g1, e]
theorem lwM_isB {P : Nat → Prop} : ∀ (l : List Nat) (b : Option Nat) (Q : Nat → Prop), isB fa Q b → (∀ i, i ∈ l → ∀ j, Q j → i < j) → l.Pairwise (fun x y => y < x) → isB fa (fun j => Q j ∨ (j ∈ l ∧ (fa 10 j).toInt ≠ 4 ∧ (fa 13 j).toInt ≤ k ∧ (fa 12 j).toInt ≤ d)) (lwM fa d k b l) := by
  intro l
  induction l with
  | nil =>
    intro b Q h _ _
    unfold lwM
    have e : (fun j => Q j ∨ (j ∈ ([] : List Nat) ∧ (fa 10 j).toInt ≠ 4 ∧ (fa 13 j).toInt ≤ k ∧ (fa 12 j).toInt ≤ d)) = Q := funext fun j => propext ⟨fun q => q.elim (fun z => z) (fun z => (nomatch z.1)), Or.inl⟩
    rw [e]
    exact h
  | cons i l ih =>
    intro b Q h hlt hp
    obtain ⟨p1, p2⟩ := List.pairwise_cons.mp hp
    unfold lwM
    have hQ : ∀ Q2 : Nat → Prop, (∀ j, Q2 j ↔ (Q j ∨ (j = i ∧ (fa 10 j).toInt ≠ 4 ∧ (fa 13 j).toInt ≤ k ∧ (fa 12 j).toInt ≤ d))) → (fun j => Q2 j ∨ (j ∈ l ∧ (fa 10 j).toInt ≠ 4 ∧ (fa 13 j).toInt ≤ k ∧ (fa 12 j).toInt ≤ d)) = fun j => Q j ∨ (j ∈ i :: l ∧ (fa 10 j).toInt ≠ 4 ∧ (fa 13 j).toInt ≤ k ∧ (fa 12 j).toInt ≤ d) := fun Q2 hq => funext fun j => propext (by
      rw [hq j, List.mem_cons]
      constructor
      · rintro ((g | ⟨g1, g2⟩) | ⟨g1, g2⟩)
        · exact Or.inl g
        · exact Or.inr ⟨Or.inl g1, g2⟩
        · exact Or.inr ⟨Or.inr g1, g2⟩
      · rintro (g | ⟨g1 | g1, g2⟩)
        · exact Or.inl (Or.inl g)
        · exact Or.inl (Or.inr ⟨g1, g2⟩)
        · exact Or.inr ⟨g1, g2⟩)
    by_cases c : (fa 10 i).toInt ≠ 4 ∧ (fa 13 i).toInt ≤ k ∧ (fa 12 i).toInt ≤ d ∧ (∀ j, b = some j → (fa 12 j).toInt < (fa 12 i).toInt)
    · rw [if_pos c]
      rw [← hQ (fun j => Q j ∨ j = i) (fun j => ⟨fun q => q.elim Or.inl (fun e => Or.inr ⟨e, by rw [e]; exact ⟨c.1, c.2.1, c.2.2.1⟩⟩), fun q => q.elim Or.inl (fun e => Or.inr e.1)⟩)]
      refine ih _ _ (Or.inr ⟨i, rfl, Or.inr rfl, fun j hj => ?_⟩) (fun m hm j hj => ?_) p2
      · rcases hj with hj | hj
        · rcases h with ⟨-, h2⟩ | ⟨b0, h1, h2, h3⟩
          · exact absurd hj (h2 j)
          · have := c.2.2.2 b0 h1
            have := h3 j hj
            omega
        · rw [hj]; omega
      · rcases hj with hj | hj
        · exact hlt m (List.mem_cons_of_mem _ hm) j hj
        · rw [hj]; exact p1 m hm
    · rw [if_neg c]
      by_cases c2 : (fa 10 i).toInt ≠ 4 ∧ (fa 13 i).toInt ≤ k ∧ (fa 12 i).toInt ≤ d
      · have c3 : ∃ j, b = some j ∧ (fa 12 i).toInt ≤ (fa 12 j).toInt := by
          refine Classical.byContradiction (fun q => c ⟨c2.1, c2.2.1, c2.2.2, fun j hj => ?_⟩)
          refine Classical.byContradiction (fun q2 => q ⟨j, hj, by omega⟩)
        obtain ⟨j0, j1, j2⟩ := c3
        rw [← hQ (fun j => Q j ∨ j = i) (fun j => ⟨fun q => q.elim Or.inl (fun e => Or.inr ⟨e, by rw [e]; exact c2⟩), fun q => q.elim Or.inl (fun e => Or.inr e.1)⟩)]
        refine ih _ _ ?_ (fun m hm j hj => ?_) p2
        · rcases h with ⟨h1, -⟩ | ⟨b0, h1, h2, h3⟩
          · rw [h1] at j1; cases j1
          · rw [h1] at j1
            cases j1
            refine Or.inr ⟨j0, h1, Or.inl h2, fun j hj => ?_⟩
            rcases hj with hj | hj
            · exact h3 j hj
            · have := hlt i List.mem_cons_self j0 h2
              rw [hj]
              omega
        · rcases hj with hj | hj
          · exact hlt m (List.mem_cons_of_mem _ hm) j hj
          · rw [hj]; exact p1 m hm
      · rw [← hQ Q (fun j => ⟨Or.inl, fun q => q.elim (fun z => z) (fun e => absurd (by rw [← e.1]; exact e.2) c2)⟩)]
        exact ih _ _ h (fun m hm => hlt m (List.mem_cons_of_mem _ hm)) p2
theorem hls_pw {P : Nat → Bool} : ∀ {n : Nat}, (hls P n).Pairwise (fun x y => y < x) := by
  intro n
  induction n with
  | zero => exact List.Pairwise.nil
  | succ n ih =>
    unfold hls
    split
    · exact List.pairwise_cons.mpr ⟨fun i hi => (hls_mem.mp hi).1, ih⟩
    · exact ih
def whP (fa : Nat → Nat → Int32) (a d k : Int) (j : Nat) : Prop := ((fa 10 j).toInt = 3 ∨ (fa 10 j).toInt = 5) ∧ (fa 11 j).toInt = a ∧ (fa 13 j).toInt ≤ k ∧ (fa 12 j).toInt ≤ d
theorem whB_isB {a : Int} : ∀ {n : Nat}, isB fa (fun j => j < n ∧ whP fa a d k j) (if whB fa a d k n < 0 then none else some (whB fa a d k n).toNat) := by
  intro n
  induction n with
  | zero => exact Or.inl ⟨rfl, fun j q => Nat.not_lt_zero j q.1⟩
  | succ n ih =>
    unfold whB
    by_cases c : ((fa 10 n).toInt = 3 ∨ (fa 10 n).toInt = 5) ∧ (fa 11 n).toInt = a ∧ (fa 13 n).toInt ≤ k ∧ (fa 12 n).toInt ≤ d ∧ (whB fa a d k n < 0 ∨ (fa 12 (whB fa a d k n).toNat).toInt ≤ (fa 12 n).toInt)
    · rw [if_pos c, if_neg (by omega), Int.toNat_natCast]
      refine Or.inr ⟨n, rfl, ⟨by omega, c.1, c.2.1, c.2.2.1, c.2.2.2.1⟩, fun j hj => ?_⟩
      by_cases e : j = n
      · rw [e]; omega
      · rcases ih with ⟨h1, h2⟩ | ⟨b, h1, h2, h3⟩
        · exact absurd ⟨by omega, hj.2⟩ (h2 j)
        · by_cases g : whB fa a d k n < 0
          · rw [if_pos g] at h1; cases h1
          · rw [if_neg g] at h1
            have e2 := Option.some.inj h1
            have := h3 j ⟨by omega, hj.2⟩
            rw [e2] at c
            omega
    · rw [if_neg c]
      have key : ∀ j, (j < n + 1 ∧ whP fa a d k j) → (j < n ∧ whP fa a d k j) ∨ (j = n ∧ 0 ≤ whB fa a d k n ∧ (fa 12 n).toInt < (fa 12 (whB fa a d k n).toNat).toInt) := fun j hj => by
        by_cases e : j = n
        · rw [e] at hj
          unfold whP at hj
          exact Or.inr ⟨e, by omega, by omega⟩
        · exact Or.inl ⟨by omega, hj.2⟩
      rcases ih with ⟨h1, h2⟩ | ⟨b, h1, h2, h3⟩
      · refine Or.inl ⟨h1, fun j hj => ?_⟩
        rcases key j hj with q | ⟨-, q, -⟩
        · exact h2 j q
        · rw [if_neg (by omega)] at h1; cases h1
      · refine Or.inr ⟨b, h1, ⟨by omega, h2.2⟩, fun j hj => ?_⟩
        rcases key j hj with q | ⟨e, q1, q2⟩
        · exact h3 j q
        · rw [if_neg (by omega)] at h1
          rw [Option.some.inj h1] at q2
          rw [e]
          exact Or.inl q2
/-- the chain's is the reference's -/
theorem lwM_wh {v : Nat → Int32} {a : Nat} : lwM fa d k none (hls (tdS fa a) (v 41).toNatClampNeg) = if whO v fa a d k < 0 then none else some (whO v fa a d k).toNat := by
  have h1 := lwM_isB (fa := fa) (d := d) (k := k) (P := fun _ => False) (hls (tdS fa a) (v 41).toNatClampNeg) none (fun _ => False) (Or.inl ⟨rfl, fun _ q => q⟩) (fun _ _ _ q => q.elim) hls_pw
  have h2 := whB_isB (fa := fa) (d := d) (k := k) (a := (a : Int)) (n := (v 41).toNatClampNeg)
  refine isB_u h1 ?_
  have e : (fun j => False ∨ (j ∈ hls (tdS fa a) (v 41).toNatClampNeg ∧ (fa 10 j).toInt ≠ 4 ∧ (fa 13 j).toInt ≤ k ∧ (fa 12 j).toInt ≤ d)) = fun j => j < (v 41).toNatClampNeg ∧ whP fa a d k j := funext fun j => propext (by
    rw [hls_mem]
    unfold tdS whP
    rw [decide_eq_true_iff]
    constructor
    · rintro (q | ⟨⟨q1, q2, q3⟩, q4, q5, q6⟩)
      · exact q.elim
      · exact ⟨q1, by omega, q3, q5, q6⟩
    · rintro ⟨q1, q2, q3, q5, q6⟩
      exact Or.inr ⟨⟨q1, by omega, q3⟩, by omega, q5, q6⟩)
  rw [e]
  exact h2
end
