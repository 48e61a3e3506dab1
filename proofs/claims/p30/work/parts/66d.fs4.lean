

section
variable {S : oS} {o b d t x a n : Nat} {v : Nat → Int32} {fa : Nat → Nat → Int32} {k j : Int} {c : Nat} {r : Option Nat} {T e e1 : Int}
theorem onc_sl (h : onc S b d t v fa 0 x) (hk : k ≤ 3000) : ((oI S b t).toInt ≤ k ∧ slO v fa x k = (oI S b d).toInt ∧ 0 ≤ (oI S b d).toInt ∧ (oI S b d).toInt ≤ 3000) ∨ (k < (oI S b t).toInt ∧ slO v fa x k = -1) := by
  unfold slO
  rcases h with ⟨h, h1, h2⟩ | ⟨h, i, i1, i2, i3, i4, i5, i6, i7, i8, i9, i10⟩
  · exact Or.inr ⟨by omega, slB_no (fun j hj q => b01_0 h ⟨j, hj, q.1, q.2.1⟩)⟩
  · by_cases g : (fa 13 i).toInt ≤ k
    · refine Or.inl ⟨by omega, ?_, i9, i10⟩
      rw [i5]
      refine slB_at (n := i) (fun j hj q => ?_) ⟨i2, i3, g⟩ (by omega) i1
      have := i4 j (by omega) q.1 q.2.1
      omega
    · refine Or.inr ⟨by omega, slB_no (fun j hj q => ?_)⟩
      rw [i4 j hj q.1 q.2.1] at q
      omega
/-- lost by a day, as known -/
def lsP (fa : Nat → Nat → Int32) (x d k : Int) (j : Nat) : Prop := ((fa 10 j).toInt = 2 ∧ (fa 11 j).toInt = x) ∧ (fa 13 j).toInt ≤ k ∧ (fa 12 j).toInt ≤ d
noncomputable def lsI (v : Nat → Int32) (fa : Nat → Nat → Int32) (x d k : Int) : Int := b01 (∃ j, j < (v 41).toNatClampNeg ∧ lsP fa x d k j)
def dyP (fa : Nat → Nat → Int32) (a d k : Int) (j : Nat) : Prop := ((fa 10 j).toInt = 4 ∧ (fa 11 j).toInt = a) ∧ (fa 13 j).toInt ≤ k ∧ (fa 12 j).toInt ≤ d
noncomputable def dyI (v : Nat → Int32) (fa : Nat → Nat → Int32) (a d k : Int) : Int := b01 (∃ j, j < (v 41).toNatClampNeg ∧ dyP fa a d k j)
theorem onc_ls (h : onc S b d t v fa 2 x) (hk : k ≤ 3000) : (((oI S b t).toInt ≤ k ∧ (oI S b d).toInt ≤ j) ∧ lsI v fa x j k = 1) ∨ (¬ ((oI S b t).toInt ≤ k ∧ (oI S b d).toInt ≤ j) ∧ lsI v fa x j k = 0) := by
  rcases h with ⟨h, h1, h2⟩ | ⟨h, i, i1, i2, i3, i4, i5, i6, i7, i8, i9, i10⟩
  · exact Or.inr ⟨by omega, b01_f (fun ⟨i, q1, q2⟩ => b01_0 h ⟨i, q1, q2.1.1, q2.1.2⟩)⟩
  · by_cases g : (oI S b t).toInt ≤ k ∧ (oI S b d).toInt ≤ j
    · exact Or.inl ⟨g, b01_t ⟨i, i1, ⟨i2, i3⟩, by omega, by omega⟩⟩
    · refine Or.inr ⟨g, b01_f (fun ⟨i', q1, q2⟩ => g ?_)⟩
      have := i4 i' q1 q2.1.1 q2.1.2
      rw [this] at q2
      have q3 := q2.2
      omega
theorem ddI_e {a x : Int} : ddI v fa a x j k = if lsI v fa x j k = 1 then 1 else dyI v fa a j k := by
  by_cases g : lsI v fa x j k = 1
  · rw [if_pos g]
    obtain ⟨i, h1, h2⟩ := b01_1 g
    exact b01_t ⟨i, h1, Or.inr h2.1, h2.2⟩
  · rw [if_neg g]
    refine b01_c ⟨fun ⟨i, h1, h2, h3⟩ => ?_, fun ⟨i, h1, h2, h3⟩ => ⟨i, h1, Or.inl h2, h3⟩⟩
    rcases h2 with h2 | h2
    · exact ⟨i, h1, h2, h3⟩
    · exact absurd (b01_t ⟨i, h1, h2, h3⟩) g
theorem dyI_0 (h : tldI v fa 4 x = 0) : dyI v fa x j k = 0 := b01_f (fun ⟨i, q1, q2⟩ => b01_0 h ⟨i, q1, q2.1.1, q2.1.2⟩)
/-- walks along a chain -/
theorem chn_s {l : List Nat} (h : chn S fa l (some b)) : ∃ i l', l = i :: l' ∧ rHp S fa b i ∧ chn S fa l' (oP S b 5) := by
  cases l with
  | nil => exact absurd h (by unfold chn; simp)
  | cons i l =>
    obtain ⟨c, h1, h2, h3⟩ := h
    cases h1
    exact ⟨i, l, rfl, h2, h3⟩
theorem chn_n {l : List Nat} (h : chn S fa l none) : l = [] := by
  cases l with
  | nil => rfl
  | cons i l =>
    obtain ⟨c, h1, -⟩ := h
    exact absurd h1 (by simp)
def lfI (S : oS) (fa : Nat → Nat → Int32) (d k e T : Int) (r : Option Nat) : Prop := ∃ l, chn S fa l r ∧ lfM fa d k e l = T
theorem lf_n {d : Int} (h : lfI S fa d k e T none) : e = T := by
  obtain ⟨l, h1, h2⟩ := h
  rw [chn_n h1] at h2
  exact h2
theorem lf_s {d : Int} (h : lfI S fa d k e T (some b)) (hr : oP S b 5 = r) (hc : ((oI S b 2).toInt ≤ k ∧ (oI S b 1).toInt ≤ d ∧ e < (oI S b 1).toInt ∧ e1 = (oI S b 1).toInt) ∨ (¬ ((oI S b 2).toInt ≤ k ∧ (oI S b 1).toInt ≤ d ∧ e < (oI S b 1).toInt) ∧ e1 = e)) : lfI S fa d k e1 T r := by
  obtain ⟨l, h1, h2⟩ := h
  obtain ⟨i, l, rfl, ⟨g1, g2, g3⟩, h3⟩ := chn_s h1
  rw [hr] at h3
  refine ⟨l, h3, ?_⟩
  unfold lfM at h2
  rw [g1, g2] at hc
  rcases hc with ⟨c1, c2, c3, c4⟩ | ⟨c1, c2⟩
  · rw [if_pos ⟨c1, c2, c3⟩] at h2
    rw [c4]
    exact h2
  · rw [if_neg c1] at h2
    rw [c2]
    exact h2
def dsI (S : oS) (fa : Nat → Nat → Int32) (d k : Int) (Q : Prop) (r : Option Nat) : Prop := ∃ l, chn S fa l r ∧ (Q ↔ ∃ i, i ∈ l ∧ (fa 10 i).toInt = 4 ∧ (fa 13 i).toInt ≤ k ∧ (fa 12 i).toInt ≤ d)
theorem ds_n {d : Int} {Q : Prop} (h : dsI S fa d k Q none) : ¬ Q := by
  obtain ⟨l, h1, h2⟩ := h
  rw [chn_n h1] at h2
  exact fun q => by
    obtain ⟨i, hi, -⟩ := h2.mp q
    cases hi
theorem ds_t {d : Int} {Q : Prop} (h : dsI S fa d k Q (some b)) (hc : (oI S b 0).toInt = 2 ∧ (oI S b 2).toInt ≤ k ∧ (oI S b 1).toInt ≤ d) : Q := by
  obtain ⟨l, h1, h2⟩ := h
  obtain ⟨i, l, rfl, ⟨g1, g2, g3⟩, h3⟩ := chn_s h1
  exact h2.mpr ⟨i, List.mem_cons_self, by omega, by omega, by omega⟩
theorem ds_s {d : Int} {Q : Prop} (h : dsI S fa d k Q (some b)) (hr : oP S b 5 = r) (hc : ¬ ((oI S b 0).toInt = 2 ∧ (oI S b 2).toInt ≤ k ∧ (oI S b 1).toInt ≤ d)) : dsI S fa d k Q r := by
  obtain ⟨l, h1, h2⟩ := h
  obtain ⟨i, l, rfl, ⟨g1, g2, g3⟩, h3⟩ := chn_s h1
  rw [hr] at h3
  refine ⟨l, h3, h2.trans ⟨fun ⟨m, m1, m2⟩ => ?_, fun ⟨m, m1, m2⟩ => ⟨m, List.mem_cons_of_mem _ m1, m2⟩⟩⟩
  rcases List.mem_cons.mp m1 with e | m1
  · rw [e] at m2
    exact absurd (by omega) hc
  · exact ⟨m, m1, m2⟩
/-- the office's happening is the chain's -/
def lmR (S : oS) (fa : Nat → Nat → Int32) (r s : Option Nat) : Prop := (r = none ∧ s = none) ∨ ∃ p i, r = some p ∧ s = some i ∧ rHp S fa p i ∧ (fa 10 i).toInt ≠ 4
def lmI (S : oS) (fa : Nat → Nat → Int32) (d k : Int) (T : Option Nat) (q r : Option Nat) : Prop := ∃ l s, chn S fa l r ∧ lmR S fa q s ∧ lwM fa d k s l = T
theorem lm_n {d : Int} {T q : Option Nat} (h : lmI S fa d k T q none) : lmR S fa q T := by
  obtain ⟨l, s, h1, h2, h3⟩ := h
  rw [chn_n h1] at h3
  rw [← h3]
  exact h2
theorem lm_t {d : Int} {T q : Option Nat} (h : lmI S fa d k T q (some b)) (hr : oP S b 5 = r) (hc : (oI S b 0).toInt ≠ 2 ∧ (oI S b 2).toInt ≤ k ∧ (oI S b 1).toInt ≤ d) (hq : ∀ p, q = some p → (oI S p 1).toInt < (oI S b 1).toInt) : lmI S fa d k T (some b) r := by
  obtain ⟨l, s, h1, h2, h3⟩ := h
  obtain ⟨i, l, rfl, ⟨g1, g2, g3⟩, h4⟩ := chn_s h1
  rw [hr] at h4
  refine ⟨l, some i, h4, Or.inr ⟨b, i, rfl, rfl, ⟨g1, g2, g3⟩, by omega⟩, ?_⟩
  unfold lwM at h3
  rw [if_pos] at h3
  · exact h3
  · refine ⟨by omega, by omega, by omega, fun j hj => ?_⟩
    rcases h2 with ⟨-, e⟩ | ⟨p, i', e1, e2, e3, -⟩
    · rw [e] at hj; cases hj
    · have := hq p e1
      rw [e2] at hj
      cases hj
      have := e3.1
      omega
theorem lm_f {d : Int} {T q : Option Nat} (h : lmI S fa d k T q (some b)) (hr : oP S b 5 = r) (hc : ¬ ((oI S b 0).toInt ≠ 2 ∧ (oI S b 2).toInt ≤ k ∧ (oI S b 1).toInt ≤ d) ∨ ∃ p, q = some p ∧ (oI S b 1).toInt ≤ (oI S p 1).toInt) : lmI S fa d k T q r := by
  obtain ⟨l, s, h1, h2, h3⟩ := h
  obtain ⟨i, l, rfl, ⟨g1, g2, g3⟩, h4⟩ := chn_s h1
  rw [hr] at h4
  refine ⟨l, s, h4, h2, ?_⟩
  unfold lwM at h3
  rw [if_neg] at h3
  · exact h3
  · rintro ⟨c1, c2, c3, c4⟩
    rcases hc with hc | ⟨p, hp, hc⟩
    · exact hc ⟨by omega, by omega, by omega⟩
    · rcases h2 with ⟨e, -⟩ | ⟨p', i', e1, e2, e3, -⟩
      · rw [e] at hp; cases hp
      · rw [e1] at hp
        cases hp
        have := c4 i' e2
        have := e3.1
        omega
theorem lf_b {d : Int} (hA : mA fa) (h : lfI S fa d k e T (some b)) : (0 ≤ (oI S b 1).toInt ∧ (oI S b 1).toInt ≤ 3000)  := by
  obtain ⟨l, h1, h2⟩ := h
  obtain ⟨i, l, rfl, ⟨g1, g2, g3⟩, h3⟩ := chn_s h1
  have q : 0 ≤ (fa 12 i).toInt ∧ (fa 12 i).toInt ≤ 3000 := hA 12 i
  exact ⟨by omega, by omega⟩
theorem lhO_b {d : Int} (hA : mA fa) : lhO v fa e d k = -1 ∨ (0 ≤ lhO v fa e d k ∧ lhO v fa e d k ≤ d ∧ lhO v fa e d k ≤ 3000) := by
  obtain ⟨h1, h2, h3⟩ := lhB_spec (fa := fa) (x := e) (d := d) (k := k) (fun j => (hA 12 j).1) (n := (v 41).toNatClampNeg)
  rcases h3 with h3 | ⟨j, j1, j2, j3⟩
  · exact Or.inl h3
  · have q : 0 ≤ (fa 12 j).toInt ∧ (fa 12 j).toInt ≤ 3000 := hA 12 j
    have q2 := j2.2.2.2
    unfold lhO
    exact Or.inr ⟨by omega, by omega, by omega⟩
/-- what the chains are -/
theorem lh_init {a0 d : Int} {fa' : Unit} (hA : mA fa) (h : rV S b x v fa) (hk : k ≤ 3000) (ha : ((oI S b 6).toInt ≤ k ∧ (oI S b 5).toInt ≤ d ∧ a0 = (oI S b 5).toInt) ∨ (¬ ((oI S b 6).toInt ≤ k ∧ (oI S b 5).toInt ≤ d) ∧ a0 = -1)) (hr : oP S b 9 = r) : lfI S fa d k a0 (lhO v fa x d k) r := by
  obtain ⟨-, -, -, -, -, h5, -, h7⟩ := h
  rw [hr] at h7
  refine ⟨_, h7, lfM_lh (fun j => (hA 12 j).1) ?_⟩
  rcases h5 with ⟨h, h1, h2⟩ | ⟨h, i, i1, i2, i3, i4, i5, i6, i7, i8, i9, i10⟩
  · exact Or.inl ⟨by omega, fun j hj q1 q2 => (b01_0 h ⟨j, hj, q1, q2⟩).elim⟩
  · rcases ha with ⟨c1, c2, c3⟩ | ⟨c1, c2⟩
    · exact Or.inr ⟨i, i1, ⟨Or.inr i2, i3, by omega, by omega⟩, by omega, i4⟩
    · refine Or.inl ⟨c2, fun j hj q1 q2 q3 => ?_⟩
      rw [i4 j hj q1 q2] at q3
      omega
theorem ds_init {d : Int} (h : chn S fa (hls (tdS fa a) (v 41).toNatClampNeg) (oP S b 8)) (hr : oP S b 8 = r) : dsI S fa d k (∃ j, j < (v 41).toNatClampNeg ∧ dyP fa a d k j) r := by
  rw [hr] at h
  refine ⟨_, h, ⟨fun ⟨j, h1, h2, h3⟩ => ⟨j, hls_mem.mpr ⟨h1, ?_⟩, h2.1, h3⟩, fun ⟨j, h1, h2, h3⟩ => ?_⟩⟩
  · unfold tdS
    exact decide_eq_true ⟨by omega, h2.2⟩
  · have m := hls_mem.mp h1
    have m2 := of_decide_eq_true m.2
    exact ⟨j, m.1, ⟨h2, m2.2⟩, h3⟩
theorem lm_init {d : Int} (h : chn S fa (hls (tdS fa a) (v 41).toNatClampNeg) (oP S b 8)) (hr : oP S b 8 = r) : lmI S fa d k (if whO v fa a d k < 0 then none else some (whO v fa a d k).toNat) none r := by
  rw [hr] at h
  exact ⟨_, none, h, Or.inl ⟨rfl, rfl⟩, lwM_wh⟩
end
