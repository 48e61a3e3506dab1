


theorem ty_ne {S : oS} {a b k t : Nat} (ha : oty S a k) (hb : oty S b t) (h : k ≠ t) : a ≠ b := fun e => h (by rw [← ha.2, e]; exact hb.2)
theorem o_free {A0 : Nat → Prop} {ws : va_W} {H0 H : Heap} {locs : List Loc} (hD : va_D A0 ws) (hS : va_S A0 H0 H locs) (hA : ∀ q, H0.size ≤ q → A0 q) : ∀ q, va_A ws H.size q → A0 q := fun q h => by
  rcases h with ⟨k, e, hk⟩ | h
  · exact hD.2 k _ hk
  · exact hA q (Nat.le_trans hS.1 h)
theorem rks_le {g : Nat → Nat} : ∀ {l : List Nat} {a : Nat}, a ∈ l → g a ≤ rks l g := by
  intro l
  induction l with
  | nil => intro a h; cases h
  | cons b l ih =>
    intro a h
    show g a ≤ g b + rks l g
    rcases List.mem_cons.mp h with e | h
    · subst e; omega
    · have := ih h
      omega
/-- a new thing joins the pool -/
theorem onew {cq : Nat → ClassId} {S : oS} {A : Nat → Prop} {q k : Nat} {e : va_E} (hD : va_D A (oW cq S ++ [(q, e)])) (he : oE cq (addO S q k) q = e) : oW cq S ++ [(q, e)] = oW cq (addO S q k) := by
  have hq : q ∉ oL S := va_pl_fresh2 (X := []) hD
  show va_pl (oL S) (oE cq S) ++ [(q, e)] = va_pl (oL S ++ [q]) (oE cq (addO S q k))
  rw [va_pl_push hq]
  refine va_pl_congr (fun b => ?_)
  by_cases h : b = q
  · subst h
    rw [va_up_self]
    exact he.symm
  · refine (if_neg h).trans ?_
    have e1 : oK (addO S q k) b = oK S b := if_neg h
    have e2 : oI (addO S q k) b = oI S b := if_neg h
    have e3 : oJ (addO S q k) b = oJ S b := if_neg h
    have e4 : oP (addO S q k) b = oP S b := if_neg h
    unfold oE
    rw [e1, e2, e3, e4]
theorem add_q {cq : Nat → ClassId} {S : oS} {A : Nat → Prop} {q : Nat} {e : va_E} (hD : va_D A (oW cq S ++ [(q, e)])) : q ∉ oL S := va_pl_fresh2 (X := []) hD
theorem add_K {S : oS} {q k : Nat} : oK (addO S q k) q = k := va_up_self ..
theorem add_I {S : oS} {q k : Nat} : oI (addO S q k) q = fun _ => 0 := va_up_self ..
theorem add_J {S : oS} {q k : Nat} : oJ (addO S q k) q = fun _ => 0 := va_up_self ..
theorem add_P {S : oS} {q k : Nat} : oP (addO S q k) q = fun _ => none := va_up_self ..
theorem add_ty {S : oS} {q k : Nat} : oty (addO S q k) q k := ⟨List.mem_append_right _ (List.mem_singleton.mpr rfl), add_K⟩
theorem add_G {S : oS} {q k b : Nat} (hq : q ∉ oL S) (hb : b ∈ oL S) : oG (addO S q k) b < oG (addO S q k) q := by
  have e1 : oG (addO S q k) b = oG S b := if_neg (fun e => hq (by rw [← e]; exact hb))
  have e2 : oG (addO S q k) q = 1 + rks (oL S) (oG S) := va_up_self ..
  have := rks_le (g := oG S) hb
  omega
theorem oX.add {W : List Nat} {S : oS} {q k : Nat} (hq : q ∉ oL S) : oX W S (addO S q k) := fun b hb => by
  have h : b ≠ q := fun e => hq (by rw [← e]; exact hb)
  exact ⟨List.mem_append_left _ hb, if_neg h, fun i _ => ⟨congrFun (if_neg h : oI (addO S q k) b = oI S b) i, congrFun (if_neg h : oP (addO S q k) b = oP S b) i, congrFun (if_neg h : oJ (addO S q k) b = oJ S b) i⟩⟩
theorem nn_hi {k i : Nat} (h : 11 ≤ k) : nnP k i = false := by
  unfold nnP
  split <;> first | rfl | omega
theorem ct_hi {k i : Nat} (h : 11 ≤ k) : ctI k i = none := by
  unfold ctI
  split <;> first | rfl | omega
theorem iv_0 (k i : Nat) : iLo k i ≤ 0 ∧ 0 ≤ iHi k i := by
  refine ⟨?_, ?_⟩
  · unfold iLo iL0
    split <;> decide
  · unfold iHi iH0
    split <;> decide
theorem oInv.add {S : oS} {q k : Nat} (h : oInv S) (hq : q ∉ oL S) (hk : 11 ≤ k) : oInv (addO S q k) := by
  obtain ⟨h1, h2, h4, h5, h6, h7, h8⟩ := h
  have eK : ∀ b, b ≠ q → oK (addO S q k) b = oK S b := fun b n => if_neg n
  have eI : ∀ b, b ≠ q → oI (addO S q k) b = oI S b := fun b n => if_neg n
  have eP : ∀ b, b ≠ q → oP (addO S q k) b = oP S b := fun b n => if_neg n
  have eG : ∀ b, b ≠ q → oG (addO S q k) b = oG S b := fun b n => if_neg n
  have inL : ∀ b, b ∈ oL (addO S q k) → b ≠ q → b ∈ oL S := fun b hb n => by
    rcases List.mem_append.mp hb with g | g
    · exact g
    · exact absurd (List.mem_singleton.mp g) n
  have noq : ∀ a i, oP S a i ≠ some q := fun a i e => hq (h1 a i q e).1
  refine ⟨?_, ?_, ?_, ?_, ?_, ?_, ?_⟩
  · intro a i b hb
    by_cases n : a = q
    · subst n; rw [add_P] at hb; cases hb
    · rw [eP a n] at hb
      have g := h1 a i b hb
      have nb : b ≠ q := fun e => noq a i (by rw [← e]; exact hb)
      rw [eK a n, eK b nb]
      exact ⟨List.mem_append_left _ g.1, g.2⟩
  · intro a ha i hi
    by_cases n : a = q
    · subst n; rw [add_K, nn_hi hk] at hi; cases hi
    · rw [eK a n] at hi
      rw [eP a n]
      exact h2 a (inL a ha n) i hi
  · intro a ha i p hp r hr j hj
    by_cases n : a = q
    · subst n; rw [add_K, ct_hi hk] at hp; cases hp
    · rw [eK a n] at hp
      rw [eP a n] at hr
      rw [eI a n] at hj
      have nr : r ≠ q := fun e => noq a p (by rw [← e]; exact hr)
      rw [eP r nr]
      exact h4 a (inL a ha n) i p hp r hr j hj
  · intro a ha h5' r hr j hj
    by_cases n : a = q
    · subst n; rw [add_K] at h5'; omega
    · rw [eK a n] at h5'
      rw [eP a n] at hr
      have nr : r ≠ q := fun e => noq a 1 (by rw [← e]; exact hr)
      rw [eP r nr]
      exact h5 a (inL a ha n) h5' r hr j hj
  · intro a i
    by_cases n : a = q
    · subst n
      rw [add_I]
      exact iv_0 _ i
    · rw [eK a n, eI a n]
      exact h6 a i
  · intro a b ha hb
    by_cases n : a = q
    · subst n; rw [add_K] at ha; omega
    · rw [eK a n] at ha
      rw [eP a n] at hb
      have nb : b ≠ q := fun e => noq a 5 (by rw [← e]; exact hb)
      rw [eG a n, eG b nb]
      exact h7 a b ha hb
  · intro a ha
    by_cases n : a = q
    · subst n; rw [add_K] at ha; omega
    · rw [eK a n] at ha
      rw [eI a n]
      exact h8 a ha
/-- a thing is made: it gets its own kind -/
theorem ret_W {cq : Nat → ClassId} {S : oS} {a c : Nat} (h : oK S a = 30 + c) (hc : c ≤ 10) : oW cq S = oW cq (setK S a c) := by
  show va_pl (oL S) (oE cq S) = va_pl (oL S) (oE cq (setK S a c))
  refine va_pl_congr (fun b => ?_)
  by_cases n : b = a
  · subst n
    have e1 : oK (setK S b c) b = c := va_up_self ..
    have hc' : c = 0 ∨ c = 1 ∨ c = 2 ∨ c = 3 ∨ c = 4 ∨ c = 5 ∨ c = 6 ∨ c = 7 ∨ c = 8 ∨ c = 9 ∨ c = 10 := by omega
    rcases hc' with rfl | rfl | rfl | rfl | rfl | rfl | rfl | rfl | rfl | rfl | rfl
    · exact (oE_30 h).trans (oE_0 (S := setK S b 0) e1).symm
    · exact (oE_31 h).trans (oE_1 (S := setK S b 1) e1).symm
    · exact (oE_32 h).trans (oE_2 (S := setK S b 2) e1).symm
    · exact (oE_33 h).trans (oE_3 (S := setK S b 3) e1).symm
    · exact (oE_34 h).trans (oE_4 (S := setK S b 4) e1).symm
    · exact (oE_35 h).trans (oE_5 (S := setK S b 5) e1).symm
    · exact (oE_36 h).trans (oE_6 (S := setK S b 6) e1).symm
    · exact (oE_37 h).trans (oE_7 (S := setK S b 7) e1).symm
    · exact (oE_38 h).trans (oE_8 (S := setK S b 8) e1).symm
    · exact (oE_39 h).trans (oE_9 (S := setK S b 9) e1).symm
    · exact (oE_40 h).trans (oE_10 (S := setK S b 10) e1).symm
  · have e1 : oK (setK S a c) b = oK S b := if_neg n
    unfold oE
    rw [e1]
    rfl
theorem rL_bs {c i : Nat} (hc : c ≤ 10) : rL (30 + c) i = rL c i ∧ rH (30 + c) i = rH c i ∧ iLo (30 + c) i = iLo c i ∧ iHi (30 + c) i = iHi c i := by
  have hc' : c = 0 ∨ c = 1 ∨ c = 2 ∨ c = 3 ∨ c = 4 ∨ c = 5 ∨ c = 6 ∨ c = 7 ∨ c = 8 ∨ c = 9 ∨ c = 10 := by omega
  rcases hc' with rfl | rfl | rfl | rfl | rfl | rfl | rfl | rfl | rfl | rfl | rfl <;> exact ⟨rfl, rfl, rfl, rfl⟩
theorem rH_raw {k i t : Nat} (h1 : rL k i ≤ t) (h2 : t ≤ rH k i) (ht : 30 ≤ t ∧ t ≤ 40) : False := by
  have key : ∀ k i : Nat, rL0 k i ≤ t → t ≤ rH0 k i → False := by
    intro k i g1 g2
    unfold rL0 at g1
    unfold rH0 at g2
    split at g1 <;> simp at g2 <;> omega
  unfold rL at h1
  unfold rH at h2
  split at h1 <;> first | (simp at h2; omega) | (simp at h2; exact key _ _ h1 h2) | exact key _ _ h1 h2
theorem oInv.ret {S : oS} {a c : Nat} (h : oInv S) (ha : oty S a (30 + c)) (hc : c ≤ 10) (hn : ∀ i, nnP c i = true → ∃ b, oP S a i = some b) (hct : ∀ i p, ctI c i = some p → (oI S a i).toInt ≤ 0) (h5c : c = 5 → ∀ r, oP S a 1 = some r → ∀ k, k < 5 → ∃ b, oP S r k = some b) (hg : c = 3 → ∀ b, oP S a 5 = some b → oG S b < oG S a) (hw : c = 3 → ((oI S a 3).toInt = -9 ∨ (0 ≤ (oI S a 4).toInt ∧ (oI S a 4).toInt ≤ 9))) : oInv (setK S a c) := by
  obtain ⟨h1, h2, h4, h5, h6, h7, h8⟩ := h
  have eK : ∀ b, b ≠ a → oK (setK S a c) b = oK S b := fun b n => if_neg n
  have eA : oK (setK S a c) a = c := va_up_self ..
  have noa : ∀ b i, oP S b i ≠ some a := fun b i e => by
    have g := h1 b i a e
    rw [ha.2] at g
    exact rH_raw g.2.1 g.2.2 (by omega)
  refine ⟨?_, ?_, ?_, ?_, ?_, ?_, ?_⟩
  · intro b i d hd
    have hd' : oP S b i = some d := hd
    have nd : d ≠ a := fun e => noa b i (by rw [← e]; exact hd')
    have g := h1 b i d hd'
    refine ⟨g.1, ?_⟩
    rw [eK d nd]
    by_cases n : b = a
    · subst n
      rw [eA]
      rw [ha.2, (rL_bs hc).1, (rL_bs hc).2.1] at g
      exact g.2
    · rw [eK b n]
      exact g.2
  · intro b hb i hi
    by_cases n : b = a
    · subst n
      rw [eA] at hi
      exact hn i hi
    · rw [eK b n] at hi
      exact h2 b hb i hi
  · intro b hb i p hp r hr k hk
    by_cases n : b = a
    · subst n
      rw [eA] at hp
      have g := hct i p hp
      have g2 : k < (oI S b i).toInt.toNat := hk
      omega
    · rw [eK b n] at hp
      exact h4 b hb i p hp r hr k hk
  · intro b hb hb5 r hr k hk
    by_cases n : b = a
    · subst n
      rw [eA] at hb5
      exact h5c hb5 r hr k hk
    · rw [eK b n] at hb5
      exact h5 b hb hb5 r hr k hk
  · intro b i
    by_cases n : b = a
    · subst n
      rw [eA]
      have g := h6 b i
      rw [ha.2, (rL_bs hc).2.2.1, (rL_bs hc).2.2.2] at g
      exact g
    · rw [eK b n]
      exact h6 b i
  · intro b d hb hd
    by_cases n : b = a
    · subst n
      rw [eA] at hb
      exact hg hb d hd
    · rw [eK b n] at hb
      exact h7 b d hb hd
  · intro b hb
    by_cases n : b = a
    · subst n
      rw [eA] at hb
      exact hw hb
    · rw [eK b n] at hb
      exact h8 b hb
/-- behind a constructor: all but the thing that was made is of its kind; only what W names has changed, and that thing -/
def oXc (W : List Nat) (o : Nat) (S S1 : oS) : Prop := ∀ a, a ∈ oL S → a ∈ oL S1 ∧ (a ≠ o → oK S1 a = oK S a ∧ ∀ i, wk (oK S a) i ∉ W → oI S1 a i = oI S a i ∧ oP S1 a i = oP S a i ∧ oJ S1 a i = oJ S a i)
theorem oXc.ty {W : List Nat} {o a k : Nat} {S S1 : oS} (h : oXc W o S S1) (n : a ≠ o) (t : oty S a k) : oty S1 a k := ⟨(h a t.1).1, ((h a t.1).2 n).1.trans t.2⟩
theorem oXc.i {W : List Nat} {o a k i : Nat} {S S1 : oS} (h : oXc W o S S1) (n : a ≠ o) (t : oty S a k) (hw : wk k i ∉ W) : oI S1 a i = oI S a i := (((h a t.1).2 n).2 i (by rw [t.2]; exact hw)).1
theorem oXc.p {W : List Nat} {o a k i : Nat} {S S1 : oS} (h : oXc W o S S1) (n : a ≠ o) (t : oty S a k) (hw : wk k i ∉ W) : oP S1 a i = oP S a i := (((h a t.1).2 n).2 i (by rw [t.2]; exact hw)).2.1
theorem oXc.rf {W : List Nat} {o : Nat} {S : oS} : oXc W o S S := fun _ h => ⟨h, fun _ => ⟨rfl, fun _ _ => ⟨rfl, rfl, rfl⟩⟩⟩
theorem oXc.st {W W1 : List Nat} {o : Nat} {Z S S1 : oS} (h : oXc W o Z S) (g : oX W1 S S1) (hs : ∀ x ∈ W1, x ∈ W) : oXc W o Z S1 := fun a ha => by
  obtain ⟨h1, h2⟩ := h a ha
  obtain ⟨g1, g2, g3⟩ := g a h1
  refine ⟨g1, fun n => ⟨g2.trans (h2 n).1, fun i m => ?_⟩⟩
  obtain ⟨a1, a2, a3⟩ := (h2 n).2 i m
  obtain ⟨b1, b2, b3⟩ := g3 i (by rw [(h2 n).1]; exact fun q => m (hs _ q))
  exact ⟨b1.trans a1, b2.trans a2, b3.trans a3⟩
theorem oXc.I {W : List Nat} {o i : Nat} {x : Int32} {Z S : oS} (h : oXc W o Z S) : oXc W o Z (setI S o i x) := fun a ha => ⟨(h a ha).1, fun n => ⟨((h a ha).2 n).1, fun j m => ⟨(congrFun (setI_oth n) j).trans (((h a ha).2 n).2 j m).1, (((h a ha).2 n).2 j m).2.1, (((h a ha).2 n).2 j m).2.2⟩⟩⟩
theorem oXc.P {W : List Nat} {o i : Nat} {x : Option Nat} {Z S : oS} (h : oXc W o Z S) : oXc W o Z (setP S o i x) := fun a ha => ⟨(h a ha).1, fun n => ⟨((h a ha).2 n).1, fun j m => ⟨(((h a ha).2 n).2 j m).1, (congrFun (setP_oth n) j).trans (((h a ha).2 n).2 j m).2.1, (((h a ha).2 n).2 j m).2.2⟩⟩⟩
theorem oXc.K {W : List Nat} {o c : Nat} {Z S : oS} (h : oXc W o Z S) : oXc W o Z (setK S o c) := fun a ha => ⟨(h a ha).1, fun n => ⟨(if_neg n).trans ((h a ha).2 n).1, ((h a ha).2 n).2⟩⟩
/-- a write to a thing that was not there at the start -/
theorem oXc.In {W : List Nat} {o q i : Nat} {x : Int32} {Z S : oS} (h : oXc W o Z S) (hq : q ∉ oL Z) : oXc W o Z (setI S q i x) := fun a ha => by
  have nq : a ≠ q := fun e => hq (by rw [← e]; exact ha)
  exact ⟨(h a ha).1, fun n => ⟨((h a ha).2 n).1, fun j m => ⟨(congrFun (setI_oth nq) j).trans (((h a ha).2 n).2 j m).1, (((h a ha).2 n).2 j m).2.1, (((h a ha).2 n).2 j m).2.2⟩⟩⟩
theorem oXc.Pn {W : List Nat} {o q i : Nat} {x : Option Nat} {Z S : oS} (h : oXc W o Z S) (hq : q ∉ oL Z) : oXc W o Z (setP S q i x) := fun a ha => by
  have nq : a ≠ q := fun e => hq (by rw [← e]; exact ha)
  exact ⟨(h a ha).1, fun n => ⟨((h a ha).2 n).1, fun j m => ⟨(((h a ha).2 n).2 j m).1, (congrFun (setP_oth nq) j).trans (((h a ha).2 n).2 j m).2.1, (((h a ha).2 n).2 j m).2.2⟩⟩⟩
theorem oX.In {W : List Nat} {q i : Nat} {x : Int32} {Z S : oS} (h : oX W Z S) (hq : q ∉ oL Z) : oX W Z (setI S q i x) := fun a ha => by
  have nq : a ≠ q := fun e => hq (by rw [← e]; exact ha)
  exact ⟨(h a ha).1, (h a ha).2.1, fun j m => ⟨(congrFun (setI_oth nq) j).trans ((h a ha).2.2 j m).1, ((h a ha).2.2 j m).2.1, ((h a ha).2.2 j m).2.2⟩⟩
theorem oX.Pn {W : List Nat} {q i : Nat} {x : Option Nat} {Z S : oS} (h : oX W Z S) (hq : q ∉ oL Z) : oX W Z (setP S q i x) := fun a ha => by
  have nq : a ≠ q := fun e => hq (by rw [← e]; exact ha)
  exact ⟨(h a ha).1, (h a ha).2.1, fun j m => ⟨((h a ha).2.2 j m).1, (congrFun (setP_oth nq) j).trans ((h a ha).2.2 j m).2.1, ((h a ha).2.2 j m).2.2⟩⟩
/-- a constructor of a thing that was not there at the start -/
theorem oX.c {W W1 : List Nat} {q : Nat} {Z S S1 : oS} (h : oX W Z S) (g : oXc W1 q S S1) (hq : q ∉ oL Z) (hs : ∀ x ∈ W1, x ∈ W) : oX W Z S1 := fun a ha => by
  have n : a ≠ q := fun e => hq (by rw [← e]; exact ha)
  obtain ⟨h1, h2, h3⟩ := h a ha
  obtain ⟨g1, g2⟩ := g a h1
  refine ⟨g1, (g2 n).1.trans h2, fun i m => ?_⟩
  obtain ⟨a1, a2, a3⟩ := h3 i m
  obtain ⟨b1, b2, b3⟩ := (g2 n).2 i (by rw [h2]; exact fun y => m (hs _ y))
  exact ⟨b1.trans a1, b2.trans a2, b3.trans a3⟩
theorem oXc.c {W W1 : List Nat} {o q : Nat} {Z S S1 : oS} (h : oXc W o Z S) (g : oXc W1 q S S1) (hq : q ∉ oL Z) (hs : ∀ x ∈ W1, x ∈ W) : oXc W o Z S1 := fun a ha => by
  have n : a ≠ q := fun e => hq (by rw [← e]; exact ha)
  obtain ⟨h1, h2⟩ := h a ha
  obtain ⟨g1, g2⟩ := g a h1
  refine ⟨g1, fun no => ⟨(g2 n).1.trans (h2 no).1, fun i m => ?_⟩⟩
  obtain ⟨a1, a2, a3⟩ := (h2 no).2 i m
  obtain ⟨b1, b2, b3⟩ := (g2 n).2 i (by rw [(h2 no).1]; exact fun y => m (hs _ y))
  exact ⟨b1.trans a1, b2.trans a2, b3.trans a3⟩
theorem oX.nin {W : List Nat} {q : Nat} {Z S : oS} (h : oX W Z S) (hq : q ∉ oL S) : q ∉ oL Z := fun e => hq (h q e).1
theorem oXc.nin {W : List Nat} {o q : Nat} {Z S : oS} (h : oXc W o Z S) (hq : q ∉ oL S) : q ∉ oL Z := fun e => hq (h q e).1
theorem add_Pn {S : oS} {q k b i : Nat} (hq : q ∉ oL S) (hb : b ∈ oL S) : oP (addO S q k) b i = oP S b i := congrFun (if_neg (fun e => hq (by rw [← e]; exact hb)) : oP (addO S q k) b = oP S b) i
theorem add_In {S : oS} {q k b i : Nat} (hq : q ∉ oL S) (hb : b ∈ oL S) : oI (addO S q k) b i = oI S b i := congrFun (if_neg (fun e => hq (by rw [← e]; exact hb)) : oI (addO S q k) b = oI S b) i
theorem add_If {S : oS} {q k b : Nat} (hq : q ∉ oL S) (hb : b ∈ oL S) : oI (addO S q k) b = oI S b := if_neg (fun e => hq (by rw [← e]; exact hb))
theorem oX.f {W : List Nat} {S S1 : oS} {a k : Nat} (h : oX W S S1) (t : oty S a k) (hw : ∀ i, wk k i ∉ W) : oI S1 a = oI S a := funext fun i => h.i t (hw i)
theorem oX.fp {W : List Nat} {S S1 : oS} {a k : Nat} (h : oX W S S1) (t : oty S a k) (hw : ∀ i, wk k i ∉ W) : oP S1 a = oP S a := funext fun i => h.p t (hw i)
theorem add_Pf {S : oS} {q k b : Nat} (hq : q ∉ oL S) (hb : b ∈ oL S) : oP (addO S q k) b = oP S b := if_neg (fun e => hq (by rw [← e]; exact hb))
theorem oXc.fp {W : List Nat} {o a k : Nat} {S S1 : oS} (h : oXc W o S S1) (n : a ≠ o) (t : oty S a k) (hw : ∀ i, wk k i ∉ W) : oP S1 a = oP S a := funext fun i => h.p n t (hw i)
theorem oXc.f {W : List Nat} {o a k : Nat} {S S1 : oS} (h : oXc W o S S1) (n : a ≠ o) (t : oty S a k) (hw : ∀ i, wk k i ∉ W) : oI S1 a = oI S a := funext fun i => h.i n t (hw i)
def setF (S : oS) (q : Nat) (f : Nat → Int32) : oS := (S.1, S.2.1, va_up S.2.2.1 q f, S.2.2.2.1, S.2.2.2.2.1, S.2.2.2.2.2)
theorem neF {cq : Nat → ClassId} {S : oS} {a : Nat} {f : Nat → Int32} : ∀ b, b ≠ a → oE cq (setF S a f) b = oE cq S b := fun b h => by
  have e : oI (setF S a f) b = oI S b := if_neg h
  unfold oE
  rw [e]
  rfl
theorem he_F {cq : Nat → ClassId} {S : oS} {a n : Nat} {f : Nat → Int32} (h : oK S a = 300 + n) (hn : n < 700) : oE cq (setF S a f) a = .inl (cq 0, n, .inl f) := by
  rw [oE_ar (S := setF S a f) h hn, show oI (setF S a f) a = f from va_up_self ..]
theorem oX.F {W : List Nat} {S : oS} {a n : Nat} {f : Nat → Int32} (hk : oK S a = 300 + n) (hw : 5000 ∈ W) (hn : n < 700) : oX W S (setF S a f) := fun b h => ⟨h, rfl, fun i m => ⟨congrFun (if_neg (fun q => m (by rw [q, hk, wk_ar hn]; exact hw)) : oI (setF S a f) b = oI S b) i, rfl, rfl⟩⟩
theorem oX.Fn {W : List Nat} {q : Nat} {f : Nat → Int32} {Z S : oS} (h : oX W Z S) (hq : q ∉ oL Z) : oX W Z (setF S q f) := fun a ha => by
  have nq : a ≠ q := fun e => hq (by rw [← e]; exact ha)
  exact ⟨(h a ha).1, (h a ha).2.1, fun j m => ⟨(congrFun (if_neg nq : oI (setF S q f) a = oI S a) j).trans ((h a ha).2.2 j m).1, ((h a ha).2.2 j m).2.1, ((h a ha).2.2 j m).2.2⟩⟩
theorem oInv.F {S : oS} {a n : Nat} {f : Nat → Int32} (h : oInv S) (hk : oK S a = 300 + n) : oInv (setF S a f) := by
  obtain ⟨h1, h2, h4, h5, h6, h7, h8⟩ := h
  have eI : ∀ b, b ≠ a → oI (setF S a f) b = oI S b := fun b n => if_neg n
  refine ⟨h1, h2, ?_, h5, ?_, h7, ?_⟩
  · intro b hb i p hp r hr j hj
    have q : b ≠ a := fun e => by
      have hp' : ctI (oK S b) i = some p := hp
      rw [e, hk, ctI_ar] at hp'
      cases hp'
    rw [eI b q] at hj
    exact h4 b hb i p hp r hr j hj
  · intro b i
    by_cases q : b = a
    · subst q
      show iLo (oK S b) i ≤ _ ∧ _ ≤ iHi (oK S b) i
      rw [hk, iLo_ar, iHi_ar]
      exact iv_all _
    · rw [eI b q]
      exact h6 b i
  · intro b hb
    have q : b ≠ a := fun e => by
      have hb' : oK S b = 3 := hb
      rw [e, hk] at hb'
      omega
    rw [eI b q]
    exact h8 b hb
theorem onewF {cq : Nat → ClassId} {S : oS} {A : Nat → Prop} {q n : Nat} {f : Nat → Int32} (hD : va_D A (oW cq S ++ [(q, .inl (cq 0, n, .inl f))])) (hn : n < 700) : oW cq S ++ [(q, .inl (cq 0, n, .inl f))] = oW cq (setF (addO S q (300 + n)) q f) := by
  have hq : q ∉ oL S := va_pl_fresh2 (X := []) hD
  show va_pl (oL S) (oE cq S) ++ [(q, .inl (cq 0, n, .inl f))] = va_pl (oL S ++ [q]) (oE cq (setF (addO S q (300 + n)) q f))
  rw [va_pl_push hq]
  refine va_pl_congr (fun b => ?_)
  by_cases h : b = q
  · subst h
    rw [va_up_self]
    exact (he_F add_K hn).symm
  · refine (if_neg h).trans ?_
    rw [neF b h]
    have e1 : oK (addO S q (300 + n)) b = oK S b := if_neg h
    have e2 : oI (addO S q (300 + n)) b = oI S b := if_neg h
    have e3 : oJ (addO S q (300 + n)) b = oJ S b := if_neg h
    have e4 : oP (addO S q (300 + n)) b = oP S b := if_neg h
    unfold oE
    rw [e1, e2, e3, e4]
theorem K_ty {S : oS} {o c : Nat} (h : o ∈ oL S) : oty (setK S o c) o c := ⟨h, va_up_self ..⟩
theorem nn_0 {i : Nat} (h : nnP 0 i = true) : i = 3 ∨ i = 4 := by
  unfold nnP at h
  split at h <;> simp_all
theorem nn_1 {i : Nat} (h : nnP 1 i = true) : i = 0 ∨ i = 1 ∨ i = 12 ∨ i = 14 ∨ i = 15 := by
  unfold nnP at h
  split at h <;> simp_all
theorem nn_4 {i : Nat} (h : nnP 4 i = true) : i = 0 ∨ i = 1 ∨ i = 3 := by
  unfold nnP at h
  split at h <;> simp_all
theorem nn_5 {i : Nat} (h : nnP 5 i = true) : i = 0 ∨ i = 1 := by
  unfold nnP at h
  split at h <;> simp_all
theorem nn_6 {i : Nat} (h : nnP 6 i = true) : i = 4 := by
  unfold nnP at h
  split at h <;> simp_all
theorem nn_7 {i : Nat} (h : nnP 7 i = true) : i = 0 ∨ i = 1 := by
  unfold nnP at h
  split at h <;> simp_all
theorem nn_8 {i : Nat} (h : nnP 8 i = true) : i = 0 ∨ i = 2 := by
  unfold nnP at h
  split at h <;> simp_all
theorem nn_10 {i : Nat} (h : nnP 10 i = true) : i = 1 ∨ i = 3 ∨ i = 5 ∨ i = 8 ∨ i = 9 ∨ i = 10 ∨ i = 11 ∨ i = 12 ∨ i = 13 ∨ i = 15 := by
  unfold nnP at h
  split at h <;> simp_all
theorem nn_2 {i : Nat} (h : nnP 2 i = true) : False := by
  unfold nnP at h
  split at h <;> simp_all
theorem nn_3 {i : Nat} (h : nnP 3 i = true) : False := by
  unfold nnP at h
  split at h <;> simp_all
theorem nn_9 {i : Nat} (h : nnP 9 i = true) : False := by
  unfold nnP at h
  split at h <;> simp_all
theorem ct_no {k i p : Nat} (h : ctI k i = some p) (h1 : k ≠ 10) (h2 : k ≠ 5) (h3 : k ≠ 1) : False := by
  unfold ctI at h
  split at h <;> simp_all
theorem add_G2 {S : oS} {q k b : Nat} (hq : q ∉ oL S) (hb : b ∈ oL (addO S q k)) (n : b ≠ q) : oG (addO S q k) b < oG (addO S q k) q := by
  rcases List.mem_append.mp hb with g | g
  · exact add_G hq g
  · exact absurd (List.mem_singleton.mp g) n
theorem z_nar {x : Int32} (h : 0 ≤ x.toInt ∧ x.toInt ≤ 1) : narrow .boolean (.int x) = .int x := by
  have key : x = 0 ∨ x = 1 := by
    have : x.toInt = 0 ∨ x.toInt = 1 := by omega
    rcases this with g | g
    · exact Or.inl (Int32.toInt_inj.mp (g.trans (by decide +kernel)))
    · exact Or.inr (Int32.toInt_inj.mp (g.trans (by decide +kernel)))
  rcases key with rfl | rfl <;> rfl
theorem ct_1 {i p : Nat} (h : ctI 1 i = some p) : i = 13 := by
  unfold ctI at h
  split at h <;> simp_all
theorem ct_5 {i p : Nat} (h : ctI 5 i = some p) : i = 2 := by
  unfold ctI at h
  split at h <;> simp_all
theorem ct_10 {i p : Nat} (h : ctI 10 i = some p) : i = 2 ∨ i = 4 ∨ i = 6 := by
  unfold ctI at h
  split at h <;> simp_all
theorem oInv.Pn {S : oS} {a i k : Nat} (h : oInv S) (hk : oK S a = k) (h3 : k ≠ 3) (hn : nnP k i = false) (hr : k < 12 ∨ 30 ≤ k ∧ k ≤ 40) (hc5 : ctP k i = false) : oInv (setP S a i none) := by
  obtain ⟨h1, h2, h4, h5, h6, h7, h8⟩ := h
  have key : ∀ c j d, ¬ (c = a ∧ j = i) → oP S c j = some d → oP (setP S a i none) c j = some d := fun c j d q hd => by rw [setP_if q]; exact hd
  have back : ∀ c j d, oP (setP S a i none) c j = some d → oP S c j = some d := fun c j d hd => by
    by_cases q : c = a ∧ j = i
    · obtain ⟨rfl, rfl⟩ := q
      rw [setP_same] at hd
      cases hd
    · rw [setP_if q] at hd
      exact hd
  have arr : ∀ k i t : Nat, ctP k i = true ∨ (k = 5 ∧ i = 1) → rL k i ≤ t → t ≤ rH k i → 12 ≤ t ∧ t ≤ 17 := by
    intro k i t hc g1 g2
    rcases hc with hc | ⟨rfl, rfl⟩
    · unfold ctP at hc
      split at hc
      all_goals first | (simp [rL, rH, rL0, rH0, bsk] at g1 g2; omega) | (cases hc)
    · simp [rL, rH, rL0, rH0, bsk] at g1 g2
      omega
  have na : ∀ c p r, ctP (oK S c) p = true ∨ (oK S c = 5 ∧ p = 1) → oP S c p = some r → r ≠ a := fun c p r hc hr2 e => by
    have g := h1 c p r hr2
    have := arr _ _ _ hc g.2.1 g.2.2
    rw [e, hk] at this
    omega
  refine ⟨fun c j d hd => h1 c j d (back c j d hd), ?_, ?_, ?_, h6, fun c d hc hd => h7 c d hc (back c 5 d hd), h8⟩
  · intro c hcL j hj
    obtain ⟨d, hd⟩ := h2 c hcL j hj
    refine ⟨d, key c j d (fun ⟨e1, e2⟩ => ?_) hd⟩
    subst e1 e2
    have hj' : nnP (oK S c) j = true := hj
    rw [hk, hn] at hj'
    cases hj'
  · intro c hcL j p hp r hr2 n hn2
    have g := back c p r hr2
    have hp' : ctI (oK S c) j = some p := hp
    obtain ⟨d, hd⟩ := h4 c hcL j p hp' r g n hn2
    exact ⟨d, key r n d (fun ⟨e1, _⟩ => na c p r (Or.inl (ct_P _ _ _ hp')) g e1) hd⟩
  · intro c hcL hc2 r hr2 n hn2
    have g := back c 1 r hr2
    obtain ⟨d, hd⟩ := h5 c hcL hc2 r g n hn2
    exact ⟨d, key r n d (fun ⟨e1, _⟩ => na c 1 r (Or.inr ⟨hc2, rfl⟩) g e1) hd⟩
theorem lv_ad {D : va_G} {tys : List (ClassId × FieldType)} {s : State} {cA : ClassId} {k : Nat} {c : ClassId} {ty : FieldType} (hK : va_K D vwCl (tys ++ [(cA, ty)]) s) (h : tys[k]? = some (c, ty)) : cA = c ∧ va_K D vwCl tys s := by
  have hl : k < tys.length := (List.getElem?_eq_some_iff.mp h).1
  have h1 := (hK.2 k (c, ty) (by rw [List.getElem?_append_left hl]; exact h)).2
  have h2 := (hK.2 tys.length (cA, ty) (by rw [List.getElem?_append_right (Nat.le_refl _), Nat.sub_self]; rfl)).2
  refine ⟨?_, hK.1, fun j q hj => hK.2 j q (by rw [List.getElem?_append_left (List.getElem?_eq_some_iff.mp hj).1]; exact hj)⟩
  cases ty with
  | object C =>
    obtain ⟨kA, comp, -, -, -, f1⟩ := h1
    obtain ⟨kB, comp2, -, -, -, f2⟩ := h2
    exact Option.some.inj (f2.symm.trans f1)
  | _ => exact Option.some.inj ((show _ = some cA from h2).symm.trans (show _ = some c from h1))
