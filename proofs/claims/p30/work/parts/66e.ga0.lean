

/-- the fine at f is the reference's j-th -/
def rF (S : oS) (fa : Nat → Nat → Int32) (f j : Nat) : Prop := (oI S f 0).toInt = (fa 33 j).toInt ∧ (oI S f 1).toInt = (fa 34 j).toInt ∧ (oI S f 2).toInt = (fa 37 j).toInt ∧ 0 ≤ (fa 37 j).toInt ∧ (fa 37 j).toInt ≤ 1 ∧ 1 ≤ (fa 34 j).toInt ∧ (fa 34 j).toInt ≤ 9999
def fnA (S : oS) (b i : Nat) : Nat := oQ S (oQ S b 12) i
def rXn (S : oS) (b a : Nat) (fa : Nat → Nat → Int32) : Prop := (oI S b 9).toInt = (fa 27 a).toInt ∧ 0 ≤ (fa 27 a).toInt ∧ (fa 27 a).toInt ≤ 99999
def rXg (S : oS) (b a : Nat) (fa : Nat → Nat → Int32) : Prop := ((oI S b 10).toInt = 0 ∧ (fa 28 a).toInt = -9) ∨ (1 ≤ (oI S b 10).toInt ∧ (oI S b 10).toInt = (fa 28 a).toInt)
def rXl (S : oS) (b a : Nat) (fa : Nat → Nat → Int32) : Prop := (oI S b 11).toInt = (fa 29 a).toInt ∧ 0 ≤ (fa 29 a).toInt ∧ (fa 29 a).toInt ≤ 9999
def rXf (S : oS) (b a : Nat) (fa : Nat → Nat → Int32) : Prop := (oI S b 13).toInt = (fa 30 a).toInt ∧ ∀ i, i < (fa 30 a).toNatClampNeg → rF S fa (fnA S b i) (6 * a + i)
def rXs (S : oS) (b a : Nat) (fa : Nat → Nat → Int32) : Prop := (oI S b 16).toInt = (fa 31 a).toInt ∧ (oI S b 17).toInt = (fa 32 a).toInt ∧ 0 ≤ (fa 32 a).toInt ∧ (fa 32 a).toInt ≤ 999 ∧ ∀ i, i < (fa 31 a).toNatClampNeg → oI S (oQ S b 14) i = fa 35 (20 * a + i) ∧ oI S (oQ S b 15) i = fa 36 (20 * a + i) ∧ 0 ≤ (fa 36 (20 * a + i)).toInt ∧ (fa 36 (20 * a + i)).toInt ≤ 98901
/-- the extras of the agreement at b are the reference's a-th -/
def rX (S : oS) (b a : Nat) (fa : Nat → Nat → Int32) : Prop := rXn S b a fa ∧ rXg S b a fa ∧ rXl S b a fa ∧ rXf S b a fa ∧ rXs S b a fa
/-- rows of their own, fines of their own -/
def sX (S : oS) (o n : Nat) : Prop := (∀ a a', a < n → a' < n → oQ S (agA S o a) 12 = oQ S (agA S o a') 12 → a = a') ∧ (∀ a a', a < n → a' < n → oQ S (agA S o a) 14 = oQ S (agA S o a') 14 → a = a') ∧ (∀ a a', a < n → a' < n → oQ S (agA S o a) 15 = oQ S (agA S o a') 15 → a = a') ∧ ∀ a a' i i', a < n → a' < n → i < (oI S (agA S o a) 13).toNatClampNeg → i' < (oI S (agA S o a') 13).toNatClampNeg → fnA S (agA S o a) i = fnA S (agA S o a') i' → a = a' ∧ i = i'
/-- nothing yet -/
def nX (v : Nat → Int32) (fa : Nat → Nat → Int32) : Prop := ∀ a, (v 43).toNatClampNeg ≤ a → fa 27 a = 0 ∧ fa 29 a = 0 ∧ fa 30 a = 0 ∧ fa 31 a = 0 ∧ fa 32 a = 0
def RX (S : oS) (o : Nat) (v : Nat → Int32) (fa : Nat → Nat → Int32) : Prop := (∀ a, a < (v 43).toNatClampNeg → rX S (agA S o a) a fa) ∧ sX S o (v 43).toNatClampNeg ∧ nX v fa
/-- the rows and the fines at b stay -/
def exR (S u : oS) (b : Nat) : Prop := (∀ i, i = 12 ∨ i = 14 ∨ i = 15 → oQ u b i = oQ S b i) ∧ (∀ i, i < (oI S b 13).toNatClampNeg → fnA u b i = fnA S b i ∧ ∀ j, j < 3 → oI u (fnA S b i) j = oI S (fnA S b i) j) ∧ oI u (oQ S b 14) = oI S (oQ S b 14) ∧ oI u (oQ S b 15) = oI S (oQ S b 15)
/-- the extras at b stay -/
def exA (S u : oS) (b : Nat) : Prop := (∀ i, 9 ≤ i → i < 18 → oI u b i = oI S b i) ∧ exR S u b
section
variable {W : List Nat} {S u Z : oS} {o b x a n : Nat} {v z : Nat → Int32} {fa fz : Nat → Nat → Int32}
theorem rF_S {f j : Nat} (h : ∀ j, j < 3 → oI u f j = oI S f j) (g : rF S fa f j) : rF u fa f j := by
  unfold rF at *
  rw [h 0 (by decide), h 1 (by decide), h 2 (by decide)]
  exact g
theorem rXf_R (h : exR S u b) (e : oI u b 13 = oI S b 13) (g : rXf S b a fa) : rXf u b a fa := by
  obtain ⟨g4, g5⟩ := g
  refine ⟨by rw [e]; exact g4, fun i hi => ?_⟩
  have q := h.2.1 i (by rw [cn_c g4]; exact hi)
  rw [q.1]
  exact rF_S q.2 (g5 i hi)
theorem rXs_R (h : exR S u b) (e6 : oI u b 16 = oI S b 16) (e7 : oI u b 17 = oI S b 17) (g : rXs S b a fa) : rXs u b a fa := by
  obtain ⟨g6, g7, g8, g9, g10⟩ := g
  refine ⟨by rw [e6]; exact g6, by rw [e7]; exact g7, g8, g9, fun i hi => ?_⟩
  rw [h.1 14 (by decide), h.1 15 (by decide), h.2.2.1, h.2.2.2]
  exact g10 i hi
theorem rX_S (h : exA S u b) (g : rX S b a fa) : rX u b a fa := by
  obtain ⟨e1, h⟩ := h
  obtain ⟨g1, g2, g3, g4, g5⟩ := g
  exact ⟨by unfold rXn at *; rw [e1 9 (by decide) (by decide)]; exact g1, by unfold rXg at *; rw [e1 10 (by decide) (by decide)]; exact g2, by unfold rXl at *; rw [e1 11 (by decide) (by decide)]; exact g3, rXf_R h (e1 13 (by decide) (by decide)) g4, rXs_R h (e1 16 (by decide) (by decide)) (e1 17 (by decide) (by decide)) g5⟩
theorem exR_w {i : Nat} {y : Int32} (hI : oInv Z) (tb : oty Z b 1) (hu : u = setI Z b i y) : exR Z u b := by
  have eQ : ∀ b j, oQ u b j = oQ Z b j := fun b j => by unfold oQ; rw [hu]; rfl
  have eI : ∀ c k j, oty Z c k → k ≠ 1 → oI u c j = oI Z c j := fun c k j t n => by rw [hu, setI_oth (ty_ne t tb n)]
  have t12 := ro_e (p := 12) (kr := 17) hI tb rfl rfl rfl
  refine ⟨fun j _ => eQ b j, fun j hj => ⟨by unfold fnA; rw [eQ, eQ], fun m _ => ?_⟩, funext fun j => eI _ _ j (ro_e (p := 14) (kr := 120) hI tb rfl rfl rfl).2 (by decide), funext fun j => eI _ _ j (ro_e (p := 15) (kr := 64) hI tb rfl rfl rfl).2 (by decide)⟩
  obtain ⟨f, hf⟩ := hI.2.2.1 b tb.1 13 12 (by rw [tb.2]; rfl) _ t12.1 j hj
  rw [show fnA Z b j = f from oQ_e hf]
  exact eI f 2 m (oInv.rd hI t12.2.2 hf rfl rfl) (by decide)
theorem exA_o (X : oX W S u) (hI : oInv S) (tb : oty S b 1) (hk : ∀ k ∈ [109, 110, 111, 112, 113, 114, 115, 116, 117, 2017, 2120, 2064, 200, 201, 202], k ∉ W) : exA S u b := by
  have key : ∀ i, 9 ≤ i → i < 18 → wk 1 i ∉ W := fun i h1 h2 => by
    have e : wk 1 i = 100 + i := by unfold wk; rw [if_pos (by decide)]
    rw [e]
    have q : i = 9 ∨ i = 10 ∨ i = 11 ∨ i = 12 ∨ i = 13 ∨ i = 14 ∨ i = 15 ∨ i = 16 ∨ i = 17 := by omega
    rcases q with rfl | rfl | rfl | rfl | rfl | rfl | rfl | rfl | rfl <;> exact hk _ (by decide)
  have eQ : ∀ i, i = 12 ∨ i = 14 ∨ i = 15 → oQ u b i = oQ S b i := fun i hi => by
    unfold oQ
    rw [X.p (i := i) tb (key i (by omega) (by omega))]
  have t12 := ro_e (p := 12) (kr := 17) hI tb rfl rfl rfl
  have t14 := ro_e (p := 14) (kr := 120) hI tb rfl rfl rfl
  have t15 := ro_e (p := 15) (kr := 64) hI tb rfl rfl rfl
  refine ⟨fun i h1 h2 => X.i (i := i) tb (key i h1 h2), eQ, fun i hi => ?_, X.f t14.2 (fun _ => nkw (by decide) (by decide) (hk 2120 (by decide))), X.f t15.2 (fun _ => nkw (by decide) (by decide) (hk 2064 (by decide)))⟩
  obtain ⟨f, hf⟩ := hI.2.2.1 b tb.1 13 12 (by rw [tb.2]; rfl) _ t12.1 i hi
  have tf : oty S f 2 := oInv.rd hI t12.2.2 hf rfl rfl
  have ef : fnA S b i = f := oQ_e hf
  refine ⟨?_, fun j hj => ?_⟩
  · unfold fnA
    rw [eQ 12 (by decide)]
    show (oP u (oQ S b 12) i).getD 0 = (oP S (oQ S b 12) i).getD 0
    rw [X.p (i := i) t12.2 (nkw (by decide) (by decide) (hk 2017 (by decide)))]
  · rw [ef]
    have q : j = 0 ∨ j = 1 ∨ j = 2 := by omega
    rcases q with rfl | rfl | rfl
    · exact X.i (i := 0) tf (hk 200 (by decide))
    · exact X.i (i := 1) tf (hk 201 (by decide))
    · exact X.i (i := 2) tf (hk 202 (by decide))
/-- what separates stays -/
theorem sX_ex (he : ∀ a, a < n → agA u o a = agA S o a ∧ exA S u (agA S o a)) (h : sX S o n) : sX u o n := by
  obtain ⟨h1, h2, h3, h4⟩ := h
  refine ⟨fun a a' q q' e => ?_, fun a a' q q' e => ?_, fun a a' q q' e => ?_, fun a a' i i' q q' hi hi' e => ?_⟩
  · rw [(he a q).1, (he a' q').1, (he a q).2.2.1 12 (by decide), (he a' q').2.2.1 12 (by decide)] at e
    exact h1 a a' q q' e
  · rw [(he a q).1, (he a' q').1, (he a q).2.2.1 14 (by decide), (he a' q').2.2.1 14 (by decide)] at e
    exact h2 a a' q q' e
  · rw [(he a q).1, (he a' q').1, (he a q).2.2.1 15 (by decide), (he a' q').2.2.1 15 (by decide)] at e
    exact h3 a a' q q' e
  · rw [(he a q).1, (he a q).2.1 13 (by decide) (by decide)] at hi
    rw [(he a' q').1, (he a' q').2.1 13 (by decide) (by decide)] at hi'
    rw [(he a q).1, (he a' q').1, ((he a q).2.2.2.1 i hi).1, ((he a' q').2.2.2.1 i' hi').1] at e
    exact h4 a a' i i' q q' hi hi' e
def rowX : List Nat := [27, 28, 29, 30, 31, 32, 33, 34, 37, 35, 36]
/-- of the a-th the reference's extras stay -/
def smA (fa fz : Nat → Nat → Int32) (a : Nat) : Prop := (∀ k ∈ [27, 28, 29, 30, 31, 32], fz k a = fa k a) ∧ (∀ i, i < 6 → ∀ k ∈ [33, 34, 37], fz k (6 * a + i) = fa k (6 * a + i)) ∧ ∀ i, i < 20 → ∀ k ∈ [35, 36], fz k (20 * a + i) = fa k (20 * a + i)
theorem smA_f (h : ∀ k ∈ rowX, fz k = fa k) : smA fa fz a := ⟨fun k hk => congrFun (h k (by revert k; decide)) a, fun i _ k hk => congrFun (h k (by revert k; decide)) _, fun i _ k hk => congrFun (h k (by revert k; decide)) _⟩
theorem rX_m (hA : mA fa) (h : smA fa fz a) (g : rX S b a fa) : rX S b a fz := by
  obtain ⟨e1, e2, e3⟩ := h
  obtain ⟨g1, g2, g3, ⟨g4, g5⟩, ⟨g6, g7, g8, g9, g10⟩⟩ := g
  have b1 : 0 ≤ (fa 30 a).toInt ∧ (fa 30 a).toInt ≤ 6 := hA 30 a
  have b2 : 0 ≤ (fa 31 a).toInt ∧ (fa 31 a).toInt ≤ 20 := hA 31 a
  have c1 : (fa 30 a).toNatClampNeg = (fa 30 a).toInt.toNat := rfl
  have c2 : (fa 31 a).toNatClampNeg = (fa 31 a).toInt.toNat := rfl
  refine ⟨by unfold rXn at *; rw [e1 27 (by decide)]; exact g1, by unfold rXg at *; rw [e1 28 (by decide)]; exact g2, by unfold rXl at *; rw [e1 29 (by decide)]; exact g3, ?_, ?_⟩
  · unfold rXf
    rw [e1 30 (by decide)]
    refine ⟨g4, fun i hi => ?_⟩
    have q := g5 i hi
    unfold rF at *
    rw [e2 i (by omega) 33 (by decide), e2 i (by omega) 34 (by decide), e2 i (by omega) 37 (by decide)]
    exact q
  · unfold rXs
    rw [e1 31 (by decide), e1 32 (by decide)]
    refine ⟨g6, g7, g8, g9, fun i hi => ?_⟩
    rw [e3 i (by omega) 35 (by decide), e3 i (by omega) 36 (by decide)]
    exact g10 i hi
theorem nX_m (hz : z 43 = v 43) (hf : ∀ k ∈ [27, 29, 30, 31, 32], ∀ a, (v 43).toNatClampNeg ≤ a → fz k a = fa k a) (h : nX v fa) : nX z fz := fun a ha => by
  rw [hz] at ha
  rw [hf 27 (by decide) a ha, hf 29 (by decide) a ha, hf 30 (by decide) a ha, hf 31 (by decide) a ha, hf 32 (by decide) a ha]
  exact h a ha
def keysX : List Nat := [1005, 2016, 109, 110, 111, 112, 113, 114, 115, 116, 117, 2017, 2120, 2064, 200, 201, 202]
/-- the extras stay on both sides -/
theorem RX_fr (X : oX W S u) (hI : oInv S) (to : oty S o 10) (hk : ∀ k ∈ keysX, k ∉ W) (hn : (oI S o 6).toInt = (v 43).toInt) (hA : mA fa) (hz : z 43 = v 43) (hf : ∀ k ∈ rowX, fz k = fa k) (h : RX S o v fa) : RX u o z fz := by
  obtain ⟨h1, h2, h3⟩ := h
  have ea := agA_o X hI to (hk 1005 (by decide)) (hk 2016 (by decide))
  have he : ∀ a, a < (v 43).toNatClampNeg → agA u o a = agA S o a ∧ exA S u (agA S o a) := fun a ha => ⟨ea a, exA_o X hI (agA_e hI to (by rw [cn_c hn]; exact ha)).2 (fun k q => hk k (List.mem_cons_of_mem _ (List.mem_cons_of_mem _ q)))⟩
  refine ⟨fun a ha => ?_, by rw [hz]; exact sX_ex he h2, nX_m hz (fun k hk a _ => congrFun (hf k (by revert k; decide)) a) h3⟩
  rw [hz] at ha
  rw [(he a ha).1]
  exact rX_m hA (smA_f hf) (rX_S (he a ha).2 (h1 a ha))
/-- an int of one agreement is written, not the number of its fines -/
theorem RX_one {i : Nat} {y : Int32} (hI : oInv Z) (to : oty Z o 10) (hn : (oI Z o 6).toInt = (v 43).toInt) (hA : mA fa) (hinj : ∀ a', a' < (v 43).toNatClampNeg → agA Z o a' = agA Z o a → a' = a) (ha : a < (v 43).toNatClampNeg) (hu : u = setI Z (agA Z o a) i y) (hi : i ≠ 13) (hz : z 43 = v 43) (hs : ∀ a', a' ≠ a → smA fa fz a') (hnx : ∀ k ∈ [27, 29, 30, 31, 32], ∀ a', (v 43).toNatClampNeg ≤ a' → fz k a' = fa k a') (hnew : rX u (agA Z o a) a fz) (h : RX Z o v fa) : RX u o z fz := by
  obtain ⟨h1, h2, h3⟩ := h
  have eP : oP u = oP Z := by rw [hu]; rfl
  have eQ : ∀ b j, oQ u b j = oQ Z b j := fun b j => by unfold oQ; rw [eP]
  have ea : ∀ a', agA u o a' = agA Z o a' := fun a' => by unfold agA; rw [eQ, eQ]
  have tb : ∀ a', a' < (v 43).toNatClampNeg → oty Z (agA Z o a') 1 := fun a' q => (agA_e hI to (by rw [cn_c hn]; exact q)).2
  have eI : ∀ c j, ¬ (c = agA Z o a ∧ j = i) → oI u c j = oI Z c j := fun c j q => by rw [hu, setI_if q]
  have e13 : ∀ c, oI u c 13 = oI Z c 13 := fun c => eI c 13 (fun q => hi q.2.symm)
  have ef : ∀ b j, fnA u b j = fnA Z b j := fun b j => by unfold fnA; rw [eQ, eQ]
  refine ⟨fun a' ha' => ?_, ?_, nX_m hz hnx h3⟩
  · rw [hz] at ha'
    rw [ea]
    by_cases c : a' = a
    · rw [c]; exact hnew
    · refine rX_m hA (hs a' c) (rX_S ?_ (h1 a' ha'))
      have nb : agA Z o a' ≠ agA Z o a := fun e => c (hinj a' ha' e)
      have t' := tb a' ha'
      refine ⟨fun j _ _ => eI _ j (fun q => nb q.1), fun j _ => eQ _ j, fun j hj => ⟨ef _ j, fun m _ => eI _ m (fun q => ?_)⟩, funext fun j => eI _ j (fun q => ?_), funext fun j => eI _ j (fun q => ?_)⟩
      · have t12 := ro_e (p := 12) (kr := 17) hI t' rfl rfl rfl
        obtain ⟨f, hf⟩ := hI.2.2.1 _ t'.1 13 12 (by rw [t'.2]; rfl) _ t12.1 j hj
        have tf : oty Z f 2 := oInv.rd hI t12.2.2 hf rfl rfl
        rw [show fnA Z (agA Z o a') j = f from oQ_e hf] at q
        exact ty_ne tf (tb a ha) (by decide) q.1
      · exact ty_ne (ro_e (p := 14) (kr := 120) hI t' rfl rfl rfl).2 (tb a ha) (by decide) q.1
      · exact ty_ne (ro_e (p := 15) (kr := 64) hI t' rfl rfl rfl).2 (tb a ha) (by decide) q.1
  · rw [hz]
    unfold sX at *
    simp only [ea, eQ, e13, ef]
    exact h2
end
