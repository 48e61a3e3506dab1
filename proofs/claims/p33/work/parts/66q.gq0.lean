

/-- the office's refusals stand as they stood -/
def sR (Z : oS) (o : Nat) (u : oS) : Prop := oI u (oQ u o 15) = oI Z (oQ Z o 15)
/-- refused, or the refusals stand: the office, the reference -/
def rZo (Z : oS) (o : Nat) (u : oS) (r : Int32) (bad : Prop) : Prop := (bad ∧ rfO Z o u r) ∨ (¬ bad ∧ sR Z o u)
def rZr (v : Nat → Int32) (fa : Nat → Nat → Int32) (u : (Nat → Int32) × (Nat → Nat → Int32)) (r : Int32) (bad : Prop) : Prop := (bad ∧ sm2 v fa u r) ∨ (¬ bad ∧ u.2 0 = fa 0)
/-- both sides' refusals are one -/
def rCR (S : oS) (o : Nat) (_v : Nat → Int32) (fa : Nat → Nat → Int32) : Prop := ∀ j, j < 7 → oI S (oQ S o 15) j = fa 0 j
section
variable {W : List Nat} {Z S u : oS} {o a b x th : Nat} {v z : Nat → Int32} {fa fz : Nat → Nat → Int32} {r r1 c : Int32} {P Q B : Prop}
theorem rw15 (hI : oInv Z) (to : oty Z o 10) : oty Z (oQ Z o 15) 107 := (ro_e (p := 15) (kr := 107) hI to rfl rfl rfl).2
theorem sR_x (hX : oX W Z u) (tr : oty Z (oQ Z o 15) 107) (to : oty Z o 10) (hk : ∀ k ∈ [1015, 2107], k ∉ W) : sR Z o u := by
  have eq : oQ u o 15 = oQ Z o 15 := by unfold oQ; rw [hX.p (i := 15) to (hk 1015 (by decide))]
  unfold sR
  rw [eq]
  exact hX.f tr (fun _ => nkw (by decide) (by decide) (hk 2107 (by decide)))
theorem sR_rf : sR Z o Z := rfl
theorem sR_t (h : sR Z o S) (g : sR S o u) : sR Z o u := g.trans h
theorem rCR_s (hs : sR Z o u) (hf : fz 0 = fa 0) (h : rCR Z o v fa) : rCR u o z fz := fun j hj => by
  rw [show oI u (oQ u o 15) = oI Z (oQ Z o 15) from hs, hf]
  exact h j hj
theorem rCR_r (ho : rfO Z o u c) (hf : fz 0 = upd (fa 0) (-c).toNatClampNeg (fa 0 (-c).toNatClampNeg + 1)) (h : rCR Z o v fa) : rCR u o z fz := fun j hj => by
  have eq : oQ u o 15 = oQ Z o 15 := by rw [show u = _ from ho]; rfl
  rw [eq, hf, show u = _ from ho, setI_fun]
  by_cases d : j = (-c).toNatClampNeg
  · rw [← d, upd_eq, upd_eq, h j hj]
  · rw [upd_ne d, upd_ne d]
    exact h j hj
theorem rO2_r (h : rOr v fa (z, fz) r P) : rO2 v fa (z, fz) r P := by
  rcases h with ⟨h1, h2⟩ | h
  · exact Or.inl ⟨h1, sm2_1 h2⟩
  · exact Or.inr h
theorem rCR_O (hp : rOo Z o u r P) (hs : 0 ≤ r.toInt → P → sR Z o u) (hq : rO2 v fa (z, fz) r1 Q) (er : r.toInt = r1.toInt) (h : rCR Z o v fa) : rCR u o z fz := by
  have e : r = r1 := Int32.toInt_inj.mp er
  subst e
  rcases hp with ⟨n1, p2⟩ | ⟨n1, p2⟩
  · rcases hq with ⟨m1, q2⟩ | ⟨m1, q2, -⟩
    · exact rCR_r p2 q2.2.2 h
    · exfalso; omega
  · rcases hq with ⟨m1, q2⟩ | ⟨m1, q2, -⟩
    · exfalso; omega
    · exact rCR_s (hs n1 p2) q2 h
theorem rCR_O3 (tr : oty Z (oQ Z o 15) 107) (to : oty Z o 10) (hp : rO3 Z o u r P) (hs : 0 ≤ r.toInt → P → sR Z o u) (hq : rO2 v fa (z, fz) r1 Q) (er : r.toInt = r1.toInt) (h : rCR Z o v fa) : rCR u o z fz := by
  have e : r = r1 := Int32.toInt_inj.mp er
  subst e
  rcases hp with ⟨n1, S0, i0, x0, p2⟩ | ⟨n1, p2⟩
  · rcases hq with ⟨m1, q2⟩ | ⟨m1, q2, -⟩
    · exact rCR_r p2 q2.2.2 (rCR_s (z := v) (sR_x x0 tr to (by decide)) rfl h : rCR S0 o v fa)
    · exfalso; omega
  · rcases hq with ⟨m1, q2⟩ | ⟨m1, q2, -⟩
    · exfalso; omega
    · exact rCR_s (hs n1 p2) q2 h
theorem rCR_Z (hp : rZo Z o u r B) (hq : rZr v fa (z, fz) r1 B) (er : B → r.toInt = r1.toInt) (h : rCR Z o v fa) : rCR u o z fz := by
  rcases hp with ⟨n1, p2⟩ | ⟨n1, p2⟩
  · have e : r = r1 := Int32.toInt_inj.mp (er n1)
    subst e
    rcases hq with ⟨m1, q2⟩ | ⟨m1, q2⟩
    · exact rCR_r p2 q2.2.2 h
    · exact absurd n1 m1
  · rcases hq with ⟨m1, q2⟩ | ⟨m1, q2⟩
    · exact absurd m1 n1
    · exact rCR_s p2 q2 h
theorem rZr_Q (h : rQr v fa (z, fz) r B) : rZr v fa (z, fz) r B := by
  rcases h with ⟨h1, h2⟩ | h
  · exact Or.inl ⟨h1, sm2_1 h2⟩
  · exact Or.inr h
theorem rZo_Q (h : rQo Z o u r B) : rZo Z o u r B := by
  rcases h with h | ⟨h1, h2⟩
  · exact Or.inl h
  · exact Or.inr ⟨h1, by rw [h2]; exact sR_rf⟩
theorem rZo_H (tr : oty Z (oQ Z o 15) 107) (to : oty Z o 10) (h : rHo Z o u r B) : rZo Z o u r B := by
  rcases h with h | ⟨h1, h2⟩
  · exact Or.inl h
  · exact Or.inr ⟨h1, sR_x h2 tr to (by decide)⟩
theorem rCR_F (tr : oty Z (oQ Z o 15) 107) (to : oty Z o 10) (hp : rFo Z o u r B) (hq : rFr v fa (z, fz) r1 B) (er : r.toInt = r1.toInt) (h : rCR Z o v fa) : rCR u o z fz := by
  rcases hp with ⟨n1, c, c1, p2⟩ | ⟨n1, p2⟩
  · rcases hq with ⟨m1, d, d1, q2⟩ | ⟨m1, q2⟩
    · have e : c = d := Int32.toInt_inj.mp (by omega)
      subst e
      exact rCR_r p2 (sm2_1 q2).2.2 h
    · exact absurd n1 m1
  · rcases hq with ⟨m1, q2⟩ | ⟨m1, q2⟩
    · exact absurd m1 n1
    · exact rCR_s (sR_x p2 tr to (by decide)) q2 h
theorem rCR_K {Q1 Q2 : Prop} (hp : (B ∧ rfO Z o u r) ∨ (¬ B ∧ Q1)) (hs : B ∨ sR Z o u) (hq : (B ∧ sm1 v fa (z, fz) r1) ∨ (¬ B ∧ Q2 ∧ fz 0 = fa 0)) (er : r.toInt = r1.toInt) (h : rCR Z o v fa) : rCR u o z fz := by
  refine rCR_Z (B := B) (r := r) (r1 := r1) (v := v) (fa := fa) (z := z) (fz := fz) ?_ ?_ (fun _ => er) h
  · rcases hp with p | ⟨p, -⟩
    · exact Or.inl p
    · exact Or.inr ⟨p, hs.resolve_left p⟩
  · rcases hq with ⟨q1, q2⟩ | ⟨q1, -, q2⟩
    · exact Or.inl ⟨q1, sm2_1 q2⟩
    · exact Or.inr ⟨q1, q2⟩
theorem rCR_st (hI : oInv Z) (to : oty Z o 10) (hd : ∀ rf, oP Z o 15 = some rf → oI Z rf = fun _ => 0) : rCR Z o (fun _ => 0) (fun _ _ => 0) := fun j _ => by
  rw [hd _ (ro_e (p := 15) (kr := 107) hI to rfl rfl rfl).1]
/-- what is written leaves the refusals -/
theorem sR_1 {f key k : Nat} {y : Int32} (tr : oty Z (oQ Z o 15) 107) (to : oty Z o 10) (ta : oty Z a k) (e : wk k f = key) (hk : ∀ k ∈ [1015, 2107], k ∉ [key]) : sR Z o (setI Z a f y) := sR_x (W := [key]) (oX.I ta.2 e (List.mem_singleton.mpr rfl)) tr to hk
theorem sr_vy {s p : Int32} (hI : oInv Z) (to : oty Z o 10) (h : vyO Z o s p u) : sR Z o u := by
  obtain ⟨q, S1, y, -, hX, -, -, -, hu⟩ := h
  have tw := (ro_e (p := 3) (kr := 15) hI to rfl rfl rfl).2
  have X1 : oX [2015, 1004] Z S1 := hX.mono (by decide)
  rw [hu]
  exact sR_x (W := [2015, 1004]) ((X1.tr (oX.P (k := 15) (key := 2015) (X1.ty tw).2 rfl (by decide))).tr (oX.I (k := 10) (key := 1004) (X1.ty to).2 rfl (by decide))) (rw15 hI to) to (by decide)
theorem sr_on0 {d r : Int32} (hI : oInv Z) (to : oty Z o 10) (tb : oty Z b 9) (h : onO Z o b 5 6 d r u) : sR Z o u := by
  obtain ⟨-, hu⟩ := h
  rw [hu]
  exact sR_x (W := [905, 906, 1007]) (((oX.I (k := 9) (key := 905) tb.2 rfl (by decide) : oX [905, 906, 1007] Z _).tr (oX.I (k := 9) (key := 906) tb.2 rfl (by decide))).tr (oX.I (k := 10) (key := 1007) to.2 rfl (by decide))) (rw15 hI to) to (by decide)
theorem sr_on2 {d r : Int32} (hI : oInv Z) (to : oty Z o 10) (tb : oty Z b 9) (h : onO Z o b 7 8 d r u) : sR Z o u := by
  obtain ⟨-, hu⟩ := h
  rw [hu]
  exact sR_x (W := [907, 908, 1007]) (((oX.I (k := 9) (key := 907) tb.2 rfl (by decide) : oX [907, 908, 1007] Z _).tr (oX.I (k := 9) (key := 908) tb.2 rfl (by decide))).tr (oX.I (k := 10) (key := 1007) to.2 rfl (by decide))) (rw15 hI to) to (by decide)
theorem sr_h9 {kd d w p r : Int32} (hI : oInv Z) (to : oty Z o 10) (tb : oty Z b 9) (h : hapO Z o b 9 kd d w p r u) : sR Z o u := by
  obtain ⟨q, S1, -, hX, -, -, -, hu⟩ := h
  have X1 : oX [909, 1007] Z S1 := hX.mono (by decide)
  rw [hu]
  exact sR_x (W := [909, 1007]) ((X1.tr (oX.P (k := 9) (key := 909) (X1.ty tb).2 rfl (by decide))).tr (oX.I (k := 10) (key := 1007) (X1.ty to).2 rfl (by decide))) (rw15 hI to) to (by decide)
theorem sr_h8 {kd d w p r : Int32} (tr : oty Z (oQ Z o 15) 107) (to : oty Z o 10) (tb : oty Z b 1) (h : hapO Z o b 8 kd d w p r u) : sR Z o u := by
  obtain ⟨q, S1, -, hX, -, -, -, hu⟩ := h
  have X1 : oX [108, 1007] Z S1 := hX.mono (by decide)
  rw [hu]
  exact sR_x (W := [108, 1007]) ((X1.tr (oX.P (k := 1) (key := 108) (X1.ty tb).2 rfl (by decide))).tr (oX.I (k := 10) (key := 1007) (X1.ty to).2 rfl (by decide))) tr to (by decide)
theorem sr_di {kd d w p r y : Int32} (hI : oInv Z) (to : oty Z o 10) (tb : oty Z b 1) (h : hapO (setI Z b 7 y) o b 8 kd d w p r u) : sR Z o u :=
  sR_t (sR_1 (key := 107) (rw15 hI to) to tb rfl (by decide)) (sr_h8 (Z := setI Z b 7 y) (show oty (setI Z b 7 y) (oQ (setI Z b 7 y) o 15) 107 from rw15 (Z := Z) hI to) to tb h)
theorem sr_en {x : Int} {n : Nat} (hI : oInv Z) (to : oty Z o 10) (tb : oty Z b 9) (ta : ∀ j, j < n → oty Z (agA Z o j) 1) (hu : u = wI Z (enU Z o b v fa x n)) : sR Z o u := by
  have tr := rw15 hI to
  rw [hu]
  show enU Z o b v fa x n (oQ Z o 15) = oI Z (oQ Z o 15)
  funext j
  unfold enU
  rw [if_neg (fun q => ty_ne tr tb (by decide) q.1), if_neg (fun ⟨_, j, q2, q3, _⟩ => ty_ne tr (ta j q2) (by decide) q3)]
theorem sr_of {y : Int32} (hI : oInv Z) (to : oty Z o 10) (tb : oty Z b 1) {f key : Nat} (e : wk 1 f = key) (hk : ∀ k ∈ [1015, 2107], k ∉ [key]) (hu : u = setI Z b f y) : sR Z o u := by
  rw [hu]
  exact sR_1 (rw15 hI to) to tb e hk
theorem sr_al {y : Int32} (hI : oInv Z) (to : oty Z o 10) (tb : oty Z b 1) (h : ∃ S0, oInv S0 ∧ oX [2108, 5001] Z S0 ∧ u = setI S0 b 11 y) : sR Z o u := by
  obtain ⟨S0, -, hX, hu⟩ := h
  have X1 : oX [2108, 5001, 111] Z S0 := hX.mono (by decide)
  rw [hu]
  exact sR_x (W := [2108, 5001, 111]) (X1.tr (oX.I (k := 1) (key := 111) (X1.ty tb).2 rfl (by decide))) (rw15 hI to) to (by decide)
theorem sr_fi {d s rd r : Int32} (hI : oInv Z) (to : oty Z o 10) (tb : oty Z b 1) (h : fiO Z b d s rd r u) : sR Z o u := by
  obtain ⟨q, S1, -, hX, -, -, -, hu⟩ := h
  have tw := (ro_e (p := 12) (kr := 17) hI tb rfl rfl rfl).2
  have X1 : oX [2017, 113] Z S1 := hX.mono (by decide)
  rw [hu]
  exact sR_x (W := [2017, 113]) ((X1.tr (oX.P (k := 17) (key := 2017) (X1.ty tw).2 rfl (by decide))).tr (oX.I (k := 1) (key := 113) (X1.ty tb).2 rfl (by decide))) (rw15 hI to) to (by decide)
theorem sr_rd {y : Int32} (hI : oInv Z) (to : oty Z o 10) (tb : oty Z b 2) (hu : u = setI Z b 2 y) : sR Z o u := by
  rw [hu]
  exact sR_1 (key := 202) (rw15 hI to) to tb rfl (by decide)
theorem sr_ra {nw y r : Int32} (hI : oInv Z) (to : oty Z o 10) (tb : oty Z b 1) (h : raO Z b nw y r u) : sR Z o u := by
  obtain ⟨c, -, hu⟩ := h
  have t1 := (ro_e (p := 14) (kr := 120) hI tb rfl rfl rfl).2
  have t2 := (ro_e (p := 15) (kr := 64) hI tb rfl rfl rfl).2
  rw [hu]
  exact sR_x (W := [2120, 2064, 116, 117]) ((((oX.I (k := 120) (key := 2120) t1.2 rfl (by decide) : oX [2120, 2064, 116, 117] Z _).tr (oX.I (k := 64) (key := 2064) t2.2 rfl (by decide))).tr (oX.I (k := 1) (key := 116) tb.2 rfl (by decide))).tr (oX.I (k := 1) (key := 117) tb.2 rfl (by decide))) (rw15 hI to) to (by decide)
theorem sr_sg {ma va : Nat} {sh : Option Nat} {w k : Int32} (hI : oInv Z) (to : oty Z o 10) (h : sgO Z o ma va sh w k u) : sR Z o u := by
  obtain ⟨q, S1, y, hq, hX, -, -, -, hu⟩ := h
  have tw := (ro_e (p := 5) (kr := 16) hI to rfl rfl rfl).2
  have X1 : oX [2108, 5001, 2016, 1006] Z S1 := hX.mono (by decide)
  have X2 : oX [2108, 5001, 2016, 1006] Z (setI (setI S1 q 4 w) q 5 k) := oX.In (oX.In X1 hq) hq
  rw [hu]
  exact sR_x (W := [2108, 5001, 2016, 1006]) ((X2.tr (oX.P (k := 16) (key := 2016) (X2.ty tw).2 rfl (by decide))).tr (oX.I (k := 10) (key := 1006) (X2.ty to).2 rfl (by decide))) (rw15 hI to) to (by decide)
theorem sr_pu {y r : Int32} {n : Nat} (hI : oInv Z) (to : oty Z o 10) (hu : u = setI (setI Z (oQ Z o 13) n y) o 14 r) : sR Z o u := by
  have tw := (ro_e (p := 13) (kr := 112) hI to rfl rfl rfl).2
  rw [hu]
  exact sR_x (W := [2112, 1014]) ((oX.I (k := 112) (key := 2112) tw.2 rfl (by decide) : oX [2112, 1014] Z _).tr (oX.I (k := 10) (key := 1014) to.2 rfl (by decide))) (rw15 hI to) to (by decide)
end
