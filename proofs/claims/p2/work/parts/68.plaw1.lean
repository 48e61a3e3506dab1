

/-- the reference's addresses -/
def mAd (g0 : Nat) (pq : Nat → Nat) : List Nat := [g0, pq 0, pq 1, pq 2, pq 3, pq 4, pq 5, pq 6, pq 7, pq 8, pq 9, pq 10, pq 11, pq 12, pq 13, pq 14, pq 15, pq 16, pq 17, pq 18, pq 19, pq 20, pq 21, pq 22, pq 23, pq 24, pq 25, pq 26, pq 27, pq 28, pq 29, pq 30, pq 31, pq 32, pq 33, pq 34, pq 35, pq 36, pq 37, pq 44, pq 45, pq 52, pq 53, pq 54, pq 55, pq 56, pq 57, pq 61]
theorem mAd_of {g0 : Nat} {pq : Nat → Nat} {cp : Nat → ClassId} {v : Nat → Int32} {fa : Nat → Nat → Int32} {k : Nat} {x : Nat × va_E} (h : (mW g0 pq cp v fa)[k]? = some x) : x.1 ∈ mAd g0 pq := by
  have e : mAd g0 pq = (mW g0 pq cp v fa).map (fun y => y.1) := rfl
  rw [e]
  exact List.mem_map.mpr ⟨x, List.mem_of_getElem? h, rfl⟩
/-- what holds of both between two calls: each in its bounds, the same day -/
def lwI (iv : Nat) (S : oS) (h0 : Nat) (v : Nat → Int32) (fa : Nat → Nat → Int32) : Prop := oInv S ∧ oty S h0 10 ∧ mV v ∧ mA fa ∧ (oI S h0 0).toInt = (v iv).toInt
def lwH (D : va_G) (A : Nat → Prop) (cq cp : Nat → ClassId) (g0 : Nat) (pq : Nat → Nat) (S : oS) (v : Nat → Int32) (fa : Nat → Nat → Int32) (H : Heap) : Prop := va_P D vwCl (oW cq S) H ∧ va_D A (oW cq S) ∧ va_P D vwCl (mW g0 pq cp v fa) H ∧ va_D A (mW g0 pq cp v fa) ∧ ∀ a, a ∈ oL S → a ∉ mAd g0 pq
theorem oW_mem {cq : Nat → ClassId} {S : oS} {k : Nat} {x : Nat × va_E} (h : (oW cq S)[k]? = some x) : x.1 ∈ oL S := by
  obtain ⟨a, ha, e⟩ := List.mem_map.mp (List.mem_of_getElem? h : x ∈ va_pl (oL S) (oE cq S))
  rw [← e]
  exact ha
theorem lw_lt {D : va_G} {cp : Nat → ClassId} {g0 : Nat} {pq : Nat → Nat} {v : Nat → Int32} {fa : Nat → Nat → Int32} {H : Heap} (hP : va_P D vwCl (mW g0 pq cp v fa) H) {a : Nat} (h : a ∈ mAd g0 pq) : a < H.size := by
  have e : mAd g0 pq = (mW g0 pq cp v fa).map (fun y => y.1) := rfl
  rw [e] at h
  obtain ⟨x, hx, rfl⟩ := List.mem_map.mp h
  obtain ⟨k, hk⟩ := List.getElem?_of_mem hx
  exact (hP k x hk).lt
/-- behind a call of the office -/
theorem lwH_o {D : va_G} {A : Nat → Prop} {cq cp : Nat → ClassId} {g0 : Nat} {pq : Nat → Nat} {S S1 : oS} {v : Nat → Int32} {fa : Nat → Nat → Int32} {H H1 : Heap} (h : lwH D A cq cp g0 pq S v fa H) (hF : ∀ q, va_A (oW cq S) H.size q → A q) (hk : ∀ q : Nat, q < H.size → ¬ va_A (oW cq S) H.size q → H1[q]? = H[q]?) (hP : va_P D vwCl (oW cq S1) H1) (hD : va_D (va_A (oW cq S) H.size) (oW cq S1)) : lwH D A cq cp g0 pq S1 v fa H1 := by
  obtain ⟨h1, h2, h3, h4, h5⟩ := h
  have nin : ∀ a, a ∈ mAd g0 pq → ¬ va_A (oW cq S) H.size a := fun a ha q => by
    rcases q with ⟨k, e, hk⟩ | q
    · exact h5 a (oW_mem hk) ha
    · exact absurd (lw_lt h3 ha) (Nat.not_lt.mpr q)
  refine ⟨hP, hD.weaken (fun _ _ _ g => hF _ g), h3.kept (fun k x hx => hk x.1 (h3 k x hx).lt (nin _ (mAd_of hx))), h4, fun a ha hm => ?_⟩
  obtain ⟨k, hk2⟩ := va_pl_get (X := []) (f := oE cq S1) ha
  exact nin a hm (hD.2 k _ hk2)
/-- behind a call of the reference -/
theorem lwH_m {D : va_G} {A : Nat → Prop} {cq cp : Nat → ClassId} {g0 : Nat} {pq : Nat → Nat} {S : oS} {v v1 : Nat → Int32} {fa fa1 : Nat → Nat → Int32} {H H1 : Heap} (h : lwH D A cq cp g0 pq S v fa H) (hF : ∀ q, va_A (mW g0 pq cp v fa) H.size q → A q) (hk : ∀ q : Nat, q < H.size → ¬ va_A (mW g0 pq cp v fa) H.size q → H1[q]? = H[q]?) (hP : va_P D vwCl (mW g0 pq cp v1 fa1) H1) (hD : va_D (va_A (mW g0 pq cp v fa) H.size) (mW g0 pq cp v1 fa1)) : lwH D A cq cp g0 pq S v1 fa1 H1 := by
  obtain ⟨h1, h2, h3, h4, h5⟩ := h
  refine ⟨h1.kept (fun k x hx => hk x.1 (h1 k x hx).lt (fun q => ?_)), h2, hP, hD.weaken (fun _ _ _ g => hF _ g), h5⟩
  rcases q with ⟨j, e, hj⟩ | q
  · exact h5 x.1 (oW_mem hx) (mAd_of (x := (x.1, e)) hj)
  · exact absurd (h1 k x hx).lt (Nat.not_lt.mpr q)
theorem lwH_p {D : va_G} {A : Nat → Prop} {cq cp : Nat → ClassId} {g0 : Nat} {pq : Nat → Nat} {S : oS} {v : Nat → Int32} {fa : Nat → Nat → Int32} {H H1 : Heap} (h : lwH D A cq cp g0 pq S v fa H) (hk : ∀ q : Nat, q < H.size → ¬ va_A [] H.size q → H1[q]? = H[q]?) : lwH D A cq cp g0 pq S v fa H1 := ⟨pu_keep h.1 hk, h.2.1, pu_keep h.2.2.1 hk, h.2.2.2.1, h.2.2.2.2⟩
theorem lwI_o {iv : Nat} {S S1 : oS} {h0 : Nat} {v : Nat → Int32} {fa : Nat → Nat → Int32} (h : lwI iv S h0 v fa) (hI : oInv S1) (hX : oX S S1) : lwI iv S1 h0 v fa := ⟨hI, hX.ty h.2.1, h.2.2.1, h.2.2.2.1, (oX.now hX h.2.1).trans h.2.2.2.2⟩
theorem lwI_m {S : oS} {h0 : Nat} {v v1 : Nat → Int32} {fa fa1 : Nat → Nat → Int32} (h : lwI 38 S h0 v fa) (hV : mV v1) (hA : mA fa1) (hn : v1 38 = v 38) : lwI 38 S h0 v1 fa1 := ⟨h.1, h.2.1, hV, hA, h.2.2.2.2.trans (by rw [hn])⟩
theorem od_eq {a n r r1 b b1 : Int} (h : odays a n r b) (g : odays a n r1 b1) : r = r1 ∧ b = b1 := by
  unfold odays at h g
  omega
theorem ao_of {C : String} {s : State} (h : va_AO C s) : ∃ cA : ClassId, ArrOfT s cA (.object C) ∧ va_RA s cA (.object C) := by
  obtain ⟨comp, c, k, h1, h2, h3, h4, h5⟩ := Cond.arrayOver_spec h
  exact ⟨c, fun N z => ⟨(fun k h => by cases h), k, h3, comp, h4⟩, k, comp, h3, h4, h1, h5⟩
theorem ac_of {args : Array Value} {s : State} {ty : FieldType} (h : (Cond.arrayClass ty).before args s = true) : ∃ cA : ClassId, ArrOfT s cA ty ∧ s.vm.findClass ("[" ++ ty.toString) = some cA := by
  obtain ⟨cA, kA, comp, h1, h2, h3⟩ := Cond.arrayClass_spec h
  exact ⟨cA, fun n z => ⟨fun k h => (by cases h), kA, h2, comp, h3⟩, h1⟩
