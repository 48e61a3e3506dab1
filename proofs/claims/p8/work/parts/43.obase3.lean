

/-- the statics, with the table of signs and the class of an array of fines -/
def stO (A : Nat → Prop) (tL tS tG : Nat) (U : State) (H : Heap) : Prop := stZ A tL tS U H ∧ va_Z "ShipOffice$Act" "SIGNS" "[C" (.ref tG) A U H ∧ va_T .char tG 7 (fun j => .int (([43, 45, 42, 47, 60, 61, 62] : List Int32).getD j 0)) A U H ∧ va_AO "ShipOffice$Fine" U ∧ va_Nw (.castable "[I" "java/lang/Cloneable") U
def pcO (D : va_G) (tys : List (ClassId × FieldType)) (ws : va_W) (sz : Nat) (tL tS tG : Nat) (wa : va_W) : State → Prop := fun U => pcW D tys ws sz U ∧ stO (va_A wa sz) tL tS tG U U.heap
theorem stO.go {A B : Nat → Prop} {tL tS tG : Nat} {s : State} {H : Heap} {locs : List Loc} (h : stO A tL tS tG s s.heap) (hS : va_S A s.heap H locs) (hB : ∀ q, B q → A q) : ∀ U : State, U.heap = H → s.WarmedH U.vm → stO B tL tS tG U U.heap := by
  intro U hU hW
  obtain ⟨h0, h1, h2, h3, h4⟩ := h
  have g0 := stZ.go h0 hS hB U hU hW
  subst hU
  exact ⟨g0, ((h1.kept hS.2.1).moved hW.alike).narrow hB, ((h2.kept hS.2.1).moved hW.alike).narrow hB, h3.moved hW.alike, h4.warmC hW⟩
theorem fb_O {D : va_G} {tys : List (ClassId × FieldType)} {ws wa : va_W} {sz tL tS tG : Nat} {av : List Value} : FrameBlind (va_Pc av (pcO D tys ws sz tL tS tG wa)) := fun a U g mk q => by
  obtain ⟨q0, q1, q2, k1, k2, k3, k4⟩ := q
  have e := Vm.Alike.refl U.vm
  have b := fb_S (av := av) (D := D) (tys := tys) (ws := ws) (wa := wa) (sz := sz) (tL := tL) (tS := tS) a U g mk ⟨q0, q1, q2⟩
  exact ⟨b.1, b.2.1, b.2.2, va_Z.moved (u := U) (U := U.calling g mk a) e k1, va_T.moved (u := U) (U := U.calling g mk a) e k2, va_AO.moved (u := U) (U := U.calling g mk a) e k3, va_Nw.same (u := U) (U := U.calling g mk a) rfl rfl k4⟩
theorem pr_SO {s : State} {H : Heap} {D : va_G} {tys : List (ClassId × FieldType)} {ws wa : va_W} {A : Nat → Prop} {As : List Value} {tL tS tG : Nat} (hP : va_P D vwCl ws H) (hK : va_K D vwCl tys s) (hD : va_D A ws) (hZ : ∀ U : State, U.heap = H → s.WarmedH U.vm → stO (va_A wa H.size) tL tS tG U U.heap) : PreS s H (va_Pc As (pcO D tys ws H.size tL tS tG wa)) As :=
  ⟨fb_O, fun U hU hW => ⟨rfl, ⟨by rw [hU], by rw [hU]; exact hP, va_K.moved hW.alike hK, hD.weaken (fun _ _ _ _ => trivial)⟩, hZ U hU hW⟩⟩
theorem pr_VO {s : State} {H : Heap} {D : va_G} {tys : List (ClassId × FieldType)} {ws wa : va_W} {A : Nat → Prop} {As : List Value} {b tL tS tG : Nat} {r : vw_C} {fs : List Value} (hP : va_P D vwCl ws H) (hK : va_K D vwCl tys s) (hD : va_D A ws) (q0 ci : Nat) (hc : vwCl[ci]? = some r) (he : ws[q0]? = some (b, .inr (ci, fs))) (hZ : ∀ U : State, U.heap = H → s.WarmedH U.vm → stO (va_A wa H.size) tL tS tG U U.heap) : PreV s H r.1 b (va_Pc (.ref b :: As) (pcO D tys ws H.size tL tS tG wa)) As :=
  ⟨fb_O, va_recv hK hP hc he, fun U hU hW => ⟨rfl, ⟨by rw [hU], by rw [hU]; exact hP, va_K.moved hW.alike hK, hD.weaken (fun _ _ _ _ => trivial)⟩, hZ U hU hW⟩⟩
theorem o_rd {S : oS} {a i : Nat} {r : Option Nat} (h : oP S a i = r) : some (va_rf (oP S a i)) = some (va_rf r) := by rw [h]
theorem inv_cnt {S : oS} {a i p k r : Nat} {x : Int32} (h : oInv S) (ha : oty S a k) (hc : ctI k i = some p) (hr : oP S a p = some r) (hx : x.toInt = (oI S a i).toInt + 1) (h0 : 0 ≤ (oI S a i).toInt) (hel : ∃ b, oP S r (oI S a i).toNatClampNeg = some b) : ∀ p', ctI k i = some p' → ∀ r', oP S a p' = some r' → ∀ j, j < x.toNatClampNeg → ∃ b, oP S r' j = some b := by
  intro p' hp' r' hr' j hj
  rw [hc] at hp'
  cases hp'
  rw [hr] at hr'
  cases hr'
  by_cases q : j = (oI S a i).toNatClampNeg
  · rw [q]; exact hel
  · refine h.2.2.1 a ha.1 i p (by rw [ha.2]; exact hc) r hr j ?_
    have e1 : x.toNatClampNeg = x.toInt.toNat := rfl
    have e2 : (oI S a i).toNatClampNeg = (oI S a i).toInt.toNat := rfl
    omega
