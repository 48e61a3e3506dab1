

/-- the row of an account -/
def rRw (S : oS) (o : Nat) (v : Nat → Int32) (fa : Nat → Nat → Int32) : Prop := (oI S o 14).toInt = (v 62).toInt ∧ ∀ j, j < (v 62).toNatClampNeg → oI S (oQ S o 13) j = fa 61 j
section
variable {W : List Nat} {S u Z : oS} {o : Nat} {v z : Nat → Int32} {fa fz : Nat → Nat → Int32}
theorem rRw_fr (X : oX W S u) (hI : oInv S) (to : oty S o 10) (hk : ∀ k ∈ [1014, 1013, 2112], k ∉ W) (hz : z 62 = v 62) (hf : fz 61 = fa 61) (h : rRw S o v fa) : rRw u o z fz := by
  have tr := (ro_e (p := 13) (kr := 112) hI to rfl rfl rfl).2
  unfold rRw at *
  rw [X.i (i := 14) to (hk _ (by decide)), hz, hf, show oQ u o 13 = oQ S o 13 from by unfold oQ; rw [X.p (i := 13) to (hk _ (by decide))], X.f tr (fun _ => nkw (by decide) (by decide) (hk _ (by decide)))]
  exact h
theorem rRw_0 (e : (oI u o 14).toInt = 0) (e1 : (z 62).toInt = 0) : rRw u o z fz := ⟨by omega, fun j hj => by
  have e2 : (z 62).toNatClampNeg = (z 62).toInt.toNat := rfl
  omega⟩
theorem rRw_put {y r : Int32} (hI : oInv Z) (to : oty Z o 10) (hV : mV v) (h : rRw Z o v fa) (hu : u = setI (setI Z (oQ Z o 13) (oI Z o 14).toNatClampNeg y) o 14 r) (hr : r.toInt = (v 62).toInt + 1) (hz : (z 62).toInt = (v 62).toInt + 1) (hw : fz 61 = upd (fa 61) (v 62).toNatClampNeg y) : rRw u o z fz := by
  have tr := (ro_e (p := 13) (kr := 112) hI to rfl rfl rfl).2
  have no : oQ Z o 13 ≠ o := ty_ne tr to (by decide)
  have b0 : 0 ≤ (v 62).toInt := (hV 62).1
  have eQ : oQ u o 13 = oQ Z o 13 := by unfold oQ; rw [hu]; rfl
  have en : (oI Z o 14).toNatClampNeg = (v 62).toNatClampNeg := cn_c h.1
  have ez : (z 62).toNatClampNeg = (v 62).toNatClampNeg + 1 := (show (z 62).toInt.toNat = (v 62).toInt.toNat + 1 by omega)
  refine ⟨by rw [hu, setI_same]; omega, fun j hj => ?_⟩
  rw [eQ, hw, hu, setI_oth no, en, setI_fun]
  by_cases c : j = (v 62).toNatClampNeg
  · rw [c, upd_eq, upd_eq]
  · rw [upd_ne c, upd_ne c]
    exact h.2 j (by omega)
end
