theorem inlX0 : ∀ w ∈ wsX00, w ∈ wsL_law := fun _ h => List.mem_append_left _ (List.mem_append_left _ (List.mem_append_left _ (List.mem_append_left _ (List.mem_append_left _ (List.mem_append_left _ (List.mem_append_right _ h))))))
theorem inX0 : ∀ w ∈ wsX00, w ∈ lw_tbl := fun w h => wsL_law_in w (inlX0 w h)
theorem inlX1 : ∀ w ∈ wsX10, w ∈ wsL_law := fun _ h => List.mem_append_left _ (List.mem_append_left _ (List.mem_append_left _ (List.mem_append_right _ h)))
theorem inX1 : ∀ w ∈ wsX10, w ∈ lw_tbl := fun w h => wsL_law_in w (inlX1 w h)
theorem inlX2 : ∀ w ∈ wsX20, w ∈ wsL_law := fun _ h => List.mem_append_left _ (List.mem_append_right _ h)
theorem inX2 : ∀ w ∈ wsX20, w ∈ lw_tbl := fun w h => wsL_law_in w (inlX2 w h)
theorem inlX3 : ∀ w ∈ wsX30, w ∈ wsL_law := fun _ h => List.mem_append_left _ (List.mem_append_left _ (List.mem_append_right _ h))
theorem inX3 : ∀ w ∈ wsX30, w ∈ lw_tbl := fun w h => wsL_law_in w (inlX3 w h)
theorem inlX4 : ∀ w ∈ wsX40, w ∈ wsL_law := fun _ h => List.mem_append_left _ (List.mem_append_left _ (List.mem_append_left _ (List.mem_append_left _ (List.mem_append_left _ (List.mem_append_left _ (List.mem_append_left _ (List.mem_append_right _ h)))))))
theorem inX4 : ∀ w ∈ wsX40, w ∈ lw_tbl := fun w h => wsL_law_in w (inlX4 w h)
theorem inlX5 : ∀ w ∈ wsX50, w ∈ wsL_law := fun _ h => List.mem_append_left _ (List.mem_append_left _ (List.mem_append_left _ (List.mem_append_left _ (List.mem_append_left _ (List.mem_append_left _ (List.mem_append_left _ (List.mem_append_left _ (List.mem_append_left _ (List.mem_append_left _ (List.mem_append_right _ h))))))))))
theorem inX5 : ∀ w ∈ wsX50, w ∈ lw_tbl := fun w h => wsL_law_in w (inlX5 w h)
theorem inlX6 : ∀ w ∈ wsX60, w ∈ wsL_law := fun _ h => List.mem_append_left _ (List.mem_append_left _ (List.mem_append_left _ (List.mem_append_left _ (List.mem_append_left _ (List.mem_append_right _ h)))))
theorem inX6 : ∀ w ∈ wsX60, w ∈ lw_tbl := fun w h => wsL_law_in w (inlX6 w h)
theorem inlX7 : ∀ w ∈ wsX70, w ∈ wsL_law := fun _ h => List.mem_append_left _ (List.mem_append_left _ (List.mem_append_left _ (List.mem_append_left _ (List.mem_append_left _ (List.mem_append_left _ (List.mem_append_left _ (List.mem_append_left _ (List.mem_append_right _ h))))))))
theorem inX7 : ∀ w ∈ wsX70, w ∈ lw_tbl := fun w h => wsL_law_in w (inlX7 w h)
theorem inlX8 : ∀ w ∈ wsX80, w ∈ wsL_law := fun _ h => List.mem_append_left _ (List.mem_append_left _ (List.mem_append_left _ (List.mem_append_left _ (List.mem_append_left _ (List.mem_append_left _ (List.mem_append_left _ (List.mem_append_left _ (List.mem_append_left _ (List.mem_append_right _ h)))))))))
theorem inX8 : ∀ w ∈ wsX80, w ∈ lw_tbl := fun w h => wsL_law_in w (inlX8 w h)
theorem inlX9 : ∀ w ∈ wsX90, w ∈ wsL_law := fun _ h => List.mem_append_left _ (List.mem_append_left _ (List.mem_append_left _ (List.mem_append_left _ (List.mem_append_right _ h))))
theorem inX9 : ∀ w ∈ wsX90, w ∈ lw_tbl := fun w h => wsL_law_in w (inlX9 w h)
theorem inlX10 : ∀ w ∈ wsX100, w ∈ wsL_law := fun _ h => List.mem_append_left _ (List.mem_append_left _ (List.mem_append_left _ (List.mem_append_left _ (List.mem_append_left _ (List.mem_append_left _ (List.mem_append_left _ (List.mem_append_left _ (List.mem_append_left _ (List.mem_append_left _ (List.mem_append_left _ (List.mem_append_left _ (List.mem_append_right _ h))))))))))))
theorem inX10 : ∀ w ∈ wsX100, w ∈ lw_tbl := fun w h => wsL_law_in w (inlX10 w h)
theorem inlX11 : ∀ w ∈ wsX110, w ∈ wsL_law := fun _ h => List.mem_append_left _ (List.mem_append_left _ (List.mem_append_left _ (List.mem_append_left _ (List.mem_append_left _ (List.mem_append_left _ (List.mem_append_left _ (List.mem_append_left _ (List.mem_append_left _ (List.mem_append_left _ (List.mem_append_left _ (List.mem_append_right _ h)))))))))))
theorem inX11 : ∀ w ∈ wsX110, w ∈ lw_tbl := fun w h => wsL_law_in w (inlX11 w h)


set_option maxHeartbeats 4000000 in
set_option maxRecDepth 100000 in
theorem st_of {b : Nat} {s : State} {A : Nat → Prop} (hts : ∀ w ∈ lw_tbl, w.before #[Value.ref b] s = true) (hgv : (Jvm.Cond.and given_1 narrow_1).before #[Value.ref b] s = true) (hAn : ∀ a : Nat, a < s.heap.size → ¬ A a) : ∃ tL tS : Nat, stZ A tL tS s s.heap := by
  have hs := flat_of_before _ hgv
  obtain ⟨tL, eL, TL⟩ := va_Tof (tm := (.static "ShipOffice" "LETTERS" "[C")) (ty := .char) (N := 8) (f := fun j => .int (([119, 114, 97, 100, 110, 115, 108, 120] : List Int32).getD j 0)) (A := A) (by decide +kernel) (hs (.arrayOf (.static "ShipOffice" "LETTERS" "[C") .char) (by decide +kernel)) (va_eqt (hs (.eq (.length (.static "ShipOffice" "LETTERS" "[C")) (.int 8)) (by decide +kernel))) (fun j hj => by
    rcases (show j = 0 ∨ j = 1 ∨ j = 2 ∨ j = 3 ∨ j = 4 ∨ j = 5 ∨ j = 6 ∨ j = 7 by omega) with rfl | rfl | rfl | rfl | rfl | rfl | rfl | rfl
    · exact va_eqt (hs (.eq (.elem (.static "ShipOffice" "LETTERS" "[C") (.int 0)) (.int 119)) (by decide +kernel))
    · exact va_eqt (hs (.eq (.elem (.static "ShipOffice" "LETTERS" "[C") (.int 1)) (.int 114)) (by decide +kernel))
    · exact va_eqt (hs (.eq (.elem (.static "ShipOffice" "LETTERS" "[C") (.int 2)) (.int 97)) (by decide +kernel))
    · exact va_eqt (hs (.eq (.elem (.static "ShipOffice" "LETTERS" "[C") (.int 3)) (.int 100)) (by decide +kernel))
    · exact va_eqt (hs (.eq (.elem (.static "ShipOffice" "LETTERS" "[C") (.int 4)) (.int 110)) (by decide +kernel))
    · exact va_eqt (hs (.eq (.elem (.static "ShipOffice" "LETTERS" "[C") (.int 5)) (.int 115)) (by decide +kernel))
    · exact va_eqt (hs (.eq (.elem (.static "ShipOffice" "LETTERS" "[C") (.int 6)) (.int 108)) (by decide +kernel))
    · exact va_eqt (hs (.eq (.elem (.static "ShipOffice" "LETTERS" "[C") (.int 7)) (.int 120)) (by decide +kernel))) hAn
  obtain ⟨tS, eS, TS⟩ := va_Tof (tm := (.static "ShipOffice$Hiring" "STEP" "[I")) (ty := .int) (N := 4) (f := fun j => .int (([1, 3, 9, 27] : List Int32).getD j 0)) (A := A) (by decide +kernel) (hs (.arrayOf (.static "ShipOffice$Hiring" "STEP" "[I") .int) (by decide +kernel)) (va_eqt (hs (.eq (.length (.static "ShipOffice$Hiring" "STEP" "[I")) (.int 4)) (by decide +kernel))) (fun j hj => by
    rcases (show j = 0 ∨ j = 1 ∨ j = 2 ∨ j = 3 by omega) with rfl | rfl | rfl | rfl
    · exact va_eqt (hs (.eq (.elem (.static "ShipOffice$Hiring" "STEP" "[I") (.int 0)) (.int 1)) (by decide +kernel))
    · exact va_eqt (hs (.eq (.elem (.static "ShipOffice$Hiring" "STEP" "[I") (.int 1)) (.int 3)) (by decide +kernel))
    · exact va_eqt (hs (.eq (.elem (.static "ShipOffice$Hiring" "STEP" "[I") (.int 2)) (.int 9)) (by decide +kernel))
    · exact va_eqt (hs (.eq (.elem (.static "ShipOffice$Hiring" "STEP" "[I") (.int 3)) (.int 27)) (by decide +kernel))) hAn
  exact ⟨tL, tS, va_Zref (hts (.laysStatic "ShipOffice" "LETTERS" "[C") (by decide +kernel)) (hts (.initialized "ShipOffice") (by decide +kernel)) eL hAn, TL, va_Zref (hts (.laysStatic "ShipOffice$Hiring" "STEP" "[I") (by decide +kernel)) (hts (.initialized "ShipOffice$Hiring") (by decide +kernel)) eS hAn, TS, va_Nw.of rfl (hts (.fieldLinkNest "ShipOffice$Act" 23 "ShipOffice" "LETTERS" "[C" "ShipOffice") (by decide +kernel)), va_Nw.of rfl (hts (.fieldLinkNest "ShipOffice$Tape" 67 "ShipOffice" "LETTERS" "[C" "ShipOffice") (by decide +kernel)), va_AO.of (hts (.arrayOver (.object "ShipOffice$Act")) (by decide +kernel)), va_AO.of (hts (.arrayOver (.object "ShipOffice$Man")) (by decide +kernel)), va_AO.of (hts (.arrayOver (.object "ShipOffice$Voyage")) (by decide +kernel)), va_AO.of (hts (.arrayOver (.object "ShipOffice$Agreement")) (by decide +kernel))⟩
set_option maxHeartbeats 4000000 in
set_option maxRecDepth 100000 in
theorem kn_of {b : Nat} {s : State} (hts : ∀ w ∈ lw_tbl, w.before #[Value.ref b] s = true) : ∃ (dC : Nat → ClassId) (dI : Nat → Nat → Nat), ∀ (k : Nat) (q : vw_C), vwCl[k]? = some q → u_Kn s q.1 q.2.1 q.2.2 (dC k) (dI k) := by
  obtain ⟨c0, iS0, hKn0⟩ := u_known (C := RX0) (T := TX0) (N := 5) (n := 5) hts inX0 (hts (.instantiable RX0 5) (by decide +kernel))
  obtain ⟨c1, iS1, hKn1⟩ := u_known (C := RX1) (T := TX1) (N := 18) (n := 18) hts inX1 (hts (.instantiable RX1 18) (by decide +kernel))
  obtain ⟨c2, iS2, hKn2⟩ := u_known (C := RX2) (T := TX2) (N := 3) (n := 3) hts inX2 (hts (.instantiable RX2 3) (by decide +kernel))
  obtain ⟨c3, iS3, hKn3⟩ := u_known (C := RX3) (T := TX3) (N := 6) (n := 6) hts inX3 (hts (.instantiable RX3 6) (by decide +kernel))
  obtain ⟨c4, iS4, hKn4⟩ := u_known (C := RX4) (T := TX4) (N := 6) (n := 6) hts inX4 (hts (.instantiable RX4 6) (by decide +kernel))
  obtain ⟨c5, iS5, hKn5⟩ := u_known (C := RX5) (T := TX5) (N := 3) (n := 3) hts inX5 (hts (.instantiable RX5 3) (by decide +kernel))
  obtain ⟨c6, iS6, hKn6⟩ := u_known (C := RX6) (T := TX6) (N := 6) (n := 6) hts inX6 (hts (.instantiable RX6 6) (by decide +kernel))
  obtain ⟨c7, iS7, hKn7⟩ := u_known (C := RX7) (T := TX7) (N := 2) (n := 2) hts inX7 (hts (.instantiable RX7 2) (by decide +kernel))
  obtain ⟨c8, iS8, hKn8⟩ := u_known (C := RX8) (T := TX8) (N := 6) (n := 6) hts inX8 (hts (.instantiable RX8 6) (by decide +kernel))
  obtain ⟨c9, iS9, hKn9⟩ := u_known (C := RX9) (T := TX9) (N := 10) (n := 10) hts inX9 (hts (.instantiable RX9 10) (by decide +kernel))
  obtain ⟨c10, iS10, hKn10⟩ := u_known (C := RX10) (T := TX10) (N := 16) (n := 16) hts inX10 (hts (.instantiable RX10 16) (by decide +kernel))
  obtain ⟨c11, iS11, hKn11⟩ := u_known (C := RX11) (T := TX11) (N := 63) (n := 63) hts inX11 (hts (.instantiable RX11 63) (by decide +kernel))
  refine ⟨fun k => if k = 0 then c0 else if k = 1 then c1 else if k = 2 then c2 else if k = 3 then c3 else if k = 4 then c4 else if k = 5 then c5 else if k = 6 then c6 else if k = 7 then c7 else if k = 8 then c8 else if k = 9 then c9 else if k = 10 then c10 else c11, fun k => if k = 0 then iS0 else if k = 1 then iS1 else if k = 2 then iS2 else if k = 3 then iS3 else if k = 4 then iS4 else if k = 5 then iS5 else if k = 6 then iS6 else if k = 7 then iS7 else if k = 8 then iS8 else if k = 9 then iS9 else if k = 10 then iS10 else iS11, ?_⟩
  intro k q hq
  match k, hq with
  | 0, hq => cases hq; exact hKn0
  | 1, hq => cases hq; exact hKn1
  | 2, hq => cases hq; exact hKn2
  | 3, hq => cases hq; exact hKn3
  | 4, hq => cases hq; exact hKn4
  | 5, hq => cases hq; exact hKn5
  | 6, hq => cases hq; exact hKn6
  | 7, hq => cases hq; exact hKn7
  | 8, hq => cases hq; exact hKn8
  | 9, hq => cases hq; exact hKn9
  | 10, hq => cases hq; exact hKn10
  | 11, hq => cases hq; exact hKn11
  | k + 12, hq => simp [vwCl] at hq
set_option maxHeartbeats 4000000 in
set_option maxRecDepth 100000 in
theorem st_ofO {b : Nat} {s : State} {A : Nat → Prop} (hts : ∀ w ∈ lw_tbl, w.before #[Value.ref b] s = true) (hgv : (Jvm.Cond.and given_1 narrow_1).before #[Value.ref b] s = true) (hAn : ∀ a : Nat, a < s.heap.size → ¬ A a) : ∃ tL tS tG : Nat, stO A tL tS tG s s.heap := by
  have hs := flat_of_before _ hgv
  obtain ⟨tL, tS, h0⟩ := st_of hts hgv hAn
  obtain ⟨tG, eG, TG⟩ := va_Tof (tm := (.static "ShipOffice$Act" "SIGNS" "[C")) (ty := .char) (N := 7) (f := fun j => .int (([43, 45, 42, 47, 60, 61, 62] : List Int32).getD j 0)) (A := A) (by decide +kernel) (hs (.arrayOf (.static "ShipOffice$Act" "SIGNS" "[C") .char) (by decide +kernel)) (va_eqt (hs (.eq (.length (.static "ShipOffice$Act" "SIGNS" "[C")) (.int 7)) (by decide +kernel))) (fun j hj => by
    rcases (show j = 0 ∨ j = 1 ∨ j = 2 ∨ j = 3 ∨ j = 4 ∨ j = 5 ∨ j = 6 by omega) with rfl | rfl | rfl | rfl | rfl | rfl | rfl
    · exact va_eqt (hs (.eq (.elem (.static "ShipOffice$Act" "SIGNS" "[C") (.int 0)) (.int 43)) (by decide +kernel))
    · exact va_eqt (hs (.eq (.elem (.static "ShipOffice$Act" "SIGNS" "[C") (.int 1)) (.int 45)) (by decide +kernel))
    · exact va_eqt (hs (.eq (.elem (.static "ShipOffice$Act" "SIGNS" "[C") (.int 2)) (.int 42)) (by decide +kernel))
    · exact va_eqt (hs (.eq (.elem (.static "ShipOffice$Act" "SIGNS" "[C") (.int 3)) (.int 47)) (by decide +kernel))
    · exact va_eqt (hs (.eq (.elem (.static "ShipOffice$Act" "SIGNS" "[C") (.int 4)) (.int 60)) (by decide +kernel))
    · exact va_eqt (hs (.eq (.elem (.static "ShipOffice$Act" "SIGNS" "[C") (.int 5)) (.int 61)) (by decide +kernel))
    · exact va_eqt (hs (.eq (.elem (.static "ShipOffice$Act" "SIGNS" "[C") (.int 6)) (.int 62)) (by decide +kernel))) hAn
  exact ⟨tL, tS, tG, h0, va_Zref (hts (.laysStatic "ShipOffice$Act" "SIGNS" "[C") (by decide +kernel)) (hts (.initialized "ShipOffice$Act") (by decide +kernel)) eG hAn, TG, va_AO.of (hts (.arrayOver (.object "ShipOffice$Fine")) (by decide +kernel)), va_Nw.of rfl (hts (.castable "[I" "java/lang/Cloneable") (by decide +kernel))⟩
def oS0 : oS := ([], fun _ => 0, fun _ _ => 0, fun _ _ => 0, fun _ _ => none, fun _ => 0)
theorem oI_S0 : oInv oS0 := ⟨fun a i b h => (by cases h), fun a h => (by cases h), fun a h => (by cases h), fun a h => (by cases h), fun a i => iv_0 0 i, fun a b h => (by cases h), fun a h => (by cases h)⟩
theorem vP_l {D : va_G} {w1 w2 : va_W} {H : Heap} (h : va_P D vwCl (w1 ++ w2) H) : va_P D vwCl w1 H := fun k q hk => h k q (by rw [List.getElem?_append_left (List.getElem?_eq_some_iff.mp hk).1]; exact hk)
theorem vP_r {D : va_G} {w1 : va_W} {x : Nat × va_E} {H : Heap} (h : va_P D vwCl (w1 ++ [x]) H) : va_P D vwCl [x] H := fun k q hk => by
  have hl : k < 1 := (List.getElem?_eq_some_iff.mp hk).1
  rw [show k = 0 by omega] at hk
  cases hk
  exact h w1.length x (by rw [List.getElem?_append_right (Nat.le_refl _), Nat.sub_self]; rfl)
theorem vD_r {A : Nat → Prop} {w1 : va_W} {x : Nat × va_E} (h : va_D A (w1 ++ [x])) : va_D A [x] := by
  refine ⟨fun i j p q hi hj e => ?_, fun k q hk => ?_⟩
  · have h1 : i < 1 := (List.getElem?_eq_some_iff.mp hi).1
    have h2 : j < 1 := (List.getElem?_eq_some_iff.mp hj).1
    omega
  · have hl : k < 1 := (List.getElem?_eq_some_iff.mp hk).1
    rw [show k = 0 by omega] at hk
    cases hk
    exact h.2 w1.length x (by rw [List.getElem?_append_right (Nat.le_refl _), Nat.sub_self]; rfl)
/-- both are made -/
theorem lwH_st {D : va_G} {A : Nat → Prop} {cq cp : Nat → ClassId} {g0 : Nat} {pq : Nat → Nat} {S : oS} {v : Nat → Int32} {fa : Nat → Nat → Int32} {x : va_E} {H H1 : Heap} (hPo : va_P D vwCl (oW cq S) H) (hDo : va_D A (oW cq S)) (hg : g0 ∉ oL S) (hF : ∀ q, va_A [(g0, x)] H.size q → A q) (hk : ∀ q : Nat, q < H.size → ¬ va_A [(g0, x)] H.size q → H1[q]? = H[q]?) (hP : va_P D vwCl (mW g0 pq cp v fa) H1) (hD : va_D (va_A [(g0, x)] H.size) (mW g0 pq cp v fa)) : lwH D A cq cp g0 pq S v fa H1 := by
  have key : ∀ a, a ∈ oL S → ¬ va_A [(g0, x)] H.size a := fun a ha q => by
    obtain ⟨k, hk⟩ := va_pl_get (X := []) (f := oE cq S) ha
    have hlt : a < H.size := (hPo k _ hk).lt
    rcases q with ⟨j, e, hj⟩ | q
    · have hl : j < 1 := (List.getElem?_eq_some_iff.mp hj).1
      rw [show j = 0 by omega] at hj
      cases hj
      exact hg ha
    · omega
  refine ⟨hPo.kept (fun k y hy => hk y.1 (hPo k y hy).lt (key _ (oW_mem hy))), hDo, hP, hD.weaken (fun _ _ _ g => hF _ g), fun a ha hm => ?_⟩
  have e : mAd g0 pq = (mW g0 pq cp v fa).map (fun y => y.1) := rfl
  rw [e] at hm
  obtain ⟨y, hy, rfl⟩ := List.mem_map.mp hm
  obtain ⟨k, hk2⟩ := List.getElem?_of_mem hy
  exact key _ ha (hD.2 k y hk2)
theorem mV_0 : mV (fun _ => 0) := by
  intro i
  show vLo i ≤ 0 ∧ 0 ≤ vHi i
  refine ⟨?_, ?_⟩
  · unfold vLo; split <;> decide
  · unfold vHi; split <;> decide
theorem mA_0 : mA (fun _ _ => 0) := by
  intro k j
  show aLo k ≤ 0 ∧ 0 ≤ aHi k
  refine ⟨?_, ?_⟩
  · unfold aLo; split <;> decide
  · unfold aHi; split <;> decide
