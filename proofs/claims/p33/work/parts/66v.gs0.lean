

section
variable {n M h i j : Nat} {v z z2 : Nat → Int32} {fa fz fy f2 : Nat → Nat → Int32} {L : Int} {x x2 x3 y3 : Int32}
theorem csB_u {k j : Nat} {x : Int32} (hk : 57 ≠ k) : csB (upF fz k j x) = csB fz := by
  unfold csB
  rw [show upF fz k j x 57 = fz 57 from if_neg hk]
theorem csT_h : csT (upF fz 56 j x) j = x.toNatClampNeg := by
  unfold csT
  rw [show upF fz 56 j x 56 = upd (fz 56) j x from if_pos rfl, upd_eq]
/-- what the next place's search begins with -/
theorem ch_pre (hC : CS n M v fa) (hsm : smC v fa z fz) (hhd : hdE h fa fz) (ef : fy = upF fz 56 j x) (hj : j = h) (hx : 0 ≤ x.toInt ∧ x.toInt < 12) (hi : x.toNatClampNeg < M) (hP : PR n M (csW fa) h (csT fa)) (hw : 0 < csW fa x.toNatClampNeg (rkp n h)) (hu : ¬ ubI x2 x) (hf : frs n h (csT fa) ≤ x.toNatClampNeg) (hS : x3.toInt = sw n (csW fa) (csT fa) h) (hy : y3.toInt = x3.toInt + csW fa x.toNatClampNeg (rkp n h)) (hus : ∀ y : Int32, 0 ≤ y.toInt → y.toInt < 12 → (ubI x2 y ↔ ∃ p, p < h ∧ csT fa p = y.toNatClampNeg)) (hR : RS n M (csW fa) (h + 1) (16 * pc (csT fa) h + x.toNatClampNeg) L (csB fz)) : smC v fa z fy ∧ hdE h fa fy ∧ CS n M z fy ∧ PR n M (csW fy) (h + 1) (csT fy) ∧ y3.toInt = sw n (csW fy) (csT fy) (h + 1) ∧ (∀ y : Int32, 0 ≤ y.toInt → y.toInt < 12 → (ubI (x2 ||| (1 <<< (x &&& 31))) y ↔ ∃ p, p < h + 1 ∧ csT fy p = y.toNatClampNeg)) ∧ pc (csT fy) (h + 1) = 16 * pc (csT fa) h + x.toNatClampNeg ∧ RS n M (csW fy) (h + 1) (pc (csT fy) (h + 1)) L (csB fy) := by
  subst hj
  have s1 : smC v fa z fy := by rw [ef]; exact smC.uF hsm (by decide) (by decide) (by decide)
  have d1 : hdE j fa fy := by rw [ef]; exact hdE.uF hhd (Or.inr (Nat.le_refl _))
  have tj : csT fy j = x.toNatClampNeg := by rw [ef]; exact csT_h
  have te := csT_e d1
  have we := csW_e s1
  have pe : pc (csT fy) (j + 1) = 16 * pc (csT fa) j + x.toNatClampNeg := by rw [pc_s, pc_c te, tj]
  have nu : ¬ ∃ p, p < j ∧ csT fa p = x.toNatClampNeg := fun q => hu ((hus x hx.1 hx.2).mpr q)
  refine ⟨s1, d1, CS_s s1 hC, ?_, ?_, fun y h0 h1 => ?_, pe, ?_⟩
  · rw [we]
    exact PR_s hP te tj hi hw nu hf
  · show _ = sw n (csW fy) (csT fy) j + csW fy (csT fy j) (rkp n j)
    rw [we, tj, sw_c te, hy, hS]
  · rw [ub_s h0 h1 hx.1 hx.2, hus y h0 h1]
    constructor
    · rintro (⟨p, p1, p2⟩ | q)
      · exact ⟨p, by omega, by rw [te p p1]; exact p2⟩
      · exact ⟨j, by omega, by rw [tj, q]⟩
    · rintro ⟨p, p1, p2⟩
      by_cases c : p = j
      · rw [c, tj] at p2
        exact Or.inr p2.symm
      · rw [te p (by omega)] at p2
        exact Or.inl ⟨p, by omega, p2⟩
  · rw [we, pe, ef, csB_u (by decide)]
    exact hR
/-- what it leaves -/
theorem ch_post (s1 : smC v fa z fy) (d1 : hdE h fa fy) (pe : pc (csT fy) (h + 1) = 16 * pc (csT fa) h + i) (s2 : smC z fy z2 f2) (d2 : hdE (h + 1) fy f2) (hR : RS n M (csW fy) (h + 1) (pc (csT fy) (h + 1) + 1) L (csB f2)) : smC v fa z2 f2 ∧ hdE h fa f2 ∧ RS n M (csW fa) (h + 1) (16 * pc (csT fa) h + (i + 1)) L (csB f2) := by
  refine ⟨s1.tr s2, d1.tr (d2.le (Nat.le_succ h)), ?_⟩
  rw [csW_e s1, pe] at hR
  exact hR
theorem frs_M {W : Nat → Nat → Int} {t : Nat → Nat} (ht : PR n M W h t) : frs n h t ≤ M := by
  unfold frs
  split
  · rename_i c
    have := (ht.1 (h - 1) (by omega)).1
    omega
  · exact Nat.zero_le _
theorem cb_s {k k1 : Int32} (hb : ∀ p, p < k.toNatClampNeg → csB fz p = csT fa p) (ef : fy = upF fz 57 k.toNatClampNeg x) (hx : x.toInt = (fz 56 k.toNatClampNeg).toInt) (hd : hdE h fa fz) (hk : k.toNatClampNeg < h) (h0 : 0 ≤ k.toInt) (e : k1.toInt = k.toInt + 1) : ∀ p, p < k1.toNatClampNeg → csB fy p = csT fa p := by
  refine al_s (fun p hp => ?_) ?_ e h0
  · rw [ef]
    unfold csB
    rw [show upF fz 57 k.toNatClampNeg x 57 = upd (fz 57) k.toNatClampNeg x from if_pos rfl, upd_ne (by omega)]
    exact hb p hp
  · rw [ef]
    unfold csB csT
    rw [show upF fz 57 k.toNatClampNeg x 57 = upd (fz 57) k.toNatClampNeg x from if_pos rfl, upd_eq, cn_c hx, hd _ hk]
end
set_option maxHeartbeats 4000000 in
set_option maxRecDepth 100000 in
theorem c_X11_chooses_8w (l : Launch) (dC : Nat → ClassId) (dI : Nat → Nat → Nat) (sz : Nat) (g0 : Nat) (pq : Nat → Nat) (cp : Nat → ClassId) (v : Nat → Int32) (fa : Nat → Nat → Int32) (gV : mV v) (gA : mA fa) (x1 : Int32) (hx1 : 8 ≤ x1.toInt ∧ x1.toInt ≤ 8) (x2 : Int32) (x3 : Int32) (hx3 : 0 ≤ x3.toInt ∧ x3.toInt ≤ 80000) (hh : x1.toInt ≤ (v 59).toInt) (nG MG : Nat) (hCS : CS nG MG v fa) (hPR : PR nG MG (csW fa) 8 (csT fa)) (hsm : x3.toInt = sw nG (csW fa) (csT fa) 8) (hus : ∀ y : Int32, 0 ≤ y.toInt → y.toInt < 12 → (ubI x2 y ↔ ∃ p, p < 8 ∧ csT fa p = y.toNatClampNeg)) (hRS : RS nG MG (csW fa) 8 (pc (csT fa) 8) (v 60).toInt (csB fa)) : Met l yX11_chooses wsX11_chooses ({ frames := 0, cells := 0, slots := 0, locals := 0 }) (va_Pc [.ref g0, .int x1, .int x2, .int x3] (pcW (dC, dI) (mT cp) (mW g0 pq cp v fa) sz)) (va_Qv (fun (u : (Nat → Int32) × (Nat → Nat → Int32)) => mV u.1 ∧ mA u.2 ∧ scr v fa u.1 u.2 ∧ (smC v fa u.1 u.2 ∧ hdE 8 fa u.2 ∧ RS nG MG (csW fa) 8 (pc (csT fa) 8 + 1) (u.1 60).toInt (csB u.2))) (fun u t => va_P (dC, dI) vwCl (mW g0 pq cp u.1 u.2) t.heap ∧ va_K (dC, dI) vwCl (mT cp) t ∧ va_D (va_A (mW g0 pq cp v fa) sz) (mW g0 pq cp u.1 u.2)) (va_A (mW g0 pq cp v fa) sz)) 0 0 (va_A (mW g0 pq cp v fa) sz) := by
  refine Met.ofW (cc := cX11_chooses) (maxL := 7) (ret := none) (by decide) rfl ?_
  intro p e s m args below meth c s₁ B hml hv
  obtain ⟨rfl, hsz, hP, hK, hD0⟩ := hv
  have hx := B.exec
  have hb := B.bytes
  have hr := B.returns
  have hts := atoms_spec (ws := wsX11_chooses) B.pre
  have hown : s.vm.findClass RX11 = some m.cls := findClass_of_methodNamed B.named
  have hlocks := B.notSynchronized
  subst hsz
  have hD := hD0.self (sz := s.heap.size)
  generalize hAe : va_A (mW g0 pq cp v fa) s.heap.size = A at hD ⊢
  have hA : ∀ q : Nat, s.heap.size ≤ q → A q := fun q h => by rw [← hAe]; exact Or.inr h
  have hS : va_S A s.heap s.heap [] := va_S.rf
  have hP : va_P (dC, dI) vwCl (mW g0 pq cp v fa) s.heap := hP
  have hl := lv_entry ([.ref g0, .int x1, .int x2, .int x3]) (n := 7) (Nat.le_of_ble_eq_true rfl)
  rw [lg_entry_eq]
  generalize (lg_sl ([.ref g0, .int x1, .int x2, .int x3]) ++ List.replicate (7 - (lg_sl ([.ref g0, .int x1, .int x2, .int x3])).length) Slot.unset).toArray = ls at hl ⊢
  have hl : lv_has ls 7 [(0, .ref g0), (1, .int x1), (2, .int x2), (3, .int x3)] := hl
  have iv_1 : 0 ≤ (v 58).toInt ∧ (v 58).toInt ≤ 12 := gV 58
  have iv_2 : 0 ≤ (v 59).toInt ∧ (v 59).toInt ≤ 8 := gV 59
  refine lv_aload_n hx hb dX11_chooses_0 rfl (lv_at hl 0 rfl) ?_
  refine va_get (D := (dC, dI)) (ci := 11) (v := .int (v 60)) (C := RX11) (T := TX11) (N := 63) hx hb hts in_wsX11_chooses_X11 hown hK hP 0 rfl rfl 60 (by decide) (hts (.fieldLink RX11 338 "ShipOfficeModel" "least" "I") iw_X11_chooses_1) (fun _ h9 => h9) rfl dX11_chooses_1 ?_
  refine lv_topi (fun x_3 ex_3 => ?_)
  have gx_3 : x_3.toInt = (v 60).toInt := iv_to ex_3
  clear ex_3
  refine lv_if_lt (tgt := 16) hx hb dX11_chooses_4 (by decide) (fun c_4 => ?_) (fun c_4 => ?_)
  · have dc_4 := c_lt (a := x_3.toInt) (b := 0) rfl (by decide) c_4
    refine lv_iload_n hx hb dX11_chooses_16 rfl (lv_at hl 1 rfl) ?_
    refine lv_aload_n hx hb dX11_chooses_17 rfl (lv_at hl 0 rfl) ?_
    refine va_get (D := (dC, dI)) (ci := 11) (v := .int (v 59)) (C := RX11) (T := TX11) (N := 63) hx hb hts in_wsX11_chooses_X11 hown hK hP 0 rfl rfl 59 (by decide) (hts (.fieldLink RX11 341 "ShipOfficeModel" "hands" "I") iw_X11_chooses_2) (fun _ h9 => h9) rfl dX11_chooses_18 ?_
    refine lv_topi (fun x_5 ex_5 => ?_)
    have hx_5 : 0 ≤ x_5.toInt ∧ x_5.toInt ≤ 8 := iv_of ex_5 (gV 59)
    have gx_5 : x_5.toInt = (v 59).toInt := iv_to ex_5
    clear ex_5
    refine lv_icmp_ne (tgt := 59) hx hb dX11_chooses_21 (by decide) (fun c_6 => ?_) (fun c_6 => ?_)
    · have dc_6 := c_ne (a := x1.toInt) (b := x_5.toInt) rfl rfl c_6
      exfalso; omega
    · have dc_6 := c_eq (a := x1.toInt) (b := x_5.toInt) rfl rfl c_6
      refine lv_aload_n hx hb dX11_chooses_24 rfl (lv_at hl 0 rfl) ?_
      refine lv_iload_n hx hb dX11_chooses_25 rfl (lv_at hl 3 rfl) ?_
      refine va_put (D := (dC, dI)) (ci := 11) (v := .int x3) (ty := .int) (C := RX11) (T := TX11) (N := 63) hx hb hts in_wsX11_chooses_X11 tyX11 tyX11_ok nmX11 hown hK hP hD hS 0 rfl rfl 60 (by decide) (hts (.fieldLink RX11 338 "ShipOfficeModel" "least" "I") iw_X11_chooses_1) (fun _ h9 => h9) rfl (by decide +kernel) rfl rfl (Nat.le_of_ble_eq_true rfl) dX11_chooses_26 (fun H locs hP hD hS => ?_)
      have hP : va_P (dC, dI) vwCl (mW g0 pq cp (upd v 60 x3) fa) H := hP
      have hD : va_D A (mW g0 pq cp (upd v 60 x3) fa) := hD
      obtain ⟨z_7, ez_7⟩ : ∃ zq, zq = (upd v 60 x3) := ⟨_, rfl⟩
      rw [← ez_7] at hP hD
      have hVz_7 : mV z_7 := by rw [ez_7]; exact mV_upd (lo := -2147483648) (hi := 2147483647) gV rfl rfl (iv_all _)
      have hRz_7 : scr v fa z_7 fa := by rw [ez_7]; exact scr.up scr.rf rfl
      have g_8 : (z_7 58).toInt = (v 58).toInt := by rw [ez_7]; exact congrArg Int32.toInt (if_neg (by decide))
      have g_9 : (z_7 59).toInt = (v 59).toInt := by rw [ez_7]; exact congrArg Int32.toInt (if_neg (by decide))
      have g_10 : (z_7 60).toInt = x3.toInt := by rw [ez_7, show upd v 60 x3 60 = x3 from if_pos rfl]
      have sm_11 : smC v fa z_7 fa := by rw [ez_7]; exact smC.up smC.rf (by decide) (by decide)
      refine lv_iconst (v := 0) hx hb dX11_chooses_29 (by decide) ?_
      refine lv_istore (lv' := [(4, .int 0), (0, .ref g0), (1, .int x1), (2, .int x2), (3, .int x3)]) hx hb dX11_chooses_30 hl (by decide) rfl (fun ls hl => ?_)
      have cut_12 : ∀ (n : Nat) (y_13 : Int32) (z_14 : Nat → Int32) (fz_15 : Nat → Nat → Int32) (H : Heap) (locs : List Loc) (ls : Array Slot), 8 - y_13.toInt ≤ (n : Int) → (0 ≤ y_13.toInt ∧ y_13.toInt ≤ 8) → smC v fa z_14 fz_15 → hdE 8 fa fz_15 → (∀ p, p < y_13.toNatClampNeg → csB fz_15 p = csT fa p) → mV z_14 → mA fz_15 → scr v fa z_14 fz_15 → va_P (dC, dI) vwCl (mW g0 pq cp z_14 fz_15) H → va_D A (mW g0 pq cp z_14 fz_15) → va_S A s.heap H locs → (z_14 58).toInt = (z_7 58).toInt → (z_14 59).toInt = (z_7 59).toInt → (z_14 60).toInt = (z_7 60).toInt → lv_has ls 7 [(4, .int y_13), (0, .ref g0), (1, .int x1), (2, .int x2), (3, .int x3)] → W p l e (headSpec wsX11_chooses { frames := 0, cells := 0, slots := 0, locals := 0 }).room s m #[Value.ref g0, Value.int x1, Value.int x2, Value.int x3] below meth c H locs 0 0 (MQ below (va_Qv (fun (u : (Nat → Int32) × (Nat → Nat → Int32)) => mV u.1 ∧ mA u.2 ∧ scr v fa u.1 u.2 ∧ (smC v fa u.1 u.2 ∧ hdE 8 fa u.2 ∧ RS nG MG (csW fa) 8 (pc (csT fa) 8 + 1) (u.1 60).toInt (csB u.2))) (fun u t => va_P (dC, dI) vwCl (mW g0 pq cp u.1 u.2) t.heap ∧ va_K (dC, dI) vwCl (mT cp) t ∧ va_D A (mW g0 pq cp u.1 u.2)) A) #[Value.ref g0, Value.int x1, Value.int x2, Value.int x3] s 0 0 A) (F0 m 32 ls []) := by
        intro n
        induction n using Nat.strongRecOn with
        | ind n ih =>
          intro y_13 z_14 fz_15 H locs ls hm hy_13 hq0_cut_12 hq1_cut_12 hq2_cut_12 hVz_14 hAz_14 hRz_14 hP hD hS g_16 g_17 g_18 hl
          have gm_19 := congrArg Int32.toInt hq0_cut_12.2.1
          have gm_20 := congrArg Int32.toInt hq0_cut_12.1
          refine lv_iload hx hb dX11_chooses_32 (lv_at hl 0 rfl) ?_
          refine lv_iload_n hx hb dX11_chooses_34 rfl (lv_at hl 2 rfl) ?_
          refine lv_icmp_ge (tgt := 58) hx hb dX11_chooses_35 (by decide) (fun c_21 => ?_) (fun c_21 => ?_)
          · have dc_21 := c_le (a := x1.toInt) (b := y_13.toInt) rfl rfl c_21
            exact W.vret hx hb hr (fun t ht hW => ⟨⟨(z_14, fz_15), rfl, ⟨hVz_14, hAz_14, hRz_14, ⟨hq0_cut_12, hq1_cut_12, RS_lf (show 8 = hnd nG by have q := hCS.1; omega) hPR (fun p hp => hq2_cut_12 p (show p < y_13.toInt.toNat by omega)) (by omega) (by dsimp only; omega) (sw_b (n := nG) (W := csW fa) (t := csT fa) (h := 8) (fun p hp => ⟨(hPR.1 p hp).2, (csW_b hCS _ _).2⟩)).1 hCS.2.2.1 hRS⟩⟩, ⟨by rw [ht]; exact hP, va_K.moved hW.alike hK, hD⟩⟩, hS.F ht⟩) hS.2.2 dX11_chooses_58
          · have dc_21 := c_nle (a := x1.toInt) (b := y_13.toInt) rfl rfl c_21
            refine lv_aload_n hx hb dX11_chooses_38 rfl (lv_at hl 1 rfl) ?_
            refine va_get (D := (dC, dI)) (ci := 11) (v := .ref (pq 57)) (C := RX11) (T := TX11) (N := 63) hx hb hts in_wsX11_chooses_X11 hown hK hP 0 rfl rfl 57 (by decide) (hts (.fieldLink RX11 146 "ShipOfficeModel" "best" "[I") iw_X11_chooses_3) (fun _ h9 => h9) rfl dX11_chooses_39 ?_
            refine lv_iload hx hb dX11_chooses_42 (lv_at hl 0 rfl) ?_
            refine lv_aload_n hx hb dX11_chooses_44 rfl (lv_at hl 1 rfl) ?_
            refine va_get (D := (dC, dI)) (ci := 11) (v := .ref (pq 56)) (C := RX11) (T := TX11) (N := 63) hx hb hts in_wsX11_chooses_X11 hown hK hP 0 rfl rfl 56 (by decide) (hts (.fieldLink RX11 143 "ShipOfficeModel" "hand" "[I") iw_X11_chooses_4) (fun _ h9 => h9) rfl dX11_chooses_45 ?_
            refine lv_iload hx hb dX11_chooses_48 (lv_at hl 0 rfl) ?_
            refine va_iald hx hb hK hP 45 44 rfl rfl (vp_in_iff.mpr (by omega)) dX11_chooses_50 ?_
            refine lv_topi (fun x_22 ex_22 => ?_)
            have hx_22 : 0 ≤ x_22.toInt ∧ x_22.toInt ≤ 11 := iv_of ex_22 (hAz_14 56 _)
            have gx_22 : x_22.toInt = (fz_15 56 (y_13 : Int32).toNatClampNeg).toInt := iv_to ex_22
            clear ex_22
            refine va_iast hx hb hK hP hD hS 46 45 rfl rfl (vp_in_iff.mpr (by omega)) dX11_chooses_51 (fun H locs hP hD hS => ?_)
            have hP : va_P (dC, dI) vwCl (mW g0 pq cp z_14 (upF fz_15 57 (y_13 : Int32).toNatClampNeg x_22)) H := hP
            have hD : va_D A (mW g0 pq cp z_14 (upF fz_15 57 (y_13 : Int32).toNatClampNeg x_22)) := hD
            obtain ⟨fz_23, efz_23⟩ : ∃ zq, zq = (upF fz_15 57 (y_13 : Int32).toNatClampNeg x_22) := ⟨_, rfl⟩
            rw [← efz_23] at hP hD
            have hAfz_23 : mA fz_23 := by rw [efz_23]; exact mA_upF (lo := 0) (hi := 11) hAz_14 rfl rfl (by omega)
            have hRfz_23 : scr v fa z_14 fz_23 := by rw [efz_23]; exact scr.uF hRz_14 rfl
            have g_24 : (fz_23 56 (y_13 : Int32).toNatClampNeg).toInt = (fz_15 56 (y_13 : Int32).toNatClampNeg).toInt := by rw [efz_23]; exact uF_ne (by decide)
            have q0_25 : fz_23 0 = fa 0 := by rw [efz_23]; exact (if_neg (by decide)).trans (hRz_14.2 0 rfl)
            have sm_26 : smC v fa z_14 fz_23 := by rw [efz_23]; exact smC.uF hq0_cut_12 (by decide) (by decide) (by decide)
            have hd_27 : hdE 8 fa fz_23 := by rw [efz_23]; exact hdE.uF hq1_cut_12 (Or.inl (by decide))
            obtain ⟨x_28, ex_28⟩ : ∃ zq : Int32, y_13 + 1 = zq := ⟨_, rfl⟩
            have hx_28 : x_28.toInt = y_13.toInt + 1 := (iv_to ex_28).symm.trans (ad_i rfl (by decide) (by omega) (by omega))
            refine lv_iinc (v := x_28) (lv' := [(4, .int x_28), (0, .ref g0), (1, .int x1), (2, .int x2), (3, .int x3)]) hx hb dX11_chooses_52 hl (k := 0) rfl ex_28 (by decide) rfl (fun ls hl => ?_)
            clear ex_28
            refine lv_goto (tgt := 32) hx hb dX11_chooses_55 (by decide) ?_
            exact ih (n - 1) (by omega) x_28 z_14 fz_23 _ _ ls (by omega) (by omega) sm_26 hd_27 (cb_s hq2_cut_12 efz_23 (by omega) hq1_cut_12 (show y_13.toInt.toNat < 8 by omega) (by omega) (by omega)) hVz_14 hAfz_23 hRfz_23 hP hD hS (by omega) (by omega) (by omega) (lv_sub hl [0, 1, 2, 3, 4] rfl)
      have kc_29 : (0 : Int32).toInt = 0 := by decide
      exact cut_12 9 0 z_7 fa _ _ ls (by omega) (by decide) sm_11 hdE.rf (al_0 (by decide)) hVz_7 gA hRz_7 hP hD hS (by omega) (by omega) (by omega) (lv_sub hl [0, 1, 2, 3, 4] rfl)
  · have dc_4 := c_nlt (a := x_3.toInt) (b := 0) rfl (by decide) c_4
    refine lv_iload_n hx hb dX11_chooses_7 rfl (lv_at hl 3 rfl) ?_
    refine lv_aload_n hx hb dX11_chooses_8 rfl (lv_at hl 0 rfl) ?_
    refine va_get (D := (dC, dI)) (ci := 11) (v := .int (v 60)) (C := RX11) (T := TX11) (N := 63) hx hb hts in_wsX11_chooses_X11 hown hK hP 0 rfl rfl 60 (by decide) (hts (.fieldLink RX11 338 "ShipOfficeModel" "least" "I") iw_X11_chooses_1) (fun _ h9 => h9) rfl dX11_chooses_9 ?_
    refine lv_topi (fun x_30 ex_30 => ?_)
    have gx_30 : x_30.toInt = (v 60).toInt := iv_to ex_30
    clear ex_30
    refine lv_icmp_lt (tgt := 16) hx hb dX11_chooses_12 (by decide) (fun c_31 => ?_) (fun c_31 => ?_)
    · have dc_31 := c_lt (a := x3.toInt) (b := x_30.toInt) rfl rfl c_31
      refine lv_iload_n hx hb dX11_chooses_16 rfl (lv_at hl 1 rfl) ?_
      refine lv_aload_n hx hb dX11_chooses_17 rfl (lv_at hl 0 rfl) ?_
      refine va_get (D := (dC, dI)) (ci := 11) (v := .int (v 59)) (C := RX11) (T := TX11) (N := 63) hx hb hts in_wsX11_chooses_X11 hown hK hP 0 rfl rfl 59 (by decide) (hts (.fieldLink RX11 341 "ShipOfficeModel" "hands" "I") iw_X11_chooses_2) (fun _ h9 => h9) rfl dX11_chooses_18 ?_
      refine lv_topi (fun x_32 ex_32 => ?_)
      have hx_32 : 0 ≤ x_32.toInt ∧ x_32.toInt ≤ 8 := iv_of ex_32 (gV 59)
      have gx_32 : x_32.toInt = (v 59).toInt := iv_to ex_32
      clear ex_32
      refine lv_icmp_ne (tgt := 59) hx hb dX11_chooses_21 (by decide) (fun c_33 => ?_) (fun c_33 => ?_)
      · have dc_33 := c_ne (a := x1.toInt) (b := x_32.toInt) rfl rfl c_33
        exfalso; omega
      · have dc_33 := c_eq (a := x1.toInt) (b := x_32.toInt) rfl rfl c_33
        refine lv_aload_n hx hb dX11_chooses_24 rfl (lv_at hl 0 rfl) ?_
        refine lv_iload_n hx hb dX11_chooses_25 rfl (lv_at hl 3 rfl) ?_
        refine va_put (D := (dC, dI)) (ci := 11) (v := .int x3) (ty := .int) (C := RX11) (T := TX11) (N := 63) hx hb hts in_wsX11_chooses_X11 tyX11 tyX11_ok nmX11 hown hK hP hD hS 0 rfl rfl 60 (by decide) (hts (.fieldLink RX11 338 "ShipOfficeModel" "least" "I") iw_X11_chooses_1) (fun _ h9 => h9) rfl (by decide +kernel) rfl rfl (Nat.le_of_ble_eq_true rfl) dX11_chooses_26 (fun H locs hP hD hS => ?_)
        have hP : va_P (dC, dI) vwCl (mW g0 pq cp (upd v 60 x3) fa) H := hP
        have hD : va_D A (mW g0 pq cp (upd v 60 x3) fa) := hD
        obtain ⟨z_34, ez_34⟩ : ∃ zq, zq = (upd v 60 x3) := ⟨_, rfl⟩
        rw [← ez_34] at hP hD
        have hVz_34 : mV z_34 := by rw [ez_34]; exact mV_upd (lo := -2147483648) (hi := 2147483647) gV rfl rfl (iv_all _)
        have hRz_34 : scr v fa z_34 fa := by rw [ez_34]; exact scr.up scr.rf rfl
        have g_35 : (z_34 58).toInt = (v 58).toInt := by rw [ez_34]; exact congrArg Int32.toInt (if_neg (by decide))
        have g_36 : (z_34 59).toInt = (v 59).toInt := by rw [ez_34]; exact congrArg Int32.toInt (if_neg (by decide))
        have g_37 : (z_34 60).toInt = x3.toInt := by rw [ez_34, show upd v 60 x3 60 = x3 from if_pos rfl]
        have sm_38 : smC v fa z_34 fa := by rw [ez_34]; exact smC.up smC.rf (by decide) (by decide)
        refine lv_iconst (v := 0) hx hb dX11_chooses_29 (by decide) ?_
        refine lv_istore (lv' := [(4, .int 0), (0, .ref g0), (1, .int x1), (2, .int x2), (3, .int x3)]) hx hb dX11_chooses_30 hl (by decide) rfl (fun ls hl => ?_)
        have cut_39 : ∀ (n : Nat) (y_40 : Int32) (z_41 : Nat → Int32) (fz_42 : Nat → Nat → Int32) (H : Heap) (locs : List Loc) (ls : Array Slot), 8 - y_40.toInt ≤ (n : Int) → (0 ≤ y_40.toInt ∧ y_40.toInt ≤ 8) → smC v fa z_41 fz_42 → hdE 8 fa fz_42 → (∀ p, p < y_40.toNatClampNeg → csB fz_42 p = csT fa p) → mV z_41 → mA fz_42 → scr v fa z_41 fz_42 → va_P (dC, dI) vwCl (mW g0 pq cp z_41 fz_42) H → va_D A (mW g0 pq cp z_41 fz_42) → va_S A s.heap H locs → (z_41 58).toInt = (z_34 58).toInt → (z_41 59).toInt = (z_34 59).toInt → (z_41 60).toInt = (z_34 60).toInt → lv_has ls 7 [(4, .int y_40), (0, .ref g0), (1, .int x1), (2, .int x2), (3, .int x3)] → W p l e (headSpec wsX11_chooses { frames := 0, cells := 0, slots := 0, locals := 0 }).room s m #[Value.ref g0, Value.int x1, Value.int x2, Value.int x3] below meth c H locs 0 0 (MQ below (va_Qv (fun (u : (Nat → Int32) × (Nat → Nat → Int32)) => mV u.1 ∧ mA u.2 ∧ scr v fa u.1 u.2 ∧ (smC v fa u.1 u.2 ∧ hdE 8 fa u.2 ∧ RS nG MG (csW fa) 8 (pc (csT fa) 8 + 1) (u.1 60).toInt (csB u.2))) (fun u t => va_P (dC, dI) vwCl (mW g0 pq cp u.1 u.2) t.heap ∧ va_K (dC, dI) vwCl (mT cp) t ∧ va_D A (mW g0 pq cp u.1 u.2)) A) #[Value.ref g0, Value.int x1, Value.int x2, Value.int x3] s 0 0 A) (F0 m 32 ls []) := by
          intro n
          induction n using Nat.strongRecOn with
          | ind n ih =>
            intro y_40 z_41 fz_42 H locs ls hm hy_40 hq0_cut_39 hq1_cut_39 hq2_cut_39 hVz_41 hAz_41 hRz_41 hP hD hS g_43 g_44 g_45 hl
            have gm_46 := congrArg Int32.toInt hq0_cut_39.2.1
            have gm_47 := congrArg Int32.toInt hq0_cut_39.1
            refine lv_iload hx hb dX11_chooses_32 (lv_at hl 0 rfl) ?_
            refine lv_iload_n hx hb dX11_chooses_34 rfl (lv_at hl 2 rfl) ?_
            refine lv_icmp_ge (tgt := 58) hx hb dX11_chooses_35 (by decide) (fun c_48 => ?_) (fun c_48 => ?_)
            · have dc_48 := c_le (a := x1.toInt) (b := y_40.toInt) rfl rfl c_48
              exact W.vret hx hb hr (fun t ht hW => ⟨⟨(z_41, fz_42), rfl, ⟨hVz_41, hAz_41, hRz_41, ⟨hq0_cut_39, hq1_cut_39, RS_lf (show 8 = hnd nG by have q := hCS.1; omega) hPR (fun p hp => hq2_cut_39 p (show p < y_40.toInt.toNat by omega)) (by omega) (by dsimp only; omega) (sw_b (n := nG) (W := csW fa) (t := csT fa) (h := 8) (fun p hp => ⟨(hPR.1 p hp).2, (csW_b hCS _ _).2⟩)).1 hCS.2.2.1 hRS⟩⟩, ⟨by rw [ht]; exact hP, va_K.moved hW.alike hK, hD⟩⟩, hS.F ht⟩) hS.2.2 dX11_chooses_58
            · have dc_48 := c_nle (a := x1.toInt) (b := y_40.toInt) rfl rfl c_48
              refine lv_aload_n hx hb dX11_chooses_38 rfl (lv_at hl 1 rfl) ?_
              refine va_get (D := (dC, dI)) (ci := 11) (v := .ref (pq 57)) (C := RX11) (T := TX11) (N := 63) hx hb hts in_wsX11_chooses_X11 hown hK hP 0 rfl rfl 57 (by decide) (hts (.fieldLink RX11 146 "ShipOfficeModel" "best" "[I") iw_X11_chooses_3) (fun _ h9 => h9) rfl dX11_chooses_39 ?_
              refine lv_iload hx hb dX11_chooses_42 (lv_at hl 0 rfl) ?_
              refine lv_aload_n hx hb dX11_chooses_44 rfl (lv_at hl 1 rfl) ?_
              refine va_get (D := (dC, dI)) (ci := 11) (v := .ref (pq 56)) (C := RX11) (T := TX11) (N := 63) hx hb hts in_wsX11_chooses_X11 hown hK hP 0 rfl rfl 56 (by decide) (hts (.fieldLink RX11 143 "ShipOfficeModel" "hand" "[I") iw_X11_chooses_4) (fun _ h9 => h9) rfl dX11_chooses_45 ?_
              refine lv_iload hx hb dX11_chooses_48 (lv_at hl 0 rfl) ?_
              refine va_iald hx hb hK hP 45 44 rfl rfl (vp_in_iff.mpr (by omega)) dX11_chooses_50 ?_
              refine lv_topi (fun x_49 ex_49 => ?_)
              have hx_49 : 0 ≤ x_49.toInt ∧ x_49.toInt ≤ 11 := iv_of ex_49 (hAz_41 56 _)
              have gx_49 : x_49.toInt = (fz_42 56 (y_40 : Int32).toNatClampNeg).toInt := iv_to ex_49
              clear ex_49
              refine va_iast hx hb hK hP hD hS 46 45 rfl rfl (vp_in_iff.mpr (by omega)) dX11_chooses_51 (fun H locs hP hD hS => ?_)
              have hP : va_P (dC, dI) vwCl (mW g0 pq cp z_41 (upF fz_42 57 (y_40 : Int32).toNatClampNeg x_49)) H := hP
              have hD : va_D A (mW g0 pq cp z_41 (upF fz_42 57 (y_40 : Int32).toNatClampNeg x_49)) := hD
              obtain ⟨fz_50, efz_50⟩ : ∃ zq, zq = (upF fz_42 57 (y_40 : Int32).toNatClampNeg x_49) := ⟨_, rfl⟩
              rw [← efz_50] at hP hD
              have hAfz_50 : mA fz_50 := by rw [efz_50]; exact mA_upF (lo := 0) (hi := 11) hAz_41 rfl rfl (by omega)
              have hRfz_50 : scr v fa z_41 fz_50 := by rw [efz_50]; exact scr.uF hRz_41 rfl
              have g_51 : (fz_50 56 (y_40 : Int32).toNatClampNeg).toInt = (fz_42 56 (y_40 : Int32).toNatClampNeg).toInt := by rw [efz_50]; exact uF_ne (by decide)
              have q0_52 : fz_50 0 = fa 0 := by rw [efz_50]; exact (if_neg (by decide)).trans (hRz_41.2 0 rfl)
              have sm_53 : smC v fa z_41 fz_50 := by rw [efz_50]; exact smC.uF hq0_cut_39 (by decide) (by decide) (by decide)
              have hd_54 : hdE 8 fa fz_50 := by rw [efz_50]; exact hdE.uF hq1_cut_39 (Or.inl (by decide))
              obtain ⟨x_55, ex_55⟩ : ∃ zq : Int32, y_40 + 1 = zq := ⟨_, rfl⟩
              have hx_55 : x_55.toInt = y_40.toInt + 1 := (iv_to ex_55).symm.trans (ad_i rfl (by decide) (by omega) (by omega))
              refine lv_iinc (v := x_55) (lv' := [(4, .int x_55), (0, .ref g0), (1, .int x1), (2, .int x2), (3, .int x3)]) hx hb dX11_chooses_52 hl (k := 0) rfl ex_55 (by decide) rfl (fun ls hl => ?_)
              clear ex_55
              refine lv_goto (tgt := 32) hx hb dX11_chooses_55 (by decide) ?_
              exact ih (n - 1) (by omega) x_55 z_41 fz_50 _ _ ls (by omega) (by omega) sm_53 hd_54 (cb_s hq2_cut_39 efz_50 (by omega) hq1_cut_39 (show y_40.toInt.toNat < 8 by omega) (by omega) (by omega)) hVz_41 hAfz_50 hRfz_50 hP hD hS (by omega) (by omega) (by omega) (lv_sub hl [0, 1, 2, 3, 4] rfl)
        have kc_56 : (0 : Int32).toInt = 0 := by decide
        exact cut_39 9 0 z_34 fa _ _ ls (by omega) (by decide) sm_38 hdE.rf (al_0 (by decide)) hVz_34 gA hRz_34 hP hD hS (by omega) (by omega) (by omega) (lv_sub hl [0, 1, 2, 3, 4] rfl)
    · have dc_31 := c_nlt (a := x3.toInt) (b := x_30.toInt) rfl rfl c_31
      exact W.vret hx hb hr (fun t ht hW => ⟨⟨(v, fa), rfl, ⟨gV, gA, scr.rf, ⟨smC.rf, hdE.rf, RS_pr hCS.2.2.1 (show 8 ≤ hnd nG by have q := hCS.1; omega) hPR (by dsimp only; omega) (by dsimp only; omega) hRS⟩⟩, ⟨by rw [ht]; exact hP, va_K.moved hW.alike hK, hD⟩⟩, hS.F ht⟩) hS.2.2 dX11_chooses_15
