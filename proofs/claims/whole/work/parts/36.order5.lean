/-- the ORDER of a ROUND rd by a WAY, of n ROWS -/
def OrdIs (n grp bf : Nat) (lb wt ln : Nat → Nat) (sd : Int64) (wy rd : Nat) (g : Nat → Nat) : Prop :=
  (∀ i, i < n → g i < n) ∧ (wy = 0 → ∀ i, i < n → g i = plO (strm sd 0 rd) n i) ∧ (wy = 1 → ∀ i, i < n → g i = leO ln grp (strm sd 1 rd) n i) ∧ (wy = 2 → isW wt n (strm sd 2 rd) g) ∧ (wy = 3 → isB sd rd n lb g) ∧ (wy = 4 → ∀ i, i < n → g i = buO n (min n bf) (strm sd 4 rd) i)
theorem OrdIs.uniq {n grp bf : Nat} {lb wt ln : Nat → Nat} {sd : Int64} {wy rd : Nat} {g h : Nat → Nat} (hw : wy ≤ 4) (a : OrdIs n grp bf lb wt ln sd wy rd g) (b : OrdIs n grp bf lb wt ln sd wy rd h) : ∀ i, i < n → g i = h i := by
  obtain ⟨-, a0, a1, a2, a3, a4⟩ := a
  obtain ⟨-, b0, b1, b2, b3, b4⟩ := b
  rcases (show wy = 0 ∨ wy = 1 ∨ wy = 2 ∨ wy = 3 ∨ wy = 4 by omega) with z | z | z | z | z
  · intro i hi; rw [a0 z i hi, b0 z i hi]
  · intro i hi; rw [a1 z i hi, b1 z i hi]
  · exact isW_uniq (a2 z) (b2 z)
  · exact isB_uniq (a3 z) (b3 z)
  · intro i hi; rw [a4 z i hi, b4 z i hi]
theorem OrdIs.p0 {n grp bf : Nat} {lb wt ln : Nat → Nat} {sd s : Int64} {wy rd : Nat} {g : Nat → Nat} (hw : wy = 0) (hs : s = strm sd wy rd) (h : ∀ i, i < n → g i = plO s n i) : OrdIs n grp bf lb wt ln sd wy rd g := by
  subst hw; subst hs
  exact ⟨fun i hi => by rw [h i hi]; exact plO_lt i hi, fun _ => h, fun z => absurd z (by omega), fun z => absurd z (by omega), fun z => absurd z (by omega), fun z => absurd z (by omega)⟩
theorem OrdIs.p1 {n grp bf : Nat} {lb wt ln : Nat → Nat} {sd s : Int64} {wy rd : Nat} {g : Nat → Nat} (hw : wy = 1) (hs : s = strm sd wy rd) (h : ∀ i, i < n → g i = plO s n i) : OrdIs n grp bf lb wt ln sd wy rd (prt ln grp n n g) := by
  subst hw; subst hs
  have e : ∀ i, i < n → prt ln grp n n g i = leO ln grp (strm sd 1 rd) n i := prt_congr n _ _ h
  exact ⟨fun i hi => by rw [e i hi]; exact leO_lt i hi, fun z => absurd z (by omega), fun _ => e, fun z => absurd z (by omega), fun z => absurd z (by omega), fun z => absurd z (by omega)⟩
theorem OrdIs.p2 {n grp bf : Nat} {lb wt ln : Nat → Nat} {sd s : Int64} {wy rd : Nat} {g : Nat → Nat} (hw : wy = 2) (hs : s = strm sd wy rd) (h : isW wt n s g) : OrdIs n grp bf lb wt ln sd wy rd g := by
  subst hw; subst hs
  exact ⟨fun i hi => (h i hi).1, fun z => absurd z (by omega), fun z => absurd z (by omega), fun _ => h, fun z => absurd z (by omega), fun z => absurd z (by omega)⟩
theorem OrdIs.p3 {n grp bf : Nat} {lb wt ln : Nat → Nat} {sd : Int64} {wy rd : Nat} {g : Nat → Nat} (hw : wy = 3) (hl : ∀ i, i < n → g i < n) (h : isB sd rd n lb g) : OrdIs n grp bf lb wt ln sd wy rd g := by
  subst hw
  exact ⟨hl, fun z => absurd z (by omega), fun z => absurd z (by omega), fun z => absurd z (by omega), fun _ => h, fun z => absurd z (by omega)⟩
theorem OrdIs.p4 {n grp bf : Nat} {lb wt ln : Nat → Nat} {sd s : Int64} {wy rd : Nat} {g : Nat → Nat} (hw : wy = 4) (hs : s = strm sd wy rd) (hl : ∀ i, i < n → g i < n) (h : ∀ i, i < n → g i = buO n (min n bf) s i) : OrdIs n grp bf lb wt ln sd wy rd g := by
  subst hw; subst hs
  exact ⟨hl, fun z => absurd z (by omega), fun z => absurd z (by omega), fun z => absurd z (by omega), fun z => absurd z (by omega), fun _ => h⟩
set_option maxHeartbeats 4000000 in
set_option maxRecDepth 100000 in
theorem c_X3_make (l : Launch) (D : va_G) (cI cO cL : ClassId) (a ca ia : Nat → Nat) (n : Nat) (O : Nat → Option Nat) (I : Nat → Nat) (J : Nat → Int64) (F : Nat → Nat → Nat) (E : Nat → Nat → Int32) (K : Nat → Nat → Nat) (G0 : Nat → Nat → Int32) (wy rd : Nat) (hn : I 3 ≤ 60) (hO : ∀ j, j < I 3 → O j = some (ca j)) (hin : I 3 ≤ n) (hLb : ∀ j, j < I 3 → F 0 j < 8) (hWt : ∀ j, j < I 3 → F 1 j ≤ 1000) (hK3 : ∀ j, j < I 3 → K 3 j ≤ 1600) (h5 : 1 ≤ I 5 ∧ I 5 ≤ 60) (h6 : 1 ≤ I 6 ∧ I 6 ≤ 60) (hwy : wy ≤ 4) (hrd : rd ≤ 1000) : Ki l yX3_make wsX3_make { frames := 5, cells := 0, slots := 0, locals := 116 } D (TY cI cO cL) [.ref (a 4), .int (nI (wy)), .int (nI (rd))] (bW cI cO a ca ia n O I J F E K G0) (fun r w => ((wy = 2 ∧ I 3 ≠ 0 ∧ wsum (F 1) (I 3) = 0) ∧ r = 0 ∧ w = bW cI cO a ca ia n O (va_up I 8 (I 3)) J F E K G0) ∨ (¬ (wy = 2 ∧ I 3 ≠ 0 ∧ wsum (F 1) (I 3) = 0) ∧ r = 1 ∧ ∃ g q3 q4 q5 q6 q7 σ, OrdIs (I 3) (I 5) (I 6) (F 0) (F 1) (K 3) (J 0) wy rd g ∧ w = bW cI cO a ca ia n O (va_up I 8 (I 3)) (va_up J 1 (σ)) (va_up (va_up (va_up (va_up (va_up (va_up F 2 g) 3 q3) 4 q4) 5 q5) 6 q6) 7 q7) E K G0)) := by
  refine Ki.mk (cc := cX3_make) (maxL := 3) (rt := .boolean) (own := RX3) (by decide) rfl rfl (Nat.le_of_ble_eq_true rfl) ?_
  intro p e s m below meth c A Q ls C hname hA G hl RET
  obtain ⟨⟨hx, hb, hml, hown, hts⟩, hK, hN⟩ := id C
  have hl : lv_has ls 3 [(0, .ref (a 4)), (1, .int (nI (wy))), (2, .int (nI (rd)))] := hl
  have hX3 : ∀ w ∈ u_ws RX3 TX3 10, w ∈ wsX3_make := by decide +kernel
  have hX4 : ∀ w ∈ u_ws RX4 TX4 4, w ∈ wsX3_make := by decide +kernel
  have hw3 := wsum_le (w := F 1) hWt (I 3) (by omega)
  refine lv_aload_n hx hb dX3_make_0 rfl (lv_at hl 0 rfl) ?_
  refine lv_aload_n hx hb dX3_make_1 rfl (lv_at hl 0 rfl) ?_
  refine r_get (v := .ref (a 1)) C G hX3 4 rfl rfl 0 (by decide) (by decide +kernel) rfl dX3_make_2 ?_
  refine r_getN (v := .int (nI (I 3))) C G hX4 1 rfl rfl 3 (by decide) (by decide +kernel) rfl dX3_make_5 ?_
  refine lv_bipush (v := (nI (60))) hx hb dX3_make_8 (by decide) ?_
  refine va_mmin hx hb (by rw [hml]; exact hl.1.symm) hown (hts (.methodLink RX3 49 Lib.Math.min.name) (by decide +kernel)) (hts (.static Lib.Math.min.name) (by decide +kernel)) (hts (.initialized "java/lang/Math") (by decide +kernel)) (hts (.code Lib.Math.min.name Lib.Math.min.code 2 (some .int)) (by decide +kernel)) (Nat.le_of_ble_eq_true rfl) (Nat.le_of_ble_eq_true rfl) (by first | (simp only []; omega) | decide) (by first | (simp only []; omega) | decide) dX3_make_10 ?_
  refine r_top (y := nI (min (I 3) 60)) (nI_min (by omega) (by omega)) ?_
  refine r_top (y := nI (I 3)) (congrArg nI (by omega)) ?_
  refine r_put (ws' := bW cI cO a ca ia n O (va_up I 8 (I 3)) J F E K G0) C G hX3 tyX3_ok nmX3 4 rfl rfl 4 (by decide) (by decide +kernel) rfl rfl rfl (Nat.le_of_ble_eq_true rfl) dX3_make_13 rfl (fun H locs G => ?_)
  refine lv_iload_n hx hb dX3_make_16 rfl (lv_at hl 1 rfl) ?_
  refine lv_iconst (v := (nI (2))) hx hb dX3_make_17 (by decide) ?_
  refine lv_icmp_ne (tgt := 40) hx hb dX3_make_18 (by decide) (fun c18 => ?_) (fun c18 => ?_)
  · skip
    replace c18 : ¬ ((wy : Nat) : Int) = ((2 : Nat) : Int) := fun h => c18 ((cv_eq (nI_toInt (by omega)) (nI_toInt (by omega))).mpr h)
    refine lv_aload_n hx hb dX3_make_40 rfl (lv_at hl 0 rfl) ?_
    refine lv_iload_n hx hb dX3_make_41 rfl (lv_at hl 1 rfl) ?_
    refine lv_iload_n hx hb dX3_make_42 rfl (lv_at hl 2 rfl) ?_
    refine r_av G hA (r_rV (na := 2) (As := [.int (nI (wy)), .int (nI (rd))]) (rest := []) C G (c_X3_beginStream l D cI cO cL a ca ia n O (va_up I 8 (I 3)) J F E K G0 wy rd (by omega) (by omega)) gX3_make_X3_beginStream rfl (by decide +kernel) ⟨Nat.le_of_ble_eq_true rfl, Nat.le_of_ble_eq_true rfl⟩ 4 rfl rfl rfl hl.1 rfl (Nat.le_of_ble_eq_true rfl) dX3_make_43 ⟨by first | (simp only []; omega) | decide, by first | (simp only []; omega) | decide⟩) (fun w43 H locs hp43 G => ?_)
    obtain ⟨σ43, eσ43, rfl⟩ := hp43
    replace eσ43 : σ43 = strm (J 0) wy rd := eσ43
    refine lv_iload_n hx hb dX3_make_46 rfl (lv_at hl 1 rfl) ?_
    by_cases k47_0 : wy = 1
    · skip
      refine r_top (y := nI 1) (by rw [k47_0]) ?_
      refine lv_tableIn (off := (29)) (tgt := 76) hx hb dX3_make_47 (by decide) (by decide) (by decide) (by decide) ?_
      refine lv_aload_n hx hb dX3_make_76 rfl (lv_at hl 0 rfl) ?_
      refine r_av G hA (r_rV (na := 0) (As := []) (rest := []) C G (c_X3_makePlain l D cI cO cL a ca ia n O (va_up I 8 (I 3)) (va_up J 1 (σ43)) F E K G0 (by show I 3 ≤ 60; omega)) gX3_make_X3_makePlain rfl (by decide +kernel) ⟨Nat.le_of_ble_eq_true rfl, Nat.le_of_ble_eq_true rfl⟩ 4 rfl rfl rfl hl.1 rfl (Nat.le_of_ble_eq_true rfl) dX3_make_77 ⟨by first | (simp only []; omega) | decide, by first | (simp only []; omega) | decide⟩) (fun w77 H locs hp77 G => ?_)
      obtain ⟨g77, σ77, hg77, rfl⟩ := hp77
      replace hg77 : ∀ i, i < I 3 → g77 i = plO (σ43) (I 3) i := hg77
      refine lv_aload_n hx hb dX3_make_80 rfl (lv_at hl 0 rfl) ?_
      have hbf : ∀ i, i < I 3 → g77 i < I 3 := fun i hi => by rw [hg77 i hi]; exact plO_lt i hi
      refine r_av G hA (r_rV (na := 0) (As := []) (rest := []) C G (c_X3_sortParts l D cI cO cL a ca ia n O (va_up I 8 (I 3)) (va_up J 1 (σ77)) (va_up F 2 g77) E K G0 hn hO hin rfl hK3 h5 hbf) gX3_make_X3_sortParts rfl (by decide +kernel) ⟨Nat.le_of_ble_eq_true rfl, Nat.le_of_ble_eq_true rfl⟩ 4 rfl rfl rfl hl.1 rfl (Nat.le_of_ble_eq_true rfl) dX3_make_81 ⟨by first | (simp only []; omega) | decide, by first | (simp only []; omega) | decide⟩) (fun w81 H locs hp81 G => ?_)
      obtain ⟨rfl⟩ := hp81
      refine lv_goto (tgt := 113) hx hb dX3_make_84 (by decide) ?_
      refine lv_iconst (v := (nI (1))) hx hb dX3_make_113 (by decide) ?_
      exact RET (nI (1)) (bW cI cO a ca ia n O (va_up I 8 (I 3)) (va_up J 1 (σ77)) (va_up F 2 (prt (K 3) (I 5) (I 3) (I 3) g77)) E K G0) _ _ ls _ _ _ (Or.inr ⟨by omega, rfl, (prt (K 3) (I 5) (I 3) (I 3) g77), (F 3), (F 4), (F 5), (F 6), (F 7), (σ77), OrdIs.p1 k47_0 eσ43 hg77, rfl⟩) G (by first | (simp only []; omega) | decide) (by first | (simp only []; omega) | decide) rfl dX3_make_114
    by_cases k47_1 : wy = 2
    · skip
      refine r_top (y := nI 2) (by rw [k47_1]) ?_
      refine lv_tableIn (off := (40)) (tgt := 87) hx hb dX3_make_47 (by decide) (by decide) (by decide) (by decide) ?_
      refine lv_aload_n hx hb dX3_make_87 rfl (lv_at hl 0 rfl) ?_
      refine r_av G hA (r_rV (na := 0) (As := []) (rest := []) C G (c_X3_makeWeighted l D cI cO cL a ca ia n O (va_up I 8 (I 3)) (va_up J 1 (σ43)) F E K G0 hn rfl hWt (by show 0 < wsum (F 1) (I 3) ∨ I 3 = 0; omega)) gX3_make_X3_makeWeighted rfl (by decide +kernel) ⟨Nat.le_of_ble_eq_true rfl, Nat.le_of_ble_eq_true rfl⟩ 4 rfl rfl rfl hl.1 rfl (Nat.le_of_ble_eq_true rfl) dX3_make_88 ⟨by first | (simp only []; omega) | decide, by first | (simp only []; omega) | decide⟩) (fun w88 H locs hp88 G => ?_)
      obtain ⟨g88, σ88, hg88, rfl⟩ := hp88
      replace hg88 : isW (F 1) (I 3) (σ43) g88 := hg88
      refine lv_goto (tgt := 113) hx hb dX3_make_91 (by decide) ?_
      refine lv_iconst (v := (nI (1))) hx hb dX3_make_113 (by decide) ?_
      exact RET (nI (1)) (bW cI cO a ca ia n O (va_up I 8 (I 3)) (va_up J 1 (σ88)) (va_up F 2 g88) E K G0) _ _ ls _ _ _ (Or.inr ⟨by omega, rfl, g88, (F 3), (F 4), (F 5), (F 6), (F 7), (σ88), OrdIs.p2 k47_1 eσ43 hg88, rfl⟩) G (by first | (simp only []; omega) | decide) (by first | (simp only []; omega) | decide) rfl dX3_make_114
    by_cases k47_2 : wy = 3
    · skip
      refine r_top (y := nI 3) (by rw [k47_2]) ?_
      refine lv_tableIn (off := (47)) (tgt := 94) hx hb dX3_make_47 (by decide) (by decide) (by decide) (by decide) ?_
      refine lv_aload_n hx hb dX3_make_94 rfl (lv_at hl 0 rfl) ?_
      refine lv_iload_n hx hb dX3_make_95 rfl (lv_at hl 2 rfl) ?_
      refine r_av G hA (r_rV (na := 1) (As := [.int (nI (rd))]) (rest := []) C G (c_X3_makeBalanced l D cI cO cL a ca ia n O (va_up I 8 (I 3)) (va_up J 1 (σ43)) F E K G0 rd hn rfl hn hLb (by omega)) gX3_make_X3_makeBalanced rfl (by decide +kernel) ⟨Nat.le_of_ble_eq_true rfl, Nat.le_of_ble_eq_true rfl⟩ 4 rfl rfl rfl hl.1 rfl (Nat.le_of_ble_eq_true rfl) dX3_make_96 ⟨by first | (simp only []; omega) | decide, by first | (simp only []; omega) | decide⟩) (fun w96 H locs hp96 G => ?_)
      obtain ⟨g96, h3_96, h4_96, h5_96, h6_96, h7_96, σ96, hg96, hl96, rfl⟩ := hp96
      replace hg96 : isB (J 0) rd (I 3) (F 0) g96 := hg96
      replace hl96 : ∀ i, i < I 3 → g96 i < I 3 := hl96
      refine lv_goto (tgt := 113) hx hb dX3_make_99 (by decide) ?_
      refine lv_iconst (v := (nI (1))) hx hb dX3_make_113 (by decide) ?_
      exact RET (nI (1)) (bW cI cO a ca ia n O (va_up I 8 (I 3)) (va_up J 1 (σ96)) (va_up (va_up (va_up (va_up (va_up (va_up F 2 g96) 3 h3_96) 4 h4_96) 5 h5_96) 6 h6_96) 7 h7_96) E K G0) _ _ ls _ _ _ (Or.inr ⟨by omega, rfl, g96, h3_96, h4_96, h5_96, h6_96, h7_96, (σ96), OrdIs.p3 k47_2 hl96 hg96, rfl⟩) G (by first | (simp only []; omega) | decide) (by first | (simp only []; omega) | decide) rfl dX3_make_114
    by_cases k47_3 : wy = 4
    · skip
      refine r_top (y := nI 4) (by rw [k47_3]) ?_
      refine lv_tableIn (off := (55)) (tgt := 102) hx hb dX3_make_47 (by decide) (by decide) (by decide) (by decide) ?_
      refine lv_aload_n hx hb dX3_make_102 rfl (lv_at hl 0 rfl) ?_
      refine r_av G hA (r_rV (na := 0) (As := []) (rest := []) C G (c_X3_makeBuffered l D cI cO cL a ca ia n O (va_up I 8 (I 3)) (va_up J 1 (σ43)) F E K G0 (by show I 3 ≤ 60; omega) h6) gX3_make_X3_makeBuffered rfl (by decide +kernel) ⟨Nat.le_of_ble_eq_true rfl, Nat.le_of_ble_eq_true rfl⟩ 4 rfl rfl rfl hl.1 rfl (Nat.le_of_ble_eq_true rfl) dX3_make_103 ⟨by first | (simp only []; omega) | decide, by first | (simp only []; omega) | decide⟩) (fun w103 H locs hp103 G => ?_)
      obtain ⟨g103, b103, σ103, hg103, hl103, rfl⟩ := hp103
      replace hg103 : ∀ i, i < I 3 → g103 i = buO (I 3) (min (I 3) (I 6)) (σ43) i := hg103
      replace hl103 : ∀ i, i < I 3 → g103 i < I 3 := hl103
      refine lv_goto (tgt := 113) hx hb dX3_make_106 (by decide) ?_
      refine lv_iconst (v := (nI (1))) hx hb dX3_make_113 (by decide) ?_
      exact RET (nI (1)) (bW cI cO a ca ia n O (va_up I 8 (I 3)) (va_up J 1 (σ103)) (va_up (va_up F 2 g103) 3 b103) E K G0) _ _ ls _ _ _ (Or.inr ⟨by omega, rfl, g103, b103, (F 4), (F 5), (F 6), (F 7), (σ103), OrdIs.p4 k47_3 eσ43 hl103 hg103, rfl⟩) G (by first | (simp only []; omega) | decide) (by first | (simp only []; omega) | decide) rfl dX3_make_114
    have ko47 : (nI (wy)).toInt < (1) ∨ (4) < (nI (wy)).toInt := by rw [nI_toInt (by omega)]; omega
    refine lv_tableOut (tgt := 109) hx hb dX3_make_47 ko47 (by decide) ?_
    refine lv_aload_n hx hb dX3_make_109 rfl (lv_at hl 0 rfl) ?_
    refine r_av G hA (r_rV (na := 0) (As := []) (rest := []) C G (c_X3_makePlain l D cI cO cL a ca ia n O (va_up I 8 (I 3)) (va_up J 1 (σ43)) F E K G0 (by show I 3 ≤ 60; omega)) gX3_make_X3_makePlain rfl (by decide +kernel) ⟨Nat.le_of_ble_eq_true rfl, Nat.le_of_ble_eq_true rfl⟩ 4 rfl rfl rfl hl.1 rfl (Nat.le_of_ble_eq_true rfl) dX3_make_110 ⟨by first | (simp only []; omega) | decide, by first | (simp only []; omega) | decide⟩) (fun w110 H locs hp110 G => ?_)
    obtain ⟨g110, σ110, hg110, rfl⟩ := hp110
    replace hg110 : ∀ i, i < I 3 → g110 i = plO (σ43) (I 3) i := hg110
    refine lv_iconst (v := (nI (1))) hx hb dX3_make_113 (by decide) ?_
    exact RET (nI (1)) (bW cI cO a ca ia n O (va_up I 8 (I 3)) (va_up J 1 (σ110)) (va_up F 2 g110) E K G0) _ _ ls _ _ _ (Or.inr ⟨by omega, rfl, g110, (F 3), (F 4), (F 5), (F 6), (F 7), (σ110), OrdIs.p0 (by omega) eσ43 hg110, rfl⟩) G (by first | (simp only []; omega) | decide) (by first | (simp only []; omega) | decide) rfl dX3_make_114
  · skip
    replace c18 : ((wy : Nat) : Int) = ((2 : Nat) : Int) := (cv_eq (nI_toInt (by omega)) (nI_toInt (by omega))).mp c18
    refine lv_aload_n hx hb dX3_make_21 rfl (lv_at hl 0 rfl) ?_
    refine r_get (v := .int (nI (I 3))) C G hX3 4 rfl rfl 4 (by decide) (by decide +kernel) rfl dX3_make_22 ?_
    refine lv_if_le (tgt := 40) hx hb dX3_make_25 (by decide) (fun c25 => ?_) (fun c25 => ?_)
    · skip
      replace c25 : ((I 3 : Nat) : Int) ≤ (0) := (cv_le (nI_toInt (by omega)) (by decide)).mp c25
      refine lv_aload_n hx hb dX3_make_40 rfl (lv_at hl 0 rfl) ?_
      refine lv_iload_n hx hb dX3_make_41 rfl (lv_at hl 1 rfl) ?_
      refine lv_iload_n hx hb dX3_make_42 rfl (lv_at hl 2 rfl) ?_
      refine r_av G hA (r_rV (na := 2) (As := [.int (nI (wy)), .int (nI (rd))]) (rest := []) C G (c_X3_beginStream l D cI cO cL a ca ia n O (va_up I 8 (I 3)) J F E K G0 wy rd (by omega) (by omega)) gX3_make_X3_beginStream rfl (by decide +kernel) ⟨Nat.le_of_ble_eq_true rfl, Nat.le_of_ble_eq_true rfl⟩ 4 rfl rfl rfl hl.1 rfl (Nat.le_of_ble_eq_true rfl) dX3_make_43 ⟨by first | (simp only []; omega) | decide, by first | (simp only []; omega) | decide⟩) (fun w43 H locs hp43 G => ?_)
      obtain ⟨σ43, eσ43, rfl⟩ := hp43
      replace eσ43 : σ43 = strm (J 0) wy rd := eσ43
      refine lv_iload_n hx hb dX3_make_46 rfl (lv_at hl 1 rfl) ?_
      by_cases k47_0 : wy = 1
      · skip
        refine r_top (y := nI 1) (by rw [k47_0]) ?_
        refine lv_tableIn (off := (29)) (tgt := 76) hx hb dX3_make_47 (by decide) (by decide) (by decide) (by decide) ?_
        refine lv_aload_n hx hb dX3_make_76 rfl (lv_at hl 0 rfl) ?_
        refine r_av G hA (r_rV (na := 0) (As := []) (rest := []) C G (c_X3_makePlain l D cI cO cL a ca ia n O (va_up I 8 (I 3)) (va_up J 1 (σ43)) F E K G0 (by show I 3 ≤ 60; omega)) gX3_make_X3_makePlain rfl (by decide +kernel) ⟨Nat.le_of_ble_eq_true rfl, Nat.le_of_ble_eq_true rfl⟩ 4 rfl rfl rfl hl.1 rfl (Nat.le_of_ble_eq_true rfl) dX3_make_77 ⟨by first | (simp only []; omega) | decide, by first | (simp only []; omega) | decide⟩) (fun w77 H locs hp77 G => ?_)
        obtain ⟨g77, σ77, hg77, rfl⟩ := hp77
        replace hg77 : ∀ i, i < I 3 → g77 i = plO (σ43) (I 3) i := hg77
        refine lv_aload_n hx hb dX3_make_80 rfl (lv_at hl 0 rfl) ?_
        have hbf : ∀ i, i < I 3 → g77 i < I 3 := fun i hi => by rw [hg77 i hi]; exact plO_lt i hi
        refine r_av G hA (r_rV (na := 0) (As := []) (rest := []) C G (c_X3_sortParts l D cI cO cL a ca ia n O (va_up I 8 (I 3)) (va_up J 1 (σ77)) (va_up F 2 g77) E K G0 hn hO hin rfl hK3 h5 hbf) gX3_make_X3_sortParts rfl (by decide +kernel) ⟨Nat.le_of_ble_eq_true rfl, Nat.le_of_ble_eq_true rfl⟩ 4 rfl rfl rfl hl.1 rfl (Nat.le_of_ble_eq_true rfl) dX3_make_81 ⟨by first | (simp only []; omega) | decide, by first | (simp only []; omega) | decide⟩) (fun w81 H locs hp81 G => ?_)
        obtain ⟨rfl⟩ := hp81
        refine lv_goto (tgt := 113) hx hb dX3_make_84 (by decide) ?_
        refine lv_iconst (v := (nI (1))) hx hb dX3_make_113 (by decide) ?_
        exact RET (nI (1)) (bW cI cO a ca ia n O (va_up I 8 (I 3)) (va_up J 1 (σ77)) (va_up F 2 (prt (K 3) (I 5) (I 3) (I 3) g77)) E K G0) _ _ ls _ _ _ (Or.inr ⟨by omega, rfl, (prt (K 3) (I 5) (I 3) (I 3) g77), (F 3), (F 4), (F 5), (F 6), (F 7), (σ77), OrdIs.p1 k47_0 eσ43 hg77, rfl⟩) G (by first | (simp only []; omega) | decide) (by first | (simp only []; omega) | decide) rfl dX3_make_114
      by_cases k47_1 : wy = 2
      · skip
        refine r_top (y := nI 2) (by rw [k47_1]) ?_
        refine lv_tableIn (off := (40)) (tgt := 87) hx hb dX3_make_47 (by decide) (by decide) (by decide) (by decide) ?_
        refine lv_aload_n hx hb dX3_make_87 rfl (lv_at hl 0 rfl) ?_
        refine r_av G hA (r_rV (na := 0) (As := []) (rest := []) C G (c_X3_makeWeighted l D cI cO cL a ca ia n O (va_up I 8 (I 3)) (va_up J 1 (σ43)) F E K G0 hn rfl hWt (by show 0 < wsum (F 1) (I 3) ∨ I 3 = 0; omega)) gX3_make_X3_makeWeighted rfl (by decide +kernel) ⟨Nat.le_of_ble_eq_true rfl, Nat.le_of_ble_eq_true rfl⟩ 4 rfl rfl rfl hl.1 rfl (Nat.le_of_ble_eq_true rfl) dX3_make_88 ⟨by first | (simp only []; omega) | decide, by first | (simp only []; omega) | decide⟩) (fun w88 H locs hp88 G => ?_)
        obtain ⟨g88, σ88, hg88, rfl⟩ := hp88
        replace hg88 : isW (F 1) (I 3) (σ43) g88 := hg88
        refine lv_goto (tgt := 113) hx hb dX3_make_91 (by decide) ?_
        refine lv_iconst (v := (nI (1))) hx hb dX3_make_113 (by decide) ?_
        exact RET (nI (1)) (bW cI cO a ca ia n O (va_up I 8 (I 3)) (va_up J 1 (σ88)) (va_up F 2 g88) E K G0) _ _ ls _ _ _ (Or.inr ⟨by omega, rfl, g88, (F 3), (F 4), (F 5), (F 6), (F 7), (σ88), OrdIs.p2 k47_1 eσ43 hg88, rfl⟩) G (by first | (simp only []; omega) | decide) (by first | (simp only []; omega) | decide) rfl dX3_make_114
      by_cases k47_2 : wy = 3
      · skip
        refine r_top (y := nI 3) (by rw [k47_2]) ?_
        refine lv_tableIn (off := (47)) (tgt := 94) hx hb dX3_make_47 (by decide) (by decide) (by decide) (by decide) ?_
        refine lv_aload_n hx hb dX3_make_94 rfl (lv_at hl 0 rfl) ?_
        refine lv_iload_n hx hb dX3_make_95 rfl (lv_at hl 2 rfl) ?_
        refine r_av G hA (r_rV (na := 1) (As := [.int (nI (rd))]) (rest := []) C G (c_X3_makeBalanced l D cI cO cL a ca ia n O (va_up I 8 (I 3)) (va_up J 1 (σ43)) F E K G0 rd hn rfl hn hLb (by omega)) gX3_make_X3_makeBalanced rfl (by decide +kernel) ⟨Nat.le_of_ble_eq_true rfl, Nat.le_of_ble_eq_true rfl⟩ 4 rfl rfl rfl hl.1 rfl (Nat.le_of_ble_eq_true rfl) dX3_make_96 ⟨by first | (simp only []; omega) | decide, by first | (simp only []; omega) | decide⟩) (fun w96 H locs hp96 G => ?_)
        obtain ⟨g96, h3_96, h4_96, h5_96, h6_96, h7_96, σ96, hg96, hl96, rfl⟩ := hp96
        replace hg96 : isB (J 0) rd (I 3) (F 0) g96 := hg96
        replace hl96 : ∀ i, i < I 3 → g96 i < I 3 := hl96
        refine lv_goto (tgt := 113) hx hb dX3_make_99 (by decide) ?_
        refine lv_iconst (v := (nI (1))) hx hb dX3_make_113 (by decide) ?_
        exact RET (nI (1)) (bW cI cO a ca ia n O (va_up I 8 (I 3)) (va_up J 1 (σ96)) (va_up (va_up (va_up (va_up (va_up (va_up F 2 g96) 3 h3_96) 4 h4_96) 5 h5_96) 6 h6_96) 7 h7_96) E K G0) _ _ ls _ _ _ (Or.inr ⟨by omega, rfl, g96, h3_96, h4_96, h5_96, h6_96, h7_96, (σ96), OrdIs.p3 k47_2 hl96 hg96, rfl⟩) G (by first | (simp only []; omega) | decide) (by first | (simp only []; omega) | decide) rfl dX3_make_114
      by_cases k47_3 : wy = 4
      · skip
        refine r_top (y := nI 4) (by rw [k47_3]) ?_
        refine lv_tableIn (off := (55)) (tgt := 102) hx hb dX3_make_47 (by decide) (by decide) (by decide) (by decide) ?_
        refine lv_aload_n hx hb dX3_make_102 rfl (lv_at hl 0 rfl) ?_
        refine r_av G hA (r_rV (na := 0) (As := []) (rest := []) C G (c_X3_makeBuffered l D cI cO cL a ca ia n O (va_up I 8 (I 3)) (va_up J 1 (σ43)) F E K G0 (by show I 3 ≤ 60; omega) h6) gX3_make_X3_makeBuffered rfl (by decide +kernel) ⟨Nat.le_of_ble_eq_true rfl, Nat.le_of_ble_eq_true rfl⟩ 4 rfl rfl rfl hl.1 rfl (Nat.le_of_ble_eq_true rfl) dX3_make_103 ⟨by first | (simp only []; omega) | decide, by first | (simp only []; omega) | decide⟩) (fun w103 H locs hp103 G => ?_)
        obtain ⟨g103, b103, σ103, hg103, hl103, rfl⟩ := hp103
        replace hg103 : ∀ i, i < I 3 → g103 i = buO (I 3) (min (I 3) (I 6)) (σ43) i := hg103
        replace hl103 : ∀ i, i < I 3 → g103 i < I 3 := hl103
        refine lv_goto (tgt := 113) hx hb dX3_make_106 (by decide) ?_
        refine lv_iconst (v := (nI (1))) hx hb dX3_make_113 (by decide) ?_
        exact RET (nI (1)) (bW cI cO a ca ia n O (va_up I 8 (I 3)) (va_up J 1 (σ103)) (va_up (va_up F 2 g103) 3 b103) E K G0) _ _ ls _ _ _ (Or.inr ⟨by omega, rfl, g103, b103, (F 4), (F 5), (F 6), (F 7), (σ103), OrdIs.p4 k47_3 eσ43 hl103 hg103, rfl⟩) G (by first | (simp only []; omega) | decide) (by first | (simp only []; omega) | decide) rfl dX3_make_114
      have ko47 : (nI (wy)).toInt < (1) ∨ (4) < (nI (wy)).toInt := by rw [nI_toInt (by omega)]; omega
      refine lv_tableOut (tgt := 109) hx hb dX3_make_47 ko47 (by decide) ?_
      refine lv_aload_n hx hb dX3_make_109 rfl (lv_at hl 0 rfl) ?_
      refine r_av G hA (r_rV (na := 0) (As := []) (rest := []) C G (c_X3_makePlain l D cI cO cL a ca ia n O (va_up I 8 (I 3)) (va_up J 1 (σ43)) F E K G0 (by show I 3 ≤ 60; omega)) gX3_make_X3_makePlain rfl (by decide +kernel) ⟨Nat.le_of_ble_eq_true rfl, Nat.le_of_ble_eq_true rfl⟩ 4 rfl rfl rfl hl.1 rfl (Nat.le_of_ble_eq_true rfl) dX3_make_110 ⟨by first | (simp only []; omega) | decide, by first | (simp only []; omega) | decide⟩) (fun w110 H locs hp110 G => ?_)
      obtain ⟨g110, σ110, hg110, rfl⟩ := hp110
      replace hg110 : ∀ i, i < I 3 → g110 i = plO (σ43) (I 3) i := hg110
      refine lv_iconst (v := (nI (1))) hx hb dX3_make_113 (by decide) ?_
      exact RET (nI (1)) (bW cI cO a ca ia n O (va_up I 8 (I 3)) (va_up J 1 (σ110)) (va_up F 2 g110) E K G0) _ _ ls _ _ _ (Or.inr ⟨by omega, rfl, g110, (F 3), (F 4), (F 5), (F 6), (F 7), (σ110), OrdIs.p0 (by omega) eσ43 hg110, rfl⟩) G (by first | (simp only []; omega) | decide) (by first | (simp only []; omega) | decide) rfl dX3_make_114
    · skip
      replace c25 : (0) < ((I 3 : Nat) : Int) := Int.not_le.mp (fun h => c25 ((cv_le (nI_toInt (by omega)) (by decide)).mpr h))
      refine lv_aload_n hx hb dX3_make_28 rfl (lv_at hl 0 rfl) ?_
      refine r_get (v := .ref (a 1)) C G hX3 4 rfl rfl 0 (by decide) (by decide +kernel) rfl dX3_make_29 ?_
      refine r_ai G hA (r_rV (na := 0) (As := []) (rest := []) C G (c_X4_sumOfWeights l D cI cO cL a ca ia n O (va_up I 8 (I 3)) J F E K G0 hn hWt) gX3_make_X4_sumOfWeights rfl (by decide +kernel) ⟨Nat.le_of_ble_eq_true rfl, Nat.le_of_ble_eq_true rfl⟩ 1 rfl rfl rfl hl.1 rfl (Nat.le_of_ble_eq_true rfl) dX3_make_32 ⟨by first | (simp only []; omega) | decide, by first | (simp only []; omega) | decide⟩) (fun r32 w32 H locs hp32 G => ?_)
      obtain ⟨rfl, rfl⟩ := hp32
      refine r_top (y := nI (wsum (F 1) (I 3))) rfl ?_
      refine lv_if_ne (tgt := 40) hx hb dX3_make_35 (by decide) (fun c35 => ?_) (fun c35 => ?_)
      · skip
        replace c35 : ¬ ((wsum (F 1) (I 3) : Nat) : Int) = (0) := fun h => c35 ((cv_eq (nI_toInt (by omega)) (by decide)).mpr h)
        refine lv_aload_n hx hb dX3_make_40 rfl (lv_at hl 0 rfl) ?_
        refine lv_iload_n hx hb dX3_make_41 rfl (lv_at hl 1 rfl) ?_
        refine lv_iload_n hx hb dX3_make_42 rfl (lv_at hl 2 rfl) ?_
        refine r_av G hA (r_rV (na := 2) (As := [.int (nI (wy)), .int (nI (rd))]) (rest := []) C G (c_X3_beginStream l D cI cO cL a ca ia n O (va_up I 8 (I 3)) J F E K G0 wy rd (by omega) (by omega)) gX3_make_X3_beginStream rfl (by decide +kernel) ⟨Nat.le_of_ble_eq_true rfl, Nat.le_of_ble_eq_true rfl⟩ 4 rfl rfl rfl hl.1 rfl (Nat.le_of_ble_eq_true rfl) dX3_make_43 ⟨by first | (simp only []; omega) | decide, by first | (simp only []; omega) | decide⟩) (fun w43 H locs hp43 G => ?_)
        obtain ⟨σ43, eσ43, rfl⟩ := hp43
        replace eσ43 : σ43 = strm (J 0) wy rd := eσ43
        refine lv_iload_n hx hb dX3_make_46 rfl (lv_at hl 1 rfl) ?_
        by_cases k47_0 : wy = 1
        · skip
          refine r_top (y := nI 1) (by rw [k47_0]) ?_
          refine lv_tableIn (off := (29)) (tgt := 76) hx hb dX3_make_47 (by decide) (by decide) (by decide) (by decide) ?_
          refine lv_aload_n hx hb dX3_make_76 rfl (lv_at hl 0 rfl) ?_
          refine r_av G hA (r_rV (na := 0) (As := []) (rest := []) C G (c_X3_makePlain l D cI cO cL a ca ia n O (va_up I 8 (I 3)) (va_up J 1 (σ43)) F E K G0 (by show I 3 ≤ 60; omega)) gX3_make_X3_makePlain rfl (by decide +kernel) ⟨Nat.le_of_ble_eq_true rfl, Nat.le_of_ble_eq_true rfl⟩ 4 rfl rfl rfl hl.1 rfl (Nat.le_of_ble_eq_true rfl) dX3_make_77 ⟨by first | (simp only []; omega) | decide, by first | (simp only []; omega) | decide⟩) (fun w77 H locs hp77 G => ?_)
          obtain ⟨g77, σ77, hg77, rfl⟩ := hp77
          replace hg77 : ∀ i, i < I 3 → g77 i = plO (σ43) (I 3) i := hg77
          refine lv_aload_n hx hb dX3_make_80 rfl (lv_at hl 0 rfl) ?_
          have hbf : ∀ i, i < I 3 → g77 i < I 3 := fun i hi => by rw [hg77 i hi]; exact plO_lt i hi
          refine r_av G hA (r_rV (na := 0) (As := []) (rest := []) C G (c_X3_sortParts l D cI cO cL a ca ia n O (va_up I 8 (I 3)) (va_up J 1 (σ77)) (va_up F 2 g77) E K G0 hn hO hin rfl hK3 h5 hbf) gX3_make_X3_sortParts rfl (by decide +kernel) ⟨Nat.le_of_ble_eq_true rfl, Nat.le_of_ble_eq_true rfl⟩ 4 rfl rfl rfl hl.1 rfl (Nat.le_of_ble_eq_true rfl) dX3_make_81 ⟨by first | (simp only []; omega) | decide, by first | (simp only []; omega) | decide⟩) (fun w81 H locs hp81 G => ?_)
          obtain ⟨rfl⟩ := hp81
          refine lv_goto (tgt := 113) hx hb dX3_make_84 (by decide) ?_
          refine lv_iconst (v := (nI (1))) hx hb dX3_make_113 (by decide) ?_
          exact RET (nI (1)) (bW cI cO a ca ia n O (va_up I 8 (I 3)) (va_up J 1 (σ77)) (va_up F 2 (prt (K 3) (I 5) (I 3) (I 3) g77)) E K G0) _ _ ls _ _ _ (Or.inr ⟨by omega, rfl, (prt (K 3) (I 5) (I 3) (I 3) g77), (F 3), (F 4), (F 5), (F 6), (F 7), (σ77), OrdIs.p1 k47_0 eσ43 hg77, rfl⟩) G (by first | (simp only []; omega) | decide) (by first | (simp only []; omega) | decide) rfl dX3_make_114
        by_cases k47_1 : wy = 2
        · skip
          refine r_top (y := nI 2) (by rw [k47_1]) ?_
          refine lv_tableIn (off := (40)) (tgt := 87) hx hb dX3_make_47 (by decide) (by decide) (by decide) (by decide) ?_
          refine lv_aload_n hx hb dX3_make_87 rfl (lv_at hl 0 rfl) ?_
          refine r_av G hA (r_rV (na := 0) (As := []) (rest := []) C G (c_X3_makeWeighted l D cI cO cL a ca ia n O (va_up I 8 (I 3)) (va_up J 1 (σ43)) F E K G0 hn rfl hWt (by show 0 < wsum (F 1) (I 3) ∨ I 3 = 0; omega)) gX3_make_X3_makeWeighted rfl (by decide +kernel) ⟨Nat.le_of_ble_eq_true rfl, Nat.le_of_ble_eq_true rfl⟩ 4 rfl rfl rfl hl.1 rfl (Nat.le_of_ble_eq_true rfl) dX3_make_88 ⟨by first | (simp only []; omega) | decide, by first | (simp only []; omega) | decide⟩) (fun w88 H locs hp88 G => ?_)
          obtain ⟨g88, σ88, hg88, rfl⟩ := hp88
          replace hg88 : isW (F 1) (I 3) (σ43) g88 := hg88
          refine lv_goto (tgt := 113) hx hb dX3_make_91 (by decide) ?_
          refine lv_iconst (v := (nI (1))) hx hb dX3_make_113 (by decide) ?_
          exact RET (nI (1)) (bW cI cO a ca ia n O (va_up I 8 (I 3)) (va_up J 1 (σ88)) (va_up F 2 g88) E K G0) _ _ ls _ _ _ (Or.inr ⟨by omega, rfl, g88, (F 3), (F 4), (F 5), (F 6), (F 7), (σ88), OrdIs.p2 k47_1 eσ43 hg88, rfl⟩) G (by first | (simp only []; omega) | decide) (by first | (simp only []; omega) | decide) rfl dX3_make_114
        by_cases k47_2 : wy = 3
        · skip
          refine r_top (y := nI 3) (by rw [k47_2]) ?_
          refine lv_tableIn (off := (47)) (tgt := 94) hx hb dX3_make_47 (by decide) (by decide) (by decide) (by decide) ?_
          refine lv_aload_n hx hb dX3_make_94 rfl (lv_at hl 0 rfl) ?_
          refine lv_iload_n hx hb dX3_make_95 rfl (lv_at hl 2 rfl) ?_
          refine r_av G hA (r_rV (na := 1) (As := [.int (nI (rd))]) (rest := []) C G (c_X3_makeBalanced l D cI cO cL a ca ia n O (va_up I 8 (I 3)) (va_up J 1 (σ43)) F E K G0 rd hn rfl hn hLb (by omega)) gX3_make_X3_makeBalanced rfl (by decide +kernel) ⟨Nat.le_of_ble_eq_true rfl, Nat.le_of_ble_eq_true rfl⟩ 4 rfl rfl rfl hl.1 rfl (Nat.le_of_ble_eq_true rfl) dX3_make_96 ⟨by first | (simp only []; omega) | decide, by first | (simp only []; omega) | decide⟩) (fun w96 H locs hp96 G => ?_)
          obtain ⟨g96, h3_96, h4_96, h5_96, h6_96, h7_96, σ96, hg96, hl96, rfl⟩ := hp96
          replace hg96 : isB (J 0) rd (I 3) (F 0) g96 := hg96
          replace hl96 : ∀ i, i < I 3 → g96 i < I 3 := hl96
          refine lv_goto (tgt := 113) hx hb dX3_make_99 (by decide) ?_
          refine lv_iconst (v := (nI (1))) hx hb dX3_make_113 (by decide) ?_
          exact RET (nI (1)) (bW cI cO a ca ia n O (va_up I 8 (I 3)) (va_up J 1 (σ96)) (va_up (va_up (va_up (va_up (va_up (va_up F 2 g96) 3 h3_96) 4 h4_96) 5 h5_96) 6 h6_96) 7 h7_96) E K G0) _ _ ls _ _ _ (Or.inr ⟨by omega, rfl, g96, h3_96, h4_96, h5_96, h6_96, h7_96, (σ96), OrdIs.p3 k47_2 hl96 hg96, rfl⟩) G (by first | (simp only []; omega) | decide) (by first | (simp only []; omega) | decide) rfl dX3_make_114
        by_cases k47_3 : wy = 4
        · skip
          refine r_top (y := nI 4) (by rw [k47_3]) ?_
          refine lv_tableIn (off := (55)) (tgt := 102) hx hb dX3_make_47 (by decide) (by decide) (by decide) (by decide) ?_
          refine lv_aload_n hx hb dX3_make_102 rfl (lv_at hl 0 rfl) ?_
          refine r_av G hA (r_rV (na := 0) (As := []) (rest := []) C G (c_X3_makeBuffered l D cI cO cL a ca ia n O (va_up I 8 (I 3)) (va_up J 1 (σ43)) F E K G0 (by show I 3 ≤ 60; omega) h6) gX3_make_X3_makeBuffered rfl (by decide +kernel) ⟨Nat.le_of_ble_eq_true rfl, Nat.le_of_ble_eq_true rfl⟩ 4 rfl rfl rfl hl.1 rfl (Nat.le_of_ble_eq_true rfl) dX3_make_103 ⟨by first | (simp only []; omega) | decide, by first | (simp only []; omega) | decide⟩) (fun w103 H locs hp103 G => ?_)
          obtain ⟨g103, b103, σ103, hg103, hl103, rfl⟩ := hp103
          replace hg103 : ∀ i, i < I 3 → g103 i = buO (I 3) (min (I 3) (I 6)) (σ43) i := hg103
          replace hl103 : ∀ i, i < I 3 → g103 i < I 3 := hl103
          refine lv_goto (tgt := 113) hx hb dX3_make_106 (by decide) ?_
          refine lv_iconst (v := (nI (1))) hx hb dX3_make_113 (by decide) ?_
          exact RET (nI (1)) (bW cI cO a ca ia n O (va_up I 8 (I 3)) (va_up J 1 (σ103)) (va_up (va_up F 2 g103) 3 b103) E K G0) _ _ ls _ _ _ (Or.inr ⟨by omega, rfl, g103, b103, (F 4), (F 5), (F 6), (F 7), (σ103), OrdIs.p4 k47_3 eσ43 hl103 hg103, rfl⟩) G (by first | (simp only []; omega) | decide) (by first | (simp only []; omega) | decide) rfl dX3_make_114
        have ko47 : (nI (wy)).toInt < (1) ∨ (4) < (nI (wy)).toInt := by rw [nI_toInt (by omega)]; omega
        refine lv_tableOut (tgt := 109) hx hb dX3_make_47 ko47 (by decide) ?_
        refine lv_aload_n hx hb dX3_make_109 rfl (lv_at hl 0 rfl) ?_
        refine r_av G hA (r_rV (na := 0) (As := []) (rest := []) C G (c_X3_makePlain l D cI cO cL a ca ia n O (va_up I 8 (I 3)) (va_up J 1 (σ43)) F E K G0 (by show I 3 ≤ 60; omega)) gX3_make_X3_makePlain rfl (by decide +kernel) ⟨Nat.le_of_ble_eq_true rfl, Nat.le_of_ble_eq_true rfl⟩ 4 rfl rfl rfl hl.1 rfl (Nat.le_of_ble_eq_true rfl) dX3_make_110 ⟨by first | (simp only []; omega) | decide, by first | (simp only []; omega) | decide⟩) (fun w110 H locs hp110 G => ?_)
        obtain ⟨g110, σ110, hg110, rfl⟩ := hp110
        replace hg110 : ∀ i, i < I 3 → g110 i = plO (σ43) (I 3) i := hg110
        refine lv_iconst (v := (nI (1))) hx hb dX3_make_113 (by decide) ?_
        exact RET (nI (1)) (bW cI cO a ca ia n O (va_up I 8 (I 3)) (va_up J 1 (σ110)) (va_up F 2 g110) E K G0) _ _ ls _ _ _ (Or.inr ⟨by omega, rfl, g110, (F 3), (F 4), (F 5), (F 6), (F 7), (σ110), OrdIs.p0 (by omega) eσ43 hg110, rfl⟩) G (by first | (simp only []; omega) | decide) (by first | (simp only []; omega) | decide) rfl dX3_make_114
      · skip
        replace c35 : ((wsum (F 1) (I 3) : Nat) : Int) = (0) := (cv_eq (nI_toInt (by omega)) (by decide)).mp c35
        refine lv_iconst (v := (nI (0))) hx hb dX3_make_38 (by decide) ?_
        exact RET (nI (0)) (bW cI cO a ca ia n O (va_up I 8 (I 3)) J F E K G0) _ _ ls _ _ _ (Or.inl ⟨by omega, rfl, rfl⟩) G (by first | (simp only []; omega) | decide) (by first | (simp only []; omega) | decide) rfl dX3_make_39
set_option maxHeartbeats 4000000 in
set_option maxRecDepth 100000 in
theorem c_X7_orders (l : Launch) (D : va_G) (cI cO cL : ClassId) (b : Nat → Nat) (I : Nat → Nat) (J : Nat → Int64) (F : Nat → Nat → Nat) (G0 : Nat → Nat → Int32) (wy rd : Nat) (h1 : I 1 ≤ 60) (hLb : ∀ j, j < I 1 → F 1 j < 8) (hWt : ∀ j, j < I 1 → F 2 j ≤ 1000) (hL : ∀ j, j < I 1 → F 3 j ≤ 1600) (h3 : 1 ≤ I 3 ∧ I 3 ≤ 60) (h4 : 1 ≤ I 4 ∧ I 4 ≤ 60) (hwy : wy ≤ 4) (hrd : rd ≤ 1000) : Ki l yX7_orders wsX7_orders { frames := 5, cells := 0, slots := 0, locals := 119 } D (TY cI cO cL) [.ref (b 0), .int (nI (wy)), .int (nI (rd))] (mW cI b I J F G0) (fun r w => ((wy = 2 ∧ I 1 ≠ 0 ∧ wsum (F 2) (I 1) = 0) ∧ r = 0 ∧ ∃ g σ, w = mW cI b I (va_up J 1 (σ)) (va_up F 6 g) G0) ∨ (¬ (wy = 2 ∧ I 1 ≠ 0 ∧ wsum (F 2) (I 1) = 0) ∧ r = 1 ∧ ∃ g q7 q8 q9 q10 q11 σ, OrdIs (I 1) (I 3) (I 4) (F 1) (F 2) (F 3) (J 0) wy rd g ∧ w = mW cI b I (va_up J 1 (σ)) (va_up (va_up (va_up (va_up (va_up (va_up F 6 g) 7 q7) 8 q8) 9 q9) 10 q10) 11 q11) G0)) := by
  refine Ki.mk (cc := cX7_orders) (maxL := 4) (rt := .boolean) (own := RX7) (by decide) rfl rfl (Nat.le_of_ble_eq_true rfl) ?_
  intro p e s m below meth c A Q ls C hname hA G hl RET
  obtain ⟨⟨hx, hb, hml, hown, hts⟩, hK, hN⟩ := id C
  have hl : lv_has ls 4 [(0, .ref (b 0)), (1, .int (nI (wy))), (2, .int (nI (rd)))] := hl
  have hX7 : ∀ w ∈ u_ws RX7 TX7 30, w ∈ wsX7_orders := by decide +kernel
  have hw1 := wsum_le (w := F 2) hWt (I 1) (by omega)
  refine lv_iconst (v := (nI (0))) hx hb dX7_orders_0 (by decide) ?_
  refine lv_istore_n (lv' := [(3, .int (nI (0))), (0, .ref (b 0)), (1, .int (nI (wy))), (2, .int (nI (rd)))]) hx hb dX7_orders_1 rfl hl (by decide) rfl (fun ls hl => ?_)
  have lp2 : ∀ (fuel2 : Nat) (k : Nat) (hm : I 1 - k < fuel2) (hk : k ≤ I 1) (H : Heap) (locs : List Loc) (ls : Array Slot), Wd A s.heap D (mW cI b I J (va_up F 6 (idn k (F 6))) G0) H locs → lv_has ls 4 [(0, .ref (b 0)), (1, .int (nI (wy))), (2, .int (nI (rd))), (3, .int (nI (k)))] → W p l e ({ frames := 5, cells := 0, slots := 0, locals := 119 } : Room) s m ([.ref (b 0), .int (nI (wy)), .int (nI (rd))] : List Value).toArray below meth c H locs 0 0 Q (F0 m 2 ls []) := by
    intro fuel2
    induction fuel2 with
    | zero => intro k hm hk; exact absurd hm (by omega)
    | succ fuel2 ih2 =>
      intro k hm hk H locs ls G hl
      refine lv_iload_n hx hb dX7_orders_2 rfl (lv_at hl 3 rfl) ?_
      refine lv_aload_n hx hb dX7_orders_3 rfl (lv_at hl 0 rfl) ?_
      refine r_get (v := .int (nI (I 1))) C G hX7 0 rfl rfl 3 (by decide) (by decide +kernel) rfl dX7_orders_4 ?_
      refine lv_icmp_ge (tgt := 23) hx hb dX7_orders_7 (by decide) (fun c7 => ?_) (fun c7 => ?_)
      · skip
        replace c7 : ((I 1 : Nat) : Int) ≤ ((k : Nat) : Int) := (cv_le (nI_toInt (by omega)) (nI_toInt (by omega))).mp c7
        obtain rfl : k = I 1 := by omega
        refine lv_aload_n hx hb dX7_orders_23 rfl (lv_at hl 0 rfl) ?_
        refine r_av G hA (r_rV (na := 0) (As := []) (rest := []) C G (c_X7_begin l D cI cO cL b I J (va_up F 6 (idn (I 1) (F 6))) G0) gX7_orders_X7_begin rfl (by decide +kernel) ⟨Nat.le_of_ble_eq_true rfl, Nat.le_of_ble_eq_true rfl⟩ 0 rfl rfl rfl hl.1 rfl (Nat.le_of_ble_eq_true rfl) dX7_orders_24 ⟨by first | (simp only []; omega) | decide, by first | (simp only []; omega) | decide⟩) (fun w24 H locs hp24 G => ?_)
        obtain ⟨rfl⟩ := hp24
        refine lv_aload_n hx hb dX7_orders_27 rfl (lv_at hl 0 rfl) ?_
        refine lv_iload_n hx hb dX7_orders_28 rfl (lv_at hl 1 rfl) ?_
        refine lv_i2l (v := lN (wy)) hx hb dX7_orders_29 (nI_l (by omega)) ?_
        refine r_av G hA (r_rV (na := 1) (As := [.long (lN (wy))]) (rest := []) C G (c_X7_with l D cI cO cL b I (va_up J 1 (J 0)) (va_up F 6 (idn (I 1) (F 6))) G0 (lN (wy))) gX7_orders_X7_with rfl (by decide +kernel) ⟨Nat.le_of_ble_eq_true rfl, Nat.le_of_ble_eq_true rfl⟩ 0 rfl rfl rfl hl.1 rfl (Nat.le_of_ble_eq_true rfl) dX7_orders_30 ⟨by first | (simp only []; omega) | decide, by first | (simp only []; omega) | decide⟩) (fun w30 H locs hp30 G => ?_)
        obtain ⟨σ30, eσ30, rfl⟩ := hp30
        replace eσ30 : σ30 = keyv (J 0) (lN (wy)) := eσ30
        refine lv_aload_n hx hb dX7_orders_33 rfl (lv_at hl 0 rfl) ?_
        refine lv_iload_n hx hb dX7_orders_34 rfl (lv_at hl 2 rfl) ?_
        refine lv_i2l (v := lN (rd)) hx hb dX7_orders_35 (nI_l (by omega)) ?_
        refine r_av G hA (r_rV (na := 1) (As := [.long (lN (rd))]) (rest := []) C G (c_X7_with l D cI cO cL b I (va_up J 1 (σ30)) (va_up F 6 (idn (I 1) (F 6))) G0 (lN (rd))) gX7_orders_X7_with rfl (by decide +kernel) ⟨Nat.le_of_ble_eq_true rfl, Nat.le_of_ble_eq_true rfl⟩ 0 rfl rfl rfl hl.1 rfl (Nat.le_of_ble_eq_true rfl) dX7_orders_36 ⟨by first | (simp only []; omega) | decide, by first | (simp only []; omega) | decide⟩) (fun w36 H locs hp36 G => ?_)
        obtain ⟨σ36, eσ36, rfl⟩ := hp36
        replace eσ36 : σ36 = keyv (σ30) (lN (rd)) := eσ36
        have eS : σ36 = strm (J 0) wy rd := by rw [eσ36, eσ30]; rfl
        refine lv_iload_n hx hb dX7_orders_39 rfl (lv_at hl 1 rfl) ?_
        by_cases k40_0 : wy = 0
        · skip
          refine r_top (y := nI 0) (by rw [k40_0]) ?_
          refine lv_tableIn (off := (32)) (tgt := 72) hx hb dX7_orders_40 (by decide) (by decide) (by decide) (by decide) ?_
          refine lv_aload_n hx hb dX7_orders_72 rfl (lv_at hl 0 rfl) ?_
          refine lv_aload_n hx hb dX7_orders_73 rfl (lv_at hl 0 rfl) ?_
          refine r_get (v := .ref (b 8)) C G hX7 0 rfl rfl 15 (by decide) (by decide +kernel) rfl dX7_orders_74 ?_
          refine lv_iconst (v := (nI (0))) hx hb dX7_orders_77 (by decide) ?_
          refine lv_aload_n hx hb dX7_orders_78 rfl (lv_at hl 0 rfl) ?_
          refine r_get (v := .int (nI (I 1))) C G hX7 0 rfl rfl 3 (by decide) (by decide +kernel) rfl dX7_orders_79 ?_
          refine r_av G hA (r_rV (na := 3) (As := [.ref (b 8), .int (nI (0)), .int (nI (I 1))]) (rest := []) C G (c_X7_mixes_o l D cI cO cL b I (va_up J 1 (σ36)) (va_up F 6 (idn (I 1) (F 6))) G0 0 (I 1) (by omega)) gX7_orders_X7_mixes rfl (by decide +kernel) ⟨Nat.le_of_ble_eq_true rfl, Nat.le_of_ble_eq_true rfl⟩ 0 rfl rfl rfl hl.1 rfl (Nat.le_of_ble_eq_true rfl) dX7_orders_82 ⟨by first | (simp only []; omega) | decide, by first | (simp only []; omega) | decide⟩) (fun w82 H locs hp82 G => ?_)
          obtain ⟨g82, σ82, eg82, rfl⟩ := hp82
          replace eg82 : (g82, σ82) = shf dr nxg 0 ((I 1) - 1) (idn (I 1) (F 6)) (σ36) := eg82
          refine lv_iconst (v := (nI (1))) hx hb dX7_orders_85 (by decide) ?_
          exact RET (nI (1)) (mW cI b I (va_up J 1 (σ82)) (va_up F 6 g82) G0) _ _ ls _ _ _ (Or.inr ⟨by omega, rfl, g82, (F 7), (F 8), (F 9), (F 10), (F 11), (σ82), OrdIs.p0 k40_0 eS (plO_of eg82), rfl⟩) G (by first | (simp only []; omega) | decide) (by first | (simp only []; omega) | decide) rfl dX7_orders_86
        by_cases k40_1 : wy = 1
        · skip
          refine r_top (y := nI 1) (by rw [k40_1]) ?_
          refine lv_tableIn (off := (47)) (tgt := 87) hx hb dX7_orders_40 (by decide) (by decide) (by decide) (by decide) ?_
          refine lv_aload_n hx hb dX7_orders_87 rfl (lv_at hl 0 rfl) ?_
          refine lv_aload_n hx hb dX7_orders_88 rfl (lv_at hl 0 rfl) ?_
          refine r_get (v := .ref (b 8)) C G hX7 0 rfl rfl 15 (by decide) (by decide +kernel) rfl dX7_orders_89 ?_
          refine lv_iconst (v := (nI (0))) hx hb dX7_orders_92 (by decide) ?_
          refine lv_aload_n hx hb dX7_orders_93 rfl (lv_at hl 0 rfl) ?_
          refine r_get (v := .int (nI (I 1))) C G hX7 0 rfl rfl 3 (by decide) (by decide +kernel) rfl dX7_orders_94 ?_
          refine r_av G hA (r_rV (na := 3) (As := [.ref (b 8), .int (nI (0)), .int (nI (I 1))]) (rest := []) C G (c_X7_mixes_o l D cI cO cL b I (va_up J 1 (σ36)) (va_up F 6 (idn (I 1) (F 6))) G0 0 (I 1) (by omega)) gX7_orders_X7_mixes rfl (by decide +kernel) ⟨Nat.le_of_ble_eq_true rfl, Nat.le_of_ble_eq_true rfl⟩ 0 rfl rfl rfl hl.1 rfl (Nat.le_of_ble_eq_true rfl) dX7_orders_97 ⟨by first | (simp only []; omega) | decide, by first | (simp only []; omega) | decide⟩) (fun w97 H locs hp97 G => ?_)
          obtain ⟨g97, σ97, eg97, rfl⟩ := hp97
          replace eg97 : (g97, σ97) = shf dr nxg 0 ((I 1) - 1) (idn (I 1) (F 6)) (σ36) := eg97
          have hg97 := plO_of eg97
          have hbf : ∀ i, i < I 1 → g97 i < I 1 := fun i hi => by rw [hg97 i hi]; exact plO_lt i hi
          refine lv_aload_n hx hb dX7_orders_100 rfl (lv_at hl 0 rfl) ?_
          refine r_av G hA (r_rV (na := 0) (As := []) (rest := []) C G (c_X7_byLengths l D cI cO cL b I (va_up J 1 (σ97)) (va_up F 6 g97) G0 h1 hL h3 hbf) gX7_orders_X7_byLengths rfl (by decide +kernel) ⟨Nat.le_of_ble_eq_true rfl, Nat.le_of_ble_eq_true rfl⟩ 0 rfl rfl rfl hl.1 rfl (Nat.le_of_ble_eq_true rfl) dX7_orders_101 ⟨by first | (simp only []; omega) | decide, by first | (simp only []; omega) | decide⟩) (fun w101 H locs hp101 G => ?_)
          obtain ⟨rfl⟩ := hp101
          refine lv_iconst (v := (nI (1))) hx hb dX7_orders_104 (by decide) ?_
          exact RET (nI (1)) (mW cI b I (va_up J 1 (σ97)) (va_up F 6 (prt (F 3) (I 3) (I 1) (I 1) g97)) G0) _ _ ls _ _ _ (Or.inr ⟨by omega, rfl, (prt (F 3) (I 3) (I 1) (I 1) g97), (F 7), (F 8), (F 9), (F 10), (F 11), (σ97), OrdIs.p1 k40_1 eS hg97, rfl⟩) G (by first | (simp only []; omega) | decide) (by first | (simp only []; omega) | decide) rfl dX7_orders_105
        by_cases k40_2 : wy = 2
        · skip
          refine r_top (y := nI 2) (by rw [k40_2]) ?_
          refine lv_tableIn (off := (66)) (tgt := 106) hx hb dX7_orders_40 (by decide) (by decide) (by decide) (by decide) ?_
          refine lv_aload_n hx hb dX7_orders_106 rfl (lv_at hl 0 rfl) ?_
          refine r_ai G hA (r_rV (na := 0) (As := []) (rest := []) C G (c_X7_byWeights l D cI cO cL b I (va_up J 1 (σ36)) (va_up F 6 (idn (I 1) (F 6))) G0 h1 hWt) gX7_orders_X7_byWeights rfl (by decide +kernel) ⟨Nat.le_of_ble_eq_true rfl, Nat.le_of_ble_eq_true rfl⟩ 0 rfl rfl rfl hl.1 rfl (Nat.le_of_ble_eq_true rfl) dX7_orders_107 ⟨by first | (simp only []; omega) | decide, by first | (simp only []; omega) | decide⟩) (fun r107 w107 H locs hp107 G => ?_)
          rcases hp107 with ⟨hz107, rfl, rfl⟩ | ⟨hz107, hs107, rfl, rfl⟩ | ⟨hs107, rfl, g107, σ107, hg107, rfl⟩
          · skip
            exact RET (nI (1)) (mW cI b I (va_up J 1 (σ36)) (va_up F 6 (idn (I 1) (F 6))) G0) _ _ ls _ _ _ (Or.inr ⟨by omega, rfl, (idn (I 1) (F 6)), (F 7), (F 8), (F 9), (F 10), (F 11), (σ36), OrdIs.p2 k40_2 eS (fun q hq => by omega), rfl⟩) G (by first | (simp only []; omega) | decide) (by first | (simp only []; omega) | decide) rfl dX7_orders_110
          · skip
            replace hs107 : wsum (F 2) (I 1) = 0 := hs107
            exact RET (nI (0)) (mW cI b I (va_up J 1 (σ36)) (va_up F 6 (idn (I 1) (F 6))) G0) _ _ ls _ _ _ (Or.inl ⟨by omega, rfl, _, _, rfl⟩) G (by first | (simp only []; omega) | decide) (by first | (simp only []; omega) | decide) rfl dX7_orders_110
          · skip
            replace hs107 : 0 < wsum (F 2) (I 1) := hs107
            replace hg107 : isW (F 2) (I 1) (σ36) g107 := hg107
            exact RET (nI (1)) (mW cI b I (va_up J 1 (σ107)) (va_up F 6 g107) G0) _ _ ls _ _ _ (Or.inr ⟨by omega, rfl, g107, (F 7), (F 8), (F 9), (F 10), (F 11), (σ107), OrdIs.p2 k40_2 eS hg107, rfl⟩) G (by first | (simp only []; omega) | decide) (by first | (simp only []; omega) | decide) rfl dX7_orders_110
        by_cases k40_3 : wy = 3
        · skip
          refine r_top (y := nI 3) (by rw [k40_3]) ?_
          refine lv_tableIn (off := (71)) (tgt := 111) hx hb dX7_orders_40 (by decide) (by decide) (by decide) (by decide) ?_
          refine lv_aload_n hx hb dX7_orders_111 rfl (lv_at hl 0 rfl) ?_
          refine lv_iload_n hx hb dX7_orders_112 rfl (lv_at hl 2 rfl) ?_
          refine r_av G hA (r_rV (na := 1) (As := [.int (nI (rd))]) (rest := []) C G (c_X7_balanced l D cI cO cL b I (va_up J 1 (σ36)) (va_up F 6 (idn (I 1) (F 6))) G0 rd h1 hLb (by omega)) gX7_orders_X7_balanced rfl (by decide +kernel) ⟨Nat.le_of_ble_eq_true rfl, Nat.le_of_ble_eq_true rfl⟩ 0 rfl rfl rfl hl.1 rfl (Nat.le_of_ble_eq_true rfl) dX7_orders_113 ⟨by first | (simp only []; omega) | decide, by first | (simp only []; omega) | decide⟩) (fun w113 H locs hp113 G => ?_)
          obtain ⟨g113, h7_113, h8_113, h9_113, h10_113, h11_113, σ113, hg113, hl113, rfl⟩ := hp113
          replace hg113 : isB (J 0) rd (I 1) (F 1) g113 := hg113
          replace hl113 : ∀ i, i < I 1 → g113 i < I 1 := hl113
          refine lv_iconst (v := (nI (1))) hx hb dX7_orders_116 (by decide) ?_
          exact RET (nI (1)) (mW cI b I (va_up J 1 (σ113)) (va_up (va_up (va_up (va_up (va_up (va_up F 6 g113) 7 h7_113) 8 h8_113) 9 h9_113) 10 h10_113) 11 h11_113) G0) _ _ ls _ _ _ (Or.inr ⟨by omega, rfl, g113, h7_113, h8_113, h9_113, h10_113, h11_113, (σ113), OrdIs.p3 k40_3 hl113 hg113, rfl⟩) G (by first | (simp only []; omega) | decide) (by first | (simp only []; omega) | decide) rfl dX7_orders_117
        have ko40 : (nI (wy)).toInt < (0) ∨ (3) < (nI (wy)).toInt := by rw [nI_toInt (by omega)]; omega
        refine lv_tableOut (tgt := 118) hx hb dX7_orders_40 ko40 (by decide) ?_
        refine lv_aload_n hx hb dX7_orders_118 rfl (lv_at hl 0 rfl) ?_
        refine r_av G hA (r_rV (na := 0) (As := []) (rest := []) C G (c_X7_buffered l D cI cO cL b I (va_up J 1 (σ36)) (va_up F 6 (idn (I 1) (F 6))) G0 h1 h4) gX7_orders_X7_buffered rfl (by decide +kernel) ⟨Nat.le_of_ble_eq_true rfl, Nat.le_of_ble_eq_true rfl⟩ 0 rfl rfl rfl hl.1 rfl (Nat.le_of_ble_eq_true rfl) dX7_orders_119 ⟨by first | (simp only []; omega) | decide, by first | (simp only []; omega) | decide⟩) (fun w119 H locs hp119 G => ?_)
        obtain ⟨g119, b119, σ119, hg119, hl119, rfl⟩ := hp119
        replace hg119 : ∀ i, i < I 1 → g119 i = buO (I 1) (min (I 1) (I 4)) (σ36) i := hg119
        replace hl119 : ∀ i, i < I 1 → g119 i < I 1 := hl119
        refine lv_iconst (v := (nI (1))) hx hb dX7_orders_122 (by decide) ?_
        exact RET (nI (1)) (mW cI b I (va_up J 1 (σ119)) (va_up (va_up F 6 g119) 7 b119) G0) _ _ ls _ _ _ (Or.inr ⟨by omega, rfl, g119, b119, (F 8), (F 9), (F 10), (F 11), (σ119), OrdIs.p4 (by omega) eS hl119 hg119, rfl⟩) G (by first | (simp only []; omega) | decide) (by first | (simp only []; omega) | decide) rfl dX7_orders_123
      · skip
        replace c7 : ((k : Nat) : Int) < ((I 1 : Nat) : Int) := Int.not_le.mp (fun h => c7 ((cv_le (nI_toInt (by omega)) (nI_toInt (by omega))).mpr h))
        refine lv_aload_n hx hb dX7_orders_10 rfl (lv_at hl 0 rfl) ?_
        refine r_get (v := .ref (b 8)) C G hX7 0 rfl rfl 15 (by decide) (by decide +kernel) rfl dX7_orders_11 ?_
        refine lv_iload_n hx hb dX7_orders_14 rfl (lv_at hl 3 rfl) ?_
        refine lv_iload_n hx hb dX7_orders_15 rfl (lv_at hl 3 rfl) ?_
        refine r_iast (ws' := mW cI b I J (va_up F 6 (idn (k + 1) (F 6))) G0) C G 8 0 rfl rfl k rfl (by omega) (by omega) (by rw [nI_upd]; exact congrArg (fun (g : Nat → Nat) => fun i => nI (g i)) (idn_s _ _)) dX7_orders_16 rfl (fun H locs G => ?_)
        refine lv_iinc (v := nI (k + 1)) (lv' := [(3, .int (nI (k + 1))), (0, .ref (b 0)), (1, .int (nI (wy))), (2, .int (nI (rd)))]) hx hb dX7_orders_17 hl (k := 3) rfl (inc_n _ 1) (by decide) rfl (fun ls hl => ?_)
        refine lv_goto (tgt := 2) hx hb dX7_orders_20 (by decide) ?_
        exact ih2 (k + 1) (by omega) (by omega) _ _ _ (G.eq (rfl)) (lv_sub hl [1, 2, 3, 0] rfl)
  exact lp2 (I 1 + 1) 0 (by omega) (by omega) _ _ _ (G.eq (by rw [idn_0]; rfl)) (lv_sub hl [1, 2, 3, 0] rfl)
