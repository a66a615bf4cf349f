set_option maxHeartbeats 4000000 in
set_option maxRecDepth 100000 in
theorem c_X6_isLabel (l : Launch) (D : va_G) (cI cO cL : ClassId) (ws : va_W) (x : Int32) : Ki l yX6_isLabel wsX6_isLabel { frames := 0, cells := 0, slots := 0, locals := 0 } D (TY cI cO cL) [.int (x)] (ws) (fun rr w => (rr = 1 ∧ w = ws ∧ (0 ≤ x.toInt ∧ x.toInt ≤ 7)) ∨ (rr = 0 ∧ w = ws ∧ ¬ (0 ≤ x.toInt ∧ x.toInt ≤ 7))) := by
  refine Ki.mk (cc := cX6_isLabel) (maxL := 1) (rt := .boolean) (own := RX6) (by decide) rfl rfl (Nat.le_of_ble_eq_true rfl) ?_
  intro p e s m below meth c A Q ls C hname hA G hl RET
  obtain ⟨⟨hx, hb, hml, hown, hts⟩, hK, hN⟩ := id C
  have hl : lv_has ls 1 [(0, .int (x))] := hl
  refine lv_iload_n hx hb dX6_isLabel_0 rfl (lv_at hl 0 rfl) ?_
  refine lv_if_lt (tgt := 14) hx hb dX6_isLabel_1 (by decide) (fun c1 => ?_) (fun c1 => ?_)
  · skip
    replace c1 : (x).toInt < (0) := (cv_lt rfl (by decide)).mp c1
    refine lv_iconst (v := (nI (0))) hx hb dX6_isLabel_14 (by decide) ?_
    exact RET (nI (0)) (ws) _ _ ls _ _ _ (Or.inr ⟨rfl, rfl, by omega⟩) G (by first | (simp only []; omega) | decide) (by first | (simp only []; omega) | decide) rfl dX6_isLabel_15
  · skip
    replace c1 : (0) ≤ (x).toInt := Int.not_lt.mp (fun h => c1 ((cv_lt rfl (by decide)).mpr h))
    refine lv_iload_n hx hb dX6_isLabel_4 rfl (lv_at hl 0 rfl) ?_
    refine lv_bipush (v := (nI (8))) hx hb dX6_isLabel_5 (by decide) ?_
    refine lv_icmp_ge (tgt := 14) hx hb dX6_isLabel_7 (by decide) (fun c7 => ?_) (fun c7 => ?_)
    · skip
      replace c7 : ((8 : Nat) : Int) ≤ (x).toInt := (cv_le (nI_toInt (by omega)) rfl).mp c7
      refine lv_iconst (v := (nI (0))) hx hb dX6_isLabel_14 (by decide) ?_
      exact RET (nI (0)) (ws) _ _ ls _ _ _ (Or.inr ⟨rfl, rfl, by omega⟩) G (by first | (simp only []; omega) | decide) (by first | (simp only []; omega) | decide) rfl dX6_isLabel_15
    · skip
      replace c7 : (x).toInt < ((8 : Nat) : Int) := Int.not_le.mp (fun h => c7 ((cv_le (nI_toInt (by omega)) rfl).mpr h))
      refine lv_iconst (v := (nI (1))) hx hb dX6_isLabel_10 (by decide) ?_
      refine lv_goto (tgt := 15) hx hb dX6_isLabel_11 (by decide) ?_
      exact RET (nI (1)) (ws) _ _ ls _ _ _ (Or.inl ⟨rfl, rfl, by omega⟩) G (by first | (simp only []; omega) | decide) (by first | (simp only []; omega) | decide) rfl dX6_isLabel_15
set_option maxHeartbeats 4000000 in
set_option maxRecDepth 100000 in
theorem c_X6_isWeight (l : Launch) (D : va_G) (cI cO cL : ClassId) (ws : va_W) (x : Int32) : Ki l yX6_isWeight wsX6_isWeight { frames := 0, cells := 0, slots := 0, locals := 0 } D (TY cI cO cL) [.int (x)] (ws) (fun rr w => (rr = 1 ∧ w = ws ∧ (0 ≤ x.toInt ∧ x.toInt ≤ 1000)) ∨ (rr = 0 ∧ w = ws ∧ ¬ (0 ≤ x.toInt ∧ x.toInt ≤ 1000))) := by
  refine Ki.mk (cc := cX6_isWeight) (maxL := 1) (rt := .boolean) (own := RX6) (by decide) rfl rfl (Nat.le_of_ble_eq_true rfl) ?_
  intro p e s m below meth c A Q ls C hname hA G hl RET
  obtain ⟨⟨hx, hb, hml, hown, hts⟩, hK, hN⟩ := id C
  have hl : lv_has ls 1 [(0, .int (x))] := hl
  refine lv_iload_n hx hb dX6_isWeight_0 rfl (lv_at hl 0 rfl) ?_
  refine lv_if_lt (tgt := 15) hx hb dX6_isWeight_1 (by decide) (fun c1 => ?_) (fun c1 => ?_)
  · skip
    replace c1 : (x).toInt < (0) := (cv_lt rfl (by decide)).mp c1
    refine lv_iconst (v := (nI (0))) hx hb dX6_isWeight_15 (by decide) ?_
    exact RET (nI (0)) (ws) _ _ ls _ _ _ (Or.inr ⟨rfl, rfl, by omega⟩) G (by first | (simp only []; omega) | decide) (by first | (simp only []; omega) | decide) rfl dX6_isWeight_16
  · skip
    replace c1 : (0) ≤ (x).toInt := Int.not_lt.mp (fun h => c1 ((cv_lt rfl (by decide)).mpr h))
    refine lv_iload_n hx hb dX6_isWeight_4 rfl (lv_at hl 0 rfl) ?_
    refine lv_sipush (v := (nI (1000))) hx hb dX6_isWeight_5 (by decide) ?_
    refine lv_icmp_gt (tgt := 15) hx hb dX6_isWeight_8 (by decide) (fun c8 => ?_) (fun c8 => ?_)
    · skip
      replace c8 : ((1000 : Nat) : Int) < (x).toInt := (cv_lt (nI_toInt (by omega)) rfl).mp c8
      refine lv_iconst (v := (nI (0))) hx hb dX6_isWeight_15 (by decide) ?_
      exact RET (nI (0)) (ws) _ _ ls _ _ _ (Or.inr ⟨rfl, rfl, by omega⟩) G (by first | (simp only []; omega) | decide) (by first | (simp only []; omega) | decide) rfl dX6_isWeight_16
    · skip
      replace c8 : (x).toInt ≤ ((1000 : Nat) : Int) := Int.not_lt.mp (fun h => c8 ((cv_lt (nI_toInt (by omega)) rfl).mpr h))
      refine lv_iconst (v := (nI (1))) hx hb dX6_isWeight_11 (by decide) ?_
      refine lv_goto (tgt := 16) hx hb dX6_isWeight_12 (by decide) ?_
      exact RET (nI (1)) (ws) _ _ ls _ _ _ (Or.inl ⟨rfl, rfl, by omega⟩) G (by first | (simp only []; omega) | decide) (by first | (simp only []; omega) | decide) rfl dX6_isWeight_16
set_option maxHeartbeats 4000000 in
set_option maxRecDepth 100000 in
theorem c_X6_isSide (l : Launch) (D : va_G) (cI cO cL : ClassId) (ws : va_W) (x : Int32) : Ki l yX6_isSide wsX6_isSide { frames := 0, cells := 0, slots := 0, locals := 0 } D (TY cI cO cL) [.int (x)] (ws) (fun rr w => (rr = 1 ∧ w = ws ∧ (1 ≤ x.toInt ∧ x.toInt ≤ 40)) ∨ (rr = 0 ∧ w = ws ∧ ¬ (1 ≤ x.toInt ∧ x.toInt ≤ 40))) := by
  refine Ki.mk (cc := cX6_isSide) (maxL := 1) (rt := .boolean) (own := RX6) (by decide) rfl rfl (Nat.le_of_ble_eq_true rfl) ?_
  intro p e s m below meth c A Q ls C hname hA G hl RET
  obtain ⟨⟨hx, hb, hml, hown, hts⟩, hK, hN⟩ := id C
  have hl : lv_has ls 1 [(0, .int (x))] := hl
  refine lv_iload_n hx hb dX6_isSide_0 rfl (lv_at hl 0 rfl) ?_
  refine lv_iconst (v := (nI (1))) hx hb dX6_isSide_1 (by decide) ?_
  refine lv_icmp_lt (tgt := 15) hx hb dX6_isSide_2 (by decide) (fun c2 => ?_) (fun c2 => ?_)
  · skip
    replace c2 : (x).toInt < ((1 : Nat) : Int) := (cv_lt rfl (nI_toInt (by omega))).mp c2
    refine lv_iconst (v := (nI (0))) hx hb dX6_isSide_15 (by decide) ?_
    exact RET (nI (0)) (ws) _ _ ls _ _ _ (Or.inr ⟨rfl, rfl, by omega⟩) G (by first | (simp only []; omega) | decide) (by first | (simp only []; omega) | decide) rfl dX6_isSide_16
  · skip
    replace c2 : ((1 : Nat) : Int) ≤ (x).toInt := Int.not_lt.mp (fun h => c2 ((cv_lt rfl (nI_toInt (by omega))).mpr h))
    refine lv_iload_n hx hb dX6_isSide_5 rfl (lv_at hl 0 rfl) ?_
    refine lv_bipush (v := (nI (40))) hx hb dX6_isSide_6 (by decide) ?_
    refine lv_icmp_gt (tgt := 15) hx hb dX6_isSide_8 (by decide) (fun c8 => ?_) (fun c8 => ?_)
    · skip
      replace c8 : ((40 : Nat) : Int) < (x).toInt := (cv_lt (nI_toInt (by omega)) rfl).mp c8
      refine lv_iconst (v := (nI (0))) hx hb dX6_isSide_15 (by decide) ?_
      exact RET (nI (0)) (ws) _ _ ls _ _ _ (Or.inr ⟨rfl, rfl, by omega⟩) G (by first | (simp only []; omega) | decide) (by first | (simp only []; omega) | decide) rfl dX6_isSide_16
    · skip
      replace c8 : (x).toInt ≤ ((40 : Nat) : Int) := Int.not_lt.mp (fun h => c8 ((cv_lt (nI_toInt (by omega)) rfl).mpr h))
      refine lv_iconst (v := (nI (1))) hx hb dX6_isSide_11 (by decide) ?_
      refine lv_goto (tgt := 16) hx hb dX6_isSide_12 (by decide) ?_
      exact RET (nI (1)) (ws) _ _ ls _ _ _ (Or.inl ⟨rfl, rfl, by omega⟩) G (by first | (simp only []; omega) | decide) (by first | (simp only []; omega) | decide) rfl dX6_isSide_16
set_option maxHeartbeats 4000000 in
set_option maxRecDepth 100000 in
theorem c_X6_isWay (l : Launch) (D : va_G) (cI cO cL : ClassId) (ws : va_W) (x : Int32) : Ki l yX6_isWay wsX6_isWay { frames := 0, cells := 0, slots := 0, locals := 0 } D (TY cI cO cL) [.int (x)] (ws) (fun rr w => (rr = 1 ∧ w = ws ∧ (0 ≤ x.toInt ∧ x.toInt ≤ 4)) ∨ (rr = 0 ∧ w = ws ∧ ¬ (0 ≤ x.toInt ∧ x.toInt ≤ 4))) := by
  refine Ki.mk (cc := cX6_isWay) (maxL := 1) (rt := .boolean) (own := RX6) (by decide) rfl rfl (Nat.le_of_ble_eq_true rfl) ?_
  intro p e s m below meth c A Q ls C hname hA G hl RET
  obtain ⟨⟨hx, hb, hml, hown, hts⟩, hK, hN⟩ := id C
  have hl : lv_has ls 1 [(0, .int (x))] := hl
  refine lv_iload_n hx hb dX6_isWay_0 rfl (lv_at hl 0 rfl) ?_
  refine lv_if_lt (tgt := 13) hx hb dX6_isWay_1 (by decide) (fun c1 => ?_) (fun c1 => ?_)
  · skip
    replace c1 : (x).toInt < (0) := (cv_lt rfl (by decide)).mp c1
    refine lv_iconst (v := (nI (0))) hx hb dX6_isWay_13 (by decide) ?_
    exact RET (nI (0)) (ws) _ _ ls _ _ _ (Or.inr ⟨rfl, rfl, by omega⟩) G (by first | (simp only []; omega) | decide) (by first | (simp only []; omega) | decide) rfl dX6_isWay_14
  · skip
    replace c1 : (0) ≤ (x).toInt := Int.not_lt.mp (fun h => c1 ((cv_lt rfl (by decide)).mpr h))
    refine lv_iload_n hx hb dX6_isWay_4 rfl (lv_at hl 0 rfl) ?_
    refine lv_iconst (v := (nI (4))) hx hb dX6_isWay_5 (by decide) ?_
    refine lv_icmp_gt (tgt := 13) hx hb dX6_isWay_6 (by decide) (fun c6 => ?_) (fun c6 => ?_)
    · skip
      replace c6 : ((4 : Nat) : Int) < (x).toInt := (cv_lt (nI_toInt (by omega)) rfl).mp c6
      refine lv_iconst (v := (nI (0))) hx hb dX6_isWay_13 (by decide) ?_
      exact RET (nI (0)) (ws) _ _ ls _ _ _ (Or.inr ⟨rfl, rfl, by omega⟩) G (by first | (simp only []; omega) | decide) (by first | (simp only []; omega) | decide) rfl dX6_isWay_14
    · skip
      replace c6 : (x).toInt ≤ ((4 : Nat) : Int) := Int.not_lt.mp (fun h => c6 ((cv_lt (nI_toInt (by omega)) rfl).mpr h))
      refine lv_iconst (v := (nI (1))) hx hb dX6_isWay_9 (by decide) ?_
      refine lv_goto (tgt := 14) hx hb dX6_isWay_10 (by decide) ?_
      exact RET (nI (1)) (ws) _ _ ls _ _ _ (Or.inl ⟨rfl, rfl, by omega⟩) G (by first | (simp only []; omega) | decide) (by first | (simp only []; omega) | decide) rfl dX6_isWay_14
set_option maxHeartbeats 4000000 in
set_option maxRecDepth 100000 in
theorem c_X6_isRound (l : Launch) (D : va_G) (cI cO cL : ClassId) (ws : va_W) (x : Int32) : Ki l yX6_isRound wsX6_isRound { frames := 0, cells := 0, slots := 0, locals := 0 } D (TY cI cO cL) [.int (x)] (ws) (fun rr w => (rr = 1 ∧ w = ws ∧ (0 ≤ x.toInt ∧ x.toInt ≤ 1000)) ∨ (rr = 0 ∧ w = ws ∧ ¬ (0 ≤ x.toInt ∧ x.toInt ≤ 1000))) := by
  refine Ki.mk (cc := cX6_isRound) (maxL := 1) (rt := .boolean) (own := RX6) (by decide) rfl rfl (Nat.le_of_ble_eq_true rfl) ?_
  intro p e s m below meth c A Q ls C hname hA G hl RET
  obtain ⟨⟨hx, hb, hml, hown, hts⟩, hK, hN⟩ := id C
  have hl : lv_has ls 1 [(0, .int (x))] := hl
  refine lv_iload_n hx hb dX6_isRound_0 rfl (lv_at hl 0 rfl) ?_
  refine lv_if_lt (tgt := 15) hx hb dX6_isRound_1 (by decide) (fun c1 => ?_) (fun c1 => ?_)
  · skip
    replace c1 : (x).toInt < (0) := (cv_lt rfl (by decide)).mp c1
    refine lv_iconst (v := (nI (0))) hx hb dX6_isRound_15 (by decide) ?_
    exact RET (nI (0)) (ws) _ _ ls _ _ _ (Or.inr ⟨rfl, rfl, by omega⟩) G (by first | (simp only []; omega) | decide) (by first | (simp only []; omega) | decide) rfl dX6_isRound_16
  · skip
    replace c1 : (0) ≤ (x).toInt := Int.not_lt.mp (fun h => c1 ((cv_lt rfl (by decide)).mpr h))
    refine lv_iload_n hx hb dX6_isRound_4 rfl (lv_at hl 0 rfl) ?_
    refine lv_sipush (v := (nI (1000))) hx hb dX6_isRound_5 (by decide) ?_
    refine lv_icmp_gt (tgt := 15) hx hb dX6_isRound_8 (by decide) (fun c8 => ?_) (fun c8 => ?_)
    · skip
      replace c8 : ((1000 : Nat) : Int) < (x).toInt := (cv_lt (nI_toInt (by omega)) rfl).mp c8
      refine lv_iconst (v := (nI (0))) hx hb dX6_isRound_15 (by decide) ?_
      exact RET (nI (0)) (ws) _ _ ls _ _ _ (Or.inr ⟨rfl, rfl, by omega⟩) G (by first | (simp only []; omega) | decide) (by first | (simp only []; omega) | decide) rfl dX6_isRound_16
    · skip
      replace c8 : (x).toInt ≤ ((1000 : Nat) : Int) := Int.not_lt.mp (fun h => c8 ((cv_lt (nI_toInt (by omega)) rfl).mpr h))
      refine lv_iconst (v := (nI (1))) hx hb dX6_isRound_11 (by decide) ?_
      refine lv_goto (tgt := 16) hx hb dX6_isRound_12 (by decide) ?_
      exact RET (nI (1)) (ws) _ _ ls _ _ _ (Or.inl ⟨rfl, rfl, by omega⟩) G (by first | (simp only []; omega) | decide) (by first | (simp only []; omega) | decide) rfl dX6_isRound_16
set_option maxHeartbeats 4000000 in
set_option maxRecDepth 100000 in
theorem c_X5_allows (l : Launch) (D : va_G) (cI cO cL : ClassId) (a ca ia : Nat → Nat) (n : Nat) (O : Nat → Option Nat) (I : Nat → Nat) (J : Nat → Int64) (F : Nat → Nat → Nat) (E : Nat → Nat → Int32) (K : Nat → Nat → Nat) (G0 : Nat → Nat → Int32) (x y : Int32) : Ki l yX5_allows wsX5_allows { frames := 0, cells := 0, slots := 0, locals := 0 } D (TY cI cO cL) [.ref (a 2), .int (x), .int (y)] (bW cI cO a ca ia n O I J F E K G0) (fun rr w => (rr = 1 ∧ w = bW cI cO a ca ia n O I J F E K G0 ∧ ((x.toInt = 0 ∧ 0 ≤ y.toInt ∧ y.toInt ≤ 20) ∨ (x.toInt = 1 ∧ 1 ≤ y.toInt ∧ y.toInt ≤ 60) ∨ (x.toInt = 2 ∧ 1 ≤ y.toInt ∧ y.toInt ≤ 60) ∨ (x.toInt = 3 ∧ 0 ≤ y.toInt ∧ y.toInt ≤ 1))) ∨ (rr = 0 ∧ w = bW cI cO a ca ia n O I J F E K G0 ∧ ¬ ((x.toInt = 0 ∧ 0 ≤ y.toInt ∧ y.toInt ≤ 20) ∨ (x.toInt = 1 ∧ 1 ≤ y.toInt ∧ y.toInt ≤ 60) ∨ (x.toInt = 2 ∧ 1 ≤ y.toInt ∧ y.toInt ≤ 60) ∨ (x.toInt = 3 ∧ 0 ≤ y.toInt ∧ y.toInt ≤ 1)))) := by
  refine Ki.mk (cc := cX5_allows) (maxL := 3) (rt := .boolean) (own := RX5) (by decide) rfl rfl (Nat.le_of_ble_eq_true rfl) ?_
  intro p e s m below meth c A Q ls C hname hA G hl RET
  obtain ⟨⟨hx, hb, hml, hown, hts⟩, hK, hN⟩ := id C
  have hl : lv_has ls 3 [(0, .ref (a 2)), (1, .int (x)), (2, .int (y))] := hl
  refine lv_iload_n hx hb dX5_allows_0 rfl (lv_at hl 1 rfl) ?_
  by_cases k1_0 : x = nI 0
  · skip
    refine r_top (y := nI 0) k1_0 ?_
    refine lv_tableIn (off := (31)) (tgt := 32) hx hb dX5_allows_1 (by decide) (by decide) (by decide) (by decide) ?_
    refine lv_iload_n hx hb dX5_allows_32 rfl (lv_at hl 2 rfl) ?_
    refine lv_if_lt (tgt := 46) hx hb dX5_allows_33 (by decide) (fun c33 => ?_) (fun c33 => ?_)
    · skip
      replace c33 : (y).toInt < (0) := (cv_lt rfl (by decide)).mp c33
      refine lv_iconst (v := (nI (0))) hx hb dX5_allows_46 (by decide) ?_
      exact RET (nI (0)) (bW cI cO a ca ia n O I J F E K G0) _ _ ls _ _ _ (by have ex := congrArg Int32.toInt k1_0; rw [nI_toInt (show 0 < 2 ^ 31 by omega)] at ex; exact Or.inr ⟨rfl, rfl, by omega⟩) G (by first | (simp only []; omega) | decide) (by first | (simp only []; omega) | decide) rfl dX5_allows_47
    · skip
      replace c33 : (0) ≤ (y).toInt := Int.not_lt.mp (fun h => c33 ((cv_lt rfl (by decide)).mpr h))
      refine lv_iload_n hx hb dX5_allows_36 rfl (lv_at hl 2 rfl) ?_
      refine lv_bipush (v := (nI (20))) hx hb dX5_allows_37 (by decide) ?_
      refine lv_icmp_gt (tgt := 46) hx hb dX5_allows_39 (by decide) (fun c39 => ?_) (fun c39 => ?_)
      · skip
        replace c39 : ((20 : Nat) : Int) < (y).toInt := (cv_lt (nI_toInt (by omega)) rfl).mp c39
        refine lv_iconst (v := (nI (0))) hx hb dX5_allows_46 (by decide) ?_
        exact RET (nI (0)) (bW cI cO a ca ia n O I J F E K G0) _ _ ls _ _ _ (by have ex := congrArg Int32.toInt k1_0; rw [nI_toInt (show 0 < 2 ^ 31 by omega)] at ex; exact Or.inr ⟨rfl, rfl, by omega⟩) G (by first | (simp only []; omega) | decide) (by first | (simp only []; omega) | decide) rfl dX5_allows_47
      · skip
        replace c39 : (y).toInt ≤ ((20 : Nat) : Int) := Int.not_lt.mp (fun h => c39 ((cv_lt (nI_toInt (by omega)) rfl).mpr h))
        refine lv_iconst (v := (nI (1))) hx hb dX5_allows_42 (by decide) ?_
        refine lv_goto (tgt := 47) hx hb dX5_allows_43 (by decide) ?_
        exact RET (nI (1)) (bW cI cO a ca ia n O I J F E K G0) _ _ ls _ _ _ (by have ex := congrArg Int32.toInt k1_0; rw [nI_toInt (show 0 < 2 ^ 31 by omega)] at ex; exact Or.inl ⟨rfl, rfl, by omega⟩) G (by first | (simp only []; omega) | decide) (by first | (simp only []; omega) | decide) rfl dX5_allows_47
  by_cases k1_1 : x = nI 1
  · skip
    refine r_top (y := nI 1) k1_1 ?_
    refine lv_tableIn (off := (47)) (tgt := 48) hx hb dX5_allows_1 (by decide) (by decide) (by decide) (by decide) ?_
    refine lv_iload_n hx hb dX5_allows_48 rfl (lv_at hl 2 rfl) ?_
    refine lv_iconst (v := (nI (1))) hx hb dX5_allows_49 (by decide) ?_
    refine lv_icmp_lt (tgt := 63) hx hb dX5_allows_50 (by decide) (fun c50 => ?_) (fun c50 => ?_)
    · skip
      replace c50 : (y).toInt < ((1 : Nat) : Int) := (cv_lt rfl (nI_toInt (by omega))).mp c50
      refine lv_iconst (v := (nI (0))) hx hb dX5_allows_63 (by decide) ?_
      exact RET (nI (0)) (bW cI cO a ca ia n O I J F E K G0) _ _ ls _ _ _ (by have ex := congrArg Int32.toInt k1_1; rw [nI_toInt (show 1 < 2 ^ 31 by omega)] at ex; exact Or.inr ⟨rfl, rfl, by omega⟩) G (by first | (simp only []; omega) | decide) (by first | (simp only []; omega) | decide) rfl dX5_allows_64
    · skip
      replace c50 : ((1 : Nat) : Int) ≤ (y).toInt := Int.not_lt.mp (fun h => c50 ((cv_lt rfl (nI_toInt (by omega))).mpr h))
      refine lv_iload_n hx hb dX5_allows_53 rfl (lv_at hl 2 rfl) ?_
      refine lv_bipush (v := (nI (60))) hx hb dX5_allows_54 (by decide) ?_
      refine lv_icmp_gt (tgt := 63) hx hb dX5_allows_56 (by decide) (fun c56 => ?_) (fun c56 => ?_)
      · skip
        replace c56 : ((60 : Nat) : Int) < (y).toInt := (cv_lt (nI_toInt (by omega)) rfl).mp c56
        refine lv_iconst (v := (nI (0))) hx hb dX5_allows_63 (by decide) ?_
        exact RET (nI (0)) (bW cI cO a ca ia n O I J F E K G0) _ _ ls _ _ _ (by have ex := congrArg Int32.toInt k1_1; rw [nI_toInt (show 1 < 2 ^ 31 by omega)] at ex; exact Or.inr ⟨rfl, rfl, by omega⟩) G (by first | (simp only []; omega) | decide) (by first | (simp only []; omega) | decide) rfl dX5_allows_64
      · skip
        replace c56 : (y).toInt ≤ ((60 : Nat) : Int) := Int.not_lt.mp (fun h => c56 ((cv_lt (nI_toInt (by omega)) rfl).mpr h))
        refine lv_iconst (v := (nI (1))) hx hb dX5_allows_59 (by decide) ?_
        refine lv_goto (tgt := 64) hx hb dX5_allows_60 (by decide) ?_
        exact RET (nI (1)) (bW cI cO a ca ia n O I J F E K G0) _ _ ls _ _ _ (by have ex := congrArg Int32.toInt k1_1; rw [nI_toInt (show 1 < 2 ^ 31 by omega)] at ex; exact Or.inl ⟨rfl, rfl, by omega⟩) G (by first | (simp only []; omega) | decide) (by first | (simp only []; omega) | decide) rfl dX5_allows_64
  by_cases k1_2 : x = nI 2
  · skip
    refine r_top (y := nI 2) k1_2 ?_
    refine lv_tableIn (off := (47)) (tgt := 48) hx hb dX5_allows_1 (by decide) (by decide) (by decide) (by decide) ?_
    refine lv_iload_n hx hb dX5_allows_48 rfl (lv_at hl 2 rfl) ?_
    refine lv_iconst (v := (nI (1))) hx hb dX5_allows_49 (by decide) ?_
    refine lv_icmp_lt (tgt := 63) hx hb dX5_allows_50 (by decide) (fun c50 => ?_) (fun c50 => ?_)
    · skip
      replace c50 : (y).toInt < ((1 : Nat) : Int) := (cv_lt rfl (nI_toInt (by omega))).mp c50
      refine lv_iconst (v := (nI (0))) hx hb dX5_allows_63 (by decide) ?_
      exact RET (nI (0)) (bW cI cO a ca ia n O I J F E K G0) _ _ ls _ _ _ (by have ex := congrArg Int32.toInt k1_2; rw [nI_toInt (show 2 < 2 ^ 31 by omega)] at ex; exact Or.inr ⟨rfl, rfl, by omega⟩) G (by first | (simp only []; omega) | decide) (by first | (simp only []; omega) | decide) rfl dX5_allows_64
    · skip
      replace c50 : ((1 : Nat) : Int) ≤ (y).toInt := Int.not_lt.mp (fun h => c50 ((cv_lt rfl (nI_toInt (by omega))).mpr h))
      refine lv_iload_n hx hb dX5_allows_53 rfl (lv_at hl 2 rfl) ?_
      refine lv_bipush (v := (nI (60))) hx hb dX5_allows_54 (by decide) ?_
      refine lv_icmp_gt (tgt := 63) hx hb dX5_allows_56 (by decide) (fun c56 => ?_) (fun c56 => ?_)
      · skip
        replace c56 : ((60 : Nat) : Int) < (y).toInt := (cv_lt (nI_toInt (by omega)) rfl).mp c56
        refine lv_iconst (v := (nI (0))) hx hb dX5_allows_63 (by decide) ?_
        exact RET (nI (0)) (bW cI cO a ca ia n O I J F E K G0) _ _ ls _ _ _ (by have ex := congrArg Int32.toInt k1_2; rw [nI_toInt (show 2 < 2 ^ 31 by omega)] at ex; exact Or.inr ⟨rfl, rfl, by omega⟩) G (by first | (simp only []; omega) | decide) (by first | (simp only []; omega) | decide) rfl dX5_allows_64
      · skip
        replace c56 : (y).toInt ≤ ((60 : Nat) : Int) := Int.not_lt.mp (fun h => c56 ((cv_lt (nI_toInt (by omega)) rfl).mpr h))
        refine lv_iconst (v := (nI (1))) hx hb dX5_allows_59 (by decide) ?_
        refine lv_goto (tgt := 64) hx hb dX5_allows_60 (by decide) ?_
        exact RET (nI (1)) (bW cI cO a ca ia n O I J F E K G0) _ _ ls _ _ _ (by have ex := congrArg Int32.toInt k1_2; rw [nI_toInt (show 2 < 2 ^ 31 by omega)] at ex; exact Or.inl ⟨rfl, rfl, by omega⟩) G (by first | (simp only []; omega) | decide) (by first | (simp only []; omega) | decide) rfl dX5_allows_64
  by_cases k1_3 : x = nI 3
  · skip
    refine r_top (y := nI 3) k1_3 ?_
    refine lv_tableIn (off := (64)) (tgt := 65) hx hb dX5_allows_1 (by decide) (by decide) (by decide) (by decide) ?_
    refine lv_iload_n hx hb dX5_allows_65 rfl (lv_at hl 2 rfl) ?_
    refine lv_if_eq (tgt := 74) hx hb dX5_allows_66 (by decide) (fun c66 => ?_) (fun c66 => ?_)
    · skip
      replace c66 : (y).toInt = (0) := (cv_eq rfl (by decide)).mp c66
      refine lv_iconst (v := (nI (1))) hx hb dX5_allows_74 (by decide) ?_
      refine lv_goto (tgt := 79) hx hb dX5_allows_75 (by decide) ?_
      exact RET (nI (1)) (bW cI cO a ca ia n O I J F E K G0) _ _ ls _ _ _ (by have ex := congrArg Int32.toInt k1_3; rw [nI_toInt (show 3 < 2 ^ 31 by omega)] at ex; exact Or.inl ⟨rfl, rfl, by omega⟩) G (by first | (simp only []; omega) | decide) (by first | (simp only []; omega) | decide) rfl dX5_allows_79
    · skip
      replace c66 : ¬ (y).toInt = (0) := fun h => c66 ((cv_eq rfl (by decide)).mpr h)
      refine lv_iload_n hx hb dX5_allows_69 rfl (lv_at hl 2 rfl) ?_
      refine lv_iconst (v := (nI (1))) hx hb dX5_allows_70 (by decide) ?_
      refine lv_icmp_ne (tgt := 78) hx hb dX5_allows_71 (by decide) (fun c71 => ?_) (fun c71 => ?_)
      · skip
        replace c71 : ¬ (y).toInt = ((1 : Nat) : Int) := fun h => c71 ((cv_eq rfl (nI_toInt (by omega))).mpr h)
        refine lv_iconst (v := (nI (0))) hx hb dX5_allows_78 (by decide) ?_
        exact RET (nI (0)) (bW cI cO a ca ia n O I J F E K G0) _ _ ls _ _ _ (by have ex := congrArg Int32.toInt k1_3; rw [nI_toInt (show 3 < 2 ^ 31 by omega)] at ex; exact Or.inr ⟨rfl, rfl, by omega⟩) G (by first | (simp only []; omega) | decide) (by first | (simp only []; omega) | decide) rfl dX5_allows_79
      · skip
        replace c71 : (y).toInt = ((1 : Nat) : Int) := (cv_eq rfl (nI_toInt (by omega))).mp c71
        refine lv_iconst (v := (nI (1))) hx hb dX5_allows_74 (by decide) ?_
        refine lv_goto (tgt := 79) hx hb dX5_allows_75 (by decide) ?_
        exact RET (nI (1)) (bW cI cO a ca ia n O I J F E K G0) _ _ ls _ _ _ (by have ex := congrArg Int32.toInt k1_3; rw [nI_toInt (show 3 < 2 ^ 31 by omega)] at ex; exact Or.inl ⟨rfl, rfl, by omega⟩) G (by first | (simp only []; omega) | decide) (by first | (simp only []; omega) | decide) rfl dX5_allows_79
  have ko1 : (x).toInt < (0) ∨ (3) < (x).toInt := by
    have z0 := lv_neT (a := (0)) k1_0 (by decide)
    have z1 := lv_neT (a := (1)) k1_1 (by decide)
    have z2 := lv_neT (a := (2)) k1_2 (by decide)
    have z3 := lv_neT (a := (3)) k1_3 (by decide)
    omega
  refine lv_tableOut (tgt := 80) hx hb dX5_allows_1 ko1 (by decide) ?_
  refine lv_iconst (v := (nI (0))) hx hb dX5_allows_80 (by decide) ?_
  exact RET (nI (0)) (bW cI cO a ca ia n O I J F E K G0) _ _ ls _ _ _ (by exact Or.inr ⟨rfl, rfl, by omega⟩) G (by first | (simp only []; omega) | decide) (by first | (simp only []; omega) | decide) rfl dX5_allows_81
set_option maxHeartbeats 4000000 in
set_option maxRecDepth 100000 in
theorem c_X5_exchange (l : Launch) (D : va_G) (cI cO cL : ClassId) (a ca ia : Nat → Nat) (n : Nat) (O : Nat → Option Nat) (I : Nat → Nat) (J : Nat → Int64) (F : Nat → Nat → Nat) (E : Nat → Nat → Int32) (K : Nat → Nat → Nat) (G0 : Nat → Nat → Int32) (x : Int32) (y : Nat) (hx4 : 0 ≤ x.toInt ∧ x.toInt ≤ 3) : Ki l yX5_exchange wsX5_exchange { frames := 0, cells := 0, slots := 0, locals := 0 } D (TY cI cO cL) [.ref (a 2), .int (x), .int (nI (y))] (bW cI cO a ca ia n O I J F E K G0) (fun r w => (x = nI 0 ∧ r = nI (I 4) ∧ w = bW cI cO a ca ia n O (va_up I 4 y) J F E K G0) ∨ (x = nI 1 ∧ r = nI (I 5) ∧ w = bW cI cO a ca ia n O (va_up I 5 y) J F E K G0) ∨ (x = nI 2 ∧ r = nI (I 6) ∧ w = bW cI cO a ca ia n O (va_up I 6 y) J F E K G0) ∨ (x = nI 3 ∧ r = nI (I 7) ∧ w = bW cI cO a ca ia n O (va_up I 7 y) J F E K G0)) := by
  refine Ki.mk (cc := cX5_exchange) (maxL := 4) (rt := .int) (own := RX5) (by decide) rfl rfl (Nat.le_of_ble_eq_true rfl) ?_
  intro p e s m below meth c A Q ls C hname hA G hl RET
  obtain ⟨⟨hx, hb, hml, hown, hts⟩, hK, hN⟩ := id C
  have hl : lv_has ls 4 [(0, .ref (a 2)), (1, .int (x)), (2, .int (nI (y)))] := hl
  have hX5 : ∀ w ∈ u_ws RX5 TX5 5, w ∈ wsX5_exchange := by decide +kernel
  refine lv_iload_n hx hb dX5_exchange_0 rfl (lv_at hl 1 rfl) ?_
  by_cases k1_0 : x = nI 0
  · skip
    refine r_top (y := nI 0) k1_0 ?_
    refine lv_tableIn (off := (31)) (tgt := 32) hx hb dX5_exchange_1 (by decide) (by decide) (by decide) (by decide) ?_
    refine lv_aload_n hx hb dX5_exchange_32 rfl (lv_at hl 0 rfl) ?_
    refine r_get (v := .int (nI (I 4))) C G hX5 2 rfl rfl 1 (by decide) (by decide +kernel) rfl dX5_exchange_33 ?_
    refine lv_istore_n (lv' := [(3, .int (nI (I 4))), (0, .ref (a 2)), (1, .int (x)), (2, .int (nI (y)))]) hx hb dX5_exchange_36 rfl hl (by decide) rfl (fun ls hl => ?_)
    refine lv_aload_n hx hb dX5_exchange_37 rfl (lv_at hl 1 rfl) ?_
    refine lv_iload_n hx hb dX5_exchange_38 rfl (lv_at hl 3 rfl) ?_
    refine r_put (ws' := bW cI cO a ca ia n O (va_up I 4 y) J F E K G0) C G hX5 tyX5_ok nmX5 2 rfl rfl 1 (by decide) (by decide +kernel) rfl rfl rfl (Nat.le_of_ble_eq_true rfl) dX5_exchange_39 rfl (fun H locs G => ?_)
    refine lv_iload_n hx hb dX5_exchange_42 rfl (lv_at hl 0 rfl) ?_
    exact RET (nI (I 4)) (bW cI cO a ca ia n O (va_up I 4 y) J F E K G0) _ _ ls _ _ _ (Or.inl (⟨k1_0, rfl, rfl⟩)) G (by first | (simp only []; omega) | decide) (by first | (simp only []; omega) | decide) rfl dX5_exchange_43
  by_cases k1_1 : x = nI 1
  · skip
    refine r_top (y := nI 1) k1_1 ?_
    refine lv_tableIn (off := (43)) (tgt := 44) hx hb dX5_exchange_1 (by decide) (by decide) (by decide) (by decide) ?_
    refine lv_aload_n hx hb dX5_exchange_44 rfl (lv_at hl 0 rfl) ?_
    refine r_get (v := .int (nI (I 5))) C G hX5 2 rfl rfl 2 (by decide) (by decide +kernel) rfl dX5_exchange_45 ?_
    refine lv_istore_n (lv' := [(3, .int (nI (I 5))), (0, .ref (a 2)), (1, .int (x)), (2, .int (nI (y)))]) hx hb dX5_exchange_48 rfl hl (by decide) rfl (fun ls hl => ?_)
    refine lv_aload_n hx hb dX5_exchange_49 rfl (lv_at hl 1 rfl) ?_
    refine lv_iload_n hx hb dX5_exchange_50 rfl (lv_at hl 3 rfl) ?_
    refine r_put (ws' := bW cI cO a ca ia n O (va_up I 5 y) J F E K G0) C G hX5 tyX5_ok nmX5 2 rfl rfl 2 (by decide) (by decide +kernel) rfl rfl rfl (Nat.le_of_ble_eq_true rfl) dX5_exchange_51 rfl (fun H locs G => ?_)
    refine lv_iload_n hx hb dX5_exchange_54 rfl (lv_at hl 0 rfl) ?_
    exact RET (nI (I 5)) (bW cI cO a ca ia n O (va_up I 5 y) J F E K G0) _ _ ls _ _ _ (Or.inr (Or.inl (⟨k1_1, rfl, rfl⟩))) G (by first | (simp only []; omega) | decide) (by first | (simp only []; omega) | decide) rfl dX5_exchange_55
  by_cases k1_2 : x = nI 2
  · skip
    refine r_top (y := nI 2) k1_2 ?_
    refine lv_tableIn (off := (55)) (tgt := 56) hx hb dX5_exchange_1 (by decide) (by decide) (by decide) (by decide) ?_
    refine lv_aload_n hx hb dX5_exchange_56 rfl (lv_at hl 0 rfl) ?_
    refine r_get (v := .int (nI (I 6))) C G hX5 2 rfl rfl 3 (by decide) (by decide +kernel) rfl dX5_exchange_57 ?_
    refine lv_istore_n (lv' := [(3, .int (nI (I 6))), (0, .ref (a 2)), (1, .int (x)), (2, .int (nI (y)))]) hx hb dX5_exchange_60 rfl hl (by decide) rfl (fun ls hl => ?_)
    refine lv_aload_n hx hb dX5_exchange_61 rfl (lv_at hl 1 rfl) ?_
    refine lv_iload_n hx hb dX5_exchange_62 rfl (lv_at hl 3 rfl) ?_
    refine r_put (ws' := bW cI cO a ca ia n O (va_up I 6 y) J F E K G0) C G hX5 tyX5_ok nmX5 2 rfl rfl 3 (by decide) (by decide +kernel) rfl rfl rfl (Nat.le_of_ble_eq_true rfl) dX5_exchange_63 rfl (fun H locs G => ?_)
    refine lv_iload_n hx hb dX5_exchange_66 rfl (lv_at hl 0 rfl) ?_
    exact RET (nI (I 6)) (bW cI cO a ca ia n O (va_up I 6 y) J F E K G0) _ _ ls _ _ _ (Or.inr (Or.inr (Or.inl (⟨k1_2, rfl, rfl⟩)))) G (by first | (simp only []; omega) | decide) (by first | (simp only []; omega) | decide) rfl dX5_exchange_67
  by_cases k1_3 : x = nI 3
  · skip
    refine r_top (y := nI 3) k1_3 ?_
    refine lv_tableIn (off := (67)) (tgt := 68) hx hb dX5_exchange_1 (by decide) (by decide) (by decide) (by decide) ?_
    refine lv_aload_n hx hb dX5_exchange_68 rfl (lv_at hl 0 rfl) ?_
    refine r_get (v := .int (nI (I 7))) C G hX5 2 rfl rfl 4 (by decide) (by decide +kernel) rfl dX5_exchange_69 ?_
    refine lv_istore_n (lv' := [(3, .int (nI (I 7))), (0, .ref (a 2)), (1, .int (x)), (2, .int (nI (y)))]) hx hb dX5_exchange_72 rfl hl (by decide) rfl (fun ls hl => ?_)
    refine lv_aload_n hx hb dX5_exchange_73 rfl (lv_at hl 1 rfl) ?_
    refine lv_iload_n hx hb dX5_exchange_74 rfl (lv_at hl 3 rfl) ?_
    refine r_put (ws' := bW cI cO a ca ia n O (va_up I 7 y) J F E K G0) C G hX5 tyX5_ok nmX5 2 rfl rfl 4 (by decide) (by decide +kernel) rfl rfl rfl (Nat.le_of_ble_eq_true rfl) dX5_exchange_75 rfl (fun H locs G => ?_)
    refine lv_iload_n hx hb dX5_exchange_78 rfl (lv_at hl 0 rfl) ?_
    exact RET (nI (I 7)) (bW cI cO a ca ia n O (va_up I 7 y) J F E K G0) _ _ ls _ _ _ (Or.inr (Or.inr (Or.inr (⟨k1_3, rfl, rfl⟩)))) G (by first | (simp only []; omega) | decide) (by first | (simp only []; omega) | decide) rfl dX5_exchange_79
  exact absurd hx4 (by have z0 := lv_neT (a := 0) k1_0 (by decide); have z1 := lv_neT (a := 1) k1_1 (by decide); have z2 := lv_neT (a := 2) k1_2 (by decide); have z3 := lv_neT (a := 3) k1_3 (by decide); omega)
set_option maxHeartbeats 4000000 in
set_option maxRecDepth 100000 in
theorem c_X5_batchesOf (l : Launch) (D : va_G) (cI cO cL : ClassId) (a ca ia : Nat → Nat) (n : Nat) (O : Nat → Option Nat) (I : Nat → Nat) (J : Nat → Int64) (F : Nat → Nat → Nat) (E : Nat → Nat → Int32) (K : Nat → Nat → Nat) (G0 : Nat → Nat → Int32) (q : Nat) (hq : q ≤ 60) (h4 : I 4 ≤ 20) (h7 : I 7 ≤ 1) : Ki l yX5_batchesOf wsX5_batchesOf { frames := 0, cells := 0, slots := 0, locals := 0 } D (TY cI cO cL) [.ref (a 2), .int (nI (q))] (bW cI cO a ca ia n O I J F E K G0) (fun r w => r = (if I 4 = 0 then 0 else nI (cnt q (I 4) (I 7))) ∧ w = bW cI cO a ca ia n O I J F E K G0) := by
  refine Ki.mk (cc := cX5_batchesOf) (maxL := 2) (rt := .int) (own := RX5) (by decide) rfl rfl (Nat.le_of_ble_eq_true rfl) ?_
  intro p e s m below meth c A Q ls C hname hA G hl RET
  obtain ⟨⟨hx, hb, hml, hown, hts⟩, hK, hN⟩ := id C
  have hl : lv_has ls 2 [(0, .ref (a 2)), (1, .int (nI (q)))] := hl
  have hX5 : ∀ w ∈ u_ws RX5 TX5 5, w ∈ wsX5_batchesOf := by decide +kernel
  refine lv_aload_n hx hb dX5_batchesOf_0 rfl (lv_at hl 0 rfl) ?_
  refine r_get (v := .int (nI (I 4))) C G hX5 2 rfl rfl 1 (by decide) (by decide +kernel) rfl dX5_batchesOf_1 ?_
  refine lv_iconst (v := (nI (1))) hx hb dX5_batchesOf_4 (by decide) ?_
  refine lv_icmp_ge (tgt := 10) hx hb dX5_batchesOf_5 (by decide) (fun c5 => ?_) (fun c5 => ?_)
  · skip
    replace c5 : ((1 : Nat) : Int) ≤ ((I 4 : Nat) : Int) := (cv_le (nI_toInt (by omega)) (nI_toInt (by omega))).mp c5
    refine lv_aload_n hx hb dX5_batchesOf_10 rfl (lv_at hl 0 rfl) ?_
    refine r_get (v := .int (nI (I 7))) C G hX5 2 rfl rfl 4 (by decide) (by decide +kernel) rfl dX5_batchesOf_11 ?_
    refine lv_iconst (v := (nI (1))) hx hb dX5_batchesOf_14 (by decide) ?_
    refine lv_icmp_ne (tgt := 27) hx hb dX5_batchesOf_15 (by decide) (fun c15 => ?_) (fun c15 => ?_)
    · skip
      replace c15 : ¬ ((I 7 : Nat) : Int) = ((1 : Nat) : Int) := fun h => c15 ((cv_eq (nI_toInt (by omega)) (nI_toInt (by omega))).mpr h)
      refine lv_iload_n hx hb dX5_batchesOf_27 rfl (lv_at hl 1 rfl) ?_
      refine lv_aload_n hx hb dX5_batchesOf_28 rfl (lv_at hl 0 rfl) ?_
      refine r_get (v := .int (nI (I 4))) C G hX5 2 rfl rfl 1 (by decide) (by decide +kernel) rfl dX5_batchesOf_29 ?_
      refine r_iadd hx hb dX5_batchesOf_32 ?_
      refine lv_iconst (v := (nI (1))) hx hb dX5_batchesOf_33 (by decide) ?_
      refine r_isub hx hb (by omega) dX5_batchesOf_34 ?_
      refine lv_aload_n hx hb dX5_batchesOf_35 rfl (lv_at hl 0 rfl) ?_
      refine r_get (v := .int (nI (I 4))) C G hX5 2 rfl rfl 1 (by decide) (by decide +kernel) rfl dX5_batchesOf_36 ?_
      refine r_idiv hx hb (by omega) (by omega) (by omega) dX5_batchesOf_39 ?_
      exact RET (nI (((q + (I 4)) - 1) / (I 4))) (bW cI cO a ca ia n O I J F E K G0) _ _ ls _ _ _ (⟨by rw [if_neg (by omega)]; exact congrArg nI (by unfold cnt; rw [if_neg (by omega)]), rfl⟩) G (by first | (simp only []; omega) | decide) (by first | (simp only []; omega) | decide) rfl dX5_batchesOf_40
    · skip
      replace c15 : ((I 7 : Nat) : Int) = ((1 : Nat) : Int) := (cv_eq (nI_toInt (by omega)) (nI_toInt (by omega))).mp c15
      refine lv_iload_n hx hb dX5_batchesOf_18 rfl (lv_at hl 1 rfl) ?_
      refine lv_aload_n hx hb dX5_batchesOf_19 rfl (lv_at hl 0 rfl) ?_
      refine r_get (v := .int (nI (I 4))) C G hX5 2 rfl rfl 1 (by decide) (by decide +kernel) rfl dX5_batchesOf_20 ?_
      refine r_idiv hx hb (by omega) (by omega) (by omega) dX5_batchesOf_23 ?_
      refine lv_goto (tgt := 40) hx hb dX5_batchesOf_24 (by decide) ?_
      exact RET (nI (q / (I 4))) (bW cI cO a ca ia n O I J F E K G0) _ _ ls _ _ _ (⟨by rw [if_neg (by omega)]; exact congrArg nI (by unfold cnt; rw [if_pos (by omega)]), rfl⟩) G (by first | (simp only []; omega) | decide) (by first | (simp only []; omega) | decide) rfl dX5_batchesOf_40
  · skip
    replace c5 : ((I 4 : Nat) : Int) < ((1 : Nat) : Int) := Int.not_le.mp (fun h => c5 ((cv_le (nI_toInt (by omega)) (nI_toInt (by omega))).mpr h))
    refine lv_iconst (v := (nI (0))) hx hb dX5_batchesOf_8 (by decide) ?_
    exact RET (nI (0)) (bW cI cO a ca ia n O I J F E K G0) _ _ ls _ _ _ (⟨by rw [if_pos (by omega)]; rfl, rfl⟩) G (by first | (simp only []; omega) | decide) (by first | (simp only []; omega) | decide) rfl dX5_batchesOf_9
set_option maxHeartbeats 4000000 in
set_option maxRecDepth 100000 in
theorem c_X4_isFull (l : Launch) (D : va_G) (cI cO cL : ClassId) (a ca ia : Nat → Nat) (n : Nat) (O : Nat → Option Nat) (I : Nat → Nat) (J : Nat → Int64) (F : Nat → Nat → Nat) (E : Nat → Nat → Int32) (K : Nat → Nat → Nat) (G0 : Nat → Nat → Int32) (hn : I 3 ≤ 60) : Ki l yX4_isFull wsX4_isFull { frames := 0, cells := 0, slots := 0, locals := 0 } D (TY cI cO cL) [.ref (a 1)] (bW cI cO a ca ia n O I J F E K G0) (fun rr w => (rr = 1 ∧ w = bW cI cO a ca ia n O I J F E K G0 ∧ (60 ≤ I 3)) ∨ (rr = 0 ∧ w = bW cI cO a ca ia n O I J F E K G0 ∧ ¬ (60 ≤ I 3))) := by
  refine Ki.mk (cc := cX4_isFull) (maxL := 1) (rt := .boolean) (own := RX4) (by decide) rfl rfl (Nat.le_of_ble_eq_true rfl) ?_
  intro p e s m below meth c A Q ls C hname hA G hl RET
  obtain ⟨⟨hx, hb, hml, hown, hts⟩, hK, hN⟩ := id C
  have hl : lv_has ls 1 [(0, .ref (a 1))] := hl
  have hX4 : ∀ w ∈ u_ws RX4 TX4 4, w ∈ wsX4_isFull := by decide +kernel
  refine lv_aload_n hx hb dX4_isFull_0 rfl (lv_at hl 0 rfl) ?_
  refine r_get (v := .int (nI (I 3))) C G hX4 1 rfl rfl 3 (by decide) (by decide +kernel) rfl dX4_isFull_1 ?_
  refine lv_bipush (v := (nI (60))) hx hb dX4_isFull_4 (by decide) ?_
  refine lv_icmp_lt (tgt := 13) hx hb dX4_isFull_6 (by decide) (fun c6 => ?_) (fun c6 => ?_)
  · skip
    replace c6 : ((I 3 : Nat) : Int) < ((60 : Nat) : Int) := (cv_lt (nI_toInt (by omega)) (nI_toInt (by omega))).mp c6
    refine lv_iconst (v := (nI (0))) hx hb dX4_isFull_13 (by decide) ?_
    exact RET (nI (0)) (bW cI cO a ca ia n O I J F E K G0) _ _ ls _ _ _ (Or.inr ⟨rfl, rfl, by omega⟩) G (by first | (simp only []; omega) | decide) (by first | (simp only []; omega) | decide) rfl dX4_isFull_14
  · skip
    replace c6 : ((60 : Nat) : Int) ≤ ((I 3 : Nat) : Int) := Int.not_lt.mp (fun h => c6 ((cv_lt (nI_toInt (by omega)) (nI_toInt (by omega))).mpr h))
    refine lv_iconst (v := (nI (1))) hx hb dX4_isFull_9 (by decide) ?_
    refine lv_goto (tgt := 14) hx hb dX4_isFull_10 (by decide) ?_
    exact RET (nI (1)) (bW cI cO a ca ia n O I J F E K G0) _ _ ls _ _ _ (Or.inl ⟨rfl, rfl, by omega⟩) G (by first | (simp only []; omega) | decide) (by first | (simp only []; omega) | decide) rfl dX4_isFull_14
set_option maxHeartbeats 4000000 in
set_option maxRecDepth 100000 in
theorem c_X4_has (l : Launch) (D : va_G) (cI cO cL : ClassId) (a ca ia : Nat → Nat) (n : Nat) (O : Nat → Option Nat) (I : Nat → Nat) (J : Nat → Int64) (F : Nat → Nat → Nat) (E : Nat → Nat → Int32) (K : Nat → Nat → Nat) (G0 : Nat → Nat → Int32) (x : Int32) (hn : I 3 ≤ 60) : Ki l yX4_has wsX4_has { frames := 0, cells := 0, slots := 0, locals := 0 } D (TY cI cO cL) [.ref (a 1), .int (x)] (bW cI cO a ca ia n O I J F E K G0) (fun rr w => (rr = 1 ∧ w = bW cI cO a ca ia n O I J F E K G0 ∧ (0 ≤ x.toInt ∧ x.toInt < I 3)) ∨ (rr = 0 ∧ w = bW cI cO a ca ia n O I J F E K G0 ∧ ¬ (0 ≤ x.toInt ∧ x.toInt < I 3))) := by
  refine Ki.mk (cc := cX4_has) (maxL := 2) (rt := .boolean) (own := RX4) (by decide) rfl rfl (Nat.le_of_ble_eq_true rfl) ?_
  intro p e s m below meth c A Q ls C hname hA G hl RET
  obtain ⟨⟨hx, hb, hml, hown, hts⟩, hK, hN⟩ := id C
  have hl : lv_has ls 2 [(0, .ref (a 1)), (1, .int (x))] := hl
  have hX4 : ∀ w ∈ u_ws RX4 TX4 4, w ∈ wsX4_has := by decide +kernel
  refine lv_iload_n hx hb dX4_has_0 rfl (lv_at hl 1 rfl) ?_
  refine lv_if_lt (tgt := 22) hx hb dX4_has_1 (by decide) (fun c1 => ?_) (fun c1 => ?_)
  · skip
    replace c1 : (x).toInt < (0) := (cv_lt rfl (by decide)).mp c1
    refine lv_iconst (v := (nI (0))) hx hb dX4_has_22 (by decide) ?_
    exact RET (nI (0)) (bW cI cO a ca ia n O I J F E K G0) _ _ ls _ _ _ (Or.inr ⟨rfl, rfl, by omega⟩) G (by first | (simp only []; omega) | decide) (by first | (simp only []; omega) | decide) rfl dX4_has_23
  · skip
    replace c1 : (0) ≤ (x).toInt := Int.not_lt.mp (fun h => c1 ((cv_lt rfl (by decide)).mpr h))
    refine lv_iload_n hx hb dX4_has_4 rfl (lv_at hl 1 rfl) ?_
    refine lv_aload_n hx hb dX4_has_5 rfl (lv_at hl 0 rfl) ?_
    refine r_get (v := .int (nI (I 3))) C G hX4 1 rfl rfl 3 (by decide) (by decide +kernel) rfl dX4_has_6 ?_
    refine lv_icmp_ge (tgt := 22) hx hb dX4_has_9 (by decide) (fun c9 => ?_) (fun c9 => ?_)
    · skip
      replace c9 : ((I 3 : Nat) : Int) ≤ (x).toInt := (cv_le (nI_toInt (by omega)) rfl).mp c9
      refine lv_iconst (v := (nI (0))) hx hb dX4_has_22 (by decide) ?_
      exact RET (nI (0)) (bW cI cO a ca ia n O I J F E K G0) _ _ ls _ _ _ (Or.inr ⟨rfl, rfl, by omega⟩) G (by first | (simp only []; omega) | decide) (by first | (simp only []; omega) | decide) rfl dX4_has_23
    · skip
      replace c9 : (x).toInt < ((I 3 : Nat) : Int) := Int.not_le.mp (fun h => c9 ((cv_le (nI_toInt (by omega)) rfl).mpr h))
      refine lv_iload_n hx hb dX4_has_12 rfl (lv_at hl 1 rfl) ?_
      refine lv_bipush (v := (nI (60))) hx hb dX4_has_13 (by decide) ?_
      refine lv_icmp_ge (tgt := 22) hx hb dX4_has_15 (by decide) (fun c15 => ?_) (fun c15 => ?_)
      · skip
        replace c15 : ((60 : Nat) : Int) ≤ (x).toInt := (cv_le (nI_toInt (by omega)) rfl).mp c15
        refine lv_iconst (v := (nI (0))) hx hb dX4_has_22 (by decide) ?_
        exact RET (nI (0)) (bW cI cO a ca ia n O I J F E K G0) _ _ ls _ _ _ (Or.inr ⟨rfl, rfl, by omega⟩) G (by first | (simp only []; omega) | decide) (by first | (simp only []; omega) | decide) rfl dX4_has_23
      · skip
        replace c15 : (x).toInt < ((60 : Nat) : Int) := Int.not_le.mp (fun h => c15 ((cv_le (nI_toInt (by omega)) rfl).mpr h))
        refine lv_iconst (v := (nI (1))) hx hb dX4_has_18 (by decide) ?_
        refine lv_goto (tgt := 23) hx hb dX4_has_19 (by decide) ?_
        exact RET (nI (1)) (bW cI cO a ca ia n O I J F E K G0) _ _ ls _ _ _ (Or.inl ⟨rfl, rfl, by omega⟩) G (by first | (simp only []; omega) | decide) (by first | (simp only []; omega) | decide) rfl dX4_has_23
set_option maxHeartbeats 4000000 in
set_option maxRecDepth 100000 in
theorem c_X4_find (l : Launch) (D : va_G) (cI cO cL : ClassId) (a ca ia : Nat → Nat) (n : Nat) (O : Nat → Option Nat) (I : Nat → Nat) (J : Nat → Int64) (F : Nat → Nat → Nat) (E : Nat → Nat → Int32) (K : Nat → Nat → Nat) (G0 : Nat → Nat → Int32) (x : Int32) (hn : I 3 ≤ 60) (hO : ∀ j, j < I 3 → O j = some (ca j)) : Kq l yX4_find wsX4_find { frames := 1, cells := 0, slots := 0, locals := 21 } D (TY cI cO cL) [.ref (a 1), .int (x)] (bW cI cO a ca ia n O I J F E K G0) (fun r w => (r = some (ca (tn x)) ∧ w = bW cI cO a ca ia n O I J F E K G0 ∧ (0 ≤ x.toInt ∧ x.toInt < I 3)) ∨ (r = none ∧ w = bW cI cO a ca ia n O I J F E K G0 ∧ ¬ (0 ≤ x.toInt ∧ x.toInt < I 3))) := by
  refine Kq.mk (cc := cX4_find) (maxL := 2) (rt := (.object "BatchOrder$Content")) (own := RX4) (by decide) rfl ⟨_, rfl⟩ rfl (Nat.le_of_ble_eq_true rfl) ?_
  intro p e s m below meth c A Q ls C hname hA G hl RET
  obtain ⟨⟨hx, hb, hml, hown, hts⟩, hK, hN⟩ := id C
  have hl : lv_has ls 2 [(0, .ref (a 1)), (1, .int (x))] := hl
  have hX4 : ∀ w ∈ u_ws RX4 TX4 4, w ∈ wsX4_find := by decide +kernel
  refine lv_aload_n hx hb dX4_find_0 rfl (lv_at hl 0 rfl) ?_
  refine lv_iload_n hx hb dX4_find_1 rfl (lv_at hl 1 rfl) ?_
  refine r_ai G hA (r_rV (na := 1) (As := [.int (x)]) (rest := []) C G (c_X4_has l D cI cO cL a ca ia n O I J F E K G0 x hn) gX4_find_X4_has rfl (by decide +kernel) ⟨Nat.le_of_ble_eq_true rfl, Nat.le_of_ble_eq_true rfl⟩ 1 rfl rfl rfl hl.1 rfl (Nat.le_of_ble_eq_true rfl) dX4_find_2 ⟨by first | (simp only []; omega) | decide, by first | (simp only []; omega) | decide⟩) (fun r2 w2 H locs hp2 G => ?_)
  rcases hp2 with ⟨rfl, rfl, hi2⟩ | ⟨rfl, rfl, hi2⟩
  · skip
    replace hi2 : 0 ≤ (x).toInt ∧ (x).toInt < (I 3 : Nat) := hi2
    refine lv_if_eq (tgt := 17) hx hb dX4_find_5 (by decide) (fun c5 => ?_) (fun c5 => ?_)
    · skip
      exact absurd c5 (by decide)
    · skip
      obtain ⟨x1, hx1, ex1, rfl⟩ := nat_of (x := x) (by omega)
      refine lv_aload_n hx hb dX4_find_8 rfl (lv_at hl 0 rfl) ?_
      refine r_get (v := .ref (a 5)) C G hX4 1 rfl rfl 0 (by decide) (by decide +kernel) rfl dX4_find_9 ?_
      refine lv_iload_n hx hb dX4_find_12 rfl (lv_at hl 1 rfl) ?_
      refine r_aald (v := some (ca x1)) C G 5 1 rfl rfl x1 rfl (by omega) (by omega) (hO x1 (by omega)) dX4_find_13 ?_
      refine r_st (st' := [.ref (ca x1)]) rfl ?_
      refine lv_goto (tgt := 18) hx hb dX4_find_14 (by decide) ?_
      exact RET (some (ca x1)) (bW cI cO a ca ia n O I J F E K G0) _ _ ls _ _ _ (by rw [tn_nI hx1]; exact Or.inl ⟨rfl, rfl, by omega⟩) G (by first | (simp only []; omega) | decide) (by first | (simp only []; omega) | decide) dX4_find_18
  · skip
    replace hi2 : ¬ (0 ≤ (x).toInt ∧ (x).toInt < (I 3 : Nat)) := hi2
    refine lv_if_eq (tgt := 17) hx hb dX4_find_5 (by decide) (fun c5 => ?_) (fun c5 => ?_)
    · skip
      refine lv_null hx hb dX4_find_17 ?_
      exact RET (none) (bW cI cO a ca ia n O I J F E K G0) _ _ ls _ _ _ (Or.inr ⟨rfl, rfl, by omega⟩) G (by first | (simp only []; omega) | decide) (by first | (simp only []; omega) | decide) dX4_find_18
    · skip
      exact absurd c5 (by decide)
set_option maxHeartbeats 4000000 in
set_option maxRecDepth 100000 in
theorem c_X4_label (l : Launch) (D : va_G) (cI cO cL : ClassId) (a ca ia : Nat → Nat) (n : Nat) (O : Nat → Option Nat) (I : Nat → Nat) (J : Nat → Int64) (F : Nat → Nat → Nat) (E : Nat → Nat → Int32) (K : Nat → Nat → Nat) (G0 : Nat → Nat → Int32) (j : Nat) (hn : I 3 ≤ 60) (hj : j < I 3) : Ki l yX4_label wsX4_label { frames := 1, cells := 0, slots := 0, locals := 21 } D (TY cI cO cL) [.ref (a 1), .int (nI (j))] (bW cI cO a ca ia n O I J F E K G0) (fun r w => r = nI (F 0 j) ∧ w = bW cI cO a ca ia n O I J F E K G0) := by
  refine Ki.mk (cc := cX4_label) (maxL := 2) (rt := .int) (own := RX4) (by decide) rfl rfl (Nat.le_of_ble_eq_true rfl) ?_
  intro p e s m below meth c A Q ls C hname hA G hl RET
  obtain ⟨⟨hx, hb, hml, hown, hts⟩, hK, hN⟩ := id C
  have hl : lv_has ls 2 [(0, .ref (a 1)), (1, .int (nI (j)))] := hl
  have hX4 : ∀ w ∈ u_ws RX4 TX4 4, w ∈ wsX4_label := by decide +kernel
  refine lv_aload_n hx hb dX4_label_0 rfl (lv_at hl 0 rfl) ?_
  refine lv_iload_n hx hb dX4_label_1 rfl (lv_at hl 1 rfl) ?_
  refine r_ai G hA (r_rV (na := 1) (As := [.int (nI (j))]) (rest := []) C G (c_X4_has l D cI cO cL a ca ia n O I J F E K G0 (nI (j)) hn) gX4_label_X4_has rfl (by decide +kernel) ⟨Nat.le_of_ble_eq_true rfl, Nat.le_of_ble_eq_true rfl⟩ 1 rfl rfl rfl hl.1 rfl (Nat.le_of_ble_eq_true rfl) dX4_label_2 ⟨by first | (simp only []; omega) | decide, by first | (simp only []; omega) | decide⟩) (fun r2 w2 H locs hp2 G => ?_)
  rcases hp2 with ⟨rfl, rfl, hi2⟩ | ⟨rfl, rfl, hi2⟩
  · skip
    replace hi2 : 0 ≤ (nI (j)).toInt ∧ (nI (j)).toInt < (I 3 : Nat) := hi2
    rw [nI_toInt (by omega)] at hi2
    refine lv_if_eq (tgt := 17) hx hb dX4_label_5 (by decide) (fun c5 => ?_) (fun c5 => ?_)
    · skip
      exact absurd c5 (by decide)
    · skip
      refine lv_aload_n hx hb dX4_label_8 rfl (lv_at hl 0 rfl) ?_
      refine r_get (v := .ref (a 6)) C G hX4 1 rfl rfl 1 (by decide) (by decide +kernel) rfl dX4_label_9 ?_
      refine lv_iload_n hx hb dX4_label_12 rfl (lv_at hl 1 rfl) ?_
      refine r_iald (v := nI ((F 0) j)) C G 6 0 rfl rfl j rfl (by omega) (by omega) rfl dX4_label_13 ?_
      refine lv_goto (tgt := 18) hx hb dX4_label_14 (by decide) ?_
      exact RET (nI ((F 0) j)) (bW cI cO a ca ia n O I J F E K G0) _ _ ls _ _ _ (⟨rfl, rfl⟩) G (by first | (simp only []; omega) | decide) (by first | (simp only []; omega) | decide) rfl dX4_label_18
  · skip
    replace hi2 : ¬ (0 ≤ (nI (j)).toInt ∧ (nI (j)).toInt < (I 3 : Nat)) := hi2
    rw [nI_toInt (by omega)] at hi2
    exact absurd hi2 (by omega)
set_option maxHeartbeats 4000000 in
set_option maxRecDepth 100000 in
theorem c_X4_weight (l : Launch) (D : va_G) (cI cO cL : ClassId) (a ca ia : Nat → Nat) (n : Nat) (O : Nat → Option Nat) (I : Nat → Nat) (J : Nat → Int64) (F : Nat → Nat → Nat) (E : Nat → Nat → Int32) (K : Nat → Nat → Nat) (G0 : Nat → Nat → Int32) (j : Nat) (hn : I 3 ≤ 60) (hj : j < I 3) : Ki l yX4_weight wsX4_weight { frames := 1, cells := 0, slots := 0, locals := 21 } D (TY cI cO cL) [.ref (a 1), .int (nI (j))] (bW cI cO a ca ia n O I J F E K G0) (fun r w => r = nI (F 1 j) ∧ w = bW cI cO a ca ia n O I J F E K G0) := by
  refine Ki.mk (cc := cX4_weight) (maxL := 2) (rt := .int) (own := RX4) (by decide) rfl rfl (Nat.le_of_ble_eq_true rfl) ?_
  intro p e s m below meth c A Q ls C hname hA G hl RET
  obtain ⟨⟨hx, hb, hml, hown, hts⟩, hK, hN⟩ := id C
  have hl : lv_has ls 2 [(0, .ref (a 1)), (1, .int (nI (j)))] := hl
  have hX4 : ∀ w ∈ u_ws RX4 TX4 4, w ∈ wsX4_weight := by decide +kernel
  refine lv_aload_n hx hb dX4_weight_0 rfl (lv_at hl 0 rfl) ?_
  refine lv_iload_n hx hb dX4_weight_1 rfl (lv_at hl 1 rfl) ?_
  refine r_ai G hA (r_rV (na := 1) (As := [.int (nI (j))]) (rest := []) C G (c_X4_has l D cI cO cL a ca ia n O I J F E K G0 (nI (j)) hn) gX4_weight_X4_has rfl (by decide +kernel) ⟨Nat.le_of_ble_eq_true rfl, Nat.le_of_ble_eq_true rfl⟩ 1 rfl rfl rfl hl.1 rfl (Nat.le_of_ble_eq_true rfl) dX4_weight_2 ⟨by first | (simp only []; omega) | decide, by first | (simp only []; omega) | decide⟩) (fun r2 w2 H locs hp2 G => ?_)
  rcases hp2 with ⟨rfl, rfl, hi2⟩ | ⟨rfl, rfl, hi2⟩
  · skip
    replace hi2 : 0 ≤ (nI (j)).toInt ∧ (nI (j)).toInt < (I 3 : Nat) := hi2
    rw [nI_toInt (by omega)] at hi2
    refine lv_if_eq (tgt := 17) hx hb dX4_weight_5 (by decide) (fun c5 => ?_) (fun c5 => ?_)
    · skip
      exact absurd c5 (by decide)
    · skip
      refine lv_aload_n hx hb dX4_weight_8 rfl (lv_at hl 0 rfl) ?_
      refine r_get (v := .ref (a 7)) C G hX4 1 rfl rfl 2 (by decide) (by decide +kernel) rfl dX4_weight_9 ?_
      refine lv_iload_n hx hb dX4_weight_12 rfl (lv_at hl 1 rfl) ?_
      refine r_iald (v := nI ((F 1) j)) C G 7 0 rfl rfl j rfl (by omega) (by omega) rfl dX4_weight_13 ?_
      refine lv_goto (tgt := 18) hx hb dX4_weight_14 (by decide) ?_
      exact RET (nI ((F 1) j)) (bW cI cO a ca ia n O I J F E K G0) _ _ ls _ _ _ (⟨rfl, rfl⟩) G (by first | (simp only []; omega) | decide) (by first | (simp only []; omega) | decide) rfl dX4_weight_18
  · skip
    replace hi2 : ¬ (0 ≤ (nI (j)).toInt ∧ (nI (j)).toInt < (I 3 : Nat)) := hi2
    rw [nI_toInt (by omega)] at hi2
    exact absurd hi2 (by omega)
set_option maxHeartbeats 4000000 in
set_option maxRecDepth 100000 in
theorem c_X4_length (l : Launch) (D : va_G) (cI cO cL : ClassId) (a ca ia : Nat → Nat) (n : Nat) (O : Nat → Option Nat) (I : Nat → Nat) (J : Nat → Int64) (F : Nat → Nat → Nat) (E : Nat → Nat → Int32) (K : Nat → Nat → Nat) (G0 : Nat → Nat → Int32) (j : Nat) (hn : I 3 ≤ 60) (hO : ∀ j, j < I 3 → O j = some (ca j)) (hj : j < I 3) (hin : I 3 ≤ n) : Ki l yX4_length wsX4_length { frames := 2, cells := 0, slots := 0, locals := 42 } D (TY cI cO cL) [.ref (a 1), .int (nI (j))] (bW cI cO a ca ia n O I J F E K G0) (fun r w => r = nI (K 3 j) ∧ w = bW cI cO a ca ia n O I J F E K G0) := by
  refine Ki.mk (cc := cX4_length) (maxL := 3) (rt := .int) (own := RX4) (by decide) rfl rfl (Nat.le_of_ble_eq_true rfl) ?_
  intro p e s m below meth c A Q ls C hname hA G hl RET
  obtain ⟨⟨hx, hb, hml, hown, hts⟩, hK, hN⟩ := id C
  have hl : lv_has ls 3 [(0, .ref (a 1)), (1, .int (nI (j)))] := hl
  have hX1 : ∀ w ∈ u_ws RX1 TX1 5, w ∈ wsX4_length := by decide +kernel
  refine lv_aload_n hx hb dX4_length_0 rfl (lv_at hl 0 rfl) ?_
  refine lv_iload_n hx hb dX4_length_1 rfl (lv_at hl 1 rfl) ?_
  refine r_aq G hA (r_rV (na := 1) (As := [.int (nI (j))]) (rest := []) C G (c_X4_find l D cI cO cL a ca ia n O I J F E K G0 (nI (j)) hn hO) gX4_length_X4_find rfl (by decide +kernel) ⟨Nat.le_of_ble_eq_true rfl, Nat.le_of_ble_eq_true rfl⟩ 1 rfl rfl rfl hl.1 rfl (Nat.le_of_ble_eq_true rfl) dX4_length_2 ⟨by first | (simp only []; omega) | decide, by first | (simp only []; omega) | decide⟩) (fun r2 w2 H locs hp2 G => ?_)
  rcases hp2 with ⟨er2, rfl, hi2⟩ | ⟨rfl, rfl, hi2⟩
  · skip
    rw [tn_nI (by omega)] at er2
    subst er2
    rw [nI_toInt (by omega)] at hi2
    refine r_st (st' := [.ref (ca j)]) rfl ?_
    refine lv_astore_n (lv' := [(2, .ref (ca j)), (0, .ref (a 1)), (1, .int (nI (j)))]) hx hb dX4_length_5 rfl hl (by decide) rfl (fun ls hl => ?_)
    refine lv_aload_n hx hb dX4_length_6 rfl (lv_at hl 0 rfl) ?_
    refine lv_ifnonnull (tgt := 14) hx hb dX4_length_7 (by decide) ?_
    refine lv_aload_n hx hb dX4_length_14 rfl (lv_at hl 0 rfl) ?_
    refine r_getN (v := .int (nI ((K 3) j))) C G hX1 (16 + 2 * j) (bW_c (by omega)) rfl 4 (by decide) (by decide +kernel) rfl dX4_length_15 ?_
    exact RET (nI ((K 3) j)) (bW cI cO a ca ia n O I J F E K G0) _ _ ls _ _ _ (⟨rfl, rfl⟩) G (by first | (simp only []; omega) | decide) (by first | (simp only []; omega) | decide) rfl dX4_length_18
  · skip
    rw [nI_toInt (by omega)] at hi2
    refine r_st (st' := [.null]) rfl ?_
    exact absurd hi2 (by omega)
set_option maxHeartbeats 4000000 in
set_option maxRecDepth 100000 in
theorem c_X4_relabel (l : Launch) (D : va_G) (cI cO cL : ClassId) (a ca ia : Nat → Nat) (n : Nat) (O : Nat → Option Nat) (I : Nat → Nat) (J : Nat → Int64) (F : Nat → Nat → Nat) (E : Nat → Nat → Int32) (K : Nat → Nat → Nat) (G0 : Nat → Nat → Int32) (j lb wt : Nat) (hn : I 3 ≤ 60) (hj : j < I 3) : Kv l yX4_relabel wsX4_relabel { frames := 1, cells := 0, slots := 0, locals := 21 } D (TY cI cO cL) [.ref (a 1), .int (nI (j)), .int (nI (lb)), .int (nI (wt))] (bW cI cO a ca ia n O I J F E K G0) (fun w => w = bW cI cO a ca ia n O I J (va_up (va_up F 0 (va_up (F 0) j lb)) 1 (va_up (F 1) j wt)) E K G0) := by
  refine Kv.mk (cc := cX4_relabel) (maxL := 4) (own := RX4) (by decide) rfl rfl (Nat.le_of_ble_eq_true rfl) ?_
  intro p e s m below meth c A Q ls C hname hA G hl RET
  obtain ⟨⟨hx, hb, hml, hown, hts⟩, hK, hN⟩ := id C
  have hl : lv_has ls 4 [(0, .ref (a 1)), (1, .int (nI (j))), (2, .int (nI (lb))), (3, .int (nI (wt)))] := hl
  have hX4 : ∀ w ∈ u_ws RX4 TX4 4, w ∈ wsX4_relabel := by decide +kernel
  refine lv_aload_n hx hb dX4_relabel_0 rfl (lv_at hl 0 rfl) ?_
  refine lv_iload_n hx hb dX4_relabel_1 rfl (lv_at hl 1 rfl) ?_
  refine r_ai G hA (r_rV (na := 1) (As := [.int (nI (j))]) (rest := []) C G (c_X4_has l D cI cO cL a ca ia n O I J F E K G0 (nI (j)) hn) gX4_relabel_X4_has rfl (by decide +kernel) ⟨Nat.le_of_ble_eq_true rfl, Nat.le_of_ble_eq_true rfl⟩ 1 rfl rfl rfl hl.1 rfl (Nat.le_of_ble_eq_true rfl) dX4_relabel_2 ⟨by first | (simp only []; omega) | decide, by first | (simp only []; omega) | decide⟩) (fun r2 w2 H locs hp2 G => ?_)
  rcases hp2 with ⟨rfl, rfl, hi2⟩ | ⟨rfl, rfl, hi2⟩
  · skip
    replace hi2 : 0 ≤ (nI (j)).toInt ∧ (nI (j)).toInt < (I 3 : Nat) := hi2
    rw [nI_toInt (by omega)] at hi2
    refine lv_if_eq (tgt := 22) hx hb dX4_relabel_5 (by decide) (fun c5 => ?_) (fun c5 => ?_)
    · skip
      exact absurd c5 (by decide)
    · skip
      refine lv_aload_n hx hb dX4_relabel_8 rfl (lv_at hl 0 rfl) ?_
      refine r_get (v := .ref (a 6)) C G hX4 1 rfl rfl 1 (by decide) (by decide +kernel) rfl dX4_relabel_9 ?_
      refine lv_iload_n hx hb dX4_relabel_12 rfl (lv_at hl 1 rfl) ?_
      refine lv_iload_n hx hb dX4_relabel_13 rfl (lv_at hl 2 rfl) ?_
      refine r_iast (ws' := bW cI cO a ca ia n O I J (va_up F 0 (va_up (F 0) j lb)) E K G0) C G 6 0 rfl rfl j rfl (by omega) (by omega) (nI_upd _ _ _) dX4_relabel_14 rfl (fun H locs G => ?_)
      refine lv_aload_n hx hb dX4_relabel_15 rfl (lv_at hl 0 rfl) ?_
      refine r_get (v := .ref (a 7)) C G hX4 1 rfl rfl 2 (by decide) (by decide +kernel) rfl dX4_relabel_16 ?_
      refine lv_iload_n hx hb dX4_relabel_19 rfl (lv_at hl 1 rfl) ?_
      refine lv_iload_n hx hb dX4_relabel_20 rfl (lv_at hl 3 rfl) ?_
      refine r_iast (ws' := bW cI cO a ca ia n O I J (va_up (va_up F 0 (va_up (F 0) j lb)) 1 (va_up (F 1) j wt)) E K G0) C G 7 0 rfl rfl j rfl (by omega) (by omega) (nI_upd _ _ _) dX4_relabel_21 rfl (fun H locs G => ?_)
      exact RET (bW cI cO a ca ia n O I J (va_up (va_up F 0 (va_up (F 0) j lb)) 1 (va_up (F 1) j wt)) E K G0) _ _ ls _ _ _ (rfl) G (by first | (simp only []; omega) | decide) (by first | (simp only []; omega) | decide) dX4_relabel_22
  · skip
    replace hi2 : ¬ (0 ≤ (nI (j)).toInt ∧ (nI (j)).toInt < (I 3 : Nat)) := hi2
    rw [nI_toInt (by omega)] at hi2
    exact absurd hi2 (by omega)
def wsum (w : Nat → Nat) : Nat → Nat
  | 0 => 0
  | k + 1 => wsum w k + w k
theorem wsum_le {w : Nat → Nat} {n : Nat} (h : ∀ j, j < n → w j ≤ 1000) : ∀ k, k ≤ n → wsum w k ≤ 1000 * k := by
  intro k
  induction k with
  | zero => intro _; exact Nat.le_refl 0
  | succ k ih => intro hk; have h1 := ih (by omega); have h2 := h k (by omega); show wsum w k + w k ≤ _; omega
set_option maxHeartbeats 4000000 in
set_option maxRecDepth 100000 in
theorem c_X4_sumOfWeights (l : Launch) (D : va_G) (cI cO cL : ClassId) (a ca ia : Nat → Nat) (n : Nat) (O : Nat → Option Nat) (I : Nat → Nat) (J : Nat → Int64) (F : Nat → Nat → Nat) (E : Nat → Nat → Int32) (K : Nat → Nat → Nat) (G0 : Nat → Nat → Int32) (hn : I 3 ≤ 60) (hWt : ∀ j, j < I 3 → F 1 j ≤ 1000) : Ki l yX4_sumOfWeights wsX4_sumOfWeights { frames := 2, cells := 0, slots := 0, locals := 42 } D (TY cI cO cL) [.ref (a 1)] (bW cI cO a ca ia n O I J F E K G0) (fun r w => r = nI (wsum (F 1) (I 3)) ∧ w = bW cI cO a ca ia n O I J F E K G0) := by
  refine Ki.mk (cc := cX4_sumOfWeights) (maxL := 3) (rt := .int) (own := RX4) (by decide) rfl rfl (Nat.le_of_ble_eq_true rfl) ?_
  intro p e s m below meth c A Q ls C hname hA G hl RET
  obtain ⟨⟨hx, hb, hml, hown, hts⟩, hK, hN⟩ := id C
  have hl : lv_has ls 3 [(0, .ref (a 1))] := hl
  have hX4 : ∀ w ∈ u_ws RX4 TX4 4, w ∈ wsX4_sumOfWeights := by decide +kernel
  refine lv_iconst (v := (nI (0))) hx hb dX4_sumOfWeights_0 (by decide) ?_
  refine lv_istore_n (lv' := [(1, .int (nI (0))), (0, .ref (a 1))]) hx hb dX4_sumOfWeights_1 rfl hl (by decide) rfl (fun ls hl => ?_)
  refine lv_iconst (v := (nI (0))) hx hb dX4_sumOfWeights_2 (by decide) ?_
  refine lv_istore_n (lv' := [(2, .int (nI (0))), (1, .int (nI (0))), (0, .ref (a 1))]) hx hb dX4_sumOfWeights_3 rfl hl (by decide) rfl (fun ls hl => ?_)
  have lp4 : ∀ (fuel4 : Nat) (k : Nat) (hm : I 3 - k < fuel4) (hk : k ≤ I 3) (H : Heap) (locs : List Loc) (ls : Array Slot), Wd A s.heap D (bW cI cO a ca ia n O I J F E K G0) H locs → lv_has ls 3 [(0, .ref (a 1)), (1, .int (nI (wsum (F 1) k))), (2, .int (nI (k)))] → W p l e ({ frames := 2, cells := 0, slots := 0, locals := 42 } : Room) s m ([.ref (a 1)] : List Value).toArray below meth c H locs 0 0 Q (F0 m 4 ls []) := by
    intro fuel4
    induction fuel4 with
    | zero => intro k hm hk; exact absurd hm (by omega)
    | succ fuel4 ih4 =>
      intro k hm hk H locs ls G hl
      refine lv_iload_n hx hb dX4_sumOfWeights_4 rfl (lv_at hl 2 rfl) ?_
      refine lv_aload_n hx hb dX4_sumOfWeights_5 rfl (lv_at hl 0 rfl) ?_
      refine r_get (v := .int (nI (I 3))) C G hX4 1 rfl rfl 3 (by decide) (by decide +kernel) rfl dX4_sumOfWeights_6 ?_
      refine lv_icmp_ge (tgt := 26) hx hb dX4_sumOfWeights_9 (by decide) (fun c9 => ?_) (fun c9 => ?_)
      · skip
        replace c9 : ((I 3 : Nat) : Int) ≤ ((k : Nat) : Int) := (cv_le (nI_toInt (by omega)) (nI_toInt (by omega))).mp c9
        refine lv_iload_n hx hb dX4_sumOfWeights_26 rfl (lv_at hl 1 rfl) ?_
        exact RET (nI (wsum (F 1) k)) (bW cI cO a ca ia n O I J F E K G0) _ _ ls _ _ _ (⟨congrArg (fun k => nI (wsum (F 1) k)) (by omega), rfl⟩) G (by first | (simp only []; omega) | decide) (by first | (simp only []; omega) | decide) rfl dX4_sumOfWeights_27
      · skip
        replace c9 : ((k : Nat) : Int) < ((I 3 : Nat) : Int) := Int.not_le.mp (fun h => c9 ((cv_le (nI_toInt (by omega)) (nI_toInt (by omega))).mpr h))
        refine lv_iload_n hx hb dX4_sumOfWeights_12 rfl (lv_at hl 1 rfl) ?_
        refine lv_aload_n hx hb dX4_sumOfWeights_13 rfl (lv_at hl 0 rfl) ?_
        refine lv_iload_n hx hb dX4_sumOfWeights_14 rfl (lv_at hl 2 rfl) ?_
        refine r_ai G hA (r_rV (na := 1) (As := [.int (nI (k))]) (rest := [.int (nI (wsum (F 1) k))]) C G (c_X4_weight l D cI cO cL a ca ia n O I J F E K G0 k hn (by omega)) gX4_sumOfWeights_X4_weight rfl (by decide +kernel) ⟨Nat.le_of_ble_eq_true rfl, Nat.le_of_ble_eq_true rfl⟩ 1 rfl rfl rfl hl.1 rfl (Nat.le_of_ble_eq_true rfl) dX4_sumOfWeights_15 ⟨by first | (simp only []; omega) | decide, by first | (simp only []; omega) | decide⟩) (fun r15 w15 H locs hp15 G => ?_)
        obtain ⟨rfl, rfl⟩ := hp15
        refine r_top (y := nI ((F 1) k)) rfl ?_
        refine r_iadd hx hb dX4_sumOfWeights_18 ?_
        refine lv_istore_n (lv' := [(1, .int (nI ((wsum (F 1) k) + ((F 1) k)))), (0, .ref (a 1)), (2, .int (nI (k)))]) hx hb dX4_sumOfWeights_19 rfl hl (by decide) rfl (fun ls hl => ?_)
        refine lv_iinc (v := nI (k + 1)) (lv' := [(2, .int (nI (k + 1))), (1, .int (nI ((wsum (F 1) k) + ((F 1) k)))), (0, .ref (a 1))]) hx hb dX4_sumOfWeights_20 hl (k := 2) rfl (inc_n _ 1) (by decide) rfl (fun ls hl => ?_)
        refine lv_goto (tgt := 4) hx hb dX4_sumOfWeights_23 (by decide) ?_
        exact ih4 (k + 1) (by omega) (by omega) _ _ _ (G.eq (rfl)) (lv_sub hl [2, 1, 0] rfl)
  exact lp4 (I 3 + 1) 0 (by omega) (by omega) _ _ _ (G.eq (rfl)) (lv_sub hl [2, 1, 0] rfl)
