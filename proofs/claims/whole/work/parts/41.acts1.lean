set_option maxHeartbeats 4000000 in
set_option maxRecDepth 100000 in
theorem c_X0_allows (l : Launch) (D : va_G) (cI cO cL : ClassId) (ws : va_W) (x v : Int32) : Ki l yX0_allows wsX0_allows { frames := 0, cells := 0, slots := 0, locals := 0 } D (TY cI cO cL) [.int (x), .int (v)] (ws) (fun rr w => (rr = 1 ∧ w = ws ∧ ((x.toInt = 0) ∨ (x.toInt = 1 ∧ v.toInt ≤ 40) ∨ (x.toInt = 2 ∧ 0 ≤ v.toInt ∧ v.toInt ≤ 256) ∨ (x.toInt = 3 ∧ 0 ≤ v.toInt ∧ v.toInt ≤ 100) ∨ (x.toInt = 4 ∧ 0 ≤ v.toInt ∧ v.toInt ≤ 50))) ∨ (rr = 0 ∧ w = ws ∧ ¬ ((x.toInt = 0) ∨ (x.toInt = 1 ∧ v.toInt ≤ 40) ∨ (x.toInt = 2 ∧ 0 ≤ v.toInt ∧ v.toInt ≤ 256) ∨ (x.toInt = 3 ∧ 0 ≤ v.toInt ∧ v.toInt ≤ 100) ∨ (x.toInt = 4 ∧ 0 ≤ v.toInt ∧ v.toInt ≤ 50)))) := by
  refine Ki.mk (cc := cX0_allows) (maxL := 2) (rt := .boolean) (own := RX0) (by decide) rfl rfl (Nat.le_of_ble_eq_true rfl) ?_
  intro p e s m below meth c A Q ls C hname hA G hl RET
  obtain ⟨⟨hx, hb, hml, hown, hts⟩, hK, hN⟩ := id C
  have hl : lv_has ls 2 [(0, .int (x)), (1, .int (v))] := hl
  refine lv_iload_n hx hb dX0_allows_0 rfl (lv_at hl 0 rfl) ?_
  by_cases k1_0 : x = nI 0
  · skip
    refine r_top (y := nI 0) k1_0 ?_
    refine lv_tableIn (off := (35)) (tgt := 36) hx hb dX0_allows_1 (by decide) (by decide) (by decide) (by decide) ?_
    refine lv_iconst (v := (nI (1))) hx hb dX0_allows_36 (by decide) ?_
    exact RET (nI (1)) (ws) _ _ ls _ _ _ (by have ex := congrArg Int32.toInt k1_0; rw [nI_toInt (show 0 < 2 ^ 31 by omega)] at ex; exact Or.inl ⟨rfl, rfl, by omega⟩) G (by first | (simp only []; omega) | decide) (by first | (simp only []; omega) | decide) rfl dX0_allows_37
  by_cases k1_1 : x = nI 1
  · skip
    refine r_top (y := nI 1) k1_1 ?_
    refine lv_tableIn (off := (37)) (tgt := 38) hx hb dX0_allows_1 (by decide) (by decide) (by decide) (by decide) ?_
    refine lv_iload_n hx hb dX0_allows_38 rfl (lv_at hl 1 rfl) ?_
    refine lv_bipush (v := (nI (40))) hx hb dX0_allows_39 (by decide) ?_
    refine lv_icmp_gt (tgt := 48) hx hb dX0_allows_41 (by decide) (fun c41 => ?_) (fun c41 => ?_)
    · skip
      replace c41 : ((40 : Nat) : Int) < (v).toInt := (cv_lt (nI_toInt (by omega)) rfl).mp c41
      refine lv_iconst (v := (nI (0))) hx hb dX0_allows_48 (by decide) ?_
      exact RET (nI (0)) (ws) _ _ ls _ _ _ (by have ex := congrArg Int32.toInt k1_1; rw [nI_toInt (show 1 < 2 ^ 31 by omega)] at ex; exact Or.inr ⟨rfl, rfl, by omega⟩) G (by first | (simp only []; omega) | decide) (by first | (simp only []; omega) | decide) rfl dX0_allows_49
    · skip
      replace c41 : (v).toInt ≤ ((40 : Nat) : Int) := Int.not_lt.mp (fun h => c41 ((cv_lt (nI_toInt (by omega)) rfl).mpr h))
      refine lv_iconst (v := (nI (1))) hx hb dX0_allows_44 (by decide) ?_
      refine lv_goto (tgt := 49) hx hb dX0_allows_45 (by decide) ?_
      exact RET (nI (1)) (ws) _ _ ls _ _ _ (by have ex := congrArg Int32.toInt k1_1; rw [nI_toInt (show 1 < 2 ^ 31 by omega)] at ex; exact Or.inl ⟨rfl, rfl, by omega⟩) G (by first | (simp only []; omega) | decide) (by first | (simp only []; omega) | decide) rfl dX0_allows_49
  by_cases k1_2 : x = nI 2
  · skip
    refine r_top (y := nI 2) k1_2 ?_
    refine lv_tableIn (off := (49)) (tgt := 50) hx hb dX0_allows_1 (by decide) (by decide) (by decide) (by decide) ?_
    refine lv_iload_n hx hb dX0_allows_50 rfl (lv_at hl 1 rfl) ?_
    refine lv_if_lt (tgt := 65) hx hb dX0_allows_51 (by decide) (fun c51 => ?_) (fun c51 => ?_)
    · skip
      replace c51 : (v).toInt < (0) := (cv_lt rfl (by decide)).mp c51
      refine lv_iconst (v := (nI (0))) hx hb dX0_allows_65 (by decide) ?_
      exact RET (nI (0)) (ws) _ _ ls _ _ _ (by have ex := congrArg Int32.toInt k1_2; rw [nI_toInt (show 2 < 2 ^ 31 by omega)] at ex; exact Or.inr ⟨rfl, rfl, by omega⟩) G (by first | (simp only []; omega) | decide) (by first | (simp only []; omega) | decide) rfl dX0_allows_66
    · skip
      replace c51 : (0) ≤ (v).toInt := Int.not_lt.mp (fun h => c51 ((cv_lt rfl (by decide)).mpr h))
      refine lv_iload_n hx hb dX0_allows_54 rfl (lv_at hl 1 rfl) ?_
      refine lv_sipush (v := (nI (256))) hx hb dX0_allows_55 (by decide) ?_
      refine lv_icmp_gt (tgt := 65) hx hb dX0_allows_58 (by decide) (fun c58 => ?_) (fun c58 => ?_)
      · skip
        replace c58 : ((256 : Nat) : Int) < (v).toInt := (cv_lt (nI_toInt (by omega)) rfl).mp c58
        refine lv_iconst (v := (nI (0))) hx hb dX0_allows_65 (by decide) ?_
        exact RET (nI (0)) (ws) _ _ ls _ _ _ (by have ex := congrArg Int32.toInt k1_2; rw [nI_toInt (show 2 < 2 ^ 31 by omega)] at ex; exact Or.inr ⟨rfl, rfl, by omega⟩) G (by first | (simp only []; omega) | decide) (by first | (simp only []; omega) | decide) rfl dX0_allows_66
      · skip
        replace c58 : (v).toInt ≤ ((256 : Nat) : Int) := Int.not_lt.mp (fun h => c58 ((cv_lt (nI_toInt (by omega)) rfl).mpr h))
        refine lv_iconst (v := (nI (1))) hx hb dX0_allows_61 (by decide) ?_
        refine lv_goto (tgt := 66) hx hb dX0_allows_62 (by decide) ?_
        exact RET (nI (1)) (ws) _ _ ls _ _ _ (by have ex := congrArg Int32.toInt k1_2; rw [nI_toInt (show 2 < 2 ^ 31 by omega)] at ex; exact Or.inl ⟨rfl, rfl, by omega⟩) G (by first | (simp only []; omega) | decide) (by first | (simp only []; omega) | decide) rfl dX0_allows_66
  by_cases k1_3 : x = nI 3
  · skip
    refine r_top (y := nI 3) k1_3 ?_
    refine lv_tableIn (off := (66)) (tgt := 67) hx hb dX0_allows_1 (by decide) (by decide) (by decide) (by decide) ?_
    refine lv_iload_n hx hb dX0_allows_67 rfl (lv_at hl 1 rfl) ?_
    refine lv_if_lt (tgt := 81) hx hb dX0_allows_68 (by decide) (fun c68 => ?_) (fun c68 => ?_)
    · skip
      replace c68 : (v).toInt < (0) := (cv_lt rfl (by decide)).mp c68
      refine lv_iconst (v := (nI (0))) hx hb dX0_allows_81 (by decide) ?_
      exact RET (nI (0)) (ws) _ _ ls _ _ _ (by have ex := congrArg Int32.toInt k1_3; rw [nI_toInt (show 3 < 2 ^ 31 by omega)] at ex; exact Or.inr ⟨rfl, rfl, by omega⟩) G (by first | (simp only []; omega) | decide) (by first | (simp only []; omega) | decide) rfl dX0_allows_82
    · skip
      replace c68 : (0) ≤ (v).toInt := Int.not_lt.mp (fun h => c68 ((cv_lt rfl (by decide)).mpr h))
      refine lv_iload_n hx hb dX0_allows_71 rfl (lv_at hl 1 rfl) ?_
      refine lv_bipush (v := (nI (100))) hx hb dX0_allows_72 (by decide) ?_
      refine lv_icmp_gt (tgt := 81) hx hb dX0_allows_74 (by decide) (fun c74 => ?_) (fun c74 => ?_)
      · skip
        replace c74 : ((100 : Nat) : Int) < (v).toInt := (cv_lt (nI_toInt (by omega)) rfl).mp c74
        refine lv_iconst (v := (nI (0))) hx hb dX0_allows_81 (by decide) ?_
        exact RET (nI (0)) (ws) _ _ ls _ _ _ (by have ex := congrArg Int32.toInt k1_3; rw [nI_toInt (show 3 < 2 ^ 31 by omega)] at ex; exact Or.inr ⟨rfl, rfl, by omega⟩) G (by first | (simp only []; omega) | decide) (by first | (simp only []; omega) | decide) rfl dX0_allows_82
      · skip
        replace c74 : (v).toInt ≤ ((100 : Nat) : Int) := Int.not_lt.mp (fun h => c74 ((cv_lt (nI_toInt (by omega)) rfl).mpr h))
        refine lv_iconst (v := (nI (1))) hx hb dX0_allows_77 (by decide) ?_
        refine lv_goto (tgt := 82) hx hb dX0_allows_78 (by decide) ?_
        exact RET (nI (1)) (ws) _ _ ls _ _ _ (by have ex := congrArg Int32.toInt k1_3; rw [nI_toInt (show 3 < 2 ^ 31 by omega)] at ex; exact Or.inl ⟨rfl, rfl, by omega⟩) G (by first | (simp only []; omega) | decide) (by first | (simp only []; omega) | decide) rfl dX0_allows_82
  by_cases k1_4 : x = nI 4
  · skip
    refine r_top (y := nI 4) k1_4 ?_
    refine lv_tableIn (off := (82)) (tgt := 83) hx hb dX0_allows_1 (by decide) (by decide) (by decide) (by decide) ?_
    refine lv_iload_n hx hb dX0_allows_83 rfl (lv_at hl 1 rfl) ?_
    refine lv_if_lt (tgt := 97) hx hb dX0_allows_84 (by decide) (fun c84 => ?_) (fun c84 => ?_)
    · skip
      replace c84 : (v).toInt < (0) := (cv_lt rfl (by decide)).mp c84
      refine lv_iconst (v := (nI (0))) hx hb dX0_allows_97 (by decide) ?_
      exact RET (nI (0)) (ws) _ _ ls _ _ _ (by have ex := congrArg Int32.toInt k1_4; rw [nI_toInt (show 4 < 2 ^ 31 by omega)] at ex; exact Or.inr ⟨rfl, rfl, by omega⟩) G (by first | (simp only []; omega) | decide) (by first | (simp only []; omega) | decide) rfl dX0_allows_98
    · skip
      replace c84 : (0) ≤ (v).toInt := Int.not_lt.mp (fun h => c84 ((cv_lt rfl (by decide)).mpr h))
      refine lv_iload_n hx hb dX0_allows_87 rfl (lv_at hl 1 rfl) ?_
      refine lv_bipush (v := (nI (50))) hx hb dX0_allows_88 (by decide) ?_
      refine lv_icmp_gt (tgt := 97) hx hb dX0_allows_90 (by decide) (fun c90 => ?_) (fun c90 => ?_)
      · skip
        replace c90 : ((50 : Nat) : Int) < (v).toInt := (cv_lt (nI_toInt (by omega)) rfl).mp c90
        refine lv_iconst (v := (nI (0))) hx hb dX0_allows_97 (by decide) ?_
        exact RET (nI (0)) (ws) _ _ ls _ _ _ (by have ex := congrArg Int32.toInt k1_4; rw [nI_toInt (show 4 < 2 ^ 31 by omega)] at ex; exact Or.inr ⟨rfl, rfl, by omega⟩) G (by first | (simp only []; omega) | decide) (by first | (simp only []; omega) | decide) rfl dX0_allows_98
      · skip
        replace c90 : (v).toInt ≤ ((50 : Nat) : Int) := Int.not_lt.mp (fun h => c90 ((cv_lt (nI_toInt (by omega)) rfl).mpr h))
        refine lv_iconst (v := (nI (1))) hx hb dX0_allows_93 (by decide) ?_
        refine lv_goto (tgt := 98) hx hb dX0_allows_94 (by decide) ?_
        exact RET (nI (1)) (ws) _ _ ls _ _ _ (by have ex := congrArg Int32.toInt k1_4; rw [nI_toInt (show 4 < 2 ^ 31 by omega)] at ex; exact Or.inl ⟨rfl, rfl, by omega⟩) G (by first | (simp only []; omega) | decide) (by first | (simp only []; omega) | decide) rfl dX0_allows_98
  have ko1 : (x).toInt < (0) ∨ (4) < (x).toInt := by
    have z0 := lv_neT (a := (0)) k1_0 (by decide)
    have z1 := lv_neT (a := (1)) k1_1 (by decide)
    have z2 := lv_neT (a := (2)) k1_2 (by decide)
    have z3 := lv_neT (a := (3)) k1_3 (by decide)
    have z4 := lv_neT (a := (4)) k1_4 (by decide)
    omega
  refine lv_tableOut (tgt := 99) hx hb dX0_allows_1 ko1 (by decide) ?_
  refine lv_iconst (v := (nI (0))) hx hb dX0_allows_99 (by decide) ?_
  exact RET (nI (0)) (ws) _ _ ls _ _ _ (by exact Or.inr ⟨rfl, rfl, by omega⟩) G (by first | (simp only []; omega) | decide) (by first | (simp only []; omega) | decide) rfl dX0_allows_100
set_option maxHeartbeats 4000000 in
set_option maxRecDepth 100000 in
theorem c_X0_failureOfCrop (l : Launch) (D : va_G) (cI cO cL : ClassId) (a ca ia : Nat → Nat) (n : Nat) (O : Nat → Option Nat) (I : Nat → Nat) (J : Nat → Int64) (F : Nat → Nat → Nat) (E : Nat → Nat → Int32) (K : Nat → Nat → Nat) (G0 : Nat → Nat → Int32) (r : Nat) (hr : r < n) (v : Int32) (hk0 : K 0 r ≤ 2) (hk1 : K 1 r ≤ 40) (hk2 : K 2 r ≤ 40) (hk3 : K 3 r ≤ K 4 r) (hk4 : K 4 r ≤ 1600) : Ki l yX0_failureOfCrop wsX0_failureOfCrop { frames := 0, cells := 0, slots := 0, locals := 0 } D (TY cI cO cL) [.ref (ca r), .int (v)] (bW cI cO a ca ia n O I J F E K G0) (fun q w => (((K 1 r : Int) < v.toInt ∨ (K 2 r : Int) < v.toInt) ∧ q = -13 ∧ w = bW cI cO a ca ia n O I J F E K G0) ∨ ((¬ ((K 1 r : Int) < v.toInt ∨ (K 2 r : Int) < v.toInt) ∧ v.toInt < 0) ∧ q = -15 ∧ w = bW cI cO a ca ia n O I J F E K G0) ∨ ((¬ ((K 1 r : Int) < v.toInt ∨ (K 2 r : Int) < v.toInt) ∧ 0 ≤ v.toInt) ∧ q = 0 ∧ w = bW cI cO a ca ia n O I J F E K G0)) := by
  refine Ki.mk (cc := cX0_failureOfCrop) (maxL := 2) (rt := .int) (own := RX0) (by decide) rfl rfl (Nat.le_of_ble_eq_true rfl) ?_
  intro p e s m below meth c A Q ls C hname hA G hl RET
  obtain ⟨⟨hx, hb, hml, hown, hts⟩, hK, hN⟩ := id C
  have hl : lv_has ls 2 [(0, .ref (ca r)), (1, .int (v))] := hl
  have hX1 : ∀ w ∈ u_ws RX1 TX1 5, w ∈ wsX0_failureOfCrop := by decide +kernel
  refine lv_iload_n hx hb dX0_failureOfCrop_0 rfl (lv_at hl 1 rfl) ?_
  refine lv_aload_n hx hb dX0_failureOfCrop_1 rfl (lv_at hl 0 rfl) ?_
  refine r_getN (v := .int (nI ((K 1) r))) C G hX1 (16 + 2 * r) (bW_c (by omega)) rfl 2 (by decide) (by decide +kernel) rfl dX0_failureOfCrop_2 ?_
  refine lv_icmp_gt (tgt := 16) hx hb dX0_failureOfCrop_5 (by decide) (fun c5 => ?_) (fun c5 => ?_)
  · skip
    replace c5 : (((K 1) r : Nat) : Int) < (v).toInt := (cv_lt (nI_toInt (by omega)) rfl).mp c5
    refine lv_bipush (v := ((-13))) hx hb dX0_failureOfCrop_16 (by decide) ?_
    exact RET ((-13)) (bW cI cO a ca ia n O I J F E K G0) _ _ ls _ _ _ (Or.inl (⟨by omega, rfl, rfl⟩)) G (by first | (simp only []; omega) | decide) (by first | (simp only []; omega) | decide) rfl dX0_failureOfCrop_18
  · skip
    replace c5 : (v).toInt ≤ (((K 1) r : Nat) : Int) := Int.not_lt.mp (fun h => c5 ((cv_lt (nI_toInt (by omega)) rfl).mpr h))
    refine lv_iload_n hx hb dX0_failureOfCrop_8 rfl (lv_at hl 1 rfl) ?_
    refine lv_aload_n hx hb dX0_failureOfCrop_9 rfl (lv_at hl 0 rfl) ?_
    refine r_getN (v := .int (nI ((K 2) r))) C G hX1 (16 + 2 * r) (bW_c (by omega)) rfl 3 (by decide) (by decide +kernel) rfl dX0_failureOfCrop_10 ?_
    refine lv_icmp_le (tgt := 19) hx hb dX0_failureOfCrop_13 (by decide) (fun c13 => ?_) (fun c13 => ?_)
    · skip
      replace c13 : (v).toInt ≤ (((K 2) r : Nat) : Int) := (cv_le rfl (nI_toInt (by omega))).mp c13
      refine lv_iload_n hx hb dX0_failureOfCrop_19 rfl (lv_at hl 1 rfl) ?_
      refine lv_if_ge (tgt := 28) hx hb dX0_failureOfCrop_20 (by decide) (fun c20 => ?_) (fun c20 => ?_)
      · skip
        replace c20 : (0) ≤ (v).toInt := (cv_le (by decide) rfl).mp c20
        refine lv_iconst (v := (nI (0))) hx hb dX0_failureOfCrop_28 (by decide) ?_
        exact RET (nI (0)) (bW cI cO a ca ia n O I J F E K G0) _ _ ls _ _ _ (Or.inr (Or.inr (⟨by omega, rfl, rfl⟩))) G (by first | (simp only []; omega) | decide) (by first | (simp only []; omega) | decide) rfl dX0_failureOfCrop_29
      · skip
        replace c20 : (v).toInt < (0) := Int.not_le.mp (fun h => c20 ((cv_le (by decide) rfl).mpr h))
        refine lv_bipush (v := ((-15))) hx hb dX0_failureOfCrop_23 (by decide) ?_
        refine lv_goto (tgt := 29) hx hb dX0_failureOfCrop_25 (by decide) ?_
        exact RET ((-15)) (bW cI cO a ca ia n O I J F E K G0) _ _ ls _ _ _ (Or.inr (Or.inl (⟨by omega, rfl, rfl⟩))) G (by first | (simp only []; omega) | decide) (by first | (simp only []; omega) | decide) rfl dX0_failureOfCrop_29
    · skip
      replace c13 : (((K 2) r : Nat) : Int) < (v).toInt := Int.not_le.mp (fun h => c13 ((cv_le rfl (nI_toInt (by omega))).mpr h))
      refine lv_bipush (v := ((-13))) hx hb dX0_failureOfCrop_16 (by decide) ?_
      exact RET ((-13)) (bW cI cO a ca ia n O I J F E K G0) _ _ ls _ _ _ (Or.inl (⟨by omega, rfl, rfl⟩)) G (by first | (simp only []; omega) | decide) (by first | (simp only []; omega) | decide) rfl dX0_failureOfCrop_18
set_option maxHeartbeats 4000000 in
set_option maxRecDepth 100000 in
theorem c_X0_failureOfSwap (l : Launch) (D : va_G) (cI cO cL : ClassId) (a ca ia : Nat → Nat) (n : Nat) (O : Nat → Option Nat) (I : Nat → Nat) (J : Nat → Int64) (F : Nat → Nat → Nat) (E : Nat → Nat → Int32) (K : Nat → Nat → Nat) (G0 : Nat → Nat → Int32) (r : Nat) (hr : r < n) (v : Int32) (hk0 : K 0 r ≤ 2) (hk1 : K 1 r ≤ 40) (hk2 : K 2 r ≤ 40) (hk3 : K 3 r ≤ K 4 r) (hk4 : K 4 r ≤ 1600) (hv0 : 0 ≤ v.toInt) : Ki l yX0_failureOfSwap wsX0_failureOfSwap { frames := 0, cells := 0, slots := 0, locals := 0 } D (TY cI cO cL) [.ref (ca r), .int (v)] (bW cI cO a ca ia n O I J F E K G0) (fun q w => ((0 < v.toInt ∧ K 3 r = 0) ∧ q = -13 ∧ w = bW cI cO a ca ia n O I J F E K G0) ∨ ((0 < v.toInt ∧ K 3 r = 1) ∧ q = -16 ∧ w = bW cI cO a ca ia n O I J F E K G0) ∨ ((v.toInt = 0 ∨ 1 < K 3 r) ∧ q = 0 ∧ w = bW cI cO a ca ia n O I J F E K G0)) := by
  refine Ki.mk (cc := cX0_failureOfSwap) (maxL := 2) (rt := .int) (own := RX0) (by decide) rfl rfl (Nat.le_of_ble_eq_true rfl) ?_
  intro p e s m below meth c A Q ls C hname hA G hl RET
  obtain ⟨⟨hx, hb, hml, hown, hts⟩, hK, hN⟩ := id C
  have hl : lv_has ls 2 [(0, .ref (ca r)), (1, .int (v))] := hl
  have hX1 : ∀ w ∈ u_ws RX1 TX1 5, w ∈ wsX0_failureOfSwap := by decide +kernel
  refine lv_iload_n hx hb dX0_failureOfSwap_0 rfl (lv_at hl 1 rfl) ?_
  refine lv_if_eq (tgt := 12) hx hb dX0_failureOfSwap_1 (by decide) (fun c1 => ?_) (fun c1 => ?_)
  · skip
    replace c1 : (v).toInt = (0) := (cv_eq rfl (by decide)).mp c1
    refine lv_iconst (v := (nI (0))) hx hb dX0_failureOfSwap_12 (by decide) ?_
    exact RET (nI (0)) (bW cI cO a ca ia n O I J F E K G0) _ _ ls _ _ _ (Or.inr (Or.inr (⟨by omega, rfl, rfl⟩))) G (by first | (simp only []; omega) | decide) (by first | (simp only []; omega) | decide) rfl dX0_failureOfSwap_13
  · skip
    replace c1 : ¬ (v).toInt = (0) := fun h => c1 ((cv_eq rfl (by decide)).mpr h)
    refine lv_aload_n hx hb dX0_failureOfSwap_4 rfl (lv_at hl 0 rfl) ?_
    refine r_getN (v := .int (nI ((K 3) r))) C G hX1 (16 + 2 * r) (bW_c (by omega)) rfl 4 (by decide) (by decide +kernel) rfl dX0_failureOfSwap_5 ?_
    refine lv_iconst (v := (nI (1))) hx hb dX0_failureOfSwap_8 (by decide) ?_
    refine lv_icmp_le (tgt := 14) hx hb dX0_failureOfSwap_9 (by decide) (fun c9 => ?_) (fun c9 => ?_)
    · skip
      replace c9 : (((K 3) r : Nat) : Int) ≤ ((1 : Nat) : Int) := (cv_le (nI_toInt (by omega)) (nI_toInt (by omega))).mp c9
      refine lv_aload_n hx hb dX0_failureOfSwap_14 rfl (lv_at hl 0 rfl) ?_
      refine r_getN (v := .int (nI ((K 3) r))) C G hX1 (16 + 2 * r) (bW_c (by omega)) rfl 4 (by decide) (by decide +kernel) rfl dX0_failureOfSwap_15 ?_
      refine lv_if_ne (tgt := 26) hx hb dX0_failureOfSwap_18 (by decide) (fun c18 => ?_) (fun c18 => ?_)
      · skip
        replace c18 : ¬ (((K 3) r : Nat) : Int) = (0) := fun h => c18 ((cv_eq (nI_toInt (by omega)) (by decide)).mpr h)
        refine lv_bipush (v := ((-16))) hx hb dX0_failureOfSwap_26 (by decide) ?_
        exact RET ((-16)) (bW cI cO a ca ia n O I J F E K G0) _ _ ls _ _ _ (Or.inr (Or.inl (⟨by omega, rfl, rfl⟩))) G (by first | (simp only []; omega) | decide) (by first | (simp only []; omega) | decide) rfl dX0_failureOfSwap_28
      · skip
        replace c18 : (((K 3) r : Nat) : Int) = (0) := (cv_eq (nI_toInt (by omega)) (by decide)).mp c18
        refine lv_bipush (v := ((-13))) hx hb dX0_failureOfSwap_21 (by decide) ?_
        refine lv_goto (tgt := 28) hx hb dX0_failureOfSwap_23 (by decide) ?_
        exact RET ((-13)) (bW cI cO a ca ia n O I J F E K G0) _ _ ls _ _ _ (Or.inl (⟨by omega, rfl, rfl⟩)) G (by first | (simp only []; omega) | decide) (by first | (simp only []; omega) | decide) rfl dX0_failureOfSwap_28
    · skip
      replace c9 : ((1 : Nat) : Int) < (((K 3) r : Nat) : Int) := Int.not_le.mp (fun h => c9 ((cv_le (nI_toInt (by omega)) (nI_toInt (by omega))).mpr h))
      refine lv_iconst (v := (nI (0))) hx hb dX0_failureOfSwap_12 (by decide) ?_
      exact RET (nI (0)) (bW cI cO a ca ia n O I J F E K G0) _ _ ls _ _ _ (Or.inr (Or.inr (⟨by omega, rfl, rfl⟩))) G (by first | (simp only []; omega) | decide) (by first | (simp only []; omega) | decide) rfl dX0_failureOfSwap_13
set_option maxHeartbeats 4000000 in
set_option maxRecDepth 100000 in
theorem c_X0_failure (l : Launch) (D : va_G) (cI cO cL : ClassId) (a ca ia : Nat → Nat) (n : Nat) (O : Nat → Option Nat) (I : Nat → Nat) (J : Nat → Int64) (F : Nat → Nat → Nat) (E : Nat → Nat → Int32) (K : Nat → Nat → Nat) (G0 : Nat → Nat → Int32) (r : Nat) (hr : r < n) (ac : Nat) (v : Int32) (hk0 : K 0 r ≤ 2) (hk1 : K 1 r ≤ 40) (hk2 : K 2 r ≤ 40) (hk3 : K 3 r ≤ K 4 r) (hk4 : K 4 r ≤ 1600) (hac : ac ≤ 4) (hpic : K 0 r = 1 → 0 < K 3 r) (hv0 : (ac = 2 ∨ ac = 4) → 0 ≤ v.toInt) : Ki l yX0_failure wsX0_failure { frames := 1, cells := 0, slots := 0, locals := 21 } D (TY cI cO cL) [.int (nI (ac)), .ref (ca r), .int (v)] (bW cI cO a ca ia n O I J F E K G0) (fun q w => (flN ac (K 0 r) (K 1 r) (K 2 r) (K 3 r) v.toInt = 0 ∧ q = 0 ∧ w = bW cI cO a ca ia n O I J F E K G0) ∨ (flN ac (K 0 r) (K 1 r) (K 2 r) (K 3 r) v.toInt = 1 ∧ q = -11 ∧ w = bW cI cO a ca ia n O I J F E K G0) ∨ (flN ac (K 0 r) (K 1 r) (K 2 r) (K 3 r) v.toInt = 2 ∧ q = -12 ∧ w = bW cI cO a ca ia n O I J F E K G0) ∨ (flN ac (K 0 r) (K 1 r) (K 2 r) (K 3 r) v.toInt = 3 ∧ q = -13 ∧ w = bW cI cO a ca ia n O I J F E K G0) ∨ (flN ac (K 0 r) (K 1 r) (K 2 r) (K 3 r) v.toInt = 5 ∧ q = -15 ∧ w = bW cI cO a ca ia n O I J F E K G0) ∨ (flN ac (K 0 r) (K 1 r) (K 2 r) (K 3 r) v.toInt = 6 ∧ q = -16 ∧ w = bW cI cO a ca ia n O I J F E K G0)) := by
  refine Ki.mk (cc := cX0_failure) (maxL := 4) (rt := .int) (own := RX0) (by decide) rfl rfl (Nat.le_of_ble_eq_true rfl) ?_
  intro p e s m below meth c A Q ls C hname hA G hl RET
  obtain ⟨⟨hx, hb, hml, hown, hts⟩, hK, hN⟩ := id C
  have hl : lv_has ls 4 [(0, .int (nI (ac))), (1, .ref (ca r)), (2, .int (v))] := hl
  have hX1 : ∀ w ∈ u_ws RX1 TX1 5, w ∈ wsX0_failure := by decide +kernel
  refine lv_aload_n hx hb dX0_failure_0 rfl (lv_at hl 1 rfl) ?_
  refine r_getN (v := .int (nI ((K 0) r))) C G hX1 (16 + 2 * r) (bW_c (by omega)) rfl 1 (by decide) (by decide +kernel) rfl dX0_failure_1 ?_
  refine lv_iconst (v := (nI (2))) hx hb dX0_failure_4 (by decide) ?_
  refine lv_icmp_ne (tgt := 11) hx hb dX0_failure_5 (by decide) (fun c5 => ?_) (fun c5 => ?_)
  · skip
    replace c5 : ¬ (((K 0) r : Nat) : Int) = ((2 : Nat) : Int) := fun h => c5 ((cv_eq (nI_toInt (by omega)) (nI_toInt (by omega))).mpr h)
    refine lv_iload_n hx hb dX0_failure_11 rfl (lv_at hl 0 rfl) ?_
    refine lv_iconst (v := (nI (3))) hx hb dX0_failure_12 (by decide) ?_
    refine lv_icmp_eq (tgt := 21) hx hb dX0_failure_13 (by decide) (fun c13 => ?_) (fun c13 => ?_)
    · skip
      replace c13 : ((ac : Nat) : Int) = ((3 : Nat) : Int) := (cv_eq (nI_toInt (by omega)) (nI_toInt (by omega))).mp c13
      refine lv_iconst (v := (nI (0))) hx hb dX0_failure_21 (by decide) ?_
      refine lv_goto (tgt := 26) hx hb dX0_failure_22 (by decide) ?_
      refine lv_istore_n (lv' := [(3, .int (nI (0))), (0, .int (nI (ac))), (1, .ref (ca r)), (2, .int (v))]) hx hb dX0_failure_26 rfl hl (by decide) rfl (fun ls hl => ?_)
      refine lv_aload_n hx hb dX0_failure_27 rfl (lv_at hl 2 rfl) ?_
      refine r_getN (v := .int (nI ((K 0) r))) C G hX1 (16 + 2 * r) (bW_c (by omega)) rfl 1 (by decide) (by decide +kernel) rfl dX0_failure_28 ?_
      refine lv_iload_n hx hb dX0_failure_31 rfl (lv_at hl 0 rfl) ?_
      refine lv_icmp_eq (tgt := 38) hx hb dX0_failure_32 (by decide) (fun c32 => ?_) (fun c32 => ?_)
      · skip
        replace c32 : (((K 0) r : Nat) : Int) = ((0 : Nat) : Int) := (cv_eq (nI_toInt (by omega)) (nI_toInt (by omega))).mp c32
        refine lv_iload_n hx hb dX0_failure_38 rfl (lv_at hl 1 rfl) ?_
        by_cases k39_0 : ac = 1
        · skip
          refine r_top (y := nI 1) (by rw [k39_0]) ?_
          refine lv_tableIn (off := (29)) (tgt := 68) hx hb dX0_failure_39 (by decide) (by decide) (by decide) (by decide) ?_
          refine lv_aload_n hx hb dX0_failure_68 rfl (lv_at hl 2 rfl) ?_
          refine lv_iload_n hx hb dX0_failure_69 rfl (lv_at hl 3 rfl) ?_
          refine r_ai G hA (r_rS (na := 2) (As := [.ref (ca r), .int (v)]) (rest := []) C G (c_X0_failureOfCrop l D cI cO cL a ca ia n O I J F E K G0 r (by omega) v hk0 hk1 hk2 hk3 hk4) gX0_failure_X0_failureOfCrop rfl (by decide +kernel) ⟨Nat.le_of_ble_eq_true rfl, Nat.le_of_ble_eq_true rfl⟩ rfl hl.1 rfl (Nat.le_of_ble_eq_true rfl) dX0_failure_70 ⟨by first | (simp only []; omega) | decide, by first | (simp only []; omega) | decide⟩) (fun r70 w70 H locs hp70 G => ?_)
          rcases hp70 with ⟨hc70, rfl, rfl⟩ | ⟨hc70, rfl, rfl⟩ | ⟨hc70, rfl, rfl⟩
          · skip
            exact RET ((-13)) (bW cI cO a ca ia n O I J F E K G0) _ _ ls _ _ _ (Or.inr (Or.inr (Or.inr (Or.inl (⟨(by unfold flN; split <;> (try split) <;> (try split) <;> (try split) <;> (try split) <;> omega), rfl, rfl⟩))))) G (by first | (simp only []; omega) | decide) (by first | (simp only []; omega) | decide) rfl dX0_failure_73
          · skip
            exact RET ((-15)) (bW cI cO a ca ia n O I J F E K G0) _ _ ls _ _ _ (Or.inr (Or.inr (Or.inr (Or.inr (Or.inl (⟨(by unfold flN; split <;> (try split) <;> (try split) <;> (try split) <;> (try split) <;> omega), rfl, rfl⟩)))))) G (by first | (simp only []; omega) | decide) (by first | (simp only []; omega) | decide) rfl dX0_failure_73
          · skip
            exact RET (nI (0)) (bW cI cO a ca ia n O I J F E K G0) _ _ ls _ _ _ (Or.inl (⟨(by unfold flN; split <;> (try split) <;> (try split) <;> (try split) <;> (try split) <;> omega), rfl, rfl⟩)) G (by first | (simp only []; omega) | decide) (by first | (simp only []; omega) | decide) rfl dX0_failure_73
        by_cases k39_1 : ac = 2
        · skip
          refine r_top (y := nI 2) (by rw [k39_1]) ?_
          refine lv_tableIn (off := (35)) (tgt := 74) hx hb dX0_failure_39 (by decide) (by decide) (by decide) (by decide) ?_
          refine lv_iload_n hx hb dX0_failure_74 rfl (lv_at hl 3 rfl) ?_
          refine lv_if_ne (tgt := 90) hx hb dX0_failure_75 (by decide) (fun c75 => ?_) (fun c75 => ?_)
          · skip
            replace c75 : ¬ (v).toInt = (0) := fun h => c75 ((cv_eq rfl (by decide)).mpr h)
            refine lv_iconst (v := (nI (0))) hx hb dX0_failure_90 (by decide) ?_
            exact RET (nI (0)) (bW cI cO a ca ia n O I J F E K G0) _ _ ls _ _ _ (Or.inl (⟨(by unfold flN; split <;> (try split) <;> (try split) <;> (try split) <;> (try split) <;> omega), rfl, rfl⟩)) G (by first | (simp only []; omega) | decide) (by first | (simp only []; omega) | decide) rfl dX0_failure_91
          · skip
            replace c75 : (v).toInt = (0) := (cv_eq rfl (by decide)).mp c75
            refine lv_aload_n hx hb dX0_failure_78 rfl (lv_at hl 2 rfl) ?_
            refine r_getN (v := .int (nI ((K 3) r))) C G hX1 (16 + 2 * r) (bW_c (by omega)) rfl 4 (by decide) (by decide +kernel) rfl dX0_failure_79 ?_
            refine lv_if_le (tgt := 90) hx hb dX0_failure_82 (by decide) (fun c82 => ?_) (fun c82 => ?_)
            · skip
              replace c82 : (((K 3) r : Nat) : Int) ≤ (0) := (cv_le (nI_toInt (by omega)) (by decide)).mp c82
              refine lv_iconst (v := (nI (0))) hx hb dX0_failure_90 (by decide) ?_
              exact RET (nI (0)) (bW cI cO a ca ia n O I J F E K G0) _ _ ls _ _ _ (Or.inl (⟨(by unfold flN; split <;> (try split) <;> (try split) <;> (try split) <;> (try split) <;> omega), rfl, rfl⟩)) G (by first | (simp only []; omega) | decide) (by first | (simp only []; omega) | decide) rfl dX0_failure_91
            · skip
              replace c82 : (0) < (((K 3) r : Nat) : Int) := Int.not_le.mp (fun h => c82 ((cv_le (nI_toInt (by omega)) (by decide)).mpr h))
              refine lv_bipush (v := ((-16))) hx hb dX0_failure_85 (by decide) ?_
              refine lv_goto (tgt := 91) hx hb dX0_failure_87 (by decide) ?_
              exact RET ((-16)) (bW cI cO a ca ia n O I J F E K G0) _ _ ls _ _ _ (Or.inr (Or.inr (Or.inr (Or.inr (Or.inr (⟨(by unfold flN; split <;> (try split) <;> (try split) <;> (try split) <;> (try split) <;> omega), rfl, rfl⟩)))))) G (by first | (simp only []; omega) | decide) (by first | (simp only []; omega) | decide) rfl dX0_failure_91
        by_cases k39_2 : ac = 3
        · skip
          refine r_top (y := nI 3) (by rw [k39_2]) ?_
          refine lv_tableIn (off := (59)) (tgt := 98) hx hb dX0_failure_39 (by decide) (by decide) (by decide) (by decide) ?_
          refine lv_iconst (v := (nI (0))) hx hb dX0_failure_98 (by decide) ?_
          exact RET (nI (0)) (bW cI cO a ca ia n O I J F E K G0) _ _ ls _ _ _ (Or.inl (⟨(by unfold flN; split <;> (try split) <;> (try split) <;> (try split) <;> (try split) <;> omega), rfl, rfl⟩)) G (by first | (simp only []; omega) | decide) (by first | (simp only []; omega) | decide) rfl dX0_failure_99
        by_cases k39_3 : ac = 4
        · skip
          refine r_top (y := nI 4) (by rw [k39_3]) ?_
          refine lv_tableIn (off := (53)) (tgt := 92) hx hb dX0_failure_39 (by decide) (by decide) (by decide) (by decide) ?_
          refine lv_aload_n hx hb dX0_failure_92 rfl (lv_at hl 2 rfl) ?_
          refine lv_iload_n hx hb dX0_failure_93 rfl (lv_at hl 3 rfl) ?_
          refine r_ai G hA (r_rS (na := 2) (As := [.ref (ca r), .int (v)]) (rest := []) C G (c_X0_failureOfSwap l D cI cO cL a ca ia n O I J F E K G0 r (by omega) v hk0 hk1 hk2 hk3 hk4 (by omega)) gX0_failure_X0_failureOfSwap rfl (by decide +kernel) ⟨Nat.le_of_ble_eq_true rfl, Nat.le_of_ble_eq_true rfl⟩ rfl hl.1 rfl (Nat.le_of_ble_eq_true rfl) dX0_failure_94 ⟨by first | (simp only []; omega) | decide, by first | (simp only []; omega) | decide⟩) (fun r94 w94 H locs hp94 G => ?_)
          rcases hp94 with ⟨hc94, rfl, rfl⟩ | ⟨hc94, rfl, rfl⟩ | ⟨hc94, rfl, rfl⟩
          · skip
            exact RET ((-13)) (bW cI cO a ca ia n O I J F E K G0) _ _ ls _ _ _ (Or.inr (Or.inr (Or.inr (Or.inl (⟨(by unfold flN; split <;> (try split) <;> (try split) <;> (try split) <;> (try split) <;> omega), rfl, rfl⟩))))) G (by first | (simp only []; omega) | decide) (by first | (simp only []; omega) | decide) rfl dX0_failure_97
          · skip
            exact RET ((-16)) (bW cI cO a ca ia n O I J F E K G0) _ _ ls _ _ _ (Or.inr (Or.inr (Or.inr (Or.inr (Or.inr (⟨(by unfold flN; split <;> (try split) <;> (try split) <;> (try split) <;> (try split) <;> omega), rfl, rfl⟩)))))) G (by first | (simp only []; omega) | decide) (by first | (simp only []; omega) | decide) rfl dX0_failure_97
          · skip
            exact RET (nI (0)) (bW cI cO a ca ia n O I J F E K G0) _ _ ls _ _ _ (Or.inl (⟨(by unfold flN; split <;> (try split) <;> (try split) <;> (try split) <;> (try split) <;> omega), rfl, rfl⟩)) G (by first | (simp only []; omega) | decide) (by first | (simp only []; omega) | decide) rfl dX0_failure_97
        have ko39 : (nI (ac)).toInt < (1) ∨ (4) < (nI (ac)).toInt := by rw [nI_toInt (by omega)]; omega
        refine lv_tableOut (tgt := 98) hx hb dX0_failure_39 ko39 (by decide) ?_
        refine lv_iconst (v := (nI (0))) hx hb dX0_failure_98 (by decide) ?_
        exact RET (nI (0)) (bW cI cO a ca ia n O I J F E K G0) _ _ ls _ _ _ (Or.inl (⟨(by unfold flN; split <;> (try split) <;> (try split) <;> (try split) <;> (try split) <;> omega), rfl, rfl⟩)) G (by first | (simp only []; omega) | decide) (by first | (simp only []; omega) | decide) rfl dX0_failure_99
      · skip
        replace c32 : ¬ (((K 0) r : Nat) : Int) = ((0 : Nat) : Int) := fun h => c32 ((cv_eq (nI_toInt (by omega)) (nI_toInt (by omega))).mpr h)
        refine lv_bipush (v := ((-12))) hx hb dX0_failure_35 (by decide) ?_
        exact RET ((-12)) (bW cI cO a ca ia n O I J F E K G0) _ _ ls _ _ _ (Or.inr (Or.inr (Or.inl (⟨(by unfold flN; split <;> (try split) <;> (try split) <;> (try split) <;> (try split) <;> omega), rfl, rfl⟩)))) G (by first | (simp only []; omega) | decide) (by first | (simp only []; omega) | decide) rfl dX0_failure_37
    · skip
      replace c13 : ¬ ((ac : Nat) : Int) = ((3 : Nat) : Int) := fun h => c13 ((cv_eq (nI_toInt (by omega)) (nI_toInt (by omega))).mpr h)
      refine lv_iload_n hx hb dX0_failure_16 rfl (lv_at hl 0 rfl) ?_
      refine lv_iconst (v := (nI (4))) hx hb dX0_failure_17 (by decide) ?_
      refine lv_icmp_ne (tgt := 25) hx hb dX0_failure_18 (by decide) (fun c18 => ?_) (fun c18 => ?_)
      · skip
        replace c18 : ¬ ((ac : Nat) : Int) = ((4 : Nat) : Int) := fun h => c18 ((cv_eq (nI_toInt (by omega)) (nI_toInt (by omega))).mpr h)
        refine lv_iconst (v := (nI (1))) hx hb dX0_failure_25 (by decide) ?_
        refine lv_istore_n (lv' := [(3, .int (nI (1))), (0, .int (nI (ac))), (1, .ref (ca r)), (2, .int (v))]) hx hb dX0_failure_26 rfl hl (by decide) rfl (fun ls hl => ?_)
        refine lv_aload_n hx hb dX0_failure_27 rfl (lv_at hl 2 rfl) ?_
        refine r_getN (v := .int (nI ((K 0) r))) C G hX1 (16 + 2 * r) (bW_c (by omega)) rfl 1 (by decide) (by decide +kernel) rfl dX0_failure_28 ?_
        refine lv_iload_n hx hb dX0_failure_31 rfl (lv_at hl 0 rfl) ?_
        refine lv_icmp_eq (tgt := 38) hx hb dX0_failure_32 (by decide) (fun c32 => ?_) (fun c32 => ?_)
        · skip
          replace c32 : (((K 0) r : Nat) : Int) = ((1 : Nat) : Int) := (cv_eq (nI_toInt (by omega)) (nI_toInt (by omega))).mp c32
          refine lv_iload_n hx hb dX0_failure_38 rfl (lv_at hl 1 rfl) ?_
          by_cases k39_0 : ac = 1
          · skip
            refine r_top (y := nI 1) (by rw [k39_0]) ?_
            refine lv_tableIn (off := (29)) (tgt := 68) hx hb dX0_failure_39 (by decide) (by decide) (by decide) (by decide) ?_
            refine lv_aload_n hx hb dX0_failure_68 rfl (lv_at hl 2 rfl) ?_
            refine lv_iload_n hx hb dX0_failure_69 rfl (lv_at hl 3 rfl) ?_
            refine r_ai G hA (r_rS (na := 2) (As := [.ref (ca r), .int (v)]) (rest := []) C G (c_X0_failureOfCrop l D cI cO cL a ca ia n O I J F E K G0 r (by omega) v hk0 hk1 hk2 hk3 hk4) gX0_failure_X0_failureOfCrop rfl (by decide +kernel) ⟨Nat.le_of_ble_eq_true rfl, Nat.le_of_ble_eq_true rfl⟩ rfl hl.1 rfl (Nat.le_of_ble_eq_true rfl) dX0_failure_70 ⟨by first | (simp only []; omega) | decide, by first | (simp only []; omega) | decide⟩) (fun r70 w70 H locs hp70 G => ?_)
            rcases hp70 with ⟨hc70, rfl, rfl⟩ | ⟨hc70, rfl, rfl⟩ | ⟨hc70, rfl, rfl⟩
            · skip
              exact RET ((-13)) (bW cI cO a ca ia n O I J F E K G0) _ _ ls _ _ _ (Or.inr (Or.inr (Or.inr (Or.inl (⟨(by unfold flN; split <;> (try split) <;> (try split) <;> (try split) <;> (try split) <;> omega), rfl, rfl⟩))))) G (by first | (simp only []; omega) | decide) (by first | (simp only []; omega) | decide) rfl dX0_failure_73
            · skip
              exact RET ((-15)) (bW cI cO a ca ia n O I J F E K G0) _ _ ls _ _ _ (Or.inr (Or.inr (Or.inr (Or.inr (Or.inl (⟨(by unfold flN; split <;> (try split) <;> (try split) <;> (try split) <;> (try split) <;> omega), rfl, rfl⟩)))))) G (by first | (simp only []; omega) | decide) (by first | (simp only []; omega) | decide) rfl dX0_failure_73
            · skip
              exact RET (nI (0)) (bW cI cO a ca ia n O I J F E K G0) _ _ ls _ _ _ (Or.inl (⟨(by unfold flN; split <;> (try split) <;> (try split) <;> (try split) <;> (try split) <;> omega), rfl, rfl⟩)) G (by first | (simp only []; omega) | decide) (by first | (simp only []; omega) | decide) rfl dX0_failure_73
          by_cases k39_1 : ac = 2
          · skip
            refine r_top (y := nI 2) (by rw [k39_1]) ?_
            refine lv_tableIn (off := (35)) (tgt := 74) hx hb dX0_failure_39 (by decide) (by decide) (by decide) (by decide) ?_
            refine lv_iload_n hx hb dX0_failure_74 rfl (lv_at hl 3 rfl) ?_
            refine lv_if_ne (tgt := 90) hx hb dX0_failure_75 (by decide) (fun c75 => ?_) (fun c75 => ?_)
            · skip
              replace c75 : ¬ (v).toInt = (0) := fun h => c75 ((cv_eq rfl (by decide)).mpr h)
              refine lv_iconst (v := (nI (0))) hx hb dX0_failure_90 (by decide) ?_
              exact RET (nI (0)) (bW cI cO a ca ia n O I J F E K G0) _ _ ls _ _ _ (Or.inl (⟨(by unfold flN; split <;> (try split) <;> (try split) <;> (try split) <;> (try split) <;> omega), rfl, rfl⟩)) G (by first | (simp only []; omega) | decide) (by first | (simp only []; omega) | decide) rfl dX0_failure_91
            · skip
              replace c75 : (v).toInt = (0) := (cv_eq rfl (by decide)).mp c75
              refine lv_aload_n hx hb dX0_failure_78 rfl (lv_at hl 2 rfl) ?_
              refine r_getN (v := .int (nI ((K 3) r))) C G hX1 (16 + 2 * r) (bW_c (by omega)) rfl 4 (by decide) (by decide +kernel) rfl dX0_failure_79 ?_
              refine lv_if_le (tgt := 90) hx hb dX0_failure_82 (by decide) (fun c82 => ?_) (fun c82 => ?_)
              · skip
                replace c82 : (((K 3) r : Nat) : Int) ≤ (0) := (cv_le (nI_toInt (by omega)) (by decide)).mp c82
                refine lv_iconst (v := (nI (0))) hx hb dX0_failure_90 (by decide) ?_
                exact RET (nI (0)) (bW cI cO a ca ia n O I J F E K G0) _ _ ls _ _ _ (Or.inl (⟨(by unfold flN; split <;> (try split) <;> (try split) <;> (try split) <;> (try split) <;> omega), rfl, rfl⟩)) G (by first | (simp only []; omega) | decide) (by first | (simp only []; omega) | decide) rfl dX0_failure_91
              · skip
                replace c82 : (0) < (((K 3) r : Nat) : Int) := Int.not_le.mp (fun h => c82 ((cv_le (nI_toInt (by omega)) (by decide)).mpr h))
                refine lv_bipush (v := ((-16))) hx hb dX0_failure_85 (by decide) ?_
                refine lv_goto (tgt := 91) hx hb dX0_failure_87 (by decide) ?_
                exact RET ((-16)) (bW cI cO a ca ia n O I J F E K G0) _ _ ls _ _ _ (Or.inr (Or.inr (Or.inr (Or.inr (Or.inr (⟨(by unfold flN; split <;> (try split) <;> (try split) <;> (try split) <;> (try split) <;> omega), rfl, rfl⟩)))))) G (by first | (simp only []; omega) | decide) (by first | (simp only []; omega) | decide) rfl dX0_failure_91
          by_cases k39_2 : ac = 3
          · skip
            refine r_top (y := nI 3) (by rw [k39_2]) ?_
            refine lv_tableIn (off := (59)) (tgt := 98) hx hb dX0_failure_39 (by decide) (by decide) (by decide) (by decide) ?_
            refine lv_iconst (v := (nI (0))) hx hb dX0_failure_98 (by decide) ?_
            exact RET (nI (0)) (bW cI cO a ca ia n O I J F E K G0) _ _ ls _ _ _ (Or.inl (⟨(by unfold flN; split <;> (try split) <;> (try split) <;> (try split) <;> (try split) <;> omega), rfl, rfl⟩)) G (by first | (simp only []; omega) | decide) (by first | (simp only []; omega) | decide) rfl dX0_failure_99
          by_cases k39_3 : ac = 4
          · skip
            refine r_top (y := nI 4) (by rw [k39_3]) ?_
            refine lv_tableIn (off := (53)) (tgt := 92) hx hb dX0_failure_39 (by decide) (by decide) (by decide) (by decide) ?_
            refine lv_aload_n hx hb dX0_failure_92 rfl (lv_at hl 2 rfl) ?_
            refine lv_iload_n hx hb dX0_failure_93 rfl (lv_at hl 3 rfl) ?_
            refine r_ai G hA (r_rS (na := 2) (As := [.ref (ca r), .int (v)]) (rest := []) C G (c_X0_failureOfSwap l D cI cO cL a ca ia n O I J F E K G0 r (by omega) v hk0 hk1 hk2 hk3 hk4 (by omega)) gX0_failure_X0_failureOfSwap rfl (by decide +kernel) ⟨Nat.le_of_ble_eq_true rfl, Nat.le_of_ble_eq_true rfl⟩ rfl hl.1 rfl (Nat.le_of_ble_eq_true rfl) dX0_failure_94 ⟨by first | (simp only []; omega) | decide, by first | (simp only []; omega) | decide⟩) (fun r94 w94 H locs hp94 G => ?_)
            rcases hp94 with ⟨hc94, rfl, rfl⟩ | ⟨hc94, rfl, rfl⟩ | ⟨hc94, rfl, rfl⟩
            · skip
              exact RET ((-13)) (bW cI cO a ca ia n O I J F E K G0) _ _ ls _ _ _ (Or.inr (Or.inr (Or.inr (Or.inl (⟨(by unfold flN; split <;> (try split) <;> (try split) <;> (try split) <;> (try split) <;> omega), rfl, rfl⟩))))) G (by first | (simp only []; omega) | decide) (by first | (simp only []; omega) | decide) rfl dX0_failure_97
            · skip
              exact RET ((-16)) (bW cI cO a ca ia n O I J F E K G0) _ _ ls _ _ _ (Or.inr (Or.inr (Or.inr (Or.inr (Or.inr (⟨(by unfold flN; split <;> (try split) <;> (try split) <;> (try split) <;> (try split) <;> omega), rfl, rfl⟩)))))) G (by first | (simp only []; omega) | decide) (by first | (simp only []; omega) | decide) rfl dX0_failure_97
            · skip
              exact RET (nI (0)) (bW cI cO a ca ia n O I J F E K G0) _ _ ls _ _ _ (Or.inl (⟨(by unfold flN; split <;> (try split) <;> (try split) <;> (try split) <;> (try split) <;> omega), rfl, rfl⟩)) G (by first | (simp only []; omega) | decide) (by first | (simp only []; omega) | decide) rfl dX0_failure_97
          have ko39 : (nI (ac)).toInt < (1) ∨ (4) < (nI (ac)).toInt := by rw [nI_toInt (by omega)]; omega
          refine lv_tableOut (tgt := 98) hx hb dX0_failure_39 ko39 (by decide) ?_
          refine lv_iconst (v := (nI (0))) hx hb dX0_failure_98 (by decide) ?_
          exact RET (nI (0)) (bW cI cO a ca ia n O I J F E K G0) _ _ ls _ _ _ (Or.inl (⟨(by unfold flN; split <;> (try split) <;> (try split) <;> (try split) <;> (try split) <;> omega), rfl, rfl⟩)) G (by first | (simp only []; omega) | decide) (by first | (simp only []; omega) | decide) rfl dX0_failure_99
        · skip
          replace c32 : ¬ (((K 0) r : Nat) : Int) = ((1 : Nat) : Int) := fun h => c32 ((cv_eq (nI_toInt (by omega)) (nI_toInt (by omega))).mpr h)
          refine lv_bipush (v := ((-12))) hx hb dX0_failure_35 (by decide) ?_
          exact RET ((-12)) (bW cI cO a ca ia n O I J F E K G0) _ _ ls _ _ _ (Or.inr (Or.inr (Or.inl (⟨(by unfold flN; split <;> (try split) <;> (try split) <;> (try split) <;> (try split) <;> omega), rfl, rfl⟩)))) G (by first | (simp only []; omega) | decide) (by first | (simp only []; omega) | decide) rfl dX0_failure_37
      · skip
        replace c18 : ((ac : Nat) : Int) = ((4 : Nat) : Int) := (cv_eq (nI_toInt (by omega)) (nI_toInt (by omega))).mp c18
        refine lv_iconst (v := (nI (0))) hx hb dX0_failure_21 (by decide) ?_
        refine lv_goto (tgt := 26) hx hb dX0_failure_22 (by decide) ?_
        refine lv_istore_n (lv' := [(3, .int (nI (0))), (0, .int (nI (ac))), (1, .ref (ca r)), (2, .int (v))]) hx hb dX0_failure_26 rfl hl (by decide) rfl (fun ls hl => ?_)
        refine lv_aload_n hx hb dX0_failure_27 rfl (lv_at hl 2 rfl) ?_
        refine r_getN (v := .int (nI ((K 0) r))) C G hX1 (16 + 2 * r) (bW_c (by omega)) rfl 1 (by decide) (by decide +kernel) rfl dX0_failure_28 ?_
        refine lv_iload_n hx hb dX0_failure_31 rfl (lv_at hl 0 rfl) ?_
        refine lv_icmp_eq (tgt := 38) hx hb dX0_failure_32 (by decide) (fun c32 => ?_) (fun c32 => ?_)
        · skip
          replace c32 : (((K 0) r : Nat) : Int) = ((0 : Nat) : Int) := (cv_eq (nI_toInt (by omega)) (nI_toInt (by omega))).mp c32
          refine lv_iload_n hx hb dX0_failure_38 rfl (lv_at hl 1 rfl) ?_
          by_cases k39_0 : ac = 1
          · skip
            refine r_top (y := nI 1) (by rw [k39_0]) ?_
            refine lv_tableIn (off := (29)) (tgt := 68) hx hb dX0_failure_39 (by decide) (by decide) (by decide) (by decide) ?_
            refine lv_aload_n hx hb dX0_failure_68 rfl (lv_at hl 2 rfl) ?_
            refine lv_iload_n hx hb dX0_failure_69 rfl (lv_at hl 3 rfl) ?_
            refine r_ai G hA (r_rS (na := 2) (As := [.ref (ca r), .int (v)]) (rest := []) C G (c_X0_failureOfCrop l D cI cO cL a ca ia n O I J F E K G0 r (by omega) v hk0 hk1 hk2 hk3 hk4) gX0_failure_X0_failureOfCrop rfl (by decide +kernel) ⟨Nat.le_of_ble_eq_true rfl, Nat.le_of_ble_eq_true rfl⟩ rfl hl.1 rfl (Nat.le_of_ble_eq_true rfl) dX0_failure_70 ⟨by first | (simp only []; omega) | decide, by first | (simp only []; omega) | decide⟩) (fun r70 w70 H locs hp70 G => ?_)
            rcases hp70 with ⟨hc70, rfl, rfl⟩ | ⟨hc70, rfl, rfl⟩ | ⟨hc70, rfl, rfl⟩
            · skip
              exact RET ((-13)) (bW cI cO a ca ia n O I J F E K G0) _ _ ls _ _ _ (Or.inr (Or.inr (Or.inr (Or.inl (⟨(by unfold flN; split <;> (try split) <;> (try split) <;> (try split) <;> (try split) <;> omega), rfl, rfl⟩))))) G (by first | (simp only []; omega) | decide) (by first | (simp only []; omega) | decide) rfl dX0_failure_73
            · skip
              exact RET ((-15)) (bW cI cO a ca ia n O I J F E K G0) _ _ ls _ _ _ (Or.inr (Or.inr (Or.inr (Or.inr (Or.inl (⟨(by unfold flN; split <;> (try split) <;> (try split) <;> (try split) <;> (try split) <;> omega), rfl, rfl⟩)))))) G (by first | (simp only []; omega) | decide) (by first | (simp only []; omega) | decide) rfl dX0_failure_73
            · skip
              exact RET (nI (0)) (bW cI cO a ca ia n O I J F E K G0) _ _ ls _ _ _ (Or.inl (⟨(by unfold flN; split <;> (try split) <;> (try split) <;> (try split) <;> (try split) <;> omega), rfl, rfl⟩)) G (by first | (simp only []; omega) | decide) (by first | (simp only []; omega) | decide) rfl dX0_failure_73
          by_cases k39_1 : ac = 2
          · skip
            refine r_top (y := nI 2) (by rw [k39_1]) ?_
            refine lv_tableIn (off := (35)) (tgt := 74) hx hb dX0_failure_39 (by decide) (by decide) (by decide) (by decide) ?_
            refine lv_iload_n hx hb dX0_failure_74 rfl (lv_at hl 3 rfl) ?_
            refine lv_if_ne (tgt := 90) hx hb dX0_failure_75 (by decide) (fun c75 => ?_) (fun c75 => ?_)
            · skip
              replace c75 : ¬ (v).toInt = (0) := fun h => c75 ((cv_eq rfl (by decide)).mpr h)
              refine lv_iconst (v := (nI (0))) hx hb dX0_failure_90 (by decide) ?_
              exact RET (nI (0)) (bW cI cO a ca ia n O I J F E K G0) _ _ ls _ _ _ (Or.inl (⟨(by unfold flN; split <;> (try split) <;> (try split) <;> (try split) <;> (try split) <;> omega), rfl, rfl⟩)) G (by first | (simp only []; omega) | decide) (by first | (simp only []; omega) | decide) rfl dX0_failure_91
            · skip
              replace c75 : (v).toInt = (0) := (cv_eq rfl (by decide)).mp c75
              refine lv_aload_n hx hb dX0_failure_78 rfl (lv_at hl 2 rfl) ?_
              refine r_getN (v := .int (nI ((K 3) r))) C G hX1 (16 + 2 * r) (bW_c (by omega)) rfl 4 (by decide) (by decide +kernel) rfl dX0_failure_79 ?_
              refine lv_if_le (tgt := 90) hx hb dX0_failure_82 (by decide) (fun c82 => ?_) (fun c82 => ?_)
              · skip
                replace c82 : (((K 3) r : Nat) : Int) ≤ (0) := (cv_le (nI_toInt (by omega)) (by decide)).mp c82
                refine lv_iconst (v := (nI (0))) hx hb dX0_failure_90 (by decide) ?_
                exact RET (nI (0)) (bW cI cO a ca ia n O I J F E K G0) _ _ ls _ _ _ (Or.inl (⟨(by unfold flN; split <;> (try split) <;> (try split) <;> (try split) <;> (try split) <;> omega), rfl, rfl⟩)) G (by first | (simp only []; omega) | decide) (by first | (simp only []; omega) | decide) rfl dX0_failure_91
              · skip
                replace c82 : (0) < (((K 3) r : Nat) : Int) := Int.not_le.mp (fun h => c82 ((cv_le (nI_toInt (by omega)) (by decide)).mpr h))
                refine lv_bipush (v := ((-16))) hx hb dX0_failure_85 (by decide) ?_
                refine lv_goto (tgt := 91) hx hb dX0_failure_87 (by decide) ?_
                exact RET ((-16)) (bW cI cO a ca ia n O I J F E K G0) _ _ ls _ _ _ (Or.inr (Or.inr (Or.inr (Or.inr (Or.inr (⟨(by unfold flN; split <;> (try split) <;> (try split) <;> (try split) <;> (try split) <;> omega), rfl, rfl⟩)))))) G (by first | (simp only []; omega) | decide) (by first | (simp only []; omega) | decide) rfl dX0_failure_91
          by_cases k39_2 : ac = 3
          · skip
            refine r_top (y := nI 3) (by rw [k39_2]) ?_
            refine lv_tableIn (off := (59)) (tgt := 98) hx hb dX0_failure_39 (by decide) (by decide) (by decide) (by decide) ?_
            refine lv_iconst (v := (nI (0))) hx hb dX0_failure_98 (by decide) ?_
            exact RET (nI (0)) (bW cI cO a ca ia n O I J F E K G0) _ _ ls _ _ _ (Or.inl (⟨(by unfold flN; split <;> (try split) <;> (try split) <;> (try split) <;> (try split) <;> omega), rfl, rfl⟩)) G (by first | (simp only []; omega) | decide) (by first | (simp only []; omega) | decide) rfl dX0_failure_99
          by_cases k39_3 : ac = 4
          · skip
            refine r_top (y := nI 4) (by rw [k39_3]) ?_
            refine lv_tableIn (off := (53)) (tgt := 92) hx hb dX0_failure_39 (by decide) (by decide) (by decide) (by decide) ?_
            refine lv_aload_n hx hb dX0_failure_92 rfl (lv_at hl 2 rfl) ?_
            refine lv_iload_n hx hb dX0_failure_93 rfl (lv_at hl 3 rfl) ?_
            refine r_ai G hA (r_rS (na := 2) (As := [.ref (ca r), .int (v)]) (rest := []) C G (c_X0_failureOfSwap l D cI cO cL a ca ia n O I J F E K G0 r (by omega) v hk0 hk1 hk2 hk3 hk4 (by omega)) gX0_failure_X0_failureOfSwap rfl (by decide +kernel) ⟨Nat.le_of_ble_eq_true rfl, Nat.le_of_ble_eq_true rfl⟩ rfl hl.1 rfl (Nat.le_of_ble_eq_true rfl) dX0_failure_94 ⟨by first | (simp only []; omega) | decide, by first | (simp only []; omega) | decide⟩) (fun r94 w94 H locs hp94 G => ?_)
            rcases hp94 with ⟨hc94, rfl, rfl⟩ | ⟨hc94, rfl, rfl⟩ | ⟨hc94, rfl, rfl⟩
            · skip
              exact RET ((-13)) (bW cI cO a ca ia n O I J F E K G0) _ _ ls _ _ _ (Or.inr (Or.inr (Or.inr (Or.inl (⟨(by unfold flN; split <;> (try split) <;> (try split) <;> (try split) <;> (try split) <;> omega), rfl, rfl⟩))))) G (by first | (simp only []; omega) | decide) (by first | (simp only []; omega) | decide) rfl dX0_failure_97
            · skip
              exact RET ((-16)) (bW cI cO a ca ia n O I J F E K G0) _ _ ls _ _ _ (Or.inr (Or.inr (Or.inr (Or.inr (Or.inr (⟨(by unfold flN; split <;> (try split) <;> (try split) <;> (try split) <;> (try split) <;> omega), rfl, rfl⟩)))))) G (by first | (simp only []; omega) | decide) (by first | (simp only []; omega) | decide) rfl dX0_failure_97
            · skip
              exact RET (nI (0)) (bW cI cO a ca ia n O I J F E K G0) _ _ ls _ _ _ (Or.inl (⟨(by unfold flN; split <;> (try split) <;> (try split) <;> (try split) <;> (try split) <;> omega), rfl, rfl⟩)) G (by first | (simp only []; omega) | decide) (by first | (simp only []; omega) | decide) rfl dX0_failure_97
          have ko39 : (nI (ac)).toInt < (1) ∨ (4) < (nI (ac)).toInt := by rw [nI_toInt (by omega)]; omega
          refine lv_tableOut (tgt := 98) hx hb dX0_failure_39 ko39 (by decide) ?_
          refine lv_iconst (v := (nI (0))) hx hb dX0_failure_98 (by decide) ?_
          exact RET (nI (0)) (bW cI cO a ca ia n O I J F E K G0) _ _ ls _ _ _ (Or.inl (⟨(by unfold flN; split <;> (try split) <;> (try split) <;> (try split) <;> (try split) <;> omega), rfl, rfl⟩)) G (by first | (simp only []; omega) | decide) (by first | (simp only []; omega) | decide) rfl dX0_failure_99
        · skip
          replace c32 : ¬ (((K 0) r : Nat) : Int) = ((0 : Nat) : Int) := fun h => c32 ((cv_eq (nI_toInt (by omega)) (nI_toInt (by omega))).mpr h)
          refine lv_bipush (v := ((-12))) hx hb dX0_failure_35 (by decide) ?_
          exact RET ((-12)) (bW cI cO a ca ia n O I J F E K G0) _ _ ls _ _ _ (Or.inr (Or.inr (Or.inl (⟨(by unfold flN; split <;> (try split) <;> (try split) <;> (try split) <;> (try split) <;> omega), rfl, rfl⟩)))) G (by first | (simp only []; omega) | decide) (by first | (simp only []; omega) | decide) rfl dX0_failure_37
  · skip
    replace c5 : (((K 0) r : Nat) : Int) = ((2 : Nat) : Int) := (cv_eq (nI_toInt (by omega)) (nI_toInt (by omega))).mp c5
    refine lv_bipush (v := ((-11))) hx hb dX0_failure_8 (by decide) ?_
    exact RET ((-11)) (bW cI cO a ca ia n O I J F E K G0) _ _ ls _ _ _ (Or.inr (Or.inl (⟨(by unfold flN; split <;> (try split) <;> (try split) <;> (try split) <;> (try split) <;> omega), rfl, rfl⟩))) G (by first | (simp only []; omega) | decide) (by first | (simp only []; omega) | decide) rfl dX0_failure_10
set_option maxHeartbeats 4000000 in
set_option maxRecDepth 100000 in
theorem c_X0_turnedPlace (l : Launch) (D : va_G) (cI cO cL : ClassId) (a ca ia : Nat → Nat) (n : Nat) (O : Nat → Option Nat) (I : Nat → Nat) (J : Nat → Int64) (F : Nat → Nat → Nat) (E : Nat → Nat → Int32) (K : Nat → Nat → Nat) (G0 : Nat → Nat → Int32) (r : Nat) (hr : r < n) (y x d : Nat) (hk0 : K 0 r ≤ 2) (hk1 : K 1 r ≤ 40) (hk2 : K 2 r ≤ 40) (hk3 : K 3 r ≤ K 4 r) (hk4 : K 4 r ≤ 1600) (hy : y < K 1 r) (hx0 : x < K 2 r) (hd4 : d < 4) : Ki l yX0_turnedPlace wsX0_turnedPlace { frames := 0, cells := 0, slots := 0, locals := 0 } D (TY cI cO cL) [.ref (ca r), .int (nI (y)), .int (nI (x)), .int (nI (d))] (bW cI cO a ca ia n O I J F E K G0) (fun q w => q = nI (tpl d (K 1 r) (K 2 r) y x) ∧ w = bW cI cO a ca ia n O I J F E K G0) := by
  refine Ki.mk (cc := cX0_turnedPlace) (maxL := 6) (rt := .int) (own := RX0) (by decide) rfl rfl (Nat.le_of_ble_eq_true rfl) ?_
  intro p e s m below meth c A Q ls C hname hA G hl RET
  obtain ⟨⟨hx, hb, hml, hown, hts⟩, hK, hN⟩ := id C
  have hl : lv_has ls 6 [(0, .ref (ca r)), (1, .int (nI (y))), (2, .int (nI (x))), (3, .int (nI (d)))] := hl
  have hX1 : ∀ w ∈ u_ws RX1 TX1 5, w ∈ wsX0_turnedPlace := by decide +kernel
  refine lv_aload_n hx hb dX0_turnedPlace_0 rfl (lv_at hl 0 rfl) ?_
  refine r_getN (v := .int (nI ((K 1) r))) C G hX1 (16 + 2 * r) (bW_c (by omega)) rfl 2 (by decide) (by decide +kernel) rfl dX0_turnedPlace_1 ?_
  refine lv_iconst (v := (nI (1))) hx hb dX0_turnedPlace_4 (by decide) ?_
  refine r_isub hx hb (by omega) dX0_turnedPlace_5 ?_
  refine lv_istore (lv' := [(4, .int (nI (((K 1) r) - 1))), (0, .ref (ca r)), (1, .int (nI (y))), (2, .int (nI (x))), (3, .int (nI (d)))]) hx hb dX0_turnedPlace_6 hl (by decide) rfl (fun ls hl => ?_)
  refine lv_aload_n hx hb dX0_turnedPlace_8 rfl (lv_at hl 1 rfl) ?_
  refine r_getN (v := .int (nI ((K 2) r))) C G hX1 (16 + 2 * r) (bW_c (by omega)) rfl 3 (by decide) (by decide +kernel) rfl dX0_turnedPlace_9 ?_
  refine lv_iconst (v := (nI (1))) hx hb dX0_turnedPlace_12 (by decide) ?_
  refine r_isub hx hb (by omega) dX0_turnedPlace_13 ?_
  refine lv_istore (lv' := [(5, .int (nI (((K 2) r) - 1))), (4, .int (nI (((K 1) r) - 1))), (0, .ref (ca r)), (1, .int (nI (y))), (2, .int (nI (x))), (3, .int (nI (d)))]) hx hb dX0_turnedPlace_14 hl (by decide) rfl (fun ls hl => ?_)
  refine lv_iload_n hx hb dX0_turnedPlace_16 rfl (lv_at hl 5 rfl) ?_
  by_cases k17_0 : d = 1
  · skip
    refine r_top (y := nI 1) (by rw [k17_0]) ?_
    refine lv_tableIn (off := (27)) (tgt := 44) hx hb dX0_turnedPlace_17 (by decide) (by decide) (by decide) (by decide) ?_
    refine lv_iload_n hx hb dX0_turnedPlace_44 rfl (lv_at hl 4 rfl) ?_
    refine lv_aload_n hx hb dX0_turnedPlace_45 rfl (lv_at hl 2 rfl) ?_
    refine r_getN (v := .int (nI ((K 1) r))) C G hX1 (16 + 2 * r) (bW_c (by omega)) rfl 2 (by decide) (by decide +kernel) rfl dX0_turnedPlace_46 ?_
    refine r_imul hx hb dX0_turnedPlace_49 ?_
    refine lv_iload hx hb dX0_turnedPlace_50 (lv_at hl 1 rfl) ?_
    refine lv_iload_n hx hb dX0_turnedPlace_52 rfl (lv_at hl 3 rfl) ?_
    refine r_isub hx hb (by omega) dX0_turnedPlace_53 ?_
    refine r_iadd hx hb dX0_turnedPlace_54 ?_
    exact RET (nI ((x * ((K 1) r)) + ((((K 1) r) - 1) - y))) (bW cI cO a ca ia n O I J F E K G0) _ _ ls _ _ _ (⟨congrArg nI (by unfold tpl; rw [if_pos k17_0]), rfl⟩) G (by first | (simp only []; omega) | decide) (by first | (simp only []; omega) | decide) rfl dX0_turnedPlace_55
  by_cases k17_1 : d = 2
  · skip
    refine r_top (y := nI 2) (by rw [k17_1]) ?_
    refine lv_tableIn (off := (39)) (tgt := 56) hx hb dX0_turnedPlace_17 (by decide) (by decide) (by decide) (by decide) ?_
    refine lv_iload hx hb dX0_turnedPlace_56 (lv_at hl 1 rfl) ?_
    refine lv_iload_n hx hb dX0_turnedPlace_58 rfl (lv_at hl 3 rfl) ?_
    refine r_isub hx hb (by omega) dX0_turnedPlace_59 ?_
    refine lv_aload_n hx hb dX0_turnedPlace_60 rfl (lv_at hl 2 rfl) ?_
    refine r_getN (v := .int (nI ((K 2) r))) C G hX1 (16 + 2 * r) (bW_c (by omega)) rfl 3 (by decide) (by decide +kernel) rfl dX0_turnedPlace_61 ?_
    refine r_imul hx hb dX0_turnedPlace_64 ?_
    refine lv_iload hx hb dX0_turnedPlace_65 (lv_at hl 0 rfl) ?_
    refine lv_iload_n hx hb dX0_turnedPlace_67 rfl (lv_at hl 4 rfl) ?_
    refine r_isub hx hb (by omega) dX0_turnedPlace_68 ?_
    refine r_iadd hx hb dX0_turnedPlace_69 ?_
    exact RET (nI ((((((K 1) r) - 1) - y) * ((K 2) r)) + ((((K 2) r) - 1) - x))) (bW cI cO a ca ia n O I J F E K G0) _ _ ls _ _ _ (⟨congrArg nI (by unfold tpl; rw [if_neg k17_0, if_pos k17_1]), rfl⟩) G (by first | (simp only []; omega) | decide) (by first | (simp only []; omega) | decide) rfl dX0_turnedPlace_70
  by_cases k17_2 : d = 3
  · skip
    refine r_top (y := nI 3) (by rw [k17_2]) ?_
    refine lv_tableIn (off := (54)) (tgt := 71) hx hb dX0_turnedPlace_17 (by decide) (by decide) (by decide) (by decide) ?_
    refine lv_iload hx hb dX0_turnedPlace_71 (lv_at hl 0 rfl) ?_
    refine lv_iload_n hx hb dX0_turnedPlace_73 rfl (lv_at hl 4 rfl) ?_
    refine r_isub hx hb (by omega) dX0_turnedPlace_74 ?_
    refine lv_aload_n hx hb dX0_turnedPlace_75 rfl (lv_at hl 2 rfl) ?_
    refine r_getN (v := .int (nI ((K 1) r))) C G hX1 (16 + 2 * r) (bW_c (by omega)) rfl 2 (by decide) (by decide +kernel) rfl dX0_turnedPlace_76 ?_
    refine r_imul hx hb dX0_turnedPlace_79 ?_
    refine lv_iload_n hx hb dX0_turnedPlace_80 rfl (lv_at hl 3 rfl) ?_
    refine r_iadd hx hb dX0_turnedPlace_81 ?_
    exact RET (nI ((((((K 2) r) - 1) - x) * ((K 1) r)) + y)) (bW cI cO a ca ia n O I J F E K G0) _ _ ls _ _ _ (⟨congrArg nI (by unfold tpl; rw [if_neg k17_0, if_neg k17_1, if_pos k17_2]), rfl⟩) G (by first | (simp only []; omega) | decide) (by first | (simp only []; omega) | decide) rfl dX0_turnedPlace_82
  have ko17 : (nI (d)).toInt < (1) ∨ (3) < (nI (d)).toInt := by rw [nI_toInt (by omega)]; omega
  refine lv_tableOut (tgt := 83) hx hb dX0_turnedPlace_17 ko17 (by decide) ?_
  refine lv_iload_n hx hb dX0_turnedPlace_83 rfl (lv_at hl 3 rfl) ?_
  refine lv_aload_n hx hb dX0_turnedPlace_84 rfl (lv_at hl 2 rfl) ?_
  refine r_getN (v := .int (nI ((K 2) r))) C G hX1 (16 + 2 * r) (bW_c (by omega)) rfl 3 (by decide) (by decide +kernel) rfl dX0_turnedPlace_85 ?_
  refine r_imul hx hb dX0_turnedPlace_88 ?_
  refine lv_iload_n hx hb dX0_turnedPlace_89 rfl (lv_at hl 4 rfl) ?_
  refine r_iadd hx hb dX0_turnedPlace_90 ?_
  exact RET (nI ((y * ((K 2) r)) + x)) (bW cI cO a ca ia n O I J F E K G0) _ _ ls _ _ _ (⟨congrArg nI (by unfold tpl; rw [if_neg k17_0, if_neg k17_1, if_neg k17_2]), rfl⟩) G (by first | (simp only []; omega) | decide) (by first | (simp only []; omega) | decide) rfl dX0_turnedPlace_91
set_option maxHeartbeats 4000000 in
set_option maxRecDepth 100000 in
theorem c_X0_turn (l : Launch) (D : va_G) (cI cO cL : ClassId) (a ca ia : Nat → Nat) (n : Nat) (O : Nat → Option Nat) (I : Nat → Nat) (J : Nat → Int64) (F : Nat → Nat → Nat) (E : Nat → Nat → Int32) (K : Nat → Nat → Nat) (G0 : Nat → Nat → Int32) (r : Nat) (hr : r < n) (d : Nat) (hk0 : K 0 r ≤ 2) (hk1 : K 1 r ≤ 40) (hk2 : K 2 r ≤ 40) (hk3 : K 3 r ≤ K 4 r) (hk4 : K 4 r ≤ 1600) (hpL : K 3 r = K 1 r * K 2 r) (hd4 : d < 4) : Kv l yX0_turn wsX0_turn { frames := 2, cells := 0, slots := 0, locals := 43 } D (TY cI cO cL) [.ref (ca r), .int (nI (d)), .ref (a 14)] (bW cI cO a ca ia n O I J F E K G0) (fun w => ∃ o, isT d (K 1 r) (K 2 r) (G0 r) o ∧ w = bW cI cO a ca ia n O (va_up (va_up (va_up (va_up I 9 1) 10 (tH d (K 1 r) (K 2 r))) 11 (tW d (K 1 r) (K 2 r))) 12 (K 1 r * K 2 r)) J F (va_up E 0 o) K G0) := by
  refine Kv.mk (cc := cX0_turn) (maxL := 6) (own := RX0) (by decide) rfl rfl (Nat.le_of_ble_eq_true rfl) ?_
  intro p e s m below meth c A Q ls C hname hA G hl RET
  obtain ⟨⟨hx, hb, hml, hown, hts⟩, hK, hN⟩ := id C
  have hl : lv_has ls 6 [(0, .ref (ca r)), (1, .int (nI (d))), (2, .ref (a 14))] := hl
  have hX1 : ∀ w ∈ u_ws RX1 TX1 5, w ∈ wsX0_turn := by decide +kernel
  refine lv_iload_n hx hb dX0_turn_0 rfl (lv_at hl 1 rfl) ?_
  refine lv_iconst (v := (nI (2))) hx hb dX0_turn_1 (by decide) ?_
  refine r_irem hx hb (by omega) (by omega) (by omega) dX0_turn_2 ?_
  refine lv_if_ne (tgt := 10) hx hb dX0_turn_3 (by decide) (fun c3 => ?_) (fun c3 => ?_)
  · skip
    replace c3 : ¬ ((d % 2 : Nat) : Int) = (0) := fun h => c3 ((cv_eq (nI_toInt (by omega)) (by decide)).mpr h)
    refine lv_iconst (v := (nI (0))) hx hb dX0_turn_10 (by decide) ?_
    refine lv_istore_n (lv' := [(3, .int (nI (0))), (0, .ref (ca r)), (1, .int (nI (d))), (2, .ref (a 14))]) hx hb dX0_turn_11 rfl hl (by decide) rfl (fun ls hl => ?_)
    refine lv_aload_n hx hb dX0_turn_12 rfl (lv_at hl 3 rfl) ?_
    refine lv_iload_n hx hb dX0_turn_13 rfl (lv_at hl 0 rfl) ?_
    refine lv_if_eq (tgt := 24) hx hb dX0_turn_14 (by decide) (fun c14 => ?_) (fun c14 => ?_)
    · skip
      refine lv_aload_n hx hb dX0_turn_24 rfl (lv_at hl 1 rfl) ?_
      refine r_getN (v := .int (nI ((K 2) r))) C G hX1 (16 + 2 * r) (bW_c (by omega)) rfl 3 (by decide) (by decide +kernel) rfl dX0_turn_25 ?_
      refine lv_iload_n hx hb dX0_turn_28 rfl (lv_at hl 0 rfl) ?_
      refine lv_if_eq (tgt := 39) hx hb dX0_turn_29 (by decide) (fun c29 => ?_) (fun c29 => ?_)
      · skip
        refine lv_aload_n hx hb dX0_turn_39 rfl (lv_at hl 1 rfl) ?_
        refine r_getN (v := .int (nI ((K 1) r))) C G hX1 (16 + 2 * r) (bW_c (by omega)) rfl 2 (by decide) (by decide +kernel) rfl dX0_turn_40 ?_
        refine r_av G hA (r_rV (na := 2) (As := [.int (nI ((K 2) r)), .int (nI ((K 1) r))]) (rest := []) C G (c_X1_becomePicture l D cI cO cL a ca ia n O I J F E K G0 ((K 2) r) ((K 1) r)) gX0_turn_X1_becomePicture rfl (by decide +kernel) ⟨Nat.le_of_ble_eq_true rfl, Nat.le_of_ble_eq_true rfl⟩ 14 rfl rfl rfl hl.1 rfl (Nat.le_of_ble_eq_true rfl) dX0_turn_43 ⟨by first | (simp only []; omega) | decide, by first | (simp only []; omega) | decide⟩) (fun w43 H locs hp43 G => ?_)
        obtain ⟨rfl⟩ := hp43
        refine lv_iconst (v := (nI (0))) hx hb dX0_turn_46 (by decide) ?_
        refine lv_istore (lv' := [(4, .int (nI (0))), (3, .int (nI (0))), (0, .ref (ca r)), (1, .int (nI (d))), (2, .ref (a 14))]) hx hb dX0_turn_47 hl (by decide) rfl (fun ls hl => ?_)
        have lp49 : ∀ (fuel49 : Nat) (y : Nat) (o : Nat → Int32) (hm : K 1 r - y < fuel49) (hy : y ≤ K 1 r) (ho : ∀ y1 x1, y1 < y → x1 < K 2 r → o (tpl d (K 1 r) (K 2 r) y1 x1) = G0 r (y1 * K 2 r + x1)) (H : Heap) (locs : List Loc) (ls : Array Slot), Wd A s.heap D (bW cI cO a ca ia n O (va_up (va_up (va_up (va_up I 9 1) 10 (K 2 r)) 11 (K 1 r)) 12 ((K 2 r) * (K 1 r))) J F (va_up E 0 o) K G0) H locs → lv_has ls 6 [(0, .ref (ca r)), (1, .int (nI (d))), (2, .ref (a 14)), (4, .int (nI (y)))] → W p l e ({ frames := 2, cells := 0, slots := 0, locals := 43 } : Room) s m ([.ref (ca r), .int (nI (d)), .ref (a 14)] : List Value).toArray below meth c H locs 0 0 Q (F0 m 49 ls []) := by
          intro fuel49
          induction fuel49 with
          | zero => intro y o hm hy ho; exact absurd hm (by omega)
          | succ fuel49 ih49 =>
            intro y o hm hy ho H locs ls G hl
            refine lv_iload hx hb dX0_turn_49 (lv_at hl 3 rfl) ?_
            refine lv_aload_n hx hb dX0_turn_51 rfl (lv_at hl 0 rfl) ?_
            refine r_getN (v := .int (nI ((K 1) r))) C G hX1 (16 + 2 * r) (bW_c (by omega)) rfl 2 (by decide) (by decide +kernel) rfl dX0_turn_52 ?_
            refine lv_icmp_ge (tgt := 109) hx hb dX0_turn_55 (by decide) (fun c55 => ?_) (fun c55 => ?_)
            · skip
              replace c55 : (((K 1) r : Nat) : Int) ≤ ((y : Nat) : Int) := (cv_le (nI_toInt (by omega)) (nI_toInt (by omega))).mp c55
              exact RET (bW cI cO a ca ia n O (va_up (va_up (va_up (va_up I 9 1) 10 (K 2 r)) 11 (K 1 r)) 12 ((K 2 r) * (K 1 r))) J F (va_up E 0 o) K G0) _ _ ls _ _ _ (⟨o, fun y1 x1 h1 h2 => ho y1 x1 (by omega) h2, by unfold tH tW; rw [if_neg (by omega), if_neg (by omega), Nat.mul_comm (K 1 r) (K 2 r)]⟩) G (by first | (simp only []; omega) | decide) (by first | (simp only []; omega) | decide) dX0_turn_109
            · skip
              replace c55 : ((y : Nat) : Int) < (((K 1) r : Nat) : Int) := Int.not_le.mp (fun h => c55 ((cv_le (nI_toInt (by omega)) (nI_toInt (by omega))).mpr h))
              refine lv_iconst (v := (nI (0))) hx hb dX0_turn_58 (by decide) ?_
              refine lv_istore (lv' := [(5, .int (nI (0))), (0, .ref (ca r)), (1, .int (nI (d))), (2, .ref (a 14)), (4, .int (nI (y)))]) hx hb dX0_turn_59 hl (by decide) rfl (fun ls hl => ?_)
              have lp61 : ∀ (fuel61 : Nat) (x : Nat) (o2 : Nat → Int32) (hm2 : K 2 r - x < fuel61) (hx2 : x ≤ K 2 r) (ho2 : ∀ y1 x1, (y1 < y ∨ (y1 = y ∧ x1 < x)) → x1 < K 2 r → o2 (tpl d (K 1 r) (K 2 r) y1 x1) = G0 r (y1 * K 2 r + x1)) (H : Heap) (locs : List Loc) (ls : Array Slot), Wd A s.heap D (bW cI cO a ca ia n O (va_up (va_up (va_up (va_up I 9 1) 10 (K 2 r)) 11 (K 1 r)) 12 ((K 2 r) * (K 1 r))) J F (va_up E 0 o2) K G0) H locs → lv_has ls 6 [(0, .ref (ca r)), (1, .int (nI (d))), (2, .ref (a 14)), (4, .int (nI (y))), (5, .int (nI (x)))] → W p l e ({ frames := 2, cells := 0, slots := 0, locals := 43 } : Room) s m ([.ref (ca r), .int (nI (d)), .ref (a 14)] : List Value).toArray below meth c H locs 0 0 Q (F0 m 61 ls []) := by
                intro fuel61
                induction fuel61 with
                | zero => intro x o2 hm2 hx2 ho2; exact absurd hm2 (by omega)
                | succ fuel61 ih61 =>
                  intro x o2 hm2 hx2 ho2 H locs ls G hl
                  refine lv_iload hx hb dX0_turn_61 (lv_at hl 4 rfl) ?_
                  refine lv_aload_n hx hb dX0_turn_63 rfl (lv_at hl 0 rfl) ?_
                  refine r_getN (v := .int (nI ((K 2) r))) C G hX1 (16 + 2 * r) (bW_c (by omega)) rfl 3 (by decide) (by decide +kernel) rfl dX0_turn_64 ?_
                  refine lv_icmp_ge (tgt := 103) hx hb dX0_turn_67 (by decide) (fun c67 => ?_) (fun c67 => ?_)
                  · skip
                    replace c67 : (((K 2) r : Nat) : Int) ≤ ((x : Nat) : Int) := (cv_le (nI_toInt (by omega)) (nI_toInt (by omega))).mp c67
                    refine lv_iinc (v := nI (y + 1)) (lv' := [(4, .int (nI (y + 1))), (0, .ref (ca r)), (1, .int (nI (d))), (2, .ref (a 14)), (5, .int (nI (x)))]) hx hb dX0_turn_103 hl (k := 3) rfl (inc_n _ 1) (by decide) rfl (fun ls hl => ?_)
                    refine lv_goto (tgt := 49) hx hb dX0_turn_106 (by decide) ?_
                    exact ih49 (y + 1) o2 (by omega) (by omega) (fun y1 x1 h1 h2 => ho2 y1 x1 (by omega) h2) _ _ _ (G.eq (rfl)) (lv_sub hl [1, 2, 3, 0] rfl)
                  · skip
                    replace c67 : ((x : Nat) : Int) < (((K 2) r : Nat) : Int) := Int.not_le.mp (fun h => c67 ((cv_le (nI_toInt (by omega)) (nI_toInt (by omega))).mpr h))
                    have htl := tpl_lt (d := d) (H := K 1 r) (W := K 2 r) (y := y) (x := x) (by omega) (by omega)
                    have hyl := yx_lt (H := K 1 r) (W := K 2 r) (y := y) (x := x) (by omega) (by omega)
                    have hcm := Nat.mul_comm (K 2 r) (K 1 r)
                    have hp16 := prod_le hk1 hk2
                    refine lv_aload_n hx hb dX0_turn_70 rfl (lv_at hl 2 rfl) ?_
                    refine lv_aload_n hx hb dX0_turn_71 rfl (lv_at hl 0 rfl) ?_
                    refine lv_iload hx hb dX0_turn_72 (lv_at hl 3 rfl) ?_
                    refine lv_iload hx hb dX0_turn_74 (lv_at hl 4 rfl) ?_
                    refine lv_iload_n hx hb dX0_turn_76 rfl (lv_at hl 1 rfl) ?_
                    refine r_ai G hA (r_rS (na := 4) (As := [.ref (ca r), .int (nI (y)), .int (nI (x)), .int (nI (d))]) (rest := [.ref (a 14)]) C G (c_X0_turnedPlace l D cI cO cL a ca ia n O (va_up (va_up (va_up (va_up I 9 1) 10 (K 2 r)) 11 (K 1 r)) 12 ((K 2 r) * (K 1 r))) J F (va_up E 0 o2) K G0 r (by omega) y x d hk0 hk1 hk2 hk3 hk4 (by omega) (by omega) (by omega)) gX0_turn_X0_turnedPlace rfl (by decide +kernel) ⟨Nat.le_of_ble_eq_true rfl, Nat.le_of_ble_eq_true rfl⟩ rfl hl.1 rfl (Nat.le_of_ble_eq_true rfl) dX0_turn_77 ⟨by first | (simp only []; omega) | decide, by first | (simp only []; omega) | decide⟩) (fun r77 w77 H locs hp77 G => ?_)
                    obtain ⟨rfl, rfl⟩ := hp77
                    refine r_top (y := nI (tpl d (K 1 r) (K 2 r) y x)) rfl ?_
                    refine lv_aload_n hx hb dX0_turn_80 rfl (lv_at hl 0 rfl) ?_
                    refine lv_iload hx hb dX0_turn_81 (lv_at hl 3 rfl) ?_
                    refine lv_aload_n hx hb dX0_turn_83 rfl (lv_at hl 0 rfl) ?_
                    refine r_getN (v := .int (nI ((K 2) r))) C G hX1 (16 + 2 * r) (bW_c (by omega)) rfl 3 (by decide) (by decide +kernel) rfl dX0_turn_84 ?_
                    refine r_imul hx hb dX0_turn_87 ?_
                    refine lv_iload hx hb dX0_turn_88 (lv_at hl 4 rfl) ?_
                    refine r_iadd hx hb dX0_turn_90 ?_
                    refine r_ai G hA (r_rV (na := 1) (As := [.int (nI ((y * ((K 2) r)) + x))]) (rest := [.int (nI (tpl d (K 1 r) (K 2 r) y x)), .ref (a 14)]) C G (c_X1_item_R l D cI cO cL a ca ia n O (va_up (va_up (va_up (va_up I 9 1) 10 (K 2 r)) 11 (K 1 r)) 12 ((K 2 r) * (K 1 r))) J F (va_up E 0 o2) K G0 r (by omega) ((y * ((K 2) r)) + x) (by show (K 3) r ≤ (K 4) r; omega) (by omega) (by show (y * ((K 2) r)) + x < (K 3) r; omega)) gX0_turn_X1_item rfl (by decide +kernel) ⟨Nat.le_of_ble_eq_true rfl, Nat.le_of_ble_eq_true rfl⟩ (16 + 2 * r) (bW_c (by omega)) rfl rfl hl.1 rfl (Nat.le_of_ble_eq_true rfl) dX0_turn_91 ⟨by first | (simp only []; omega) | decide, by first | (simp only []; omega) | decide⟩) (fun r91 w91 H locs hp91 G => ?_)
                    obtain ⟨rfl, rfl⟩ := hp91
                    refine r_top (y := (G0 r) ((y * ((K 2) r)) + x)) rfl ?_
                    refine r_av G hA (r_rV (na := 2) (As := [.int (nI (tpl d (K 1 r) (K 2 r) y x)), .int ((G0 r) ((y * ((K 2) r)) + x))]) (rest := []) C G (c_X1_put_A l D cI cO cL a ca ia n O (va_up (va_up (va_up (va_up I 9 1) 10 (K 2 r)) 11 (K 1 r)) 12 ((K 2 r) * (K 1 r))) J F (va_up E 0 o2) K G0 (tpl d (K 1 r) (K 2 r) y x) ((G0 r) ((y * ((K 2) r)) + x)) (by show (K 2 r) * (K 1 r) ≤ 1600; omega) (by show tpl d (K 1 r) (K 2 r) y x < (K 2 r) * (K 1 r); omega)) gX0_turn_X1_put rfl (by decide +kernel) ⟨Nat.le_of_ble_eq_true rfl, Nat.le_of_ble_eq_true rfl⟩ 14 rfl rfl rfl hl.1 rfl (Nat.le_of_ble_eq_true rfl) dX0_turn_94 ⟨by first | (simp only []; omega) | decide, by first | (simp only []; omega) | decide⟩) (fun w94 H locs hp94 G => ?_)
                    obtain ⟨rfl⟩ := hp94
                    refine lv_iinc (v := nI (x + 1)) (lv' := [(5, .int (nI (x + 1))), (0, .ref (ca r)), (1, .int (nI (d))), (2, .ref (a 14)), (4, .int (nI (y)))]) hx hb dX0_turn_97 hl (k := 4) rfl (inc_n _ 1) (by decide) rfl (fun ls hl => ?_)
                    refine lv_goto (tgt := 61) hx hb dX0_turn_100 (by decide) ?_
                    exact ih61 (x + 1) (upd o2 (tpl d (K 1 r) (K 2 r) y x) ((G0 r) ((y * ((K 2) r)) + x))) (by omega) (by omega) (fun y1 x1 h1 h2 => by by_cases q : y1 = y ∧ x1 = x; (obtain ⟨rfl, rfl⟩ := q; rw [pk_us]); (rw [pk_un (fun z => q (tpl_inj (by omega) h2 (by omega) (by omega) z))]; exact ho2 y1 x1 (by omega) h2)) _ _ _ (G.eq (rfl)) (lv_sub hl [1, 2, 3, 4, 0] rfl)
              exact lp61 (K 2 r + 1) 0 o (by omega) (by omega) (fun y1 x1 h1 h2 => ho y1 x1 (by omega) h2) _ _ _ (G.eq (rfl)) (lv_sub hl [1, 2, 3, 4, 0] rfl)
        exact lp49 (K 1 r + 1) 0 (E 0) (by omega) (by omega) (fun y1 x1 h => by omega) _ _ _ (G.eq (rfl)) (lv_sub hl [2, 3, 4, 0] rfl)
      · skip
        exact absurd c29 (by decide)
    · skip
      exact absurd c14 (by decide)
  · skip
    replace c3 : ((d % 2 : Nat) : Int) = (0) := (cv_eq (nI_toInt (by omega)) (by decide)).mp c3
    refine lv_iconst (v := (nI (1))) hx hb dX0_turn_6 (by decide) ?_
    refine lv_goto (tgt := 11) hx hb dX0_turn_7 (by decide) ?_
    refine lv_istore_n (lv' := [(3, .int (nI (1))), (0, .ref (ca r)), (1, .int (nI (d))), (2, .ref (a 14))]) hx hb dX0_turn_11 rfl hl (by decide) rfl (fun ls hl => ?_)
    refine lv_aload_n hx hb dX0_turn_12 rfl (lv_at hl 3 rfl) ?_
    refine lv_iload_n hx hb dX0_turn_13 rfl (lv_at hl 0 rfl) ?_
    refine lv_if_eq (tgt := 24) hx hb dX0_turn_14 (by decide) (fun c14 => ?_) (fun c14 => ?_)
    · skip
      exact absurd c14 (by decide)
    · skip
      refine lv_aload_n hx hb dX0_turn_17 rfl (lv_at hl 1 rfl) ?_
      refine r_getN (v := .int (nI ((K 1) r))) C G hX1 (16 + 2 * r) (bW_c (by omega)) rfl 2 (by decide) (by decide +kernel) rfl dX0_turn_18 ?_
      refine lv_goto (tgt := 28) hx hb dX0_turn_21 (by decide) ?_
      refine lv_iload_n hx hb dX0_turn_28 rfl (lv_at hl 0 rfl) ?_
      refine lv_if_eq (tgt := 39) hx hb dX0_turn_29 (by decide) (fun c29 => ?_) (fun c29 => ?_)
      · skip
        exact absurd c29 (by decide)
      · skip
        refine lv_aload_n hx hb dX0_turn_32 rfl (lv_at hl 1 rfl) ?_
        refine r_getN (v := .int (nI ((K 2) r))) C G hX1 (16 + 2 * r) (bW_c (by omega)) rfl 3 (by decide) (by decide +kernel) rfl dX0_turn_33 ?_
        refine lv_goto (tgt := 43) hx hb dX0_turn_36 (by decide) ?_
        refine r_av G hA (r_rV (na := 2) (As := [.int (nI ((K 1) r)), .int (nI ((K 2) r))]) (rest := []) C G (c_X1_becomePicture l D cI cO cL a ca ia n O I J F E K G0 ((K 1) r) ((K 2) r)) gX0_turn_X1_becomePicture rfl (by decide +kernel) ⟨Nat.le_of_ble_eq_true rfl, Nat.le_of_ble_eq_true rfl⟩ 14 rfl rfl rfl hl.1 rfl (Nat.le_of_ble_eq_true rfl) dX0_turn_43 ⟨by first | (simp only []; omega) | decide, by first | (simp only []; omega) | decide⟩) (fun w43 H locs hp43 G => ?_)
        obtain ⟨rfl⟩ := hp43
        refine lv_iconst (v := (nI (0))) hx hb dX0_turn_46 (by decide) ?_
        refine lv_istore (lv' := [(4, .int (nI (0))), (3, .int (nI (1))), (0, .ref (ca r)), (1, .int (nI (d))), (2, .ref (a 14))]) hx hb dX0_turn_47 hl (by decide) rfl (fun ls hl => ?_)
        have lp49 : ∀ (fuel49 : Nat) (y : Nat) (o : Nat → Int32) (hm : K 1 r - y < fuel49) (hy : y ≤ K 1 r) (ho : ∀ y1 x1, y1 < y → x1 < K 2 r → o (tpl d (K 1 r) (K 2 r) y1 x1) = G0 r (y1 * K 2 r + x1)) (H : Heap) (locs : List Loc) (ls : Array Slot), Wd A s.heap D (bW cI cO a ca ia n O (va_up (va_up (va_up (va_up I 9 1) 10 (K 1 r)) 11 (K 2 r)) 12 ((K 1 r) * (K 2 r))) J F (va_up E 0 o) K G0) H locs → lv_has ls 6 [(0, .ref (ca r)), (1, .int (nI (d))), (2, .ref (a 14)), (4, .int (nI (y)))] → W p l e ({ frames := 2, cells := 0, slots := 0, locals := 43 } : Room) s m ([.ref (ca r), .int (nI (d)), .ref (a 14)] : List Value).toArray below meth c H locs 0 0 Q (F0 m 49 ls []) := by
          intro fuel49
          induction fuel49 with
          | zero => intro y o hm hy ho; exact absurd hm (by omega)
          | succ fuel49 ih49 =>
            intro y o hm hy ho H locs ls G hl
            refine lv_iload hx hb dX0_turn_49 (lv_at hl 3 rfl) ?_
            refine lv_aload_n hx hb dX0_turn_51 rfl (lv_at hl 0 rfl) ?_
            refine r_getN (v := .int (nI ((K 1) r))) C G hX1 (16 + 2 * r) (bW_c (by omega)) rfl 2 (by decide) (by decide +kernel) rfl dX0_turn_52 ?_
            refine lv_icmp_ge (tgt := 109) hx hb dX0_turn_55 (by decide) (fun c55 => ?_) (fun c55 => ?_)
            · skip
              replace c55 : (((K 1) r : Nat) : Int) ≤ ((y : Nat) : Int) := (cv_le (nI_toInt (by omega)) (nI_toInt (by omega))).mp c55
              exact RET (bW cI cO a ca ia n O (va_up (va_up (va_up (va_up I 9 1) 10 (K 1 r)) 11 (K 2 r)) 12 ((K 1 r) * (K 2 r))) J F (va_up E 0 o) K G0) _ _ ls _ _ _ (⟨o, fun y1 x1 h1 h2 => ho y1 x1 (by omega) h2, by unfold tH tW; rw [if_pos (by omega), if_pos (by omega)]⟩) G (by first | (simp only []; omega) | decide) (by first | (simp only []; omega) | decide) dX0_turn_109
            · skip
              replace c55 : ((y : Nat) : Int) < (((K 1) r : Nat) : Int) := Int.not_le.mp (fun h => c55 ((cv_le (nI_toInt (by omega)) (nI_toInt (by omega))).mpr h))
              refine lv_iconst (v := (nI (0))) hx hb dX0_turn_58 (by decide) ?_
              refine lv_istore (lv' := [(5, .int (nI (0))), (0, .ref (ca r)), (1, .int (nI (d))), (2, .ref (a 14)), (4, .int (nI (y)))]) hx hb dX0_turn_59 hl (by decide) rfl (fun ls hl => ?_)
              have lp61 : ∀ (fuel61 : Nat) (x : Nat) (o2 : Nat → Int32) (hm2 : K 2 r - x < fuel61) (hx2 : x ≤ K 2 r) (ho2 : ∀ y1 x1, (y1 < y ∨ (y1 = y ∧ x1 < x)) → x1 < K 2 r → o2 (tpl d (K 1 r) (K 2 r) y1 x1) = G0 r (y1 * K 2 r + x1)) (H : Heap) (locs : List Loc) (ls : Array Slot), Wd A s.heap D (bW cI cO a ca ia n O (va_up (va_up (va_up (va_up I 9 1) 10 (K 1 r)) 11 (K 2 r)) 12 ((K 1 r) * (K 2 r))) J F (va_up E 0 o2) K G0) H locs → lv_has ls 6 [(0, .ref (ca r)), (1, .int (nI (d))), (2, .ref (a 14)), (4, .int (nI (y))), (5, .int (nI (x)))] → W p l e ({ frames := 2, cells := 0, slots := 0, locals := 43 } : Room) s m ([.ref (ca r), .int (nI (d)), .ref (a 14)] : List Value).toArray below meth c H locs 0 0 Q (F0 m 61 ls []) := by
                intro fuel61
                induction fuel61 with
                | zero => intro x o2 hm2 hx2 ho2; exact absurd hm2 (by omega)
                | succ fuel61 ih61 =>
                  intro x o2 hm2 hx2 ho2 H locs ls G hl
                  refine lv_iload hx hb dX0_turn_61 (lv_at hl 4 rfl) ?_
                  refine lv_aload_n hx hb dX0_turn_63 rfl (lv_at hl 0 rfl) ?_
                  refine r_getN (v := .int (nI ((K 2) r))) C G hX1 (16 + 2 * r) (bW_c (by omega)) rfl 3 (by decide) (by decide +kernel) rfl dX0_turn_64 ?_
                  refine lv_icmp_ge (tgt := 103) hx hb dX0_turn_67 (by decide) (fun c67 => ?_) (fun c67 => ?_)
                  · skip
                    replace c67 : (((K 2) r : Nat) : Int) ≤ ((x : Nat) : Int) := (cv_le (nI_toInt (by omega)) (nI_toInt (by omega))).mp c67
                    refine lv_iinc (v := nI (y + 1)) (lv' := [(4, .int (nI (y + 1))), (0, .ref (ca r)), (1, .int (nI (d))), (2, .ref (a 14)), (5, .int (nI (x)))]) hx hb dX0_turn_103 hl (k := 3) rfl (inc_n _ 1) (by decide) rfl (fun ls hl => ?_)
                    refine lv_goto (tgt := 49) hx hb dX0_turn_106 (by decide) ?_
                    exact ih49 (y + 1) o2 (by omega) (by omega) (fun y1 x1 h1 h2 => ho2 y1 x1 (by omega) h2) _ _ _ (G.eq (rfl)) (lv_sub hl [1, 2, 3, 0] rfl)
                  · skip
                    replace c67 : ((x : Nat) : Int) < (((K 2) r : Nat) : Int) := Int.not_le.mp (fun h => c67 ((cv_le (nI_toInt (by omega)) (nI_toInt (by omega))).mpr h))
                    have htl := tpl_lt (d := d) (H := K 1 r) (W := K 2 r) (y := y) (x := x) (by omega) (by omega)
                    have hyl := yx_lt (H := K 1 r) (W := K 2 r) (y := y) (x := x) (by omega) (by omega)
                    have hcm := Nat.mul_comm (K 2 r) (K 1 r)
                    have hp16 := prod_le hk1 hk2
                    refine lv_aload_n hx hb dX0_turn_70 rfl (lv_at hl 2 rfl) ?_
                    refine lv_aload_n hx hb dX0_turn_71 rfl (lv_at hl 0 rfl) ?_
                    refine lv_iload hx hb dX0_turn_72 (lv_at hl 3 rfl) ?_
                    refine lv_iload hx hb dX0_turn_74 (lv_at hl 4 rfl) ?_
                    refine lv_iload_n hx hb dX0_turn_76 rfl (lv_at hl 1 rfl) ?_
                    refine r_ai G hA (r_rS (na := 4) (As := [.ref (ca r), .int (nI (y)), .int (nI (x)), .int (nI (d))]) (rest := [.ref (a 14)]) C G (c_X0_turnedPlace l D cI cO cL a ca ia n O (va_up (va_up (va_up (va_up I 9 1) 10 (K 1 r)) 11 (K 2 r)) 12 ((K 1 r) * (K 2 r))) J F (va_up E 0 o2) K G0 r (by omega) y x d hk0 hk1 hk2 hk3 hk4 (by omega) (by omega) (by omega)) gX0_turn_X0_turnedPlace rfl (by decide +kernel) ⟨Nat.le_of_ble_eq_true rfl, Nat.le_of_ble_eq_true rfl⟩ rfl hl.1 rfl (Nat.le_of_ble_eq_true rfl) dX0_turn_77 ⟨by first | (simp only []; omega) | decide, by first | (simp only []; omega) | decide⟩) (fun r77 w77 H locs hp77 G => ?_)
                    obtain ⟨rfl, rfl⟩ := hp77
                    refine r_top (y := nI (tpl d (K 1 r) (K 2 r) y x)) rfl ?_
                    refine lv_aload_n hx hb dX0_turn_80 rfl (lv_at hl 0 rfl) ?_
                    refine lv_iload hx hb dX0_turn_81 (lv_at hl 3 rfl) ?_
                    refine lv_aload_n hx hb dX0_turn_83 rfl (lv_at hl 0 rfl) ?_
                    refine r_getN (v := .int (nI ((K 2) r))) C G hX1 (16 + 2 * r) (bW_c (by omega)) rfl 3 (by decide) (by decide +kernel) rfl dX0_turn_84 ?_
                    refine r_imul hx hb dX0_turn_87 ?_
                    refine lv_iload hx hb dX0_turn_88 (lv_at hl 4 rfl) ?_
                    refine r_iadd hx hb dX0_turn_90 ?_
                    refine r_ai G hA (r_rV (na := 1) (As := [.int (nI ((y * ((K 2) r)) + x))]) (rest := [.int (nI (tpl d (K 1 r) (K 2 r) y x)), .ref (a 14)]) C G (c_X1_item_R l D cI cO cL a ca ia n O (va_up (va_up (va_up (va_up I 9 1) 10 (K 1 r)) 11 (K 2 r)) 12 ((K 1 r) * (K 2 r))) J F (va_up E 0 o2) K G0 r (by omega) ((y * ((K 2) r)) + x) (by show (K 3) r ≤ (K 4) r; omega) (by omega) (by show (y * ((K 2) r)) + x < (K 3) r; omega)) gX0_turn_X1_item rfl (by decide +kernel) ⟨Nat.le_of_ble_eq_true rfl, Nat.le_of_ble_eq_true rfl⟩ (16 + 2 * r) (bW_c (by omega)) rfl rfl hl.1 rfl (Nat.le_of_ble_eq_true rfl) dX0_turn_91 ⟨by first | (simp only []; omega) | decide, by first | (simp only []; omega) | decide⟩) (fun r91 w91 H locs hp91 G => ?_)
                    obtain ⟨rfl, rfl⟩ := hp91
                    refine r_top (y := (G0 r) ((y * ((K 2) r)) + x)) rfl ?_
                    refine r_av G hA (r_rV (na := 2) (As := [.int (nI (tpl d (K 1 r) (K 2 r) y x)), .int ((G0 r) ((y * ((K 2) r)) + x))]) (rest := []) C G (c_X1_put_A l D cI cO cL a ca ia n O (va_up (va_up (va_up (va_up I 9 1) 10 (K 1 r)) 11 (K 2 r)) 12 ((K 1 r) * (K 2 r))) J F (va_up E 0 o2) K G0 (tpl d (K 1 r) (K 2 r) y x) ((G0 r) ((y * ((K 2) r)) + x)) (by show (K 1 r) * (K 2 r) ≤ 1600; omega) (by show tpl d (K 1 r) (K 2 r) y x < (K 1 r) * (K 2 r); omega)) gX0_turn_X1_put rfl (by decide +kernel) ⟨Nat.le_of_ble_eq_true rfl, Nat.le_of_ble_eq_true rfl⟩ 14 rfl rfl rfl hl.1 rfl (Nat.le_of_ble_eq_true rfl) dX0_turn_94 ⟨by first | (simp only []; omega) | decide, by first | (simp only []; omega) | decide⟩) (fun w94 H locs hp94 G => ?_)
                    obtain ⟨rfl⟩ := hp94
                    refine lv_iinc (v := nI (x + 1)) (lv' := [(5, .int (nI (x + 1))), (0, .ref (ca r)), (1, .int (nI (d))), (2, .ref (a 14)), (4, .int (nI (y)))]) hx hb dX0_turn_97 hl (k := 4) rfl (inc_n _ 1) (by decide) rfl (fun ls hl => ?_)
                    refine lv_goto (tgt := 61) hx hb dX0_turn_100 (by decide) ?_
                    exact ih61 (x + 1) (upd o2 (tpl d (K 1 r) (K 2 r) y x) ((G0 r) ((y * ((K 2) r)) + x))) (by omega) (by omega) (fun y1 x1 h1 h2 => by by_cases q : y1 = y ∧ x1 = x; (obtain ⟨rfl, rfl⟩ := q; rw [pk_us]); (rw [pk_un (fun z => q (tpl_inj (by omega) h2 (by omega) (by omega) z))]; exact ho2 y1 x1 (by omega) h2)) _ _ _ (G.eq (rfl)) (lv_sub hl [1, 2, 3, 4, 0] rfl)
              exact lp61 (K 2 r + 1) 0 o (by omega) (by omega) (fun y1 x1 h1 h2 => ho y1 x1 (by omega) h2) _ _ _ (G.eq (rfl)) (lv_sub hl [1, 2, 3, 4, 0] rfl)
        exact lp49 (K 1 r + 1) 0 (E 0) (by omega) (by omega) (fun y1 x1 h => by omega) _ _ _ (G.eq (rfl)) (lv_sub hl [2, 3, 4, 0] rfl)
