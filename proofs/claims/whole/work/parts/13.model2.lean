set_option maxHeartbeats 4000000 in
set_option maxRecDepth 100000 in
theorem c_X7_row (l : Launch) (D : va_G) (cI cO cL : ClassId) (b : Nat → Nat) (I : Nat → Nat) (J : Nat → Int64) (F : Nat → Nat → Nat) (G0 : Nat → Nat → Int32) (kd lb wt : Int32) (h1 : I 1 ≤ 60) : Ki l yX7_row wsX7_row { frames := 2, cells := 0, slots := 0, locals := 51 } D (TY cI cO cL) [.ref (b 0), .int (kd), .int (lb), .int (wt)] (mW cI b I J F G0) (fun r w => (¬ ((kd.toInt = 0 ∨ kd.toInt = 2) ∧ 0 ≤ lb.toInt ∧ lb.toInt ≤ 7 ∧ 0 ≤ wt.toInt ∧ wt.toInt ≤ 1000) ∧ r = -1 ∧ w = mW cI b (va_up I 0 0) J F G0) ∨ (((kd.toInt = 0 ∨ kd.toInt = 2) ∧ 0 ≤ lb.toInt ∧ lb.toInt ≤ 7 ∧ 0 ≤ wt.toInt ∧ wt.toInt ≤ 1000) ∧ I 1 = 60 ∧ r = -2 ∧ w = mW cI b (va_up I 0 0) J F G0) ∨ (((kd.toInt = 0 ∨ kd.toInt = 2) ∧ 0 ≤ lb.toInt ∧ lb.toInt ≤ 7 ∧ 0 ≤ wt.toInt ∧ wt.toInt ≤ 1000) ∧ I 1 < 60 ∧ r = nI (I 1) ∧ w = mW cI b (va_up (va_up I 0 0) 1 (I 1 + 1)) J (va_up (va_up (va_up (va_up (va_up (va_up F 0 (va_up (F 0) (I 1) (tn kd))) 1 (va_up (F 1) (I 1) (tn lb))) 2 (va_up (F 2) (I 1) (tn wt))) 3 (va_up (F 3) (I 1) (0 * 0))) 4 (va_up (F 4) (I 1) 0)) 5 (va_up (F 5) (I 1) 0)) (va_up G0 0 (zr (1600 * I 1) 1600 (G0 0))))) := by
  refine Ki.mk (cc := cX7_row) (maxL := 4) (rt := .int) (own := RX7) (by decide) rfl rfl (Nat.le_of_ble_eq_true rfl) ?_
  intro p e s m below meth c A Q ls C hname hA G hl RET
  obtain ⟨⟨hx, hb, hml, hown, hts⟩, hK, hN⟩ := id C
  have hl : lv_has ls 4 [(0, .ref (b 0)), (1, .int (kd)), (2, .int (lb)), (3, .int (wt))] := hl
  have hX7 : ∀ w ∈ u_ws RX7 TX7 30, w ∈ wsX7_row := by decide +kernel
  refine lv_aload_n hx hb dX7_row_0 rfl (lv_at hl 0 rfl) ?_
  refine lv_iconst (v := (nI (0))) hx hb dX7_row_1 (by decide) ?_
  refine r_put (ws' := mW cI b (va_up I 0 0) J F G0) C G hX7 tyX7_ok nmX7 0 rfl rfl 0 (by decide) (by decide +kernel) rfl rfl rfl (Nat.le_of_ble_eq_true rfl) dX7_row_2 rfl (fun H locs G => ?_)
  refine lv_iload_n hx hb dX7_row_5 rfl (lv_at hl 1 rfl) ?_
  refine lv_if_eq (tgt := 18) hx hb dX7_row_6 (by decide) (fun c6 => ?_) (fun c6 => ?_)
  · skip
    replace c6 : (kd).toInt = (0) := (cv_eq rfl (by decide)).mp c6
    have ek : kd.toInt = ((0 : Nat) : Int) := by omega
    obtain rfl : kd = nI 0 := eq_lit ek (by omega)
    refine lv_aload_n hx hb dX7_row_18 rfl (lv_at hl 0 rfl) ?_
    refine lv_iload_n hx hb dX7_row_19 rfl (lv_at hl 1 rfl) ?_
    refine lv_iload_n hx hb dX7_row_20 rfl (lv_at hl 2 rfl) ?_
    refine lv_iload_n hx hb dX7_row_21 rfl (lv_at hl 3 rfl) ?_
    refine lv_iconst (v := (nI (0))) hx hb dX7_row_22 (by decide) ?_
    refine lv_iconst (v := (nI (0))) hx hb dX7_row_23 (by decide) ?_
    refine r_ai G hA (r_rV (na := 5) (As := [.int (nI (0)), .int (lb), .int (wt), .int (nI (0)), .int (nI (0))]) (rest := []) C G (c_X7_comes l D cI cO cL b (va_up I 0 0) J F G0 0 0 0 lb wt h1 (by omega) (by omega) (by decide)) gX7_row_X7_comes rfl (by decide +kernel) ⟨Nat.le_of_ble_eq_true rfl, Nat.le_of_ble_eq_true rfl⟩ 0 rfl rfl rfl hl.1 rfl (Nat.le_of_ble_eq_true rfl) dX7_row_24 ⟨by first | (simp only []; omega) | decide, by first | (simp only []; omega) | decide⟩) (fun r24 w24 H locs hp24 G => ?_)
    rcases hp24 with ⟨hb24, rfl, rfl⟩ | ⟨hb24, hf24, rfl, rfl⟩ | ⟨hb24, hlt, rfl, rfl⟩
    · skip
      exact RET ((-1)) (mW cI b (va_up I 0 0) J F G0) _ _ ls _ _ _ (Or.inl ⟨by omega, rfl, rfl⟩) G (by first | (simp only []; omega) | decide) (by first | (simp only []; omega) | decide) rfl dX7_row_27
    · skip
      exact RET ((-2)) (mW cI b (va_up I 0 0) J F G0) _ _ ls _ _ _ (by rw [tn_nI (show 0 < 2 ^ 31 by omega)]; exact Or.inr (Or.inl ⟨by omega, hf24, rfl, rfl⟩)) G (by first | (simp only []; omega) | decide) (by first | (simp only []; omega) | decide) rfl dX7_row_27
    · skip
      refine r_top (y := nI (I 1)) rfl ?_
      exact RET (nI (I 1)) (mW cI b (va_up (va_up I 0 0) 1 (I 1 + 1)) J (va_up (va_up (va_up (va_up (va_up (va_up F 0 (va_up (F 0) (I 1) 0)) 1 (va_up (F 1) (I 1) (tn lb))) 2 (va_up (F 2) (I 1) (tn wt))) 3 (va_up (F 3) (I 1) (0 * 0))) 4 (va_up (F 4) (I 1) 0)) 5 (va_up (F 5) (I 1) 0)) (va_up G0 0 (zr (1600 * (I 1)) 1600 (G0 0)))) _ _ ls _ _ _ (by rw [tn_nI (show 0 < 2 ^ 31 by omega)]; exact Or.inr (Or.inr ⟨by omega, hlt, rfl, rfl⟩)) G (by first | (simp only []; omega) | decide) (by first | (simp only []; omega) | decide) rfl dX7_row_27
  · skip
    replace c6 : ¬ (kd).toInt = (0) := fun h => c6 ((cv_eq rfl (by decide)).mpr h)
    refine lv_iload_n hx hb dX7_row_9 rfl (lv_at hl 1 rfl) ?_
    refine lv_iconst (v := (nI (2))) hx hb dX7_row_10 (by decide) ?_
    refine lv_icmp_eq (tgt := 18) hx hb dX7_row_11 (by decide) (fun c11 => ?_) (fun c11 => ?_)
    · skip
      replace c11 : (kd).toInt = ((2 : Nat) : Int) := (cv_eq rfl (nI_toInt (by omega))).mp c11
      have ek : kd.toInt = ((2 : Nat) : Int) := by omega
      obtain rfl : kd = nI 2 := eq_lit ek (by omega)
      refine lv_aload_n hx hb dX7_row_18 rfl (lv_at hl 0 rfl) ?_
      refine lv_iload_n hx hb dX7_row_19 rfl (lv_at hl 1 rfl) ?_
      refine lv_iload_n hx hb dX7_row_20 rfl (lv_at hl 2 rfl) ?_
      refine lv_iload_n hx hb dX7_row_21 rfl (lv_at hl 3 rfl) ?_
      refine lv_iconst (v := (nI (0))) hx hb dX7_row_22 (by decide) ?_
      refine lv_iconst (v := (nI (0))) hx hb dX7_row_23 (by decide) ?_
      refine r_ai G hA (r_rV (na := 5) (As := [.int (nI (2)), .int (lb), .int (wt), .int (nI (0)), .int (nI (0))]) (rest := []) C G (c_X7_comes l D cI cO cL b (va_up I 0 0) J F G0 2 0 0 lb wt h1 (by omega) (by omega) (by decide)) gX7_row_X7_comes rfl (by decide +kernel) ⟨Nat.le_of_ble_eq_true rfl, Nat.le_of_ble_eq_true rfl⟩ 0 rfl rfl rfl hl.1 rfl (Nat.le_of_ble_eq_true rfl) dX7_row_24 ⟨by first | (simp only []; omega) | decide, by first | (simp only []; omega) | decide⟩) (fun r24 w24 H locs hp24 G => ?_)
      rcases hp24 with ⟨hb24, rfl, rfl⟩ | ⟨hb24, hf24, rfl, rfl⟩ | ⟨hb24, hlt, rfl, rfl⟩
      · skip
        exact RET ((-1)) (mW cI b (va_up I 0 0) J F G0) _ _ ls _ _ _ (Or.inl ⟨by omega, rfl, rfl⟩) G (by first | (simp only []; omega) | decide) (by first | (simp only []; omega) | decide) rfl dX7_row_27
      · skip
        exact RET ((-2)) (mW cI b (va_up I 0 0) J F G0) _ _ ls _ _ _ (by rw [tn_nI (show 2 < 2 ^ 31 by omega)]; exact Or.inr (Or.inl ⟨by omega, hf24, rfl, rfl⟩)) G (by first | (simp only []; omega) | decide) (by first | (simp only []; omega) | decide) rfl dX7_row_27
      · skip
        refine r_top (y := nI (I 1)) rfl ?_
        exact RET (nI (I 1)) (mW cI b (va_up (va_up I 0 0) 1 (I 1 + 1)) J (va_up (va_up (va_up (va_up (va_up (va_up F 0 (va_up (F 0) (I 1) 2)) 1 (va_up (F 1) (I 1) (tn lb))) 2 (va_up (F 2) (I 1) (tn wt))) 3 (va_up (F 3) (I 1) (0 * 0))) 4 (va_up (F 4) (I 1) 0)) 5 (va_up (F 5) (I 1) 0)) (va_up G0 0 (zr (1600 * (I 1)) 1600 (G0 0)))) _ _ ls _ _ _ (by rw [tn_nI (show 2 < 2 ^ 31 by omega)]; exact Or.inr (Or.inr ⟨by omega, hlt, rfl, rfl⟩)) G (by first | (simp only []; omega) | decide) (by first | (simp only []; omega) | decide) rfl dX7_row_27
    · skip
      replace c11 : ¬ (kd).toInt = ((2 : Nat) : Int) := fun h => c11 ((cv_eq rfl (nI_toInt (by omega))).mpr h)
      refine lv_iconst (v := ((-1))) hx hb dX7_row_14 (by decide) ?_
      refine lv_goto (tgt := 27) hx hb dX7_row_15 (by decide) ?_
      exact RET ((-1)) (mW cI b (va_up I 0 0) J F G0) _ _ ls _ _ _ (Or.inl ⟨by omega, rfl, rfl⟩) G (by first | (simp only []; omega) | decide) (by first | (simp only []; omega) | decide) rfl dX7_row_27
set_option maxHeartbeats 4000000 in
set_option maxRecDepth 100000 in
theorem c_X7_picture (l : Launch) (D : va_G) (cI cO cL : ClassId) (b : Nat → Nat) (I : Nat → Nat) (J : Nat → Int64) (F : Nat → Nat → Nat) (G0 : Nat → Nat → Int32) (hi wi lb wt : Int32) (h1 : I 1 ≤ 60) : Ki l yX7_picture wsX7_picture { frames := 2, cells := 0, slots := 0, locals := 51 } D (TY cI cO cL) [.ref (b 0), .int (hi), .int (wi), .int (lb), .int (wt)] (mW cI b I J F G0) (fun r w => (¬ (1 ≤ hi.toInt ∧ hi.toInt ≤ 40 ∧ 1 ≤ wi.toInt ∧ wi.toInt ≤ 40 ∧ 0 ≤ lb.toInt ∧ lb.toInt ≤ 7 ∧ 0 ≤ wt.toInt ∧ wt.toInt ≤ 1000) ∧ r = -1 ∧ w = mW cI b (va_up I 0 0) J F G0) ∨ ((1 ≤ hi.toInt ∧ hi.toInt ≤ 40 ∧ 1 ≤ wi.toInt ∧ wi.toInt ≤ 40 ∧ 0 ≤ lb.toInt ∧ lb.toInt ≤ 7 ∧ 0 ≤ wt.toInt ∧ wt.toInt ≤ 1000) ∧ I 1 = 60 ∧ r = -2 ∧ w = mW cI b (va_up I 0 0) J F G0) ∨ ((1 ≤ hi.toInt ∧ hi.toInt ≤ 40 ∧ 1 ≤ wi.toInt ∧ wi.toInt ≤ 40 ∧ 0 ≤ lb.toInt ∧ lb.toInt ≤ 7 ∧ 0 ≤ wt.toInt ∧ wt.toInt ≤ 1000) ∧ I 1 < 60 ∧ r = nI (I 1) ∧ w = mW cI b (va_up (va_up I 0 0) 1 (I 1 + 1)) J (va_up (va_up (va_up (va_up (va_up (va_up F 0 (va_up (F 0) (I 1) 1)) 1 (va_up (F 1) (I 1) (tn lb))) 2 (va_up (F 2) (I 1) (tn wt))) 3 (va_up (F 3) (I 1) ((tn hi) * (tn wi)))) 4 (va_up (F 4) (I 1) (tn hi))) 5 (va_up (F 5) (I 1) (tn wi))) (va_up G0 0 (zr (1600 * I 1) 1600 (G0 0))))) := by
  refine Ki.mk (cc := cX7_picture) (maxL := 5) (rt := .int) (own := RX7) (by decide) rfl rfl (Nat.le_of_ble_eq_true rfl) ?_
  intro p e s m below meth c A Q ls C hname hA G hl RET
  obtain ⟨⟨hx, hb, hml, hown, hts⟩, hK, hN⟩ := id C
  have hl : lv_has ls 5 [(0, .ref (b 0)), (1, .int (hi)), (2, .int (wi)), (3, .int (lb)), (4, .int (wt))] := hl
  have hX7 : ∀ w ∈ u_ws RX7 TX7 30, w ∈ wsX7_picture := by decide +kernel
  refine lv_aload_n hx hb dX7_picture_0 rfl (lv_at hl 0 rfl) ?_
  refine lv_iconst (v := (nI (0))) hx hb dX7_picture_1 (by decide) ?_
  refine r_put (ws' := mW cI b (va_up I 0 0) J F G0) C G hX7 tyX7_ok nmX7 0 rfl rfl 0 (by decide) (by decide +kernel) rfl rfl rfl (Nat.le_of_ble_eq_true rfl) dX7_picture_2 rfl (fun H locs G => ?_)
  refine lv_iload_n hx hb dX7_picture_5 rfl (lv_at hl 1 rfl) ?_
  refine lv_i2l hx hb dX7_picture_6 rfl ?_
  refine lv_lconst (v := 1) hx hb dX7_picture_7 (by decide) ?_
  refine lv_ldc2 (v := (40)) hx hb hown (hts (.constantLong RX7 108 (40)) (by decide +kernel)) dX7_picture_8 ?_
  refine r_ai G hA (r_rS (na := 3) (As := [.long (hi.toInt64), .long (1), .long ((40))]) (rest := []) C G (c_X7_in l D cI cO cL (mW cI b (va_up I 0 0) J F G0) hi.toInt64 1 ((40)) ((hi).toInt) ((1)) ((40)) ((i2l_ti rfl)) ((by decide)) ((by decide))) gX7_picture_X7_in rfl (by decide +kernel) ⟨Nat.le_of_ble_eq_true rfl, Nat.le_of_ble_eq_true rfl⟩ rfl hl.1 rfl (Nat.le_of_ble_eq_true rfl) dX7_picture_11 ⟨by first | (simp only []; omega) | decide, by first | (simp only []; omega) | decide⟩) (fun r11 w11 H locs hp11 G => ?_)
  rcases hp11 with ⟨rfl, rfl, hi11⟩ | ⟨rfl, rfl, hi11⟩
  · skip
    refine lv_if_eq (tgt := 29) hx hb dX7_picture_14 (by decide) (fun c14 => ?_) (fun c14 => ?_)
    · skip
      exact absurd c14 (by decide)
    · skip
      refine lv_iload_n hx hb dX7_picture_17 rfl (lv_at hl 2 rfl) ?_
      refine lv_i2l hx hb dX7_picture_18 rfl ?_
      refine lv_lconst (v := 1) hx hb dX7_picture_19 (by decide) ?_
      refine lv_ldc2 (v := (40)) hx hb hown (hts (.constantLong RX7 108 (40)) (by decide +kernel)) dX7_picture_20 ?_
      refine r_ai G hA (r_rS (na := 3) (As := [.long (wi.toInt64), .long (1), .long ((40))]) (rest := []) C G (c_X7_in l D cI cO cL (mW cI b (va_up I 0 0) J F G0) wi.toInt64 1 ((40)) ((wi).toInt) ((1)) ((40)) ((i2l_ti rfl)) ((by decide)) ((by decide))) gX7_picture_X7_in rfl (by decide +kernel) ⟨Nat.le_of_ble_eq_true rfl, Nat.le_of_ble_eq_true rfl⟩ rfl hl.1 rfl (Nat.le_of_ble_eq_true rfl) dX7_picture_23 ⟨by first | (simp only []; omega) | decide, by first | (simp only []; omega) | decide⟩) (fun r23 w23 H locs hp23 G => ?_)
      rcases hp23 with ⟨rfl, rfl, hi23⟩ | ⟨rfl, rfl, hi23⟩
      · skip
        refine lv_if_ne (tgt := 33) hx hb dX7_picture_26 (by decide) (fun c26 => ?_) (fun c26 => ?_)
        · skip
          obtain ⟨hi1, hhi1, ehi1, rfl⟩ := nat_of (x := hi) (by omega)
          obtain ⟨wi1, hwi1, ewi1, rfl⟩ := nat_of (x := wi) (by omega)
          refine lv_aload_n hx hb dX7_picture_33 rfl (lv_at hl 0 rfl) ?_
          refine lv_iconst (v := (nI (1))) hx hb dX7_picture_34 (by decide) ?_
          refine lv_iload_n hx hb dX7_picture_35 rfl (lv_at hl 3 rfl) ?_
          refine lv_iload hx hb dX7_picture_36 (lv_at hl 4 rfl) ?_
          refine lv_iload_n hx hb dX7_picture_38 rfl (lv_at hl 1 rfl) ?_
          refine lv_iload_n hx hb dX7_picture_39 rfl (lv_at hl 2 rfl) ?_
          refine r_ai G hA (r_rV (na := 5) (As := [.int (nI (1)), .int (lb), .int (wt), .int (nI (hi1)), .int (nI (wi1))]) (rest := []) C G (c_X7_comes l D cI cO cL b (va_up I 0 0) J F G0 1 hi1 wi1 lb wt h1 (by omega) (by omega) (prod_le (by omega) (by omega))) gX7_picture_X7_comes rfl (by decide +kernel) ⟨Nat.le_of_ble_eq_true rfl, Nat.le_of_ble_eq_true rfl⟩ 0 rfl rfl rfl hl.1 rfl (Nat.le_of_ble_eq_true rfl) dX7_picture_40 ⟨by first | (simp only []; omega) | decide, by first | (simp only []; omega) | decide⟩) (fun r40 w40 H locs hp40 G => ?_)
          rcases hp40 with ⟨hb40, rfl, rfl⟩ | ⟨hb40, hf40, rfl, rfl⟩ | ⟨hb40, hlt, rfl, rfl⟩
          · skip
            exact RET ((-1)) (mW cI b (va_up I 0 0) J F G0) _ _ ls _ _ _ (by rw [tn_nI hhi1, tn_nI hwi1]; exact Or.inl ⟨by omega, rfl, rfl⟩) G (by first | (simp only []; omega) | decide) (by first | (simp only []; omega) | decide) rfl dX7_picture_43
          · skip
            exact RET ((-2)) (mW cI b (va_up I 0 0) J F G0) _ _ ls _ _ _ (by rw [tn_nI hhi1, tn_nI hwi1]; exact Or.inr (Or.inl ⟨by omega, hf40, rfl, rfl⟩)) G (by first | (simp only []; omega) | decide) (by first | (simp only []; omega) | decide) rfl dX7_picture_43
          · skip
            refine r_top (y := nI (I 1)) rfl ?_
            exact RET (nI (I 1)) (mW cI b (va_up (va_up I 0 0) 1 (I 1 + 1)) J (va_up (va_up (va_up (va_up (va_up (va_up F 0 (va_up (F 0) (I 1) 1)) 1 (va_up (F 1) (I 1) (tn lb))) 2 (va_up (F 2) (I 1) (tn wt))) 3 (va_up (F 3) (I 1) (hi1 * wi1))) 4 (va_up (F 4) (I 1) hi1)) 5 (va_up (F 5) (I 1) wi1)) (va_up G0 0 (zr (1600 * (I 1)) 1600 (G0 0)))) _ _ ls _ _ _ (by rw [tn_nI hhi1, tn_nI hwi1]; exact Or.inr (Or.inr ⟨by omega, hlt, rfl, rfl⟩)) G (by first | (simp only []; omega) | decide) (by first | (simp only []; omega) | decide) rfl dX7_picture_43
        · skip
          exact absurd c26 (by decide)
      · skip
        refine lv_if_ne (tgt := 33) hx hb dX7_picture_26 (by decide) (fun c26 => ?_) (fun c26 => ?_)
        · skip
          exact absurd c26 (by decide)
        · skip
          refine lv_iconst (v := ((-1))) hx hb dX7_picture_29 (by decide) ?_
          refine lv_goto (tgt := 43) hx hb dX7_picture_30 (by decide) ?_
          exact RET ((-1)) (mW cI b (va_up I 0 0) J F G0) _ _ ls _ _ _ (Or.inl ⟨by omega, rfl, rfl⟩) G (by first | (simp only []; omega) | decide) (by first | (simp only []; omega) | decide) rfl dX7_picture_43
  · skip
    refine lv_if_eq (tgt := 29) hx hb dX7_picture_14 (by decide) (fun c14 => ?_) (fun c14 => ?_)
    · skip
      refine lv_iconst (v := ((-1))) hx hb dX7_picture_29 (by decide) ?_
      refine lv_goto (tgt := 43) hx hb dX7_picture_30 (by decide) ?_
      exact RET ((-1)) (mW cI b (va_up I 0 0) J F G0) _ _ ls _ _ _ (Or.inl ⟨by omega, rfl, rfl⟩) G (by first | (simp only []; omega) | decide) (by first | (simp only []; omega) | decide) rfl dX7_picture_43
    · skip
      exact absurd c14 (by decide)
set_option maxHeartbeats 4000000 in
set_option maxRecDepth 100000 in
theorem c_X7_word (l : Launch) (D : va_G) (cI cO cL : ClassId) (b : Nat → Nat) (I : Nat → Nat) (J : Nat → Int64) (F : Nat → Nat → Nat) (G0 : Nat → Nat → Int32) (x v : Int32) (h1 : I 1 ≤ 60) (hL : ∀ j, j < I 1 → F 3 j ≤ 1600) (hKd : ∀ j, j < I 1 → F 0 j ≤ 2) (hWd : ∀ j, j < I 1 → F 0 j = 0 → F 3 j ≤ 40) : Ki l yX7_word wsX7_word { frames := 2, cells := 0, slots := 0, locals := 46 } D (TY cI cO cL) [.ref (b 0), .int (x), .int (v)] (mW cI b I J F G0) (fun r w => (¬ (0 ≤ x.toInt ∧ x.toInt < I 1) ∧ r = -1 ∧ w = mW cI b (va_up I 0 0) J F G0) ∨ ((0 ≤ x.toInt ∧ x.toInt < I 1) ∧ F 0 (tn x) ≠ 0 ∧ r = -1 ∧ w = mW cI b (va_up I 0 0) J F G0) ∨ ((0 ≤ x.toInt ∧ x.toInt < I 1) ∧ F 0 (tn x) = 0 ∧ F 3 (tn x) = 40 ∧ r = -2 ∧ w = mW cI b (va_up I 0 0) J F G0) ∨ ((0 ≤ x.toInt ∧ x.toInt < I 1) ∧ F 0 (tn x) = 0 ∧ F 3 (tn x) ≠ 40 ∧ r = nI (F 3 (tn x) + 1) ∧ w = mW cI b (va_up I 0 0) J (va_up F 3 (va_up (F 3) (tn x) (F 3 (tn x) + 1))) (va_up G0 0 (upd (G0 0) (1600 * tn x + F 3 (tn x)) v)))) := by
  refine Ki.mk (cc := cX7_word) (maxL := 3) (rt := .int) (own := RX7) (by decide) rfl rfl (Nat.le_of_ble_eq_true rfl) ?_
  intro p e s m below meth c A Q ls C hname hA G hl RET
  obtain ⟨⟨hx, hb, hml, hown, hts⟩, hK, hN⟩ := id C
  have hl : lv_has ls 3 [(0, .ref (b 0)), (1, .int (x)), (2, .int (v))] := hl
  have hX7 : ∀ w ∈ u_ws RX7 TX7 30, w ∈ wsX7_word := by decide +kernel
  refine lv_aload_n hx hb dX7_word_0 rfl (lv_at hl 0 rfl) ?_
  refine lv_iconst (v := (nI (0))) hx hb dX7_word_1 (by decide) ?_
  refine r_put (ws' := mW cI b (va_up I 0 0) J F G0) C G hX7 tyX7_ok nmX7 0 rfl rfl 0 (by decide) (by decide +kernel) rfl rfl rfl (Nat.le_of_ble_eq_true rfl) dX7_word_2 rfl (fun H locs G => ?_)
  refine lv_aload_n hx hb dX7_word_5 rfl (lv_at hl 0 rfl) ?_
  refine lv_iload_n hx hb dX7_word_6 rfl (lv_at hl 1 rfl) ?_
  refine r_ai G hA (r_rV (na := 1) (As := [.int (x)]) (rest := []) C G (c_X7_isRow l D cI cO cL b (va_up I 0 0) J F G0 x h1) gX7_word_X7_isRow rfl (by decide +kernel) ⟨Nat.le_of_ble_eq_true rfl, Nat.le_of_ble_eq_true rfl⟩ 0 rfl rfl rfl hl.1 rfl (Nat.le_of_ble_eq_true rfl) dX7_word_7 ⟨by first | (simp only []; omega) | decide, by first | (simp only []; omega) | decide⟩) (fun r7 w7 H locs hp7 G => ?_)
  rcases hp7 with ⟨rfl, rfl, hi7⟩ | ⟨rfl, rfl, hi7⟩
  · skip
    replace hi7 : 0 ≤ (x).toInt ∧ (x).toInt < I 1 := hi7
    refine lv_if_eq (tgt := 22) hx hb dX7_word_10 (by decide) (fun c10 => ?_) (fun c10 => ?_)
    · skip
      exact absurd c10 (by decide)
    · skip
      obtain ⟨x1, hx1, ex1, rfl⟩ := nat_of (x := x) (by omega)
      have hLx := hL x1 (by omega)
      have hKx := hKd x1 (by omega)
      refine lv_aload_n hx hb dX7_word_13 rfl (lv_at hl 0 rfl) ?_
      refine r_get (v := .ref (b 1)) C G hX7 0 rfl rfl 4 (by decide) (by decide +kernel) rfl dX7_word_14 ?_
      refine lv_iload_n hx hb dX7_word_17 rfl (lv_at hl 1 rfl) ?_
      refine r_iald (v := nI ((F 0) x1)) C G 1 0 rfl rfl x1 rfl (by omega) (by omega) rfl dX7_word_18 ?_
      refine lv_if_eq (tgt := 24) hx hb dX7_word_19 (by decide) (fun c19 => ?_) (fun c19 => ?_)
      · skip
        replace c19 : (((F 0) x1 : Nat) : Int) = (0) := (cv_eq (nI_toInt (by omega)) (by decide)).mp c19
        refine lv_aload_n hx hb dX7_word_24 rfl (lv_at hl 0 rfl) ?_
        refine r_get (v := .ref (b 4)) C G hX7 0 rfl rfl 7 (by decide) (by decide +kernel) rfl dX7_word_25 ?_
        refine lv_iload_n hx hb dX7_word_28 rfl (lv_at hl 1 rfl) ?_
        refine r_iald (v := nI ((F 3) x1)) C G 4 0 rfl rfl x1 rfl (by omega) (by omega) rfl dX7_word_29 ?_
        refine lv_bipush (v := (nI (40))) hx hb dX7_word_30 (by decide) ?_
        refine lv_icmp_ne (tgt := 38) hx hb dX7_word_32 (by decide) (fun c32 => ?_) (fun c32 => ?_)
        · skip
          replace c32 : ¬ (((F 3) x1 : Nat) : Int) = ((40 : Nat) : Int) := fun h => c32 ((cv_eq (nI_toInt (by omega)) (nI_toInt (by omega))).mpr h)
          have hWx := hWd x1 (by omega) (by omega)
          refine lv_aload_n hx hb dX7_word_38 rfl (lv_at hl 0 rfl) ?_
          refine r_get (v := .ref (b 7)) C G hX7 0 rfl rfl 10 (by decide) (by decide +kernel) rfl dX7_word_39 ?_
          refine lv_sipush (v := (nI (1600))) hx hb dX7_word_42 (by decide) ?_
          refine lv_iload_n hx hb dX7_word_45 rfl (lv_at hl 1 rfl) ?_
          refine r_imul hx hb dX7_word_46 ?_
          refine lv_aload_n hx hb dX7_word_47 rfl (lv_at hl 0 rfl) ?_
          refine r_get (v := .ref (b 4)) C G hX7 0 rfl rfl 7 (by decide) (by decide +kernel) rfl dX7_word_48 ?_
          refine lv_iload_n hx hb dX7_word_51 rfl (lv_at hl 1 rfl) ?_
          refine r_iald (v := nI ((F 3) x1)) C G 4 0 rfl rfl x1 rfl (by omega) (by omega) rfl dX7_word_52 ?_
          refine r_iadd hx hb dX7_word_53 ?_
          refine lv_iload_n hx hb dX7_word_54 rfl (lv_at hl 2 rfl) ?_
          refine r_iast (ws' := mW cI b (va_up I 0 0) J F (va_up G0 0 (upd (G0 0) ((1600 * x1) + ((F 3) x1)) v))) C G 7 0 rfl rfl ((1600 * x1) + ((F 3) x1)) rfl (by omega) (by omega) rfl dX7_word_55 rfl (fun H locs G => ?_)
          refine lv_aload_n hx hb dX7_word_56 rfl (lv_at hl 0 rfl) ?_
          refine r_get (v := .ref (b 4)) C G hX7 0 rfl rfl 7 (by decide) (by decide +kernel) rfl dX7_word_57 ?_
          refine lv_iload_n hx hb dX7_word_60 rfl (lv_at hl 1 rfl) ?_
          refine lv_dup2_11 hx hb dX7_word_61 rfl rfl ?_
          refine r_iald (v := nI ((F 3) x1)) C G 4 0 rfl rfl x1 rfl (by omega) (by omega) rfl dX7_word_62 ?_
          refine lv_iconst (v := (nI (1))) hx hb dX7_word_63 (by decide) ?_
          refine r_iadd hx hb dX7_word_64 ?_
          refine r_iast (ws' := mW cI b (va_up I 0 0) J (va_up F 3 (va_up (F 3) x1 (((F 3) x1) + 1))) (va_up G0 0 (upd (G0 0) ((1600 * x1) + ((F 3) x1)) v))) C G 4 0 rfl rfl x1 rfl (by omega) (by omega) (nI_upd _ _ _) dX7_word_65 rfl (fun H locs G => ?_)
          refine lv_aload_n hx hb dX7_word_66 rfl (lv_at hl 0 rfl) ?_
          refine r_get (v := .ref (b 4)) C G hX7 0 rfl rfl 7 (by decide) (by decide +kernel) rfl dX7_word_67 ?_
          refine lv_iload_n hx hb dX7_word_70 rfl (lv_at hl 1 rfl) ?_
          refine r_iald (v := nI ((va_up (F 3) x1 (((F 3) x1) + 1)) x1)) C G 4 0 rfl rfl x1 rfl (by omega) (by omega) rfl dX7_word_71 ?_
          exact RET (nI ((va_up (F 3) x1 (((F 3) x1) + 1)) x1)) (mW cI b (va_up I 0 0) J (va_up F 3 (va_up (F 3) x1 (((F 3) x1) + 1))) (va_up G0 0 (upd (G0 0) ((1600 * x1) + ((F 3) x1)) v))) _ _ ls _ _ _ (by rw [tn_nI hx1]; exact Or.inr (Or.inr (Or.inr (⟨by omega, by omega, by omega, by rw [up_same], rfl⟩)))) G (by first | (simp only []; omega) | decide) (by first | (simp only []; omega) | decide) rfl dX7_word_72
        · skip
          replace c32 : (((F 3) x1 : Nat) : Int) = ((40 : Nat) : Int) := (cv_eq (nI_toInt (by omega)) (nI_toInt (by omega))).mp c32
          refine lv_bipush (v := ((-2))) hx hb dX7_word_35 (by decide) ?_
          exact RET ((-2)) (mW cI b (va_up I 0 0) J F G0) _ _ ls _ _ _ (by rw [tn_nI hx1]; exact Or.inr (Or.inr (Or.inl (⟨by omega, by omega, by omega, rfl, rfl⟩)))) G (by first | (simp only []; omega) | decide) (by first | (simp only []; omega) | decide) rfl dX7_word_37
      · skip
        replace c19 : ¬ (((F 0) x1 : Nat) : Int) = (0) := fun h => c19 ((cv_eq (nI_toInt (by omega)) (by decide)).mpr h)
        refine lv_iconst (v := ((-1))) hx hb dX7_word_22 (by decide) ?_
        exact RET ((-1)) (mW cI b (va_up I 0 0) J F G0) _ _ ls _ _ _ (by rw [tn_nI hx1]; exact Or.inr (Or.inl (⟨by omega, by omega, rfl, rfl⟩))) G (by first | (simp only []; omega) | decide) (by first | (simp only []; omega) | decide) rfl dX7_word_23
  · skip
    replace hi7 : ¬ (0 ≤ (x).toInt ∧ (x).toInt < I 1) := hi7
    refine lv_if_eq (tgt := 22) hx hb dX7_word_10 (by decide) (fun c10 => ?_) (fun c10 => ?_)
    · skip
      refine lv_iconst (v := ((-1))) hx hb dX7_word_22 (by decide) ?_
      exact RET ((-1)) (mW cI b (va_up I 0 0) J F G0) _ _ ls _ _ _ (Or.inl (⟨by omega, rfl, rfl⟩)) G (by first | (simp only []; omega) | decide) (by first | (simp only []; omega) | decide) rfl dX7_word_23
    · skip
      exact absurd c10 (by decide)
def pb (v : Int64) (i : Nat) : Int32 := (ush v (56 - 8 * i) &&& 255).toInt32
def pnt (o : Nat) (v : Int64) (k : Nat) (g : Nat → Int32) : Nat → Int32 := fun q => if o ≤ q ∧ q < o + k then pb v (q - o) else g q
theorem pnt_0 (o : Nat) (v : Int64) (g : Nat → Int32) : pnt o v 0 g = g := by
  funext i; unfold pnt; rw [if_neg (by omega)]
theorem pnt_s (o : Nat) (v : Int64) (k : Nat) (g : Nat → Int32) : upd (pnt o v k g) (o + k) (pb v k) = pnt o v (k + 1) g := by
  funext i; unfold upd pnt
  by_cases h : i = o + k
  · subst h; rw [if_pos rfl, if_pos (by omega), Nat.add_sub_cancel_left]
  · rw [if_neg h]
    by_cases h2 : o ≤ i ∧ i < o + k
    · rw [if_pos h2, if_pos (by omega)]
    · rw [if_neg h2, if_neg (by omega)]
set_option maxHeartbeats 4000000 in
set_option maxRecDepth 100000 in
theorem c_X7_paint (l : Launch) (D : va_G) (cI cO cL : ClassId) (b : Nat → Nat) (I : Nat → Nat) (J : Nat → Int64) (F : Nat → Nat → Nat) (G0 : Nat → Nat → Int32) (x y : Int32) (v : Int64) (h1 : I 1 ≤ 60) (hL : ∀ j, j < I 1 → F 3 j ≤ 1600) (hKd : ∀ j, j < I 1 → F 0 j ≤ 2) : Ki l yX7_paint wsX7_paint { frames := 2, cells := 0, slots := 0, locals := 46 } D (TY cI cO cL) [.ref (b 0), .int (x), .int (y), .long (v)] (mW cI b I J F G0) (fun r w => (¬ (0 ≤ x.toInt ∧ x.toInt < I 1) ∧ r = -1 ∧ w = mW cI b (va_up I 0 0) J F G0) ∨ ((0 ≤ x.toInt ∧ x.toInt < I 1) ∧ F 0 (tn x) ≠ 1 ∧ r = -1 ∧ w = mW cI b (va_up I 0 0) J F G0) ∨ ((0 ≤ x.toInt ∧ x.toInt < I 1) ∧ F 0 (tn x) = 1 ∧ ¬ (0 ≤ y.toInt ∧ y.toInt < F 3 (tn x)) ∧ r = -1 ∧ w = mW cI b (va_up I 0 0) J F G0) ∨ ((0 ≤ x.toInt ∧ x.toInt < I 1) ∧ F 0 (tn x) = 1 ∧ (0 ≤ y.toInt ∧ y.toInt < F 3 (tn x)) ∧ r = 1 ∧ w = mW cI b (va_up I 0 0) J F (va_up G0 0 (pnt (1600 * tn x + tn y) v (min 8 (F 3 (tn x) - tn y)) (G0 0))))) := by
  refine Ki.mk (cc := cX7_paint) (maxL := 6) (rt := .int) (own := RX7) (by decide) rfl rfl (Nat.le_of_ble_eq_true rfl) ?_
  intro p e s m below meth c A Q ls C hname hA G hl RET
  obtain ⟨⟨hx, hb, hml, hown, hts⟩, hK, hN⟩ := id C
  have hl : lv_has ls 6 [(0, .ref (b 0)), (1, .int (x)), (2, .int (y)), (3, .long (v))] := hl
  have hX7 : ∀ w ∈ u_ws RX7 TX7 30, w ∈ wsX7_paint := by decide +kernel
  refine lv_aload_n hx hb dX7_paint_0 rfl (lv_at hl 0 rfl) ?_
  refine lv_iconst (v := (nI (0))) hx hb dX7_paint_1 (by decide) ?_
  refine r_put (ws' := mW cI b (va_up I 0 0) J F G0) C G hX7 tyX7_ok nmX7 0 rfl rfl 0 (by decide) (by decide +kernel) rfl rfl rfl (Nat.le_of_ble_eq_true rfl) dX7_paint_2 rfl (fun H locs G => ?_)
  refine lv_aload_n hx hb dX7_paint_5 rfl (lv_at hl 0 rfl) ?_
  refine lv_iload_n hx hb dX7_paint_6 rfl (lv_at hl 1 rfl) ?_
  refine r_ai G hA (r_rV (na := 1) (As := [.int (x)]) (rest := []) C G (c_X7_isRow l D cI cO cL b (va_up I 0 0) J F G0 x h1) gX7_paint_X7_isRow rfl (by decide +kernel) ⟨Nat.le_of_ble_eq_true rfl, Nat.le_of_ble_eq_true rfl⟩ 0 rfl rfl rfl hl.1 rfl (Nat.le_of_ble_eq_true rfl) dX7_paint_7 ⟨by first | (simp only []; omega) | decide, by first | (simp only []; omega) | decide⟩) (fun r7 w7 H locs hp7 G => ?_)
  rcases hp7 with ⟨rfl, rfl, hi7⟩ | ⟨rfl, rfl, hi7⟩
  · skip
    replace hi7 : 0 ≤ (x).toInt ∧ (x).toInt < I 1 := hi7
    refine lv_if_eq (tgt := 41) hx hb dX7_paint_10 (by decide) (fun c10 => ?_) (fun c10 => ?_)
    · skip
      exact absurd c10 (by decide)
    · skip
      obtain ⟨x1, hx1, ex1, rfl⟩ := nat_of (x := x) (by omega)
      have hLx := hL x1 (by omega)
      have hKx := hKd x1 (by omega)
      refine lv_aload_n hx hb dX7_paint_13 rfl (lv_at hl 0 rfl) ?_
      refine r_get (v := .ref (b 1)) C G hX7 0 rfl rfl 4 (by decide) (by decide +kernel) rfl dX7_paint_14 ?_
      refine lv_iload_n hx hb dX7_paint_17 rfl (lv_at hl 1 rfl) ?_
      refine r_iald (v := nI ((F 0) x1)) C G 1 0 rfl rfl x1 rfl (by omega) (by omega) rfl dX7_paint_18 ?_
      refine lv_iconst (v := (nI (1))) hx hb dX7_paint_19 (by decide) ?_
      refine lv_icmp_ne (tgt := 41) hx hb dX7_paint_20 (by decide) (fun c20 => ?_) (fun c20 => ?_)
      · skip
        replace c20 : ¬ (((F 0) x1 : Nat) : Int) = ((1 : Nat) : Int) := fun h => c20 ((cv_eq (nI_toInt (by omega)) (nI_toInt (by omega))).mpr h)
        refine lv_iconst (v := ((-1))) hx hb dX7_paint_41 (by decide) ?_
        exact RET ((-1)) (mW cI b (va_up I 0 0) J F G0) _ _ ls _ _ _ (by rw [tn_nI hx1]; exact Or.inr (Or.inl (⟨by omega, by omega, rfl, rfl⟩))) G (by first | (simp only []; omega) | decide) (by first | (simp only []; omega) | decide) rfl dX7_paint_42
      · skip
        replace c20 : (((F 0) x1 : Nat) : Int) = ((1 : Nat) : Int) := (cv_eq (nI_toInt (by omega)) (nI_toInt (by omega))).mp c20
        refine lv_iload_n hx hb dX7_paint_23 rfl (lv_at hl 2 rfl) ?_
        refine lv_i2l hx hb dX7_paint_24 rfl ?_
        refine lv_lconst (v := 0) hx hb dX7_paint_25 (by decide) ?_
        refine lv_aload_n hx hb dX7_paint_26 rfl (lv_at hl 0 rfl) ?_
        refine r_get (v := .ref (b 4)) C G hX7 0 rfl rfl 7 (by decide) (by decide +kernel) rfl dX7_paint_27 ?_
        refine lv_iload_n hx hb dX7_paint_30 rfl (lv_at hl 1 rfl) ?_
        refine r_iald (v := nI ((F 3) x1)) C G 4 0 rfl rfl x1 rfl (by omega) (by omega) rfl dX7_paint_31 ?_
        refine lv_iconst (v := (nI (1))) hx hb dX7_paint_32 (by decide) ?_
        refine lv_isub hx hb dX7_paint_33 ?_
        refine lv_i2l hx hb dX7_paint_34 rfl ?_
        refine r_ai G hA (r_rS (na := 3) (As := [.long (y.toInt64), .long (0), .long ((nI ((F 3) x1) - nI (1)).toInt64)]) (rest := []) C G (c_X7_in l D cI cO cL (mW cI b (va_up I 0 0) J F G0) y.toInt64 0 ((nI ((F 3) x1) - nI (1)).toInt64) ((y).toInt) ((0)) ((((F 3) x1 : Nat) : Int) - ((1 : Nat) : Int)) ((i2l_ti rfl)) ((by decide)) ((i2l_ti (pk_sub_toInt (by omega) (by omega))))) gX7_paint_X7_in rfl (by decide +kernel) ⟨Nat.le_of_ble_eq_true rfl, Nat.le_of_ble_eq_true rfl⟩ rfl hl.1 rfl (Nat.le_of_ble_eq_true rfl) dX7_paint_35 ⟨by first | (simp only []; omega) | decide, by first | (simp only []; omega) | decide⟩) (fun r35 w35 H locs hp35 G => ?_)
        rcases hp35 with ⟨rfl, rfl, hi35⟩ | ⟨rfl, rfl, hi35⟩
        · skip
          refine lv_if_ne (tgt := 43) hx hb dX7_paint_38 (by decide) (fun c38 => ?_) (fun c38 => ?_)
          · skip
            obtain ⟨y1, hy1, ey1, rfl⟩ := nat_of (x := y) (by omega)
            refine lv_iconst (v := (nI (0))) hx hb dX7_paint_43 (by decide) ?_
            refine lv_istore (lv' := [(5, .int (nI (0))), (0, .ref (b 0)), (1, .int (nI (x1))), (2, .int (nI (y1))), (3, .long (v))]) hx hb dX7_paint_44 hl (by decide) rfl (fun ls hl => ?_)
            have lp46 : ∀ (fuel46 : Nat) (i : Nat) (hm : 8 - i < fuel46) (hi : i ≤ 8) (hi2 : i ≤ F 3 x1 - y1) (H : Heap) (locs : List Loc) (ls : Array Slot), Wd A s.heap D (mW cI b (va_up I 0 0) J F (va_up G0 0 (pnt (1600 * x1 + y1) v i (G0 0)))) H locs → lv_has ls 6 [(0, .ref (b 0)), (1, .int (nI (x1))), (2, .int (nI (y1))), (3, .long (v)), (5, .int (nI (i)))] → W p l e ({ frames := 2, cells := 0, slots := 0, locals := 46 } : Room) s m ([.ref (b 0), .int (nI (x1)), .int (nI (y1)), .long (v)] : List Value).toArray below meth c H locs 0 0 Q (F0 m 46 ls []) := by
              intro fuel46
              induction fuel46 with
              | zero => intro i hm hi hi2; exact absurd hm (by omega)
              | succ fuel46 ih46 =>
                intro i hm hi hi2 H locs ls G hl
                refine lv_iload hx hb dX7_paint_46 (lv_at hl 4 rfl) ?_
                refine lv_bipush (v := (nI (8))) hx hb dX7_paint_48 (by decide) ?_
                refine lv_icmp_ge (tgt := 102) hx hb dX7_paint_50 (by decide) (fun c50 => ?_) (fun c50 => ?_)
                · skip
                  replace c50 : ((8 : Nat) : Int) ≤ ((i : Nat) : Int) := (cv_le (nI_toInt (by omega)) (nI_toInt (by omega))).mp c50
                  refine lv_iconst (v := (nI (1))) hx hb dX7_paint_102 (by decide) ?_
                  exact RET (nI (1)) (mW cI b (va_up I 0 0) J F (va_up G0 0 (pnt (1600 * x1 + y1) v i (G0 0)))) _ _ ls _ _ _ (by rw [tn_nI hx1, tn_nI hy1]; exact Or.inr (Or.inr (Or.inr (⟨by omega, by omega, by omega, rfl, by obtain rfl : i = min 8 (F 3 x1 - y1) := (by omega); rfl⟩)))) G (by first | (simp only []; omega) | decide) (by first | (simp only []; omega) | decide) rfl dX7_paint_103
                · skip
                  replace c50 : ((i : Nat) : Int) < ((8 : Nat) : Int) := Int.not_le.mp (fun h => c50 ((cv_le (nI_toInt (by omega)) (nI_toInt (by omega))).mpr h))
                  refine lv_iload_n hx hb dX7_paint_53 rfl (lv_at hl 2 rfl) ?_
                  refine lv_iload hx hb dX7_paint_54 (lv_at hl 4 rfl) ?_
                  refine r_iadd hx hb dX7_paint_56 ?_
                  refine lv_aload_n hx hb dX7_paint_57 rfl (lv_at hl 0 rfl) ?_
                  refine r_get (v := .ref (b 4)) C G hX7 0 rfl rfl 7 (by decide) (by decide +kernel) rfl dX7_paint_58 ?_
                  refine lv_iload_n hx hb dX7_paint_61 rfl (lv_at hl 1 rfl) ?_
                  refine r_iald (v := nI ((F 3) x1)) C G 4 0 rfl rfl x1 rfl (by omega) (by omega) rfl dX7_paint_62 ?_
                  refine lv_icmp_ge (tgt := 102) hx hb dX7_paint_63 (by decide) (fun c63 => ?_) (fun c63 => ?_)
                  · skip
                    replace c63 : (((F 3) x1 : Nat) : Int) ≤ ((y1 + i : Nat) : Int) := (cv_le (nI_toInt (by omega)) (nI_toInt (by omega))).mp c63
                    refine lv_iconst (v := (nI (1))) hx hb dX7_paint_102 (by decide) ?_
                    exact RET (nI (1)) (mW cI b (va_up I 0 0) J F (va_up G0 0 (pnt (1600 * x1 + y1) v i (G0 0)))) _ _ ls _ _ _ (by rw [tn_nI hx1, tn_nI hy1]; exact Or.inr (Or.inr (Or.inr (⟨by omega, by omega, by omega, rfl, by obtain rfl : i = min 8 (F 3 x1 - y1) := (by omega); rfl⟩)))) G (by first | (simp only []; omega) | decide) (by first | (simp only []; omega) | decide) rfl dX7_paint_103
                  · skip
                    replace c63 : ((y1 + i : Nat) : Int) < (((F 3) x1 : Nat) : Int) := Int.not_le.mp (fun h => c63 ((cv_le (nI_toInt (by omega)) (nI_toInt (by omega))).mpr h))
                    refine lv_aload_n hx hb dX7_paint_66 rfl (lv_at hl 0 rfl) ?_
                    refine r_get (v := .ref (b 7)) C G hX7 0 rfl rfl 10 (by decide) (by decide +kernel) rfl dX7_paint_67 ?_
                    refine lv_sipush (v := (nI (1600))) hx hb dX7_paint_70 (by decide) ?_
                    refine lv_iload_n hx hb dX7_paint_73 rfl (lv_at hl 1 rfl) ?_
                    refine r_imul hx hb dX7_paint_74 ?_
                    refine lv_iload_n hx hb dX7_paint_75 rfl (lv_at hl 2 rfl) ?_
                    refine r_iadd hx hb dX7_paint_76 ?_
                    refine lv_iload hx hb dX7_paint_77 (lv_at hl 4 rfl) ?_
                    refine r_iadd hx hb dX7_paint_79 ?_
                    refine lv_lload_n hx hb dX7_paint_80 rfl (lv_at hl 3 rfl) ?_
                    refine lv_bipush (v := (nI (56))) hx hb dX7_paint_81 (by decide) ?_
                    refine lv_bipush (v := (nI (8))) hx hb dX7_paint_83 (by decide) ?_
                    refine lv_iload hx hb dX7_paint_85 (lv_at hl 4 rfl) ?_
                    refine r_imul hx hb dX7_paint_87 ?_
                    refine r_isub hx hb (by omega) dX7_paint_88 ?_
                    refine lv_lushr (v := ush v (56 - (8 * i))) hx hb dX7_paint_89 rfl ?_
                    refine lv_ldc2 (v := (255)) hx hb hown (hts (.constantLong RX7 114 (255)) (by decide +kernel)) dX7_paint_90 ?_
                    refine lv_land hx hb dX7_paint_93 ?_
                    refine lv_l2i hx hb dX7_paint_94 rfl ?_
                    refine r_top (y := pb v i) rfl ?_
                    refine r_iast (ws' := mW cI b (va_up I 0 0) J F (va_up G0 0 (pnt (1600 * x1 + y1) v (i + 1) (G0 0)))) C G 7 0 rfl rfl (((1600 * x1) + y1) + i) rfl (by omega) (by omega) (pnt_s _ _ _ _) dX7_paint_95 rfl (fun H locs G => ?_)
                    refine lv_iinc (v := nI (i + 1)) (lv' := [(5, .int (nI (i + 1))), (0, .ref (b 0)), (1, .int (nI (x1))), (2, .int (nI (y1))), (3, .long (v))]) hx hb dX7_paint_96 hl (k := 4) rfl (inc_n _ 1) (by decide) rfl (fun ls hl => ?_)
                    refine lv_goto (tgt := 46) hx hb dX7_paint_99 (by decide) ?_
                    exact ih46 (i + 1) (by omega) (by omega) (by omega) _ _ _ (G.eq (rfl)) (lv_sub hl [1, 2, 3, 4, 0] rfl)
            exact lp46 9 0 (by omega) (by omega) (by omega) _ _ _ (G.eq (by rw [pnt_0]; rfl)) (lv_sub hl [1, 2, 3, 4, 0] rfl)
          · skip
            exact absurd c38 (by decide)
        · skip
          refine lv_if_ne (tgt := 43) hx hb dX7_paint_38 (by decide) (fun c38 => ?_) (fun c38 => ?_)
          · skip
            exact absurd c38 (by decide)
          · skip
            refine lv_iconst (v := ((-1))) hx hb dX7_paint_41 (by decide) ?_
            exact RET ((-1)) (mW cI b (va_up I 0 0) J F G0) _ _ ls _ _ _ (by rw [tn_nI hx1]; exact Or.inr (Or.inr (Or.inl (⟨by omega, by omega, by omega, rfl, rfl⟩)))) G (by first | (simp only []; omega) | decide) (by first | (simp only []; omega) | decide) rfl dX7_paint_42
  · skip
    replace hi7 : ¬ (0 ≤ (x).toInt ∧ (x).toInt < I 1) := hi7
    refine lv_if_eq (tgt := 41) hx hb dX7_paint_10 (by decide) (fun c10 => ?_) (fun c10 => ?_)
    · skip
      refine lv_iconst (v := ((-1))) hx hb dX7_paint_41 (by decide) ?_
      exact RET ((-1)) (mW cI b (va_up I 0 0) J F G0) _ _ ls _ _ _ (Or.inl (⟨by omega, rfl, rfl⟩)) G (by first | (simp only []; omega) | decide) (by first | (simp only []; omega) | decide) rfl dX7_paint_42
    · skip
      exact absurd c10 (by decide)
