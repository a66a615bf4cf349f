set_option maxHeartbeats 4000000 in
set_option maxRecDepth 100000 in
theorem c_X7_row (l : Launch) (D : va_G) (cI cO cL : ClassId) (b : Nat → Nat) (I : Nat → Nat) (J : Nat → Int64) (F : Nat → Nat → Nat) (G0 : Nat → Nat → Int32) (kd lb wt : Int32) (h1 : I 1 ≤ 60) : Ki l yX7_row wsX7_row { frames := 2, cells := 0, slots := 0, locals := 51 } D (TY cI cO cL) [.ref (b 0), .int (kd), .int (lb), .int (wt)] (mW cI b I J F G0) (fun r w => (¬ ((kd.toInt = 0 ∨ kd.toInt = 2) ∧ 0 ≤ lb.toInt ∧ lb.toInt ≤ 7 ∧ 0 ≤ wt.toInt ∧ wt.toInt ≤ 1000) ∧ r = -1 ∧ w = mW cI b (va_up I 0 0) J F G0) ∨ (((kd.toInt = 0 ∨ kd.toInt = 2) ∧ 0 ≤ lb.toInt ∧ lb.toInt ≤ 7 ∧ 0 ≤ wt.toInt ∧ wt.toInt ≤ 1000) ∧ I 1 = 60 ∧ r = -2 ∧ w = mW cI b (va_up I 0 0) J F G0) ∨ (∃ kd1 lb1 wt1 : Nat, kd = nI kd1 ∧ lb = nI lb1 ∧ wt = nI wt1 ∧ (kd1 = 0 ∨ kd1 = 2) ∧ lb1 ≤ 7 ∧ wt1 ≤ 1000 ∧ I 1 < 60 ∧ r = nI (I 1) ∧ w = mW cI b (va_up (va_up I 0 0) 1 (I 1 + 1)) J (va_up (va_up (va_up (va_up (va_up (va_up F 0 (va_up (F 0) (I 1) kd1)) 1 (va_up (F 1) (I 1) lb1)) 2 (va_up (F 2) (I 1) wt1)) 3 (va_up (F 3) (I 1) (0 * 0))) 4 (va_up (F 4) (I 1) 0)) 5 (va_up (F 5) (I 1) 0)) (va_up G0 0 (zr (1600 * I 1) 1600 (G0 0))))) := by
  refine Ki.mk (cc := cX7_row) (maxL := 4) (rt := .int) (own := RX7) (by decide) rfl rfl (Nat.le_of_ble_eq_true rfl) ?_
  intro p e s m below meth c A Q ls C hname hA G hl RET
  obtain ⟨⟨hx, hb, hml, hown, hts⟩, hK, hN⟩ := id C
  have hl : lv_has ls 4 [(0, .ref (b 0)), (1, .int (kd)), (2, .int (lb)), (3, .int (wt))] := hl
  have hX7 : ∀ w ∈ u_ws RX7 TX7 30, w ∈ wsX7_row := by decide +kernel
  refine lv_aload_n hx hb dX7_row_0 rfl (lv_at hl 0 rfl) ?_
  refine lv_iconst (v := (nI (0))) hx hb dX7_row_1 (by decide) ?_
  refine r_put (ws' := mW cI b (va_up I 0 0) J F G0) C G hX7 tyX7_ok nmX7 0 rfl rfl 0 (by decide) (by decide +kernel) rfl rfl rfl (Nat.le_of_ble_eq_true rfl) dX7_row_2 rfl (fun H locs G => ?_)
  refine lv_iload_n hx hb dX7_row_5 rfl (lv_at hl 1 rfl) ?_
  refine lv_if_eq (tgt := 18) hx hb dX7_row_6 (by decide) (fun c6 => ?_) (fun c6 => ?_)
  · skip
    replace c6 : (kd).toInt = (0) := (cv_eq rfl (by decide)).mp c6
    obtain rfl : kd = nI 0 := eq_lit (by omega) (by omega)
    refine lv_aload_n hx hb dX7_row_18 rfl (lv_at hl 0 rfl) ?_
    refine lv_iload_n hx hb dX7_row_19 rfl (lv_at hl 1 rfl) ?_
    refine lv_iload_n hx hb dX7_row_20 rfl (lv_at hl 2 rfl) ?_
    refine lv_iload_n hx hb dX7_row_21 rfl (lv_at hl 3 rfl) ?_
    refine lv_iconst (v := (nI (0))) hx hb dX7_row_22 (by decide) ?_
    refine lv_iconst (v := (nI (0))) hx hb dX7_row_23 (by decide) ?_
    refine r_ai G hA (r_rV (na := 5) (As := [.int (nI (0)), .int (lb), .int (wt), .int (nI (0)), .int (nI (0))]) (rest := []) C G (c_X7_comes l D cI cO cL b (va_up I 0 0) J F G0 0 0 0 lb wt h1 (by omega) (by omega) (by decide)) gX7_row_X7_comes rfl (by decide +kernel) ⟨Nat.le_of_ble_eq_true rfl, Nat.le_of_ble_eq_true rfl⟩ 0 rfl rfl rfl hl.1 rfl (Nat.le_of_ble_eq_true rfl) dX7_row_24 ⟨by first | (simp only []; omega) | decide, by first | (simp only []; omega) | decide⟩) (fun r24 w24 H locs hp24 G => ?_)
    rcases hp24 with ⟨hb24, rfl, rfl⟩ | ⟨hb24, hf24, rfl, rfl⟩ | ⟨lb1, wt1, rfl, rfl, hlb, hwt, hlt, rfl, rfl⟩
    · skip
      exact RET ((-1)) (mW cI b (va_up I 0 0) J F G0) _ _ ls _ _ _ (Or.inl ⟨by omega, rfl, rfl⟩) G (by first | (simp only []; omega) | decide) (by first | (simp only []; omega) | decide) rfl dX7_row_27
    · skip
      exact RET ((-2)) (mW cI b (va_up I 0 0) J F G0) _ _ ls _ _ _ (Or.inr (Or.inl ⟨⟨by decide, by omega⟩, hf24, rfl, rfl⟩)) G (by first | (simp only []; omega) | decide) (by first | (simp only []; omega) | decide) rfl dX7_row_27
    · skip
      exact RET (nI (I 1)) (mW cI b (va_up (va_up I 0 0) 1 (I 1 + 1)) J (va_up (va_up (va_up (va_up (va_up (va_up F 0 (va_up (F 0) (I 1) 0)) 1 (va_up (F 1) (I 1) lb1)) 2 (va_up (F 2) (I 1) wt1)) 3 (va_up (F 3) (I 1) (0 * 0))) 4 (va_up (F 4) (I 1) 0)) 5 (va_up (F 5) (I 1) 0)) (va_up G0 0 (zr (1600 * (I 1)) 1600 (G0 0)))) _ _ ls _ _ _ (Or.inr (Or.inr ⟨0, lb1, wt1, rfl, rfl, rfl, by omega, hlb, hwt, hlt, rfl, rfl⟩)) G (by first | (simp only []; omega) | decide) (by first | (simp only []; omega) | decide) rfl dX7_row_27
  · skip
    replace c6 : ¬ (kd).toInt = (0) := fun h => c6 ((cv_eq rfl (by decide)).mpr h)
    refine lv_iload_n hx hb dX7_row_9 rfl (lv_at hl 1 rfl) ?_
    refine lv_iconst (v := (nI (2))) hx hb dX7_row_10 (by decide) ?_
    refine lv_icmp_eq (tgt := 18) hx hb dX7_row_11 (by decide) (fun c11 => ?_) (fun c11 => ?_)
    · skip
      replace c11 : (kd).toInt = ((2 : Nat) : Int) := (cv_eq rfl (nI_toInt (by omega))).mp c11
      obtain rfl : kd = nI 2 := eq_lit (by omega) (by omega)
      refine lv_aload_n hx hb dX7_row_18 rfl (lv_at hl 0 rfl) ?_
      refine lv_iload_n hx hb dX7_row_19 rfl (lv_at hl 1 rfl) ?_
      refine lv_iload_n hx hb dX7_row_20 rfl (lv_at hl 2 rfl) ?_
      refine lv_iload_n hx hb dX7_row_21 rfl (lv_at hl 3 rfl) ?_
      refine lv_iconst (v := (nI (0))) hx hb dX7_row_22 (by decide) ?_
      refine lv_iconst (v := (nI (0))) hx hb dX7_row_23 (by decide) ?_
      refine r_ai G hA (r_rV (na := 5) (As := [.int (nI (2)), .int (lb), .int (wt), .int (nI (0)), .int (nI (0))]) (rest := []) C G (c_X7_comes l D cI cO cL b (va_up I 0 0) J F G0 2 0 0 lb wt h1 (by omega) (by omega) (by decide)) gX7_row_X7_comes rfl (by decide +kernel) ⟨Nat.le_of_ble_eq_true rfl, Nat.le_of_ble_eq_true rfl⟩ 0 rfl rfl rfl hl.1 rfl (Nat.le_of_ble_eq_true rfl) dX7_row_24 ⟨by first | (simp only []; omega) | decide, by first | (simp only []; omega) | decide⟩) (fun r24 w24 H locs hp24 G => ?_)
      rcases hp24 with ⟨hb24, rfl, rfl⟩ | ⟨hb24, hf24, rfl, rfl⟩ | ⟨lb1, wt1, rfl, rfl, hlb, hwt, hlt, rfl, rfl⟩
      · skip
        exact RET ((-1)) (mW cI b (va_up I 0 0) J F G0) _ _ ls _ _ _ (Or.inl ⟨by omega, rfl, rfl⟩) G (by first | (simp only []; omega) | decide) (by first | (simp only []; omega) | decide) rfl dX7_row_27
      · skip
        exact RET ((-2)) (mW cI b (va_up I 0 0) J F G0) _ _ ls _ _ _ (Or.inr (Or.inl ⟨⟨by decide, by omega⟩, hf24, rfl, rfl⟩)) G (by first | (simp only []; omega) | decide) (by first | (simp only []; omega) | decide) rfl dX7_row_27
      · skip
        exact RET (nI (I 1)) (mW cI b (va_up (va_up I 0 0) 1 (I 1 + 1)) J (va_up (va_up (va_up (va_up (va_up (va_up F 0 (va_up (F 0) (I 1) 2)) 1 (va_up (F 1) (I 1) lb1)) 2 (va_up (F 2) (I 1) wt1)) 3 (va_up (F 3) (I 1) (0 * 0))) 4 (va_up (F 4) (I 1) 0)) 5 (va_up (F 5) (I 1) 0)) (va_up G0 0 (zr (1600 * (I 1)) 1600 (G0 0)))) _ _ ls _ _ _ (Or.inr (Or.inr ⟨2, lb1, wt1, rfl, rfl, rfl, by omega, hlb, hwt, hlt, rfl, rfl⟩)) G (by first | (simp only []; omega) | decide) (by first | (simp only []; omega) | decide) rfl dX7_row_27
    · skip
      replace c11 : ¬ (kd).toInt = ((2 : Nat) : Int) := fun h => c11 ((cv_eq rfl (nI_toInt (by omega))).mpr h)
      refine lv_iconst (v := ((-1))) hx hb dX7_row_14 (by decide) ?_
      refine lv_goto (tgt := 27) hx hb dX7_row_15 (by decide) ?_
      exact RET ((-1)) (mW cI b (va_up I 0 0) J F G0) _ _ ls _ _ _ (Or.inl ⟨by omega, rfl, rfl⟩) G (by first | (simp only []; omega) | decide) (by first | (simp only []; omega) | decide) rfl dX7_row_27
