set_option maxHeartbeats 4000000 in
set_option maxRecDepth 100000 in
theorem c_X7_mark (l : Launch) (D : va_G) (cI cO cL : ClassId) (b : Nat → Nat) (I : Nat → Nat) (J : Nat → Int64) (F : Nat → Nat → Nat) (G0 : Nat → Nat → Int32) (x lb wt : Int32) (h1 : I 1 ≤ 60) : Ki l yX7_mark wsX7_mark { frames := 2, cells := 0, slots := 0, locals := 46 } D (TY cI cO cL) [.ref (b 0), .int (x), .int (lb), .int (wt)] (mW cI b I J F G0) (fun r w => (¬ (0 ≤ x.toInt ∧ x.toInt < I 1 ∧ 0 ≤ lb.toInt ∧ lb.toInt ≤ 7 ∧ 0 ≤ wt.toInt ∧ wt.toInt ≤ 1000) ∧ r = -1 ∧ w = mW cI b (va_up I 0 0) J F G0) ∨ ((0 ≤ x.toInt ∧ x.toInt < I 1 ∧ 0 ≤ lb.toInt ∧ lb.toInt ≤ 7 ∧ 0 ≤ wt.toInt ∧ wt.toInt ≤ 1000) ∧ r = 1 ∧ w = mW cI b (va_up I 0 0) J (va_up (va_up F 1 (va_up (F 1) (tn x) (tn lb))) 2 (va_up (F 2) (tn x) (tn wt))) G0)) := by
  refine Ki.mk (cc := cX7_mark) (maxL := 4) (rt := .int) (own := RX7) (by decide) rfl rfl (Nat.le_of_ble_eq_true rfl) ?_
  intro p e s m below meth c A Q ls C hname hA G hl RET
  obtain ⟨⟨hx, hb, hml, hown, hts⟩, hK, hN⟩ := id C
  have hl : lv_has ls 4 [(0, .ref (b 0)), (1, .int (x)), (2, .int (lb)), (3, .int (wt))] := hl
  have hX7 : ∀ w ∈ u_ws RX7 TX7 30, w ∈ wsX7_mark := by decide +kernel
  refine lv_aload_n hx hb dX7_mark_0 rfl (lv_at hl 0 rfl) ?_
  refine lv_iconst (v := (nI (0))) hx hb dX7_mark_1 (by decide) ?_
  refine r_put (ws' := mW cI b (va_up I 0 0) J F G0) C G hX7 tyX7_ok nmX7 0 rfl rfl 0 (by decide) (by decide +kernel) rfl rfl rfl (Nat.le_of_ble_eq_true rfl) dX7_mark_2 rfl (fun H locs G => ?_)
  refine lv_aload_n hx hb dX7_mark_5 rfl (lv_at hl 0 rfl) ?_
  refine lv_iload_n hx hb dX7_mark_6 rfl (lv_at hl 1 rfl) ?_
  refine r_ai G hA (r_rV (na := 1) (As := [.int (x)]) (rest := []) C G (c_X7_isRow l D cI cO cL b (va_up I 0 0) J F G0 x h1) gX7_mark_X7_isRow rfl (by decide +kernel) ⟨Nat.le_of_ble_eq_true rfl, Nat.le_of_ble_eq_true rfl⟩ 0 rfl rfl rfl hl.1 rfl (Nat.le_of_ble_eq_true rfl) dX7_mark_7 ⟨by first | (simp only []; omega) | decide, by first | (simp only []; omega) | decide⟩) (fun r7 w7 H locs hp7 G => ?_)
  rcases hp7 with ⟨rfl, rfl, hi7⟩ | ⟨rfl, rfl, hi7⟩
  · skip
    replace hi7 : 0 ≤ (x).toInt ∧ (x).toInt < I 1 := hi7
    refine lv_if_eq (tgt := 37) hx hb dX7_mark_10 (by decide) (fun c10 => ?_) (fun c10 => ?_)
    · skip
      exact absurd c10 (by decide)
    · skip
      refine lv_iload_n hx hb dX7_mark_13 rfl (lv_at hl 2 rfl) ?_
      refine lv_i2l hx hb dX7_mark_14 rfl ?_
      refine lv_lconst (v := 0) hx hb dX7_mark_15 (by decide) ?_
      refine lv_ldc2 (v := (7)) hx hb hown (hts (.constantLong RX7 100 (7)) (by decide +kernel)) dX7_mark_16 ?_
      refine r_ai G hA (r_rS (na := 3) (As := [.long (lb.toInt64), .long (0), .long ((7))]) (rest := []) C G (c_X7_in l D cI cO cL (mW cI b (va_up I 0 0) J F G0) lb.toInt64 0 ((7)) ((lb).toInt) ((0)) ((7)) ((i2l_ti rfl)) ((by decide)) ((by decide))) gX7_mark_X7_in rfl (by decide +kernel) ⟨Nat.le_of_ble_eq_true rfl, Nat.le_of_ble_eq_true rfl⟩ rfl hl.1 rfl (Nat.le_of_ble_eq_true rfl) dX7_mark_19 ⟨by first | (simp only []; omega) | decide, by first | (simp only []; omega) | decide⟩) (fun r19 w19 H locs hp19 G => ?_)
      rcases hp19 with ⟨rfl, rfl, hi19⟩ | ⟨rfl, rfl, hi19⟩
      · skip
        refine lv_if_eq (tgt := 37) hx hb dX7_mark_22 (by decide) (fun c22 => ?_) (fun c22 => ?_)
        · skip
          exact absurd c22 (by decide)
        · skip
          refine lv_iload_n hx hb dX7_mark_25 rfl (lv_at hl 3 rfl) ?_
          refine lv_i2l hx hb dX7_mark_26 rfl ?_
          refine lv_lconst (v := 0) hx hb dX7_mark_27 (by decide) ?_
          refine lv_ldc2 (v := (1000)) hx hb hown (hts (.constantLong RX7 102 (1000)) (by decide +kernel)) dX7_mark_28 ?_
          refine r_ai G hA (r_rS (na := 3) (As := [.long (wt.toInt64), .long (0), .long ((1000))]) (rest := []) C G (c_X7_in l D cI cO cL (mW cI b (va_up I 0 0) J F G0) wt.toInt64 0 ((1000)) ((wt).toInt) ((0)) ((1000)) ((i2l_ti rfl)) ((by decide)) ((by decide))) gX7_mark_X7_in rfl (by decide +kernel) ⟨Nat.le_of_ble_eq_true rfl, Nat.le_of_ble_eq_true rfl⟩ rfl hl.1 rfl (Nat.le_of_ble_eq_true rfl) dX7_mark_31 ⟨by first | (simp only []; omega) | decide, by first | (simp only []; omega) | decide⟩) (fun r31 w31 H locs hp31 G => ?_)
          rcases hp31 with ⟨rfl, rfl, hi31⟩ | ⟨rfl, rfl, hi31⟩
          · skip
            refine lv_if_ne (tgt := 39) hx hb dX7_mark_34 (by decide) (fun c34 => ?_) (fun c34 => ?_)
            · skip
              obtain ⟨x1, hx1, ex1, rfl⟩ := nat_of (x := x) (by omega)
              obtain ⟨lb1, hlb1, elb1, rfl⟩ := nat_of (x := lb) (by omega)
              obtain ⟨wt1, hwt1, ewt1, rfl⟩ := nat_of (x := wt) (by omega)
              refine lv_aload_n hx hb dX7_mark_39 rfl (lv_at hl 0 rfl) ?_
              refine r_get (v := .ref (b 2)) C G hX7 0 rfl rfl 5 (by decide) (by decide +kernel) rfl dX7_mark_40 ?_
              refine lv_iload_n hx hb dX7_mark_43 rfl (lv_at hl 1 rfl) ?_
              refine lv_iload_n hx hb dX7_mark_44 rfl (lv_at hl 2 rfl) ?_
              refine r_iast (ws' := mW cI b (va_up I 0 0) J (va_up F 1 (va_up (F 1) x1 lb1)) G0) C G 2 0 rfl rfl x1 rfl (by omega) (by omega) (nI_upd _ _ _) dX7_mark_45 rfl (fun H locs G => ?_)
              refine lv_aload_n hx hb dX7_mark_46 rfl (lv_at hl 0 rfl) ?_
              refine r_get (v := .ref (b 3)) C G hX7 0 rfl rfl 6 (by decide) (by decide +kernel) rfl dX7_mark_47 ?_
              refine lv_iload_n hx hb dX7_mark_50 rfl (lv_at hl 1 rfl) ?_
              refine lv_iload_n hx hb dX7_mark_51 rfl (lv_at hl 3 rfl) ?_
              refine r_iast (ws' := mW cI b (va_up I 0 0) J (va_up (va_up F 1 (va_up (F 1) x1 lb1)) 2 (va_up (F 2) x1 wt1)) G0) C G 3 0 rfl rfl x1 rfl (by omega) (by omega) (nI_upd _ _ _) dX7_mark_52 rfl (fun H locs G => ?_)
              refine lv_iconst (v := (nI (1))) hx hb dX7_mark_53 (by decide) ?_
              exact RET (nI (1)) (mW cI b (va_up I 0 0) J (va_up (va_up F 1 (va_up (F 1) x1 lb1)) 2 (va_up (F 2) x1 wt1)) G0) _ _ ls _ _ _ (by rw [tn_nI hx1, tn_nI hlb1, tn_nI hwt1]; exact Or.inr (⟨by omega, rfl, rfl⟩)) G (by first | (simp only []; omega) | decide) (by first | (simp only []; omega) | decide) rfl dX7_mark_54
            · skip
              exact absurd c34 (by decide)
          · skip
            refine lv_if_ne (tgt := 39) hx hb dX7_mark_34 (by decide) (fun c34 => ?_) (fun c34 => ?_)
            · skip
              exact absurd c34 (by decide)
            · skip
              refine lv_iconst (v := ((-1))) hx hb dX7_mark_37 (by decide) ?_
              exact RET ((-1)) (mW cI b (va_up I 0 0) J F G0) _ _ ls _ _ _ (Or.inl (⟨by omega, rfl, rfl⟩)) G (by first | (simp only []; omega) | decide) (by first | (simp only []; omega) | decide) rfl dX7_mark_38
      · skip
        refine lv_if_eq (tgt := 37) hx hb dX7_mark_22 (by decide) (fun c22 => ?_) (fun c22 => ?_)
        · skip
          refine lv_iconst (v := ((-1))) hx hb dX7_mark_37 (by decide) ?_
          exact RET ((-1)) (mW cI b (va_up I 0 0) J F G0) _ _ ls _ _ _ (Or.inl (⟨by omega, rfl, rfl⟩)) G (by first | (simp only []; omega) | decide) (by first | (simp only []; omega) | decide) rfl dX7_mark_38
        · skip
          exact absurd c22 (by decide)
  · skip
    replace hi7 : ¬ (0 ≤ (x).toInt ∧ (x).toInt < I 1) := hi7
    refine lv_if_eq (tgt := 37) hx hb dX7_mark_10 (by decide) (fun c10 => ?_) (fun c10 => ?_)
    · skip
      refine lv_iconst (v := ((-1))) hx hb dX7_mark_37 (by decide) ?_
      exact RET ((-1)) (mW cI b (va_up I 0 0) J F G0) _ _ ls _ _ _ (Or.inl (⟨by omega, rfl, rfl⟩)) G (by first | (simp only []; omega) | decide) (by first | (simp only []; omega) | decide) rfl dX7_mark_38
    · skip
      exact absurd c10 (by decide)
set_option maxHeartbeats 4000000 in
set_option maxRecDepth 100000 in
theorem c_X7_of (l : Launch) (D : va_G) (cI cO cL : ClassId) (b : Nat → Nat) (I : Nat → Nat) (J : Nat → Int64) (F : Nat → Nat → Nat) (G0 : Nat → Nat → Int32) (x y : Int32) (h1 : I 1 ≤ 60) : Ki l yX7_of wsX7_of { frames := 2, cells := 0, slots := 0, locals := 46 } D (TY cI cO cL) [.ref (b 0), .int (x), .int (y)] (mW cI b I J F G0) (fun r w => (¬ (0 ≤ x.toInt ∧ x.toInt < I 1) ∧ r = -1 ∧ w = mW cI b (va_up I 0 0) J F G0) ∨ ((0 ≤ x.toInt ∧ x.toInt < I 1) ∧ y = nI 0 ∧ r = nI (F 0 (tn x)) ∧ w = mW cI b (va_up I 0 0) J F G0) ∨ ((0 ≤ x.toInt ∧ x.toInt < I 1) ∧ y = nI 1 ∧ r = nI (F 1 (tn x)) ∧ w = mW cI b (va_up I 0 0) J F G0) ∨ ((0 ≤ x.toInt ∧ x.toInt < I 1) ∧ y = nI 2 ∧ r = nI (F 2 (tn x)) ∧ w = mW cI b (va_up I 0 0) J F G0) ∨ ((0 ≤ x.toInt ∧ x.toInt < I 1) ∧ y = nI 3 ∧ r = nI (F 3 (tn x)) ∧ w = mW cI b (va_up I 0 0) J F G0) ∨ ((0 ≤ x.toInt ∧ x.toInt < I 1) ∧ y = nI 4 ∧ r = nI (F 4 (tn x)) ∧ w = mW cI b (va_up I 0 0) J F G0) ∨ ((0 ≤ x.toInt ∧ x.toInt < I 1) ∧ y = nI 5 ∧ r = nI (F 5 (tn x)) ∧ w = mW cI b (va_up I 0 0) J F G0) ∨ ((0 ≤ x.toInt ∧ x.toInt < I 1) ∧ (y.toInt < 0 ∨ 5 < y.toInt) ∧ r = -1 ∧ w = mW cI b (va_up I 0 0) J F G0)) := by
  refine Ki.mk (cc := cX7_of) (maxL := 3) (rt := .int) (own := RX7) (by decide) rfl rfl (Nat.le_of_ble_eq_true rfl) ?_
  intro p e s m below meth c A Q ls C hname hA G hl RET
  obtain ⟨⟨hx, hb, hml, hown, hts⟩, hK, hN⟩ := id C
  have hl : lv_has ls 3 [(0, .ref (b 0)), (1, .int (x)), (2, .int (y))] := hl
  have hX7 : ∀ w ∈ u_ws RX7 TX7 30, w ∈ wsX7_of := by decide +kernel
  refine lv_aload_n hx hb dX7_of_0 rfl (lv_at hl 0 rfl) ?_
  refine lv_iconst (v := (nI (0))) hx hb dX7_of_1 (by decide) ?_
  refine r_put (ws' := mW cI b (va_up I 0 0) J F G0) C G hX7 tyX7_ok nmX7 0 rfl rfl 0 (by decide) (by decide +kernel) rfl rfl rfl (Nat.le_of_ble_eq_true rfl) dX7_of_2 rfl (fun H locs G => ?_)
  refine lv_aload_n hx hb dX7_of_5 rfl (lv_at hl 0 rfl) ?_
  refine lv_iload_n hx hb dX7_of_6 rfl (lv_at hl 1 rfl) ?_
  refine r_ai G hA (r_rV (na := 1) (As := [.int (x)]) (rest := []) C G (c_X7_isRow l D cI cO cL b (va_up I 0 0) J F G0 x h1) gX7_of_X7_isRow rfl (by decide +kernel) ⟨Nat.le_of_ble_eq_true rfl, Nat.le_of_ble_eq_true rfl⟩ 0 rfl rfl rfl hl.1 rfl (Nat.le_of_ble_eq_true rfl) dX7_of_7 ⟨by first | (simp only []; omega) | decide, by first | (simp only []; omega) | decide⟩) (fun r7 w7 H locs hp7 G => ?_)
  rcases hp7 with ⟨rfl, rfl, hi7⟩ | ⟨rfl, rfl, hi7⟩
  · skip
    replace hi7 : 0 ≤ (x).toInt ∧ (x).toInt < I 1 := hi7
    refine lv_if_ne (tgt := 15) hx hb dX7_of_10 (by decide) (fun c10 => ?_) (fun c10 => ?_)
    · skip
      obtain ⟨x1, hx1, ex1, rfl⟩ := nat_of (x := x) (by omega)
      refine lv_iload_n hx hb dX7_of_15 rfl (lv_at hl 2 rfl) ?_
      by_cases k16_0 : y = nI 0
      · skip
        refine r_top (y := nI 0) k16_0 ?_
        refine lv_tableIn (off := (40)) (tgt := 56) hx hb dX7_of_16 (by decide) (by decide) (by decide) (by decide) ?_
        refine lv_aload_n hx hb dX7_of_56 rfl (lv_at hl 0 rfl) ?_
        refine r_get (v := .ref (b 1)) C G hX7 0 rfl rfl 4 (by decide) (by decide +kernel) rfl dX7_of_57 ?_
        refine lv_iload_n hx hb dX7_of_60 rfl (lv_at hl 1 rfl) ?_
        refine r_iald (v := nI ((F 0) x1)) C G 1 0 rfl rfl x1 rfl (by omega) (by omega) rfl dX7_of_61 ?_
        exact RET (nI ((F 0) x1)) (mW cI b (va_up I 0 0) J F G0) _ _ ls _ _ _ (by rw [tn_nI hx1]; exact Or.inr (Or.inl (⟨by omega, k16_0, rfl, rfl⟩))) G (by first | (simp only []; omega) | decide) (by first | (simp only []; omega) | decide) rfl dX7_of_62
      by_cases k16_1 : y = nI 1
      · skip
        refine r_top (y := nI 1) k16_1 ?_
        refine lv_tableIn (off := (47)) (tgt := 63) hx hb dX7_of_16 (by decide) (by decide) (by decide) (by decide) ?_
        refine lv_aload_n hx hb dX7_of_63 rfl (lv_at hl 0 rfl) ?_
        refine r_get (v := .ref (b 2)) C G hX7 0 rfl rfl 5 (by decide) (by decide +kernel) rfl dX7_of_64 ?_
        refine lv_iload_n hx hb dX7_of_67 rfl (lv_at hl 1 rfl) ?_
        refine r_iald (v := nI ((F 1) x1)) C G 2 0 rfl rfl x1 rfl (by omega) (by omega) rfl dX7_of_68 ?_
        exact RET (nI ((F 1) x1)) (mW cI b (va_up I 0 0) J F G0) _ _ ls _ _ _ (by rw [tn_nI hx1]; exact Or.inr (Or.inr (Or.inl (⟨by omega, k16_1, rfl, rfl⟩)))) G (by first | (simp only []; omega) | decide) (by first | (simp only []; omega) | decide) rfl dX7_of_69
      by_cases k16_2 : y = nI 2
      · skip
        refine r_top (y := nI 2) k16_2 ?_
        refine lv_tableIn (off := (54)) (tgt := 70) hx hb dX7_of_16 (by decide) (by decide) (by decide) (by decide) ?_
        refine lv_aload_n hx hb dX7_of_70 rfl (lv_at hl 0 rfl) ?_
        refine r_get (v := .ref (b 3)) C G hX7 0 rfl rfl 6 (by decide) (by decide +kernel) rfl dX7_of_71 ?_
        refine lv_iload_n hx hb dX7_of_74 rfl (lv_at hl 1 rfl) ?_
        refine r_iald (v := nI ((F 2) x1)) C G 3 0 rfl rfl x1 rfl (by omega) (by omega) rfl dX7_of_75 ?_
        exact RET (nI ((F 2) x1)) (mW cI b (va_up I 0 0) J F G0) _ _ ls _ _ _ (by rw [tn_nI hx1]; exact Or.inr (Or.inr (Or.inr (Or.inl (⟨by omega, k16_2, rfl, rfl⟩))))) G (by first | (simp only []; omega) | decide) (by first | (simp only []; omega) | decide) rfl dX7_of_76
      by_cases k16_3 : y = nI 3
      · skip
        refine r_top (y := nI 3) k16_3 ?_
        refine lv_tableIn (off := (61)) (tgt := 77) hx hb dX7_of_16 (by decide) (by decide) (by decide) (by decide) ?_
        refine lv_aload_n hx hb dX7_of_77 rfl (lv_at hl 0 rfl) ?_
        refine r_get (v := .ref (b 4)) C G hX7 0 rfl rfl 7 (by decide) (by decide +kernel) rfl dX7_of_78 ?_
        refine lv_iload_n hx hb dX7_of_81 rfl (lv_at hl 1 rfl) ?_
        refine r_iald (v := nI ((F 3) x1)) C G 4 0 rfl rfl x1 rfl (by omega) (by omega) rfl dX7_of_82 ?_
        exact RET (nI ((F 3) x1)) (mW cI b (va_up I 0 0) J F G0) _ _ ls _ _ _ (by rw [tn_nI hx1]; exact Or.inr (Or.inr (Or.inr (Or.inr (Or.inl (⟨by omega, k16_3, rfl, rfl⟩)))))) G (by first | (simp only []; omega) | decide) (by first | (simp only []; omega) | decide) rfl dX7_of_83
      by_cases k16_4 : y = nI 4
      · skip
        refine r_top (y := nI 4) k16_4 ?_
        refine lv_tableIn (off := (68)) (tgt := 84) hx hb dX7_of_16 (by decide) (by decide) (by decide) (by decide) ?_
        refine lv_aload_n hx hb dX7_of_84 rfl (lv_at hl 0 rfl) ?_
        refine r_get (v := .ref (b 5)) C G hX7 0 rfl rfl 8 (by decide) (by decide +kernel) rfl dX7_of_85 ?_
        refine lv_iload_n hx hb dX7_of_88 rfl (lv_at hl 1 rfl) ?_
        refine r_iald (v := nI ((F 4) x1)) C G 5 0 rfl rfl x1 rfl (by omega) (by omega) rfl dX7_of_89 ?_
        exact RET (nI ((F 4) x1)) (mW cI b (va_up I 0 0) J F G0) _ _ ls _ _ _ (by rw [tn_nI hx1]; exact Or.inr (Or.inr (Or.inr (Or.inr (Or.inr (Or.inl (⟨by omega, k16_4, rfl, rfl⟩))))))) G (by first | (simp only []; omega) | decide) (by first | (simp only []; omega) | decide) rfl dX7_of_90
      by_cases k16_5 : y = nI 5
      · skip
        refine r_top (y := nI 5) k16_5 ?_
        refine lv_tableIn (off := (75)) (tgt := 91) hx hb dX7_of_16 (by decide) (by decide) (by decide) (by decide) ?_
        refine lv_aload_n hx hb dX7_of_91 rfl (lv_at hl 0 rfl) ?_
        refine r_get (v := .ref (b 6)) C G hX7 0 rfl rfl 9 (by decide) (by decide +kernel) rfl dX7_of_92 ?_
        refine lv_iload_n hx hb dX7_of_95 rfl (lv_at hl 1 rfl) ?_
        refine r_iald (v := nI ((F 5) x1)) C G 6 0 rfl rfl x1 rfl (by omega) (by omega) rfl dX7_of_96 ?_
        exact RET (nI ((F 5) x1)) (mW cI b (va_up I 0 0) J F G0) _ _ ls _ _ _ (by rw [tn_nI hx1]; exact Or.inr (Or.inr (Or.inr (Or.inr (Or.inr (Or.inr (Or.inl (⟨by omega, k16_5, rfl, rfl⟩)))))))) G (by first | (simp only []; omega) | decide) (by first | (simp only []; omega) | decide) rfl dX7_of_97
      have ko16 : (y).toInt < (0) ∨ (5) < (y).toInt := by
        have z0 := lv_neT (a := (0)) k16_0 (by decide)
        have z1 := lv_neT (a := (1)) k16_1 (by decide)
        have z2 := lv_neT (a := (2)) k16_2 (by decide)
        have z3 := lv_neT (a := (3)) k16_3 (by decide)
        have z4 := lv_neT (a := (4)) k16_4 (by decide)
        have z5 := lv_neT (a := (5)) k16_5 (by decide)
        omega
      refine lv_tableOut (tgt := 98) hx hb dX7_of_16 ko16 (by decide) ?_
      refine lv_iconst (v := ((-1))) hx hb dX7_of_98 (by decide) ?_
      exact RET ((-1)) (mW cI b (va_up I 0 0) J F G0) _ _ ls _ _ _ (by rw [tn_nI hx1]; exact Or.inr (Or.inr (Or.inr (Or.inr (Or.inr (Or.inr (Or.inr (⟨by omega, by omega, rfl, rfl⟩)))))))) G (by first | (simp only []; omega) | decide) (by first | (simp only []; omega) | decide) rfl dX7_of_99
    · skip
      exact absurd c10 (by decide)
  · skip
    replace hi7 : ¬ (0 ≤ (x).toInt ∧ (x).toInt < I 1) := hi7
    refine lv_if_ne (tgt := 15) hx hb dX7_of_10 (by decide) (fun c10 => ?_) (fun c10 => ?_)
    · skip
      exact absurd c10 (by decide)
    · skip
      refine lv_iconst (v := ((-1))) hx hb dX7_of_13 (by decide) ?_
      exact RET ((-1)) (mW cI b (va_up I 0 0) J F G0) _ _ ls _ _ _ (Or.inl (⟨by omega, rfl, rfl⟩)) G (by first | (simp only []; omega) | decide) (by first | (simp only []; omega) | decide) rfl dX7_of_14
set_option maxHeartbeats 4000000 in
set_option maxRecDepth 100000 in
theorem c_X7_seed (l : Launch) (D : va_G) (cI cO cL : ClassId) (b : Nat → Nat) (I : Nat → Nat) (J : Nat → Int64) (F : Nat → Nat → Nat) (G0 : Nat → Nat → Int32) (z : Int64) : Kl l yX7_seed wsX7_seed { frames := 0, cells := 0, slots := 0, locals := 0 } D (TY cI cO cL) [.ref (b 0), .long (z)] (mW cI b I J F G0) (fun r w => r = J 0 ∧ w = mW cI b (va_up I 0 0) (va_up J 0 z) F G0) := by
  refine Kl.mk (cc := cX7_seed) (maxL := 5) (own := RX7) (by decide) rfl rfl (Nat.le_of_ble_eq_true rfl) ?_
  intro p e s m below meth c A Q ls C hname hA G hl RET
  obtain ⟨⟨hx, hb, hml, hown, hts⟩, hK, hN⟩ := id C
  have hl : lv_has ls 5 [(0, .ref (b 0)), (1, .long (z))] := hl
  have hX7 : ∀ w ∈ u_ws RX7 TX7 30, w ∈ wsX7_seed := by decide +kernel
  refine lv_aload_n hx hb dX7_seed_0 rfl (lv_at hl 0 rfl) ?_
  refine lv_iconst (v := (nI (0))) hx hb dX7_seed_1 (by decide) ?_
  refine r_put (ws' := mW cI b (va_up I 0 0) J F G0) C G hX7 tyX7_ok nmX7 0 rfl rfl 0 (by decide) (by decide +kernel) rfl rfl rfl (Nat.le_of_ble_eq_true rfl) dX7_seed_2 rfl (fun H locs G => ?_)
  refine lv_aload_n hx hb dX7_seed_5 rfl (lv_at hl 0 rfl) ?_
  refine r_get (v := .long (J 0)) C G hX7 0 rfl rfl 1 (by decide) (by decide +kernel) rfl dX7_seed_6 ?_
  refine lv_lstore_n (lv' := [(3, .long (J 0)), (0, .ref (b 0)), (1, .long (z))]) hx hb dX7_seed_9 rfl hl (by decide) rfl (fun ls hl => ?_)
  refine lv_aload_n hx hb dX7_seed_10 rfl (lv_at hl 1 rfl) ?_
  refine lv_lload_n hx hb dX7_seed_11 rfl (lv_at hl 2 rfl) ?_
  refine r_put (ws' := mW cI b (va_up I 0 0) (va_up J 0 z) F G0) C G hX7 tyX7_ok nmX7 0 rfl rfl 1 (by decide) (by decide +kernel) rfl rfl rfl (Nat.le_of_ble_eq_true rfl) dX7_seed_12 rfl (fun H locs G => ?_)
  refine lv_lload_n hx hb dX7_seed_15 rfl (lv_at hl 0 rfl) ?_
  exact RET (J 0) (mW cI b (va_up I 0 0) (va_up J 0 z) F G0) _ _ ls _ _ _ (⟨rfl, rfl⟩) G (by first | (simp only []; omega) | decide) (by first | (simp only []; omega) | decide) dX7_seed_16
set_option maxHeartbeats 4000000 in
set_option maxRecDepth 100000 in
theorem c_X7_set (l : Launch) (D : va_G) (cI cO cL : ClassId) (b : Nat → Nat) (I : Nat → Nat) (J : Nat → Int64) (F : Nat → Nat → Nat) (G0 : Nat → Nat → Int32) (x y : Int32) : Ki l yX7_set wsX7_set { frames := 1, cells := 0, slots := 0, locals := 25 } D (TY cI cO cL) [.ref (b 0), .int (x), .int (y)] (mW cI b I J F G0) (fun r w => (x = nI 0 ∧ (0 ≤ y.toInt ∧ y.toInt ≤ 20) ∧ r = nI (I 2) ∧ w = mW cI b (va_up (va_up I 0 0) 2 (tn y)) J F G0) ∨ (x = nI 1 ∧ (1 ≤ y.toInt ∧ y.toInt ≤ 60) ∧ r = nI (I 3) ∧ w = mW cI b (va_up (va_up I 0 0) 3 (tn y)) J F G0) ∨ (x = nI 2 ∧ (1 ≤ y.toInt ∧ y.toInt ≤ 60) ∧ r = nI (I 4) ∧ w = mW cI b (va_up (va_up I 0 0) 4 (tn y)) J F G0) ∨ (x = nI 3 ∧ (0 ≤ y.toInt ∧ y.toInt ≤ 1) ∧ r = nI (I 5) ∧ w = mW cI b (va_up (va_up I 0 0) 5 (tn y)) J F G0) ∨ (¬ ((x.toInt = 0 ∧ 0 ≤ y.toInt ∧ y.toInt ≤ 20) ∨ (x.toInt = 1 ∧ 1 ≤ y.toInt ∧ y.toInt ≤ 60) ∨ (x.toInt = 2 ∧ 1 ≤ y.toInt ∧ y.toInt ≤ 60) ∨ (x.toInt = 3 ∧ 0 ≤ y.toInt ∧ y.toInt ≤ 1)) ∧ r = -1 ∧ w = mW cI b (va_up I 0 0) J F G0)) := by
  refine Ki.mk (cc := cX7_set) (maxL := 4) (rt := .int) (own := RX7) (by decide) rfl rfl (Nat.le_of_ble_eq_true rfl) ?_
  intro p e s m below meth c A Q ls C hname hA G hl RET
  obtain ⟨⟨hx, hb, hml, hown, hts⟩, hK, hN⟩ := id C
  have hl : lv_has ls 4 [(0, .ref (b 0)), (1, .int (x)), (2, .int (y))] := hl
  have hX7 : ∀ w ∈ u_ws RX7 TX7 30, w ∈ wsX7_set := by decide +kernel
  refine lv_aload_n hx hb dX7_set_0 rfl (lv_at hl 0 rfl) ?_
  refine lv_iconst (v := (nI (0))) hx hb dX7_set_1 (by decide) ?_
  refine r_put (ws' := mW cI b (va_up I 0 0) J F G0) C G hX7 tyX7_ok nmX7 0 rfl rfl 0 (by decide) (by decide +kernel) rfl rfl rfl (Nat.le_of_ble_eq_true rfl) dX7_set_2 rfl (fun H locs G => ?_)
  refine lv_iload_n hx hb dX7_set_5 rfl (lv_at hl 1 rfl) ?_
  by_cases k6_0 : x = nI 0
  · skip
    refine r_top (y := nI 0) k6_0 ?_
    refine lv_tableIn (off := (30)) (tgt := 36) hx hb dX7_set_6 (by decide) (by decide) (by decide) (by decide) ?_
    refine lv_iload_n hx hb dX7_set_36 rfl (lv_at hl 2 rfl) ?_
    refine lv_i2l hx hb dX7_set_37 rfl ?_
    refine lv_lconst (v := 0) hx hb dX7_set_38 (by decide) ?_
    refine lv_ldc2 (v := (20)) hx hb hown (hts (.constantLong RX7 116 (20)) (by decide +kernel)) dX7_set_39 ?_
    refine r_ai G hA (r_rS (na := 3) (As := [.long (y.toInt64), .long (0), .long ((20))]) (rest := []) C G (c_X7_in l D cI cO cL (mW cI b (va_up I 0 0) J F G0) y.toInt64 0 ((20)) ((y).toInt) ((0)) ((20)) ((i2l_ti rfl)) ((by decide)) ((by decide))) gX7_set_X7_in rfl (by decide +kernel) ⟨Nat.le_of_ble_eq_true rfl, Nat.le_of_ble_eq_true rfl⟩ rfl hl.1 rfl (Nat.le_of_ble_eq_true rfl) dX7_set_42 ⟨by first | (simp only []; omega) | decide, by first | (simp only []; omega) | decide⟩) (fun r42 w42 H locs hp42 G => ?_)
    rcases hp42 with ⟨rfl, rfl, hi42⟩ | ⟨rfl, rfl, hi42⟩
    · skip
      refine lv_if_ne (tgt := 50) hx hb dX7_set_45 (by decide) (fun c45 => ?_) (fun c45 => ?_)
      · skip
        obtain ⟨y1, hy1, ey1, rfl⟩ := nat_of (x := y) (by omega)
        refine lv_aload_n hx hb dX7_set_50 rfl (lv_at hl 0 rfl) ?_
        refine r_get (v := .int (nI (I 2))) C G hX7 0 rfl rfl 11 (by decide) (by decide +kernel) rfl dX7_set_51 ?_
        refine lv_istore_n (lv' := [(3, .int (nI (I 2))), (0, .ref (b 0)), (1, .int (x)), (2, .int (nI (y1)))]) hx hb dX7_set_54 rfl hl (by decide) rfl (fun ls hl => ?_)
        refine lv_aload_n hx hb dX7_set_55 rfl (lv_at hl 1 rfl) ?_
        refine lv_iload_n hx hb dX7_set_56 rfl (lv_at hl 3 rfl) ?_
        refine r_put (ws' := mW cI b (va_up (va_up I 0 0) 2 y1) J F G0) C G hX7 tyX7_ok nmX7 0 rfl rfl 11 (by decide) (by decide +kernel) rfl rfl rfl (Nat.le_of_ble_eq_true rfl) dX7_set_57 rfl (fun H locs G => ?_)
        refine lv_iload_n hx hb dX7_set_60 rfl (lv_at hl 0 rfl) ?_
        exact RET (nI (I 2)) (mW cI b (va_up (va_up I 0 0) 2 y1) J F G0) _ _ ls _ _ _ (by rw [tn_nI hy1]; exact Or.inl (⟨k6_0, by omega, rfl, rfl⟩)) G (by first | (simp only []; omega) | decide) (by first | (simp only []; omega) | decide) rfl dX7_set_61
      · skip
        exact absurd c45 (by decide)
    · skip
      refine lv_if_ne (tgt := 50) hx hb dX7_set_45 (by decide) (fun c45 => ?_) (fun c45 => ?_)
      · skip
        exact absurd c45 (by decide)
      · skip
        refine lv_iconst (v := ((-1))) hx hb dX7_set_48 (by decide) ?_
        exact RET ((-1)) (mW cI b (va_up I 0 0) J F G0) _ _ ls _ _ _ (by have ex := congrArg Int32.toInt k6_0; rw [nI_toInt (show 0 < 2 ^ 31 by omega)] at ex; exact Or.inr (Or.inr (Or.inr (Or.inr (⟨by omega, rfl, rfl⟩))))) G (by first | (simp only []; omega) | decide) (by first | (simp only []; omega) | decide) rfl dX7_set_49
  by_cases k6_1 : x = nI 1
  · skip
    refine r_top (y := nI 1) k6_1 ?_
    refine lv_tableIn (off := (56)) (tgt := 62) hx hb dX7_set_6 (by decide) (by decide) (by decide) (by decide) ?_
    refine lv_iload_n hx hb dX7_set_62 rfl (lv_at hl 2 rfl) ?_
    refine lv_i2l hx hb dX7_set_63 rfl ?_
    refine lv_lconst (v := 1) hx hb dX7_set_64 (by decide) ?_
    refine lv_ldc2 (v := (60)) hx hb hown (hts (.constantLong RX7 118 (60)) (by decide +kernel)) dX7_set_65 ?_
    refine r_ai G hA (r_rS (na := 3) (As := [.long (y.toInt64), .long (1), .long ((60))]) (rest := []) C G (c_X7_in l D cI cO cL (mW cI b (va_up I 0 0) J F G0) y.toInt64 1 ((60)) ((y).toInt) ((1)) ((60)) ((i2l_ti rfl)) ((by decide)) ((by decide))) gX7_set_X7_in rfl (by decide +kernel) ⟨Nat.le_of_ble_eq_true rfl, Nat.le_of_ble_eq_true rfl⟩ rfl hl.1 rfl (Nat.le_of_ble_eq_true rfl) dX7_set_68 ⟨by first | (simp only []; omega) | decide, by first | (simp only []; omega) | decide⟩) (fun r68 w68 H locs hp68 G => ?_)
    rcases hp68 with ⟨rfl, rfl, hi68⟩ | ⟨rfl, rfl, hi68⟩
    · skip
      refine lv_if_ne (tgt := 76) hx hb dX7_set_71 (by decide) (fun c71 => ?_) (fun c71 => ?_)
      · skip
        obtain ⟨y1, hy1, ey1, rfl⟩ := nat_of (x := y) (by omega)
        refine lv_aload_n hx hb dX7_set_76 rfl (lv_at hl 0 rfl) ?_
        refine r_get (v := .int (nI (I 3))) C G hX7 0 rfl rfl 12 (by decide) (by decide +kernel) rfl dX7_set_77 ?_
        refine lv_istore_n (lv' := [(3, .int (nI (I 3))), (0, .ref (b 0)), (1, .int (x)), (2, .int (nI (y1)))]) hx hb dX7_set_80 rfl hl (by decide) rfl (fun ls hl => ?_)
        refine lv_aload_n hx hb dX7_set_81 rfl (lv_at hl 1 rfl) ?_
        refine lv_iload_n hx hb dX7_set_82 rfl (lv_at hl 3 rfl) ?_
        refine r_put (ws' := mW cI b (va_up (va_up I 0 0) 3 y1) J F G0) C G hX7 tyX7_ok nmX7 0 rfl rfl 12 (by decide) (by decide +kernel) rfl rfl rfl (Nat.le_of_ble_eq_true rfl) dX7_set_83 rfl (fun H locs G => ?_)
        refine lv_iload_n hx hb dX7_set_86 rfl (lv_at hl 0 rfl) ?_
        exact RET (nI (I 3)) (mW cI b (va_up (va_up I 0 0) 3 y1) J F G0) _ _ ls _ _ _ (by rw [tn_nI hy1]; exact Or.inr (Or.inl (⟨k6_1, by omega, rfl, rfl⟩))) G (by first | (simp only []; omega) | decide) (by first | (simp only []; omega) | decide) rfl dX7_set_87
      · skip
        exact absurd c71 (by decide)
    · skip
      refine lv_if_ne (tgt := 76) hx hb dX7_set_71 (by decide) (fun c71 => ?_) (fun c71 => ?_)
      · skip
        exact absurd c71 (by decide)
      · skip
        refine lv_iconst (v := ((-1))) hx hb dX7_set_74 (by decide) ?_
        exact RET ((-1)) (mW cI b (va_up I 0 0) J F G0) _ _ ls _ _ _ (by have ex := congrArg Int32.toInt k6_1; rw [nI_toInt (show 1 < 2 ^ 31 by omega)] at ex; exact Or.inr (Or.inr (Or.inr (Or.inr (⟨by omega, rfl, rfl⟩))))) G (by first | (simp only []; omega) | decide) (by first | (simp only []; omega) | decide) rfl dX7_set_75
  by_cases k6_2 : x = nI 2
  · skip
    refine r_top (y := nI 2) k6_2 ?_
    refine lv_tableIn (off := (82)) (tgt := 88) hx hb dX7_set_6 (by decide) (by decide) (by decide) (by decide) ?_
    refine lv_iload_n hx hb dX7_set_88 rfl (lv_at hl 2 rfl) ?_
    refine lv_i2l hx hb dX7_set_89 rfl ?_
    refine lv_lconst (v := 1) hx hb dX7_set_90 (by decide) ?_
    refine lv_ldc2 (v := (60)) hx hb hown (hts (.constantLong RX7 118 (60)) (by decide +kernel)) dX7_set_91 ?_
    refine r_ai G hA (r_rS (na := 3) (As := [.long (y.toInt64), .long (1), .long ((60))]) (rest := []) C G (c_X7_in l D cI cO cL (mW cI b (va_up I 0 0) J F G0) y.toInt64 1 ((60)) ((y).toInt) ((1)) ((60)) ((i2l_ti rfl)) ((by decide)) ((by decide))) gX7_set_X7_in rfl (by decide +kernel) ⟨Nat.le_of_ble_eq_true rfl, Nat.le_of_ble_eq_true rfl⟩ rfl hl.1 rfl (Nat.le_of_ble_eq_true rfl) dX7_set_94 ⟨by first | (simp only []; omega) | decide, by first | (simp only []; omega) | decide⟩) (fun r94 w94 H locs hp94 G => ?_)
    rcases hp94 with ⟨rfl, rfl, hi94⟩ | ⟨rfl, rfl, hi94⟩
    · skip
      refine lv_if_ne (tgt := 102) hx hb dX7_set_97 (by decide) (fun c97 => ?_) (fun c97 => ?_)
      · skip
        obtain ⟨y1, hy1, ey1, rfl⟩ := nat_of (x := y) (by omega)
        refine lv_aload_n hx hb dX7_set_102 rfl (lv_at hl 0 rfl) ?_
        refine r_get (v := .int (nI (I 4))) C G hX7 0 rfl rfl 13 (by decide) (by decide +kernel) rfl dX7_set_103 ?_
        refine lv_istore_n (lv' := [(3, .int (nI (I 4))), (0, .ref (b 0)), (1, .int (x)), (2, .int (nI (y1)))]) hx hb dX7_set_106 rfl hl (by decide) rfl (fun ls hl => ?_)
        refine lv_aload_n hx hb dX7_set_107 rfl (lv_at hl 1 rfl) ?_
        refine lv_iload_n hx hb dX7_set_108 rfl (lv_at hl 3 rfl) ?_
        refine r_put (ws' := mW cI b (va_up (va_up I 0 0) 4 y1) J F G0) C G hX7 tyX7_ok nmX7 0 rfl rfl 13 (by decide) (by decide +kernel) rfl rfl rfl (Nat.le_of_ble_eq_true rfl) dX7_set_109 rfl (fun H locs G => ?_)
        refine lv_iload_n hx hb dX7_set_112 rfl (lv_at hl 0 rfl) ?_
        exact RET (nI (I 4)) (mW cI b (va_up (va_up I 0 0) 4 y1) J F G0) _ _ ls _ _ _ (by rw [tn_nI hy1]; exact Or.inr (Or.inr (Or.inl (⟨k6_2, by omega, rfl, rfl⟩)))) G (by first | (simp only []; omega) | decide) (by first | (simp only []; omega) | decide) rfl dX7_set_113
      · skip
        exact absurd c97 (by decide)
    · skip
      refine lv_if_ne (tgt := 102) hx hb dX7_set_97 (by decide) (fun c97 => ?_) (fun c97 => ?_)
      · skip
        exact absurd c97 (by decide)
      · skip
        refine lv_iconst (v := ((-1))) hx hb dX7_set_100 (by decide) ?_
        exact RET ((-1)) (mW cI b (va_up I 0 0) J F G0) _ _ ls _ _ _ (by have ex := congrArg Int32.toInt k6_2; rw [nI_toInt (show 2 < 2 ^ 31 by omega)] at ex; exact Or.inr (Or.inr (Or.inr (Or.inr (⟨by omega, rfl, rfl⟩))))) G (by first | (simp only []; omega) | decide) (by first | (simp only []; omega) | decide) rfl dX7_set_101
  by_cases k6_3 : x = nI 3
  · skip
    refine r_top (y := nI 3) k6_3 ?_
    refine lv_tableIn (off := (108)) (tgt := 114) hx hb dX7_set_6 (by decide) (by decide) (by decide) (by decide) ?_
    refine lv_iload_n hx hb dX7_set_114 rfl (lv_at hl 2 rfl) ?_
    refine lv_i2l hx hb dX7_set_115 rfl ?_
    refine lv_lconst (v := 0) hx hb dX7_set_116 (by decide) ?_
    refine lv_lconst (v := 1) hx hb dX7_set_117 (by decide) ?_
    refine r_ai G hA (r_rS (na := 3) (As := [.long (y.toInt64), .long (0), .long (1)]) (rest := []) C G (c_X7_in l D cI cO cL (mW cI b (va_up I 0 0) J F G0) y.toInt64 0 1 ((y).toInt) ((0)) ((1)) ((i2l_ti rfl)) ((by decide)) ((by decide))) gX7_set_X7_in rfl (by decide +kernel) ⟨Nat.le_of_ble_eq_true rfl, Nat.le_of_ble_eq_true rfl⟩ rfl hl.1 rfl (Nat.le_of_ble_eq_true rfl) dX7_set_118 ⟨by first | (simp only []; omega) | decide, by first | (simp only []; omega) | decide⟩) (fun r118 w118 H locs hp118 G => ?_)
    rcases hp118 with ⟨rfl, rfl, hi118⟩ | ⟨rfl, rfl, hi118⟩
    · skip
      refine lv_if_ne (tgt := 126) hx hb dX7_set_121 (by decide) (fun c121 => ?_) (fun c121 => ?_)
      · skip
        obtain ⟨y1, hy1, ey1, rfl⟩ := nat_of (x := y) (by omega)
        refine lv_aload_n hx hb dX7_set_126 rfl (lv_at hl 0 rfl) ?_
        refine r_get (v := .int (nI (I 5))) C G hX7 0 rfl rfl 14 (by decide) (by decide +kernel) rfl dX7_set_127 ?_
        refine lv_istore_n (lv' := [(3, .int (nI (I 5))), (0, .ref (b 0)), (1, .int (x)), (2, .int (nI (y1)))]) hx hb dX7_set_130 rfl hl (by decide) rfl (fun ls hl => ?_)
        refine lv_aload_n hx hb dX7_set_131 rfl (lv_at hl 1 rfl) ?_
        refine lv_iload_n hx hb dX7_set_132 rfl (lv_at hl 3 rfl) ?_
        refine r_put (ws' := mW cI b (va_up (va_up I 0 0) 5 y1) J F G0) C G hX7 tyX7_ok nmX7 0 rfl rfl 14 (by decide) (by decide +kernel) rfl rfl rfl (Nat.le_of_ble_eq_true rfl) dX7_set_133 rfl (fun H locs G => ?_)
        refine lv_iload_n hx hb dX7_set_136 rfl (lv_at hl 0 rfl) ?_
        exact RET (nI (I 5)) (mW cI b (va_up (va_up I 0 0) 5 y1) J F G0) _ _ ls _ _ _ (by rw [tn_nI hy1]; exact Or.inr (Or.inr (Or.inr (Or.inl (⟨k6_3, by omega, rfl, rfl⟩))))) G (by first | (simp only []; omega) | decide) (by first | (simp only []; omega) | decide) rfl dX7_set_137
      · skip
        exact absurd c121 (by decide)
    · skip
      refine lv_if_ne (tgt := 126) hx hb dX7_set_121 (by decide) (fun c121 => ?_) (fun c121 => ?_)
      · skip
        exact absurd c121 (by decide)
      · skip
        refine lv_iconst (v := ((-1))) hx hb dX7_set_124 (by decide) ?_
        exact RET ((-1)) (mW cI b (va_up I 0 0) J F G0) _ _ ls _ _ _ (by have ex := congrArg Int32.toInt k6_3; rw [nI_toInt (show 3 < 2 ^ 31 by omega)] at ex; exact Or.inr (Or.inr (Or.inr (Or.inr (⟨by omega, rfl, rfl⟩))))) G (by first | (simp only []; omega) | decide) (by first | (simp only []; omega) | decide) rfl dX7_set_125
  have ko6 : (x).toInt < (0) ∨ (3) < (x).toInt := by
    have z0 := lv_neT (a := (0)) k6_0 (by decide)
    have z1 := lv_neT (a := (1)) k6_1 (by decide)
    have z2 := lv_neT (a := (2)) k6_2 (by decide)
    have z3 := lv_neT (a := (3)) k6_3 (by decide)
    omega
  refine lv_tableOut (tgt := 138) hx hb dX7_set_6 ko6 (by decide) ?_
  refine lv_iconst (v := ((-1))) hx hb dX7_set_138 (by decide) ?_
  exact RET ((-1)) (mW cI b (va_up I 0 0) J F G0) _ _ ls _ _ _ (Or.inr (Or.inr (Or.inr (Or.inr (⟨by omega, rfl, rfl⟩))))) G (by first | (simp only []; omega) | decide) (by first | (simp only []; omega) | decide) rfl dX7_set_139
set_option maxHeartbeats 4000000 in
set_option maxRecDepth 100000 in
theorem c_X7_resume (l : Launch) (D : va_G) (cI cO cL : ClassId) (b : Nat → Nat) (I : Nat → Nat) (J : Nat → Int64) (F : Nat → Nat → Nat) (G0 : Nat → Nat → Int32) (x y z : Int32) (h1 : I 1 ≤ 60) : Ki l yX7_resume wsX7_resume { frames := 2, cells := 0, slots := 0, locals := 47 } D (TY cI cO cL) [.ref (b 0), .int (x), .int (y), .int (z)] (mW cI b I J F G0) (fun r w => (¬ (0 ≤ x.toInt ∧ x.toInt ≤ 4 ∧ 0 ≤ y.toInt ∧ y.toInt ≤ 1000 ∧ 0 ≤ z.toInt ∧ z.toInt ≤ I 1) ∧ r = -1 ∧ w = mW cI b (va_up I 0 0) J F G0) ∨ ((0 ≤ x.toInt ∧ x.toInt ≤ 4 ∧ 0 ≤ y.toInt ∧ y.toInt ≤ 1000 ∧ 0 ≤ z.toInt ∧ z.toInt ≤ I 1) ∧ r = 1 ∧ w = mW cI b (va_up (va_up (va_up (va_up I 0 0) 6 (tn x)) 7 (tn y)) 8 (tn z)) J F G0)) := by
  refine Ki.mk (cc := cX7_resume) (maxL := 4) (rt := .int) (own := RX7) (by decide) rfl rfl (Nat.le_of_ble_eq_true rfl) ?_
  intro p e s m below meth c A Q ls C hname hA G hl RET
  obtain ⟨⟨hx, hb, hml, hown, hts⟩, hK, hN⟩ := id C
  have hl : lv_has ls 4 [(0, .ref (b 0)), (1, .int (x)), (2, .int (y)), (3, .int (z))] := hl
  have hX7 : ∀ w ∈ u_ws RX7 TX7 30, w ∈ wsX7_resume := by decide +kernel
  refine lv_aload_n hx hb dX7_resume_0 rfl (lv_at hl 0 rfl) ?_
  refine lv_iconst (v := (nI (0))) hx hb dX7_resume_1 (by decide) ?_
  refine r_put (ws' := mW cI b (va_up I 0 0) J F G0) C G hX7 tyX7_ok nmX7 0 rfl rfl 0 (by decide) (by decide +kernel) rfl rfl rfl (Nat.le_of_ble_eq_true rfl) dX7_resume_2 rfl (fun H locs G => ?_)
  refine lv_aload_n hx hb dX7_resume_5 rfl (lv_at hl 0 rfl) ?_
  refine lv_iload_n hx hb dX7_resume_6 rfl (lv_at hl 1 rfl) ?_
  refine lv_iload_n hx hb dX7_resume_7 rfl (lv_at hl 2 rfl) ?_
  refine r_ai G hA (r_rV (na := 2) (As := [.int (x), .int (y)]) (rest := []) C G (c_X7_isAsked l D cI cO cL b (va_up I 0 0) J F G0 x y) gX7_resume_X7_isAsked rfl (by decide +kernel) ⟨Nat.le_of_ble_eq_true rfl, Nat.le_of_ble_eq_true rfl⟩ 0 rfl rfl rfl hl.1 rfl (Nat.le_of_ble_eq_true rfl) dX7_resume_8 ⟨by first | (simp only []; omega) | decide, by first | (simp only []; omega) | decide⟩) (fun r8 w8 H locs hp8 G => ?_)
  rcases hp8 with ⟨rfl, rfl, hi8⟩ | ⟨rfl, rfl, hi8⟩
  · skip
    refine lv_if_eq (tgt := 28) hx hb dX7_resume_11 (by decide) (fun c11 => ?_) (fun c11 => ?_)
    · skip
      exact absurd c11 (by decide)
    · skip
      refine lv_iload_n hx hb dX7_resume_14 rfl (lv_at hl 3 rfl) ?_
      refine lv_i2l hx hb dX7_resume_15 rfl ?_
      refine lv_lconst (v := 0) hx hb dX7_resume_16 (by decide) ?_
      refine lv_aload_n hx hb dX7_resume_17 rfl (lv_at hl 0 rfl) ?_
      refine r_get (v := .int (nI (I 1))) C G hX7 0 rfl rfl 3 (by decide) (by decide +kernel) rfl dX7_resume_18 ?_
      refine lv_i2l (v := lN (I 1)) hx hb dX7_resume_21 (nI_l (by omega)) ?_
      refine r_ai G hA (r_rS (na := 3) (As := [.long (z.toInt64), .long (0), .long (lN (I 1))]) (rest := []) C G (c_X7_in l D cI cO cL (mW cI b (va_up I 0 0) J F G0) z.toInt64 0 (lN (I 1)) ((z).toInt) ((0)) ((((I 1) : Nat) : Int)) ((i2l_ti rfl)) ((by decide)) ((pk_lT (by omega)))) gX7_resume_X7_in rfl (by decide +kernel) ⟨Nat.le_of_ble_eq_true rfl, Nat.le_of_ble_eq_true rfl⟩ rfl hl.1 rfl (Nat.le_of_ble_eq_true rfl) dX7_resume_22 ⟨by first | (simp only []; omega) | decide, by first | (simp only []; omega) | decide⟩) (fun r22 w22 H locs hp22 G => ?_)
      rcases hp22 with ⟨rfl, rfl, hi22⟩ | ⟨rfl, rfl, hi22⟩
      · skip
        refine lv_if_ne (tgt := 30) hx hb dX7_resume_25 (by decide) (fun c25 => ?_) (fun c25 => ?_)
        · skip
          obtain ⟨x1, hx1, ex1, rfl⟩ := nat_of (x := x) (by omega)
          obtain ⟨y1, hy1, ey1, rfl⟩ := nat_of (x := y) (by omega)
          obtain ⟨z1, hz1, ez1, rfl⟩ := nat_of (x := z) (by omega)
          refine lv_aload_n hx hb dX7_resume_30 rfl (lv_at hl 0 rfl) ?_
          refine lv_iload_n hx hb dX7_resume_31 rfl (lv_at hl 1 rfl) ?_
          refine r_put (ws' := mW cI b (va_up (va_up I 0 0) 6 x1) J F G0) C G hX7 tyX7_ok nmX7 0 rfl rfl 21 (by decide) (by decide +kernel) rfl rfl rfl (Nat.le_of_ble_eq_true rfl) dX7_resume_32 rfl (fun H locs G => ?_)
          refine lv_aload_n hx hb dX7_resume_35 rfl (lv_at hl 0 rfl) ?_
          refine lv_iload_n hx hb dX7_resume_36 rfl (lv_at hl 2 rfl) ?_
          refine r_put (ws' := mW cI b (va_up (va_up (va_up I 0 0) 6 x1) 7 y1) J F G0) C G hX7 tyX7_ok nmX7 0 rfl rfl 22 (by decide) (by decide +kernel) rfl rfl rfl (Nat.le_of_ble_eq_true rfl) dX7_resume_37 rfl (fun H locs G => ?_)
          refine lv_aload_n hx hb dX7_resume_40 rfl (lv_at hl 0 rfl) ?_
          refine lv_iload_n hx hb dX7_resume_41 rfl (lv_at hl 3 rfl) ?_
          refine r_put (ws' := mW cI b (va_up (va_up (va_up (va_up I 0 0) 6 x1) 7 y1) 8 z1) J F G0) C G hX7 tyX7_ok nmX7 0 rfl rfl 23 (by decide) (by decide +kernel) rfl rfl rfl (Nat.le_of_ble_eq_true rfl) dX7_resume_42 rfl (fun H locs G => ?_)
          refine lv_iconst (v := (nI (1))) hx hb dX7_resume_45 (by decide) ?_
          exact RET (nI (1)) (mW cI b (va_up (va_up (va_up (va_up I 0 0) 6 x1) 7 y1) 8 z1) J F G0) _ _ ls _ _ _ (by rw [tn_nI hx1, tn_nI hy1, tn_nI hz1]; exact Or.inr (⟨by omega, rfl, rfl⟩)) G (by first | (simp only []; omega) | decide) (by first | (simp only []; omega) | decide) rfl dX7_resume_46
        · skip
          exact absurd c25 (by decide)
      · skip
        refine lv_if_ne (tgt := 30) hx hb dX7_resume_25 (by decide) (fun c25 => ?_) (fun c25 => ?_)
        · skip
          exact absurd c25 (by decide)
        · skip
          refine lv_iconst (v := ((-1))) hx hb dX7_resume_28 (by decide) ?_
          exact RET ((-1)) (mW cI b (va_up I 0 0) J F G0) _ _ ls _ _ _ (Or.inl (⟨by omega, rfl, rfl⟩)) G (by first | (simp only []; omega) | decide) (by first | (simp only []; omega) | decide) rfl dX7_resume_29
  · skip
    refine lv_if_eq (tgt := 28) hx hb dX7_resume_11 (by decide) (fun c11 => ?_) (fun c11 => ?_)
    · skip
      refine lv_iconst (v := ((-1))) hx hb dX7_resume_28 (by decide) ?_
      exact RET ((-1)) (mW cI b (va_up I 0 0) J F G0) _ _ ls _ _ _ (Or.inl (⟨by omega, rfl, rfl⟩)) G (by first | (simp only []; omega) | decide) (by first | (simp only []; omega) | decide) rfl dX7_resume_29
    · skip
      exact absurd c11 (by decide)
set_option maxHeartbeats 4000000 in
set_option maxRecDepth 100000 in
theorem c_X7_at (l : Launch) (D : va_G) (cI cO cL : ClassId) (b : Nat → Nat) (I : Nat → Nat) (J : Nat → Int64) (F : Nat → Nat → Nat) (G0 : Nat → Nat → Int32) (x : Int32) : Ki l yX7_at wsX7_at { frames := 0, cells := 0, slots := 0, locals := 0 } D (TY cI cO cL) [.ref (b 0), .int (x)] (mW cI b I J F G0) (fun r w => (x.toInt = 0 ∧ r = nI (I 6) ∧ w = mW cI b (va_up I 0 0) J F G0) ∨ (x.toInt = 1 ∧ r = nI (I 7) ∧ w = mW cI b (va_up I 0 0) J F G0) ∨ (x.toInt = 2 ∧ r = nI (I 8) ∧ w = mW cI b (va_up I 0 0) J F G0) ∨ ((x.toInt < 0 ∨ 2 < x.toInt) ∧ r = -1 ∧ w = mW cI b (va_up I 0 0) J F G0)) := by
  refine Ki.mk (cc := cX7_at) (maxL := 2) (rt := .int) (own := RX7) (by decide) rfl rfl (Nat.le_of_ble_eq_true rfl) ?_
  intro p e s m below meth c A Q ls C hname hA G hl RET
  obtain ⟨⟨hx, hb, hml, hown, hts⟩, hK, hN⟩ := id C
  have hl : lv_has ls 2 [(0, .ref (b 0)), (1, .int (x))] := hl
  have hX7 : ∀ w ∈ u_ws RX7 TX7 30, w ∈ wsX7_at := by decide +kernel
  refine lv_aload_n hx hb dX7_at_0 rfl (lv_at hl 0 rfl) ?_
  refine lv_iconst (v := (nI (0))) hx hb dX7_at_1 (by decide) ?_
  refine r_put (ws' := mW cI b (va_up I 0 0) J F G0) C G hX7 tyX7_ok nmX7 0 rfl rfl 0 (by decide) (by decide +kernel) rfl rfl rfl (Nat.le_of_ble_eq_true rfl) dX7_at_2 rfl (fun H locs G => ?_)
  refine lv_iload_n hx hb dX7_at_5 rfl (lv_at hl 1 rfl) ?_
  refine lv_if_ne (tgt := 16) hx hb dX7_at_6 (by decide) (fun c6 => ?_) (fun c6 => ?_)
  · skip
    replace c6 : ¬ (x).toInt = (0) := fun h => c6 ((cv_eq rfl (by decide)).mpr h)
    refine lv_iload_n hx hb dX7_at_16 rfl (lv_at hl 1 rfl) ?_
    refine lv_iconst (v := (nI (1))) hx hb dX7_at_17 (by decide) ?_
    refine lv_icmp_ne (tgt := 28) hx hb dX7_at_18 (by decide) (fun c18 => ?_) (fun c18 => ?_)
    · skip
      replace c18 : ¬ (x).toInt = ((1 : Nat) : Int) := fun h => c18 ((cv_eq rfl (nI_toInt (by omega))).mpr h)
      refine lv_iload_n hx hb dX7_at_28 rfl (lv_at hl 1 rfl) ?_
      refine lv_iconst (v := (nI (2))) hx hb dX7_at_29 (by decide) ?_
      refine lv_icmp_ne (tgt := 40) hx hb dX7_at_30 (by decide) (fun c30 => ?_) (fun c30 => ?_)
      · skip
        replace c30 : ¬ (x).toInt = ((2 : Nat) : Int) := fun h => c30 ((cv_eq rfl (nI_toInt (by omega))).mpr h)
        refine lv_iconst (v := ((-1))) hx hb dX7_at_40 (by decide) ?_
        exact RET ((-1)) (mW cI b (va_up I 0 0) J F G0) _ _ ls _ _ _ (Or.inr (Or.inr (Or.inr (⟨by omega, rfl, rfl⟩)))) G (by first | (simp only []; omega) | decide) (by first | (simp only []; omega) | decide) rfl dX7_at_41
      · skip
        replace c30 : (x).toInt = ((2 : Nat) : Int) := (cv_eq rfl (nI_toInt (by omega))).mp c30
        refine lv_aload_n hx hb dX7_at_33 rfl (lv_at hl 0 rfl) ?_
        refine r_get (v := .int (nI (I 8))) C G hX7 0 rfl rfl 23 (by decide) (by decide +kernel) rfl dX7_at_34 ?_
        refine lv_goto (tgt := 41) hx hb dX7_at_37 (by decide) ?_
        exact RET (nI (I 8)) (mW cI b (va_up I 0 0) J F G0) _ _ ls _ _ _ (Or.inr (Or.inr (Or.inl (⟨by omega, rfl, rfl⟩)))) G (by first | (simp only []; omega) | decide) (by first | (simp only []; omega) | decide) rfl dX7_at_41
    · skip
      replace c18 : (x).toInt = ((1 : Nat) : Int) := (cv_eq rfl (nI_toInt (by omega))).mp c18
      refine lv_aload_n hx hb dX7_at_21 rfl (lv_at hl 0 rfl) ?_
      refine r_get (v := .int (nI (I 7))) C G hX7 0 rfl rfl 22 (by decide) (by decide +kernel) rfl dX7_at_22 ?_
      refine lv_goto (tgt := 41) hx hb dX7_at_25 (by decide) ?_
      exact RET (nI (I 7)) (mW cI b (va_up I 0 0) J F G0) _ _ ls _ _ _ (Or.inr (Or.inl (⟨by omega, rfl, rfl⟩))) G (by first | (simp only []; omega) | decide) (by first | (simp only []; omega) | decide) rfl dX7_at_41
  · skip
    replace c6 : (x).toInt = (0) := (cv_eq rfl (by decide)).mp c6
    refine lv_aload_n hx hb dX7_at_9 rfl (lv_at hl 0 rfl) ?_
    refine r_get (v := .int (nI (I 6))) C G hX7 0 rfl rfl 21 (by decide) (by decide +kernel) rfl dX7_at_10 ?_
    refine lv_goto (tgt := 41) hx hb dX7_at_13 (by decide) ?_
    exact RET (nI (I 6)) (mW cI b (va_up I 0 0) J F G0) _ _ ls _ _ _ (Or.inl (⟨by omega, rfl, rfl⟩)) G (by first | (simp only []; omega) | decide) (by first | (simp only []; omega) | decide) rfl dX7_at_41
set_option maxHeartbeats 4000000 in
set_option maxRecDepth 100000 in
theorem c_X7_out (l : Launch) (D : va_G) (cI cO cL : ClassId) (b : Nat → Nat) (I : Nat → Nat) (J : Nat → Int64) (F : Nat → Nat → Nat) (G0 : Nat → Nat → Int32) (x : Int32) (h9 : I 9 ≤ 2) (h10 : I 10 ≤ 1600) (h11 : I 11 ≤ 40) (h12 : I 12 ≤ 40) : Ki l yX7_out wsX7_out { frames := 1, cells := 0, slots := 0, locals := 25 } D (TY cI cO cL) [.ref (b 0), .int (x)] (mW cI b I J F G0) (fun r w => (I 9 = 2 ∧ r = -11 ∧ w = mW cI b (va_up I 0 0) J F G0) ∨ (I 9 ≠ 2 ∧ x = (-1) ∧ r = nI (I 10) ∧ w = mW cI b (va_up I 0 0) J F G0) ∨ (I 9 ≠ 2 ∧ x = (-2) ∧ r = nI (I 11) ∧ w = mW cI b (va_up I 0 0) J F G0) ∨ (I 9 ≠ 2 ∧ x = (-3) ∧ r = nI (I 12) ∧ w = mW cI b (va_up I 0 0) J F G0) ∨ (I 9 ≠ 2 ∧ (0 ≤ x.toInt ∧ x.toInt < I 10) ∧ r = G0 1 (tn x) ∧ w = mW cI b (va_up I 0 0) J F G0) ∨ (I 9 ≠ 2 ∧ (x.toInt < (-3) ∨ (-1) < x.toInt) ∧ ¬ (0 ≤ x.toInt ∧ x.toInt < I 10) ∧ r = -13 ∧ w = mW cI b (va_up I 0 0) J F G0)) := by
  refine Ki.mk (cc := cX7_out) (maxL := 2) (rt := .int) (own := RX7) (by decide) rfl rfl (Nat.le_of_ble_eq_true rfl) ?_
  intro p e s m below meth c A Q ls C hname hA G hl RET
  obtain ⟨⟨hx, hb, hml, hown, hts⟩, hK, hN⟩ := id C
  have hl : lv_has ls 2 [(0, .ref (b 0)), (1, .int (x))] := hl
  have hX7 : ∀ w ∈ u_ws RX7 TX7 30, w ∈ wsX7_out := by decide +kernel
  refine lv_aload_n hx hb dX7_out_0 rfl (lv_at hl 0 rfl) ?_
  refine lv_iconst (v := (nI (0))) hx hb dX7_out_1 (by decide) ?_
  refine r_put (ws' := mW cI b (va_up I 0 0) J F G0) C G hX7 tyX7_ok nmX7 0 rfl rfl 0 (by decide) (by decide +kernel) rfl rfl rfl (Nat.le_of_ble_eq_true rfl) dX7_out_2 rfl (fun H locs G => ?_)
  refine lv_aload_n hx hb dX7_out_5 rfl (lv_at hl 0 rfl) ?_
  refine r_get (v := .int (nI (I 9))) C G hX7 0 rfl rfl 24 (by decide) (by decide +kernel) rfl dX7_out_6 ?_
  refine lv_iconst (v := (nI (2))) hx hb dX7_out_9 (by decide) ?_
  refine lv_icmp_ne (tgt := 16) hx hb dX7_out_10 (by decide) (fun c10 => ?_) (fun c10 => ?_)
  · skip
    replace c10 : ¬ ((I 9 : Nat) : Int) = ((2 : Nat) : Int) := fun h => c10 ((cv_eq (nI_toInt (by omega)) (nI_toInt (by omega))).mpr h)
    refine lv_iload_n hx hb dX7_out_16 rfl (lv_at hl 1 rfl) ?_
    by_cases k17_0 : x = (-3)
    · skip
      refine r_top (y := (-3)) k17_0 ?_
      refine lv_tableIn (off := (37)) (tgt := 54) hx hb dX7_out_17 (by decide) (by decide) (by decide) (by decide) ?_
      refine lv_aload_n hx hb dX7_out_54 rfl (lv_at hl 0 rfl) ?_
      refine r_get (v := .int (nI (I 12))) C G hX7 0 rfl rfl 27 (by decide) (by decide +kernel) rfl dX7_out_55 ?_
      exact RET (nI (I 12)) (mW cI b (va_up I 0 0) J F G0) _ _ ls _ _ _ (Or.inr (Or.inr (Or.inr (Or.inl (⟨by omega, k17_0, rfl, rfl⟩))))) G (by first | (simp only []; omega) | decide) (by first | (simp only []; omega) | decide) rfl dX7_out_58
    by_cases k17_1 : x = (-2)
    · skip
      refine r_top (y := (-2)) k17_1 ?_
      refine lv_tableIn (off := (32)) (tgt := 49) hx hb dX7_out_17 (by decide) (by decide) (by decide) (by decide) ?_
      refine lv_aload_n hx hb dX7_out_49 rfl (lv_at hl 0 rfl) ?_
      refine r_get (v := .int (nI (I 11))) C G hX7 0 rfl rfl 26 (by decide) (by decide +kernel) rfl dX7_out_50 ?_
      exact RET (nI (I 11)) (mW cI b (va_up I 0 0) J F G0) _ _ ls _ _ _ (Or.inr (Or.inr (Or.inl (⟨by omega, k17_1, rfl, rfl⟩)))) G (by first | (simp only []; omega) | decide) (by first | (simp only []; omega) | decide) rfl dX7_out_53
    by_cases k17_2 : x = (-1)
    · skip
      refine r_top (y := (-1)) k17_2 ?_
      refine lv_tableIn (off := (27)) (tgt := 44) hx hb dX7_out_17 (by decide) (by decide) (by decide) (by decide) ?_
      refine lv_aload_n hx hb dX7_out_44 rfl (lv_at hl 0 rfl) ?_
      refine r_get (v := .int (nI (I 10))) C G hX7 0 rfl rfl 25 (by decide) (by decide +kernel) rfl dX7_out_45 ?_
      exact RET (nI (I 10)) (mW cI b (va_up I 0 0) J F G0) _ _ ls _ _ _ (Or.inr (Or.inl (⟨by omega, k17_2, rfl, rfl⟩))) G (by first | (simp only []; omega) | decide) (by first | (simp only []; omega) | decide) rfl dX7_out_48
    have ko17 : (x).toInt < (-3) ∨ (-1) < (x).toInt := by
      have z0 := lv_neT (a := (-3)) k17_0 (by decide)
      have z1 := lv_neT (a := (-2)) k17_1 (by decide)
      have z2 := lv_neT (a := (-1)) k17_2 (by decide)
      omega
    refine lv_tableOut (tgt := 59) hx hb dX7_out_17 ko17 (by decide) ?_
    refine lv_iload_n hx hb dX7_out_59 rfl (lv_at hl 1 rfl) ?_
    refine lv_i2l hx hb dX7_out_60 rfl ?_
    refine lv_lconst (v := 0) hx hb dX7_out_61 (by decide) ?_
    refine lv_aload_n hx hb dX7_out_62 rfl (lv_at hl 0 rfl) ?_
    refine r_get (v := .int (nI (I 10))) C G hX7 0 rfl rfl 25 (by decide) (by decide +kernel) rfl dX7_out_63 ?_
    refine lv_iconst (v := (nI (1))) hx hb dX7_out_66 (by decide) ?_
    refine lv_isub hx hb dX7_out_67 ?_
    refine lv_i2l hx hb dX7_out_68 rfl ?_
    refine r_ai G hA (r_rS (na := 3) (As := [.long (x.toInt64), .long (0), .long ((nI (I 10) - nI (1)).toInt64)]) (rest := []) C G (c_X7_in l D cI cO cL (mW cI b (va_up I 0 0) J F G0) x.toInt64 0 ((nI (I 10) - nI (1)).toInt64) ((x).toInt) ((0)) (((I 10 : Nat) : Int) - ((1 : Nat) : Int)) ((i2l_ti rfl)) ((by decide)) ((i2l_ti (pk_sub_toInt (by omega) (by omega))))) gX7_out_X7_in rfl (by decide +kernel) ⟨Nat.le_of_ble_eq_true rfl, Nat.le_of_ble_eq_true rfl⟩ rfl hl.1 rfl (Nat.le_of_ble_eq_true rfl) dX7_out_69 ⟨by first | (simp only []; omega) | decide, by first | (simp only []; omega) | decide⟩) (fun r69 w69 H locs hp69 G => ?_)
    rcases hp69 with ⟨rfl, rfl, hi69⟩ | ⟨rfl, rfl, hi69⟩
    · skip
      refine lv_if_eq (tgt := 84) hx hb dX7_out_72 (by decide) (fun c72 => ?_) (fun c72 => ?_)
      · skip
        exact absurd c72 (by decide)
      · skip
        obtain ⟨x1, hx1, ex1, rfl⟩ := nat_of (x := x) (by omega)
        refine lv_aload_n hx hb dX7_out_75 rfl (lv_at hl 0 rfl) ?_
        refine r_get (v := .ref (b 14)) C G hX7 0 rfl rfl 28 (by decide) (by decide +kernel) rfl dX7_out_76 ?_
        refine lv_iload_n hx hb dX7_out_79 rfl (lv_at hl 1 rfl) ?_
        refine r_iald (v := (G0 1) x1) C G 14 0 rfl rfl x1 rfl (by omega) (by omega) rfl dX7_out_80 ?_
        refine lv_goto (tgt := 86) hx hb dX7_out_81 (by decide) ?_
        exact RET ((G0 1) x1) (mW cI b (va_up I 0 0) J F G0) _ _ ls _ _ _ (by rw [tn_nI hx1]; exact Or.inr (Or.inr (Or.inr (Or.inr (Or.inl (⟨by omega, by omega, rfl, rfl⟩)))))) G (by first | (simp only []; omega) | decide) (by first | (simp only []; omega) | decide) rfl dX7_out_86
    · skip
      refine lv_if_eq (tgt := 84) hx hb dX7_out_72 (by decide) (fun c72 => ?_) (fun c72 => ?_)
      · skip
        refine lv_bipush (v := ((-13))) hx hb dX7_out_84 (by decide) ?_
        exact RET ((-13)) (mW cI b (va_up I 0 0) J F G0) _ _ ls _ _ _ (Or.inr (Or.inr (Or.inr (Or.inr (Or.inr (⟨by omega, ko17, by omega, rfl, rfl⟩)))))) G (by first | (simp only []; omega) | decide) (by first | (simp only []; omega) | decide) rfl dX7_out_86
      · skip
        exact absurd c72 (by decide)
  · skip
    replace c10 : ((I 9 : Nat) : Int) = ((2 : Nat) : Int) := (cv_eq (nI_toInt (by omega)) (nI_toInt (by omega))).mp c10
    refine lv_bipush (v := ((-11))) hx hb dX7_out_13 (by decide) ?_
    exact RET ((-11)) (mW cI b (va_up I 0 0) J F G0) _ _ ls _ _ _ (Or.inl (⟨by omega, rfl, rfl⟩)) G (by first | (simp only []; omega) | decide) (by first | (simp only []; omega) | decide) rfl dX7_out_15
