theorem mof_le {n sz dp k : Nat} (h : sz ≤ 20) : mof n sz dp k ≤ 20 := by unfold mof; split <;> (try split) <;> omega
set_option maxHeartbeats 4000000 in
set_option maxRecDepth 100000 in
theorem c_X7_batch (l : Launch) (D : va_G) (cI cO cL : ClassId) (b : Nat → Nat) (I : Nat → Nat) (J : Nat → Int64) (F : Nat → Nat → Nat) (G0 : Nat → Nat → Int32) (x y k i : Int32) (h1 : I 1 ≤ 60) (hLb : ∀ j, j < I 1 → F 1 j < 8) (hWt : ∀ j, j < I 1 → F 2 j ≤ 1000) (hL : ∀ j, j < I 1 → F 3 j ≤ 1600) (h3 : 1 ≤ I 3 ∧ I 3 ≤ 60) (h4 : 1 ≤ I 4 ∧ I 4 ≤ 60) (h2 : I 2 ≤ 20) (h5 : I 5 ≤ 1) : Ki l yX7_batch wsX7_batch { frames := 6, cells := 0, slots := 0, locals := 142 } D (TY cI cO cL) [.ref (b 0), .int (x), .int (y), .int (k), .int (i)] (mW cI b I J F G0) (fun r w => (¬ (0 ≤ x.toInt ∧ x.toInt ≤ 4 ∧ 0 ≤ y.toInt ∧ y.toInt ≤ 1000 ∧ 0 ≤ k.toInt ∧ 0 ≤ i.toInt) ∧ r = -1 ∧ w = mW cI b (va_up I 0 0) J F G0) ∨ ((0 ≤ x.toInt ∧ x.toInt ≤ 4 ∧ 0 ≤ y.toInt ∧ y.toInt ≤ 1000 ∧ 0 ≤ k.toInt ∧ 0 ≤ i.toInt) ∧ I 2 = 0 ∧ r = -16 ∧ w = mW cI b (va_up I 0 0) J F G0) ∨ ((0 ≤ x.toInt ∧ x.toInt ≤ 4 ∧ 0 ≤ y.toInt ∧ y.toInt ≤ 1000 ∧ 0 ≤ k.toInt ∧ 0 ≤ i.toInt) ∧ I 2 ≠ 0 ∧ (tn x = 2 ∧ I 1 ≠ 0 ∧ wsum (F 2) (I 1) = 0) ∧ r = -16 ∧ ∃ g σ, w = mW cI b (va_up I 0 0) (va_up J 1 (σ)) (va_up F 6 g) G0) ∨ ((0 ≤ x.toInt ∧ x.toInt ≤ 4 ∧ 0 ≤ y.toInt ∧ y.toInt ≤ 1000 ∧ 0 ≤ k.toInt ∧ 0 ≤ i.toInt) ∧ I 2 ≠ 0 ∧ ¬ (tn x = 2 ∧ I 1 ≠ 0 ∧ wsum (F 2) (I 1) = 0) ∧ ∃ g q7 q8 q9 q10 q11 σ, OrdIs (I 1) (I 3) (I 4) (F 1) (F 2) (F 3) (J 0) (tn x) (tn y) g ∧ ((tn i < mof (I 1) (I 2) (I 5) (tn k) ∧ r = nI (g (tn k * I 2 + tn i))) ∨ (¬ tn i < mof (I 1) (I 2) (I 5) (tn k) ∧ r = -3)) ∧ w = mW cI b (va_up I 0 0) (va_up J 1 (σ)) (va_up (va_up (va_up (va_up (va_up (va_up F 6 g) 7 q7) 8 q8) 9 q9) 10 q10) 11 q11) G0)) := by
  refine Ki.mk (cc := cX7_batch) (maxL := 5) (rt := .int) (own := RX7) (by decide) rfl rfl (Nat.le_of_ble_eq_true rfl) ?_
  intro p e s m below meth c A Q ls C hname hA G hl RET
  obtain ⟨⟨hx, hb, hml, hown, hts⟩, hK, hN⟩ := id C
  have hl : lv_has ls 5 [(0, .ref (b 0)), (1, .int (x)), (2, .int (y)), (3, .int (k)), (4, .int (i))] := hl
  have hX7 : ∀ w ∈ u_ws RX7 TX7 30, w ∈ wsX7_batch := by decide +kernel
  refine lv_aload_n hx hb dX7_batch_0 rfl (lv_at hl 0 rfl) ?_
  refine lv_iconst (v := (nI (0))) hx hb dX7_batch_1 (by decide) ?_
  refine r_put (ws' := mW cI b (va_up I 0 0) J F G0) C G hX7 tyX7_ok nmX7 0 rfl rfl 0 (by decide) (by decide +kernel) rfl rfl rfl (Nat.le_of_ble_eq_true rfl) dX7_batch_2 rfl (fun H locs G => ?_)
  refine lv_aload_n hx hb dX7_batch_5 rfl (lv_at hl 0 rfl) ?_
  refine lv_iload_n hx hb dX7_batch_6 rfl (lv_at hl 1 rfl) ?_
  refine lv_iload_n hx hb dX7_batch_7 rfl (lv_at hl 2 rfl) ?_
  refine r_ai G hA (r_rV (na := 2) (As := [.int (x), .int (y)]) (rest := []) C G (c_X7_isAsked l D cI cO cL b (va_up I 0 0) J F G0 x y) gX7_batch_X7_isAsked rfl (by decide +kernel) ⟨Nat.le_of_ble_eq_true rfl, Nat.le_of_ble_eq_true rfl⟩ 0 rfl rfl rfl hl.1 rfl (Nat.le_of_ble_eq_true rfl) dX7_batch_8 ⟨by first | (simp only []; omega) | decide, by first | (simp only []; omega) | decide⟩) (fun r8 w8 H locs hp8 G => ?_)
  rcases hp8 with ⟨rfl, rfl, hi8⟩ | ⟨rfl, rfl, hi8⟩
  · skip
    refine lv_if_eq (tgt := 23) hx hb dX7_batch_11 (by decide) (fun c11 => ?_) (fun c11 => ?_)
    · skip
      exact absurd c11 (by decide)
    · skip
      refine lv_iload_n hx hb dX7_batch_14 rfl (lv_at hl 3 rfl) ?_
      refine lv_if_lt (tgt := 23) hx hb dX7_batch_15 (by decide) (fun c15 => ?_) (fun c15 => ?_)
      · skip
        replace c15 : (k).toInt < (0) := (cv_lt rfl (by decide)).mp c15
        refine lv_iconst (v := ((-1))) hx hb dX7_batch_23 (by decide) ?_
        exact RET ((-1)) (mW cI b (va_up I 0 0) J F G0) _ _ ls _ _ _ (Or.inl ⟨by omega, rfl, rfl⟩) G (by first | (simp only []; omega) | decide) (by first | (simp only []; omega) | decide) rfl dX7_batch_24
      · skip
        replace c15 : (0) ≤ (k).toInt := Int.not_lt.mp (fun h => c15 ((cv_lt rfl (by decide)).mpr h))
        refine lv_iload hx hb dX7_batch_18 (lv_at hl 4 rfl) ?_
        refine lv_if_ge (tgt := 25) hx hb dX7_batch_20 (by decide) (fun c20 => ?_) (fun c20 => ?_)
        · skip
          replace c20 : (0) ≤ (i).toInt := (cv_le (by decide) rfl).mp c20
          obtain ⟨x1, hx1, ex1, rfl⟩ := nat_of (x := x) (by omega)
          obtain ⟨y1, hy1, ey1, rfl⟩ := nat_of (x := y) (by omega)
          obtain ⟨k1, hk1, ek1, rfl⟩ := nat_of (x := k) (by omega)
          obtain ⟨i1, hi1, ei1, rfl⟩ := nat_of (x := i) (by omega)
          refine lv_aload_n hx hb dX7_batch_25 rfl (lv_at hl 0 rfl) ?_
          refine r_get (v := .int (nI (I 2))) C G hX7 0 rfl rfl 11 (by decide) (by decide +kernel) rfl dX7_batch_26 ?_
          refine lv_if_eq (tgt := 41) hx hb dX7_batch_29 (by decide) (fun c29 => ?_) (fun c29 => ?_)
          · skip
            replace c29 : ((I 2 : Nat) : Int) = (0) := (cv_eq (nI_toInt (by omega)) (by decide)).mp c29
            refine lv_bipush (v := ((-16))) hx hb dX7_batch_41 (by decide) ?_
            exact RET ((-16)) (mW cI b (va_up I 0 0) J F G0) _ _ ls _ _ _ (by rw [tn_nI hx1, tn_nI hy1, tn_nI hk1, tn_nI hi1]; exact Or.inr (Or.inl ⟨by omega, by omega, rfl, rfl⟩)) G (by first | (simp only []; omega) | decide) (by first | (simp only []; omega) | decide) rfl dX7_batch_43
          · skip
            replace c29 : ¬ ((I 2 : Nat) : Int) = (0) := fun h => c29 ((cv_eq (nI_toInt (by omega)) (by decide)).mpr h)
            refine lv_aload_n hx hb dX7_batch_32 rfl (lv_at hl 0 rfl) ?_
            refine lv_iload_n hx hb dX7_batch_33 rfl (lv_at hl 1 rfl) ?_
            refine lv_iload_n hx hb dX7_batch_34 rfl (lv_at hl 2 rfl) ?_
            refine r_ai G hA (r_rV (na := 2) (As := [.int (nI (x1)), .int (nI (y1))]) (rest := []) C G (c_X7_orders l D cI cO cL b (va_up I 0 0) J F G0 x1 y1 h1 hLb hWt hL h3 h4 (by omega) (by omega)) gX7_batch_X7_orders rfl (by decide +kernel) ⟨Nat.le_of_ble_eq_true rfl, Nat.le_of_ble_eq_true rfl⟩ 0 rfl rfl rfl hl.1 rfl (Nat.le_of_ble_eq_true rfl) dX7_batch_35 ⟨by first | (simp only []; omega) | decide, by first | (simp only []; omega) | decide⟩) (fun r35 w35 H locs hp35 G => ?_)
            rcases hp35 with ⟨hbw35, rfl, g35, σ35, rfl⟩ | ⟨hbw35, rfl, g35, q7_35, q8_35, q9_35, q10_35, q11_35, σ35, hg35, rfl⟩
            · skip
              replace hbw35 : (x1 = 2 ∧ I 1 ≠ 0 ∧ wsum (F 2) (I 1) = 0) := hbw35
              refine lv_if_ne (tgt := 44) hx hb dX7_batch_38 (by decide) (fun c38 => ?_) (fun c38 => ?_)
              · skip
                exact absurd c38 (by decide)
              · skip
                refine lv_bipush (v := ((-16))) hx hb dX7_batch_41 (by decide) ?_
                exact RET ((-16)) (mW cI b (va_up I 0 0) (va_up J 1 (σ35)) (va_up F 6 g35) G0) _ _ ls _ _ _ (by rw [tn_nI hx1, tn_nI hy1, tn_nI hk1, tn_nI hi1]; exact Or.inr (Or.inr (Or.inl ⟨by omega, by omega, hbw35, rfl, _, _, rfl⟩))) G (by first | (simp only []; omega) | decide) (by first | (simp only []; omega) | decide) rfl dX7_batch_43
            · skip
              replace hbw35 : ¬ (x1 = 2 ∧ I 1 ≠ 0 ∧ wsum (F 2) (I 1) = 0) := hbw35
              replace hg35 : OrdIs (I 1) (I 3) (I 4) (F 1) (F 2) (F 3) (J 0) x1 y1 g35 := hg35
              refine lv_if_ne (tgt := 44) hx hb dX7_batch_38 (by decide) (fun c38 => ?_) (fun c38 => ?_)
              · skip
                have hmle := mof_le (n := I 1) (sz := I 2) (dp := I 5) (k := k1) h2
                refine lv_iload hx hb dX7_batch_44 (lv_at hl 4 rfl) ?_
                refine lv_aload_n hx hb dX7_batch_46 rfl (lv_at hl 0 rfl) ?_
                refine lv_iload_n hx hb dX7_batch_47 rfl (lv_at hl 3 rfl) ?_
                refine r_ai G hA (r_rV (na := 1) (As := [.int (nI (k1))]) (rest := [.int (nI (i1))]) C G (c_X7_manyOf l D cI cO cL b (va_up I 0 0) (va_up J 1 (σ35)) (va_up (va_up (va_up (va_up (va_up (va_up F 6 g35) 7 q7_35) 8 q8_35) 9 q9_35) 10 q10_35) 11 q11_35) G0 k1 (by omega) h1 h2 h5) gX7_batch_X7_manyOf rfl (by decide +kernel) ⟨Nat.le_of_ble_eq_true rfl, Nat.le_of_ble_eq_true rfl⟩ 0 rfl rfl rfl hl.1 rfl (Nat.le_of_ble_eq_true rfl) dX7_batch_48 ⟨by first | (simp only []; omega) | decide, by first | (simp only []; omega) | decide⟩) (fun r48 w48 H locs hp48 G => ?_)
                obtain ⟨rfl, rfl⟩ := hp48
                refine r_top (y := nI (mof (I 1) (I 2) (I 5) k1)) rfl ?_
                refine lv_icmp_ge (tgt := 71) hx hb dX7_batch_51 (by decide) (fun c51 => ?_) (fun c51 => ?_)
                · skip
                  replace c51 : ((mof (I 1) (I 2) (I 5) k1 : Nat) : Int) ≤ ((i1 : Nat) : Int) := (cv_le (nI_toInt (by omega)) (nI_toInt (by omega))).mp c51
                  refine lv_bipush (v := ((-3))) hx hb dX7_batch_71 (by decide) ?_
                  exact RET ((-3)) (mW cI b (va_up I 0 0) (va_up J 1 (σ35)) (va_up (va_up (va_up (va_up (va_up (va_up F 6 g35) 7 q7_35) 8 q8_35) 9 q9_35) 10 q10_35) 11 q11_35) G0) _ _ ls _ _ _ (by rw [tn_nI hx1, tn_nI hy1, tn_nI hk1, tn_nI hi1]; exact Or.inr (Or.inr (Or.inr ⟨by omega, by omega, hbw35, _, _, _, _, _, _, _, hg35, Or.inr ⟨by omega, rfl⟩, rfl⟩))) G (by first | (simp only []; omega) | decide) (by first | (simp only []; omega) | decide) rfl dX7_batch_73
                · skip
                  replace c51 : ((i1 : Nat) : Int) < ((mof (I 1) (I 2) (I 5) k1 : Nat) : Int) := Int.not_le.mp (fun h => c51 ((cv_le (nI_toInt (by omega)) (nI_toInt (by omega))).mpr h))
                  have hmf := (mof_iff (n := I 1) (sz := I 2) (dp := I 5) (k := k1) (t := i1) (by omega) (by omega)).mp (by omega)
                  refine lv_aload_n hx hb dX7_batch_54 rfl (lv_at hl 0 rfl) ?_
                  refine r_get (v := .ref (b 8)) C G hX7 0 rfl rfl 15 (by decide) (by decide +kernel) rfl dX7_batch_55 ?_
                  refine lv_iload_n hx hb dX7_batch_58 rfl (lv_at hl 3 rfl) ?_
                  refine lv_aload_n hx hb dX7_batch_59 rfl (lv_at hl 0 rfl) ?_
                  refine r_get (v := .int (nI (I 2))) C G hX7 0 rfl rfl 11 (by decide) (by decide +kernel) rfl dX7_batch_60 ?_
                  refine r_imul hx hb dX7_batch_63 ?_
                  refine lv_iload hx hb dX7_batch_64 (lv_at hl 4 rfl) ?_
                  refine r_iadd hx hb dX7_batch_66 ?_
                  refine r_iald (v := nI (g35 ((k1 * (I 2)) + i1))) C G 8 0 rfl rfl ((k1 * (I 2)) + i1) rfl (by omega) (by omega) rfl dX7_batch_67 ?_
                  refine lv_goto (tgt := 73) hx hb dX7_batch_68 (by decide) ?_
                  exact RET (nI (g35 ((k1 * (I 2)) + i1))) (mW cI b (va_up I 0 0) (va_up J 1 (σ35)) (va_up (va_up (va_up (va_up (va_up (va_up F 6 g35) 7 q7_35) 8 q8_35) 9 q9_35) 10 q10_35) 11 q11_35) G0) _ _ ls _ _ _ (by rw [tn_nI hx1, tn_nI hy1, tn_nI hk1, tn_nI hi1]; exact Or.inr (Or.inr (Or.inr ⟨by omega, by omega, hbw35, _, _, _, _, _, _, _, hg35, Or.inl ⟨by omega, rfl⟩, rfl⟩))) G (by first | (simp only []; omega) | decide) (by first | (simp only []; omega) | decide) rfl dX7_batch_73
              · skip
                exact absurd c38 (by decide)
        · skip
          replace c20 : (i).toInt < (0) := Int.not_le.mp (fun h => c20 ((cv_le (by decide) rfl).mpr h))
          refine lv_iconst (v := ((-1))) hx hb dX7_batch_23 (by decide) ?_
          exact RET ((-1)) (mW cI b (va_up I 0 0) J F G0) _ _ ls _ _ _ (Or.inl ⟨by omega, rfl, rfl⟩) G (by first | (simp only []; omega) | decide) (by first | (simp only []; omega) | decide) rfl dX7_batch_24
  · skip
    refine lv_if_eq (tgt := 23) hx hb dX7_batch_11 (by decide) (fun c11 => ?_) (fun c11 => ?_)
    · skip
      refine lv_iconst (v := ((-1))) hx hb dX7_batch_23 (by decide) ?_
      exact RET ((-1)) (mW cI b (va_up I 0 0) J F G0) _ _ ls _ _ _ (Or.inl ⟨by omega, rfl, rfl⟩) G (by first | (simp only []; omega) | decide) (by first | (simp only []; omega) | decide) rfl dX7_batch_24
    · skip
      exact absurd c11 (by decide)
set_option maxHeartbeats 4000000 in
set_option maxRecDepth 100000 in
theorem c_X7_share (l : Launch) (D : va_G) (cI cO cL : ClassId) (b : Nat → Nat) (I : Nat → Nat) (J : Nat → Int64) (F : Nat → Nat → Nat) (G0 : Nat → Nat → Int32) (x y k u v i : Int32) (h1 : I 1 ≤ 60) (hLb : ∀ j, j < I 1 → F 1 j < 8) (hWt : ∀ j, j < I 1 → F 2 j ≤ 1000) (hL : ∀ j, j < I 1 → F 3 j ≤ 1600) (h3 : 1 ≤ I 3 ∧ I 3 ≤ 60) (h4 : 1 ≤ I 4 ∧ I 4 ≤ 60) (h2 : I 2 ≤ 20) (h5 : I 5 ≤ 1) : Ki l yX7_share wsX7_share { frames := 6, cells := 0, slots := 0, locals := 142 } D (TY cI cO cL) [.ref (b 0), .int (x), .int (y), .int (k), .int (u), .int (v), .int (i)] (mW cI b I J F G0) (fun r w => (¬ (0 ≤ x.toInt ∧ x.toInt ≤ 4 ∧ 0 ≤ y.toInt ∧ y.toInt ≤ 1000 ∧ 0 ≤ k.toInt ∧ 0 ≤ i.toInt ∧ 1 ≤ u.toInt ∧ u.toInt ≤ 8 ∧ 0 ≤ v.toInt ∧ v.toInt < u.toInt) ∧ r = -1 ∧ w = mW cI b (va_up I 0 0) J F G0) ∨ ((0 ≤ x.toInt ∧ x.toInt ≤ 4 ∧ 0 ≤ y.toInt ∧ y.toInt ≤ 1000 ∧ 0 ≤ k.toInt ∧ 0 ≤ i.toInt ∧ 1 ≤ u.toInt ∧ u.toInt ≤ 8 ∧ 0 ≤ v.toInt ∧ v.toInt < u.toInt) ∧ I 2 = 0 ∧ r = -16 ∧ w = mW cI b (va_up I 0 0) J F G0) ∨ ((0 ≤ x.toInt ∧ x.toInt ≤ 4 ∧ 0 ≤ y.toInt ∧ y.toInt ≤ 1000 ∧ 0 ≤ k.toInt ∧ 0 ≤ i.toInt ∧ 1 ≤ u.toInt ∧ u.toInt ≤ 8 ∧ 0 ≤ v.toInt ∧ v.toInt < u.toInt) ∧ I 2 ≠ 0 ∧ (tn x = 2 ∧ I 1 ≠ 0 ∧ wsum (F 2) (I 1) = 0) ∧ r = -16 ∧ ∃ g σ, w = mW cI b (va_up I 0 0) (va_up J 1 (σ)) (va_up F 6 g) G0) ∨ ((0 ≤ x.toInt ∧ x.toInt ≤ 4 ∧ 0 ≤ y.toInt ∧ y.toInt ≤ 1000 ∧ 0 ≤ k.toInt ∧ 0 ≤ i.toInt ∧ 1 ≤ u.toInt ∧ u.toInt ≤ 8 ∧ 0 ≤ v.toInt ∧ v.toInt < u.toInt) ∧ I 2 ≠ 0 ∧ ¬ (tn x = 2 ∧ I 1 ≠ 0 ∧ wsum (F 2) (I 1) = 0) ∧ ∃ g q7 q8 q9 q10 q11 σ, OrdIs (I 1) (I 3) (I 4) (F 1) (F 2) (F 3) (J 0) (tn x) (tn y) g ∧ (((tn i * tn u + tn v) < mof (I 1) (I 2) (I 5) (tn k) ∧ r = nI (g (tn k * I 2 + (tn i * tn u + tn v)))) ∨ (¬ (tn i * tn u + tn v) < mof (I 1) (I 2) (I 5) (tn k) ∧ r = -3)) ∧ w = mW cI b (va_up I 0 0) (va_up J 1 (σ)) (va_up (va_up (va_up (va_up (va_up (va_up F 6 g) 7 q7) 8 q8) 9 q9) 10 q10) 11 q11) G0)) := by
  refine Ki.mk (cc := cX7_share) (maxL := 9) (rt := .int) (own := RX7) (by decide) rfl rfl (Nat.le_of_ble_eq_true rfl) ?_
  intro p e s m below meth c A Q ls C hname hA G hl RET
  obtain ⟨⟨hx, hb, hml, hown, hts⟩, hK, hN⟩ := id C
  have hl : lv_has ls 9 [(0, .ref (b 0)), (1, .int (x)), (2, .int (y)), (3, .int (k)), (4, .int (u)), (5, .int (v)), (6, .int (i))] := hl
  have hX7 : ∀ w ∈ u_ws RX7 TX7 30, w ∈ wsX7_share := by decide +kernel
  refine lv_aload_n hx hb dX7_share_0 rfl (lv_at hl 0 rfl) ?_
  refine lv_iconst (v := (nI (0))) hx hb dX7_share_1 (by decide) ?_
  refine r_put (ws' := mW cI b (va_up I 0 0) J F G0) C G hX7 tyX7_ok nmX7 0 rfl rfl 0 (by decide) (by decide +kernel) rfl rfl rfl (Nat.le_of_ble_eq_true rfl) dX7_share_2 rfl (fun H locs G => ?_)
  refine lv_aload_n hx hb dX7_share_5 rfl (lv_at hl 0 rfl) ?_
  refine lv_iload_n hx hb dX7_share_6 rfl (lv_at hl 1 rfl) ?_
  refine lv_iload_n hx hb dX7_share_7 rfl (lv_at hl 2 rfl) ?_
  refine r_ai G hA (r_rV (na := 2) (As := [.int (x), .int (y)]) (rest := []) C G (c_X7_isAsked l D cI cO cL b (va_up I 0 0) J F G0 x y) gX7_share_X7_isAsked rfl (by decide +kernel) ⟨Nat.le_of_ble_eq_true rfl, Nat.le_of_ble_eq_true rfl⟩ 0 rfl rfl rfl hl.1 rfl (Nat.le_of_ble_eq_true rfl) dX7_share_8 ⟨by first | (simp only []; omega) | decide, by first | (simp only []; omega) | decide⟩) (fun r8 w8 H locs hp8 G => ?_)
  rcases hp8 with ⟨rfl, rfl, hi8⟩ | ⟨rfl, rfl, hi8⟩
  · skip
    refine lv_if_eq (tgt := 51) hx hb dX7_share_11 (by decide) (fun c11 => ?_) (fun c11 => ?_)
    · skip
      exact absurd c11 (by decide)
    · skip
      refine lv_iload_n hx hb dX7_share_14 rfl (lv_at hl 3 rfl) ?_
      refine lv_if_lt (tgt := 51) hx hb dX7_share_15 (by decide) (fun c15 => ?_) (fun c15 => ?_)
      · skip
        replace c15 : (k).toInt < (0) := (cv_lt rfl (by decide)).mp c15
        refine lv_iconst (v := ((-1))) hx hb dX7_share_51 (by decide) ?_
        exact RET ((-1)) (mW cI b (va_up I 0 0) J F G0) _ _ ls _ _ _ (Or.inl ⟨by omega, rfl, rfl⟩) G (by first | (simp only []; omega) | decide) (by first | (simp only []; omega) | decide) rfl dX7_share_52
      · skip
        replace c15 : (0) ≤ (k).toInt := Int.not_lt.mp (fun h => c15 ((cv_lt rfl (by decide)).mpr h))
        refine lv_iload hx hb dX7_share_18 (lv_at hl 6 rfl) ?_
        refine lv_if_lt (tgt := 51) hx hb dX7_share_20 (by decide) (fun c20 => ?_) (fun c20 => ?_)
        · skip
          replace c20 : (i).toInt < (0) := (cv_lt rfl (by decide)).mp c20
          refine lv_iconst (v := ((-1))) hx hb dX7_share_51 (by decide) ?_
          exact RET ((-1)) (mW cI b (va_up I 0 0) J F G0) _ _ ls _ _ _ (Or.inl ⟨by omega, rfl, rfl⟩) G (by first | (simp only []; omega) | decide) (by first | (simp only []; omega) | decide) rfl dX7_share_52
        · skip
          replace c20 : (0) ≤ (i).toInt := Int.not_lt.mp (fun h => c20 ((cv_lt rfl (by decide)).mpr h))
          refine lv_iload hx hb dX7_share_23 (lv_at hl 4 rfl) ?_
          refine lv_i2l hx hb dX7_share_25 rfl ?_
          refine lv_lconst (v := 1) hx hb dX7_share_26 (by decide) ?_
          refine lv_ldc2 (v := (8)) hx hb hown (hts (.constantLong RX7 171 (8)) (by decide +kernel)) dX7_share_27 ?_
          refine r_ai G hA (r_rS (na := 3) (As := [.long (u.toInt64), .long (1), .long ((8))]) (rest := []) C G (c_X7_in l D cI cO cL (mW cI b (va_up I 0 0) J F G0) u.toInt64 1 ((8)) ((u).toInt) ((1)) ((8)) ((i2l_ti rfl)) ((by decide)) ((by decide))) gX7_share_X7_in rfl (by decide +kernel) ⟨Nat.le_of_ble_eq_true rfl, Nat.le_of_ble_eq_true rfl⟩ rfl hl.1 rfl (Nat.le_of_ble_eq_true rfl) dX7_share_30 ⟨by first | (simp only []; omega) | decide, by first | (simp only []; omega) | decide⟩) (fun r30 w30 H locs hp30 G => ?_)
          rcases hp30 with ⟨rfl, rfl, hi30⟩ | ⟨rfl, rfl, hi30⟩
          · skip
            refine lv_if_eq (tgt := 51) hx hb dX7_share_33 (by decide) (fun c33 => ?_) (fun c33 => ?_)
            · skip
              exact absurd c33 (by decide)
            · skip
              refine lv_iload hx hb dX7_share_36 (lv_at hl 5 rfl) ?_
              refine lv_i2l hx hb dX7_share_38 rfl ?_
              refine lv_lconst (v := 0) hx hb dX7_share_39 (by decide) ?_
              refine lv_iload hx hb dX7_share_40 (lv_at hl 4 rfl) ?_
              refine lv_iconst (v := (nI (1))) hx hb dX7_share_42 (by decide) ?_
              obtain ⟨u1, hu1, eu1, rfl⟩ := nat_of (x := u) (by omega)
              refine r_isub hx hb (by omega) dX7_share_43 ?_
              refine lv_i2l (v := lN (u1 - 1)) hx hb dX7_share_44 (nI_l (by omega)) ?_
              refine r_ai G hA (r_rS (na := 3) (As := [.long (v.toInt64), .long (0), .long (lN (u1 - 1))]) (rest := []) C G (c_X7_in l D cI cO cL (mW cI b (va_up I 0 0) J F G0) v.toInt64 0 (lN (u1 - 1)) ((v).toInt) ((0)) ((((u1 - 1) : Nat) : Int)) ((i2l_ti rfl)) ((by decide)) ((pk_lT (by omega)))) gX7_share_X7_in rfl (by decide +kernel) ⟨Nat.le_of_ble_eq_true rfl, Nat.le_of_ble_eq_true rfl⟩ rfl hl.1 rfl (Nat.le_of_ble_eq_true rfl) dX7_share_45 ⟨by first | (simp only []; omega) | decide, by first | (simp only []; omega) | decide⟩) (fun r45 w45 H locs hp45 G => ?_)
              rcases hp45 with ⟨rfl, rfl, hi45⟩ | ⟨rfl, rfl, hi45⟩
              · skip
                refine lv_if_ne (tgt := 53) hx hb dX7_share_48 (by decide) (fun c48 => ?_) (fun c48 => ?_)
                · skip
                  obtain ⟨x1, hx1, ex1, rfl⟩ := nat_of (x := x) (by omega)
                  obtain ⟨y1, hy1, ey1, rfl⟩ := nat_of (x := y) (by omega)
                  obtain ⟨k1, hk1, ek1, rfl⟩ := nat_of (x := k) (by omega)
                  obtain ⟨v1, hv1, ev1, rfl⟩ := nat_of (x := v) (by omega)
                  obtain ⟨i1, hi1, ei1, rfl⟩ := nat_of (x := i) (by omega)
                  refine lv_aload_n hx hb dX7_share_53 rfl (lv_at hl 0 rfl) ?_
                  refine r_get (v := .int (nI (I 2))) C G hX7 0 rfl rfl 11 (by decide) (by decide +kernel) rfl dX7_share_54 ?_
                  refine lv_if_eq (tgt := 69) hx hb dX7_share_57 (by decide) (fun c57 => ?_) (fun c57 => ?_)
                  · skip
                    replace c57 : ((I 2 : Nat) : Int) = (0) := (cv_eq (nI_toInt (by omega)) (by decide)).mp c57
                    refine lv_bipush (v := ((-16))) hx hb dX7_share_69 (by decide) ?_
                    exact RET ((-16)) (mW cI b (va_up I 0 0) J F G0) _ _ ls _ _ _ (by rw [tn_nI hx1, tn_nI hy1, tn_nI hk1, tn_nI hu1, tn_nI hv1, tn_nI hi1]; exact Or.inr (Or.inl ⟨by omega, by omega, rfl, rfl⟩)) G (by first | (simp only []; omega) | decide) (by first | (simp only []; omega) | decide) rfl dX7_share_71
                  · skip
                    replace c57 : ¬ ((I 2 : Nat) : Int) = (0) := fun h => c57 ((cv_eq (nI_toInt (by omega)) (by decide)).mpr h)
                    refine lv_aload_n hx hb dX7_share_60 rfl (lv_at hl 0 rfl) ?_
                    refine lv_iload_n hx hb dX7_share_61 rfl (lv_at hl 1 rfl) ?_
                    refine lv_iload_n hx hb dX7_share_62 rfl (lv_at hl 2 rfl) ?_
                    refine r_ai G hA (r_rV (na := 2) (As := [.int (nI (x1)), .int (nI (y1))]) (rest := []) C G (c_X7_orders l D cI cO cL b (va_up I 0 0) J F G0 x1 y1 h1 hLb hWt hL h3 h4 (by omega) (by omega)) gX7_share_X7_orders rfl (by decide +kernel) ⟨Nat.le_of_ble_eq_true rfl, Nat.le_of_ble_eq_true rfl⟩ 0 rfl rfl rfl hl.1 rfl (Nat.le_of_ble_eq_true rfl) dX7_share_63 ⟨by first | (simp only []; omega) | decide, by first | (simp only []; omega) | decide⟩) (fun r63 w63 H locs hp63 G => ?_)
                    rcases hp63 with ⟨hbw63, rfl, g63, σ63, rfl⟩ | ⟨hbw63, rfl, g63, q7_63, q8_63, q9_63, q10_63, q11_63, σ63, hg63, rfl⟩
                    · skip
                      replace hbw63 : (x1 = 2 ∧ I 1 ≠ 0 ∧ wsum (F 2) (I 1) = 0) := hbw63
                      refine lv_if_ne (tgt := 72) hx hb dX7_share_66 (by decide) (fun c66 => ?_) (fun c66 => ?_)
                      · skip
                        exact absurd c66 (by decide)
                      · skip
                        refine lv_bipush (v := ((-16))) hx hb dX7_share_69 (by decide) ?_
                        exact RET ((-16)) (mW cI b (va_up I 0 0) (va_up J 1 (σ63)) (va_up F 6 g63) G0) _ _ ls _ _ _ (by rw [tn_nI hx1, tn_nI hy1, tn_nI hk1, tn_nI hu1, tn_nI hv1, tn_nI hi1]; exact Or.inr (Or.inr (Or.inl ⟨by omega, by omega, hbw63, rfl, _, _, rfl⟩))) G (by first | (simp only []; omega) | decide) (by first | (simp only []; omega) | decide) rfl dX7_share_71
                    · skip
                      replace hbw63 : ¬ (x1 = 2 ∧ I 1 ≠ 0 ∧ wsum (F 2) (I 1) = 0) := hbw63
                      replace hg63 : OrdIs (I 1) (I 3) (I 4) (F 1) (F 2) (F 3) (J 0) x1 y1 g63 := hg63
                      refine lv_if_ne (tgt := 72) hx hb dX7_share_66 (by decide) (fun c66 => ?_) (fun c66 => ?_)
                      · skip
                        have hmle := mof_le (n := I 1) (sz := I 2) (dp := I 5) (k := k1) h2
                        refine lv_iload hx hb dX7_share_72 (lv_at hl 5 rfl) ?_
                        refine lv_i2l (v := lN (v1)) hx hb dX7_share_74 (nI_l (by omega)) ?_
                        refine lv_iload hx hb dX7_share_75 (lv_at hl 6 rfl) ?_
                        refine lv_i2l (v := lN (i1)) hx hb dX7_share_77 (nI_l (by omega)) ?_
                        refine lv_iload hx hb dX7_share_78 (lv_at hl 4 rfl) ?_
                        refine lv_i2l (v := lN (u1)) hx hb dX7_share_80 (nI_l (by omega)) ?_
                        refine lv_lmul hx hb dX7_share_81 ?_
                        refine lv_ladd hx hb dX7_share_82 ?_
                        have hmul : i1 * u1 ≤ i1 * 8 := Nat.mul_le_mul_left _ (by omega)
                        refine r_topl (y := lN (i1 * u1 + v1)) (by rw [lN_mul, lN_add, Nat.add_comm]) ?_
                        refine lv_lstore (lv' := [(7, .long (lN (i1 * u1 + v1))), (0, .ref (b 0)), (1, .int (nI (x1))), (2, .int (nI (y1))), (3, .int (nI (k1))), (4, .int (nI (u1))), (5, .int (nI (v1))), (6, .int (nI (i1)))]) hx hb dX7_share_83 hl (by decide) rfl (fun ls hl => ?_)
                        refine lv_lload hx hb dX7_share_85 (lv_at hl 0 rfl) ?_
                        refine lv_aload_n hx hb dX7_share_87 rfl (lv_at hl 1 rfl) ?_
                        refine lv_iload_n hx hb dX7_share_88 rfl (lv_at hl 4 rfl) ?_
                        refine r_ai G hA (r_rV (na := 1) (As := [.int (nI (k1))]) (rest := [.long (lN (i1 * u1 + v1))]) C G (c_X7_manyOf l D cI cO cL b (va_up I 0 0) (va_up J 1 (σ63)) (va_up (va_up (va_up (va_up (va_up (va_up F 6 g63) 7 q7_63) 8 q8_63) 9 q9_63) 10 q10_63) 11 q11_63) G0 k1 (by omega) h1 h2 h5) gX7_share_X7_manyOf rfl (by decide +kernel) ⟨Nat.le_of_ble_eq_true rfl, Nat.le_of_ble_eq_true rfl⟩ 0 rfl rfl rfl hl.1 rfl (Nat.le_of_ble_eq_true rfl) dX7_share_89 ⟨by first | (simp only []; omega) | decide, by first | (simp only []; omega) | decide⟩) (fun r89 w89 H locs hp89 G => ?_)
                        obtain ⟨rfl, rfl⟩ := hp89
                        refine r_top (y := nI (mof (I 1) (I 2) (I 5) k1)) rfl ?_
                        refine lv_i2l (v := lN (mof (I 1) (I 2) (I 5) k1)) hx hb dX7_share_92 (nI_l (by omega)) ?_
                        refine W.lcmp hx hb dX7_share_93 ?_
                        refine lv_if_ge (tgt := 115) hx hb dX7_share_94 (by decide) (fun c94 => ?_) (fun c94 => ?_)
                        · skip
                          replace c94 : (((mof (I 1) (I 2) (I 5) k1) : Nat) : Int) ≤ (((i1 * u1 + v1) : Nat) : Int) := ((lg_cmp_ge _ _).trans (cw_le (pk_lT (by omega)) (pk_lT (by omega)))).mp c94
                          refine lv_bipush (v := ((-3))) hx hb dX7_share_115 (by decide) ?_
                          exact RET ((-3)) (mW cI b (va_up I 0 0) (va_up J 1 (σ63)) (va_up (va_up (va_up (va_up (va_up (va_up F 6 g63) 7 q7_63) 8 q8_63) 9 q9_63) 10 q10_63) 11 q11_63) G0) _ _ ls _ _ _ (by rw [tn_nI hx1, tn_nI hy1, tn_nI hk1, tn_nI hu1, tn_nI hv1, tn_nI hi1]; exact Or.inr (Or.inr (Or.inr ⟨by omega, by omega, hbw63, _, _, _, _, _, _, _, hg63, Or.inr ⟨by omega, rfl⟩, rfl⟩))) G (by first | (simp only []; omega) | decide) (by first | (simp only []; omega) | decide) rfl dX7_share_117
                        · skip
                          replace c94 : (((i1 * u1 + v1) : Nat) : Int) < (((mof (I 1) (I 2) (I 5) k1) : Nat) : Int) := Int.not_le.mp (fun h => c94 (((lg_cmp_ge _ _).trans (cw_le (pk_lT (by omega)) (pk_lT (by omega)))).mpr h))
                          have hmf := (mof_iff (n := I 1) (sz := I 2) (dp := I 5) (k := k1) (t := i1 * u1 + v1) (by omega) (by omega)).mp (by omega)
                          refine lv_aload_n hx hb dX7_share_97 rfl (lv_at hl 1 rfl) ?_
                          refine r_get (v := .ref (b 8)) C G hX7 0 rfl rfl 15 (by decide) (by decide +kernel) rfl dX7_share_98 ?_
                          refine lv_iload_n hx hb dX7_share_101 rfl (lv_at hl 4 rfl) ?_
                          refine lv_aload_n hx hb dX7_share_102 rfl (lv_at hl 1 rfl) ?_
                          refine r_get (v := .int (nI (I 2))) C G hX7 0 rfl rfl 11 (by decide) (by decide +kernel) rfl dX7_share_103 ?_
                          refine r_imul hx hb dX7_share_106 ?_
                          refine lv_lload hx hb dX7_share_107 (lv_at hl 0 rfl) ?_
                          refine lv_l2i (v := nI (i1 * u1 + v1)) hx hb dX7_share_109 (lN_i _) ?_
                          refine r_iadd hx hb dX7_share_110 ?_
                          refine r_iald (v := nI (g63 ((k1 * (I 2)) + (i1 * u1 + v1)))) C G 8 0 rfl rfl ((k1 * (I 2)) + (i1 * u1 + v1)) rfl (by omega) (by omega) rfl dX7_share_111 ?_
                          refine lv_goto (tgt := 117) hx hb dX7_share_112 (by decide) ?_
                          exact RET (nI (g63 ((k1 * (I 2)) + (i1 * u1 + v1)))) (mW cI b (va_up I 0 0) (va_up J 1 (σ63)) (va_up (va_up (va_up (va_up (va_up (va_up F 6 g63) 7 q7_63) 8 q8_63) 9 q9_63) 10 q10_63) 11 q11_63) G0) _ _ ls _ _ _ (by rw [tn_nI hx1, tn_nI hy1, tn_nI hk1, tn_nI hu1, tn_nI hv1, tn_nI hi1]; exact Or.inr (Or.inr (Or.inr ⟨by omega, by omega, hbw63, _, _, _, _, _, _, _, hg63, Or.inl ⟨by omega, rfl⟩, rfl⟩))) G (by first | (simp only []; omega) | decide) (by first | (simp only []; omega) | decide) rfl dX7_share_117
                      · skip
                        exact absurd c66 (by decide)
                · skip
                  exact absurd c48 (by decide)
              · skip
                refine lv_if_ne (tgt := 53) hx hb dX7_share_48 (by decide) (fun c48 => ?_) (fun c48 => ?_)
                · skip
                  exact absurd c48 (by decide)
                · skip
                  refine lv_iconst (v := ((-1))) hx hb dX7_share_51 (by decide) ?_
                  exact RET ((-1)) (mW cI b (va_up I 0 0) J F G0) _ _ ls _ _ _ (Or.inl ⟨by omega, rfl, rfl⟩) G (by first | (simp only []; omega) | decide) (by first | (simp only []; omega) | decide) rfl dX7_share_52
          · skip
            refine lv_if_eq (tgt := 51) hx hb dX7_share_33 (by decide) (fun c33 => ?_) (fun c33 => ?_)
            · skip
              refine lv_iconst (v := ((-1))) hx hb dX7_share_51 (by decide) ?_
              exact RET ((-1)) (mW cI b (va_up I 0 0) J F G0) _ _ ls _ _ _ (Or.inl ⟨by omega, rfl, rfl⟩) G (by first | (simp only []; omega) | decide) (by first | (simp only []; omega) | decide) rfl dX7_share_52
            · skip
              exact absurd c33 (by decide)
  · skip
    refine lv_if_eq (tgt := 51) hx hb dX7_share_11 (by decide) (fun c11 => ?_) (fun c11 => ?_)
    · skip
      refine lv_iconst (v := ((-1))) hx hb dX7_share_51 (by decide) ?_
      exact RET ((-1)) (mW cI b (va_up I 0 0) J F G0) _ _ ls _ _ _ (Or.inl ⟨by omega, rfl, rfl⟩) G (by first | (simp only []; omega) | decide) (by first | (simp only []; omega) | decide) rfl dX7_share_52
    · skip
      exact absurd c11 (by decide)
set_option maxHeartbeats 4000000 in
set_option maxRecDepth 100000 in
theorem c_X7_once (l : Launch) (D : va_G) (cI cO cL : ClassId) (b : Nat → Nat) (I : Nat → Nat) (J : Nat → Int64) (F : Nat → Nat → Nat) (G0 : Nat → Nat → Int32) (x y : Int32) (h1 : I 1 ≤ 60) (hLb : ∀ j, j < I 1 → F 1 j < 8) (hWt : ∀ j, j < I 1 → F 2 j ≤ 1000) (hL : ∀ j, j < I 1 → F 3 j ≤ 1600) (h3 : 1 ≤ I 3 ∧ I 3 ≤ 60) (h4 : 1 ≤ I 4 ∧ I 4 ≤ 60) (h2 : I 2 ≤ 20) (h5 : I 5 ≤ 1) : Ki l yX7_once wsX7_once { frames := 6, cells := 0, slots := 0, locals := 142 } D (TY cI cO cL) [.ref (b 0), .int (x), .int (y)] (mW cI b I J F G0) (fun r w => (¬ (0 ≤ x.toInt ∧ x.toInt ≤ 4 ∧ 0 ≤ y.toInt ∧ y.toInt ≤ 1000) ∧ r = -1 ∧ w = mW cI b (va_up I 0 0) J F G0) ∨ ((0 ≤ x.toInt ∧ x.toInt ≤ 4 ∧ 0 ≤ y.toInt ∧ y.toInt ≤ 1000) ∧ (tn x = 2 ∧ I 1 ≠ 0 ∧ wsum (F 2) (I 1) = 0) ∧ r = -16 ∧ ∃ g σ, w = mW cI b (va_up I 0 0) (va_up J 1 (σ)) (va_up F 6 g) G0) ∨ ((0 ≤ x.toInt ∧ x.toInt ≤ 4 ∧ 0 ≤ y.toInt ∧ y.toInt ≤ 1000) ∧ ¬ (tn x = 2 ∧ I 1 ≠ 0 ∧ wsum (F 2) (I 1) = 0) ∧ ∃ g q7 q8 q9 q10 q11 σ, OrdIs (I 1) (I 3) (I 4) (F 1) (F 2) (F 3) (J 0) (tn x) (tn y) g ∧ ((onceP (I 1) g ∧ r = 1) ∨ (¬ onceP (I 1) g ∧ r = 0)) ∧ w = mW cI b (va_up I 0 0) (va_up J 1 (σ)) (va_up (va_up (va_up (va_up (va_up (va_up F 6 g) 7 q7) 8 q8) 9 q9) 10 q10) 11 q11) G0)) := by
  refine Ki.mk (cc := cX7_once) (maxL := 4) (rt := .int) (own := RX7) (by decide) rfl rfl (Nat.le_of_ble_eq_true rfl) ?_
  intro p e s m below meth c A Q ls C hname hA G hl RET
  obtain ⟨⟨hx, hb, hml, hown, hts⟩, hK, hN⟩ := id C
  have hl : lv_has ls 4 [(0, .ref (b 0)), (1, .int (x)), (2, .int (y))] := hl
  have hX7 : ∀ w ∈ u_ws RX7 TX7 30, w ∈ wsX7_once := by decide +kernel
  refine lv_aload_n hx hb dX7_once_0 rfl (lv_at hl 0 rfl) ?_
  refine lv_iconst (v := (nI (0))) hx hb dX7_once_1 (by decide) ?_
  refine r_put (ws' := mW cI b (va_up I 0 0) J F G0) C G hX7 tyX7_ok nmX7 0 rfl rfl 0 (by decide) (by decide +kernel) rfl rfl rfl (Nat.le_of_ble_eq_true rfl) dX7_once_2 rfl (fun H locs G => ?_)
  refine lv_aload_n hx hb dX7_once_5 rfl (lv_at hl 0 rfl) ?_
  refine lv_iload_n hx hb dX7_once_6 rfl (lv_at hl 1 rfl) ?_
  refine lv_iload_n hx hb dX7_once_7 rfl (lv_at hl 2 rfl) ?_
  refine r_ai G hA (r_rV (na := 2) (As := [.int (x), .int (y)]) (rest := []) C G (c_X7_isAsked l D cI cO cL b (va_up I 0 0) J F G0 x y) gX7_once_X7_isAsked rfl (by decide +kernel) ⟨Nat.le_of_ble_eq_true rfl, Nat.le_of_ble_eq_true rfl⟩ 0 rfl rfl rfl hl.1 rfl (Nat.le_of_ble_eq_true rfl) dX7_once_8 ⟨by first | (simp only []; omega) | decide, by first | (simp only []; omega) | decide⟩) (fun r8 w8 H locs hp8 G => ?_)
  rcases hp8 with ⟨rfl, rfl, hi8⟩ | ⟨rfl, rfl, hi8⟩
  · skip
    refine lv_if_ne (tgt := 16) hx hb dX7_once_11 (by decide) (fun c11 => ?_) (fun c11 => ?_)
    · skip
      obtain ⟨x1, hx1, ex1, rfl⟩ := nat_of (x := x) (by omega)
      obtain ⟨y1, hy1, ey1, rfl⟩ := nat_of (x := y) (by omega)
      refine lv_aload_n hx hb dX7_once_16 rfl (lv_at hl 0 rfl) ?_
      refine lv_iload_n hx hb dX7_once_17 rfl (lv_at hl 1 rfl) ?_
      refine lv_iload_n hx hb dX7_once_18 rfl (lv_at hl 2 rfl) ?_
      refine r_ai G hA (r_rV (na := 2) (As := [.int (nI (x1)), .int (nI (y1))]) (rest := []) C G (c_X7_orders l D cI cO cL b (va_up I 0 0) J F G0 x1 y1 h1 hLb hWt hL h3 h4 (by omega) (by omega)) gX7_once_X7_orders rfl (by decide +kernel) ⟨Nat.le_of_ble_eq_true rfl, Nat.le_of_ble_eq_true rfl⟩ 0 rfl rfl rfl hl.1 rfl (Nat.le_of_ble_eq_true rfl) dX7_once_19 ⟨by first | (simp only []; omega) | decide, by first | (simp only []; omega) | decide⟩) (fun r19 w19 H locs hp19 G => ?_)
      rcases hp19 with ⟨hbw19, rfl, g19, σ19, rfl⟩ | ⟨hbw19, rfl, g19, q7_19, q8_19, q9_19, q10_19, q11_19, σ19, hg19, rfl⟩
      · skip
        replace hbw19 : (x1 = 2 ∧ I 1 ≠ 0 ∧ wsum (F 2) (I 1) = 0) := hbw19
        refine lv_if_ne (tgt := 28) hx hb dX7_once_22 (by decide) (fun c22 => ?_) (fun c22 => ?_)
        · skip
          exact absurd c22 (by decide)
        · skip
          refine lv_bipush (v := ((-16))) hx hb dX7_once_25 (by decide) ?_
          exact RET ((-16)) (mW cI b (va_up I 0 0) (va_up J 1 (σ19)) (va_up F 6 g19) G0) _ _ ls _ _ _ (by rw [tn_nI hx1, tn_nI hy1]; exact Or.inr (Or.inl ⟨by omega, hbw19, rfl, _, _, rfl⟩)) G (by first | (simp only []; omega) | decide) (by first | (simp only []; omega) | decide) rfl dX7_once_27
      · skip
        replace hbw19 : ¬ (x1 = 2 ∧ I 1 ≠ 0 ∧ wsum (F 2) (I 1) = 0) := hbw19
        replace hg19 : OrdIs (I 1) (I 3) (I 4) (F 1) (F 2) (F 3) (J 0) x1 y1 g19 := hg19
        refine lv_if_ne (tgt := 28) hx hb dX7_once_22 (by decide) (fun c22 => ?_) (fun c22 => ?_)
        · skip
          refine lv_iconst (v := (nI (0))) hx hb dX7_once_28 (by decide) ?_
          refine lv_istore_n (lv' := [(3, .int (nI (0))), (0, .ref (b 0)), (1, .int (nI (x1))), (2, .int (nI (y1)))]) hx hb dX7_once_29 rfl hl (by decide) rfl (fun ls hl => ?_)
          have lp30 : ∀ (fuel30 : Nat) (k : Nat) (hm : I 1 - k < fuel30) (hk : k ≤ I 1) (H : Heap) (locs : List Loc) (ls : Array Slot), Wd A s.heap D (mW cI b (va_up I 0 0) (va_up J 1 (σ19)) (va_up (va_up (va_up (va_up (va_up (va_up F 6 g19) 7 (zN k q7_19)) 8 q8_19) 9 q9_19) 10 q10_19) 11 q11_19) G0) H locs → lv_has ls 4 [(0, .ref (b 0)), (3, .int (nI (k)))] → W p l e ({ frames := 6, cells := 0, slots := 0, locals := 142 } : Room) s m ([.ref (b 0), .int (nI (x1)), .int (nI (y1))] : List Value).toArray below meth c H locs 0 0 Q (F0 m 30 ls []) := by
            intro fuel30
            induction fuel30 with
            | zero => intro k hm hk; exact absurd hm (by omega)
            | succ fuel30 ih30 =>
              intro k hm hk H locs ls G hl
              refine lv_iload_n hx hb dX7_once_30 rfl (lv_at hl 1 rfl) ?_
              refine lv_aload_n hx hb dX7_once_31 rfl (lv_at hl 0 rfl) ?_
              refine r_get (v := .int (nI (I 1))) C G hX7 0 rfl rfl 3 (by decide) (by decide +kernel) rfl dX7_once_32 ?_
              refine lv_icmp_ge (tgt := 51) hx hb dX7_once_35 (by decide) (fun c35 => ?_) (fun c35 => ?_)
              · skip
                replace c35 : ((I 1 : Nat) : Int) ≤ ((k : Nat) : Int) := (cv_le (nI_toInt (by omega)) (nI_toInt (by omega))).mp c35
                obtain rfl : k = I 1 := by omega
                refine lv_iconst (v := (nI (0))) hx hb dX7_once_51 (by decide) ?_
                refine lv_istore_n (lv' := [(3, .int (nI (0))), (0, .ref (b 0))]) hx hb dX7_once_52 rfl hl (by decide) rfl (fun ls hl => ?_)
                have lp53 : ∀ (fuel53 : Nat) (p1 : Nat) (sc : Nat → Nat) (hm2 : I 1 - p1 < fuel53) (hp : p1 ≤ I 1) (hsc : ∀ y, y < I 1 → sc y = cl g19 y p1) (H : Heap) (locs : List Loc) (ls : Array Slot), Wd A s.heap D (mW cI b (va_up I 0 0) (va_up J 1 (σ19)) (va_up (va_up (va_up (va_up (va_up (va_up F 6 g19) 7 sc) 8 q8_19) 9 q9_19) 10 q10_19) 11 q11_19) G0) H locs → lv_has ls 4 [(0, .ref (b 0)), (3, .int (nI (p1)))] → W p l e ({ frames := 6, cells := 0, slots := 0, locals := 142 } : Room) s m ([.ref (b 0), .int (nI (x1)), .int (nI (y1))] : List Value).toArray below meth c H locs 0 0 Q (F0 m 53 ls []) := by
                  intro fuel53
                  induction fuel53 with
                  | zero => intro p1 sc hm2 hp hsc; exact absurd hm2 (by omega)
                  | succ fuel53 ih53 =>
                    intro p1 sc hm2 hp hsc H locs ls G hl
                    refine lv_iload_n hx hb dX7_once_53 rfl (lv_at hl 1 rfl) ?_
                    refine lv_aload_n hx hb dX7_once_54 rfl (lv_at hl 0 rfl) ?_
                    refine r_get (v := .int (nI (I 1))) C G hX7 0 rfl rfl 3 (by decide) (by decide +kernel) rfl dX7_once_55 ?_
                    refine lv_icmp_ge (tgt := 82) hx hb dX7_once_58 (by decide) (fun c58 => ?_) (fun c58 => ?_)
                    · skip
                      replace c58 : ((I 1 : Nat) : Int) ≤ ((p1 : Nat) : Int) := (cv_le (nI_toInt (by omega)) (nI_toInt (by omega))).mp c58
                      obtain rfl : p1 = I 1 := by omega
                      refine lv_iconst (v := (nI (0))) hx hb dX7_once_82 (by decide) ?_
                      refine lv_istore_n (lv' := [(3, .int (nI (0))), (0, .ref (b 0))]) hx hb dX7_once_83 rfl hl (by decide) rfl (fun ls hl => ?_)
                      have lp84 : ∀ (fuel84 : Nat) (z1 : Nat) (hm3 : I 1 - z1 < fuel84) (hz : z1 ≤ I 1) (hone : ∀ y, y < z1 → sc y = 1) (H : Heap) (locs : List Loc) (ls : Array Slot), Wd A s.heap D (mW cI b (va_up I 0 0) (va_up J 1 (σ19)) (va_up (va_up (va_up (va_up (va_up (va_up F 6 g19) 7 sc) 8 q8_19) 9 q9_19) 10 q10_19) 11 q11_19) G0) H locs → lv_has ls 4 [(0, .ref (b 0)), (3, .int (nI (z1)))] → W p l e ({ frames := 6, cells := 0, slots := 0, locals := 142 } : Room) s m ([.ref (b 0), .int (nI (x1)), .int (nI (y1))] : List Value).toArray below meth c H locs 0 0 Q (F0 m 84 ls []) := by
                        intro fuel84
                        induction fuel84 with
                        | zero => intro z1 hm3 hz hone; exact absurd hm3 (by omega)
                        | succ fuel84 ih84 =>
                          intro z1 hm3 hz hone H locs ls G hl
                          refine lv_iload_n hx hb dX7_once_84 rfl (lv_at hl 1 rfl) ?_
                          refine lv_aload_n hx hb dX7_once_85 rfl (lv_at hl 0 rfl) ?_
                          refine r_get (v := .int (nI (I 1))) C G hX7 0 rfl rfl 3 (by decide) (by decide +kernel) rfl dX7_once_86 ?_
                          refine lv_icmp_ge (tgt := 110) hx hb dX7_once_89 (by decide) (fun c89 => ?_) (fun c89 => ?_)
                          · skip
                            replace c89 : ((I 1 : Nat) : Int) ≤ ((z1 : Nat) : Int) := (cv_le (nI_toInt (by omega)) (nI_toInt (by omega))).mp c89
                            refine lv_iconst (v := (nI (1))) hx hb dX7_once_110 (by decide) ?_
                            exact RET (nI (1)) (mW cI b (va_up I 0 0) (va_up J 1 (σ19)) (va_up (va_up (va_up (va_up (va_up (va_up F 6 g19) 7 sc) 8 q8_19) 9 q9_19) 10 q10_19) 11 q11_19) G0) _ _ ls _ _ _ (by rw [tn_nI hx1, tn_nI hy1]; exact Or.inr (Or.inr ⟨by omega, hbw19, _, _, _, _, _, _, _, hg19, Or.inl ⟨(once_iff hg19.1).mpr (fun y hy => by rw [← hsc y hy]; exact hone y (by omega)), rfl⟩, rfl⟩)) G (by first | (simp only []; omega) | decide) (by first | (simp only []; omega) | decide) rfl dX7_once_111
                          · skip
                            replace c89 : ((z1 : Nat) : Int) < ((I 1 : Nat) : Int) := Int.not_le.mp (fun h => c89 ((cv_le (nI_toInt (by omega)) (nI_toInt (by omega))).mpr h))
                            have hsz := hsc z1 (by omega)
                            have hcz := cl_le (lb := g19) (x := z1) (I 1)
                            refine lv_aload_n hx hb dX7_once_92 rfl (lv_at hl 0 rfl) ?_
                            refine r_get (v := .ref (b 9)) C G hX7 0 rfl rfl 16 (by decide) (by decide +kernel) rfl dX7_once_93 ?_
                            refine lv_iload_n hx hb dX7_once_96 rfl (lv_at hl 1 rfl) ?_
                            refine r_iald (v := nI (sc z1)) C G 9 0 rfl rfl z1 rfl (by omega) (by omega) rfl dX7_once_97 ?_
                            refine lv_iconst (v := (nI (1))) hx hb dX7_once_98 (by decide) ?_
                            refine lv_icmp_eq (tgt := 104) hx hb dX7_once_99 (by decide) (fun c99 => ?_) (fun c99 => ?_)
                            · skip
                              replace c99 : ((sc z1 : Nat) : Int) = ((1 : Nat) : Int) := (cv_eq (nI_toInt (by omega)) (nI_toInt (by omega))).mp c99
                              refine lv_iinc (v := nI (z1 + 1)) (lv' := [(3, .int (nI (z1 + 1))), (0, .ref (b 0))]) hx hb dX7_once_104 hl (k := 1) rfl (inc_n _ 1) (by decide) rfl (fun ls hl => ?_)
                              refine lv_goto (tgt := 84) hx hb dX7_once_107 (by decide) ?_
                              exact ih84 (z1 + 1) (by omega) (by omega) (fun y hy => by rcases Nat.lt_or_ge y z1 with q | q; exact hone y q; (obtain rfl : y = z1 := (by omega); omega)) _ _ _ (G.eq (rfl)) (lv_sub hl [1, 0] rfl)
                            · skip
                              replace c99 : ¬ ((sc z1 : Nat) : Int) = ((1 : Nat) : Int) := fun h => c99 ((cv_eq (nI_toInt (by omega)) (nI_toInt (by omega))).mpr h)
                              refine lv_iconst (v := (nI (0))) hx hb dX7_once_102 (by decide) ?_
                              exact RET (nI (0)) (mW cI b (va_up I 0 0) (va_up J 1 (σ19)) (va_up (va_up (va_up (va_up (va_up (va_up F 6 g19) 7 sc) 8 q8_19) 9 q9_19) 10 q10_19) 11 q11_19) G0) _ _ ls _ _ _ (by rw [tn_nI hx1, tn_nI hy1]; exact Or.inr (Or.inr ⟨by omega, hbw19, _, _, _, _, _, _, _, hg19, Or.inr ⟨fun h => by have := (once_iff hg19.1).mp h z1 (by omega); omega, rfl⟩, rfl⟩)) G (by first | (simp only []; omega) | decide) (by first | (simp only []; omega) | decide) rfl dX7_once_103
                      exact lp84 (I 1 + 1) 0 (by omega) (by omega) (fun y hy => by omega) _ _ _ (G.eq (rfl)) (lv_sub hl [1, 0] rfl)
                    · skip
                      replace c58 : ((p1 : Nat) : Int) < ((I 1 : Nat) : Int) := Int.not_le.mp (fun h => c58 ((cv_le (nI_toInt (by omega)) (nI_toInt (by omega))).mpr h))
                      refine lv_aload_n hx hb dX7_once_61 rfl (lv_at hl 0 rfl) ?_
                      refine r_get (v := .ref (b 9)) C G hX7 0 rfl rfl 16 (by decide) (by decide +kernel) rfl dX7_once_62 ?_
                      refine lv_aload_n hx hb dX7_once_65 rfl (lv_at hl 0 rfl) ?_
                      refine r_get (v := .ref (b 8)) C G hX7 0 rfl rfl 15 (by decide) (by decide +kernel) rfl dX7_once_66 ?_
                      refine lv_iload_n hx hb dX7_once_69 rfl (lv_at hl 1 rfl) ?_
                      refine r_iald (v := nI (g19 p1)) C G 8 0 rfl rfl p1 rfl (by omega) (by omega) rfl dX7_once_70 ?_
                      have hgp := hg19.1 p1 (by omega)
                      obtain ⟨y9, ey⟩ : ∃ y9, y9 = g19 p1 := ⟨_, rfl⟩
                      rw [← ey] at hgp
                      refine r_top (y := nI y9) (by rw [ey]) ?_
                      have hsy := hsc y9 (by omega)
                      have hcy9 := cl_le (lb := g19) (x := y9) p1
                      refine lv_dup2_11 hx hb dX7_once_71 rfl rfl ?_
                      refine r_iald (v := nI (sc y9)) C G 9 0 rfl rfl y9 rfl (by omega) (by omega) rfl dX7_once_72 ?_
                      refine lv_iconst (v := (nI (1))) hx hb dX7_once_73 (by decide) ?_
                      refine r_iadd hx hb dX7_once_74 ?_
                      refine r_iast (ws' := mW cI b (va_up I 0 0) (va_up J 1 (σ19)) (va_up (va_up (va_up (va_up (va_up (va_up F 6 g19) 8 q8_19) 9 q9_19) 10 q10_19) 11 q11_19) 7 (va_up sc y9 ((sc y9) + 1))) G0) C G 9 0 rfl rfl y9 rfl (by omega) (by omega) (nI_upd _ _ _) dX7_once_75 rfl (fun H locs G => ?_)
                      refine lv_iinc (v := nI (p1 + 1)) (lv' := [(3, .int (nI (p1 + 1))), (0, .ref (b 0))]) hx hb dX7_once_76 hl (k := 1) rfl (inc_n _ 1) (by decide) rfl (fun ls hl => ?_)
                      refine lv_goto (tgt := 53) hx hb dX7_once_79 (by decide) ?_
                      exact ih53 (p1 + 1) (va_up sc y9 ((sc y9) + 1)) (by omega) (by omega) (fun z hz => by by_cases q : z = y9; (rw [q, up_same, hsy, cl_y ey.symm]); (rw [up_ne _ _ q, hsc z hz, cl_n (fun h => q (h.symm.trans ey.symm))])) _ _ _ (G.eq (rfl)) (lv_sub hl [1, 0] rfl)
                exact lp53 (I 1 + 1) 0 (zN (I 1) q7_19) (by omega) (by omega) (fun y hy => zN_in hy) _ _ _ (G.eq (rfl)) (lv_sub hl [1, 0] rfl)
              · skip
                replace c35 : ((k : Nat) : Int) < ((I 1 : Nat) : Int) := Int.not_le.mp (fun h => c35 ((cv_le (nI_toInt (by omega)) (nI_toInt (by omega))).mpr h))
                refine lv_aload_n hx hb dX7_once_38 rfl (lv_at hl 0 rfl) ?_
                refine r_get (v := .ref (b 9)) C G hX7 0 rfl rfl 16 (by decide) (by decide +kernel) rfl dX7_once_39 ?_
                refine lv_iload_n hx hb dX7_once_42 rfl (lv_at hl 1 rfl) ?_
                refine lv_iconst (v := (nI (0))) hx hb dX7_once_43 (by decide) ?_
                refine r_iast (ws' := mW cI b (va_up I 0 0) (va_up J 1 (σ19)) (va_up (va_up (va_up (va_up (va_up (va_up F 6 g19) 8 q8_19) 9 q9_19) 10 q10_19) 11 q11_19) 7 (zN (k + 1) q7_19)) G0) C G 9 0 rfl rfl k rfl (by omega) (by omega) (by rw [nI_upd]; exact congrArg (fun (g : Nat → Nat) => fun i => nI (g i)) (zN_s _ _)) dX7_once_44 rfl (fun H locs G => ?_)
                refine lv_iinc (v := nI (k + 1)) (lv' := [(3, .int (nI (k + 1))), (0, .ref (b 0))]) hx hb dX7_once_45 hl (k := 1) rfl (inc_n _ 1) (by decide) rfl (fun ls hl => ?_)
                refine lv_goto (tgt := 30) hx hb dX7_once_48 (by decide) ?_
                exact ih30 (k + 1) (by omega) (by omega) _ _ _ (G.eq (rfl)) (lv_sub hl [1, 0] rfl)
          exact lp30 (I 1 + 1) 0 (by omega) (by omega) _ _ _ (G.eq (by rw [zN_0])) (lv_sub hl [1, 0] rfl)
        · skip
          exact absurd c22 (by decide)
    · skip
      exact absurd c11 (by decide)
  · skip
    refine lv_if_ne (tgt := 16) hx hb dX7_once_11 (by decide) (fun c11 => ?_) (fun c11 => ?_)
    · skip
      exact absurd c11 (by decide)
    · skip
      refine lv_iconst (v := ((-1))) hx hb dX7_once_14 (by decide) ?_
      exact RET ((-1)) (mW cI b (va_up I 0 0) J F G0) _ _ ls _ _ _ (Or.inl ⟨by omega, rfl, rfl⟩) G (by first | (simp only []; omega) | decide) (by first | (simp only []; omega) | decide) rfl dX7_once_15
set_option maxHeartbeats 4000000 in
set_option maxRecDepth 100000 in
theorem c_X7_next (l : Launch) (D : va_G) (cI cO cL : ClassId) (b : Nat → Nat) (I : Nat → Nat) (J : Nat → Int64) (F : Nat → Nat → Nat) (G0 : Nat → Nat → Int32) (h1 : I 1 ≤ 60) (hLb : ∀ j, j < I 1 → F 1 j < 8) (hWt : ∀ j, j < I 1 → F 2 j ≤ 1000) (hL : ∀ j, j < I 1 → F 3 j ≤ 1600) (h3 : 1 ≤ I 3 ∧ I 3 ≤ 60) (h4 : 1 ≤ I 4 ∧ I 4 ≤ 60) (h2 : I 2 ≤ 20) (h5 : I 5 ≤ 1) (h6 : I 6 ≤ 4) (h7 : I 7 ≤ 1000) (h8 : I 8 ≤ 60) : Ki l yX7_next wsX7_next { frames := 6, cells := 0, slots := 0, locals := 142 } D (TY cI cO cL) [.ref (b 0)] (mW cI b I J F G0) (fun r w => (I 1 = 0 ∧ r = -3 ∧ w = mW cI b (va_up I 0 0) J F G0) ∨ (I 1 ≠ 0 ∧ (I 6 = 2 ∧ I 1 ≠ 0 ∧ wsum (F 2) (I 1) = 0) ∧ r = -16 ∧ ∃ g σ, w = mW cI b (va_up I 0 0) (va_up J 1 (σ)) (va_up F 6 g) G0) ∨ (I 1 ≠ 0 ∧ ¬ (I 6 = 2 ∧ I 1 ≠ 0 ∧ wsum (F 2) (I 1) = 0) ∧ ∃ g q7 q8 q9 q10 q11 σ, OrdIs (I 1) (I 3) (I 4) (F 1) (F 2) (F 3) (J 0) (I 6) (nxR (I 1) (I 7) (I 8)) g ∧ r = nI (g (nxP (I 1) (I 8))) ∧ w = mW cI b (va_up (va_up (va_up I 0 0) 7 (nxR (I 1) (I 7) (I 8))) 8 (nxP (I 1) (I 8) + 1)) (va_up J 1 (σ)) (va_up (va_up (va_up (va_up (va_up (va_up F 6 g) 7 q7) 8 q8) 9 q9) 10 q10) 11 q11) G0)) := by
  refine Ki.mk (cc := cX7_next) (maxL := 4) (rt := .int) (own := RX7) (by decide) rfl rfl (Nat.le_of_ble_eq_true rfl) ?_
  intro p e s m below meth c A Q ls C hname hA G hl RET
  obtain ⟨⟨hx, hb, hml, hown, hts⟩, hK, hN⟩ := id C
  have hl : lv_has ls 4 [(0, .ref (b 0))] := hl
  have hX7 : ∀ w ∈ u_ws RX7 TX7 30, w ∈ wsX7_next := by decide +kernel
  refine lv_aload_n hx hb dX7_next_0 rfl (lv_at hl 0 rfl) ?_
  refine lv_iconst (v := (nI (0))) hx hb dX7_next_1 (by decide) ?_
  refine r_put (ws' := mW cI b (va_up I 0 0) J F G0) C G hX7 tyX7_ok nmX7 0 rfl rfl 0 (by decide) (by decide +kernel) rfl rfl rfl (Nat.le_of_ble_eq_true rfl) dX7_next_2 rfl (fun H locs G => ?_)
  refine lv_aload_n hx hb dX7_next_5 rfl (lv_at hl 0 rfl) ?_
  refine r_get (v := .int (nI (I 1))) C G hX7 0 rfl rfl 3 (by decide) (by decide +kernel) rfl dX7_next_6 ?_
  refine lv_if_ne (tgt := 15) hx hb dX7_next_9 (by decide) (fun c9 => ?_) (fun c9 => ?_)
  · skip
    replace c9 : ¬ ((I 1 : Nat) : Int) = (0) := fun h => c9 ((cv_eq (nI_toInt (by omega)) (by decide)).mpr h)
    refine lv_aload_n hx hb dX7_next_15 rfl (lv_at hl 0 rfl) ?_
    refine r_get (v := .int (nI (I 8))) C G hX7 0 rfl rfl 23 (by decide) (by decide +kernel) rfl dX7_next_16 ?_
    refine lv_aload_n hx hb dX7_next_19 rfl (lv_at hl 0 rfl) ?_
    refine r_get (v := .int (nI (I 1))) C G hX7 0 rfl rfl 3 (by decide) (by decide +kernel) rfl dX7_next_20 ?_
    refine lv_icmp_lt (tgt := 30) hx hb dX7_next_23 (by decide) (fun c23 => ?_) (fun c23 => ?_)
    · skip
      replace c23 : ((I 8 : Nat) : Int) < ((I 1 : Nat) : Int) := (cv_lt (nI_toInt (by omega)) (nI_toInt (by omega))).mp c23
      refine lv_iconst (v := (nI (0))) hx hb dX7_next_30 (by decide) ?_
      refine lv_istore_n (lv' := [(1, .int (nI (0))), (0, .ref (b 0))]) hx hb dX7_next_31 rfl hl (by decide) rfl (fun ls hl => ?_)
      refine lv_iload_n hx hb dX7_next_32 rfl (lv_at hl 0 rfl) ?_
      refine lv_if_eq (tgt := 49) hx hb dX7_next_33 (by decide) (fun c33 => ?_) (fun c33 => ?_)
      · skip
        refine lv_aload_n hx hb dX7_next_49 rfl (lv_at hl 1 rfl) ?_
        refine r_get (v := .int (nI (I 7))) C G hX7 0 rfl rfl 22 (by decide) (by decide +kernel) rfl dX7_next_50 ?_
        refine lv_istore_n (lv' := [(2, .int (nI (I 7))), (1, .int (nI (0))), (0, .ref (b 0))]) hx hb dX7_next_53 rfl hl (by decide) rfl (fun ls hl => ?_)
        refine lv_iload_n hx hb dX7_next_54 rfl (lv_at hl 1 rfl) ?_
        refine lv_if_eq (tgt := 62) hx hb dX7_next_55 (by decide) (fun c55 => ?_) (fun c55 => ?_)
        · skip
          refine lv_aload_n hx hb dX7_next_62 rfl (lv_at hl 2 rfl) ?_
          refine r_get (v := .int (nI (I 8))) C G hX7 0 rfl rfl 23 (by decide) (by decide +kernel) rfl dX7_next_63 ?_
          refine lv_istore_n (lv' := [(3, .int (nI (I 8))), (2, .int (nI (I 7))), (1, .int (nI (0))), (0, .ref (b 0))]) hx hb dX7_next_66 rfl hl (by decide) rfl (fun ls hl => ?_)
          have er : I 7 = nxR (I 1) (I 7) (I 8) := by unfold nxR; rw [if_pos (by omega)]
          have ep : I 8 = nxP (I 1) (I 8) := by unfold nxP; rw [if_pos (by omega)]
          have hR : nxR (I 1) (I 7) (I 8) ≤ 1000 := by omega
          have hP : nxP (I 1) (I 8) < I 1 := by omega
          have hl : lv_has ls 4 [(3, .int (nI (nxP (I 1) (I 8)))), (2, .int (nI (nxR (I 1) (I 7) (I 8)))), (1, .int (nI (0))), (0, .ref (b 0))] := by rw [← er, ← ep]; exact hl
          have hgl : nxP (I 1) (I 8) ≤ 60 := by omega
          refine lv_aload_n hx hb dX7_next_67 rfl (lv_at hl 3 rfl) ?_
          refine lv_aload_n hx hb dX7_next_68 rfl (lv_at hl 3 rfl) ?_
          refine r_get (v := .int (nI (I 6))) C G hX7 0 rfl rfl 21 (by decide) (by decide +kernel) rfl dX7_next_69 ?_
          refine lv_iload_n hx hb dX7_next_72 rfl (lv_at hl 1 rfl) ?_
          refine r_ai G hA (r_rV (na := 2) (As := [.int (nI (I 6)), .int (nI (nxR (I 1) (I 7) (I 8)))]) (rest := []) C G (c_X7_orders l D cI cO cL b (va_up I 0 0) J F G0 (I 6) (nxR (I 1) (I 7) (I 8)) h1 hLb hWt hL h3 h4 (by omega) (by omega)) gX7_next_X7_orders rfl (by decide +kernel) ⟨Nat.le_of_ble_eq_true rfl, Nat.le_of_ble_eq_true rfl⟩ 0 rfl rfl rfl hl.1 rfl (Nat.le_of_ble_eq_true rfl) dX7_next_73 ⟨by first | (simp only []; omega) | decide, by first | (simp only []; omega) | decide⟩) (fun r73 w73 H locs hp73 G => ?_)
          rcases hp73 with ⟨hbw73, rfl, g73, σ73, rfl⟩ | ⟨hbw73, rfl, g73, q7_73, q8_73, q9_73, q10_73, q11_73, σ73, hg73, rfl⟩
          · skip
            replace hbw73 : ((I 6) = 2 ∧ I 1 ≠ 0 ∧ wsum (F 2) (I 1) = 0) := hbw73
            refine lv_if_ne (tgt := 82) hx hb dX7_next_76 (by decide) (fun c76 => ?_) (fun c76 => ?_)
            · skip
              exact absurd c76 (by decide)
            · skip
              refine lv_bipush (v := ((-16))) hx hb dX7_next_79 (by decide) ?_
              exact RET ((-16)) (mW cI b (va_up I 0 0) (va_up J 1 (σ73)) (va_up F 6 g73) G0) _ _ ls _ _ _ (Or.inr (Or.inl ⟨by omega, hbw73, rfl, _, _, rfl⟩)) G (by first | (simp only []; omega) | decide) (by first | (simp only []; omega) | decide) rfl dX7_next_81
          · skip
            replace hbw73 : ¬ ((I 6) = 2 ∧ I 1 ≠ 0 ∧ wsum (F 2) (I 1) = 0) := hbw73
            replace hg73 : OrdIs (I 1) (I 3) (I 4) (F 1) (F 2) (F 3) (J 0) (I 6) (nxR (I 1) (I 7) (I 8)) g73 := hg73
            refine lv_if_ne (tgt := 82) hx hb dX7_next_76 (by decide) (fun c76 => ?_) (fun c76 => ?_)
            · skip
              refine lv_aload_n hx hb dX7_next_82 rfl (lv_at hl 3 rfl) ?_
              refine lv_iload_n hx hb dX7_next_83 rfl (lv_at hl 1 rfl) ?_
              refine r_put (ws' := mW cI b (va_up (va_up I 0 0) 7 (nxR (I 1) (I 7) (I 8))) (va_up J 1 (σ73)) (va_up (va_up (va_up (va_up (va_up (va_up F 6 g73) 7 q7_73) 8 q8_73) 9 q9_73) 10 q10_73) 11 q11_73) G0) C G hX7 tyX7_ok nmX7 0 rfl rfl 22 (by decide) (by decide +kernel) rfl rfl rfl (Nat.le_of_ble_eq_true rfl) dX7_next_84 rfl (fun H locs G => ?_)
              refine lv_aload_n hx hb dX7_next_87 rfl (lv_at hl 3 rfl) ?_
              refine lv_iload_n hx hb dX7_next_88 rfl (lv_at hl 0 rfl) ?_
              refine lv_iconst (v := (nI (1))) hx hb dX7_next_89 (by decide) ?_
              refine r_iadd hx hb dX7_next_90 ?_
              refine r_put (ws' := mW cI b (va_up (va_up (va_up I 0 0) 7 (nxR (I 1) (I 7) (I 8))) 8 ((nxP (I 1) (I 8)) + 1)) (va_up J 1 (σ73)) (va_up (va_up (va_up (va_up (va_up (va_up F 6 g73) 7 q7_73) 8 q8_73) 9 q9_73) 10 q10_73) 11 q11_73) G0) C G hX7 tyX7_ok nmX7 0 rfl rfl 23 (by decide) (by decide +kernel) rfl rfl rfl (Nat.le_of_ble_eq_true rfl) dX7_next_91 rfl (fun H locs G => ?_)
              refine lv_aload_n hx hb dX7_next_94 rfl (lv_at hl 3 rfl) ?_
              have hgb := hg73.1 _ hP
              refine r_get (v := .ref (b 8)) C G hX7 0 rfl rfl 15 (by decide) (by decide +kernel) rfl dX7_next_95 ?_
              refine lv_iload_n hx hb dX7_next_98 rfl (lv_at hl 0 rfl) ?_
              refine r_iald (v := nI (g73 (nxP (I 1) (I 8)))) C G 8 0 rfl rfl (nxP (I 1) (I 8)) rfl (by omega) (by omega) rfl dX7_next_99 ?_
              exact RET (nI (g73 (nxP (I 1) (I 8)))) (mW cI b (va_up (va_up (va_up I 0 0) 7 (nxR (I 1) (I 7) (I 8))) 8 ((nxP (I 1) (I 8)) + 1)) (va_up J 1 (σ73)) (va_up (va_up (va_up (va_up (va_up (va_up F 6 g73) 7 q7_73) 8 q8_73) 9 q9_73) 10 q10_73) 11 q11_73) G0) _ _ ls _ _ _ (Or.inr (Or.inr ⟨by omega, hbw73, _, _, _, _, _, _, _, hg73, rfl, rfl⟩)) G (by first | (simp only []; omega) | decide) (by first | (simp only []; omega) | decide) rfl dX7_next_100
            · skip
              exact absurd c76 (by decide)
        · skip
          exact absurd c55 (by decide)
      · skip
        exact absurd c33 (by decide)
    · skip
      replace c23 : ((I 1 : Nat) : Int) ≤ ((I 8 : Nat) : Int) := Int.not_lt.mp (fun h => c23 ((cv_lt (nI_toInt (by omega)) (nI_toInt (by omega))).mpr h))
      refine lv_iconst (v := (nI (1))) hx hb dX7_next_26 (by decide) ?_
      refine lv_goto (tgt := 31) hx hb dX7_next_27 (by decide) ?_
      refine lv_istore_n (lv' := [(1, .int (nI (1))), (0, .ref (b 0))]) hx hb dX7_next_31 rfl hl (by decide) rfl (fun ls hl => ?_)
      refine lv_iload_n hx hb dX7_next_32 rfl (lv_at hl 0 rfl) ?_
      refine lv_if_eq (tgt := 49) hx hb dX7_next_33 (by decide) (fun c33 => ?_) (fun c33 => ?_)
      · skip
        exact absurd c33 (by decide)
      · skip
        refine lv_aload_n hx hb dX7_next_36 rfl (lv_at hl 1 rfl) ?_
        refine r_get (v := .int (nI (I 7))) C G hX7 0 rfl rfl 22 (by decide) (by decide +kernel) rfl dX7_next_37 ?_
        refine lv_iconst (v := (nI (1))) hx hb dX7_next_40 (by decide) ?_
        refine r_iadd hx hb dX7_next_41 ?_
        refine lv_sipush (v := (nI (1001))) hx hb dX7_next_42 (by decide) ?_
        refine r_irem hx hb (by omega) (by omega) (by omega) dX7_next_45 ?_
        refine lv_goto (tgt := 53) hx hb dX7_next_46 (by decide) ?_
        refine lv_istore_n (lv' := [(2, .int (nI (((I 7) + 1) % 1001))), (1, .int (nI (1))), (0, .ref (b 0))]) hx hb dX7_next_53 rfl hl (by decide) rfl (fun ls hl => ?_)
        refine lv_iload_n hx hb dX7_next_54 rfl (lv_at hl 1 rfl) ?_
        refine lv_if_eq (tgt := 62) hx hb dX7_next_55 (by decide) (fun c55 => ?_) (fun c55 => ?_)
        · skip
          exact absurd c55 (by decide)
        · skip
          refine lv_iconst (v := (nI (0))) hx hb dX7_next_58 (by decide) ?_
          refine lv_goto (tgt := 66) hx hb dX7_next_59 (by decide) ?_
          refine lv_istore_n (lv' := [(3, .int (nI (0))), (2, .int (nI (((I 7) + 1) % 1001))), (1, .int (nI (1))), (0, .ref (b 0))]) hx hb dX7_next_66 rfl hl (by decide) rfl (fun ls hl => ?_)
          have er : ((I 7) + 1) % 1001 = nxR (I 1) (I 7) (I 8) := by unfold nxR; rw [if_neg (by omega)]; split <;> omega
          have ep : 0 = nxP (I 1) (I 8) := by unfold nxP; rw [if_neg (by omega)]
          have hR : nxR (I 1) (I 7) (I 8) ≤ 1000 := by omega
          have hP : nxP (I 1) (I 8) < I 1 := by omega
          have hl : lv_has ls 4 [(3, .int (nI (nxP (I 1) (I 8)))), (2, .int (nI (nxR (I 1) (I 7) (I 8)))), (1, .int (nI (1))), (0, .ref (b 0))] := by rw [← er, ← ep]; exact hl
          have hgl : nxP (I 1) (I 8) ≤ 60 := by omega
          refine lv_aload_n hx hb dX7_next_67 rfl (lv_at hl 3 rfl) ?_
          refine lv_aload_n hx hb dX7_next_68 rfl (lv_at hl 3 rfl) ?_
          refine r_get (v := .int (nI (I 6))) C G hX7 0 rfl rfl 21 (by decide) (by decide +kernel) rfl dX7_next_69 ?_
          refine lv_iload_n hx hb dX7_next_72 rfl (lv_at hl 1 rfl) ?_
          refine r_ai G hA (r_rV (na := 2) (As := [.int (nI (I 6)), .int (nI (nxR (I 1) (I 7) (I 8)))]) (rest := []) C G (c_X7_orders l D cI cO cL b (va_up I 0 0) J F G0 (I 6) (nxR (I 1) (I 7) (I 8)) h1 hLb hWt hL h3 h4 (by omega) (by omega)) gX7_next_X7_orders rfl (by decide +kernel) ⟨Nat.le_of_ble_eq_true rfl, Nat.le_of_ble_eq_true rfl⟩ 0 rfl rfl rfl hl.1 rfl (Nat.le_of_ble_eq_true rfl) dX7_next_73 ⟨by first | (simp only []; omega) | decide, by first | (simp only []; omega) | decide⟩) (fun r73 w73 H locs hp73 G => ?_)
          rcases hp73 with ⟨hbw73, rfl, g73, σ73, rfl⟩ | ⟨hbw73, rfl, g73, q7_73, q8_73, q9_73, q10_73, q11_73, σ73, hg73, rfl⟩
          · skip
            replace hbw73 : ((I 6) = 2 ∧ I 1 ≠ 0 ∧ wsum (F 2) (I 1) = 0) := hbw73
            refine lv_if_ne (tgt := 82) hx hb dX7_next_76 (by decide) (fun c76 => ?_) (fun c76 => ?_)
            · skip
              exact absurd c76 (by decide)
            · skip
              refine lv_bipush (v := ((-16))) hx hb dX7_next_79 (by decide) ?_
              exact RET ((-16)) (mW cI b (va_up I 0 0) (va_up J 1 (σ73)) (va_up F 6 g73) G0) _ _ ls _ _ _ (Or.inr (Or.inl ⟨by omega, hbw73, rfl, _, _, rfl⟩)) G (by first | (simp only []; omega) | decide) (by first | (simp only []; omega) | decide) rfl dX7_next_81
          · skip
            replace hbw73 : ¬ ((I 6) = 2 ∧ I 1 ≠ 0 ∧ wsum (F 2) (I 1) = 0) := hbw73
            replace hg73 : OrdIs (I 1) (I 3) (I 4) (F 1) (F 2) (F 3) (J 0) (I 6) (nxR (I 1) (I 7) (I 8)) g73 := hg73
            refine lv_if_ne (tgt := 82) hx hb dX7_next_76 (by decide) (fun c76 => ?_) (fun c76 => ?_)
            · skip
              refine lv_aload_n hx hb dX7_next_82 rfl (lv_at hl 3 rfl) ?_
              refine lv_iload_n hx hb dX7_next_83 rfl (lv_at hl 1 rfl) ?_
              refine r_put (ws' := mW cI b (va_up (va_up I 0 0) 7 (nxR (I 1) (I 7) (I 8))) (va_up J 1 (σ73)) (va_up (va_up (va_up (va_up (va_up (va_up F 6 g73) 7 q7_73) 8 q8_73) 9 q9_73) 10 q10_73) 11 q11_73) G0) C G hX7 tyX7_ok nmX7 0 rfl rfl 22 (by decide) (by decide +kernel) rfl rfl rfl (Nat.le_of_ble_eq_true rfl) dX7_next_84 rfl (fun H locs G => ?_)
              refine lv_aload_n hx hb dX7_next_87 rfl (lv_at hl 3 rfl) ?_
              refine lv_iload_n hx hb dX7_next_88 rfl (lv_at hl 0 rfl) ?_
              refine lv_iconst (v := (nI (1))) hx hb dX7_next_89 (by decide) ?_
              refine r_iadd hx hb dX7_next_90 ?_
              refine r_put (ws' := mW cI b (va_up (va_up (va_up I 0 0) 7 (nxR (I 1) (I 7) (I 8))) 8 ((nxP (I 1) (I 8)) + 1)) (va_up J 1 (σ73)) (va_up (va_up (va_up (va_up (va_up (va_up F 6 g73) 7 q7_73) 8 q8_73) 9 q9_73) 10 q10_73) 11 q11_73) G0) C G hX7 tyX7_ok nmX7 0 rfl rfl 23 (by decide) (by decide +kernel) rfl rfl rfl (Nat.le_of_ble_eq_true rfl) dX7_next_91 rfl (fun H locs G => ?_)
              refine lv_aload_n hx hb dX7_next_94 rfl (lv_at hl 3 rfl) ?_
              have hgb := hg73.1 _ hP
              refine r_get (v := .ref (b 8)) C G hX7 0 rfl rfl 15 (by decide) (by decide +kernel) rfl dX7_next_95 ?_
              refine lv_iload_n hx hb dX7_next_98 rfl (lv_at hl 0 rfl) ?_
              refine r_iald (v := nI (g73 (nxP (I 1) (I 8)))) C G 8 0 rfl rfl (nxP (I 1) (I 8)) rfl (by omega) (by omega) rfl dX7_next_99 ?_
              exact RET (nI (g73 (nxP (I 1) (I 8)))) (mW cI b (va_up (va_up (va_up I 0 0) 7 (nxR (I 1) (I 7) (I 8))) 8 ((nxP (I 1) (I 8)) + 1)) (va_up J 1 (σ73)) (va_up (va_up (va_up (va_up (va_up (va_up F 6 g73) 7 q7_73) 8 q8_73) 9 q9_73) 10 q10_73) 11 q11_73) G0) _ _ ls _ _ _ (Or.inr (Or.inr ⟨by omega, hbw73, _, _, _, _, _, _, _, hg73, rfl, rfl⟩)) G (by first | (simp only []; omega) | decide) (by first | (simp only []; omega) | decide) rfl dX7_next_100
            · skip
              exact absurd c76 (by decide)
  · skip
    replace c9 : ((I 1 : Nat) : Int) = (0) := (cv_eq (nI_toInt (by omega)) (by decide)).mp c9
    refine lv_bipush (v := ((-3))) hx hb dX7_next_12 (by decide) ?_
    exact RET ((-3)) (mW cI b (va_up I 0 0) J F G0) _ _ ls _ _ _ (Or.inl ⟨by omega, rfl, rfl⟩) G (by first | (simp only []; omega) | decide) (by first | (simp only []; omega) | decide) rfl dX7_next_14
