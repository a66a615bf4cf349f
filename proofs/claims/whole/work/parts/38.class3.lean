set_option maxHeartbeats 4000000 in
set_option maxRecDepth 100000 in
theorem c_X6_batch (l : Launch) (D : va_G) (cI cO cL : ClassId) (a ca ia : Nat → Nat) (n : Nat) (O : Nat → Option Nat) (I : Nat → Nat) (J : Nat → Int64) (F : Nat → Nat → Nat) (E : Nat → Nat → Int32) (K : Nat → Nat → Nat) (G0 : Nat → Nat → Int32) (x y k i : Int32) (hn : I 3 ≤ 60) (hO : ∀ j, j < I 3 → O j = some (ca j)) (hin : I 3 ≤ n) (hLb : ∀ j, j < I 3 → F 0 j < 8) (hWt : ∀ j, j < I 3 → F 1 j ≤ 1000) (hK3 : ∀ j, j < I 3 → K 3 j ≤ 1600) (h5 : 1 ≤ I 5 ∧ I 5 ≤ 60) (h6 : 1 ≤ I 6 ∧ I 6 ≤ 60) (h4 : I 4 ≤ 20) (h7 : I 7 ≤ 1) : Ki l yX6_batch wsX6_batch { frames := 6, cells := 0, slots := 0, locals := 138 } D (TY cI cO cL) [.ref (a 0), .int (x), .int (y), .int (k), .int (i)] (bW cI cO a ca ia n O I J F E K G0) (fun r w => (¬ (0 ≤ x.toInt ∧ x.toInt ≤ 4 ∧ 0 ≤ y.toInt ∧ y.toInt ≤ 1000 ∧ 0 ≤ k.toInt ∧ 0 ≤ i.toInt) ∧ r = -1 ∧ w = bW cI cO a ca ia n O I J F E K G0) ∨ ((0 ≤ x.toInt ∧ x.toInt ≤ 4 ∧ 0 ≤ y.toInt ∧ y.toInt ≤ 1000 ∧ 0 ≤ k.toInt ∧ 0 ≤ i.toInt) ∧ I 4 = 0 ∧ r = -16 ∧ w = bW cI cO a ca ia n O I J F E K G0) ∨ ((0 ≤ x.toInt ∧ x.toInt ≤ 4 ∧ 0 ≤ y.toInt ∧ y.toInt ≤ 1000 ∧ 0 ≤ k.toInt ∧ 0 ≤ i.toInt) ∧ I 4 ≠ 0 ∧ (tn x = 2 ∧ I 3 ≠ 0 ∧ wsum (F 1) (I 3) = 0) ∧ r = -16 ∧ w = bW cI cO a ca ia n O (va_up I 8 (I 3)) J F E K G0) ∨ ((0 ≤ x.toInt ∧ x.toInt ≤ 4 ∧ 0 ≤ y.toInt ∧ y.toInt ≤ 1000 ∧ 0 ≤ k.toInt ∧ 0 ≤ i.toInt) ∧ I 4 ≠ 0 ∧ ¬ (tn x = 2 ∧ I 3 ≠ 0 ∧ wsum (F 1) (I 3) = 0) ∧ ∃ g q3 q4 q5 q6 q7 σ, OrdIs (I 3) (I 5) (I 6) (F 0) (F 1) (K 3) (J 0) (tn x) (tn y) g ∧ ((tn i < mof (I 3) (I 4) (I 7) (tn k) ∧ r = nI (g (tn k * I 4 + tn i))) ∨ (¬ tn i < mof (I 3) (I 4) (I 7) (tn k) ∧ r = -3)) ∧ w = bW cI cO a ca ia n O (va_up I 8 (I 3)) (va_up J 1 (σ)) (va_up (va_up (va_up (va_up (va_up (va_up F 2 g) 3 q3) 4 q4) 5 q5) 6 q6) 7 q7) E K G0)) := by
  refine Ki.mk (cc := cX6_batch) (maxL := 5) (rt := .int) (own := RX6) (by decide) rfl rfl (Nat.le_of_ble_eq_true rfl) ?_
  intro p e s m below meth c A Q ls C hname hA G hl RET
  obtain ⟨⟨hx, hb, hml, hown, hts⟩, hK, hN⟩ := id C
  have hl : lv_has ls 5 [(0, .ref (a 0)), (1, .int (x)), (2, .int (y)), (3, .int (k)), (4, .int (i))] := hl
  have hX5 : ∀ w ∈ u_ws RX5 TX5 5, w ∈ wsX6_batch := by decide +kernel
  have hX6 : ∀ w ∈ u_ws RX6 TX6 8, w ∈ wsX6_batch := by decide +kernel
  refine lv_iload_n hx hb dX6_batch_0 rfl (lv_at hl 1 rfl) ?_
  refine r_ai G hA (r_rS (na := 1) (As := [.int (x)]) (rest := []) C G (c_X6_isWay l D cI cO cL (bW cI cO a ca ia n O I J F E K G0) x) gX6_batch_X6_isWay rfl (by decide +kernel) ⟨Nat.le_of_ble_eq_true rfl, Nat.le_of_ble_eq_true rfl⟩ rfl hl.1 rfl (Nat.le_of_ble_eq_true rfl) dX6_batch_1 ⟨by first | (simp only []; omega) | decide, by first | (simp only []; omega) | decide⟩) (fun r1 w1 H locs hp1 G => ?_)
  rcases hp1 with ⟨rfl, rfl, hi1⟩ | ⟨rfl, rfl, hi1⟩
  · skip
    refine lv_if_eq (tgt := 23) hx hb dX6_batch_4 (by decide) (fun c4 => ?_) (fun c4 => ?_)
    · skip
      exact absurd c4 (by decide)
    · skip
      refine lv_iload_n hx hb dX6_batch_7 rfl (lv_at hl 2 rfl) ?_
      refine r_ai G hA (r_rS (na := 1) (As := [.int (y)]) (rest := []) C G (c_X6_isRound l D cI cO cL (bW cI cO a ca ia n O I J F E K G0) y) gX6_batch_X6_isRound rfl (by decide +kernel) ⟨Nat.le_of_ble_eq_true rfl, Nat.le_of_ble_eq_true rfl⟩ rfl hl.1 rfl (Nat.le_of_ble_eq_true rfl) dX6_batch_8 ⟨by first | (simp only []; omega) | decide, by first | (simp only []; omega) | decide⟩) (fun r8 w8 H locs hp8 G => ?_)
      rcases hp8 with ⟨rfl, rfl, hi8⟩ | ⟨rfl, rfl, hi8⟩
      · skip
        refine lv_if_eq (tgt := 23) hx hb dX6_batch_11 (by decide) (fun c11 => ?_) (fun c11 => ?_)
        · skip
          exact absurd c11 (by decide)
        · skip
          refine lv_iload_n hx hb dX6_batch_14 rfl (lv_at hl 3 rfl) ?_
          refine lv_if_lt (tgt := 23) hx hb dX6_batch_15 (by decide) (fun c15 => ?_) (fun c15 => ?_)
          · skip
            replace c15 : (k).toInt < (0) := (cv_lt rfl (by decide)).mp c15
            refine lv_iconst (v := ((-1))) hx hb dX6_batch_23 (by decide) ?_
            exact RET ((-1)) (bW cI cO a ca ia n O I J F E K G0) _ _ ls _ _ _ (Or.inl ⟨by omega, rfl, rfl⟩) G (by first | (simp only []; omega) | decide) (by first | (simp only []; omega) | decide) rfl dX6_batch_24
          · skip
            replace c15 : (0) ≤ (k).toInt := Int.not_lt.mp (fun h => c15 ((cv_lt rfl (by decide)).mpr h))
            refine lv_iload hx hb dX6_batch_18 (lv_at hl 4 rfl) ?_
            refine lv_if_ge (tgt := 25) hx hb dX6_batch_20 (by decide) (fun c20 => ?_) (fun c20 => ?_)
            · skip
              replace c20 : (0) ≤ (i).toInt := (cv_le (by decide) rfl).mp c20
              obtain ⟨x1, hx1, ex1, rfl⟩ := nat_of (x := x) (by omega)
              obtain ⟨y1, hy1, ey1, rfl⟩ := nat_of (x := y) (by omega)
              obtain ⟨k1, hk1, ek1, rfl⟩ := nat_of (x := k) (by omega)
              obtain ⟨i1, hi1, ei1, rfl⟩ := nat_of (x := i) (by omega)
              refine lv_aload_n hx hb dX6_batch_25 rfl (lv_at hl 0 rfl) ?_
              refine r_get (v := .ref (a 2)) C G hX6 0 rfl rfl 1 (by decide) (by decide +kernel) rfl dX6_batch_26 ?_
              refine r_getN (v := .int (nI (I 4))) C G hX5 2 rfl rfl 1 (by decide) (by decide +kernel) rfl dX6_batch_29 ?_
              refine lv_if_eq (tgt := 47) hx hb dX6_batch_32 (by decide) (fun c32 => ?_) (fun c32 => ?_)
              · skip
                replace c32 : ((I 4 : Nat) : Int) = (0) := (cv_eq (nI_toInt (by omega)) (by decide)).mp c32
                refine lv_bipush (v := ((-16))) hx hb dX6_batch_47 (by decide) ?_
                exact RET ((-16)) (bW cI cO a ca ia n O I J F E K G0) _ _ ls _ _ _ (by rw [tn_nI hx1, tn_nI hy1, tn_nI hk1, tn_nI hi1]; exact Or.inr (Or.inl ⟨by omega, by omega, rfl, rfl⟩)) G (by first | (simp only []; omega) | decide) (by first | (simp only []; omega) | decide) rfl dX6_batch_49
              · skip
                replace c32 : ¬ ((I 4 : Nat) : Int) = (0) := fun h => c32 ((cv_eq (nI_toInt (by omega)) (by decide)).mpr h)
                refine lv_aload_n hx hb dX6_batch_35 rfl (lv_at hl 0 rfl) ?_
                refine r_get (v := .ref (a 4)) C G hX6 0 rfl rfl 3 (by decide) (by decide +kernel) rfl dX6_batch_36 ?_
                refine lv_iload_n hx hb dX6_batch_39 rfl (lv_at hl 1 rfl) ?_
                refine lv_iload_n hx hb dX6_batch_40 rfl (lv_at hl 2 rfl) ?_
                refine r_ai G hA (r_rV (na := 2) (As := [.int (nI (x1)), .int (nI (y1))]) (rest := []) C G (c_X3_make l D cI cO cL a ca ia n O I J F E K G0 x1 y1 hn hO hin hLb hWt hK3 h5 h6 (by omega) (by omega)) gX6_batch_X3_make rfl (by decide +kernel) ⟨Nat.le_of_ble_eq_true rfl, Nat.le_of_ble_eq_true rfl⟩ 4 rfl rfl rfl hl.1 rfl (Nat.le_of_ble_eq_true rfl) dX6_batch_41 ⟨by first | (simp only []; omega) | decide, by first | (simp only []; omega) | decide⟩) (fun r41 w41 H locs hp41 G => ?_)
                rcases hp41 with ⟨hbw41, rfl, rfl⟩ | ⟨hbw41, rfl, g41, q3_41, q4_41, q5_41, q6_41, q7_41, σ41, hg41, rfl⟩
                · skip
                  replace hbw41 : (x1 = 2 ∧ I 3 ≠ 0 ∧ wsum (F 1) (I 3) = 0) := hbw41
                  refine lv_if_ne (tgt := 50) hx hb dX6_batch_44 (by decide) (fun c44 => ?_) (fun c44 => ?_)
                  · skip
                    exact absurd c44 (by decide)
                  · skip
                    refine lv_bipush (v := ((-16))) hx hb dX6_batch_47 (by decide) ?_
                    exact RET ((-16)) (bW cI cO a ca ia n O (va_up I 8 (I 3)) J F E K G0) _ _ ls _ _ _ (by rw [tn_nI hx1, tn_nI hy1, tn_nI hk1, tn_nI hi1]; exact Or.inr (Or.inr (Or.inl ⟨by omega, by omega, hbw41, rfl, rfl⟩))) G (by first | (simp only []; omega) | decide) (by first | (simp only []; omega) | decide) rfl dX6_batch_49
                · skip
                  replace hbw41 : ¬ (x1 = 2 ∧ I 3 ≠ 0 ∧ wsum (F 1) (I 3) = 0) := hbw41
                  replace hg41 : OrdIs (I 3) (I 5) (I 6) (F 0) (F 1) (K 3) (J 0) x1 y1 g41 := hg41
                  refine lv_if_ne (tgt := 50) hx hb dX6_batch_44 (by decide) (fun c44 => ?_) (fun c44 => ?_)
                  · skip
                    refine lv_aload_n hx hb dX6_batch_50 rfl (lv_at hl 0 rfl) ?_
                    refine lv_iload_n hx hb dX6_batch_51 rfl (lv_at hl 3 rfl) ?_
                    refine lv_iload hx hb dX6_batch_52 (lv_at hl 4 rfl) ?_
                    refine lv_i2l (v := lN (i1)) hx hb dX6_batch_54 (nI_l (by omega)) ?_
                    refine r_ai G hA (r_rV (na := 2) (As := [.int (nI (k1)), .long (lN (i1))]) (rest := []) C G (c_X6_rowInBatch l D cI cO cL a ca ia n O (va_up I 8 (I 3)) (va_up J 1 (σ41)) (va_up (va_up (va_up (va_up (va_up (va_up F 2 g41) 3 q3_41) 4 q4_41) 5 q5_41) 6 q6_41) 7 q7_41) E K G0 k1 i1 hn rfl h4 (by show 1 ≤ I 4; omega) h7 (by omega) (by omega)) gX6_batch_X6_rowInBatch rfl (by decide +kernel) ⟨Nat.le_of_ble_eq_true rfl, Nat.le_of_ble_eq_true rfl⟩ 0 rfl rfl rfl hl.1 rfl (Nat.le_of_ble_eq_true rfl) dX6_batch_55 ⟨by first | (simp only []; omega) | decide, by first | (simp only []; omega) | decide⟩) (fun r55 w55 H locs hp55 G => ?_)
                    rcases hp55 with ⟨hmo55, rfl, rfl⟩ | ⟨hmo55, rfl, rfl⟩
                    · skip
                      replace hmo55 : i1 < mof (I 3) (I 4) (I 7) k1 := hmo55
                      refine r_top (y := nI (g41 (k1 * I 4 + i1))) rfl ?_
                      exact RET (nI (g41 (k1 * I 4 + i1))) (bW cI cO a ca ia n O (va_up I 8 (I 3)) (va_up J 1 (σ41)) (va_up (va_up (va_up (va_up (va_up (va_up F 2 g41) 3 q3_41) 4 q4_41) 5 q5_41) 6 q6_41) 7 q7_41) E K G0) _ _ ls _ _ _ (by rw [tn_nI hx1, tn_nI hy1, tn_nI hk1, tn_nI hi1]; exact Or.inr (Or.inr (Or.inr ⟨by omega, by omega, hbw41, _, _, _, _, _, _, _, hg41, Or.inl ⟨hmo55, rfl⟩, rfl⟩))) G (by first | (simp only []; omega) | decide) (by first | (simp only []; omega) | decide) rfl dX6_batch_58
                    · skip
                      replace hmo55 : ¬ i1 < mof (I 3) (I 4) (I 7) k1 := hmo55
                      exact RET ((-3)) (bW cI cO a ca ia n O (va_up I 8 (I 3)) (va_up J 1 (σ41)) (va_up (va_up (va_up (va_up (va_up (va_up F 2 g41) 3 q3_41) 4 q4_41) 5 q5_41) 6 q6_41) 7 q7_41) E K G0) _ _ ls _ _ _ (by rw [tn_nI hx1, tn_nI hy1, tn_nI hk1, tn_nI hi1]; exact Or.inr (Or.inr (Or.inr ⟨by omega, by omega, hbw41, _, _, _, _, _, _, _, hg41, Or.inr ⟨hmo55, rfl⟩, rfl⟩))) G (by first | (simp only []; omega) | decide) (by first | (simp only []; omega) | decide) rfl dX6_batch_58
                  · skip
                    exact absurd c44 (by decide)
            · skip
              replace c20 : (i).toInt < (0) := Int.not_le.mp (fun h => c20 ((cv_le (by decide) rfl).mpr h))
              refine lv_iconst (v := ((-1))) hx hb dX6_batch_23 (by decide) ?_
              exact RET ((-1)) (bW cI cO a ca ia n O I J F E K G0) _ _ ls _ _ _ (Or.inl ⟨by omega, rfl, rfl⟩) G (by first | (simp only []; omega) | decide) (by first | (simp only []; omega) | decide) rfl dX6_batch_24
      · skip
        refine lv_if_eq (tgt := 23) hx hb dX6_batch_11 (by decide) (fun c11 => ?_) (fun c11 => ?_)
        · skip
          refine lv_iconst (v := ((-1))) hx hb dX6_batch_23 (by decide) ?_
          exact RET ((-1)) (bW cI cO a ca ia n O I J F E K G0) _ _ ls _ _ _ (Or.inl ⟨by omega, rfl, rfl⟩) G (by first | (simp only []; omega) | decide) (by first | (simp only []; omega) | decide) rfl dX6_batch_24
        · skip
          exact absurd c11 (by decide)
  · skip
    refine lv_if_eq (tgt := 23) hx hb dX6_batch_4 (by decide) (fun c4 => ?_) (fun c4 => ?_)
    · skip
      refine lv_iconst (v := ((-1))) hx hb dX6_batch_23 (by decide) ?_
      exact RET ((-1)) (bW cI cO a ca ia n O I J F E K G0) _ _ ls _ _ _ (Or.inl ⟨by omega, rfl, rfl⟩) G (by first | (simp only []; omega) | decide) (by first | (simp only []; omega) | decide) rfl dX6_batch_24
    · skip
      exact absurd c4 (by decide)
set_option maxHeartbeats 4000000 in
set_option maxRecDepth 100000 in
theorem c_X6_share (l : Launch) (D : va_G) (cI cO cL : ClassId) (a ca ia : Nat → Nat) (n : Nat) (O : Nat → Option Nat) (I : Nat → Nat) (J : Nat → Int64) (F : Nat → Nat → Nat) (E : Nat → Nat → Int32) (K : Nat → Nat → Nat) (G0 : Nat → Nat → Int32) (x y k u v i : Int32) (hn : I 3 ≤ 60) (hO : ∀ j, j < I 3 → O j = some (ca j)) (hin : I 3 ≤ n) (hLb : ∀ j, j < I 3 → F 0 j < 8) (hWt : ∀ j, j < I 3 → F 1 j ≤ 1000) (hK3 : ∀ j, j < I 3 → K 3 j ≤ 1600) (h5 : 1 ≤ I 5 ∧ I 5 ≤ 60) (h6 : 1 ≤ I 6 ∧ I 6 ≤ 60) (h4 : I 4 ≤ 20) (h7 : I 7 ≤ 1) : Ki l yX6_share wsX6_share { frames := 6, cells := 0, slots := 0, locals := 138 } D (TY cI cO cL) [.ref (a 0), .int (x), .int (y), .int (k), .int (u), .int (v), .int (i)] (bW cI cO a ca ia n O I J F E K G0) (fun r w => (¬ (0 ≤ x.toInt ∧ x.toInt ≤ 4 ∧ 0 ≤ y.toInt ∧ y.toInt ≤ 1000 ∧ 0 ≤ k.toInt ∧ 0 ≤ i.toInt ∧ 1 ≤ u.toInt ∧ u.toInt ≤ 8 ∧ 0 ≤ v.toInt ∧ v.toInt < u.toInt) ∧ r = -1 ∧ w = bW cI cO a ca ia n O I J F E K G0) ∨ ((0 ≤ x.toInt ∧ x.toInt ≤ 4 ∧ 0 ≤ y.toInt ∧ y.toInt ≤ 1000 ∧ 0 ≤ k.toInt ∧ 0 ≤ i.toInt ∧ 1 ≤ u.toInt ∧ u.toInt ≤ 8 ∧ 0 ≤ v.toInt ∧ v.toInt < u.toInt) ∧ I 4 = 0 ∧ r = -16 ∧ w = bW cI cO a ca ia n O I J F E K G0) ∨ ((0 ≤ x.toInt ∧ x.toInt ≤ 4 ∧ 0 ≤ y.toInt ∧ y.toInt ≤ 1000 ∧ 0 ≤ k.toInt ∧ 0 ≤ i.toInt ∧ 1 ≤ u.toInt ∧ u.toInt ≤ 8 ∧ 0 ≤ v.toInt ∧ v.toInt < u.toInt) ∧ I 4 ≠ 0 ∧ (tn x = 2 ∧ I 3 ≠ 0 ∧ wsum (F 1) (I 3) = 0) ∧ r = -16 ∧ w = bW cI cO a ca ia n O (va_up I 8 (I 3)) J F E K G0) ∨ ((0 ≤ x.toInt ∧ x.toInt ≤ 4 ∧ 0 ≤ y.toInt ∧ y.toInt ≤ 1000 ∧ 0 ≤ k.toInt ∧ 0 ≤ i.toInt ∧ 1 ≤ u.toInt ∧ u.toInt ≤ 8 ∧ 0 ≤ v.toInt ∧ v.toInt < u.toInt) ∧ I 4 ≠ 0 ∧ ¬ (tn x = 2 ∧ I 3 ≠ 0 ∧ wsum (F 1) (I 3) = 0) ∧ ∃ g q3 q4 q5 q6 q7 σ, OrdIs (I 3) (I 5) (I 6) (F 0) (F 1) (K 3) (J 0) (tn x) (tn y) g ∧ (((tn i * tn u + tn v) < mof (I 3) (I 4) (I 7) (tn k) ∧ r = nI (g (tn k * I 4 + (tn i * tn u + tn v)))) ∨ (¬ (tn i * tn u + tn v) < mof (I 3) (I 4) (I 7) (tn k) ∧ r = -3)) ∧ w = bW cI cO a ca ia n O (va_up I 8 (I 3)) (va_up J 1 (σ)) (va_up (va_up (va_up (va_up (va_up (va_up F 2 g) 3 q3) 4 q4) 5 q5) 6 q6) 7 q7) E K G0)) := by
  refine Ki.mk (cc := cX6_share) (maxL := 7) (rt := .int) (own := RX6) (by decide) rfl rfl (Nat.le_of_ble_eq_true rfl) ?_
  intro p e s m below meth c A Q ls C hname hA G hl RET
  obtain ⟨⟨hx, hb, hml, hown, hts⟩, hK, hN⟩ := id C
  have hl : lv_has ls 7 [(0, .ref (a 0)), (1, .int (x)), (2, .int (y)), (3, .int (k)), (4, .int (u)), (5, .int (v)), (6, .int (i))] := hl
  have hX5 : ∀ w ∈ u_ws RX5 TX5 5, w ∈ wsX6_share := by decide +kernel
  have hX6 : ∀ w ∈ u_ws RX6 TX6 8, w ∈ wsX6_share := by decide +kernel
  refine lv_iload_n hx hb dX6_share_0 rfl (lv_at hl 1 rfl) ?_
  refine r_ai G hA (r_rS (na := 1) (As := [.int (x)]) (rest := []) C G (c_X6_isWay l D cI cO cL (bW cI cO a ca ia n O I J F E K G0) x) gX6_share_X6_isWay rfl (by decide +kernel) ⟨Nat.le_of_ble_eq_true rfl, Nat.le_of_ble_eq_true rfl⟩ rfl hl.1 rfl (Nat.le_of_ble_eq_true rfl) dX6_share_1 ⟨by first | (simp only []; omega) | decide, by first | (simp only []; omega) | decide⟩) (fun r1 w1 H locs hp1 G => ?_)
  rcases hp1 with ⟨rfl, rfl, hi1⟩ | ⟨rfl, rfl, hi1⟩
  · skip
    refine lv_if_eq (tgt := 23) hx hb dX6_share_4 (by decide) (fun c4 => ?_) (fun c4 => ?_)
    · skip
      exact absurd c4 (by decide)
    · skip
      refine lv_iload_n hx hb dX6_share_7 rfl (lv_at hl 2 rfl) ?_
      refine r_ai G hA (r_rS (na := 1) (As := [.int (y)]) (rest := []) C G (c_X6_isRound l D cI cO cL (bW cI cO a ca ia n O I J F E K G0) y) gX6_share_X6_isRound rfl (by decide +kernel) ⟨Nat.le_of_ble_eq_true rfl, Nat.le_of_ble_eq_true rfl⟩ rfl hl.1 rfl (Nat.le_of_ble_eq_true rfl) dX6_share_8 ⟨by first | (simp only []; omega) | decide, by first | (simp only []; omega) | decide⟩) (fun r8 w8 H locs hp8 G => ?_)
      rcases hp8 with ⟨rfl, rfl, hi8⟩ | ⟨rfl, rfl, hi8⟩
      · skip
        refine lv_if_eq (tgt := 23) hx hb dX6_share_11 (by decide) (fun c11 => ?_) (fun c11 => ?_)
        · skip
          exact absurd c11 (by decide)
        · skip
          refine lv_iload_n hx hb dX6_share_14 rfl (lv_at hl 3 rfl) ?_
          refine lv_if_lt (tgt := 23) hx hb dX6_share_15 (by decide) (fun c15 => ?_) (fun c15 => ?_)
          · skip
            replace c15 : (k).toInt < (0) := (cv_lt rfl (by decide)).mp c15
            refine lv_iconst (v := ((-1))) hx hb dX6_share_23 (by decide) ?_
            exact RET ((-1)) (bW cI cO a ca ia n O I J F E K G0) _ _ ls _ _ _ (Or.inl ⟨by omega, rfl, rfl⟩) G (by first | (simp only []; omega) | decide) (by first | (simp only []; omega) | decide) rfl dX6_share_24
          · skip
            replace c15 : (0) ≤ (k).toInt := Int.not_lt.mp (fun h => c15 ((cv_lt rfl (by decide)).mpr h))
            refine lv_iload hx hb dX6_share_18 (lv_at hl 6 rfl) ?_
            refine lv_if_ge (tgt := 25) hx hb dX6_share_20 (by decide) (fun c20 => ?_) (fun c20 => ?_)
            · skip
              replace c20 : (0) ≤ (i).toInt := (cv_le (by decide) rfl).mp c20
              refine lv_iload hx hb dX6_share_25 (lv_at hl 4 rfl) ?_
              refine lv_iconst (v := (nI (1))) hx hb dX6_share_27 (by decide) ?_
              refine lv_icmp_lt (tgt := 50) hx hb dX6_share_28 (by decide) (fun c28 => ?_) (fun c28 => ?_)
              · skip
                replace c28 : (u).toInt < ((1 : Nat) : Int) := (cv_lt rfl (nI_toInt (by omega))).mp c28
                refine lv_iconst (v := ((-1))) hx hb dX6_share_50 (by decide) ?_
                exact RET ((-1)) (bW cI cO a ca ia n O I J F E K G0) _ _ ls _ _ _ (Or.inl ⟨by omega, rfl, rfl⟩) G (by first | (simp only []; omega) | decide) (by first | (simp only []; omega) | decide) rfl dX6_share_51
              · skip
                replace c28 : ((1 : Nat) : Int) ≤ (u).toInt := Int.not_lt.mp (fun h => c28 ((cv_lt rfl (nI_toInt (by omega))).mpr h))
                refine lv_iload hx hb dX6_share_31 (lv_at hl 4 rfl) ?_
                refine lv_bipush (v := (nI (8))) hx hb dX6_share_33 (by decide) ?_
                refine lv_icmp_gt (tgt := 50) hx hb dX6_share_35 (by decide) (fun c35 => ?_) (fun c35 => ?_)
                · skip
                  replace c35 : ((8 : Nat) : Int) < (u).toInt := (cv_lt (nI_toInt (by omega)) rfl).mp c35
                  refine lv_iconst (v := ((-1))) hx hb dX6_share_50 (by decide) ?_
                  exact RET ((-1)) (bW cI cO a ca ia n O I J F E K G0) _ _ ls _ _ _ (Or.inl ⟨by omega, rfl, rfl⟩) G (by first | (simp only []; omega) | decide) (by first | (simp only []; omega) | decide) rfl dX6_share_51
                · skip
                  replace c35 : (u).toInt ≤ ((8 : Nat) : Int) := Int.not_lt.mp (fun h => c35 ((cv_lt (nI_toInt (by omega)) rfl).mpr h))
                  refine lv_iload hx hb dX6_share_38 (lv_at hl 5 rfl) ?_
                  refine lv_if_lt (tgt := 50) hx hb dX6_share_40 (by decide) (fun c40 => ?_) (fun c40 => ?_)
                  · skip
                    replace c40 : (v).toInt < (0) := (cv_lt rfl (by decide)).mp c40
                    refine lv_iconst (v := ((-1))) hx hb dX6_share_50 (by decide) ?_
                    exact RET ((-1)) (bW cI cO a ca ia n O I J F E K G0) _ _ ls _ _ _ (Or.inl ⟨by omega, rfl, rfl⟩) G (by first | (simp only []; omega) | decide) (by first | (simp only []; omega) | decide) rfl dX6_share_51
                  · skip
                    replace c40 : (0) ≤ (v).toInt := Int.not_lt.mp (fun h => c40 ((cv_lt rfl (by decide)).mpr h))
                    refine lv_iload hx hb dX6_share_43 (lv_at hl 5 rfl) ?_
                    refine lv_iload hx hb dX6_share_45 (lv_at hl 4 rfl) ?_
                    refine lv_icmp_lt (tgt := 52) hx hb dX6_share_47 (by decide) (fun c47 => ?_) (fun c47 => ?_)
                    · skip
                      replace c47 : (v).toInt < (u).toInt := (cv_lt rfl rfl).mp c47
                      obtain ⟨x1, hx1, ex1, rfl⟩ := nat_of (x := x) (by omega)
                      obtain ⟨y1, hy1, ey1, rfl⟩ := nat_of (x := y) (by omega)
                      obtain ⟨k1, hk1, ek1, rfl⟩ := nat_of (x := k) (by omega)
                      obtain ⟨u1, hu1, eu1, rfl⟩ := nat_of (x := u) (by omega)
                      obtain ⟨v1, hv1, ev1, rfl⟩ := nat_of (x := v) (by omega)
                      obtain ⟨i1, hi1, ei1, rfl⟩ := nat_of (x := i) (by omega)
                      refine lv_aload_n hx hb dX6_share_52 rfl (lv_at hl 0 rfl) ?_
                      refine r_get (v := .ref (a 2)) C G hX6 0 rfl rfl 1 (by decide) (by decide +kernel) rfl dX6_share_53 ?_
                      refine r_getN (v := .int (nI (I 4))) C G hX5 2 rfl rfl 1 (by decide) (by decide +kernel) rfl dX6_share_56 ?_
                      refine lv_if_eq (tgt := 74) hx hb dX6_share_59 (by decide) (fun c59 => ?_) (fun c59 => ?_)
                      · skip
                        replace c59 : ((I 4 : Nat) : Int) = (0) := (cv_eq (nI_toInt (by omega)) (by decide)).mp c59
                        refine lv_bipush (v := ((-16))) hx hb dX6_share_74 (by decide) ?_
                        exact RET ((-16)) (bW cI cO a ca ia n O I J F E K G0) _ _ ls _ _ _ (by rw [tn_nI hx1, tn_nI hy1, tn_nI hk1, tn_nI hu1, tn_nI hv1, tn_nI hi1]; exact Or.inr (Or.inl ⟨by omega, by omega, rfl, rfl⟩)) G (by first | (simp only []; omega) | decide) (by first | (simp only []; omega) | decide) rfl dX6_share_76
                      · skip
                        replace c59 : ¬ ((I 4 : Nat) : Int) = (0) := fun h => c59 ((cv_eq (nI_toInt (by omega)) (by decide)).mpr h)
                        refine lv_aload_n hx hb dX6_share_62 rfl (lv_at hl 0 rfl) ?_
                        refine r_get (v := .ref (a 4)) C G hX6 0 rfl rfl 3 (by decide) (by decide +kernel) rfl dX6_share_63 ?_
                        refine lv_iload_n hx hb dX6_share_66 rfl (lv_at hl 1 rfl) ?_
                        refine lv_iload_n hx hb dX6_share_67 rfl (lv_at hl 2 rfl) ?_
                        refine r_ai G hA (r_rV (na := 2) (As := [.int (nI (x1)), .int (nI (y1))]) (rest := []) C G (c_X3_make l D cI cO cL a ca ia n O I J F E K G0 x1 y1 hn hO hin hLb hWt hK3 h5 h6 (by omega) (by omega)) gX6_share_X3_make rfl (by decide +kernel) ⟨Nat.le_of_ble_eq_true rfl, Nat.le_of_ble_eq_true rfl⟩ 4 rfl rfl rfl hl.1 rfl (Nat.le_of_ble_eq_true rfl) dX6_share_68 ⟨by first | (simp only []; omega) | decide, by first | (simp only []; omega) | decide⟩) (fun r68 w68 H locs hp68 G => ?_)
                        rcases hp68 with ⟨hbw68, rfl, rfl⟩ | ⟨hbw68, rfl, g68, q3_68, q4_68, q5_68, q6_68, q7_68, σ68, hg68, rfl⟩
                        · skip
                          replace hbw68 : (x1 = 2 ∧ I 3 ≠ 0 ∧ wsum (F 1) (I 3) = 0) := hbw68
                          refine lv_if_ne (tgt := 77) hx hb dX6_share_71 (by decide) (fun c71 => ?_) (fun c71 => ?_)
                          · skip
                            exact absurd c71 (by decide)
                          · skip
                            refine lv_bipush (v := ((-16))) hx hb dX6_share_74 (by decide) ?_
                            exact RET ((-16)) (bW cI cO a ca ia n O (va_up I 8 (I 3)) J F E K G0) _ _ ls _ _ _ (by rw [tn_nI hx1, tn_nI hy1, tn_nI hk1, tn_nI hu1, tn_nI hv1, tn_nI hi1]; exact Or.inr (Or.inr (Or.inl ⟨by omega, by omega, hbw68, rfl, rfl⟩))) G (by first | (simp only []; omega) | decide) (by first | (simp only []; omega) | decide) rfl dX6_share_76
                        · skip
                          replace hbw68 : ¬ (x1 = 2 ∧ I 3 ≠ 0 ∧ wsum (F 1) (I 3) = 0) := hbw68
                          replace hg68 : OrdIs (I 3) (I 5) (I 6) (F 0) (F 1) (K 3) (J 0) x1 y1 g68 := hg68
                          refine lv_if_ne (tgt := 77) hx hb dX6_share_71 (by decide) (fun c71 => ?_) (fun c71 => ?_)
                          · skip
                            refine lv_aload_n hx hb dX6_share_77 rfl (lv_at hl 0 rfl) ?_
                            refine lv_iload_n hx hb dX6_share_78 rfl (lv_at hl 3 rfl) ?_
                            refine lv_iload hx hb dX6_share_79 (lv_at hl 6 rfl) ?_
                            refine lv_i2l (v := lN (i1)) hx hb dX6_share_81 (nI_l (by omega)) ?_
                            refine lv_iload hx hb dX6_share_82 (lv_at hl 4 rfl) ?_
                            refine lv_i2l (v := lN (u1)) hx hb dX6_share_84 (nI_l (by omega)) ?_
                            refine lv_lmul hx hb dX6_share_85 ?_
                            refine lv_iload hx hb dX6_share_86 (lv_at hl 5 rfl) ?_
                            refine lv_i2l (v := lN (v1)) hx hb dX6_share_88 (nI_l (by omega)) ?_
                            refine lv_ladd hx hb dX6_share_89 ?_
                            have hmul : i1 * u1 ≤ i1 * 8 := Nat.mul_le_mul_left _ (by omega)
                            refine r_topl (y := lN (i1 * u1 + v1)) (by rw [lN_mul, lN_add]) ?_
                            refine r_ai G hA (r_rV (na := 2) (As := [.int (nI (k1)), .long (lN (i1 * u1 + v1))]) (rest := []) C G (c_X6_rowInBatch l D cI cO cL a ca ia n O (va_up I 8 (I 3)) (va_up J 1 (σ68)) (va_up (va_up (va_up (va_up (va_up (va_up F 2 g68) 3 q3_68) 4 q4_68) 5 q5_68) 6 q6_68) 7 q7_68) E K G0 k1 (i1 * u1 + v1) hn rfl h4 (by show 1 ≤ I 4; omega) h7 (by omega) (by omega)) gX6_share_X6_rowInBatch rfl (by decide +kernel) ⟨Nat.le_of_ble_eq_true rfl, Nat.le_of_ble_eq_true rfl⟩ 0 rfl rfl rfl hl.1 rfl (Nat.le_of_ble_eq_true rfl) dX6_share_90 ⟨by first | (simp only []; omega) | decide, by first | (simp only []; omega) | decide⟩) (fun r90 w90 H locs hp90 G => ?_)
                            rcases hp90 with ⟨hmo90, rfl, rfl⟩ | ⟨hmo90, rfl, rfl⟩
                            · skip
                              replace hmo90 : (i1 * u1 + v1) < mof (I 3) (I 4) (I 7) k1 := hmo90
                              refine r_top (y := nI (g68 (k1 * I 4 + (i1 * u1 + v1)))) rfl ?_
                              exact RET (nI (g68 (k1 * I 4 + (i1 * u1 + v1)))) (bW cI cO a ca ia n O (va_up I 8 (I 3)) (va_up J 1 (σ68)) (va_up (va_up (va_up (va_up (va_up (va_up F 2 g68) 3 q3_68) 4 q4_68) 5 q5_68) 6 q6_68) 7 q7_68) E K G0) _ _ ls _ _ _ (by rw [tn_nI hx1, tn_nI hy1, tn_nI hk1, tn_nI hu1, tn_nI hv1, tn_nI hi1]; exact Or.inr (Or.inr (Or.inr ⟨by omega, by omega, hbw68, _, _, _, _, _, _, _, hg68, Or.inl ⟨hmo90, rfl⟩, rfl⟩))) G (by first | (simp only []; omega) | decide) (by first | (simp only []; omega) | decide) rfl dX6_share_93
                            · skip
                              replace hmo90 : ¬ (i1 * u1 + v1) < mof (I 3) (I 4) (I 7) k1 := hmo90
                              exact RET ((-3)) (bW cI cO a ca ia n O (va_up I 8 (I 3)) (va_up J 1 (σ68)) (va_up (va_up (va_up (va_up (va_up (va_up F 2 g68) 3 q3_68) 4 q4_68) 5 q5_68) 6 q6_68) 7 q7_68) E K G0) _ _ ls _ _ _ (by rw [tn_nI hx1, tn_nI hy1, tn_nI hk1, tn_nI hu1, tn_nI hv1, tn_nI hi1]; exact Or.inr (Or.inr (Or.inr ⟨by omega, by omega, hbw68, _, _, _, _, _, _, _, hg68, Or.inr ⟨hmo90, rfl⟩, rfl⟩))) G (by first | (simp only []; omega) | decide) (by first | (simp only []; omega) | decide) rfl dX6_share_93
                          · skip
                            exact absurd c71 (by decide)
                    · skip
                      replace c47 : (u).toInt ≤ (v).toInt := Int.not_lt.mp (fun h => c47 ((cv_lt rfl rfl).mpr h))
                      refine lv_iconst (v := ((-1))) hx hb dX6_share_50 (by decide) ?_
                      exact RET ((-1)) (bW cI cO a ca ia n O I J F E K G0) _ _ ls _ _ _ (Or.inl ⟨by omega, rfl, rfl⟩) G (by first | (simp only []; omega) | decide) (by first | (simp only []; omega) | decide) rfl dX6_share_51
            · skip
              replace c20 : (i).toInt < (0) := Int.not_le.mp (fun h => c20 ((cv_le (by decide) rfl).mpr h))
              refine lv_iconst (v := ((-1))) hx hb dX6_share_23 (by decide) ?_
              exact RET ((-1)) (bW cI cO a ca ia n O I J F E K G0) _ _ ls _ _ _ (Or.inl ⟨by omega, rfl, rfl⟩) G (by first | (simp only []; omega) | decide) (by first | (simp only []; omega) | decide) rfl dX6_share_24
      · skip
        refine lv_if_eq (tgt := 23) hx hb dX6_share_11 (by decide) (fun c11 => ?_) (fun c11 => ?_)
        · skip
          refine lv_iconst (v := ((-1))) hx hb dX6_share_23 (by decide) ?_
          exact RET ((-1)) (bW cI cO a ca ia n O I J F E K G0) _ _ ls _ _ _ (Or.inl ⟨by omega, rfl, rfl⟩) G (by first | (simp only []; omega) | decide) (by first | (simp only []; omega) | decide) rfl dX6_share_24
        · skip
          exact absurd c11 (by decide)
  · skip
    refine lv_if_eq (tgt := 23) hx hb dX6_share_4 (by decide) (fun c4 => ?_) (fun c4 => ?_)
    · skip
      refine lv_iconst (v := ((-1))) hx hb dX6_share_23 (by decide) ?_
      exact RET ((-1)) (bW cI cO a ca ia n O I J F E K G0) _ _ ls _ _ _ (Or.inl ⟨by omega, rfl, rfl⟩) G (by first | (simp only []; omega) | decide) (by first | (simp only []; omega) | decide) rfl dX6_share_24
    · skip
      exact absurd c4 (by decide)
set_option maxHeartbeats 4000000 in
set_option maxRecDepth 100000 in
theorem c_X6_once (l : Launch) (D : va_G) (cI cO cL : ClassId) (a ca ia : Nat → Nat) (n : Nat) (O : Nat → Option Nat) (I : Nat → Nat) (J : Nat → Int64) (F : Nat → Nat → Nat) (E : Nat → Nat → Int32) (K : Nat → Nat → Nat) (G0 : Nat → Nat → Int32) (x y : Int32) (hn : I 3 ≤ 60) (hO : ∀ j, j < I 3 → O j = some (ca j)) (hin : I 3 ≤ n) (hLb : ∀ j, j < I 3 → F 0 j < 8) (hWt : ∀ j, j < I 3 → F 1 j ≤ 1000) (hK3 : ∀ j, j < I 3 → K 3 j ≤ 1600) (h5 : 1 ≤ I 5 ∧ I 5 ≤ 60) (h6 : 1 ≤ I 6 ∧ I 6 ≤ 60) (h4 : I 4 ≤ 20) (h7 : I 7 ≤ 1) : Ki l yX6_once wsX6_once { frames := 6, cells := 0, slots := 0, locals := 138 } D (TY cI cO cL) [.ref (a 0), .int (x), .int (y)] (bW cI cO a ca ia n O I J F E K G0) (fun r w => (¬ (0 ≤ x.toInt ∧ x.toInt ≤ 4 ∧ 0 ≤ y.toInt ∧ y.toInt ≤ 1000) ∧ r = -1 ∧ w = bW cI cO a ca ia n O I J F E K G0) ∨ ((0 ≤ x.toInt ∧ x.toInt ≤ 4 ∧ 0 ≤ y.toInt ∧ y.toInt ≤ 1000) ∧ (tn x = 2 ∧ I 3 ≠ 0 ∧ wsum (F 1) (I 3) = 0) ∧ r = -16 ∧ w = bW cI cO a ca ia n O (va_up I 8 (I 3)) J F E K G0) ∨ ((0 ≤ x.toInt ∧ x.toInt ≤ 4 ∧ 0 ≤ y.toInt ∧ y.toInt ≤ 1000) ∧ ¬ (tn x = 2 ∧ I 3 ≠ 0 ∧ wsum (F 1) (I 3) = 0) ∧ ∃ g q3 q4 q5 q6 q7 σ, OrdIs (I 3) (I 5) (I 6) (F 0) (F 1) (K 3) (J 0) (tn x) (tn y) g ∧ ((onceP (I 3) g ∧ r = 1) ∨ (¬ onceP (I 3) g ∧ r = 0)) ∧ w = bW cI cO a ca ia n O (va_up I 8 (I 3)) (va_up J 1 (σ)) (va_up (va_up (va_up (va_up (va_up (va_up F 2 g) 3 q3) 4 q4) 5 q5) 6 q6) 7 q7) E K G0)) := by
  refine Ki.mk (cc := cX6_once) (maxL := 3) (rt := .int) (own := RX6) (by decide) rfl rfl (Nat.le_of_ble_eq_true rfl) ?_
  intro p e s m below meth c A Q ls C hname hA G hl RET
  obtain ⟨⟨hx, hb, hml, hown, hts⟩, hK, hN⟩ := id C
  have hl : lv_has ls 3 [(0, .ref (a 0)), (1, .int (x)), (2, .int (y))] := hl
  have hX6 : ∀ w ∈ u_ws RX6 TX6 8, w ∈ wsX6_once := by decide +kernel
  refine lv_iload_n hx hb dX6_once_0 rfl (lv_at hl 1 rfl) ?_
  refine r_ai G hA (r_rS (na := 1) (As := [.int (x)]) (rest := []) C G (c_X6_isWay l D cI cO cL (bW cI cO a ca ia n O I J F E K G0) x) gX6_once_X6_isWay rfl (by decide +kernel) ⟨Nat.le_of_ble_eq_true rfl, Nat.le_of_ble_eq_true rfl⟩ rfl hl.1 rfl (Nat.le_of_ble_eq_true rfl) dX6_once_1 ⟨by first | (simp only []; omega) | decide, by first | (simp only []; omega) | decide⟩) (fun r1 w1 H locs hp1 G => ?_)
  rcases hp1 with ⟨rfl, rfl, hi1⟩ | ⟨rfl, rfl, hi1⟩
  · skip
    refine lv_if_eq (tgt := 14) hx hb dX6_once_4 (by decide) (fun c4 => ?_) (fun c4 => ?_)
    · skip
      exact absurd c4 (by decide)
    · skip
      refine lv_iload_n hx hb dX6_once_7 rfl (lv_at hl 2 rfl) ?_
      refine r_ai G hA (r_rS (na := 1) (As := [.int (y)]) (rest := []) C G (c_X6_isRound l D cI cO cL (bW cI cO a ca ia n O I J F E K G0) y) gX6_once_X6_isRound rfl (by decide +kernel) ⟨Nat.le_of_ble_eq_true rfl, Nat.le_of_ble_eq_true rfl⟩ rfl hl.1 rfl (Nat.le_of_ble_eq_true rfl) dX6_once_8 ⟨by first | (simp only []; omega) | decide, by first | (simp only []; omega) | decide⟩) (fun r8 w8 H locs hp8 G => ?_)
      rcases hp8 with ⟨rfl, rfl, hi8⟩ | ⟨rfl, rfl, hi8⟩
      · skip
        refine lv_if_ne (tgt := 16) hx hb dX6_once_11 (by decide) (fun c11 => ?_) (fun c11 => ?_)
        · skip
          obtain ⟨x1, hx1, ex1, rfl⟩ := nat_of (x := x) (by omega)
          obtain ⟨y1, hy1, ey1, rfl⟩ := nat_of (x := y) (by omega)
          refine lv_aload_n hx hb dX6_once_16 rfl (lv_at hl 0 rfl) ?_
          refine r_get (v := .ref (a 4)) C G hX6 0 rfl rfl 3 (by decide) (by decide +kernel) rfl dX6_once_17 ?_
          refine lv_iload_n hx hb dX6_once_20 rfl (lv_at hl 1 rfl) ?_
          refine lv_iload_n hx hb dX6_once_21 rfl (lv_at hl 2 rfl) ?_
          refine r_ai G hA (r_rV (na := 2) (As := [.int (nI (x1)), .int (nI (y1))]) (rest := []) C G (c_X3_make l D cI cO cL a ca ia n O I J F E K G0 x1 y1 hn hO hin hLb hWt hK3 h5 h6 (by omega) (by omega)) gX6_once_X3_make rfl (by decide +kernel) ⟨Nat.le_of_ble_eq_true rfl, Nat.le_of_ble_eq_true rfl⟩ 4 rfl rfl rfl hl.1 rfl (Nat.le_of_ble_eq_true rfl) dX6_once_22 ⟨by first | (simp only []; omega) | decide, by first | (simp only []; omega) | decide⟩) (fun r22 w22 H locs hp22 G => ?_)
          rcases hp22 with ⟨hbw22, rfl, rfl⟩ | ⟨hbw22, rfl, g22, q3_22, q4_22, q5_22, q6_22, q7_22, σ22, hg22, rfl⟩
          · skip
            replace hbw22 : (x1 = 2 ∧ I 3 ≠ 0 ∧ wsum (F 1) (I 3) = 0) := hbw22
            refine lv_if_ne (tgt := 31) hx hb dX6_once_25 (by decide) (fun c25 => ?_) (fun c25 => ?_)
            · skip
              exact absurd c25 (by decide)
            · skip
              refine lv_bipush (v := ((-16))) hx hb dX6_once_28 (by decide) ?_
              exact RET ((-16)) (bW cI cO a ca ia n O (va_up I 8 (I 3)) J F E K G0) _ _ ls _ _ _ (by rw [tn_nI hx1, tn_nI hy1]; exact Or.inr (Or.inl ⟨by omega, hbw22, rfl, rfl⟩)) G (by first | (simp only []; omega) | decide) (by first | (simp only []; omega) | decide) rfl dX6_once_30
          · skip
            replace hbw22 : ¬ (x1 = 2 ∧ I 3 ≠ 0 ∧ wsum (F 1) (I 3) = 0) := hbw22
            replace hg22 : OrdIs (I 3) (I 5) (I 6) (F 0) (F 1) (K 3) (J 0) x1 y1 g22 := hg22
            refine lv_if_ne (tgt := 31) hx hb dX6_once_25 (by decide) (fun c25 => ?_) (fun c25 => ?_)
            · skip
              refine lv_aload_n hx hb dX6_once_31 rfl (lv_at hl 0 rfl) ?_
              refine r_get (v := .ref (a 4)) C G hX6 0 rfl rfl 3 (by decide) (by decide +kernel) rfl dX6_once_32 ?_
              refine r_ai G hA (r_rV (na := 0) (As := []) (rest := []) C G (c_X3_hasEachOnce l D cI cO cL a ca ia n O (va_up I 8 (I 3)) (va_up J 1 (σ22)) (va_up (va_up (va_up (va_up (va_up (va_up F 2 g22) 3 q3_22) 4 q4_22) 5 q5_22) 6 q6_22) 7 q7_22) E K G0 hn hg22.1) gX6_once_X3_hasEachOnce rfl (by decide +kernel) ⟨Nat.le_of_ble_eq_true rfl, Nat.le_of_ble_eq_true rfl⟩ 4 rfl rfl rfl hl.1 rfl (Nat.le_of_ble_eq_true rfl) dX6_once_35 ⟨by first | (simp only []; omega) | decide, by first | (simp only []; omega) | decide⟩) (fun r35 w35 H locs hp35 G => ?_)
              rcases hp35 with ⟨rfl, hon35, h35, rfl⟩ | ⟨rfl, hon35, h35, rfl⟩
              · skip
                replace hon35 : onceP (I 3) g22 := hon35
                refine lv_if_eq (tgt := 45) hx hb dX6_once_38 (by decide) (fun c38 => ?_) (fun c38 => ?_)
                · skip
                  exact absurd c38 (by decide)
                · skip
                  refine lv_iconst (v := (nI (1))) hx hb dX6_once_41 (by decide) ?_
                  refine lv_goto (tgt := 46) hx hb dX6_once_42 (by decide) ?_
                  exact RET (nI (1)) (bW cI cO a ca ia n O (va_up I 8 (I 3)) (va_up J 1 (σ22)) (va_up (va_up (va_up (va_up (va_up (va_up F 2 g22) 4 q4_22) 5 q5_22) 6 q6_22) 7 q7_22) 3 h35) E K G0) _ _ ls _ _ _ (by rw [tn_nI hx1, tn_nI hy1]; exact Or.inr (Or.inr ⟨by omega, hbw22, _, _, _, _, _, _, _, hg22, Or.inl ⟨hon35, rfl⟩, rfl⟩)) G (by first | (simp only []; omega) | decide) (by first | (simp only []; omega) | decide) rfl dX6_once_46
              · skip
                replace hon35 : ¬ onceP (I 3) g22 := hon35
                refine lv_if_eq (tgt := 45) hx hb dX6_once_38 (by decide) (fun c38 => ?_) (fun c38 => ?_)
                · skip
                  refine lv_iconst (v := (nI (0))) hx hb dX6_once_45 (by decide) ?_
                  exact RET (nI (0)) (bW cI cO a ca ia n O (va_up I 8 (I 3)) (va_up J 1 (σ22)) (va_up (va_up (va_up (va_up (va_up (va_up F 2 g22) 4 q4_22) 5 q5_22) 6 q6_22) 7 q7_22) 3 h35) E K G0) _ _ ls _ _ _ (by rw [tn_nI hx1, tn_nI hy1]; exact Or.inr (Or.inr ⟨by omega, hbw22, _, _, _, _, _, _, _, hg22, Or.inr ⟨hon35, rfl⟩, rfl⟩)) G (by first | (simp only []; omega) | decide) (by first | (simp only []; omega) | decide) rfl dX6_once_46
                · skip
                  exact absurd c38 (by decide)
            · skip
              exact absurd c25 (by decide)
        · skip
          exact absurd c11 (by decide)
      · skip
        refine lv_if_ne (tgt := 16) hx hb dX6_once_11 (by decide) (fun c11 => ?_) (fun c11 => ?_)
        · skip
          exact absurd c11 (by decide)
        · skip
          refine lv_iconst (v := ((-1))) hx hb dX6_once_14 (by decide) ?_
          exact RET ((-1)) (bW cI cO a ca ia n O I J F E K G0) _ _ ls _ _ _ (Or.inl ⟨by omega, rfl, rfl⟩) G (by first | (simp only []; omega) | decide) (by first | (simp only []; omega) | decide) rfl dX6_once_15
  · skip
    refine lv_if_eq (tgt := 14) hx hb dX6_once_4 (by decide) (fun c4 => ?_) (fun c4 => ?_)
    · skip
      refine lv_iconst (v := ((-1))) hx hb dX6_once_14 (by decide) ?_
      exact RET ((-1)) (bW cI cO a ca ia n O I J F E K G0) _ _ ls _ _ _ (Or.inl ⟨by omega, rfl, rfl⟩) G (by first | (simp only []; omega) | decide) (by first | (simp only []; omega) | decide) rfl dX6_once_15
    · skip
      exact absurd c4 (by decide)
set_option maxHeartbeats 4000000 in
set_option maxRecDepth 100000 in
theorem c_X6_next (l : Launch) (D : va_G) (cI cO cL : ClassId) (a ca ia : Nat → Nat) (n : Nat) (O : Nat → Option Nat) (I : Nat → Nat) (J : Nat → Int64) (F : Nat → Nat → Nat) (E : Nat → Nat → Int32) (K : Nat → Nat → Nat) (G0 : Nat → Nat → Int32) (hn : I 3 ≤ 60) (hO : ∀ j, j < I 3 → O j = some (ca j)) (hin : I 3 ≤ n) (hLb : ∀ j, j < I 3 → F 0 j < 8) (hWt : ∀ j, j < I 3 → F 1 j ≤ 1000) (hK3 : ∀ j, j < I 3 → K 3 j ≤ 1600) (h5 : 1 ≤ I 5 ∧ I 5 ≤ 60) (h6 : 1 ≤ I 6 ∧ I 6 ≤ 60) (h4 : I 4 ≤ 20) (h7 : I 7 ≤ 1) (h0 : I 0 ≤ 4) (h1 : I 1 ≤ 1000) (h2 : I 2 ≤ 60) : Ki l yX6_next wsX6_next { frames := 6, cells := 0, slots := 0, locals := 138 } D (TY cI cO cL) [.ref (a 0)] (bW cI cO a ca ia n O I J F E K G0) (fun r w => (I 3 = 0 ∧ r = -3 ∧ w = bW cI cO a ca ia n O I J F E K G0) ∨ (I 3 ≠ 0 ∧ (I 0 = 2 ∧ I 3 ≠ 0 ∧ wsum (F 1) (I 3) = 0) ∧ r = -16 ∧ w = bW cI cO a ca ia n O (va_up I 8 (I 3)) J F E K G0) ∨ (I 3 ≠ 0 ∧ ¬ (I 0 = 2 ∧ I 3 ≠ 0 ∧ wsum (F 1) (I 3) = 0) ∧ ∃ g q3 q4 q5 q6 q7 σ, OrdIs (I 3) (I 5) (I 6) (F 0) (F 1) (K 3) (J 0) (I 0) (nxR (I 3) (I 1) (I 2)) g ∧ r = nI (g (nxP (I 3) (I 2))) ∧ w = bW cI cO a ca ia n O (va_up (va_up (va_up I 8 (I 3)) 1 (nxR (I 3) (I 1) (I 2))) 2 (nxP (I 3) (I 2) + 1)) (va_up J 1 (σ)) (va_up (va_up (va_up (va_up (va_up (va_up F 2 g) 3 q3) 4 q4) 5 q5) 6 q6) 7 q7) E K G0)) := by
  refine Ki.mk (cc := cX6_next) (maxL := 3) (rt := .int) (own := RX6) (by decide) rfl rfl (Nat.le_of_ble_eq_true rfl) ?_
  intro p e s m below meth c A Q ls C hname hA G hl RET
  obtain ⟨⟨hx, hb, hml, hown, hts⟩, hK, hN⟩ := id C
  have hl : lv_has ls 3 [(0, .ref (a 0))] := hl
  have hX4 : ∀ w ∈ u_ws RX4 TX4 4, w ∈ wsX6_next := by decide +kernel
  have hX6 : ∀ w ∈ u_ws RX6 TX6 8, w ∈ wsX6_next := by decide +kernel
  refine lv_aload_n hx hb dX6_next_0 rfl (lv_at hl 0 rfl) ?_
  refine r_get (v := .ref (a 1)) C G hX6 0 rfl rfl 0 (by decide) (by decide +kernel) rfl dX6_next_1 ?_
  refine r_getN (v := .int (nI (I 3))) C G hX4 1 rfl rfl 3 (by decide) (by decide +kernel) rfl dX6_next_4 ?_
  refine lv_if_ne (tgt := 13) hx hb dX6_next_7 (by decide) (fun c7 => ?_) (fun c7 => ?_)
  · skip
    replace c7 : ¬ ((I 3 : Nat) : Int) = (0) := fun h => c7 ((cv_eq (nI_toInt (by omega)) (by decide)).mpr h)
    refine lv_aload_n hx hb dX6_next_13 rfl (lv_at hl 0 rfl) ?_
    refine r_get (v := .int (nI (I 1))) C G hX6 0 rfl rfl 6 (by decide) (by decide +kernel) rfl dX6_next_14 ?_
    refine lv_istore_n (lv' := [(1, .int (nI (I 1))), (0, .ref (a 0))]) hx hb dX6_next_17 rfl hl (by decide) rfl (fun ls hl => ?_)
    refine lv_aload_n hx hb dX6_next_18 rfl (lv_at hl 1 rfl) ?_
    refine r_get (v := .int (nI (I 2))) C G hX6 0 rfl rfl 7 (by decide) (by decide +kernel) rfl dX6_next_19 ?_
    refine lv_istore_n (lv' := [(2, .int (nI (I 2))), (1, .int (nI (I 1))), (0, .ref (a 0))]) hx hb dX6_next_22 rfl hl (by decide) rfl (fun ls hl => ?_)
    refine lv_iload_n hx hb dX6_next_23 rfl (lv_at hl 0 rfl) ?_
    refine lv_aload_n hx hb dX6_next_24 rfl (lv_at hl 2 rfl) ?_
    refine r_get (v := .ref (a 1)) C G hX6 0 rfl rfl 0 (by decide) (by decide +kernel) rfl dX6_next_25 ?_
    refine r_getN (v := .int (nI (I 3))) C G hX4 1 rfl rfl 3 (by decide) (by decide +kernel) rfl dX6_next_28 ?_
    refine lv_icmp_lt (tgt := 51) hx hb dX6_next_31 (by decide) (fun c31 => ?_) (fun c31 => ?_)
    · skip
      replace c31 : ((I 2 : Nat) : Int) < ((I 3 : Nat) : Int) := (cv_lt (nI_toInt (by omega)) (nI_toInt (by omega))).mp c31
      have er : I 1 = nxR (I 3) (I 1) (I 2) := by unfold nxR; rw [if_pos (by omega)]
      have ep : I 2 = nxP (I 3) (I 2) := by unfold nxP; rw [if_pos (by omega)]
      have hR : nxR (I 3) (I 1) (I 2) ≤ 1000 := by omega
      have hP : nxP (I 3) (I 2) < I 3 := by omega
      have hl : lv_has ls 3 [(2, .int (nI (nxP (I 3) (I 2)))), (1, .int (nI (nxR (I 3) (I 1) (I 2)))), (0, .ref (a 0))] := by rw [← er, ← ep]; exact hl
      refine lv_aload_n hx hb dX6_next_51 rfl (lv_at hl 2 rfl) ?_
      refine r_get (v := .ref (a 4)) C G hX6 0 rfl rfl 3 (by decide) (by decide +kernel) rfl dX6_next_52 ?_
      refine lv_aload_n hx hb dX6_next_55 rfl (lv_at hl 2 rfl) ?_
      refine r_get (v := .int (nI (I 0))) C G hX6 0 rfl rfl 5 (by decide) (by decide +kernel) rfl dX6_next_56 ?_
      refine lv_iload_n hx hb dX6_next_59 rfl (lv_at hl 1 rfl) ?_
      refine r_ai G hA (r_rV (na := 2) (As := [.int (nI (I 0)), .int (nI (nxR (I 3) (I 1) (I 2)))]) (rest := []) C G (c_X3_make l D cI cO cL a ca ia n O I J F E K G0 (I 0) (nxR (I 3) (I 1) (I 2)) hn hO hin hLb hWt hK3 h5 h6 (by omega) (by omega)) gX6_next_X3_make rfl (by decide +kernel) ⟨Nat.le_of_ble_eq_true rfl, Nat.le_of_ble_eq_true rfl⟩ 4 rfl rfl rfl hl.1 rfl (Nat.le_of_ble_eq_true rfl) dX6_next_60 ⟨by first | (simp only []; omega) | decide, by first | (simp only []; omega) | decide⟩) (fun r60 w60 H locs hp60 G => ?_)
      rcases hp60 with ⟨hbw60, rfl, rfl⟩ | ⟨hbw60, rfl, g60, q3_60, q4_60, q5_60, q6_60, q7_60, σ60, hg60, rfl⟩
      · skip
        replace hbw60 : ((I 0) = 2 ∧ I 3 ≠ 0 ∧ wsum (F 1) (I 3) = 0) := hbw60
        refine lv_if_ne (tgt := 69) hx hb dX6_next_63 (by decide) (fun c63 => ?_) (fun c63 => ?_)
        · skip
          exact absurd c63 (by decide)
        · skip
          refine lv_bipush (v := ((-16))) hx hb dX6_next_66 (by decide) ?_
          exact RET ((-16)) (bW cI cO a ca ia n O (va_up I 8 (I 3)) J F E K G0) _ _ ls _ _ _ (Or.inr (Or.inl ⟨by omega, hbw60, rfl, rfl⟩)) G (by first | (simp only []; omega) | decide) (by first | (simp only []; omega) | decide) rfl dX6_next_68
      · skip
        replace hbw60 : ¬ ((I 0) = 2 ∧ I 3 ≠ 0 ∧ wsum (F 1) (I 3) = 0) := hbw60
        replace hg60 : OrdIs (I 3) (I 5) (I 6) (F 0) (F 1) (K 3) (J 0) (I 0) (nxR (I 3) (I 1) (I 2)) g60 := hg60
        refine lv_if_ne (tgt := 69) hx hb dX6_next_63 (by decide) (fun c63 => ?_) (fun c63 => ?_)
        · skip
          refine lv_aload_n hx hb dX6_next_69 rfl (lv_at hl 2 rfl) ?_
          refine lv_iload_n hx hb dX6_next_70 rfl (lv_at hl 1 rfl) ?_
          refine r_put (ws' := bW cI cO a ca ia n O (va_up (va_up I 8 (I 3)) 1 (nxR (I 3) (I 1) (I 2))) (va_up J 1 (σ60)) (va_up (va_up (va_up (va_up (va_up (va_up F 2 g60) 3 q3_60) 4 q4_60) 5 q5_60) 6 q6_60) 7 q7_60) E K G0) C G hX6 tyX6_ok nmX6 0 rfl rfl 6 (by decide) (by decide +kernel) rfl rfl rfl (Nat.le_of_ble_eq_true rfl) dX6_next_71 rfl (fun H locs G => ?_)
          refine lv_aload_n hx hb dX6_next_74 rfl (lv_at hl 2 rfl) ?_
          refine lv_iload_n hx hb dX6_next_75 rfl (lv_at hl 0 rfl) ?_
          refine lv_iconst (v := (nI (1))) hx hb dX6_next_76 (by decide) ?_
          refine r_iadd hx hb dX6_next_77 ?_
          refine r_put (ws' := bW cI cO a ca ia n O (va_up (va_up (va_up I 8 (I 3)) 1 (nxR (I 3) (I 1) (I 2))) 2 ((nxP (I 3) (I 2)) + 1)) (va_up J 1 (σ60)) (va_up (va_up (va_up (va_up (va_up (va_up F 2 g60) 3 q3_60) 4 q4_60) 5 q5_60) 6 q6_60) 7 q7_60) E K G0) C G hX6 tyX6_ok nmX6 0 rfl rfl 7 (by decide) (by decide +kernel) rfl rfl rfl (Nat.le_of_ble_eq_true rfl) dX6_next_78 rfl (fun H locs G => ?_)
          refine lv_aload_n hx hb dX6_next_81 rfl (lv_at hl 2 rfl) ?_
          refine r_get (v := .ref (a 4)) C G hX6 0 rfl rfl 3 (by decide) (by decide +kernel) rfl dX6_next_82 ?_
          refine lv_iload_n hx hb dX6_next_85 rfl (lv_at hl 0 rfl) ?_
          refine r_ai G hA (r_rV (na := 1) (As := [.int (nI (nxP (I 3) (I 2)))]) (rest := []) C G (c_X3_rowAt l D cI cO cL a ca ia n O (va_up (va_up (va_up I 8 (I 3)) 1 (nxR (I 3) (I 1) (I 2))) 2 ((nxP (I 3) (I 2)) + 1)) (va_up J 1 (σ60)) (va_up (va_up (va_up (va_up (va_up (va_up F 2 g60) 3 q3_60) 4 q4_60) 5 q5_60) 6 q6_60) 7 q7_60) E K G0 (nxP (I 3) (I 2)) (by omega) (by show I 3 ≤ 60; omega)) gX6_next_X3_rowAt rfl (by decide +kernel) ⟨Nat.le_of_ble_eq_true rfl, Nat.le_of_ble_eq_true rfl⟩ 4 rfl rfl rfl hl.1 rfl (Nat.le_of_ble_eq_true rfl) dX6_next_86 ⟨by first | (simp only []; omega) | decide, by first | (simp only []; omega) | decide⟩) (fun r86 w86 H locs hp86 G => ?_)
          rcases hp86 with ⟨hra86, rfl, rfl⟩ | ⟨hra86, rfl, rfl⟩
          · skip
            replace hra86 : (nxP (I 3) (I 2)) < I 3 := hra86
            refine r_top (y := nI (g60 (nxP (I 3) (I 2)))) rfl ?_
            exact RET (nI (g60 (nxP (I 3) (I 2)))) (bW cI cO a ca ia n O (va_up (va_up (va_up I 8 (I 3)) 1 (nxR (I 3) (I 1) (I 2))) 2 ((nxP (I 3) (I 2)) + 1)) (va_up J 1 (σ60)) (va_up (va_up (va_up (va_up (va_up (va_up F 2 g60) 3 q3_60) 4 q4_60) 5 q5_60) 6 q6_60) 7 q7_60) E K G0) _ _ ls _ _ _ (Or.inr (Or.inr ⟨by omega, hbw60, _, _, _, _, _, _, _, hg60, rfl, rfl⟩)) G (by first | (simp only []; omega) | decide) (by first | (simp only []; omega) | decide) rfl dX6_next_89
          · skip
            replace hra86 : I 3 ≤ (nxP (I 3) (I 2)) := hra86
            exact absurd hra86 (by omega)
        · skip
          exact absurd c63 (by decide)
    · skip
      replace c31 : ((I 3 : Nat) : Int) ≤ ((I 2 : Nat) : Int) := Int.not_lt.mp (fun h => c31 ((cv_lt (nI_toInt (by omega)) (nI_toInt (by omega))).mpr h))
      refine lv_iload_n hx hb dX6_next_34 rfl (lv_at hl 1 rfl) ?_
      refine lv_sipush (v := (nI (1000))) hx hb dX6_next_35 (by decide) ?_
      refine lv_icmp_lt (tgt := 45) hx hb dX6_next_38 (by decide) (fun c38 => ?_) (fun c38 => ?_)
      · skip
        replace c38 : ((I 1 : Nat) : Int) < ((1000 : Nat) : Int) := (cv_lt (nI_toInt (by omega)) (nI_toInt (by omega))).mp c38
        refine lv_iload_n hx hb dX6_next_45 rfl (lv_at hl 1 rfl) ?_
        refine lv_iconst (v := (nI (1))) hx hb dX6_next_46 (by decide) ?_
        refine r_iadd hx hb dX6_next_47 ?_
        refine lv_istore_n (lv' := [(1, .int (nI ((I 1) + 1))), (2, .int (nI (I 2))), (0, .ref (a 0))]) hx hb dX6_next_48 rfl hl (by decide) rfl (fun ls hl => ?_)
        refine lv_iconst (v := (nI (0))) hx hb dX6_next_49 (by decide) ?_
        refine lv_istore_n (lv' := [(2, .int (nI (0))), (1, .int (nI ((I 1) + 1))), (0, .ref (a 0))]) hx hb dX6_next_50 rfl hl (by decide) rfl (fun ls hl => ?_)
        have er : (I 1) + 1 = nxR (I 3) (I 1) (I 2) := by unfold nxR; rw [if_neg (by omega), if_pos (by omega)]
        have ep : 0 = nxP (I 3) (I 2) := by unfold nxP; rw [if_neg (by omega)]
        have hR : nxR (I 3) (I 1) (I 2) ≤ 1000 := by omega
        have hP : nxP (I 3) (I 2) < I 3 := by omega
        have hl : lv_has ls 3 [(2, .int (nI (nxP (I 3) (I 2)))), (1, .int (nI (nxR (I 3) (I 1) (I 2)))), (0, .ref (a 0))] := by rw [← er, ← ep]; exact hl
        refine lv_aload_n hx hb dX6_next_51 rfl (lv_at hl 2 rfl) ?_
        refine r_get (v := .ref (a 4)) C G hX6 0 rfl rfl 3 (by decide) (by decide +kernel) rfl dX6_next_52 ?_
        refine lv_aload_n hx hb dX6_next_55 rfl (lv_at hl 2 rfl) ?_
        refine r_get (v := .int (nI (I 0))) C G hX6 0 rfl rfl 5 (by decide) (by decide +kernel) rfl dX6_next_56 ?_
        refine lv_iload_n hx hb dX6_next_59 rfl (lv_at hl 1 rfl) ?_
        refine r_ai G hA (r_rV (na := 2) (As := [.int (nI (I 0)), .int (nI (nxR (I 3) (I 1) (I 2)))]) (rest := []) C G (c_X3_make l D cI cO cL a ca ia n O I J F E K G0 (I 0) (nxR (I 3) (I 1) (I 2)) hn hO hin hLb hWt hK3 h5 h6 (by omega) (by omega)) gX6_next_X3_make rfl (by decide +kernel) ⟨Nat.le_of_ble_eq_true rfl, Nat.le_of_ble_eq_true rfl⟩ 4 rfl rfl rfl hl.1 rfl (Nat.le_of_ble_eq_true rfl) dX6_next_60 ⟨by first | (simp only []; omega) | decide, by first | (simp only []; omega) | decide⟩) (fun r60 w60 H locs hp60 G => ?_)
        rcases hp60 with ⟨hbw60, rfl, rfl⟩ | ⟨hbw60, rfl, g60, q3_60, q4_60, q5_60, q6_60, q7_60, σ60, hg60, rfl⟩
        · skip
          replace hbw60 : ((I 0) = 2 ∧ I 3 ≠ 0 ∧ wsum (F 1) (I 3) = 0) := hbw60
          refine lv_if_ne (tgt := 69) hx hb dX6_next_63 (by decide) (fun c63 => ?_) (fun c63 => ?_)
          · skip
            exact absurd c63 (by decide)
          · skip
            refine lv_bipush (v := ((-16))) hx hb dX6_next_66 (by decide) ?_
            exact RET ((-16)) (bW cI cO a ca ia n O (va_up I 8 (I 3)) J F E K G0) _ _ ls _ _ _ (Or.inr (Or.inl ⟨by omega, hbw60, rfl, rfl⟩)) G (by first | (simp only []; omega) | decide) (by first | (simp only []; omega) | decide) rfl dX6_next_68
        · skip
          replace hbw60 : ¬ ((I 0) = 2 ∧ I 3 ≠ 0 ∧ wsum (F 1) (I 3) = 0) := hbw60
          replace hg60 : OrdIs (I 3) (I 5) (I 6) (F 0) (F 1) (K 3) (J 0) (I 0) (nxR (I 3) (I 1) (I 2)) g60 := hg60
          refine lv_if_ne (tgt := 69) hx hb dX6_next_63 (by decide) (fun c63 => ?_) (fun c63 => ?_)
          · skip
            refine lv_aload_n hx hb dX6_next_69 rfl (lv_at hl 2 rfl) ?_
            refine lv_iload_n hx hb dX6_next_70 rfl (lv_at hl 1 rfl) ?_
            refine r_put (ws' := bW cI cO a ca ia n O (va_up (va_up I 8 (I 3)) 1 (nxR (I 3) (I 1) (I 2))) (va_up J 1 (σ60)) (va_up (va_up (va_up (va_up (va_up (va_up F 2 g60) 3 q3_60) 4 q4_60) 5 q5_60) 6 q6_60) 7 q7_60) E K G0) C G hX6 tyX6_ok nmX6 0 rfl rfl 6 (by decide) (by decide +kernel) rfl rfl rfl (Nat.le_of_ble_eq_true rfl) dX6_next_71 rfl (fun H locs G => ?_)
            refine lv_aload_n hx hb dX6_next_74 rfl (lv_at hl 2 rfl) ?_
            refine lv_iload_n hx hb dX6_next_75 rfl (lv_at hl 0 rfl) ?_
            refine lv_iconst (v := (nI (1))) hx hb dX6_next_76 (by decide) ?_
            refine r_iadd hx hb dX6_next_77 ?_
            refine r_put (ws' := bW cI cO a ca ia n O (va_up (va_up (va_up I 8 (I 3)) 1 (nxR (I 3) (I 1) (I 2))) 2 ((nxP (I 3) (I 2)) + 1)) (va_up J 1 (σ60)) (va_up (va_up (va_up (va_up (va_up (va_up F 2 g60) 3 q3_60) 4 q4_60) 5 q5_60) 6 q6_60) 7 q7_60) E K G0) C G hX6 tyX6_ok nmX6 0 rfl rfl 7 (by decide) (by decide +kernel) rfl rfl rfl (Nat.le_of_ble_eq_true rfl) dX6_next_78 rfl (fun H locs G => ?_)
            refine lv_aload_n hx hb dX6_next_81 rfl (lv_at hl 2 rfl) ?_
            refine r_get (v := .ref (a 4)) C G hX6 0 rfl rfl 3 (by decide) (by decide +kernel) rfl dX6_next_82 ?_
            refine lv_iload_n hx hb dX6_next_85 rfl (lv_at hl 0 rfl) ?_
            refine r_ai G hA (r_rV (na := 1) (As := [.int (nI (nxP (I 3) (I 2)))]) (rest := []) C G (c_X3_rowAt l D cI cO cL a ca ia n O (va_up (va_up (va_up I 8 (I 3)) 1 (nxR (I 3) (I 1) (I 2))) 2 ((nxP (I 3) (I 2)) + 1)) (va_up J 1 (σ60)) (va_up (va_up (va_up (va_up (va_up (va_up F 2 g60) 3 q3_60) 4 q4_60) 5 q5_60) 6 q6_60) 7 q7_60) E K G0 (nxP (I 3) (I 2)) (by omega) (by show I 3 ≤ 60; omega)) gX6_next_X3_rowAt rfl (by decide +kernel) ⟨Nat.le_of_ble_eq_true rfl, Nat.le_of_ble_eq_true rfl⟩ 4 rfl rfl rfl hl.1 rfl (Nat.le_of_ble_eq_true rfl) dX6_next_86 ⟨by first | (simp only []; omega) | decide, by first | (simp only []; omega) | decide⟩) (fun r86 w86 H locs hp86 G => ?_)
            rcases hp86 with ⟨hra86, rfl, rfl⟩ | ⟨hra86, rfl, rfl⟩
            · skip
              replace hra86 : (nxP (I 3) (I 2)) < I 3 := hra86
              refine r_top (y := nI (g60 (nxP (I 3) (I 2)))) rfl ?_
              exact RET (nI (g60 (nxP (I 3) (I 2)))) (bW cI cO a ca ia n O (va_up (va_up (va_up I 8 (I 3)) 1 (nxR (I 3) (I 1) (I 2))) 2 ((nxP (I 3) (I 2)) + 1)) (va_up J 1 (σ60)) (va_up (va_up (va_up (va_up (va_up (va_up F 2 g60) 3 q3_60) 4 q4_60) 5 q5_60) 6 q6_60) 7 q7_60) E K G0) _ _ ls _ _ _ (Or.inr (Or.inr ⟨by omega, hbw60, _, _, _, _, _, _, _, hg60, rfl, rfl⟩)) G (by first | (simp only []; omega) | decide) (by first | (simp only []; omega) | decide) rfl dX6_next_89
            · skip
              replace hra86 : I 3 ≤ (nxP (I 3) (I 2)) := hra86
              exact absurd hra86 (by omega)
          · skip
            exact absurd c63 (by decide)
      · skip
        replace c38 : ((1000 : Nat) : Int) ≤ ((I 1 : Nat) : Int) := Int.not_lt.mp (fun h => c38 ((cv_lt (nI_toInt (by omega)) (nI_toInt (by omega))).mpr h))
        refine lv_iconst (v := (nI (0))) hx hb dX6_next_41 (by decide) ?_
        refine lv_goto (tgt := 48) hx hb dX6_next_42 (by decide) ?_
        refine lv_istore_n (lv' := [(1, .int (nI (0))), (2, .int (nI (I 2))), (0, .ref (a 0))]) hx hb dX6_next_48 rfl hl (by decide) rfl (fun ls hl => ?_)
        refine lv_iconst (v := (nI (0))) hx hb dX6_next_49 (by decide) ?_
        refine lv_istore_n (lv' := [(2, .int (nI (0))), (1, .int (nI (0))), (0, .ref (a 0))]) hx hb dX6_next_50 rfl hl (by decide) rfl (fun ls hl => ?_)
        have er : 0 = nxR (I 3) (I 1) (I 2) := by unfold nxR; rw [if_neg (by omega), if_neg (by omega)]
        have ep : 0 = nxP (I 3) (I 2) := by unfold nxP; rw [if_neg (by omega)]
        have hR : nxR (I 3) (I 1) (I 2) ≤ 1000 := by omega
        have hP : nxP (I 3) (I 2) < I 3 := by omega
        have hl : lv_has ls 3 [(2, .int (nI (nxP (I 3) (I 2)))), (1, .int (nI (nxR (I 3) (I 1) (I 2)))), (0, .ref (a 0))] := by rw [← er, ← ep]; exact hl
        refine lv_aload_n hx hb dX6_next_51 rfl (lv_at hl 2 rfl) ?_
        refine r_get (v := .ref (a 4)) C G hX6 0 rfl rfl 3 (by decide) (by decide +kernel) rfl dX6_next_52 ?_
        refine lv_aload_n hx hb dX6_next_55 rfl (lv_at hl 2 rfl) ?_
        refine r_get (v := .int (nI (I 0))) C G hX6 0 rfl rfl 5 (by decide) (by decide +kernel) rfl dX6_next_56 ?_
        refine lv_iload_n hx hb dX6_next_59 rfl (lv_at hl 1 rfl) ?_
        refine r_ai G hA (r_rV (na := 2) (As := [.int (nI (I 0)), .int (nI (nxR (I 3) (I 1) (I 2)))]) (rest := []) C G (c_X3_make l D cI cO cL a ca ia n O I J F E K G0 (I 0) (nxR (I 3) (I 1) (I 2)) hn hO hin hLb hWt hK3 h5 h6 (by omega) (by omega)) gX6_next_X3_make rfl (by decide +kernel) ⟨Nat.le_of_ble_eq_true rfl, Nat.le_of_ble_eq_true rfl⟩ 4 rfl rfl rfl hl.1 rfl (Nat.le_of_ble_eq_true rfl) dX6_next_60 ⟨by first | (simp only []; omega) | decide, by first | (simp only []; omega) | decide⟩) (fun r60 w60 H locs hp60 G => ?_)
        rcases hp60 with ⟨hbw60, rfl, rfl⟩ | ⟨hbw60, rfl, g60, q3_60, q4_60, q5_60, q6_60, q7_60, σ60, hg60, rfl⟩
        · skip
          replace hbw60 : ((I 0) = 2 ∧ I 3 ≠ 0 ∧ wsum (F 1) (I 3) = 0) := hbw60
          refine lv_if_ne (tgt := 69) hx hb dX6_next_63 (by decide) (fun c63 => ?_) (fun c63 => ?_)
          · skip
            exact absurd c63 (by decide)
          · skip
            refine lv_bipush (v := ((-16))) hx hb dX6_next_66 (by decide) ?_
            exact RET ((-16)) (bW cI cO a ca ia n O (va_up I 8 (I 3)) J F E K G0) _ _ ls _ _ _ (Or.inr (Or.inl ⟨by omega, hbw60, rfl, rfl⟩)) G (by first | (simp only []; omega) | decide) (by first | (simp only []; omega) | decide) rfl dX6_next_68
        · skip
          replace hbw60 : ¬ ((I 0) = 2 ∧ I 3 ≠ 0 ∧ wsum (F 1) (I 3) = 0) := hbw60
          replace hg60 : OrdIs (I 3) (I 5) (I 6) (F 0) (F 1) (K 3) (J 0) (I 0) (nxR (I 3) (I 1) (I 2)) g60 := hg60
          refine lv_if_ne (tgt := 69) hx hb dX6_next_63 (by decide) (fun c63 => ?_) (fun c63 => ?_)
          · skip
            refine lv_aload_n hx hb dX6_next_69 rfl (lv_at hl 2 rfl) ?_
            refine lv_iload_n hx hb dX6_next_70 rfl (lv_at hl 1 rfl) ?_
            refine r_put (ws' := bW cI cO a ca ia n O (va_up (va_up I 8 (I 3)) 1 (nxR (I 3) (I 1) (I 2))) (va_up J 1 (σ60)) (va_up (va_up (va_up (va_up (va_up (va_up F 2 g60) 3 q3_60) 4 q4_60) 5 q5_60) 6 q6_60) 7 q7_60) E K G0) C G hX6 tyX6_ok nmX6 0 rfl rfl 6 (by decide) (by decide +kernel) rfl rfl rfl (Nat.le_of_ble_eq_true rfl) dX6_next_71 rfl (fun H locs G => ?_)
            refine lv_aload_n hx hb dX6_next_74 rfl (lv_at hl 2 rfl) ?_
            refine lv_iload_n hx hb dX6_next_75 rfl (lv_at hl 0 rfl) ?_
            refine lv_iconst (v := (nI (1))) hx hb dX6_next_76 (by decide) ?_
            refine r_iadd hx hb dX6_next_77 ?_
            refine r_put (ws' := bW cI cO a ca ia n O (va_up (va_up (va_up I 8 (I 3)) 1 (nxR (I 3) (I 1) (I 2))) 2 ((nxP (I 3) (I 2)) + 1)) (va_up J 1 (σ60)) (va_up (va_up (va_up (va_up (va_up (va_up F 2 g60) 3 q3_60) 4 q4_60) 5 q5_60) 6 q6_60) 7 q7_60) E K G0) C G hX6 tyX6_ok nmX6 0 rfl rfl 7 (by decide) (by decide +kernel) rfl rfl rfl (Nat.le_of_ble_eq_true rfl) dX6_next_78 rfl (fun H locs G => ?_)
            refine lv_aload_n hx hb dX6_next_81 rfl (lv_at hl 2 rfl) ?_
            refine r_get (v := .ref (a 4)) C G hX6 0 rfl rfl 3 (by decide) (by decide +kernel) rfl dX6_next_82 ?_
            refine lv_iload_n hx hb dX6_next_85 rfl (lv_at hl 0 rfl) ?_
            refine r_ai G hA (r_rV (na := 1) (As := [.int (nI (nxP (I 3) (I 2)))]) (rest := []) C G (c_X3_rowAt l D cI cO cL a ca ia n O (va_up (va_up (va_up I 8 (I 3)) 1 (nxR (I 3) (I 1) (I 2))) 2 ((nxP (I 3) (I 2)) + 1)) (va_up J 1 (σ60)) (va_up (va_up (va_up (va_up (va_up (va_up F 2 g60) 3 q3_60) 4 q4_60) 5 q5_60) 6 q6_60) 7 q7_60) E K G0 (nxP (I 3) (I 2)) (by omega) (by show I 3 ≤ 60; omega)) gX6_next_X3_rowAt rfl (by decide +kernel) ⟨Nat.le_of_ble_eq_true rfl, Nat.le_of_ble_eq_true rfl⟩ 4 rfl rfl rfl hl.1 rfl (Nat.le_of_ble_eq_true rfl) dX6_next_86 ⟨by first | (simp only []; omega) | decide, by first | (simp only []; omega) | decide⟩) (fun r86 w86 H locs hp86 G => ?_)
            rcases hp86 with ⟨hra86, rfl, rfl⟩ | ⟨hra86, rfl, rfl⟩
            · skip
              replace hra86 : (nxP (I 3) (I 2)) < I 3 := hra86
              refine r_top (y := nI (g60 (nxP (I 3) (I 2)))) rfl ?_
              exact RET (nI (g60 (nxP (I 3) (I 2)))) (bW cI cO a ca ia n O (va_up (va_up (va_up I 8 (I 3)) 1 (nxR (I 3) (I 1) (I 2))) 2 ((nxP (I 3) (I 2)) + 1)) (va_up J 1 (σ60)) (va_up (va_up (va_up (va_up (va_up (va_up F 2 g60) 3 q3_60) 4 q4_60) 5 q5_60) 6 q6_60) 7 q7_60) E K G0) _ _ ls _ _ _ (Or.inr (Or.inr ⟨by omega, hbw60, _, _, _, _, _, _, _, hg60, rfl, rfl⟩)) G (by first | (simp only []; omega) | decide) (by first | (simp only []; omega) | decide) rfl dX6_next_89
            · skip
              replace hra86 : I 3 ≤ (nxP (I 3) (I 2)) := hra86
              exact absurd hra86 (by omega)
          · skip
            exact absurd c63 (by decide)
  · skip
    replace c7 : ((I 3 : Nat) : Int) = (0) := (cv_eq (nI_toInt (by omega)) (by decide)).mp c7
    refine lv_bipush (v := ((-3))) hx hb dX6_next_10 (by decide) ?_
    exact RET ((-3)) (bW cI cO a ca ia n O I J F E K G0) _ _ ls _ _ _ (Or.inl ⟨by omega, rfl, rfl⟩) G (by first | (simp only []; omega) | decide) (by first | (simp only []; omega) | decide) rfl dX6_next_12
