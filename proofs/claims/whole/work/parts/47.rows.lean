set_option maxHeartbeats 4000000 in
set_option maxRecDepth 100000 in
theorem c_X4_append (l : Launch) (D : va_G) (cI cO cL : ClassId) (a ca ia : Nat → Nat) (n : Nat) (O : Nat → Option Nat) (I : Nat → Nat) (J : Nat → Int64) (F : Nat → Nat → Nat) (E : Nat → Nat → Int32) (K : Nat → Nat → Nat) (G0 : Nat → Nat → Int32) (r lb wt : Nat) (hr : r < n) (h60 : I 3 < 60) : Ki l yX4_append wsX4_append { frames := 2, cells := 0, slots := 0, locals := 44 } D (TY cI cO cL) [.ref (a 1), .ref (ca r), .int (nI (lb)), .int (nI (wt))] (bW cI cO a ca ia n O I J F E K G0) (fun rr w => rr = nI (I 3) ∧ w = bW cI cO a ca ia n (va_up O (I 3) (some (ca r))) (va_up I 3 (I 3 + 1)) J (va_up (va_up F 0 (va_up (F 0) (I 3) lb)) 1 (va_up (F 1) (I 3) wt)) E K G0) := by
  refine Ki.mk (cc := cX4_append) (maxL := 5) (rt := .int) (own := RX4) (by decide) rfl rfl (Nat.le_of_ble_eq_true rfl) ?_
  intro p e s m below meth c A Q ls C hname hA G hl RET
  obtain ⟨⟨hx, hb, hml, hown, hts⟩, hK, hN⟩ := id C
  have hl : lv_has ls 5 [(0, .ref (a 1)), (1, .ref (ca r)), (2, .int (nI (lb))), (3, .int (nI (wt)))] := hl
  have hX4 : ∀ w ∈ u_ws RX4 TX4 4, w ∈ wsX4_append := by decide +kernel
  have hn : I 3 ≤ 60 := by omega
  refine lv_aload_n hx hb dX4_append_0 rfl (lv_at hl 0 rfl) ?_
  refine r_ai G hA (r_rV (na := 0) (As := []) (rest := []) C G (c_X4_isFull l D cI cO cL a ca ia n O I J F E K G0 hn) gX4_append_X4_isFull rfl (by decide +kernel) ⟨Nat.le_of_ble_eq_true rfl, Nat.le_of_ble_eq_true rfl⟩ 1 rfl rfl rfl hl.1 rfl (Nat.le_of_ble_eq_true rfl) dX4_append_1 ⟨by first | (simp only []; omega) | decide, by first | (simp only []; omega) | decide⟩) (fun r1 w1 H locs hp1 G => ?_)
  rcases hp1 with ⟨rfl, rfl, hi1⟩ | ⟨rfl, rfl, hi1⟩
  · skip
    replace hi1 : 60 ≤ I 3 := hi1
    exact absurd hi1 (by omega)
  · skip
    replace hi1 : ¬ 60 ≤ I 3 := hi1
    refine lv_if_eq (tgt := 10) hx hb dX4_append_4 (by decide) (fun c4 => ?_) (fun c4 => ?_)
    · skip
      refine lv_aload_n hx hb dX4_append_10 rfl (lv_at hl 0 rfl) ?_
      refine r_get (v := .int (nI (I 3))) C G hX4 1 rfl rfl 3 (by decide) (by decide +kernel) rfl dX4_append_11 ?_
      refine lv_istore (lv' := [(4, .int (nI (I 3))), (0, .ref (a 1)), (1, .ref (ca r)), (2, .int (nI (lb))), (3, .int (nI (wt)))]) hx hb dX4_append_14 hl (by decide) rfl (fun ls hl => ?_)
      refine lv_aload_n hx hb dX4_append_16 rfl (lv_at hl 1 rfl) ?_
      refine r_get (v := .ref (a 5)) C G hX4 1 rfl rfl 0 (by decide) (by decide +kernel) rfl dX4_append_17 ?_
      refine lv_iload hx hb dX4_append_20 (lv_at hl 0 rfl) ?_
      refine lv_aload_n hx hb dX4_append_22 rfl (lv_at hl 2 rfl) ?_
      refine r_aast (ws' := bW cI cO a ca ia n (va_up O (I 3) (some (ca r))) I J F E K G0) (r := (RX1, TX1, 5)) C G 5 1 (16 + 2 * r) 0 rfl rfl (bW_c (by omega)) rfl (I 3) rfl (by omega) (by omega) rfl dX4_append_23 rfl (fun H locs G => ?_)
      refine lv_aload_n hx hb dX4_append_24 rfl (lv_at hl 1 rfl) ?_
      refine lv_dup hx hb dX4_append_25 rfl ?_
      refine r_get (v := .int (nI (I 3))) C G hX4 1 rfl rfl 3 (by decide) (by decide +kernel) rfl dX4_append_26 ?_
      refine lv_iconst (v := (nI (1))) hx hb dX4_append_29 (by decide) ?_
      refine r_iadd hx hb dX4_append_30 ?_
      refine r_put (ws' := bW cI cO a ca ia n (va_up O (I 3) (some (ca r))) (va_up I 3 ((I 3) + 1)) J F E K G0) C G hX4 tyX4_ok nmX4 1 rfl rfl 3 (by decide) (by decide +kernel) rfl rfl rfl (Nat.le_of_ble_eq_true rfl) dX4_append_31 rfl (fun H locs G => ?_)
      refine lv_aload_n hx hb dX4_append_34 rfl (lv_at hl 1 rfl) ?_
      refine lv_iload hx hb dX4_append_35 (lv_at hl 0 rfl) ?_
      refine lv_iload_n hx hb dX4_append_37 rfl (lv_at hl 3 rfl) ?_
      refine lv_iload_n hx hb dX4_append_38 rfl (lv_at hl 4 rfl) ?_
      refine r_av G hA (r_rV (na := 3) (As := [.int (nI (I 3)), .int (nI (lb)), .int (nI (wt))]) (rest := []) C G (c_X4_relabel l D cI cO cL a ca ia n (va_up O (I 3) (some (ca r))) (va_up I 3 ((I 3) + 1)) J F E K G0 (I 3) lb wt (by show I 3 + 1 ≤ 60; omega) (by show I 3 < I 3 + 1; omega)) gX4_append_X4_relabel rfl (by decide +kernel) ⟨Nat.le_of_ble_eq_true rfl, Nat.le_of_ble_eq_true rfl⟩ 1 rfl rfl rfl hl.1 rfl (Nat.le_of_ble_eq_true rfl) dX4_append_39 ⟨by first | (simp only []; omega) | decide, by first | (simp only []; omega) | decide⟩) (fun w39 H locs hp39 G => ?_)
      obtain ⟨rfl⟩ := hp39
      refine lv_iload hx hb dX4_append_42 (lv_at hl 0 rfl) ?_
      exact RET (nI (I 3)) (bW cI cO a ca ia n (va_up O (I 3) (some (ca r))) (va_up I 3 ((I 3) + 1)) J (va_up (va_up F 0 (va_up (F 0) (I 3) lb)) 1 (va_up (F 1) (I 3) wt)) E K G0) _ _ ls _ _ _ (⟨rfl, rfl⟩) G (by first | (simp only []; omega) | decide) (by first | (simp only []; omega) | decide) rfl dX4_append_44
    · skip
      exact absurd c4 (by decide)
set_option maxHeartbeats 4000000 in
set_option maxRecDepth 100000 in
theorem c_X6_row (l : Launch) (D : va_G) (cI cO cL : ClassId) (a ca ia : Nat → Nat) (n : Nat) (O : Nat → Option Nat) (I : Nat → Nat) (J : Nat → Int64) (F : Nat → Nat → Nat) (E : Nat → Nat → Int32) (K : Nat → Nat → Nat) (G0 : Nat → Nat → Int32) (kd lb wt : Int32) (hn : I 3 ≤ 60) (en : n = I 3) : Ki l yX6_row wsX6_row { frames := 3, cells := 2, slots := 1605, locals := 68 } D (TY cI cO cL) [.ref (a 0), .int (kd), .int (lb), .int (wt)] (bW cI cO a ca ia n O I J F E K G0) (fun r w => (¬ ((kd.toInt = 0 ∨ kd.toInt = 2) ∧ 0 ≤ lb.toInt ∧ lb.toInt ≤ 7 ∧ 0 ≤ wt.toInt ∧ wt.toInt ≤ 1000) ∧ r = -1 ∧ w = bW cI cO a ca ia n O I J F E K G0) ∨ (((kd.toInt = 0 ∨ kd.toInt = 2) ∧ 0 ≤ lb.toInt ∧ lb.toInt ≤ 7 ∧ 0 ≤ wt.toInt ∧ wt.toInt ≤ 1000) ∧ I 3 = 60 ∧ r = -2 ∧ w = bW cI cO a ca ia n O I J F E K G0) ∨ (((kd.toInt = 0 ∨ kd.toInt = 2) ∧ 0 ≤ lb.toInt ∧ lb.toInt ≤ 7 ∧ 0 ≤ wt.toInt ∧ wt.toInt ≤ 1000) ∧ I 3 < 60 ∧ r = nI (I 3) ∧ ∃ q q2, w = bW cI cO a (va_up ca n q) (va_up ia n q2) (n + 1) (va_up O (I 3) (some (va_up ca n q n))) (va_up I 3 (I 3 + 1)) J (va_up (va_up F 0 (va_up (F 0) (I 3) (tn lb))) 1 (va_up (F 1) (I 3) (tn wt))) E (kps K n (tn kd) 0 0 (0 * 0) (if tn kd = 0 then 40 else 0)) (va_up G0 n (fun _ => 0)))) := by
  refine Ki.mk (cc := cX6_row) (maxL := 5) (rt := .int) (own := RX6) (by decide) rfl rfl (Nat.le_of_ble_eq_true rfl) ?_
  intro p e s m below meth c A Q ls C hname hA G hl RET
  obtain ⟨⟨hx, hb, hml, hown, hts⟩, hK, hN⟩ := id C
  have hl : lv_has ls 5 [(0, .ref (a 0)), (1, .int (kd)), (2, .int (lb)), (3, .int (wt))] := hl
  have hX1 : ∀ w ∈ u_ws RX1 TX1 5, w ∈ wsX6_row := by decide +kernel
  have hX6 : ∀ w ∈ u_ws RX6 TX6 8, w ∈ wsX6_row := by decide +kernel
  refine lv_iload_n hx hb dX6_row_0 rfl (lv_at hl 1 rfl) ?_
  refine lv_if_eq (tgt := 9) hx hb dX6_row_1 (by decide) (fun c1 => ?_) (fun c1 => ?_)
  · skip
    replace c1 : (kd).toInt = (0) := (cv_eq rfl (by decide)).mp c1
    refine lv_iload_n hx hb dX6_row_9 rfl (lv_at hl 2 rfl) ?_
    refine r_ai G hA (r_rS (na := 1) (As := [.int (lb)]) (rest := []) C G (c_X6_isLabel l D cI cO cL (bW cI cO a ca ia n O I J F E K G0) lb) gX6_row_X6_isLabel rfl (by decide +kernel) ⟨Nat.le_of_ble_eq_true rfl, Nat.le_of_ble_eq_true rfl⟩ rfl hl.1 rfl (Nat.le_of_ble_eq_true rfl) dX6_row_10 ⟨by first | (simp only []; omega) | decide, by first | (simp only []; omega) | decide⟩) (fun r10 w10 H locs hp10 G => ?_)
    rcases hp10 with ⟨rfl, rfl, hi10⟩ | ⟨rfl, rfl, hi10⟩
    · skip
      refine lv_if_eq (tgt := 23) hx hb dX6_row_13 (by decide) (fun c13 => ?_) (fun c13 => ?_)
      · skip
        exact absurd c13 (by decide)
      · skip
        refine lv_iload_n hx hb dX6_row_16 rfl (lv_at hl 3 rfl) ?_
        refine r_ai G hA (r_rS (na := 1) (As := [.int (wt)]) (rest := []) C G (c_X6_isWeight l D cI cO cL (bW cI cO a ca ia n O I J F E K G0) wt) gX6_row_X6_isWeight rfl (by decide +kernel) ⟨Nat.le_of_ble_eq_true rfl, Nat.le_of_ble_eq_true rfl⟩ rfl hl.1 rfl (Nat.le_of_ble_eq_true rfl) dX6_row_17 ⟨by first | (simp only []; omega) | decide, by first | (simp only []; omega) | decide⟩) (fun r17 w17 H locs hp17 G => ?_)
        rcases hp17 with ⟨rfl, rfl, hi17⟩ | ⟨rfl, rfl, hi17⟩
        · skip
          refine lv_if_ne (tgt := 25) hx hb dX6_row_20 (by decide) (fun c20 => ?_) (fun c20 => ?_)
          · skip
            refine lv_aload_n hx hb dX6_row_25 rfl (lv_at hl 0 rfl) ?_
            refine r_get (v := .ref (a 1)) C G hX6 0 rfl rfl 0 (by decide) (by decide +kernel) rfl dX6_row_26 ?_
            refine r_ai G hA (r_rV (na := 0) (As := []) (rest := []) C G (c_X4_isFull l D cI cO cL a ca ia n O I J F E K G0 hn) gX6_row_X4_isFull rfl (by decide +kernel) ⟨Nat.le_of_ble_eq_true rfl, Nat.le_of_ble_eq_true rfl⟩ 1 rfl rfl rfl hl.1 rfl (Nat.le_of_ble_eq_true rfl) dX6_row_29 ⟨by first | (simp only []; omega) | decide, by first | (simp only []; omega) | decide⟩) (fun r29 w29 H locs hp29 G => ?_)
            rcases hp29 with ⟨rfl, rfl, hi29⟩ | ⟨rfl, rfl, hi29⟩
            · skip
              replace hi29 : 60 ≤ I 3 := hi29
              refine lv_if_eq (tgt := 38) hx hb dX6_row_32 (by decide) (fun c32 => ?_) (fun c32 => ?_)
              · skip
                exact absurd c32 (by decide)
              · skip
                refine lv_bipush (v := ((-2))) hx hb dX6_row_35 (by decide) ?_
                exact RET ((-2)) (bW cI cO a ca ia n O I J F E K G0) _ _ ls _ _ _ (Or.inr (Or.inl ⟨by omega, by omega, rfl, rfl⟩)) G (by first | (simp only []; omega) | decide) (by first | (simp only []; omega) | decide) rfl dX6_row_37
            · skip
              replace hi29 : ¬ 60 ≤ I 3 := hi29
              refine lv_if_eq (tgt := 38) hx hb dX6_row_32 (by decide) (fun c32 => ?_) (fun c32 => ?_)
              · skip
                have ek : kd.toInt = ((0 : Nat) : Int) := by omega
                obtain rfl : kd = nI 0 := eq_lit ek (by omega)
                refine lv_iload_n hx hb dX6_row_38 rfl (lv_at hl 1 rfl) ?_
                refine lv_if_ne (tgt := 47) hx hb dX6_row_39 (by decide) (fun c39 => ?_) (fun c39 => ?_)
                · skip
                  exact absurd c39 (by decide)
                · skip
                  refine lv_bipush (v := (nI (40))) hx hb dX6_row_42 (by decide) ?_
                  refine lv_goto (tgt := 48) hx hb dX6_row_44 (by decide) ?_
                  refine lv_istore (lv' := [(4, .int (nI (40))), (0, .ref (a 0)), (1, .int (nI (0))), (2, .int (lb)), (3, .int (wt))]) hx hb dX6_row_48 hl (by decide) rfl (fun ls hl => ?_)
                  refine lv_aload_n hx hb dX6_row_50 rfl (lv_at hl 1 rfl) ?_
                  refine r_get (v := .ref (a 1)) C G hX6 0 rfl rfl 0 (by decide) (by decide +kernel) rfl dX6_row_51 ?_
                  refine r_new (ci := 0) (fs := [.null, .int (nI (0)), .int (nI (0)), .int (nI (0)), .int (nI (0))]) C G hA hX1 tyX1_ok (by decide +kernel) (by decide +kernel) (by decide +kernel) rfl (by decide) (by first | (simp only []; omega) | decide) (by first | (simp only []; omega) | decide) dX6_row_54 (fun q54 H G => ?_)
                  replace G : Wd A s.heap D ((bW cI cO a ca ia n O I J F E K G0) ++ [(q54, .inr (0, [.null, .int (nI (0)), .int (nI (0)), .int (nI (0)), .int (nI (0))]))]) H _ := G
                  refine lv_dup hx hb dX6_row_57 rfl ?_
                  refine lv_iload_n hx hb dX6_row_58 rfl (lv_at hl 2 rfl) ?_
                  refine lv_iconst (v := (nI (0))) hx hb dX6_row_59 (by decide) ?_
                  refine lv_iconst (v := (nI (0))) hx hb dX6_row_60 (by decide) ?_
                  refine lv_iload hx hb dX6_row_61 (lv_at hl 0 rfl) ?_
                  refine r_av G hA (r_rI (na := 4) (As := [.int (nI (0)), .int (nI (0)), .int (nI (0)), .int (nI (40))]) (rest := [.ref (q54), .ref (a 1)]) C G (c_X1_init l D cI cO cL (bW cI cO a ca ia n O I J F E K G0) q54 0 0 0 40 (by omega)) gX6_row_X1_init rfl (by decide +kernel) (by decide +kernel) (by decide +kernel) rfl (by decide +kernel) ⟨Nat.le_of_ble_eq_true rfl, Nat.le_of_ble_eq_true rfl⟩ rfl hl.1 rfl (Nat.le_of_ble_eq_true rfl) dX6_row_63 ⟨by first | (simp only []; omega) | decide, by first | (simp only []; omega) | decide⟩) (fun w63 H locs hp63 G => ?_)
                  obtain ⟨q63, rfl⟩ := hp63
                  replace G : Wd A s.heap D ((bW cI cO a ca ia n O I J F E K G0) ++ [(q54, .inr (0, [.ref (q63), .int (nI (0)), .int (nI (0)), .int (nI (0)), .int (nI (0 * 0))])), (q63, .inl (cI, 40, .inl (fun _ => 0)))]) H locs := G.eq (by rfl)
                  replace G : Wd A s.heap D (bW cI cO a (va_up ca n q54) (va_up ia n q63) (n + 1) O I J F E (kps K n 0 0 0 (0 * 0) 40) (va_up G0 n (fun _ => 0))) H locs := G.eq (bW_push _ _ _ _ _ _ _ _)
                  refine r_st (st' := [.ref (va_up ca n q54 n), .ref (a 1)]) (by rw [up_same]) ?_
                  obtain ⟨lb1, hlb1, elb1, rfl⟩ := nat_of (x := lb) (by omega)
                  obtain ⟨wt1, hwt1, ewt1, rfl⟩ := nat_of (x := wt) (by omega)
                  refine lv_iload_n hx hb dX6_row_66 rfl (lv_at hl 3 rfl) ?_
                  refine lv_iload_n hx hb dX6_row_67 rfl (lv_at hl 4 rfl) ?_
                  refine r_ai G hA (r_rV (na := 3) (As := [.ref (va_up ca n q54 n), .int (nI (lb1)), .int (nI (wt1))]) (rest := []) C G (c_X4_append l D cI cO cL a (va_up ca n q54) (va_up ia n q63) (n + 1) O I J F E (kps K n 0 0 0 (0 * 0) 40) (va_up G0 n (fun _ => 0)) n lb1 wt1 (by omega) (by omega)) gX6_row_X4_append rfl (by decide +kernel) ⟨Nat.le_of_ble_eq_true rfl, Nat.le_of_ble_eq_true rfl⟩ 1 rfl rfl rfl hl.1 rfl (Nat.le_of_ble_eq_true rfl) dX6_row_68 ⟨by first | (simp only []; omega) | decide, by first | (simp only []; omega) | decide⟩) (fun r68 w68 H locs hp68 G => ?_)
                  obtain ⟨rfl, rfl⟩ := hp68
                  refine r_top (y := nI (I 3)) rfl ?_
                  exact RET (nI (I 3)) (bW cI cO a (va_up ca n q54) (va_up ia n q63) (n + 1) (va_up O (I 3) (some (va_up ca n q54 n))) (va_up I 3 (I 3 + 1)) J (va_up (va_up F 0 (va_up (F 0) (I 3) lb1)) 1 (va_up (F 1) (I 3) wt1)) E (kps K n 0 0 0 (0 * 0) 40) (va_up G0 n (fun _ => 0))) _ _ ls _ _ _ (by rw [tn_nI (show 0 < 2 ^ 31 by omega), tn_nI hlb1, tn_nI hwt1]; exact Or.inr (Or.inr ⟨by omega, by omega, rfl, q54, q63, rfl⟩)) G (by first | (simp only []; omega) | decide) (by first | (simp only []; omega) | decide) rfl dX6_row_71
              · skip
                exact absurd c32 (by decide)
          · skip
            exact absurd c20 (by decide)
        · skip
          refine lv_if_ne (tgt := 25) hx hb dX6_row_20 (by decide) (fun c20 => ?_) (fun c20 => ?_)
          · skip
            exact absurd c20 (by decide)
          · skip
            refine lv_iconst (v := ((-1))) hx hb dX6_row_23 (by decide) ?_
            exact RET ((-1)) (bW cI cO a ca ia n O I J F E K G0) _ _ ls _ _ _ (Or.inl ⟨by omega, rfl, rfl⟩) G (by first | (simp only []; omega) | decide) (by first | (simp only []; omega) | decide) rfl dX6_row_24
    · skip
      refine lv_if_eq (tgt := 23) hx hb dX6_row_13 (by decide) (fun c13 => ?_) (fun c13 => ?_)
      · skip
        refine lv_iconst (v := ((-1))) hx hb dX6_row_23 (by decide) ?_
        exact RET ((-1)) (bW cI cO a ca ia n O I J F E K G0) _ _ ls _ _ _ (Or.inl ⟨by omega, rfl, rfl⟩) G (by first | (simp only []; omega) | decide) (by first | (simp only []; omega) | decide) rfl dX6_row_24
      · skip
        exact absurd c13 (by decide)
  · skip
    replace c1 : ¬ (kd).toInt = (0) := fun h => c1 ((cv_eq rfl (by decide)).mpr h)
    refine lv_iload_n hx hb dX6_row_4 rfl (lv_at hl 1 rfl) ?_
    refine lv_iconst (v := (nI (2))) hx hb dX6_row_5 (by decide) ?_
    refine lv_icmp_ne (tgt := 23) hx hb dX6_row_6 (by decide) (fun c6 => ?_) (fun c6 => ?_)
    · skip
      replace c6 : ¬ (kd).toInt = ((2 : Nat) : Int) := fun h => c6 ((cv_eq rfl (nI_toInt (by omega))).mpr h)
      refine lv_iconst (v := ((-1))) hx hb dX6_row_23 (by decide) ?_
      exact RET ((-1)) (bW cI cO a ca ia n O I J F E K G0) _ _ ls _ _ _ (Or.inl ⟨by omega, rfl, rfl⟩) G (by first | (simp only []; omega) | decide) (by first | (simp only []; omega) | decide) rfl dX6_row_24
    · skip
      replace c6 : (kd).toInt = ((2 : Nat) : Int) := (cv_eq rfl (nI_toInt (by omega))).mp c6
      refine lv_iload_n hx hb dX6_row_9 rfl (lv_at hl 2 rfl) ?_
      refine r_ai G hA (r_rS (na := 1) (As := [.int (lb)]) (rest := []) C G (c_X6_isLabel l D cI cO cL (bW cI cO a ca ia n O I J F E K G0) lb) gX6_row_X6_isLabel rfl (by decide +kernel) ⟨Nat.le_of_ble_eq_true rfl, Nat.le_of_ble_eq_true rfl⟩ rfl hl.1 rfl (Nat.le_of_ble_eq_true rfl) dX6_row_10 ⟨by first | (simp only []; omega) | decide, by first | (simp only []; omega) | decide⟩) (fun r10 w10 H locs hp10 G => ?_)
      rcases hp10 with ⟨rfl, rfl, hi10⟩ | ⟨rfl, rfl, hi10⟩
      · skip
        refine lv_if_eq (tgt := 23) hx hb dX6_row_13 (by decide) (fun c13 => ?_) (fun c13 => ?_)
        · skip
          exact absurd c13 (by decide)
        · skip
          refine lv_iload_n hx hb dX6_row_16 rfl (lv_at hl 3 rfl) ?_
          refine r_ai G hA (r_rS (na := 1) (As := [.int (wt)]) (rest := []) C G (c_X6_isWeight l D cI cO cL (bW cI cO a ca ia n O I J F E K G0) wt) gX6_row_X6_isWeight rfl (by decide +kernel) ⟨Nat.le_of_ble_eq_true rfl, Nat.le_of_ble_eq_true rfl⟩ rfl hl.1 rfl (Nat.le_of_ble_eq_true rfl) dX6_row_17 ⟨by first | (simp only []; omega) | decide, by first | (simp only []; omega) | decide⟩) (fun r17 w17 H locs hp17 G => ?_)
          rcases hp17 with ⟨rfl, rfl, hi17⟩ | ⟨rfl, rfl, hi17⟩
          · skip
            refine lv_if_ne (tgt := 25) hx hb dX6_row_20 (by decide) (fun c20 => ?_) (fun c20 => ?_)
            · skip
              refine lv_aload_n hx hb dX6_row_25 rfl (lv_at hl 0 rfl) ?_
              refine r_get (v := .ref (a 1)) C G hX6 0 rfl rfl 0 (by decide) (by decide +kernel) rfl dX6_row_26 ?_
              refine r_ai G hA (r_rV (na := 0) (As := []) (rest := []) C G (c_X4_isFull l D cI cO cL a ca ia n O I J F E K G0 hn) gX6_row_X4_isFull rfl (by decide +kernel) ⟨Nat.le_of_ble_eq_true rfl, Nat.le_of_ble_eq_true rfl⟩ 1 rfl rfl rfl hl.1 rfl (Nat.le_of_ble_eq_true rfl) dX6_row_29 ⟨by first | (simp only []; omega) | decide, by first | (simp only []; omega) | decide⟩) (fun r29 w29 H locs hp29 G => ?_)
              rcases hp29 with ⟨rfl, rfl, hi29⟩ | ⟨rfl, rfl, hi29⟩
              · skip
                replace hi29 : 60 ≤ I 3 := hi29
                refine lv_if_eq (tgt := 38) hx hb dX6_row_32 (by decide) (fun c32 => ?_) (fun c32 => ?_)
                · skip
                  exact absurd c32 (by decide)
                · skip
                  refine lv_bipush (v := ((-2))) hx hb dX6_row_35 (by decide) ?_
                  exact RET ((-2)) (bW cI cO a ca ia n O I J F E K G0) _ _ ls _ _ _ (Or.inr (Or.inl ⟨by omega, by omega, rfl, rfl⟩)) G (by first | (simp only []; omega) | decide) (by first | (simp only []; omega) | decide) rfl dX6_row_37
              · skip
                replace hi29 : ¬ 60 ≤ I 3 := hi29
                refine lv_if_eq (tgt := 38) hx hb dX6_row_32 (by decide) (fun c32 => ?_) (fun c32 => ?_)
                · skip
                  have ek : kd.toInt = ((2 : Nat) : Int) := by omega
                  obtain rfl : kd = nI 2 := eq_lit ek (by omega)
                  refine lv_iload_n hx hb dX6_row_38 rfl (lv_at hl 1 rfl) ?_
                  refine lv_if_ne (tgt := 47) hx hb dX6_row_39 (by decide) (fun c39 => ?_) (fun c39 => ?_)
                  · skip
                    refine lv_iconst (v := (nI (0))) hx hb dX6_row_47 (by decide) ?_
                    refine lv_istore (lv' := [(4, .int (nI (0))), (0, .ref (a 0)), (1, .int (nI (2))), (2, .int (lb)), (3, .int (wt))]) hx hb dX6_row_48 hl (by decide) rfl (fun ls hl => ?_)
                    refine lv_aload_n hx hb dX6_row_50 rfl (lv_at hl 1 rfl) ?_
                    refine r_get (v := .ref (a 1)) C G hX6 0 rfl rfl 0 (by decide) (by decide +kernel) rfl dX6_row_51 ?_
                    refine r_new (ci := 0) (fs := [.null, .int (nI (0)), .int (nI (0)), .int (nI (0)), .int (nI (0))]) C G hA hX1 tyX1_ok (by decide +kernel) (by decide +kernel) (by decide +kernel) rfl (by decide) (by first | (simp only []; omega) | decide) (by first | (simp only []; omega) | decide) dX6_row_54 (fun q54 H G => ?_)
                    replace G : Wd A s.heap D ((bW cI cO a ca ia n O I J F E K G0) ++ [(q54, .inr (0, [.null, .int (nI (0)), .int (nI (0)), .int (nI (0)), .int (nI (0))]))]) H _ := G
                    refine lv_dup hx hb dX6_row_57 rfl ?_
                    refine lv_iload_n hx hb dX6_row_58 rfl (lv_at hl 2 rfl) ?_
                    refine lv_iconst (v := (nI (0))) hx hb dX6_row_59 (by decide) ?_
                    refine lv_iconst (v := (nI (0))) hx hb dX6_row_60 (by decide) ?_
                    refine lv_iload hx hb dX6_row_61 (lv_at hl 0 rfl) ?_
                    refine r_av G hA (r_rI (na := 4) (As := [.int (nI (2)), .int (nI (0)), .int (nI (0)), .int (nI (0))]) (rest := [.ref (q54), .ref (a 1)]) C G (c_X1_init l D cI cO cL (bW cI cO a ca ia n O I J F E K G0) q54 2 0 0 0 (by omega)) gX6_row_X1_init rfl (by decide +kernel) (by decide +kernel) (by decide +kernel) rfl (by decide +kernel) ⟨Nat.le_of_ble_eq_true rfl, Nat.le_of_ble_eq_true rfl⟩ rfl hl.1 rfl (Nat.le_of_ble_eq_true rfl) dX6_row_63 ⟨by first | (simp only []; omega) | decide, by first | (simp only []; omega) | decide⟩) (fun w63 H locs hp63 G => ?_)
                    obtain ⟨q63, rfl⟩ := hp63
                    replace G : Wd A s.heap D ((bW cI cO a ca ia n O I J F E K G0) ++ [(q54, .inr (0, [.ref (q63), .int (nI (2)), .int (nI (0)), .int (nI (0)), .int (nI (0 * 0))])), (q63, .inl (cI, 0, .inl (fun _ => 0)))]) H locs := G.eq (by rfl)
                    replace G : Wd A s.heap D (bW cI cO a (va_up ca n q54) (va_up ia n q63) (n + 1) O I J F E (kps K n 2 0 0 (0 * 0) 0) (va_up G0 n (fun _ => 0))) H locs := G.eq (bW_push _ _ _ _ _ _ _ _)
                    refine r_st (st' := [.ref (va_up ca n q54 n), .ref (a 1)]) (by rw [up_same]) ?_
                    obtain ⟨lb1, hlb1, elb1, rfl⟩ := nat_of (x := lb) (by omega)
                    obtain ⟨wt1, hwt1, ewt1, rfl⟩ := nat_of (x := wt) (by omega)
                    refine lv_iload_n hx hb dX6_row_66 rfl (lv_at hl 3 rfl) ?_
                    refine lv_iload_n hx hb dX6_row_67 rfl (lv_at hl 4 rfl) ?_
                    refine r_ai G hA (r_rV (na := 3) (As := [.ref (va_up ca n q54 n), .int (nI (lb1)), .int (nI (wt1))]) (rest := []) C G (c_X4_append l D cI cO cL a (va_up ca n q54) (va_up ia n q63) (n + 1) O I J F E (kps K n 2 0 0 (0 * 0) 0) (va_up G0 n (fun _ => 0)) n lb1 wt1 (by omega) (by omega)) gX6_row_X4_append rfl (by decide +kernel) ⟨Nat.le_of_ble_eq_true rfl, Nat.le_of_ble_eq_true rfl⟩ 1 rfl rfl rfl hl.1 rfl (Nat.le_of_ble_eq_true rfl) dX6_row_68 ⟨by first | (simp only []; omega) | decide, by first | (simp only []; omega) | decide⟩) (fun r68 w68 H locs hp68 G => ?_)
                    obtain ⟨rfl, rfl⟩ := hp68
                    refine r_top (y := nI (I 3)) rfl ?_
                    exact RET (nI (I 3)) (bW cI cO a (va_up ca n q54) (va_up ia n q63) (n + 1) (va_up O (I 3) (some (va_up ca n q54 n))) (va_up I 3 (I 3 + 1)) J (va_up (va_up F 0 (va_up (F 0) (I 3) lb1)) 1 (va_up (F 1) (I 3) wt1)) E (kps K n 2 0 0 (0 * 0) 0) (va_up G0 n (fun _ => 0))) _ _ ls _ _ _ (by rw [tn_nI (show 2 < 2 ^ 31 by omega), tn_nI hlb1, tn_nI hwt1]; exact Or.inr (Or.inr ⟨by omega, by omega, rfl, q54, q63, rfl⟩)) G (by first | (simp only []; omega) | decide) (by first | (simp only []; omega) | decide) rfl dX6_row_71
                  · skip
                    exact absurd c39 (by decide)
                · skip
                  exact absurd c32 (by decide)
            · skip
              exact absurd c20 (by decide)
          · skip
            refine lv_if_ne (tgt := 25) hx hb dX6_row_20 (by decide) (fun c20 => ?_) (fun c20 => ?_)
            · skip
              exact absurd c20 (by decide)
            · skip
              refine lv_iconst (v := ((-1))) hx hb dX6_row_23 (by decide) ?_
              exact RET ((-1)) (bW cI cO a ca ia n O I J F E K G0) _ _ ls _ _ _ (Or.inl ⟨by omega, rfl, rfl⟩) G (by first | (simp only []; omega) | decide) (by first | (simp only []; omega) | decide) rfl dX6_row_24
      · skip
        refine lv_if_eq (tgt := 23) hx hb dX6_row_13 (by decide) (fun c13 => ?_) (fun c13 => ?_)
        · skip
          refine lv_iconst (v := ((-1))) hx hb dX6_row_23 (by decide) ?_
          exact RET ((-1)) (bW cI cO a ca ia n O I J F E K G0) _ _ ls _ _ _ (Or.inl ⟨by omega, rfl, rfl⟩) G (by first | (simp only []; omega) | decide) (by first | (simp only []; omega) | decide) rfl dX6_row_24
        · skip
          exact absurd c13 (by decide)
set_option maxHeartbeats 4000000 in
set_option maxRecDepth 100000 in
theorem c_X6_picture (l : Launch) (D : va_G) (cI cO cL : ClassId) (a ca ia : Nat → Nat) (n : Nat) (O : Nat → Option Nat) (I : Nat → Nat) (J : Nat → Int64) (F : Nat → Nat → Nat) (E : Nat → Nat → Int32) (K : Nat → Nat → Nat) (G0 : Nat → Nat → Int32) (hi wi lb wt : Int32) (hn : I 3 ≤ 60) (en : n = I 3) : Ki l yX6_picture wsX6_picture { frames := 3, cells := 2, slots := 1605, locals := 68 } D (TY cI cO cL) [.ref (a 0), .int (hi), .int (wi), .int (lb), .int (wt)] (bW cI cO a ca ia n O I J F E K G0) (fun r w => (¬ (1 ≤ hi.toInt ∧ hi.toInt ≤ 40 ∧ 1 ≤ wi.toInt ∧ wi.toInt ≤ 40 ∧ 0 ≤ lb.toInt ∧ lb.toInt ≤ 7 ∧ 0 ≤ wt.toInt ∧ wt.toInt ≤ 1000) ∧ r = -1 ∧ w = bW cI cO a ca ia n O I J F E K G0) ∨ ((1 ≤ hi.toInt ∧ hi.toInt ≤ 40 ∧ 1 ≤ wi.toInt ∧ wi.toInt ≤ 40 ∧ 0 ≤ lb.toInt ∧ lb.toInt ≤ 7 ∧ 0 ≤ wt.toInt ∧ wt.toInt ≤ 1000) ∧ I 3 = 60 ∧ r = -2 ∧ w = bW cI cO a ca ia n O I J F E K G0) ∨ ((1 ≤ hi.toInt ∧ hi.toInt ≤ 40 ∧ 1 ≤ wi.toInt ∧ wi.toInt ≤ 40 ∧ 0 ≤ lb.toInt ∧ lb.toInt ≤ 7 ∧ 0 ≤ wt.toInt ∧ wt.toInt ≤ 1000) ∧ I 3 < 60 ∧ r = nI (I 3) ∧ ∃ q q2, w = bW cI cO a (va_up ca n q) (va_up ia n q2) (n + 1) (va_up O (I 3) (some (va_up ca n q n))) (va_up I 3 (I 3 + 1)) J (va_up (va_up F 0 (va_up (F 0) (I 3) (tn lb))) 1 (va_up (F 1) (I 3) (tn wt))) E (kps K n 1 (tn hi) (tn wi) (tn hi * tn wi) (tn hi * tn wi)) (va_up G0 n (fun _ => 0)))) := by
  refine Ki.mk (cc := cX6_picture) (maxL := 5) (rt := .int) (own := RX6) (by decide) rfl rfl (Nat.le_of_ble_eq_true rfl) ?_
  intro p e s m below meth c A Q ls C hname hA G hl RET
  obtain ⟨⟨hx, hb, hml, hown, hts⟩, hK, hN⟩ := id C
  have hl : lv_has ls 5 [(0, .ref (a 0)), (1, .int (hi)), (2, .int (wi)), (3, .int (lb)), (4, .int (wt))] := hl
  have hX1 : ∀ w ∈ u_ws RX1 TX1 5, w ∈ wsX6_picture := by decide +kernel
  have hX6 : ∀ w ∈ u_ws RX6 TX6 8, w ∈ wsX6_picture := by decide +kernel
  refine lv_iload_n hx hb dX6_picture_0 rfl (lv_at hl 1 rfl) ?_
  refine r_ai G hA (r_rS (na := 1) (As := [.int (hi)]) (rest := []) C G (c_X6_isSide l D cI cO cL (bW cI cO a ca ia n O I J F E K G0) hi) gX6_picture_X6_isSide rfl (by decide +kernel) ⟨Nat.le_of_ble_eq_true rfl, Nat.le_of_ble_eq_true rfl⟩ rfl hl.1 rfl (Nat.le_of_ble_eq_true rfl) dX6_picture_1 ⟨by first | (simp only []; omega) | decide, by first | (simp only []; omega) | decide⟩) (fun r1 w1 H locs hp1 G => ?_)
  rcases hp1 with ⟨rfl, rfl, hi1⟩ | ⟨rfl, rfl, hi1⟩
  · skip
    refine lv_if_eq (tgt := 29) hx hb dX6_picture_4 (by decide) (fun c4 => ?_) (fun c4 => ?_)
    · skip
      exact absurd c4 (by decide)
    · skip
      refine lv_iload_n hx hb dX6_picture_7 rfl (lv_at hl 2 rfl) ?_
      refine r_ai G hA (r_rS (na := 1) (As := [.int (wi)]) (rest := []) C G (c_X6_isSide l D cI cO cL (bW cI cO a ca ia n O I J F E K G0) wi) gX6_picture_X6_isSide rfl (by decide +kernel) ⟨Nat.le_of_ble_eq_true rfl, Nat.le_of_ble_eq_true rfl⟩ rfl hl.1 rfl (Nat.le_of_ble_eq_true rfl) dX6_picture_8 ⟨by first | (simp only []; omega) | decide, by first | (simp only []; omega) | decide⟩) (fun r8 w8 H locs hp8 G => ?_)
      rcases hp8 with ⟨rfl, rfl, hi8⟩ | ⟨rfl, rfl, hi8⟩
      · skip
        refine lv_if_eq (tgt := 29) hx hb dX6_picture_11 (by decide) (fun c11 => ?_) (fun c11 => ?_)
        · skip
          exact absurd c11 (by decide)
        · skip
          refine lv_iload_n hx hb dX6_picture_14 rfl (lv_at hl 3 rfl) ?_
          refine r_ai G hA (r_rS (na := 1) (As := [.int (lb)]) (rest := []) C G (c_X6_isLabel l D cI cO cL (bW cI cO a ca ia n O I J F E K G0) lb) gX6_picture_X6_isLabel rfl (by decide +kernel) ⟨Nat.le_of_ble_eq_true rfl, Nat.le_of_ble_eq_true rfl⟩ rfl hl.1 rfl (Nat.le_of_ble_eq_true rfl) dX6_picture_15 ⟨by first | (simp only []; omega) | decide, by first | (simp only []; omega) | decide⟩) (fun r15 w15 H locs hp15 G => ?_)
          rcases hp15 with ⟨rfl, rfl, hi15⟩ | ⟨rfl, rfl, hi15⟩
          · skip
            refine lv_if_eq (tgt := 29) hx hb dX6_picture_18 (by decide) (fun c18 => ?_) (fun c18 => ?_)
            · skip
              exact absurd c18 (by decide)
            · skip
              refine lv_iload hx hb dX6_picture_21 (lv_at hl 4 rfl) ?_
              refine r_ai G hA (r_rS (na := 1) (As := [.int (wt)]) (rest := []) C G (c_X6_isWeight l D cI cO cL (bW cI cO a ca ia n O I J F E K G0) wt) gX6_picture_X6_isWeight rfl (by decide +kernel) ⟨Nat.le_of_ble_eq_true rfl, Nat.le_of_ble_eq_true rfl⟩ rfl hl.1 rfl (Nat.le_of_ble_eq_true rfl) dX6_picture_23 ⟨by first | (simp only []; omega) | decide, by first | (simp only []; omega) | decide⟩) (fun r23 w23 H locs hp23 G => ?_)
              rcases hp23 with ⟨rfl, rfl, hi23⟩ | ⟨rfl, rfl, hi23⟩
              · skip
                refine lv_if_ne (tgt := 31) hx hb dX6_picture_26 (by decide) (fun c26 => ?_) (fun c26 => ?_)
                · skip
                  refine lv_aload_n hx hb dX6_picture_31 rfl (lv_at hl 0 rfl) ?_
                  refine r_get (v := .ref (a 1)) C G hX6 0 rfl rfl 0 (by decide) (by decide +kernel) rfl dX6_picture_32 ?_
                  refine r_ai G hA (r_rV (na := 0) (As := []) (rest := []) C G (c_X4_isFull l D cI cO cL a ca ia n O I J F E K G0 hn) gX6_picture_X4_isFull rfl (by decide +kernel) ⟨Nat.le_of_ble_eq_true rfl, Nat.le_of_ble_eq_true rfl⟩ 1 rfl rfl rfl hl.1 rfl (Nat.le_of_ble_eq_true rfl) dX6_picture_35 ⟨by first | (simp only []; omega) | decide, by first | (simp only []; omega) | decide⟩) (fun r35 w35 H locs hp35 G => ?_)
                  rcases hp35 with ⟨rfl, rfl, hi35⟩ | ⟨rfl, rfl, hi35⟩
                  · skip
                    replace hi35 : 60 ≤ I 3 := hi35
                    refine lv_if_eq (tgt := 44) hx hb dX6_picture_38 (by decide) (fun c38 => ?_) (fun c38 => ?_)
                    · skip
                      exact absurd c38 (by decide)
                    · skip
                      refine lv_bipush (v := ((-2))) hx hb dX6_picture_41 (by decide) ?_
                      exact RET ((-2)) (bW cI cO a ca ia n O I J F E K G0) _ _ ls _ _ _ (Or.inr (Or.inl ⟨by omega, by omega, rfl, rfl⟩)) G (by first | (simp only []; omega) | decide) (by first | (simp only []; omega) | decide) rfl dX6_picture_43
                  · skip
                    replace hi35 : ¬ 60 ≤ I 3 := hi35
                    refine lv_if_eq (tgt := 44) hx hb dX6_picture_38 (by decide) (fun c38 => ?_) (fun c38 => ?_)
                    · skip
                      obtain ⟨gh1, hgh1, egh1, rfl⟩ := nat_of (x := hi) (by omega)
                      obtain ⟨gw1, hgw1, egw1, rfl⟩ := nat_of (x := wi) (by omega)
                      have hp16 := prod_le (a := gh1) (b := gw1) (by omega) (by omega)
                      refine lv_aload_n hx hb dX6_picture_44 rfl (lv_at hl 0 rfl) ?_
                      refine r_get (v := .ref (a 1)) C G hX6 0 rfl rfl 0 (by decide) (by decide +kernel) rfl dX6_picture_45 ?_
                      refine r_new (ci := 0) (fs := [.null, .int (nI (0)), .int (nI (0)), .int (nI (0)), .int (nI (0))]) C G hA hX1 tyX1_ok (by decide +kernel) (by decide +kernel) (by decide +kernel) rfl (by decide) (by first | (simp only []; omega) | decide) (by first | (simp only []; omega) | decide) dX6_picture_48 (fun q48 H G => ?_)
                      replace G : Wd A s.heap D ((bW cI cO a ca ia n O I J F E K G0) ++ [(q48, .inr (0, [.null, .int (nI (0)), .int (nI (0)), .int (nI (0)), .int (nI (0))]))]) H _ := G
                      refine lv_dup hx hb dX6_picture_51 rfl ?_
                      refine lv_iconst (v := (nI (1))) hx hb dX6_picture_52 (by decide) ?_
                      refine lv_iload_n hx hb dX6_picture_53 rfl (lv_at hl 1 rfl) ?_
                      refine lv_iload_n hx hb dX6_picture_54 rfl (lv_at hl 2 rfl) ?_
                      refine lv_iload_n hx hb dX6_picture_55 rfl (lv_at hl 1 rfl) ?_
                      refine lv_iload_n hx hb dX6_picture_56 rfl (lv_at hl 2 rfl) ?_
                      refine r_imul hx hb dX6_picture_57 ?_
                      refine r_av G hA (r_rI (na := 4) (As := [.int (nI (1)), .int (nI (gh1)), .int (nI (gw1)), .int (nI (gh1 * gw1))]) (rest := [.ref (q48), .ref (a 1)]) C G (c_X1_init l D cI cO cL (bW cI cO a ca ia n O I J F E K G0) q48 1 gh1 gw1 (gh1 * gw1) (by omega)) gX6_picture_X1_init rfl (by decide +kernel) (by decide +kernel) (by decide +kernel) rfl (by decide +kernel) ⟨Nat.le_of_ble_eq_true rfl, Nat.le_of_ble_eq_true rfl⟩ rfl hl.1 rfl (Nat.le_of_ble_eq_true rfl) dX6_picture_58 ⟨by first | (simp only []; omega) | decide, by first | (simp only []; omega) | decide⟩) (fun w58 H locs hp58 G => ?_)
                      obtain ⟨q58, rfl⟩ := hp58
                      replace G : Wd A s.heap D ((bW cI cO a ca ia n O I J F E K G0) ++ [(q48, .inr (0, [.ref (q58), .int (nI (1)), .int (nI (gh1)), .int (nI (gw1)), .int (nI (gh1 * gw1))])), (q58, .inl (cI, gh1 * gw1, .inl (fun _ => 0)))]) H locs := G.eq (by rfl)
                      replace G : Wd A s.heap D (bW cI cO a (va_up ca n q48) (va_up ia n q58) (n + 1) O I J F E (kps K n 1 gh1 gw1 (gh1 * gw1) (gh1 * gw1)) (va_up G0 n (fun _ => 0))) H locs := G.eq (bW_push _ _ _ _ _ _ _ _)
                      refine r_st (st' := [.ref (va_up ca n q48 n), .ref (a 1)]) (by rw [up_same]) ?_
                      obtain ⟨lb1, hlb1, elb1, rfl⟩ := nat_of (x := lb) (by omega)
                      obtain ⟨wt1, hwt1, ewt1, rfl⟩ := nat_of (x := wt) (by omega)
                      refine lv_iload_n hx hb dX6_picture_61 rfl (lv_at hl 3 rfl) ?_
                      refine lv_iload hx hb dX6_picture_62 (lv_at hl 4 rfl) ?_
                      refine r_ai G hA (r_rV (na := 3) (As := [.ref (va_up ca n q48 n), .int (nI (lb1)), .int (nI (wt1))]) (rest := []) C G (c_X4_append l D cI cO cL a (va_up ca n q48) (va_up ia n q58) (n + 1) O I J F E (kps K n 1 gh1 gw1 (gh1 * gw1) (gh1 * gw1)) (va_up G0 n (fun _ => 0)) n lb1 wt1 (by omega) (by omega)) gX6_picture_X4_append rfl (by decide +kernel) ⟨Nat.le_of_ble_eq_true rfl, Nat.le_of_ble_eq_true rfl⟩ 1 rfl rfl rfl hl.1 rfl (Nat.le_of_ble_eq_true rfl) dX6_picture_64 ⟨by first | (simp only []; omega) | decide, by first | (simp only []; omega) | decide⟩) (fun r64 w64 H locs hp64 G => ?_)
                      obtain ⟨rfl, rfl⟩ := hp64
                      refine r_top (y := nI (I 3)) rfl ?_
                      exact RET (nI (I 3)) (bW cI cO a (va_up ca n q48) (va_up ia n q58) (n + 1) (va_up O (I 3) (some (va_up ca n q48 n))) (va_up I 3 (I 3 + 1)) J (va_up (va_up F 0 (va_up (F 0) (I 3) lb1)) 1 (va_up (F 1) (I 3) wt1)) E (kps K n 1 gh1 gw1 (gh1 * gw1) (gh1 * gw1)) (va_up G0 n (fun _ => 0))) _ _ ls _ _ _ (by rw [tn_nI hgh1, tn_nI hgw1, tn_nI hlb1, tn_nI hwt1]; exact Or.inr (Or.inr ⟨by omega, by omega, rfl, q48, q58, rfl⟩)) G (by first | (simp only []; omega) | decide) (by first | (simp only []; omega) | decide) rfl dX6_picture_67
                    · skip
                      exact absurd c38 (by decide)
                · skip
                  exact absurd c26 (by decide)
              · skip
                refine lv_if_ne (tgt := 31) hx hb dX6_picture_26 (by decide) (fun c26 => ?_) (fun c26 => ?_)
                · skip
                  exact absurd c26 (by decide)
                · skip
                  refine lv_iconst (v := ((-1))) hx hb dX6_picture_29 (by decide) ?_
                  exact RET ((-1)) (bW cI cO a ca ia n O I J F E K G0) _ _ ls _ _ _ (Or.inl ⟨by omega, rfl, rfl⟩) G (by first | (simp only []; omega) | decide) (by first | (simp only []; omega) | decide) rfl dX6_picture_30
          · skip
            refine lv_if_eq (tgt := 29) hx hb dX6_picture_18 (by decide) (fun c18 => ?_) (fun c18 => ?_)
            · skip
              refine lv_iconst (v := ((-1))) hx hb dX6_picture_29 (by decide) ?_
              exact RET ((-1)) (bW cI cO a ca ia n O I J F E K G0) _ _ ls _ _ _ (Or.inl ⟨by omega, rfl, rfl⟩) G (by first | (simp only []; omega) | decide) (by first | (simp only []; omega) | decide) rfl dX6_picture_30
            · skip
              exact absurd c18 (by decide)
      · skip
        refine lv_if_eq (tgt := 29) hx hb dX6_picture_11 (by decide) (fun c11 => ?_) (fun c11 => ?_)
        · skip
          refine lv_iconst (v := ((-1))) hx hb dX6_picture_29 (by decide) ?_
          exact RET ((-1)) (bW cI cO a ca ia n O I J F E K G0) _ _ ls _ _ _ (Or.inl ⟨by omega, rfl, rfl⟩) G (by first | (simp only []; omega) | decide) (by first | (simp only []; omega) | decide) rfl dX6_picture_30
        · skip
          exact absurd c11 (by decide)
  · skip
    refine lv_if_eq (tgt := 29) hx hb dX6_picture_4 (by decide) (fun c4 => ?_) (fun c4 => ?_)
    · skip
      refine lv_iconst (v := ((-1))) hx hb dX6_picture_29 (by decide) ?_
      exact RET ((-1)) (bW cI cO a ca ia n O I J F E K G0) _ _ ls _ _ _ (Or.inl ⟨by omega, rfl, rfl⟩) G (by first | (simp only []; omega) | decide) (by first | (simp only []; omega) | decide) rfl dX6_picture_30
    · skip
      exact absurd c4 (by decide)
