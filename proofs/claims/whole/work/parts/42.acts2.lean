set_option maxHeartbeats 4000000 in
set_option maxRecDepth 100000 in
theorem c_X0_crop (l : Launch) (D : va_G) (cI cO cL : ClassId) (a ca ia : Nat → Nat) (n : Nat) (O : Nat → Option Nat) (I : Nat → Nat) (J : Nat → Int64) (F : Nat → Nat → Nat) (E : Nat → Nat → Int32) (K : Nat → Nat → Nat) (G0 : Nat → Nat → Int32) (r : Nat) (hr : r < n) (n1 : Nat) (hk0 : K 0 r ≤ 2) (hk1 : K 1 r ≤ 40) (hk2 : K 2 r ≤ 40) (hk3 : K 3 r ≤ K 4 r) (hk4 : K 4 r ≤ 1600) (hpL : K 3 r = K 1 r * K 2 r) (hn1 : n1 ≤ K 1 r) (hn2 : n1 ≤ K 2 r) : Kv l yX0_crop wsX0_crop { frames := 2, cells := 0, slots := 0, locals := 43 } D (TY cI cO cL) [.ref (ca r), .int (nI (n1)), .ref (a 3), .ref (a 14)] (bW cI cO a ca ia n O I J F E K G0) (fun w => ∃ o σ, (∀ y x, y < n1 → x < n1 → o (y * n1 + x) = G0 r ((dr (nxg (J 1)) (K 1 r - n1 + 1) + y) * K 2 r + dr (nxg (nxg (J 1))) (K 2 r - n1 + 1) + x)) ∧ w = bW cI cO a ca ia n O (va_up (va_up (va_up (va_up I 9 1) 10 n1) 11 n1) 12 (n1 * n1)) (va_up J 1 (σ)) F (va_up E 0 o) K G0) := by
  refine Kv.mk (cc := cX0_crop) (maxL := 8) (own := RX0) (by decide) rfl rfl (Nat.le_of_ble_eq_true rfl) ?_
  intro p e s m below meth c A Q ls C hname hA G hl RET
  obtain ⟨⟨hx, hb, hml, hown, hts⟩, hK, hN⟩ := id C
  have hl : lv_has ls 8 [(0, .ref (ca r)), (1, .int (nI (n1))), (2, .ref (a 3)), (3, .ref (a 14))] := hl
  have hX1 : ∀ w ∈ u_ws RX1 TX1 5, w ∈ wsX0_crop := by decide +kernel
  have hp16 := prod_le hk1 hk2
  refine lv_aload_n hx hb dX0_crop_0 rfl (lv_at hl 2 rfl) ?_
  refine lv_aload_n hx hb dX0_crop_1 rfl (lv_at hl 0 rfl) ?_
  refine r_getN (v := .int (nI ((K 1) r))) C G hX1 (16 + 2 * r) (bW_c (by omega)) rfl 2 (by decide) (by decide +kernel) rfl dX0_crop_2 ?_
  refine lv_iload_n hx hb dX0_crop_5 rfl (lv_at hl 1 rfl) ?_
  refine r_isub hx hb (by omega) dX0_crop_6 ?_
  refine lv_iconst (v := (nI (1))) hx hb dX0_crop_7 (by decide) ?_
  refine r_iadd hx hb dX0_crop_8 ?_
  refine r_ai G hA (r_rV (na := 1) (As := [.int (nI ((((K 1) r) - n1) + 1))]) (rest := []) C G (c_X2_below l D cI cO cL a ca ia n O I J F E K G0 ((((K 1) r) - n1) + 1) (by omega) (by omega)) gX0_crop_X2_below rfl (by decide +kernel) ⟨Nat.le_of_ble_eq_true rfl, Nat.le_of_ble_eq_true rfl⟩ 3 rfl rfl rfl hl.1 rfl (Nat.le_of_ble_eq_true rfl) dX0_crop_9 ⟨by first | (simp only []; omega) | decide, by first | (simp only []; omega) | decide⟩) (fun r9 w9 H locs hp9 G => ?_)
  obtain ⟨d9, σ9, eσ9, ed9, hd9, rfl, rfl⟩ := hp9
  replace eσ9 : σ9 = nxg (J 1) := eσ9
  refine r_top (y := nI (d9)) rfl ?_
  refine lv_istore (lv' := [(4, .int (nI (d9))), (0, .ref (ca r)), (1, .int (nI (n1))), (2, .ref (a 3)), (3, .ref (a 14))]) hx hb dX0_crop_12 hl (by decide) rfl (fun ls hl => ?_)
  refine lv_aload_n hx hb dX0_crop_14 rfl (lv_at hl 3 rfl) ?_
  refine lv_aload_n hx hb dX0_crop_15 rfl (lv_at hl 1 rfl) ?_
  refine r_getN (v := .int (nI ((K 2) r))) C G hX1 (16 + 2 * r) (bW_c (by omega)) rfl 3 (by decide) (by decide +kernel) rfl dX0_crop_16 ?_
  refine lv_iload_n hx hb dX0_crop_19 rfl (lv_at hl 2 rfl) ?_
  refine r_isub hx hb (by omega) dX0_crop_20 ?_
  refine lv_iconst (v := (nI (1))) hx hb dX0_crop_21 (by decide) ?_
  refine r_iadd hx hb dX0_crop_22 ?_
  refine r_ai G hA (r_rV (na := 1) (As := [.int (nI ((((K 2) r) - n1) + 1))]) (rest := []) C G (c_X2_below l D cI cO cL a ca ia n O I (va_up J 1 (σ9)) F E K G0 ((((K 2) r) - n1) + 1) (by omega) (by omega)) gX0_crop_X2_below rfl (by decide +kernel) ⟨Nat.le_of_ble_eq_true rfl, Nat.le_of_ble_eq_true rfl⟩ 3 rfl rfl rfl hl.1 rfl (Nat.le_of_ble_eq_true rfl) dX0_crop_23 ⟨by first | (simp only []; omega) | decide, by first | (simp only []; omega) | decide⟩) (fun r23 w23 H locs hp23 G => ?_)
  obtain ⟨d23, σ23, eσ23, ed23, hd23, rfl, rfl⟩ := hp23
  replace eσ23 : σ23 = nxg (σ9) := eσ23
  refine r_top (y := nI (d23)) rfl ?_
  refine lv_istore (lv' := [(5, .int (nI (d23))), (4, .int (nI (d9))), (0, .ref (ca r)), (1, .int (nI (n1))), (2, .ref (a 3)), (3, .ref (a 14))]) hx hb dX0_crop_26 hl (by decide) rfl (fun ls hl => ?_)
  refine lv_aload_n hx hb dX0_crop_28 rfl (lv_at hl 5 rfl) ?_
  refine lv_iload_n hx hb dX0_crop_29 rfl (lv_at hl 3 rfl) ?_
  refine lv_iload_n hx hb dX0_crop_30 rfl (lv_at hl 3 rfl) ?_
  refine r_av G hA (r_rV (na := 2) (As := [.int (nI (n1)), .int (nI (n1))]) (rest := []) C G (c_X1_becomePicture l D cI cO cL a ca ia n O I (va_up J 1 (σ23)) F E K G0 n1 n1) gX0_crop_X1_becomePicture rfl (by decide +kernel) ⟨Nat.le_of_ble_eq_true rfl, Nat.le_of_ble_eq_true rfl⟩ 14 rfl rfl rfl hl.1 rfl (Nat.le_of_ble_eq_true rfl) dX0_crop_31 ⟨by first | (simp only []; omega) | decide, by first | (simp only []; omega) | decide⟩) (fun w31 H locs hp31 G => ?_)
  obtain ⟨rfl⟩ := hp31
  refine lv_iconst (v := (nI (0))) hx hb dX0_crop_34 (by decide) ?_
  refine lv_istore (lv' := [(6, .int (nI (0))), (5, .int (nI (d23))), (4, .int (nI (d9))), (0, .ref (ca r)), (1, .int (nI (n1))), (2, .ref (a 3)), (3, .ref (a 14))]) hx hb dX0_crop_35 hl (by decide) rfl (fun ls hl => ?_)
  have lp37 : ∀ (fuel37 : Nat) (y : Nat) (o : Nat → Int32) (hm : n1 - y < fuel37) (hy : y ≤ n1) (ho : ∀ y1 x1, y1 < y → x1 < n1 → o (y1 * n1 + x1) = G0 r ((d9 + y1) * K 2 r + d23 + x1)) (H : Heap) (locs : List Loc) (ls : Array Slot), Wd A s.heap D (bW cI cO a ca ia n O (va_up (va_up (va_up (va_up I 9 1) 10 n1) 11 n1) 12 (n1 * n1)) (va_up J 1 (σ23)) F (va_up E 0 o) K G0) H locs → lv_has ls 8 [(0, .ref (ca r)), (1, .int (nI (n1))), (2, .ref (a 3)), (3, .ref (a 14)), (4, .int (nI (d9))), (5, .int (nI (d23))), (6, .int (nI (y)))] → W p l e ({ frames := 2, cells := 0, slots := 0, locals := 43 } : Room) s m ([.ref (ca r), .int (nI (n1)), .ref (a 3), .ref (a 14)] : List Value).toArray below meth c H locs 0 0 Q (F0 m 37 ls []) := by
    intro fuel37
    induction fuel37 with
    | zero => intro y o hm hy ho; exact absurd hm (by omega)
    | succ fuel37 ih37 =>
      intro y o hm hy ho H locs ls G hl
      refine lv_iload hx hb dX0_crop_37 (lv_at hl 6 rfl) ?_
      refine lv_iload_n hx hb dX0_crop_39 rfl (lv_at hl 1 rfl) ?_
      refine lv_icmp_ge (tgt := 95) hx hb dX0_crop_40 (by decide) (fun c40 => ?_) (fun c40 => ?_)
      · skip
        replace c40 : ((n1 : Nat) : Int) ≤ ((y : Nat) : Int) := (cv_le (nI_toInt (by omega)) (nI_toInt (by omega))).mp c40
        exact RET (bW cI cO a ca ia n O (va_up (va_up (va_up (va_up I 9 1) 10 n1) 11 n1) 12 (n1 * n1)) (va_up J 1 (σ23)) F (va_up E 0 o) K G0) _ _ ls _ _ _ (⟨o, σ23, fun y1 x1 h1 h2 => by rw [← eσ9, ← eσ23, ← ed9, ← ed23]; exact ho y1 x1 (by omega) h2, rfl⟩) G (by first | (simp only []; omega) | decide) (by first | (simp only []; omega) | decide) dX0_crop_95
      · skip
        replace c40 : ((y : Nat) : Int) < ((n1 : Nat) : Int) := Int.not_le.mp (fun h => c40 ((cv_le (nI_toInt (by omega)) (nI_toInt (by omega))).mpr h))
        refine lv_iconst (v := (nI (0))) hx hb dX0_crop_43 (by decide) ?_
        refine lv_istore (lv' := [(7, .int (nI (0))), (0, .ref (ca r)), (1, .int (nI (n1))), (2, .ref (a 3)), (3, .ref (a 14)), (4, .int (nI (d9))), (5, .int (nI (d23))), (6, .int (nI (y)))]) hx hb dX0_crop_44 hl (by decide) rfl (fun ls hl => ?_)
        have lp46 : ∀ (fuel46 : Nat) (x : Nat) (o2 : Nat → Int32) (hm2 : n1 - x < fuel46) (hx2 : x ≤ n1) (ho2 : ∀ y1 x1, (y1 < y ∨ (y1 = y ∧ x1 < x)) → x1 < n1 → o2 (y1 * n1 + x1) = G0 r ((d9 + y1) * K 2 r + d23 + x1)) (H : Heap) (locs : List Loc) (ls : Array Slot), Wd A s.heap D (bW cI cO a ca ia n O (va_up (va_up (va_up (va_up I 9 1) 10 n1) 11 n1) 12 (n1 * n1)) (va_up J 1 (σ23)) F (va_up E 0 o2) K G0) H locs → lv_has ls 8 [(0, .ref (ca r)), (1, .int (nI (n1))), (2, .ref (a 3)), (3, .ref (a 14)), (4, .int (nI (d9))), (5, .int (nI (d23))), (6, .int (nI (y))), (7, .int (nI (x)))] → W p l e ({ frames := 2, cells := 0, slots := 0, locals := 43 } : Room) s m ([.ref (ca r), .int (nI (n1)), .ref (a 3), .ref (a 14)] : List Value).toArray below meth c H locs 0 0 Q (F0 m 46 ls []) := by
          intro fuel46
          induction fuel46 with
          | zero => intro x o2 hm2 hx2 ho2; exact absurd hm2 (by omega)
          | succ fuel46 ih46 =>
            intro x o2 hm2 hx2 ho2 H locs ls G hl
            refine lv_iload hx hb dX0_crop_46 (lv_at hl 7 rfl) ?_
            refine lv_iload_n hx hb dX0_crop_48 rfl (lv_at hl 1 rfl) ?_
            refine lv_icmp_ge (tgt := 89) hx hb dX0_crop_49 (by decide) (fun c49 => ?_) (fun c49 => ?_)
            · skip
              replace c49 : ((n1 : Nat) : Int) ≤ ((x : Nat) : Int) := (cv_le (nI_toInt (by omega)) (nI_toInt (by omega))).mp c49
              refine lv_iinc (v := nI (y + 1)) (lv' := [(6, .int (nI (y + 1))), (0, .ref (ca r)), (1, .int (nI (n1))), (2, .ref (a 3)), (3, .ref (a 14)), (4, .int (nI (d9))), (5, .int (nI (d23))), (7, .int (nI (x)))]) hx hb dX0_crop_89 hl (k := 6) rfl (inc_n _ 1) (by decide) rfl (fun ls hl => ?_)
              refine lv_goto (tgt := 37) hx hb dX0_crop_92 (by decide) ?_
              exact ih37 (y + 1) o2 (by omega) (by omega) (fun y1 x1 h1 h2 => ho2 y1 x1 (by omega) h2) _ _ _ (G.eq (rfl)) (lv_sub hl [1, 2, 3, 4, 5, 6, 0] rfl)
            · skip
              replace c49 : ((x : Nat) : Int) < ((n1 : Nat) : Int) := Int.not_le.mp (fun h => c49 ((cv_le (nI_toInt (by omega)) (nI_toInt (by omega))).mpr h))
              have hwl := yx_lt (H := n1) (W := n1) (y := y) (x := x) (by omega) (by omega)
              have hsl := yx_lt (H := K 1 r) (W := K 2 r) (y := d9 + y) (x := d23 + x) (by omega) (by omega)
              have hn16 := prod_le (a := n1) (b := n1) (by omega) (by omega)
              refine lv_aload_n hx hb dX0_crop_52 rfl (lv_at hl 3 rfl) ?_
              refine lv_iload hx hb dX0_crop_53 (lv_at hl 6 rfl) ?_
              refine lv_iload_n hx hb dX0_crop_55 rfl (lv_at hl 1 rfl) ?_
              refine r_imul hx hb dX0_crop_56 ?_
              refine lv_iload hx hb dX0_crop_57 (lv_at hl 7 rfl) ?_
              refine r_iadd hx hb dX0_crop_59 ?_
              refine lv_aload_n hx hb dX0_crop_60 rfl (lv_at hl 0 rfl) ?_
              refine lv_iload hx hb dX0_crop_61 (lv_at hl 4 rfl) ?_
              refine lv_iload hx hb dX0_crop_63 (lv_at hl 6 rfl) ?_
              refine r_iadd hx hb dX0_crop_65 ?_
              refine lv_aload_n hx hb dX0_crop_66 rfl (lv_at hl 0 rfl) ?_
              refine r_getN (v := .int (nI ((K 2) r))) C G hX1 (16 + 2 * r) (bW_c (by omega)) rfl 3 (by decide) (by decide +kernel) rfl dX0_crop_67 ?_
              refine r_imul hx hb dX0_crop_70 ?_
              refine lv_iload hx hb dX0_crop_71 (lv_at hl 5 rfl) ?_
              refine r_iadd hx hb dX0_crop_73 ?_
              refine lv_iload hx hb dX0_crop_74 (lv_at hl 7 rfl) ?_
              refine r_iadd hx hb dX0_crop_76 ?_
              refine r_ai G hA (r_rV (na := 1) (As := [.int (nI ((((d9 + y) * ((K 2) r)) + d23) + x))]) (rest := [.int (nI ((y * n1) + x)), .ref (a 14)]) C G (c_X1_item_R l D cI cO cL a ca ia n O (va_up (va_up (va_up (va_up I 9 1) 10 n1) 11 n1) 12 (n1 * n1)) (va_up J 1 (σ23)) F (va_up E 0 o2) K G0 r (by omega) ((((d9 + y) * ((K 2) r)) + d23) + x) (by show (K 3) r ≤ (K 4) r; omega) (by omega) (by show (((d9 + y) * ((K 2) r)) + d23) + x < (K 3) r; omega)) gX0_crop_X1_item rfl (by decide +kernel) ⟨Nat.le_of_ble_eq_true rfl, Nat.le_of_ble_eq_true rfl⟩ (16 + 2 * r) (bW_c (by omega)) rfl rfl hl.1 rfl (Nat.le_of_ble_eq_true rfl) dX0_crop_77 ⟨by first | (simp only []; omega) | decide, by first | (simp only []; omega) | decide⟩) (fun r77 w77 H locs hp77 G => ?_)
              obtain ⟨rfl, rfl⟩ := hp77
              refine r_top (y := (G0 r) ((((d9 + y) * ((K 2) r)) + d23) + x)) rfl ?_
              refine r_av G hA (r_rV (na := 2) (As := [.int (nI ((y * n1) + x)), .int ((G0 r) ((((d9 + y) * ((K 2) r)) + d23) + x))]) (rest := []) C G (c_X1_put_A l D cI cO cL a ca ia n O (va_up (va_up (va_up (va_up I 9 1) 10 n1) 11 n1) 12 (n1 * n1)) (va_up J 1 (σ23)) F (va_up E 0 o2) K G0 ((y * n1) + x) ((G0 r) ((((d9 + y) * ((K 2) r)) + d23) + x)) (by show n1 * n1 ≤ 1600; omega) (by show (y * n1) + x < n1 * n1; omega)) gX0_crop_X1_put rfl (by decide +kernel) ⟨Nat.le_of_ble_eq_true rfl, Nat.le_of_ble_eq_true rfl⟩ 14 rfl rfl rfl hl.1 rfl (Nat.le_of_ble_eq_true rfl) dX0_crop_80 ⟨by first | (simp only []; omega) | decide, by first | (simp only []; omega) | decide⟩) (fun w80 H locs hp80 G => ?_)
              obtain ⟨rfl⟩ := hp80
              refine lv_iinc (v := nI (x + 1)) (lv' := [(7, .int (nI (x + 1))), (0, .ref (ca r)), (1, .int (nI (n1))), (2, .ref (a 3)), (3, .ref (a 14)), (4, .int (nI (d9))), (5, .int (nI (d23))), (6, .int (nI (y)))]) hx hb dX0_crop_83 hl (k := 7) rfl (inc_n _ 1) (by decide) rfl (fun ls hl => ?_)
              refine lv_goto (tgt := 46) hx hb dX0_crop_86 (by decide) ?_
              exact ih46 (x + 1) (upd o2 ((y * n1) + x) ((G0 r) ((((d9 + y) * ((K 2) r)) + d23) + x))) (by omega) (by omega) (fun y1 x1 h1 h2 => by by_cases q : y1 = y ∧ x1 = x; (obtain ⟨rfl, rfl⟩ := q; rw [pk_us]); (rw [pk_un (fun z => q (yx_inj h2 (by omega) z))]; exact ho2 y1 x1 (by omega) h2)) _ _ _ (G.eq (rfl)) (lv_sub hl [1, 2, 3, 4, 5, 6, 7, 0] rfl)
        exact lp46 (n1 + 1) 0 o (by omega) (by omega) (fun y1 x1 h1 h2 => ho y1 x1 (by omega) h2) _ _ _ (G.eq (rfl)) (lv_sub hl [1, 2, 3, 4, 5, 6, 7, 0] rfl)
  exact lp37 (n1 + 1) 0 (E 0) (by omega) (by omega) (fun y1 x1 h => by omega) _ _ _ (G.eq (rfl)) (lv_sub hl [3, 4, 5, 6, 2, 1, 0] rfl)
set_option maxHeartbeats 4000000 in
set_option maxRecDepth 100000 in
theorem c_X0_addNoise (l : Launch) (D : va_G) (cI cO cL : ClassId) (a ca ia : Nat → Nat) (n : Nat) (O : Nat → Option Nat) (I : Nat → Nat) (J : Nat → Int64) (F : Nat → Nat → Nat) (E : Nat → Nat → Int32) (K : Nat → Nat → Nat) (G0 : Nat → Nat → Int32) (r : Nat) (hr : r < n) (n1 : Nat) (hk0 : K 0 r ≤ 2) (hk1 : K 1 r ≤ 40) (hk2 : K 2 r ≤ 40) (hk3 : K 3 r ≤ K 4 r) (hk4 : K 4 r ≤ 1600) (hpL : K 3 r = K 1 r * K 2 r) (hn0 : 0 < n1) (hn1 : n1 ≤ 256) : Kv l yX0_addNoise wsX0_addNoise { frames := 2, cells := 0, slots := 0, locals := 43 } D (TY cI cO cL) [.ref (ca r), .int (nI (n1)), .ref (a 3), .ref (a 14)] (bW cI cO a ca ia n O I J F E K G0) (fun w => ∃ o σ, (∀ j, j < K 3 r → o j = G0 r j ^^^ nI (dr (sIt nxg (J 1) (j + 1)) n1)) ∧ w = bW cI cO a ca ia n O (va_up (va_up (va_up (va_up I 9 1) 10 (K 1 r)) 11 (K 2 r)) 12 (K 3 r)) (va_up J 1 (σ)) F (va_up E 0 o) K G0) := by
  refine Kv.mk (cc := cX0_addNoise) (maxL := 5) (own := RX0) (by decide) rfl rfl (Nat.le_of_ble_eq_true rfl) ?_
  intro p e s m below meth c A Q ls C hname hA G hl RET
  obtain ⟨⟨hx, hb, hml, hown, hts⟩, hK, hN⟩ := id C
  have hl : lv_has ls 5 [(0, .ref (ca r)), (1, .int (nI (n1))), (2, .ref (a 3)), (3, .ref (a 14))] := hl
  have hX1 : ∀ w ∈ u_ws RX1 TX1 5, w ∈ wsX0_addNoise := by decide +kernel
  have hp16 := prod_le hk1 hk2
  refine lv_aload_n hx hb dX0_addNoise_0 rfl (lv_at hl 3 rfl) ?_
  refine lv_aload_n hx hb dX0_addNoise_1 rfl (lv_at hl 0 rfl) ?_
  refine r_getN (v := .int (nI ((K 1) r))) C G hX1 (16 + 2 * r) (bW_c (by omega)) rfl 2 (by decide) (by decide +kernel) rfl dX0_addNoise_2 ?_
  refine lv_aload_n hx hb dX0_addNoise_5 rfl (lv_at hl 0 rfl) ?_
  refine r_getN (v := .int (nI ((K 2) r))) C G hX1 (16 + 2 * r) (bW_c (by omega)) rfl 3 (by decide) (by decide +kernel) rfl dX0_addNoise_6 ?_
  refine r_av G hA (r_rV (na := 2) (As := [.int (nI ((K 1) r)), .int (nI ((K 2) r))]) (rest := []) C G (c_X1_becomePicture l D cI cO cL a ca ia n O I J F E K G0 ((K 1) r) ((K 2) r)) gX0_addNoise_X1_becomePicture rfl (by decide +kernel) ⟨Nat.le_of_ble_eq_true rfl, Nat.le_of_ble_eq_true rfl⟩ 14 rfl rfl rfl hl.1 rfl (Nat.le_of_ble_eq_true rfl) dX0_addNoise_9 ⟨by first | (simp only []; omega) | decide, by first | (simp only []; omega) | decide⟩) (fun w9 H locs hp9 G => ?_)
  obtain ⟨rfl⟩ := hp9
  refine lv_iconst (v := (nI (0))) hx hb dX0_addNoise_12 (by decide) ?_
  refine lv_istore (lv' := [(4, .int (nI (0))), (0, .ref (ca r)), (1, .int (nI (n1))), (2, .ref (a 3)), (3, .ref (a 14))]) hx hb dX0_addNoise_13 hl (by decide) rfl (fun ls hl => ?_)
  have lp15 : ∀ (fuel15 : Nat) (k : Nat) (o : Nat → Int32) (σ : Int64) (hm : K 3 r - k < fuel15) (hk : k ≤ K 3 r) (eσ : σ = sIt nxg (J 1) k) (ho : ∀ j, j < k → o j = G0 r j ^^^ nI (dr (sIt nxg (J 1) (j + 1)) n1)) (H : Heap) (locs : List Loc) (ls : Array Slot), Wd A s.heap D (bW cI cO a ca ia n O (va_up (va_up (va_up (va_up I 9 1) 10 (K 1 r)) 11 (K 2 r)) 12 ((K 1 r) * (K 2 r))) (va_up J 1 (σ)) F (va_up E 0 o) K G0) H locs → lv_has ls 5 [(0, .ref (ca r)), (1, .int (nI (n1))), (2, .ref (a 3)), (3, .ref (a 14)), (4, .int (nI (k)))] → W p l e ({ frames := 2, cells := 0, slots := 0, locals := 43 } : Room) s m ([.ref (ca r), .int (nI (n1)), .ref (a 3), .ref (a 14)] : List Value).toArray below meth c H locs 0 0 Q (F0 m 15 ls []) := by
    intro fuel15
    induction fuel15 with
    | zero => intro k o σ hm hk eσ ho; exact absurd hm (by omega)
    | succ fuel15 ih15 =>
      intro k o σ hm hk eσ ho H locs ls G hl
      refine lv_iload hx hb dX0_addNoise_15 (lv_at hl 4 rfl) ?_
      refine lv_aload_n hx hb dX0_addNoise_17 rfl (lv_at hl 0 rfl) ?_
      refine r_getN (v := .int (nI ((K 3) r))) C G hX1 (16 + 2 * r) (bW_c (by omega)) rfl 4 (by decide) (by decide +kernel) rfl dX0_addNoise_18 ?_
      refine lv_icmp_ge (tgt := 48) hx hb dX0_addNoise_21 (by decide) (fun c21 => ?_) (fun c21 => ?_)
      · skip
        replace c21 : (((K 3) r : Nat) : Int) ≤ ((k : Nat) : Int) := (cv_le (nI_toInt (by omega)) (nI_toInt (by omega))).mp c21
        exact RET (bW cI cO a ca ia n O (va_up (va_up (va_up (va_up I 9 1) 10 (K 1 r)) 11 (K 2 r)) 12 ((K 1 r) * (K 2 r))) (va_up J 1 (σ)) F (va_up E 0 o) K G0) _ _ ls _ _ _ (⟨o, σ, fun j hj => ho j (by omega), by rw [hpL]⟩) G (by first | (simp only []; omega) | decide) (by first | (simp only []; omega) | decide) dX0_addNoise_48
      · skip
        replace c21 : ((k : Nat) : Int) < (((K 3) r : Nat) : Int) := Int.not_le.mp (fun h => c21 ((cv_le (nI_toInt (by omega)) (nI_toInt (by omega))).mpr h))
        refine lv_aload_n hx hb dX0_addNoise_24 rfl (lv_at hl 3 rfl) ?_
        refine lv_iload hx hb dX0_addNoise_25 (lv_at hl 4 rfl) ?_
        refine lv_aload_n hx hb dX0_addNoise_27 rfl (lv_at hl 0 rfl) ?_
        refine lv_iload hx hb dX0_addNoise_28 (lv_at hl 4 rfl) ?_
        refine r_ai G hA (r_rV (na := 1) (As := [.int (nI (k))]) (rest := [.int (nI (k)), .ref (a 14)]) C G (c_X1_item_R l D cI cO cL a ca ia n O (va_up (va_up (va_up (va_up I 9 1) 10 (K 1 r)) 11 (K 2 r)) 12 ((K 1 r) * (K 2 r))) (va_up J 1 (σ)) F (va_up E 0 o) K G0 r (by omega) k (by show (K 3) r ≤ (K 4) r; omega) (by omega) (by show k < (K 3) r; omega)) gX0_addNoise_X1_item rfl (by decide +kernel) ⟨Nat.le_of_ble_eq_true rfl, Nat.le_of_ble_eq_true rfl⟩ (16 + 2 * r) (bW_c (by omega)) rfl rfl hl.1 rfl (Nat.le_of_ble_eq_true rfl) dX0_addNoise_30 ⟨by first | (simp only []; omega) | decide, by first | (simp only []; omega) | decide⟩) (fun r30 w30 H locs hp30 G => ?_)
        obtain ⟨rfl, rfl⟩ := hp30
        refine r_top (y := (G0 r) k) rfl ?_
        refine lv_aload_n hx hb dX0_addNoise_33 rfl (lv_at hl 2 rfl) ?_
        refine lv_iload_n hx hb dX0_addNoise_34 rfl (lv_at hl 1 rfl) ?_
        refine r_ai G hA (r_rV (na := 1) (As := [.int (nI (n1))]) (rest := [.int ((G0 r) k), .int (nI (k)), .ref (a 14)]) C G (c_X2_below l D cI cO cL a ca ia n O (va_up (va_up (va_up (va_up I 9 1) 10 (K 1 r)) 11 (K 2 r)) 12 ((K 1 r) * (K 2 r))) (va_up J 1 (σ)) F (va_up E 0 o) K G0 n1 (by omega) (by omega)) gX0_addNoise_X2_below rfl (by decide +kernel) ⟨Nat.le_of_ble_eq_true rfl, Nat.le_of_ble_eq_true rfl⟩ 3 rfl rfl rfl hl.1 rfl (Nat.le_of_ble_eq_true rfl) dX0_addNoise_35 ⟨by first | (simp only []; omega) | decide, by first | (simp only []; omega) | decide⟩) (fun r35 w35 H locs hp35 G => ?_)
        obtain ⟨d35, σ35, eσ35, ed35, hd35, rfl, rfl⟩ := hp35
        replace eσ35 : σ35 = nxg (σ) := eσ35
        refine r_top (y := nI (d35)) rfl ?_
        refine lv_ixor hx hb dX0_addNoise_38 ?_
        refine r_av G hA (r_rV (na := 2) (As := [.int (nI (k)), .int (((G0 r) k) ^^^ (nI (d35)))]) (rest := []) C G (c_X1_put_A l D cI cO cL a ca ia n O (va_up (va_up (va_up (va_up I 9 1) 10 (K 1 r)) 11 (K 2 r)) 12 ((K 1 r) * (K 2 r))) (va_up J 1 (σ35)) F (va_up E 0 o) K G0 k (((G0 r) k) ^^^ (nI (d35))) (by show (K 1 r) * (K 2 r) ≤ 1600; omega) (by show k < (K 1 r) * (K 2 r); omega)) gX0_addNoise_X1_put rfl (by decide +kernel) ⟨Nat.le_of_ble_eq_true rfl, Nat.le_of_ble_eq_true rfl⟩ 14 rfl rfl rfl hl.1 rfl (Nat.le_of_ble_eq_true rfl) dX0_addNoise_39 ⟨by first | (simp only []; omega) | decide, by first | (simp only []; omega) | decide⟩) (fun w39 H locs hp39 G => ?_)
        obtain ⟨rfl⟩ := hp39
        refine lv_iinc (v := nI (k + 1)) (lv' := [(4, .int (nI (k + 1))), (0, .ref (ca r)), (1, .int (nI (n1))), (2, .ref (a 3)), (3, .ref (a 14))]) hx hb dX0_addNoise_42 hl (k := 4) rfl (inc_n _ 1) (by decide) rfl (fun ls hl => ?_)
        refine lv_goto (tgt := 15) hx hb dX0_addNoise_45 (by decide) ?_
        exact ih15 (k + 1) (upd o k (((G0 r) k) ^^^ (nI (d35)))) σ35 (by omega) (by omega) (by rw [eσ35, eσ]; rfl) (fun j hj => by by_cases q : j = k; (rw [q, pk_us, ed35, eσ35, eσ]; rfl); (rw [pk_un q]; exact ho j (by omega))) _ _ _ (G.eq (rfl)) (lv_sub hl [1, 2, 3, 4, 0] rfl)
  exact lp15 (K 3 r + 1) 0 (E 0) (J 1) (by omega) (by omega) rfl (fun j hj => by omega) _ _ _ (G.eq (rfl)) (lv_sub hl [1, 2, 3, 4, 0] rfl)
set_option maxHeartbeats 4000000 in
set_option maxRecDepth 100000 in
theorem c_X0_leaveOut (l : Launch) (D : va_G) (cI cO cL : ClassId) (a ca ia : Nat → Nat) (n : Nat) (O : Nat → Option Nat) (I : Nat → Nat) (J : Nat → Int64) (F : Nat → Nat → Nat) (E : Nat → Nat → Int32) (K : Nat → Nat → Nat) (G0 : Nat → Nat → Int32) (r : Nat) (hr : r < n) (n1 : Nat) (hk0 : K 0 r ≤ 2) (hk1 : K 1 r ≤ 40) (hk2 : K 2 r ≤ 40) (hk3 : K 3 r ≤ K 4 r) (hk4 : K 4 r ≤ 1600) (hn1 : n1 ≤ 100) (hL40 : K 3 r ≤ 40) : Kv l yX0_leaveOut wsX0_leaveOut { frames := 2, cells := 0, slots := 0, locals := 42 } D (TY cI cO cL) [.ref (ca r), .int (nI (n1)), .ref (a 3), .ref (a 14)] (bW cI cO a ca ia n O I J F E K G0) (fun w => ∃ o σ, (∀ j, j < K 3 r → kp n1 (J 1) j = 1 → o (cl (kp n1 (J 1)) 1 j) = G0 r j) ∧ w = bW cI cO a ca ia n O (va_up (va_up (va_up (va_up I 9 0) 10 0) 11 0) 12 (cl (kp n1 (J 1)) 1 (K 3 r))) (va_up J 1 (σ)) F (va_up E 0 o) K G0) := by
  refine Kv.mk (cc := cX0_leaveOut) (maxL := 5) (own := RX0) (by decide) rfl rfl (Nat.le_of_ble_eq_true rfl) ?_
  intro p e s m below meth c A Q ls C hname hA G hl RET
  obtain ⟨⟨hx, hb, hml, hown, hts⟩, hK, hN⟩ := id C
  have hl : lv_has ls 5 [(0, .ref (ca r)), (1, .int (nI (n1))), (2, .ref (a 3)), (3, .ref (a 14))] := hl
  have hX1 : ∀ w ∈ u_ws RX1 TX1 5, w ∈ wsX0_leaveOut := by decide +kernel
  refine lv_aload_n hx hb dX0_leaveOut_0 rfl (lv_at hl 3 rfl) ?_
  refine r_av G hA (r_rV (na := 0) (As := []) (rest := []) C G (c_X1_becomeNoWords l D cI cO cL a ca ia n O I J F E K G0) gX0_leaveOut_X1_becomeNoWords rfl (by decide +kernel) ⟨Nat.le_of_ble_eq_true rfl, Nat.le_of_ble_eq_true rfl⟩ 14 rfl rfl rfl hl.1 rfl (Nat.le_of_ble_eq_true rfl) dX0_leaveOut_1 ⟨by first | (simp only []; omega) | decide, by first | (simp only []; omega) | decide⟩) (fun w1 H locs hp1 G => ?_)
  obtain ⟨rfl⟩ := hp1
  refine lv_iconst (v := (nI (0))) hx hb dX0_leaveOut_4 (by decide) ?_
  refine lv_istore (lv' := [(4, .int (nI (0))), (0, .ref (ca r)), (1, .int (nI (n1))), (2, .ref (a 3)), (3, .ref (a 14))]) hx hb dX0_leaveOut_5 hl (by decide) rfl (fun ls hl => ?_)
  have lp7 : ∀ (fuel7 : Nat) (k : Nat) (o : Nat → Int32) (σ : Int64) (hm : K 3 r - k < fuel7) (hk : k ≤ K 3 r) (eσ : σ = sIt nxg (J 1) k) (ho : ∀ j, j < k → kp n1 (J 1) j = 1 → o (cl (kp n1 (J 1)) 1 j) = G0 r j) (H : Heap) (locs : List Loc) (ls : Array Slot), Wd A s.heap D (bW cI cO a ca ia n O (va_up (va_up (va_up (va_up I 9 0) 10 0) 11 0) 12 (cl (kp n1 (J 1)) 1 k)) (va_up J 1 (σ)) F (va_up E 0 o) K G0) H locs → lv_has ls 5 [(0, .ref (ca r)), (1, .int (nI (n1))), (2, .ref (a 3)), (3, .ref (a 14)), (4, .int (nI (k)))] → W p l e ({ frames := 2, cells := 0, slots := 0, locals := 42 } : Room) s m ([.ref (ca r), .int (nI (n1)), .ref (a 3), .ref (a 14)] : List Value).toArray below meth c H locs 0 0 Q (F0 m 7 ls []) := by
    intro fuel7
    induction fuel7 with
    | zero => intro k o σ hm hk eσ ho; exact absurd hm (by omega)
    | succ fuel7 ih7 =>
      intro k o σ hm hk eσ ho H locs ls G hl
      refine lv_iload hx hb dX0_leaveOut_7 (lv_at hl 4 rfl) ?_
      refine lv_aload_n hx hb dX0_leaveOut_9 rfl (lv_at hl 0 rfl) ?_
      refine r_getN (v := .int (nI ((K 3) r))) C G hX1 (16 + 2 * r) (bW_c (by omega)) rfl 4 (by decide) (by decide +kernel) rfl dX0_leaveOut_10 ?_
      refine lv_icmp_ge (tgt := 42) hx hb dX0_leaveOut_13 (by decide) (fun c13 => ?_) (fun c13 => ?_)
      · skip
        replace c13 : (((K 3) r : Nat) : Int) ≤ ((k : Nat) : Int) := (cv_le (nI_toInt (by omega)) (nI_toInt (by omega))).mp c13
        exact RET (bW cI cO a ca ia n O (va_up (va_up (va_up (va_up I 9 0) 10 0) 11 0) 12 (cl (kp n1 (J 1)) 1 k)) (va_up J 1 (σ)) F (va_up E 0 o) K G0) _ _ ls _ _ _ (by obtain rfl : k = K 3 r := (by omega); exact ⟨o, σ, ho, rfl⟩) G (by first | (simp only []; omega) | decide) (by first | (simp only []; omega) | decide) dX0_leaveOut_42
      · skip
        replace c13 : ((k : Nat) : Int) < (((K 3) r : Nat) : Int) := Int.not_le.mp (fun h => c13 ((cv_le (nI_toInt (by omega)) (nI_toInt (by omega))).mpr h))
        have hcl := cl_le (lb := kp n1 (J 1)) (x := 1) k
        refine lv_aload_n hx hb dX0_leaveOut_16 rfl (lv_at hl 2 rfl) ?_
        refine lv_bipush (v := (nI (100))) hx hb dX0_leaveOut_17 (by decide) ?_
        refine r_ai G hA (r_rV (na := 1) (As := [.int (nI (100))]) (rest := []) C G (c_X2_below l D cI cO cL a ca ia n O (va_up (va_up (va_up (va_up I 9 0) 10 0) 11 0) 12 (cl (kp n1 (J 1)) 1 k)) (va_up J 1 (σ)) F (va_up E 0 o) K G0 100 (by omega) (by omega)) gX0_leaveOut_X2_below rfl (by decide +kernel) ⟨Nat.le_of_ble_eq_true rfl, Nat.le_of_ble_eq_true rfl⟩ 3 rfl rfl rfl hl.1 rfl (Nat.le_of_ble_eq_true rfl) dX0_leaveOut_19 ⟨by first | (simp only []; omega) | decide, by first | (simp only []; omega) | decide⟩) (fun r19 w19 H locs hp19 G => ?_)
        obtain ⟨d19, σ19, eσ19, ed19, hd19, rfl, rfl⟩ := hp19
        replace eσ19 : σ19 = nxg (σ) := eσ19
        refine r_top (y := nI (d19)) rfl ?_
        refine lv_iload_n hx hb dX0_leaveOut_22 rfl (lv_at hl 1 rfl) ?_
        refine lv_icmp_lt (tgt := 36) hx hb dX0_leaveOut_23 (by decide) (fun c23 => ?_) (fun c23 => ?_)
        · skip
          replace c23 : ((d19 : Nat) : Int) < ((n1 : Nat) : Int) := (cv_lt (nI_toInt (by omega)) (nI_toInt (by omega))).mp c23
          have hkp : ¬ kp n1 (J 1) k = 1 := by unfold kp; rw [if_neg (by rw [show sIt nxg (J 1) (k + 1) = σ19 by rw [eσ19, eσ]; rfl, ← ed19]; omega)]; decide
          refine lv_iinc (v := nI (k + 1)) (lv' := [(4, .int (nI (k + 1))), (0, .ref (ca r)), (1, .int (nI (n1))), (2, .ref (a 3)), (3, .ref (a 14))]) hx hb dX0_leaveOut_36 hl (k := 4) rfl (inc_n _ 1) (by decide) rfl (fun ls hl => ?_)
          refine lv_goto (tgt := 7) hx hb dX0_leaveOut_39 (by decide) ?_
          exact ih7 (k + 1) o σ19 (by omega) (by omega) (by rw [eσ19, eσ]; rfl) (fun j hj e => by rcases Nat.lt_or_ge j k with q | q; exact ho j q e; (obtain rfl : j = k := (by omega); exact absurd e hkp)) _ _ _ (G.eq (by rw [cl_n hkp]; rfl)) (lv_sub hl [1, 2, 3, 4, 0] rfl)
        · skip
          replace c23 : ((n1 : Nat) : Int) ≤ ((d19 : Nat) : Int) := Int.not_lt.mp (fun h => c23 ((cv_lt (nI_toInt (by omega)) (nI_toInt (by omega))).mpr h))
          have hkp : kp n1 (J 1) k = 1 := by unfold kp; rw [if_pos (by rw [show sIt nxg (J 1) (k + 1) = σ19 by rw [eσ19, eσ]; rfl, ← ed19]; omega)]
          refine lv_aload_n hx hb dX0_leaveOut_26 rfl (lv_at hl 3 rfl) ?_
          refine lv_aload_n hx hb dX0_leaveOut_27 rfl (lv_at hl 0 rfl) ?_
          refine lv_iload hx hb dX0_leaveOut_28 (lv_at hl 4 rfl) ?_
          refine r_ai G hA (r_rV (na := 1) (As := [.int (nI (k))]) (rest := [.ref (a 14)]) C G (c_X1_item_R l D cI cO cL a ca ia n O (va_up (va_up (va_up (va_up I 9 0) 10 0) 11 0) 12 (cl (kp n1 (J 1)) 1 k)) (va_up J 1 (σ19)) F (va_up E 0 o) K G0 r (by omega) k (by show (K 3) r ≤ (K 4) r; omega) (by omega) (by show k < (K 3) r; omega)) gX0_leaveOut_X1_item rfl (by decide +kernel) ⟨Nat.le_of_ble_eq_true rfl, Nat.le_of_ble_eq_true rfl⟩ (16 + 2 * r) (bW_c (by omega)) rfl rfl hl.1 rfl (Nat.le_of_ble_eq_true rfl) dX0_leaveOut_30 ⟨by first | (simp only []; omega) | decide, by first | (simp only []; omega) | decide⟩) (fun r30 w30 H locs hp30 G => ?_)
          obtain ⟨rfl, rfl⟩ := hp30
          refine r_top (y := (G0 r) k) rfl ?_
          refine r_av G hA (r_rV (na := 1) (As := [.int ((G0 r) k)]) (rest := []) C G (c_X1_append_A l D cI cO cL a ca ia n O (va_up (va_up (va_up (va_up I 9 0) 10 0) 11 0) 12 (cl (kp n1 (J 1)) 1 k)) (va_up J 1 (σ19)) F (va_up E 0 o) K G0 ((G0 r) k) (by show cl (kp n1 (J 1)) 1 k ≤ 1600; omega) (by show cl (kp n1 (J 1)) 1 k < 1600; omega)) gX0_leaveOut_X1_append rfl (by decide +kernel) ⟨Nat.le_of_ble_eq_true rfl, Nat.le_of_ble_eq_true rfl⟩ 14 rfl rfl rfl hl.1 rfl (Nat.le_of_ble_eq_true rfl) dX0_leaveOut_33 ⟨by first | (simp only []; omega) | decide, by first | (simp only []; omega) | decide⟩) (fun w33 H locs hp33 G => ?_)
          obtain ⟨rfl⟩ := hp33
          refine lv_iinc (v := nI (k + 1)) (lv' := [(4, .int (nI (k + 1))), (0, .ref (ca r)), (1, .int (nI (n1))), (2, .ref (a 3)), (3, .ref (a 14))]) hx hb dX0_leaveOut_36 hl (k := 4) rfl (inc_n _ 1) (by decide) rfl (fun ls hl => ?_)
          refine lv_goto (tgt := 7) hx hb dX0_leaveOut_39 (by decide) ?_
          exact ih7 (k + 1) (upd o (cl (kp n1 (J 1)) 1 k) ((G0 r) k)) σ19 (by omega) (by omega) (by rw [eσ19, eσ]; rfl) (fun j hj e => by rcases Nat.lt_or_ge j k with q | q; (rw [pk_un (by have := cl_st q e; omega)]; exact ho j q e); (obtain rfl : j = k := (by omega); rw [pk_us])) _ _ _ (G.eq (by rw [cl_y hkp]; rfl)) (lv_sub hl [1, 2, 3, 4, 0] rfl)
  exact lp7 (K 3 r + 1) 0 (E 0) (J 1) (by omega) (by omega) rfl (fun j hj => by omega) _ _ _ (G.eq (rfl)) (lv_sub hl [1, 2, 3, 4, 0] rfl)
set_option maxHeartbeats 4000000 in
set_option maxRecDepth 100000 in
theorem c_X0_swapSome (l : Launch) (D : va_G) (cI cO cL : ClassId) (a ca ia : Nat → Nat) (n : Nat) (O : Nat → Option Nat) (I : Nat → Nat) (J : Nat → Int64) (F : Nat → Nat → Nat) (E : Nat → Nat → Int32) (K : Nat → Nat → Nat) (G0 : Nat → Nat → Int32) (r : Nat) (hr : r < n) (n1 : Nat) (hk0 : K 0 r ≤ 2) (hk1 : K 1 r ≤ 40) (hk2 : K 2 r ≤ 40) (hk3 : K 3 r ≤ K 4 r) (hk4 : K 4 r ≤ 1600) (hn1 : n1 ≤ 50) (hL40 : K 3 r ≤ 40) (hsw : n1 = 0 ∨ 2 ≤ K 3 r) : Kv l yX0_swapSome wsX0_swapSome { frames := 3, cells := 0, slots := 0, locals := 65 } D (TY cI cO cL) [.ref (ca r), .int (nI (n1)), .ref (a 3), .ref (a 14)] (bW cI cO a ca ia n O I J F E K G0) (fun w => ∃ o σ, (∀ k, k < K 3 r → o k = swI dr nxg (K 3 r) (J 1) (G0 r) n1 k) ∧ w = bW cI cO a ca ia n O (va_up (va_up (va_up (va_up I 9 0) 10 0) 11 0) 12 (K 3 r)) (va_up J 1 (σ)) F (va_up E 0 o) K G0) := by
  refine Kv.mk (cc := cX0_swapSome) (maxL := 5) (own := RX0) (by decide) rfl rfl (Nat.le_of_ble_eq_true rfl) ?_
  intro p e s m below meth c A Q ls C hname hA G hl RET
  obtain ⟨⟨hx, hb, hml, hown, hts⟩, hK, hN⟩ := id C
  have hl : lv_has ls 5 [(0, .ref (ca r)), (1, .int (nI (n1))), (2, .ref (a 3)), (3, .ref (a 14))] := hl
  have hX1 : ∀ w ∈ u_ws RX1 TX1 5, w ∈ wsX0_swapSome := by decide +kernel
  refine lv_aload_n hx hb dX0_swapSome_0 rfl (lv_at hl 3 rfl) ?_
  refine r_av G hA (r_rV (na := 0) (As := []) (rest := []) C G (c_X1_becomeNoWords l D cI cO cL a ca ia n O I J F E K G0) gX0_swapSome_X1_becomeNoWords rfl (by decide +kernel) ⟨Nat.le_of_ble_eq_true rfl, Nat.le_of_ble_eq_true rfl⟩ 14 rfl rfl rfl hl.1 rfl (Nat.le_of_ble_eq_true rfl) dX0_swapSome_1 ⟨by first | (simp only []; omega) | decide, by first | (simp only []; omega) | decide⟩) (fun w1 H locs hp1 G => ?_)
  obtain ⟨rfl⟩ := hp1
  refine lv_iconst (v := (nI (0))) hx hb dX0_swapSome_4 (by decide) ?_
  refine lv_istore (lv' := [(4, .int (nI (0))), (0, .ref (ca r)), (1, .int (nI (n1))), (2, .ref (a 3)), (3, .ref (a 14))]) hx hb dX0_swapSome_5 hl (by decide) rfl (fun ls hl => ?_)
  have lp7 : ∀ (fuel7 : Nat) (k : Nat) (o : Nat → Int32) (hm : K 3 r - k < fuel7) (hk : k ≤ K 3 r) (ho : ∀ j, j < k → o j = G0 r j) (H : Heap) (locs : List Loc) (ls : Array Slot), Wd A s.heap D (bW cI cO a ca ia n O (va_up (va_up (va_up (va_up I 9 0) 10 0) 11 0) 12 k) J F (va_up E 0 o) K G0) H locs → lv_has ls 5 [(0, .ref (ca r)), (1, .int (nI (n1))), (2, .ref (a 3)), (3, .ref (a 14)), (4, .int (nI (k)))] → W p l e ({ frames := 3, cells := 0, slots := 0, locals := 65 } : Room) s m ([.ref (ca r), .int (nI (n1)), .ref (a 3), .ref (a 14)] : List Value).toArray below meth c H locs 0 0 Q (F0 m 7 ls []) := by
    intro fuel7
    induction fuel7 with
    | zero => intro k o hm hk ho; exact absurd hm (by omega)
    | succ fuel7 ih7 =>
      intro k o hm hk ho H locs ls G hl
      refine lv_iload hx hb dX0_swapSome_7 (lv_at hl 4 rfl) ?_
      refine lv_aload_n hx hb dX0_swapSome_9 rfl (lv_at hl 0 rfl) ?_
      refine r_getN (v := .int (nI ((K 3) r))) C G hX1 (16 + 2 * r) (bW_c (by omega)) rfl 4 (by decide) (by decide +kernel) rfl dX0_swapSome_10 ?_
      refine lv_icmp_ge (tgt := 32) hx hb dX0_swapSome_13 (by decide) (fun c13 => ?_) (fun c13 => ?_)
      · skip
        replace c13 : (((K 3) r : Nat) : Int) ≤ ((k : Nat) : Int) := (cv_le (nI_toInt (by omega)) (nI_toInt (by omega))).mp c13
        obtain rfl : k = K 3 r := by omega
        refine lv_iconst (v := (nI (0))) hx hb dX0_swapSome_32 (by decide) ?_
        refine lv_istore (lv' := [(4, .int (nI (0))), (0, .ref (ca r)), (1, .int (nI (n1))), (2, .ref (a 3)), (3, .ref (a 14))]) hx hb dX0_swapSome_33 hl (by decide) rfl (fun ls hl => ?_)
        have lp35 : ∀ (fuel35 : Nat) (t : Nat) (o : Nat → Int32) (σ : Int64) (hm2 : n1 - t < fuel35) (ht : t ≤ n1) (eσ : σ = sIt nxg (J 1) t) (ho : ∀ i, i < K 3 r → o i = swI dr nxg (K 3 r) (J 1) (G0 r) t i) (H : Heap) (locs : List Loc) (ls : Array Slot), Wd A s.heap D (bW cI cO a ca ia n O (va_up (va_up (va_up (va_up I 9 0) 10 0) 11 0) 12 (K 3 r)) (va_up J 1 (σ)) F (va_up E 0 o) K G0) H locs → lv_has ls 5 [(0, .ref (ca r)), (1, .int (nI (n1))), (2, .ref (a 3)), (3, .ref (a 14)), (4, .int (nI (t)))] → W p l e ({ frames := 3, cells := 0, slots := 0, locals := 65 } : Room) s m ([.ref (ca r), .int (nI (n1)), .ref (a 3), .ref (a 14)] : List Value).toArray below meth c H locs 0 0 Q (F0 m 35 ls []) := by
          intro fuel35
          induction fuel35 with
          | zero => intro t o σ hm2 ht eσ ho; exact absurd hm2 (by omega)
          | succ fuel35 ih35 =>
            intro t o σ hm2 ht eσ ho H locs ls G hl
            refine lv_iload hx hb dX0_swapSome_35 (lv_at hl 4 rfl) ?_
            refine lv_iload_n hx hb dX0_swapSome_37 rfl (lv_at hl 1 rfl) ?_
            refine lv_icmp_ge (tgt := 61) hx hb dX0_swapSome_38 (by decide) (fun c38 => ?_) (fun c38 => ?_)
            · skip
              replace c38 : ((n1 : Nat) : Int) ≤ ((t : Nat) : Int) := (cv_le (nI_toInt (by omega)) (nI_toInt (by omega))).mp c38
              exact RET (bW cI cO a ca ia n O (va_up (va_up (va_up (va_up I 9 0) 10 0) 11 0) 12 (K 3 r)) (va_up J 1 (σ)) F (va_up E 0 o) K G0) _ _ ls _ _ _ (by obtain rfl : t = n1 := (by omega); exact ⟨o, σ, ho, rfl⟩) G (by first | (simp only []; omega) | decide) (by first | (simp only []; omega) | decide) dX0_swapSome_61
            · skip
              replace c38 : ((t : Nat) : Int) < ((n1 : Nat) : Int) := Int.not_le.mp (fun h => c38 ((cv_le (nI_toInt (by omega)) (nI_toInt (by omega))).mpr h))
              refine lv_aload_n hx hb dX0_swapSome_41 rfl (lv_at hl 3 rfl) ?_
              refine lv_aload_n hx hb dX0_swapSome_42 rfl (lv_at hl 2 rfl) ?_
              refine lv_aload_n hx hb dX0_swapSome_43 rfl (lv_at hl 0 rfl) ?_
              refine r_getN (v := .int (nI ((K 3) r))) C G hX1 (16 + 2 * r) (bW_c (by omega)) rfl 4 (by decide) (by decide +kernel) rfl dX0_swapSome_44 ?_
              refine lv_iconst (v := (nI (1))) hx hb dX0_swapSome_47 (by decide) ?_
              refine r_isub hx hb (by omega) dX0_swapSome_48 ?_
              refine r_ai G hA (r_rV (na := 1) (As := [.int (nI (((K 3) r) - 1))]) (rest := [.ref (a 14)]) C G (c_X2_below l D cI cO cL a ca ia n O (va_up (va_up (va_up (va_up I 9 0) 10 0) 11 0) 12 (K 3 r)) (va_up J 1 (σ)) F (va_up E 0 o) K G0 (((K 3) r) - 1) (by omega) (by omega)) gX0_swapSome_X2_below rfl (by decide +kernel) ⟨Nat.le_of_ble_eq_true rfl, Nat.le_of_ble_eq_true rfl⟩ 3 rfl rfl rfl hl.1 rfl (Nat.le_of_ble_eq_true rfl) dX0_swapSome_49 ⟨by first | (simp only []; omega) | decide, by first | (simp only []; omega) | decide⟩) (fun r49 w49 H locs hp49 G => ?_)
              obtain ⟨d49, σ49, eσ49, ed49, hd49, rfl, rfl⟩ := hp49
              replace eσ49 : σ49 = nxg (σ) := eσ49
              refine r_top (y := nI (d49)) rfl ?_
              refine r_av G hA (r_rV (na := 1) (As := [.int (nI (d49))]) (rest := []) C G (c_X1_swapWithNext l D cI cO cL a ca ia n O (va_up (va_up (va_up (va_up I 9 0) 10 0) 11 0) 12 (K 3 r)) (va_up J 1 (σ49)) F (va_up E 0 o) K G0 d49 (by show K 3 r ≤ 1600; omega) (by show d49 + 1 < K 3 r; omega)) gX0_swapSome_X1_swapWithNext rfl (by decide +kernel) ⟨Nat.le_of_ble_eq_true rfl, Nat.le_of_ble_eq_true rfl⟩ 14 rfl rfl rfl hl.1 rfl (Nat.le_of_ble_eq_true rfl) dX0_swapSome_52 ⟨by first | (simp only []; omega) | decide, by first | (simp only []; omega) | decide⟩) (fun w52 H locs hp52 G => ?_)
              obtain ⟨rfl⟩ := hp52
              refine lv_iinc (v := nI (t + 1)) (lv' := [(4, .int (nI (t + 1))), (0, .ref (ca r)), (1, .int (nI (n1))), (2, .ref (a 3)), (3, .ref (a 14))]) hx hb dX0_swapSome_55 hl (k := 4) rfl (inc_n _ 1) (by decide) rfl (fun ls hl => ?_)
              refine lv_goto (tgt := 35) hx hb dX0_swapSome_58 (by decide) ?_
              exact ih35 (t + 1) (upd (upd o d49 (o (d49 + 1))) (d49 + 1) (o d49)) σ49 (by omega) (by omega) (by rw [eσ49, eσ]; rfl) (swI_s (by rw [ed49, eσ49, eσ]; rfl) (by omega) ho) _ _ _ (G.eq (rfl)) (lv_sub hl [1, 2, 3, 4, 0] rfl)
        exact lp35 (n1 + 1) 0 o (J 1) (by omega) (by omega) rfl ho _ _ _ (G.eq (rfl)) (lv_sub hl [1, 2, 3, 4, 0] rfl)
      · skip
        replace c13 : ((k : Nat) : Int) < (((K 3) r : Nat) : Int) := Int.not_le.mp (fun h => c13 ((cv_le (nI_toInt (by omega)) (nI_toInt (by omega))).mpr h))
        refine lv_aload_n hx hb dX0_swapSome_16 rfl (lv_at hl 3 rfl) ?_
        refine lv_aload_n hx hb dX0_swapSome_17 rfl (lv_at hl 0 rfl) ?_
        refine lv_iload hx hb dX0_swapSome_18 (lv_at hl 4 rfl) ?_
        refine r_ai G hA (r_rV (na := 1) (As := [.int (nI (k))]) (rest := [.ref (a 14)]) C G (c_X1_item_R l D cI cO cL a ca ia n O (va_up (va_up (va_up (va_up I 9 0) 10 0) 11 0) 12 k) J F (va_up E 0 o) K G0 r (by omega) k (by show (K 3) r ≤ (K 4) r; omega) (by omega) (by show k < (K 3) r; omega)) gX0_swapSome_X1_item rfl (by decide +kernel) ⟨Nat.le_of_ble_eq_true rfl, Nat.le_of_ble_eq_true rfl⟩ (16 + 2 * r) (bW_c (by omega)) rfl rfl hl.1 rfl (Nat.le_of_ble_eq_true rfl) dX0_swapSome_20 ⟨by first | (simp only []; omega) | decide, by first | (simp only []; omega) | decide⟩) (fun r20 w20 H locs hp20 G => ?_)
        obtain ⟨rfl, rfl⟩ := hp20
        refine r_top (y := (G0 r) k) rfl ?_
        refine r_av G hA (r_rV (na := 1) (As := [.int ((G0 r) k)]) (rest := []) C G (c_X1_append_A l D cI cO cL a ca ia n O (va_up (va_up (va_up (va_up I 9 0) 10 0) 11 0) 12 k) J F (va_up E 0 o) K G0 ((G0 r) k) (by show k ≤ 1600; omega) (by show k < 1600; omega)) gX0_swapSome_X1_append rfl (by decide +kernel) ⟨Nat.le_of_ble_eq_true rfl, Nat.le_of_ble_eq_true rfl⟩ 14 rfl rfl rfl hl.1 rfl (Nat.le_of_ble_eq_true rfl) dX0_swapSome_23 ⟨by first | (simp only []; omega) | decide, by first | (simp only []; omega) | decide⟩) (fun w23 H locs hp23 G => ?_)
        obtain ⟨rfl⟩ := hp23
        refine lv_iinc (v := nI (k + 1)) (lv' := [(4, .int (nI (k + 1))), (0, .ref (ca r)), (1, .int (nI (n1))), (2, .ref (a 3)), (3, .ref (a 14))]) hx hb dX0_swapSome_26 hl (k := 4) rfl (inc_n _ 1) (by decide) rfl (fun ls hl => ?_)
        refine lv_goto (tgt := 7) hx hb dX0_swapSome_29 (by decide) ?_
        exact ih7 (k + 1) (upd o k ((G0 r) k)) (by omega) (by omega) (fun j hj => by by_cases q : j = k; (rw [q, pk_us]); (rw [pk_un q]; exact ho j (by omega))) _ _ _ (G.eq (rfl)) (lv_sub hl [1, 2, 3, 4, 0] rfl)
  exact lp7 (K 3 r + 1) 0 (E 0) (by omega) (by omega) (fun j hj => by omega) _ _ _ (G.eq (rfl)) (lv_sub hl [1, 2, 3, 4, 0] rfl)
