set_option maxHeartbeats 4000000 in
set_option maxRecDepth 100000 in
theorem c_X1_holds_A (l : Launch) (D : va_G) (cI cO cL : ClassId) (a ca ia : Nat → Nat) (n : Nat) (O : Nat → Option Nat) (I : Nat → Nat) (J : Nat → Int64) (F : Nat → Nat → Nat) (E : Nat → Nat → Int32) (K : Nat → Nat → Nat) (G0 : Nat → Nat → Int32) (x : Int32) (hlen : I 12 ≤ 1600) : Ki l yX1_holds wsX1_holds { frames := 0, cells := 0, slots := 0, locals := 0 } D (TY cI cO cL) [.ref (a 14), .int (x)] (bW cI cO a ca ia n O I J F E K G0) (fun rr w => (rr = 1 ∧ w = bW cI cO a ca ia n O I J F E K G0 ∧ (0 ≤ x.toInt ∧ x.toInt < I 12)) ∨ (rr = 0 ∧ w = bW cI cO a ca ia n O I J F E K G0 ∧ ¬ (0 ≤ x.toInt ∧ x.toInt < I 12))) := by
  refine Ki.mk (cc := cX1_holds) (maxL := 2) (rt := .boolean) (own := RX1) (by decide) rfl rfl (Nat.le_of_ble_eq_true rfl) ?_
  intro p e s m below meth c A Q ls C hname hA G hl RET
  obtain ⟨⟨hx, hb, hml, hown, hts⟩, hK, hN⟩ := id C
  have hl : lv_has ls 2 [(0, .ref (a 14)), (1, .int (x))] := hl
  have hX1 : ∀ w ∈ u_ws RX1 TX1 5, w ∈ wsX1_holds := by decide +kernel
  refine lv_iload_n hx hb dX1_holds_0 rfl (lv_at hl 1 rfl) ?_
  refine lv_if_lt (tgt := 25) hx hb dX1_holds_1 (by decide) (fun c1 => ?_) (fun c1 => ?_)
  · skip
    replace c1 : (x).toInt < (0) := (cv_lt rfl (by decide)).mp c1
    refine lv_iconst (v := (nI (0))) hx hb dX1_holds_25 (by decide) ?_
    exact RET (nI (0)) (bW cI cO a ca ia n O I J F E K G0) _ _ ls _ _ _ (Or.inr ⟨rfl, rfl, by omega⟩) G (by first | (simp only []; omega) | decide) (by first | (simp only []; omega) | decide) rfl dX1_holds_26
  · skip
    replace c1 : (0) ≤ (x).toInt := Int.not_lt.mp (fun h => c1 ((cv_lt rfl (by decide)).mpr h))
    refine lv_iload_n hx hb dX1_holds_4 rfl (lv_at hl 1 rfl) ?_
    refine lv_aload_n hx hb dX1_holds_5 rfl (lv_at hl 0 rfl) ?_
    refine r_get (v := .int (nI (I 12))) C G hX1 14 rfl rfl 4 (by decide) (by decide +kernel) rfl dX1_holds_6 ?_
    refine lv_icmp_ge (tgt := 25) hx hb dX1_holds_9 (by decide) (fun c9 => ?_) (fun c9 => ?_)
    · skip
      replace c9 : ((I 12 : Nat) : Int) ≤ (x).toInt := (cv_le (nI_toInt (by omega)) rfl).mp c9
      refine lv_iconst (v := (nI (0))) hx hb dX1_holds_25 (by decide) ?_
      exact RET (nI (0)) (bW cI cO a ca ia n O I J F E K G0) _ _ ls _ _ _ (Or.inr ⟨rfl, rfl, by omega⟩) G (by first | (simp only []; omega) | decide) (by first | (simp only []; omega) | decide) rfl dX1_holds_26
    · skip
      replace c9 : (x).toInt < ((I 12 : Nat) : Int) := Int.not_le.mp (fun h => c9 ((cv_le (nI_toInt (by omega)) rfl).mpr h))
      refine lv_iload_n hx hb dX1_holds_12 rfl (lv_at hl 1 rfl) ?_
      refine lv_aload_n hx hb dX1_holds_13 rfl (lv_at hl 0 rfl) ?_
      refine r_get (v := .ref (a 15)) C G hX1 14 rfl rfl 0 (by decide) (by decide +kernel) rfl dX1_holds_14 ?_
      refine r_alen C G 15 0 rfl rfl dX1_holds_17 ?_
      refine r_top (y := nI (1600)) rfl ?_
      refine lv_icmp_ge (tgt := 25) hx hb dX1_holds_18 (by decide) (fun c18 => ?_) (fun c18 => ?_)
      · skip
        replace c18 : ((1600 : Nat) : Int) ≤ (x).toInt := (cv_le (nI_toInt (by omega)) rfl).mp c18
        exact absurd c18 (by omega)
      · skip
        replace c18 : (x).toInt < ((1600 : Nat) : Int) := Int.not_le.mp (fun h => c18 ((cv_le (nI_toInt (by omega)) rfl).mpr h))
        refine lv_iconst (v := (nI (1))) hx hb dX1_holds_21 (by decide) ?_
        refine lv_goto (tgt := 26) hx hb dX1_holds_22 (by decide) ?_
        exact RET (nI (1)) (bW cI cO a ca ia n O I J F E K G0) _ _ ls _ _ _ (Or.inl ⟨rfl, rfl, by omega⟩) G (by first | (simp only []; omega) | decide) (by first | (simp only []; omega) | decide) rfl dX1_holds_26
set_option maxHeartbeats 4000000 in
set_option maxRecDepth 100000 in
theorem c_X1_holds_R (l : Launch) (D : va_G) (cI cO cL : ClassId) (a ca ia : Nat → Nat) (n : Nat) (O : Nat → Option Nat) (I : Nat → Nat) (J : Nat → Int64) (F : Nat → Nat → Nat) (E : Nat → Nat → Int32) (K : Nat → Nat → Nat) (G0 : Nat → Nat → Int32) (r : Nat) (hr : r < n) (x : Int32) (hlen : K 3 r ≤ K 4 r) (hroom : K 4 r ≤ 1600) : Ki l yX1_holds wsX1_holds { frames := 0, cells := 0, slots := 0, locals := 0 } D (TY cI cO cL) [.ref (ca r), .int (x)] (bW cI cO a ca ia n O I J F E K G0) (fun rr w => (rr = 1 ∧ w = bW cI cO a ca ia n O I J F E K G0 ∧ (0 ≤ x.toInt ∧ x.toInt < K 3 r)) ∨ (rr = 0 ∧ w = bW cI cO a ca ia n O I J F E K G0 ∧ ¬ (0 ≤ x.toInt ∧ x.toInt < K 3 r))) := by
  refine Ki.mk (cc := cX1_holds) (maxL := 2) (rt := .boolean) (own := RX1) (by decide) rfl rfl (Nat.le_of_ble_eq_true rfl) ?_
  intro p e s m below meth c A Q ls C hname hA G hl RET
  obtain ⟨⟨hx, hb, hml, hown, hts⟩, hK, hN⟩ := id C
  have hl : lv_has ls 2 [(0, .ref (ca r)), (1, .int (x))] := hl
  have hX1 : ∀ w ∈ u_ws RX1 TX1 5, w ∈ wsX1_holds := by decide +kernel
  refine lv_iload_n hx hb dX1_holds_0 rfl (lv_at hl 1 rfl) ?_
  refine lv_if_lt (tgt := 25) hx hb dX1_holds_1 (by decide) (fun c1 => ?_) (fun c1 => ?_)
  · skip
    replace c1 : (x).toInt < (0) := (cv_lt rfl (by decide)).mp c1
    refine lv_iconst (v := (nI (0))) hx hb dX1_holds_25 (by decide) ?_
    exact RET (nI (0)) (bW cI cO a ca ia n O I J F E K G0) _ _ ls _ _ _ (Or.inr ⟨rfl, rfl, by omega⟩) G (by first | (simp only []; omega) | decide) (by first | (simp only []; omega) | decide) rfl dX1_holds_26
  · skip
    replace c1 : (0) ≤ (x).toInt := Int.not_lt.mp (fun h => c1 ((cv_lt rfl (by decide)).mpr h))
    refine lv_iload_n hx hb dX1_holds_4 rfl (lv_at hl 1 rfl) ?_
    refine lv_aload_n hx hb dX1_holds_5 rfl (lv_at hl 0 rfl) ?_
    refine r_get (v := .int (nI ((K 3) r))) C G hX1 (16 + 2 * r) (bW_c (by omega)) rfl 4 (by decide) (by decide +kernel) rfl dX1_holds_6 ?_
    refine lv_icmp_ge (tgt := 25) hx hb dX1_holds_9 (by decide) (fun c9 => ?_) (fun c9 => ?_)
    · skip
      replace c9 : (((K 3) r : Nat) : Int) ≤ (x).toInt := (cv_le (nI_toInt (by omega)) rfl).mp c9
      refine lv_iconst (v := (nI (0))) hx hb dX1_holds_25 (by decide) ?_
      exact RET (nI (0)) (bW cI cO a ca ia n O I J F E K G0) _ _ ls _ _ _ (Or.inr ⟨rfl, rfl, by omega⟩) G (by first | (simp only []; omega) | decide) (by first | (simp only []; omega) | decide) rfl dX1_holds_26
    · skip
      replace c9 : (x).toInt < (((K 3) r : Nat) : Int) := Int.not_le.mp (fun h => c9 ((cv_le (nI_toInt (by omega)) rfl).mpr h))
      refine lv_iload_n hx hb dX1_holds_12 rfl (lv_at hl 1 rfl) ?_
      refine lv_aload_n hx hb dX1_holds_13 rfl (lv_at hl 0 rfl) ?_
      refine r_get (v := .ref (ia r)) C G hX1 (16 + 2 * r) (bW_c (by omega)) rfl 0 (by decide) (by decide +kernel) rfl dX1_holds_14 ?_
      refine r_alen C G (16 + (2 * r + 1)) 0 (bW_i (by omega)) rfl dX1_holds_17 ?_
      refine r_top (y := nI ((K 4) r)) rfl ?_
      refine lv_icmp_ge (tgt := 25) hx hb dX1_holds_18 (by decide) (fun c18 => ?_) (fun c18 => ?_)
      · skip
        replace c18 : (((K 4) r : Nat) : Int) ≤ (x).toInt := (cv_le (nI_toInt (by omega)) rfl).mp c18
        exact absurd c18 (by omega)
      · skip
        replace c18 : (x).toInt < (((K 4) r : Nat) : Int) := Int.not_le.mp (fun h => c18 ((cv_le (nI_toInt (by omega)) rfl).mpr h))
        refine lv_iconst (v := (nI (1))) hx hb dX1_holds_21 (by decide) ?_
        refine lv_goto (tgt := 26) hx hb dX1_holds_22 (by decide) ?_
        exact RET (nI (1)) (bW cI cO a ca ia n O I J F E K G0) _ _ ls _ _ _ (Or.inl ⟨rfl, rfl, by omega⟩) G (by first | (simp only []; omega) | decide) (by first | (simp only []; omega) | decide) rfl dX1_holds_26
set_option maxHeartbeats 4000000 in
set_option maxRecDepth 100000 in
theorem c_X1_item_A (l : Launch) (D : va_G) (cI cO cL : ClassId) (a ca ia : Nat → Nat) (n : Nat) (O : Nat → Option Nat) (I : Nat → Nat) (J : Nat → Int64) (F : Nat → Nat → Nat) (E : Nat → Nat → Int32) (K : Nat → Nat → Nat) (G0 : Nat → Nat → Int32) (k : Nat) (hlen : I 12 ≤ 1600) (hk : k < I 12) : Ki l yX1_item wsX1_item { frames := 1, cells := 0, slots := 0, locals := 21 } D (TY cI cO cL) [.ref (a 14), .int (nI (k))] (bW cI cO a ca ia n O I J F E K G0) (fun v w => v = E 0 k ∧ w = bW cI cO a ca ia n O I J F E K G0) := by
  refine Ki.mk (cc := cX1_item) (maxL := 2) (rt := .int) (own := RX1) (by decide) rfl rfl (Nat.le_of_ble_eq_true rfl) ?_
  intro p e s m below meth c A Q ls C hname hA G hl RET
  obtain ⟨⟨hx, hb, hml, hown, hts⟩, hK, hN⟩ := id C
  have hl : lv_has ls 2 [(0, .ref (a 14)), (1, .int (nI (k)))] := hl
  have hX1 : ∀ w ∈ u_ws RX1 TX1 5, w ∈ wsX1_item := by decide +kernel
  refine lv_aload_n hx hb dX1_item_0 rfl (lv_at hl 0 rfl) ?_
  refine lv_iload_n hx hb dX1_item_1 rfl (lv_at hl 1 rfl) ?_
  refine r_ai G hA (r_rV (na := 1) (As := [.int (nI (k))]) (rest := []) C G (c_X1_holds_A l D cI cO cL a ca ia n O I J F E K G0 (nI (k)) (by show I 12 ≤ 1600; omega)) gX1_item_X1_holds rfl (by decide +kernel) ⟨Nat.le_of_ble_eq_true rfl, Nat.le_of_ble_eq_true rfl⟩ 14 rfl rfl rfl hl.1 rfl (Nat.le_of_ble_eq_true rfl) dX1_item_2 ⟨by first | (simp only []; omega) | decide, by first | (simp only []; omega) | decide⟩) (fun r2 w2 H locs hp2 G => ?_)
  rcases hp2 with ⟨rfl, rfl, hi2⟩ | ⟨rfl, rfl, hi2⟩
  · skip
    replace hi2 : 0 ≤ (nI (k)).toInt ∧ (nI (k)).toInt < (I 12 : Nat) := hi2
    rw [nI_toInt (by omega)] at hi2
    refine lv_if_eq (tgt := 17) hx hb dX1_item_5 (by decide) (fun c5 => ?_) (fun c5 => ?_)
    · skip
      exact absurd c5 (by decide)
    · skip
      refine lv_aload_n hx hb dX1_item_8 rfl (lv_at hl 0 rfl) ?_
      refine r_get (v := .ref (a 15)) C G hX1 14 rfl rfl 0 (by decide) (by decide +kernel) rfl dX1_item_9 ?_
      refine lv_iload_n hx hb dX1_item_12 rfl (lv_at hl 1 rfl) ?_
      refine r_iald (v := (E 0) k) C G 15 0 rfl rfl k rfl (by omega) (by omega) rfl dX1_item_13 ?_
      refine lv_goto (tgt := 18) hx hb dX1_item_14 (by decide) ?_
      exact RET ((E 0) k) (bW cI cO a ca ia n O I J F E K G0) _ _ ls _ _ _ (⟨rfl, rfl⟩) G (by first | (simp only []; omega) | decide) (by first | (simp only []; omega) | decide) rfl dX1_item_18
  · skip
    replace hi2 : ¬ (0 ≤ (nI (k)).toInt ∧ (nI (k)).toInt < (I 12 : Nat)) := hi2
    rw [nI_toInt (by omega)] at hi2
    exact absurd hi2 (by omega)
set_option maxHeartbeats 4000000 in
set_option maxRecDepth 100000 in
theorem c_X1_put_A (l : Launch) (D : va_G) (cI cO cL : ClassId) (a ca ia : Nat → Nat) (n : Nat) (O : Nat → Option Nat) (I : Nat → Nat) (J : Nat → Int64) (F : Nat → Nat → Nat) (E : Nat → Nat → Int32) (K : Nat → Nat → Nat) (G0 : Nat → Nat → Int32) (k : Nat) (v : Int32) (hlen : I 12 ≤ 1600) (hk : k < I 12) : Kv l yX1_put wsX1_put { frames := 1, cells := 0, slots := 0, locals := 21 } D (TY cI cO cL) [.ref (a 14), .int (nI (k)), .int (v)] (bW cI cO a ca ia n O I J F E K G0) (fun w => w = bW cI cO a ca ia n O I J F (va_up E 0 (upd (E 0) k v)) K G0) := by
  refine Kv.mk (cc := cX1_put) (maxL := 3) (own := RX1) (by decide) rfl rfl (Nat.le_of_ble_eq_true rfl) ?_
  intro p e s m below meth c A Q ls C hname hA G hl RET
  obtain ⟨⟨hx, hb, hml, hown, hts⟩, hK, hN⟩ := id C
  have hl : lv_has ls 3 [(0, .ref (a 14)), (1, .int (nI (k))), (2, .int (v))] := hl
  have hX1 : ∀ w ∈ u_ws RX1 TX1 5, w ∈ wsX1_put := by decide +kernel
  refine lv_aload_n hx hb dX1_put_0 rfl (lv_at hl 0 rfl) ?_
  refine lv_iload_n hx hb dX1_put_1 rfl (lv_at hl 1 rfl) ?_
  refine r_ai G hA (r_rV (na := 1) (As := [.int (nI (k))]) (rest := []) C G (c_X1_holds_A l D cI cO cL a ca ia n O I J F E K G0 (nI (k)) (by show I 12 ≤ 1600; omega)) gX1_put_X1_holds rfl (by decide +kernel) ⟨Nat.le_of_ble_eq_true rfl, Nat.le_of_ble_eq_true rfl⟩ 14 rfl rfl rfl hl.1 rfl (Nat.le_of_ble_eq_true rfl) dX1_put_2 ⟨by first | (simp only []; omega) | decide, by first | (simp only []; omega) | decide⟩) (fun r2 w2 H locs hp2 G => ?_)
  rcases hp2 with ⟨rfl, rfl, hi2⟩ | ⟨rfl, rfl, hi2⟩
  · skip
    replace hi2 : 0 ≤ (nI (k)).toInt ∧ (nI (k)).toInt < (I 12 : Nat) := hi2
    rw [nI_toInt (by omega)] at hi2
    refine lv_if_eq (tgt := 15) hx hb dX1_put_5 (by decide) (fun c5 => ?_) (fun c5 => ?_)
    · skip
      exact absurd c5 (by decide)
    · skip
      refine lv_aload_n hx hb dX1_put_8 rfl (lv_at hl 0 rfl) ?_
      refine r_get (v := .ref (a 15)) C G hX1 14 rfl rfl 0 (by decide) (by decide +kernel) rfl dX1_put_9 ?_
      refine lv_iload_n hx hb dX1_put_12 rfl (lv_at hl 1 rfl) ?_
      refine lv_iload_n hx hb dX1_put_13 rfl (lv_at hl 2 rfl) ?_
      refine r_iast (ws' := bW cI cO a ca ia n O I J F (va_up E 0 (upd (E 0) k v)) K G0) C G 15 0 rfl rfl k rfl (by omega) (by omega) rfl dX1_put_14 rfl (fun H locs G => ?_)
      exact RET (bW cI cO a ca ia n O I J F (va_up E 0 (upd (E 0) k v)) K G0) _ _ ls _ _ _ (rfl) G (by first | (simp only []; omega) | decide) (by first | (simp only []; omega) | decide) dX1_put_15
  · skip
    replace hi2 : ¬ (0 ≤ (nI (k)).toInt ∧ (nI (k)).toInt < (I 12 : Nat)) := hi2
    rw [nI_toInt (by omega)] at hi2
    exact absurd hi2 (by omega)
set_option maxHeartbeats 4000000 in
set_option maxRecDepth 100000 in
theorem c_X1_append_A (l : Launch) (D : va_G) (cI cO cL : ClassId) (a ca ia : Nat → Nat) (n : Nat) (O : Nat → Option Nat) (I : Nat → Nat) (J : Nat → Int64) (F : Nat → Nat → Nat) (E : Nat → Nat → Int32) (K : Nat → Nat → Nat) (G0 : Nat → Nat → Int32) (v : Int32) (hlen : I 12 ≤ 1600) (hk : I 12 < 1600) : Kv l yX1_append wsX1_append { frames := 0, cells := 0, slots := 0, locals := 0 } D (TY cI cO cL) [.ref (a 14), .int (v)] (bW cI cO a ca ia n O I J F E K G0) (fun w => w = bW cI cO a ca ia n O (va_up I 12 (I 12 + 1)) J F (va_up E 0 (upd (E 0) (I 12) v)) K G0) := by
  refine Kv.mk (cc := cX1_append) (maxL := 2) (own := RX1) (by decide) rfl rfl (Nat.le_of_ble_eq_true rfl) ?_
  intro p e s m below meth c A Q ls C hname hA G hl RET
  obtain ⟨⟨hx, hb, hml, hown, hts⟩, hK, hN⟩ := id C
  have hl : lv_has ls 2 [(0, .ref (a 14)), (1, .int (v))] := hl
  have hX1 : ∀ w ∈ u_ws RX1 TX1 5, w ∈ wsX1_append := by decide +kernel
  refine lv_aload_n hx hb dX1_append_0 rfl (lv_at hl 0 rfl) ?_
  refine r_get (v := .int (nI (I 12))) C G hX1 14 rfl rfl 4 (by decide) (by decide +kernel) rfl dX1_append_1 ?_
  refine lv_if_lt (tgt := 39) hx hb dX1_append_4 (by decide) (fun c4 => ?_) (fun c4 => ?_)
  · skip
    replace c4 : ((I 12 : Nat) : Int) < (0) := (cv_lt (nI_toInt (by omega)) (by decide)).mp c4
    exact absurd c4 (by omega)
  · skip
    replace c4 : (0) ≤ ((I 12 : Nat) : Int) := Int.not_lt.mp (fun h => c4 ((cv_lt (nI_toInt (by omega)) (by decide)).mpr h))
    refine lv_aload_n hx hb dX1_append_7 rfl (lv_at hl 0 rfl) ?_
    refine r_get (v := .int (nI (I 12))) C G hX1 14 rfl rfl 4 (by decide) (by decide +kernel) rfl dX1_append_8 ?_
    refine lv_aload_n hx hb dX1_append_11 rfl (lv_at hl 0 rfl) ?_
    refine r_get (v := .ref (a 15)) C G hX1 14 rfl rfl 0 (by decide) (by decide +kernel) rfl dX1_append_12 ?_
    refine r_alen C G 15 0 rfl rfl dX1_append_15 ?_
    refine r_top (y := nI (1600)) rfl ?_
    refine lv_icmp_ge (tgt := 39) hx hb dX1_append_16 (by decide) (fun c16 => ?_) (fun c16 => ?_)
    · skip
      replace c16 : ((1600 : Nat) : Int) ≤ ((I 12 : Nat) : Int) := (cv_le (nI_toInt (by omega)) (nI_toInt (by omega))).mp c16
      exact absurd c16 (by omega)
    · skip
      replace c16 : ((I 12 : Nat) : Int) < ((1600 : Nat) : Int) := Int.not_le.mp (fun h => c16 ((cv_le (nI_toInt (by omega)) (nI_toInt (by omega))).mpr h))
      refine lv_aload_n hx hb dX1_append_19 rfl (lv_at hl 0 rfl) ?_
      refine r_get (v := .ref (a 15)) C G hX1 14 rfl rfl 0 (by decide) (by decide +kernel) rfl dX1_append_20 ?_
      refine lv_aload_n hx hb dX1_append_23 rfl (lv_at hl 0 rfl) ?_
      refine r_get (v := .int (nI (I 12))) C G hX1 14 rfl rfl 4 (by decide) (by decide +kernel) rfl dX1_append_24 ?_
      refine lv_iload_n hx hb dX1_append_27 rfl (lv_at hl 1 rfl) ?_
      refine r_iast (ws' := bW cI cO a ca ia n O I J F (va_up E 0 (upd (E 0) (I 12) v)) K G0) C G 15 0 rfl rfl (I 12) rfl (by omega) (by omega) rfl dX1_append_28 rfl (fun H locs G => ?_)
      refine lv_aload_n hx hb dX1_append_29 rfl (lv_at hl 0 rfl) ?_
      refine lv_dup hx hb dX1_append_30 rfl ?_
      refine r_get (v := .int (nI (I 12))) C G hX1 14 rfl rfl 4 (by decide) (by decide +kernel) rfl dX1_append_31 ?_
      refine lv_iconst (v := (nI (1))) hx hb dX1_append_34 (by decide) ?_
      refine r_iadd hx hb dX1_append_35 ?_
      refine r_put (ws' := bW cI cO a ca ia n O (va_up I 12 ((I 12) + 1)) J F (va_up E 0 (upd (E 0) (I 12) v)) K G0) C G hX1 tyX1_ok nmX1 14 rfl rfl 4 (by decide) (by decide +kernel) rfl rfl rfl (Nat.le_of_ble_eq_true rfl) dX1_append_36 rfl (fun H locs G => ?_)
      exact RET (bW cI cO a ca ia n O (va_up I 12 ((I 12) + 1)) J F (va_up E 0 (upd (E 0) (I 12) v)) K G0) _ _ ls _ _ _ (rfl) G (by first | (simp only []; omega) | decide) (by first | (simp only []; omega) | decide) dX1_append_39
set_option maxHeartbeats 4000000 in
set_option maxRecDepth 100000 in
theorem c_X1_item_R (l : Launch) (D : va_G) (cI cO cL : ClassId) (a ca ia : Nat → Nat) (n : Nat) (O : Nat → Option Nat) (I : Nat → Nat) (J : Nat → Int64) (F : Nat → Nat → Nat) (E : Nat → Nat → Int32) (K : Nat → Nat → Nat) (G0 : Nat → Nat → Int32) (r : Nat) (hr : r < n) (k : Nat) (hlen : K 3 r ≤ K 4 r) (hroom : K 4 r ≤ 1600) (hk : k < K 3 r) : Ki l yX1_item wsX1_item { frames := 1, cells := 0, slots := 0, locals := 21 } D (TY cI cO cL) [.ref (ca r), .int (nI (k))] (bW cI cO a ca ia n O I J F E K G0) (fun v w => v = G0 r k ∧ w = bW cI cO a ca ia n O I J F E K G0) := by
  refine Ki.mk (cc := cX1_item) (maxL := 2) (rt := .int) (own := RX1) (by decide) rfl rfl (Nat.le_of_ble_eq_true rfl) ?_
  intro p e s m below meth c A Q ls C hname hA G hl RET
  obtain ⟨⟨hx, hb, hml, hown, hts⟩, hK, hN⟩ := id C
  have hl : lv_has ls 2 [(0, .ref (ca r)), (1, .int (nI (k)))] := hl
  have hX1 : ∀ w ∈ u_ws RX1 TX1 5, w ∈ wsX1_item := by decide +kernel
  refine lv_aload_n hx hb dX1_item_0 rfl (lv_at hl 0 rfl) ?_
  refine lv_iload_n hx hb dX1_item_1 rfl (lv_at hl 1 rfl) ?_
  refine r_ai G hA (r_rV (na := 1) (As := [.int (nI (k))]) (rest := []) C G (c_X1_holds_R l D cI cO cL a ca ia n O I J F E K G0 r (by omega) (nI (k)) (by show (K 3) r ≤ (K 4) r; omega) (by omega)) gX1_item_X1_holds rfl (by decide +kernel) ⟨Nat.le_of_ble_eq_true rfl, Nat.le_of_ble_eq_true rfl⟩ (16 + 2 * r) (bW_c (by omega)) rfl rfl hl.1 rfl (Nat.le_of_ble_eq_true rfl) dX1_item_2 ⟨by first | (simp only []; omega) | decide, by first | (simp only []; omega) | decide⟩) (fun r2 w2 H locs hp2 G => ?_)
  rcases hp2 with ⟨rfl, rfl, hi2⟩ | ⟨rfl, rfl, hi2⟩
  · skip
    replace hi2 : 0 ≤ (nI (k)).toInt ∧ (nI (k)).toInt < ((K 3) r : Nat) := hi2
    rw [nI_toInt (by omega)] at hi2
    refine lv_if_eq (tgt := 17) hx hb dX1_item_5 (by decide) (fun c5 => ?_) (fun c5 => ?_)
    · skip
      exact absurd c5 (by decide)
    · skip
      refine lv_aload_n hx hb dX1_item_8 rfl (lv_at hl 0 rfl) ?_
      refine r_get (v := .ref (ia r)) C G hX1 (16 + 2 * r) (bW_c (by omega)) rfl 0 (by decide) (by decide +kernel) rfl dX1_item_9 ?_
      refine lv_iload_n hx hb dX1_item_12 rfl (lv_at hl 1 rfl) ?_
      refine r_iald (v := (G0 r) k) C G (16 + (2 * r + 1)) 0 (bW_i (by omega)) rfl k rfl (by omega) (by omega) rfl dX1_item_13 ?_
      refine lv_goto (tgt := 18) hx hb dX1_item_14 (by decide) ?_
      exact RET ((G0 r) k) (bW cI cO a ca ia n O I J F E K G0) _ _ ls _ _ _ (⟨rfl, rfl⟩) G (by first | (simp only []; omega) | decide) (by first | (simp only []; omega) | decide) rfl dX1_item_18
  · skip
    replace hi2 : ¬ (0 ≤ (nI (k)).toInt ∧ (nI (k)).toInt < ((K 3) r : Nat)) := hi2
    rw [nI_toInt (by omega)] at hi2
    exact absurd hi2 (by omega)
set_option maxHeartbeats 4000000 in
set_option maxRecDepth 100000 in
theorem c_X1_put_R (l : Launch) (D : va_G) (cI cO cL : ClassId) (a ca ia : Nat → Nat) (n : Nat) (O : Nat → Option Nat) (I : Nat → Nat) (J : Nat → Int64) (F : Nat → Nat → Nat) (E : Nat → Nat → Int32) (K : Nat → Nat → Nat) (G0 : Nat → Nat → Int32) (r : Nat) (hr : r < n) (k : Nat) (v : Int32) (hlen : K 3 r ≤ K 4 r) (hroom : K 4 r ≤ 1600) (hk : k < K 3 r) : Kv l yX1_put wsX1_put { frames := 1, cells := 0, slots := 0, locals := 21 } D (TY cI cO cL) [.ref (ca r), .int (nI (k)), .int (v)] (bW cI cO a ca ia n O I J F E K G0) (fun w => w = bW cI cO a ca ia n O I J F E K (va_up G0 r (upd (G0 r) k v))) := by
  refine Kv.mk (cc := cX1_put) (maxL := 3) (own := RX1) (by decide) rfl rfl (Nat.le_of_ble_eq_true rfl) ?_
  intro p e s m below meth c A Q ls C hname hA G hl RET
  obtain ⟨⟨hx, hb, hml, hown, hts⟩, hK, hN⟩ := id C
  have hl : lv_has ls 3 [(0, .ref (ca r)), (1, .int (nI (k))), (2, .int (v))] := hl
  have hX1 : ∀ w ∈ u_ws RX1 TX1 5, w ∈ wsX1_put := by decide +kernel
  refine lv_aload_n hx hb dX1_put_0 rfl (lv_at hl 0 rfl) ?_
  refine lv_iload_n hx hb dX1_put_1 rfl (lv_at hl 1 rfl) ?_
  refine r_ai G hA (r_rV (na := 1) (As := [.int (nI (k))]) (rest := []) C G (c_X1_holds_R l D cI cO cL a ca ia n O I J F E K G0 r (by omega) (nI (k)) (by show (K 3) r ≤ (K 4) r; omega) (by omega)) gX1_put_X1_holds rfl (by decide +kernel) ⟨Nat.le_of_ble_eq_true rfl, Nat.le_of_ble_eq_true rfl⟩ (16 + 2 * r) (bW_c (by omega)) rfl rfl hl.1 rfl (Nat.le_of_ble_eq_true rfl) dX1_put_2 ⟨by first | (simp only []; omega) | decide, by first | (simp only []; omega) | decide⟩) (fun r2 w2 H locs hp2 G => ?_)
  rcases hp2 with ⟨rfl, rfl, hi2⟩ | ⟨rfl, rfl, hi2⟩
  · skip
    replace hi2 : 0 ≤ (nI (k)).toInt ∧ (nI (k)).toInt < ((K 3) r : Nat) := hi2
    rw [nI_toInt (by omega)] at hi2
    refine lv_if_eq (tgt := 15) hx hb dX1_put_5 (by decide) (fun c5 => ?_) (fun c5 => ?_)
    · skip
      exact absurd c5 (by decide)
    · skip
      refine lv_aload_n hx hb dX1_put_8 rfl (lv_at hl 0 rfl) ?_
      refine r_get (v := .ref (ia r)) C G hX1 (16 + 2 * r) (bW_c (by omega)) rfl 0 (by decide) (by decide +kernel) rfl dX1_put_9 ?_
      refine lv_iload_n hx hb dX1_put_12 rfl (lv_at hl 1 rfl) ?_
      refine lv_iload_n hx hb dX1_put_13 rfl (lv_at hl 2 rfl) ?_
      refine r_iast (ws' := bW cI cO a ca ia n O I J F E K (va_up G0 r (upd (G0 r) k v))) C G (16 + (2 * r + 1)) 0 (bW_i (by omega)) rfl k rfl (by omega) (by omega) rfl dX1_put_14 (bW_setitems (by omega)) (fun H locs G => ?_)
      exact RET (bW cI cO a ca ia n O I J F E K (va_up G0 r (upd (G0 r) k v))) _ _ ls _ _ _ (rfl) G (by first | (simp only []; omega) | decide) (by first | (simp only []; omega) | decide) dX1_put_15
  · skip
    replace hi2 : ¬ (0 ≤ (nI (k)).toInt ∧ (nI (k)).toInt < ((K 3) r : Nat)) := hi2
    rw [nI_toInt (by omega)] at hi2
    exact absurd hi2 (by omega)
set_option maxHeartbeats 4000000 in
set_option maxRecDepth 100000 in
theorem c_X1_append_R (l : Launch) (D : va_G) (cI cO cL : ClassId) (a ca ia : Nat → Nat) (n : Nat) (O : Nat → Option Nat) (I : Nat → Nat) (J : Nat → Int64) (F : Nat → Nat → Nat) (E : Nat → Nat → Int32) (K : Nat → Nat → Nat) (G0 : Nat → Nat → Int32) (r : Nat) (hr : r < n) (v : Int32) (hlen : K 3 r ≤ K 4 r) (hroom : K 4 r ≤ 1600) (hk : K 3 r < K 4 r) : Kv l yX1_append wsX1_append { frames := 0, cells := 0, slots := 0, locals := 0 } D (TY cI cO cL) [.ref (ca r), .int (v)] (bW cI cO a ca ia n O I J F E K G0) (fun w => w = bW cI cO a ca ia n O I J F E (va_up K 3 (va_up (K 3) r (K 3 r + 1))) (va_up G0 r (upd (G0 r) (K 3 r) v))) := by
  refine Kv.mk (cc := cX1_append) (maxL := 2) (own := RX1) (by decide) rfl rfl (Nat.le_of_ble_eq_true rfl) ?_
  intro p e s m below meth c A Q ls C hname hA G hl RET
  obtain ⟨⟨hx, hb, hml, hown, hts⟩, hK, hN⟩ := id C
  have hl : lv_has ls 2 [(0, .ref (ca r)), (1, .int (v))] := hl
  have hX1 : ∀ w ∈ u_ws RX1 TX1 5, w ∈ wsX1_append := by decide +kernel
  refine lv_aload_n hx hb dX1_append_0 rfl (lv_at hl 0 rfl) ?_
  refine r_get (v := .int (nI ((K 3) r))) C G hX1 (16 + 2 * r) (bW_c (by omega)) rfl 4 (by decide) (by decide +kernel) rfl dX1_append_1 ?_
  refine lv_if_lt (tgt := 39) hx hb dX1_append_4 (by decide) (fun c4 => ?_) (fun c4 => ?_)
  · skip
    replace c4 : (((K 3) r : Nat) : Int) < (0) := (cv_lt (nI_toInt (by omega)) (by decide)).mp c4
    exact absurd c4 (by omega)
  · skip
    replace c4 : (0) ≤ (((K 3) r : Nat) : Int) := Int.not_lt.mp (fun h => c4 ((cv_lt (nI_toInt (by omega)) (by decide)).mpr h))
    refine lv_aload_n hx hb dX1_append_7 rfl (lv_at hl 0 rfl) ?_
    refine r_get (v := .int (nI ((K 3) r))) C G hX1 (16 + 2 * r) (bW_c (by omega)) rfl 4 (by decide) (by decide +kernel) rfl dX1_append_8 ?_
    refine lv_aload_n hx hb dX1_append_11 rfl (lv_at hl 0 rfl) ?_
    refine r_get (v := .ref (ia r)) C G hX1 (16 + 2 * r) (bW_c (by omega)) rfl 0 (by decide) (by decide +kernel) rfl dX1_append_12 ?_
    refine r_alen C G (16 + (2 * r + 1)) 0 (bW_i (by omega)) rfl dX1_append_15 ?_
    refine r_top (y := nI ((K 4) r)) rfl ?_
    refine lv_icmp_ge (tgt := 39) hx hb dX1_append_16 (by decide) (fun c16 => ?_) (fun c16 => ?_)
    · skip
      replace c16 : (((K 4) r : Nat) : Int) ≤ (((K 3) r : Nat) : Int) := (cv_le (nI_toInt (by omega)) (nI_toInt (by omega))).mp c16
      exact absurd c16 (by omega)
    · skip
      replace c16 : (((K 3) r : Nat) : Int) < (((K 4) r : Nat) : Int) := Int.not_le.mp (fun h => c16 ((cv_le (nI_toInt (by omega)) (nI_toInt (by omega))).mpr h))
      refine lv_aload_n hx hb dX1_append_19 rfl (lv_at hl 0 rfl) ?_
      refine r_get (v := .ref (ia r)) C G hX1 (16 + 2 * r) (bW_c (by omega)) rfl 0 (by decide) (by decide +kernel) rfl dX1_append_20 ?_
      refine lv_aload_n hx hb dX1_append_23 rfl (lv_at hl 0 rfl) ?_
      refine r_get (v := .int (nI ((K 3) r))) C G hX1 (16 + 2 * r) (bW_c (by omega)) rfl 4 (by decide) (by decide +kernel) rfl dX1_append_24 ?_
      refine lv_iload_n hx hb dX1_append_27 rfl (lv_at hl 1 rfl) ?_
      refine r_iast (ws' := bW cI cO a ca ia n O I J F E K (va_up G0 r (upd (G0 r) ((K 3) r) v))) C G (16 + (2 * r + 1)) 0 (bW_i (by omega)) rfl ((K 3) r) rfl (by omega) (by omega) rfl dX1_append_28 (bW_setitems (by omega)) (fun H locs G => ?_)
      refine lv_aload_n hx hb dX1_append_29 rfl (lv_at hl 0 rfl) ?_
      refine lv_dup hx hb dX1_append_30 rfl ?_
      refine r_get (v := .int (nI ((K 3) r))) C G hX1 (16 + 2 * r) (bW_c (by omega)) rfl 4 (by decide) (by decide +kernel) rfl dX1_append_31 ?_
      refine lv_iconst (v := (nI (1))) hx hb dX1_append_34 (by decide) ?_
      refine r_iadd hx hb dX1_append_35 ?_
      refine r_put (ws' := bW cI cO a ca ia n O I J F E (va_up K 3 (va_up (K 3) r (((K 3) r) + 1))) (va_up G0 r (upd (G0 r) ((K 3) r) v))) C G hX1 tyX1_ok nmX1 (16 + 2 * r) (bW_c (by omega)) rfl 4 (by decide) (by decide +kernel) rfl rfl rfl (Nat.le_of_ble_eq_true rfl) dX1_append_36 (bW_setlen (by omega)) (fun H locs G => ?_)
      exact RET (bW cI cO a ca ia n O I J F E (va_up K 3 (va_up (K 3) r (((K 3) r) + 1))) (va_up G0 r (upd (G0 r) ((K 3) r) v))) _ _ ls _ _ _ (rfl) G (by first | (simp only []; omega) | decide) (by first | (simp only []; omega) | decide) dX1_append_39
set_option maxHeartbeats 4000000 in
set_option maxRecDepth 100000 in
theorem c_X1_becomePicture (l : Launch) (D : va_G) (cI cO cL : ClassId) (a ca ia : Nat → Nat) (n : Nat) (O : Nat → Option Nat) (I : Nat → Nat) (J : Nat → Int64) (F : Nat → Nat → Nat) (E : Nat → Nat → Int32) (K : Nat → Nat → Nat) (G0 : Nat → Nat → Int32) (hi wi : Nat) : Kv l yX1_becomePicture wsX1_becomePicture { frames := 0, cells := 0, slots := 0, locals := 0 } D (TY cI cO cL) [.ref (a 14), .int (nI (hi)), .int (nI (wi))] (bW cI cO a ca ia n O I J F E K G0) (fun w => w = bW cI cO a ca ia n O (va_up (va_up (va_up (va_up I 9 1) 10 hi) 11 wi) 12 (hi * wi)) J F E K G0) := by
  refine Kv.mk (cc := cX1_becomePicture) (maxL := 3) (own := RX1) (by decide) rfl rfl (Nat.le_of_ble_eq_true rfl) ?_
  intro p e s m below meth c A Q ls C hname hA G hl RET
  obtain ⟨⟨hx, hb, hml, hown, hts⟩, hK, hN⟩ := id C
  have hl : lv_has ls 3 [(0, .ref (a 14)), (1, .int (nI (hi))), (2, .int (nI (wi)))] := hl
  have hX1 : ∀ w ∈ u_ws RX1 TX1 5, w ∈ wsX1_becomePicture := by decide +kernel
  refine lv_aload_n hx hb dX1_becomePicture_0 rfl (lv_at hl 0 rfl) ?_
  refine lv_iconst (v := (nI (1))) hx hb dX1_becomePicture_1 (by decide) ?_
  refine r_put (ws' := bW cI cO a ca ia n O (va_up I 9 1) J F E K G0) C G hX1 tyX1_ok nmX1 14 rfl rfl 1 (by decide) (by decide +kernel) rfl rfl rfl (Nat.le_of_ble_eq_true rfl) dX1_becomePicture_2 rfl (fun H locs G => ?_)
  refine lv_aload_n hx hb dX1_becomePicture_5 rfl (lv_at hl 0 rfl) ?_
  refine lv_iload_n hx hb dX1_becomePicture_6 rfl (lv_at hl 1 rfl) ?_
  refine r_put (ws' := bW cI cO a ca ia n O (va_up (va_up I 9 1) 10 hi) J F E K G0) C G hX1 tyX1_ok nmX1 14 rfl rfl 2 (by decide) (by decide +kernel) rfl rfl rfl (Nat.le_of_ble_eq_true rfl) dX1_becomePicture_7 rfl (fun H locs G => ?_)
  refine lv_aload_n hx hb dX1_becomePicture_10 rfl (lv_at hl 0 rfl) ?_
  refine lv_iload_n hx hb dX1_becomePicture_11 rfl (lv_at hl 2 rfl) ?_
  refine r_put (ws' := bW cI cO a ca ia n O (va_up (va_up (va_up I 9 1) 10 hi) 11 wi) J F E K G0) C G hX1 tyX1_ok nmX1 14 rfl rfl 3 (by decide) (by decide +kernel) rfl rfl rfl (Nat.le_of_ble_eq_true rfl) dX1_becomePicture_12 rfl (fun H locs G => ?_)
  refine lv_aload_n hx hb dX1_becomePicture_15 rfl (lv_at hl 0 rfl) ?_
  refine lv_iload_n hx hb dX1_becomePicture_16 rfl (lv_at hl 1 rfl) ?_
  refine lv_iload_n hx hb dX1_becomePicture_17 rfl (lv_at hl 2 rfl) ?_
  refine r_imul hx hb dX1_becomePicture_18 ?_
  refine r_put (ws' := bW cI cO a ca ia n O (va_up (va_up (va_up (va_up I 9 1) 10 hi) 11 wi) 12 (hi * wi)) J F E K G0) C G hX1 tyX1_ok nmX1 14 rfl rfl 4 (by decide) (by decide +kernel) rfl rfl rfl (Nat.le_of_ble_eq_true rfl) dX1_becomePicture_19 rfl (fun H locs G => ?_)
  exact RET (bW cI cO a ca ia n O (va_up (va_up (va_up (va_up I 9 1) 10 hi) 11 wi) 12 (hi * wi)) J F E K G0) _ _ ls _ _ _ (rfl) G (by first | (simp only []; omega) | decide) (by first | (simp only []; omega) | decide) dX1_becomePicture_22
set_option maxHeartbeats 4000000 in
set_option maxRecDepth 100000 in
theorem c_X1_becomeNoWords (l : Launch) (D : va_G) (cI cO cL : ClassId) (a ca ia : Nat → Nat) (n : Nat) (O : Nat → Option Nat) (I : Nat → Nat) (J : Nat → Int64) (F : Nat → Nat → Nat) (E : Nat → Nat → Int32) (K : Nat → Nat → Nat) (G0 : Nat → Nat → Int32) : Kv l yX1_becomeNoWords wsX1_becomeNoWords { frames := 0, cells := 0, slots := 0, locals := 0 } D (TY cI cO cL) [.ref (a 14)] (bW cI cO a ca ia n O I J F E K G0) (fun w => w = bW cI cO a ca ia n O (va_up (va_up (va_up (va_up I 9 0) 10 0) 11 0) 12 0) J F E K G0) := by
  refine Kv.mk (cc := cX1_becomeNoWords) (maxL := 1) (own := RX1) (by decide) rfl rfl (Nat.le_of_ble_eq_true rfl) ?_
  intro p e s m below meth c A Q ls C hname hA G hl RET
  obtain ⟨⟨hx, hb, hml, hown, hts⟩, hK, hN⟩ := id C
  have hl : lv_has ls 1 [(0, .ref (a 14))] := hl
  have hX1 : ∀ w ∈ u_ws RX1 TX1 5, w ∈ wsX1_becomeNoWords := by decide +kernel
  refine lv_aload_n hx hb dX1_becomeNoWords_0 rfl (lv_at hl 0 rfl) ?_
  refine lv_iconst (v := (nI (0))) hx hb dX1_becomeNoWords_1 (by decide) ?_
  refine r_put (ws' := bW cI cO a ca ia n O (va_up I 9 0) J F E K G0) C G hX1 tyX1_ok nmX1 14 rfl rfl 1 (by decide) (by decide +kernel) rfl rfl rfl (Nat.le_of_ble_eq_true rfl) dX1_becomeNoWords_2 rfl (fun H locs G => ?_)
  refine lv_aload_n hx hb dX1_becomeNoWords_5 rfl (lv_at hl 0 rfl) ?_
  refine lv_iconst (v := (nI (0))) hx hb dX1_becomeNoWords_6 (by decide) ?_
  refine r_put (ws' := bW cI cO a ca ia n O (va_up (va_up I 9 0) 10 0) J F E K G0) C G hX1 tyX1_ok nmX1 14 rfl rfl 2 (by decide) (by decide +kernel) rfl rfl rfl (Nat.le_of_ble_eq_true rfl) dX1_becomeNoWords_7 rfl (fun H locs G => ?_)
  refine lv_aload_n hx hb dX1_becomeNoWords_10 rfl (lv_at hl 0 rfl) ?_
  refine lv_iconst (v := (nI (0))) hx hb dX1_becomeNoWords_11 (by decide) ?_
  refine r_put (ws' := bW cI cO a ca ia n O (va_up (va_up (va_up I 9 0) 10 0) 11 0) J F E K G0) C G hX1 tyX1_ok nmX1 14 rfl rfl 3 (by decide) (by decide +kernel) rfl rfl rfl (Nat.le_of_ble_eq_true rfl) dX1_becomeNoWords_12 rfl (fun H locs G => ?_)
  refine lv_aload_n hx hb dX1_becomeNoWords_15 rfl (lv_at hl 0 rfl) ?_
  refine lv_iconst (v := (nI (0))) hx hb dX1_becomeNoWords_16 (by decide) ?_
  refine r_put (ws' := bW cI cO a ca ia n O (va_up (va_up (va_up (va_up I 9 0) 10 0) 11 0) 12 0) J F E K G0) C G hX1 tyX1_ok nmX1 14 rfl rfl 4 (by decide) (by decide +kernel) rfl rfl rfl (Nat.le_of_ble_eq_true rfl) dX1_becomeNoWords_17 rfl (fun H locs G => ?_)
  exact RET (bW cI cO a ca ia n O (va_up (va_up (va_up (va_up I 9 0) 10 0) 11 0) 12 0) J F E K G0) _ _ ls _ _ _ (rfl) G (by first | (simp only []; omega) | decide) (by first | (simp only []; omega) | decide) dX1_becomeNoWords_20
set_option maxHeartbeats 4000000 in
set_option maxRecDepth 100000 in
theorem c_X1_swapWithNext (l : Launch) (D : va_G) (cI cO cL : ClassId) (a ca ia : Nat → Nat) (n : Nat) (O : Nat → Option Nat) (I : Nat → Nat) (J : Nat → Int64) (F : Nat → Nat → Nat) (E : Nat → Nat → Int32) (K : Nat → Nat → Nat) (G0 : Nat → Nat → Int32) (k : Nat) (hlen : I 12 ≤ 1600) (hk : k + 1 < I 12) : Kv l yX1_swapWithNext wsX1_swapWithNext { frames := 2, cells := 0, slots := 0, locals := 43 } D (TY cI cO cL) [.ref (a 14), .int (nI (k))] (bW cI cO a ca ia n O I J F E K G0) (fun w => w = bW cI cO a ca ia n O I J F (va_up E 0 (upd (upd (E 0) k (E 0 (k + 1))) (k + 1) (E 0 k))) K G0) := by
  refine Kv.mk (cc := cX1_swapWithNext) (maxL := 3) (own := RX1) (by decide) rfl rfl (Nat.le_of_ble_eq_true rfl) ?_
  intro p e s m below meth c A Q ls C hname hA G hl RET
  obtain ⟨⟨hx, hb, hml, hown, hts⟩, hK, hN⟩ := id C
  have hl : lv_has ls 3 [(0, .ref (a 14)), (1, .int (nI (k)))] := hl
  refine lv_aload_n hx hb dX1_swapWithNext_0 rfl (lv_at hl 0 rfl) ?_
  refine lv_iload_n hx hb dX1_swapWithNext_1 rfl (lv_at hl 1 rfl) ?_
  refine r_ai G hA (r_rV (na := 1) (As := [.int (nI (k))]) (rest := []) C G (c_X1_item_A l D cI cO cL a ca ia n O I J F E K G0 k (by show I 12 ≤ 1600; omega) (by show k < I 12; omega)) gX1_swapWithNext_X1_item rfl (by decide +kernel) ⟨Nat.le_of_ble_eq_true rfl, Nat.le_of_ble_eq_true rfl⟩ 14 rfl rfl rfl hl.1 rfl (Nat.le_of_ble_eq_true rfl) dX1_swapWithNext_2 ⟨by first | (simp only []; omega) | decide, by first | (simp only []; omega) | decide⟩) (fun r2 w2 H locs hp2 G => ?_)
  obtain ⟨rfl, rfl⟩ := hp2
  refine r_top (y := (E 0) k) rfl ?_
  refine lv_istore_n (lv' := [(2, .int ((E 0) k)), (0, .ref (a 14)), (1, .int (nI (k)))]) hx hb dX1_swapWithNext_5 rfl hl (by decide) rfl (fun ls hl => ?_)
  refine lv_aload_n hx hb dX1_swapWithNext_6 rfl (lv_at hl 1 rfl) ?_
  refine lv_iload_n hx hb dX1_swapWithNext_7 rfl (lv_at hl 2 rfl) ?_
  refine lv_aload_n hx hb dX1_swapWithNext_8 rfl (lv_at hl 1 rfl) ?_
  refine lv_iload_n hx hb dX1_swapWithNext_9 rfl (lv_at hl 2 rfl) ?_
  refine lv_iconst (v := (nI (1))) hx hb dX1_swapWithNext_10 (by decide) ?_
  refine r_iadd hx hb dX1_swapWithNext_11 ?_
  refine r_ai G hA (r_rV (na := 1) (As := [.int (nI (k + 1))]) (rest := [.int (nI (k)), .ref (a 14)]) C G (c_X1_item_A l D cI cO cL a ca ia n O I J F E K G0 (k + 1) (by show I 12 ≤ 1600; omega) (by show k + 1 < I 12; omega)) gX1_swapWithNext_X1_item rfl (by decide +kernel) ⟨Nat.le_of_ble_eq_true rfl, Nat.le_of_ble_eq_true rfl⟩ 14 rfl rfl rfl hl.1 rfl (Nat.le_of_ble_eq_true rfl) dX1_swapWithNext_12 ⟨by first | (simp only []; omega) | decide, by first | (simp only []; omega) | decide⟩) (fun r12 w12 H locs hp12 G => ?_)
  obtain ⟨rfl, rfl⟩ := hp12
  refine r_top (y := (E 0) (k + 1)) rfl ?_
  refine r_av G hA (r_rV (na := 2) (As := [.int (nI (k)), .int ((E 0) (k + 1))]) (rest := []) C G (c_X1_put_A l D cI cO cL a ca ia n O I J F E K G0 k ((E 0) (k + 1)) (by show I 12 ≤ 1600; omega) (by show k < I 12; omega)) gX1_swapWithNext_X1_put rfl (by decide +kernel) ⟨Nat.le_of_ble_eq_true rfl, Nat.le_of_ble_eq_true rfl⟩ 14 rfl rfl rfl hl.1 rfl (Nat.le_of_ble_eq_true rfl) dX1_swapWithNext_15 ⟨by first | (simp only []; omega) | decide, by first | (simp only []; omega) | decide⟩) (fun w15 H locs hp15 G => ?_)
  obtain ⟨rfl⟩ := hp15
  refine lv_aload_n hx hb dX1_swapWithNext_18 rfl (lv_at hl 1 rfl) ?_
  refine lv_iload_n hx hb dX1_swapWithNext_19 rfl (lv_at hl 2 rfl) ?_
  refine lv_iconst (v := (nI (1))) hx hb dX1_swapWithNext_20 (by decide) ?_
  refine r_iadd hx hb dX1_swapWithNext_21 ?_
  refine lv_iload_n hx hb dX1_swapWithNext_22 rfl (lv_at hl 0 rfl) ?_
  refine r_av G hA (r_rV (na := 2) (As := [.int (nI (k + 1)), .int ((E 0) k)]) (rest := []) C G (c_X1_put_A l D cI cO cL a ca ia n O I J F (va_up E 0 (upd (E 0) k ((E 0) (k + 1)))) K G0 (k + 1) ((E 0) k) (by show I 12 ≤ 1600; omega) (by show k + 1 < I 12; omega)) gX1_swapWithNext_X1_put rfl (by decide +kernel) ⟨Nat.le_of_ble_eq_true rfl, Nat.le_of_ble_eq_true rfl⟩ 14 rfl rfl rfl hl.1 rfl (Nat.le_of_ble_eq_true rfl) dX1_swapWithNext_23 ⟨by first | (simp only []; omega) | decide, by first | (simp only []; omega) | decide⟩) (fun w23 H locs hp23 G => ?_)
  obtain ⟨rfl⟩ := hp23
  exact RET (bW cI cO a ca ia n O I J F (va_up E 0 (upd (upd (E 0) k ((E 0) (k + 1))) (k + 1) ((E 0) k))) K G0) _ _ ls _ _ _ (rfl) G (by first | (simp only []; omega) | decide) (by first | (simp only []; omega) | decide) dX1_swapWithNext_26
set_option maxHeartbeats 4000000 in
set_option maxRecDepth 100000 in
theorem c_X1_isLike (l : Launch) (D : va_G) (cI cO cL : ClassId) (a ca ia : Nat → Nat) (n : Nat) (O : Nat → Option Nat) (I : Nat → Nat) (J : Nat → Int64) (F : Nat → Nat → Nat) (E : Nat → Nat → Int32) (K : Nat → Nat → Nat) (G0 : Nat → Nat → Int32) (r : Nat) (hr : r < n) (hlen : K 3 r ≤ K 4 r) (hroom : K 4 r ≤ 1600) (h9 : I 9 ≤ 2) (h10 : I 10 ≤ 40) (h11 : I 11 ≤ 40) (h12 : I 12 ≤ 1600) (hk0 : K 0 r ≤ 2) (hk1 : K 1 r ≤ 40) (hk2 : K 2 r ≤ 40) : Ki l yX1_isLike wsX1_isLike { frames := 2, cells := 0, slots := 0, locals := 42 } D (TY cI cO cL) [.ref (ca r), .ref (a 14)] (bW cI cO a ca ia n O I J F E K G0) (fun rr w => (rr = 1 ∧ w = bW cI cO a ca ia n O I J F E K G0 ∧ (K 0 r = I 9 ∧ K 1 r = I 10 ∧ K 2 r = I 11 ∧ K 3 r = I 12 ∧ ∀ k, k < K 3 r → G0 r k = E 0 k)) ∨ (rr = 0 ∧ w = bW cI cO a ca ia n O I J F E K G0 ∧ ¬ (K 0 r = I 9 ∧ K 1 r = I 10 ∧ K 2 r = I 11 ∧ K 3 r = I 12 ∧ ∀ k, k < K 3 r → G0 r k = E 0 k))) := by
  refine Ki.mk (cc := cX1_isLike) (maxL := 3) (rt := .boolean) (own := RX1) (by decide) rfl rfl (Nat.le_of_ble_eq_true rfl) ?_
  intro p e s m below meth c A Q ls C hname hA G hl RET
  obtain ⟨⟨hx, hb, hml, hown, hts⟩, hK, hN⟩ := id C
  have hl : lv_has ls 3 [(0, .ref (ca r)), (1, .ref (a 14))] := hl
  have hX1 : ∀ w ∈ u_ws RX1 TX1 5, w ∈ wsX1_isLike := by decide +kernel
  refine lv_aload_n hx hb dX1_isLike_0 rfl (lv_at hl 0 rfl) ?_
  refine r_get (v := .int (nI ((K 0) r))) C G hX1 (16 + 2 * r) (bW_c (by omega)) rfl 1 (by decide) (by decide +kernel) rfl dX1_isLike_1 ?_
  refine lv_aload_n hx hb dX1_isLike_4 rfl (lv_at hl 1 rfl) ?_
  refine r_get (v := .int (nI (I 9))) C G hX1 14 rfl rfl 1 (by decide) (by decide +kernel) rfl dX1_isLike_5 ?_
  refine lv_icmp_ne (tgt := 44) hx hb dX1_isLike_8 (by decide) (fun c8 => ?_) (fun c8 => ?_)
  · skip
    replace c8 : ¬ (((K 0) r : Nat) : Int) = ((I 9 : Nat) : Int) := fun h => c8 ((cv_eq (nI_toInt (by omega)) (nI_toInt (by omega))).mpr h)
    refine lv_iconst (v := (nI (0))) hx hb dX1_isLike_44 (by decide) ?_
    exact RET (nI (0)) (bW cI cO a ca ia n O I J F E K G0) _ _ ls _ _ _ (Or.inr ⟨rfl, rfl, fun h => by omega⟩) G (by first | (simp only []; omega) | decide) (by first | (simp only []; omega) | decide) rfl dX1_isLike_45
  · skip
    replace c8 : (((K 0) r : Nat) : Int) = ((I 9 : Nat) : Int) := (cv_eq (nI_toInt (by omega)) (nI_toInt (by omega))).mp c8
    refine lv_aload_n hx hb dX1_isLike_11 rfl (lv_at hl 0 rfl) ?_
    refine r_get (v := .int (nI ((K 1) r))) C G hX1 (16 + 2 * r) (bW_c (by omega)) rfl 2 (by decide) (by decide +kernel) rfl dX1_isLike_12 ?_
    refine lv_aload_n hx hb dX1_isLike_15 rfl (lv_at hl 1 rfl) ?_
    refine r_get (v := .int (nI (I 10))) C G hX1 14 rfl rfl 2 (by decide) (by decide +kernel) rfl dX1_isLike_16 ?_
    refine lv_icmp_ne (tgt := 44) hx hb dX1_isLike_19 (by decide) (fun c19 => ?_) (fun c19 => ?_)
    · skip
      replace c19 : ¬ (((K 1) r : Nat) : Int) = ((I 10 : Nat) : Int) := fun h => c19 ((cv_eq (nI_toInt (by omega)) (nI_toInt (by omega))).mpr h)
      refine lv_iconst (v := (nI (0))) hx hb dX1_isLike_44 (by decide) ?_
      exact RET (nI (0)) (bW cI cO a ca ia n O I J F E K G0) _ _ ls _ _ _ (Or.inr ⟨rfl, rfl, fun h => by omega⟩) G (by first | (simp only []; omega) | decide) (by first | (simp only []; omega) | decide) rfl dX1_isLike_45
    · skip
      replace c19 : (((K 1) r : Nat) : Int) = ((I 10 : Nat) : Int) := (cv_eq (nI_toInt (by omega)) (nI_toInt (by omega))).mp c19
      refine lv_aload_n hx hb dX1_isLike_22 rfl (lv_at hl 0 rfl) ?_
      refine r_get (v := .int (nI ((K 2) r))) C G hX1 (16 + 2 * r) (bW_c (by omega)) rfl 3 (by decide) (by decide +kernel) rfl dX1_isLike_23 ?_
      refine lv_aload_n hx hb dX1_isLike_26 rfl (lv_at hl 1 rfl) ?_
      refine r_get (v := .int (nI (I 11))) C G hX1 14 rfl rfl 3 (by decide) (by decide +kernel) rfl dX1_isLike_27 ?_
      refine lv_icmp_ne (tgt := 44) hx hb dX1_isLike_30 (by decide) (fun c30 => ?_) (fun c30 => ?_)
      · skip
        replace c30 : ¬ (((K 2) r : Nat) : Int) = ((I 11 : Nat) : Int) := fun h => c30 ((cv_eq (nI_toInt (by omega)) (nI_toInt (by omega))).mpr h)
        refine lv_iconst (v := (nI (0))) hx hb dX1_isLike_44 (by decide) ?_
        exact RET (nI (0)) (bW cI cO a ca ia n O I J F E K G0) _ _ ls _ _ _ (Or.inr ⟨rfl, rfl, fun h => by omega⟩) G (by first | (simp only []; omega) | decide) (by first | (simp only []; omega) | decide) rfl dX1_isLike_45
      · skip
        replace c30 : (((K 2) r : Nat) : Int) = ((I 11 : Nat) : Int) := (cv_eq (nI_toInt (by omega)) (nI_toInt (by omega))).mp c30
        refine lv_aload_n hx hb dX1_isLike_33 rfl (lv_at hl 0 rfl) ?_
        refine r_get (v := .int (nI ((K 3) r))) C G hX1 (16 + 2 * r) (bW_c (by omega)) rfl 4 (by decide) (by decide +kernel) rfl dX1_isLike_34 ?_
        refine lv_aload_n hx hb dX1_isLike_37 rfl (lv_at hl 1 rfl) ?_
        refine r_get (v := .int (nI (I 12))) C G hX1 14 rfl rfl 4 (by decide) (by decide +kernel) rfl dX1_isLike_38 ?_
        refine lv_icmp_eq (tgt := 46) hx hb dX1_isLike_41 (by decide) (fun c41 => ?_) (fun c41 => ?_)
        · skip
          replace c41 : (((K 3) r : Nat) : Int) = ((I 12 : Nat) : Int) := (cv_eq (nI_toInt (by omega)) (nI_toInt (by omega))).mp c41
          refine lv_iconst (v := (nI (0))) hx hb dX1_isLike_46 (by decide) ?_
          refine lv_istore_n (lv' := [(2, .int (nI (0))), (0, .ref (ca r)), (1, .ref (a 14))]) hx hb dX1_isLike_47 rfl hl (by decide) rfl (fun ls hl => ?_)
          have lp48 : ∀ (fuel48 : Nat) (k : Nat) (hm : K 3 r - k < fuel48) (hk : k ≤ K 3 r) (hall : ∀ i, i < k → G0 r i = E 0 i) (H : Heap) (locs : List Loc) (ls : Array Slot), Wd A s.heap D (bW cI cO a ca ia n O I J F E K G0) H locs → lv_has ls 3 [(0, .ref (ca r)), (1, .ref (a 14)), (2, .int (nI (k)))] → W p l e ({ frames := 2, cells := 0, slots := 0, locals := 42 } : Room) s m ([.ref (ca r), .ref (a 14)] : List Value).toArray below meth c H locs 0 0 Q (F0 m 48 ls []) := by
            intro fuel48
            induction fuel48 with
            | zero => intro k hm hk hall; exact absurd hm (by omega)
            | succ fuel48 ih48 =>
              intro k hm hk hall H locs ls G hl
              refine lv_iload_n hx hb dX1_isLike_48 rfl (lv_at hl 2 rfl) ?_
              refine lv_aload_n hx hb dX1_isLike_49 rfl (lv_at hl 0 rfl) ?_
              refine r_get (v := .int (nI ((K 3) r))) C G hX1 (16 + 2 * r) (bW_c (by omega)) rfl 4 (by decide) (by decide +kernel) rfl dX1_isLike_50 ?_
              refine lv_icmp_ge (tgt := 77) hx hb dX1_isLike_53 (by decide) (fun c53 => ?_) (fun c53 => ?_)
              · skip
                replace c53 : (((K 3) r : Nat) : Int) ≤ ((k : Nat) : Int) := (cv_le (nI_toInt (by omega)) (nI_toInt (by omega))).mp c53
                refine lv_iconst (v := (nI (1))) hx hb dX1_isLike_77 (by decide) ?_
                exact RET (nI (1)) (bW cI cO a ca ia n O I J F E K G0) _ _ ls _ _ _ (Or.inl ⟨rfl, rfl, by omega, by omega, by omega, by omega, fun i hi => hall i (by omega)⟩) G (by first | (simp only []; omega) | decide) (by first | (simp only []; omega) | decide) rfl dX1_isLike_78
              · skip
                replace c53 : ((k : Nat) : Int) < (((K 3) r : Nat) : Int) := Int.not_le.mp (fun h => c53 ((cv_le (nI_toInt (by omega)) (nI_toInt (by omega))).mpr h))
                refine lv_aload_n hx hb dX1_isLike_56 rfl (lv_at hl 0 rfl) ?_
                refine lv_iload_n hx hb dX1_isLike_57 rfl (lv_at hl 2 rfl) ?_
                refine r_ai G hA (r_rV (na := 1) (As := [.int (nI (k))]) (rest := []) C G (c_X1_item_R l D cI cO cL a ca ia n O I J F E K G0 r (by omega) k (by show (K 3) r ≤ (K 4) r; omega) (by omega) (by show k < (K 3) r; omega)) gX1_isLike_X1_item rfl (by decide +kernel) ⟨Nat.le_of_ble_eq_true rfl, Nat.le_of_ble_eq_true rfl⟩ (16 + 2 * r) (bW_c (by omega)) rfl rfl hl.1 rfl (Nat.le_of_ble_eq_true rfl) dX1_isLike_58 ⟨by first | (simp only []; omega) | decide, by first | (simp only []; omega) | decide⟩) (fun r58 w58 H locs hp58 G => ?_)
                obtain ⟨rfl, rfl⟩ := hp58
                refine r_top (y := (G0 r) k) rfl ?_
                refine lv_aload_n hx hb dX1_isLike_61 rfl (lv_at hl 1 rfl) ?_
                refine lv_iload_n hx hb dX1_isLike_62 rfl (lv_at hl 2 rfl) ?_
                refine r_ai G hA (r_rV (na := 1) (As := [.int (nI (k))]) (rest := [.int ((G0 r) k)]) C G (c_X1_item_A l D cI cO cL a ca ia n O I J F E K G0 k (by show I 12 ≤ 1600; omega) (by show k < I 12; omega)) gX1_isLike_X1_item rfl (by decide +kernel) ⟨Nat.le_of_ble_eq_true rfl, Nat.le_of_ble_eq_true rfl⟩ 14 rfl rfl rfl hl.1 rfl (Nat.le_of_ble_eq_true rfl) dX1_isLike_63 ⟨by first | (simp only []; omega) | decide, by first | (simp only []; omega) | decide⟩) (fun r63 w63 H locs hp63 G => ?_)
                obtain ⟨rfl, rfl⟩ := hp63
                refine r_top (y := (E 0) k) rfl ?_
                refine lv_icmp_eq (tgt := 71) hx hb dX1_isLike_66 (by decide) (fun c66 => ?_) (fun c66 => ?_)
                · skip
                  replace c66 : ((G0 r) k).toInt = ((E 0) k).toInt := (cv_eq rfl rfl).mp c66
                  refine lv_iinc (v := nI (k + 1)) (lv' := [(2, .int (nI (k + 1))), (0, .ref (ca r)), (1, .ref (a 14))]) hx hb dX1_isLike_71 hl (k := 2) rfl (inc_n _ 1) (by decide) rfl (fun ls hl => ?_)
                  refine lv_goto (tgt := 48) hx hb dX1_isLike_74 (by decide) ?_
                  exact ih48 (k + 1) (by omega) (by omega) (fun i hi => by rcases Nat.lt_or_ge i k with q | q; exact hall i q; obtain rfl : i = k := (by omega); exact Int32.toInt_inj.mp c66) _ _ _ (G.eq (rfl)) (lv_sub hl [1, 2, 0] rfl)
                · skip
                  replace c66 : ¬ ((G0 r) k).toInt = ((E 0) k).toInt := fun h => c66 ((cv_eq rfl rfl).mpr h)
                  refine lv_iconst (v := (nI (0))) hx hb dX1_isLike_69 (by decide) ?_
                  exact RET (nI (0)) (bW cI cO a ca ia n O I J F E K G0) _ _ ls _ _ _ (Or.inr ⟨rfl, rfl, fun h => c66 (congrArg Int32.toInt (h.2.2.2.2 k (by omega)))⟩) G (by first | (simp only []; omega) | decide) (by first | (simp only []; omega) | decide) rfl dX1_isLike_70
          exact lp48 (K 3 r + 1) 0 (by omega) (by omega) (fun i hi => by omega) _ _ _ (G.eq (rfl)) (lv_sub hl [1, 2, 0] rfl)
        · skip
          replace c41 : ¬ (((K 3) r : Nat) : Int) = ((I 12 : Nat) : Int) := fun h => c41 ((cv_eq (nI_toInt (by omega)) (nI_toInt (by omega))).mpr h)
          refine lv_iconst (v := (nI (0))) hx hb dX1_isLike_44 (by decide) ?_
          exact RET (nI (0)) (bW cI cO a ca ia n O I J F E K G0) _ _ ls _ _ _ (Or.inr ⟨rfl, rfl, fun h => by omega⟩) G (by first | (simp only []; omega) | decide) (by first | (simp only []; omega) | decide) rfl dX1_isLike_45
