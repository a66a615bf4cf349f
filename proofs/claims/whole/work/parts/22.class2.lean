set_option maxHeartbeats 4000000 in
set_option maxRecDepth 100000 in
theorem c_X6_word (l : Launch) (D : va_G) (cI cO cL : ClassId) (a ca ia : Nat → Nat) (n : Nat) (O : Nat → Option Nat) (I : Nat → Nat) (J : Nat → Int64) (F : Nat → Nat → Nat) (E : Nat → Nat → Int32) (K : Nat → Nat → Nat) (G0 : Nat → Nat → Int32) (x v : Int32) (hn : I 3 ≤ 60) (hO : ∀ j, j < I 3 → O j = some (ca j)) (hin : I 3 ≤ n) (hRm : ∀ j, j < I 3 → K 3 j ≤ K 4 j ∧ K 4 j ≤ 1600) (hK0 : ∀ j, j < I 3 → K 0 j ≤ 2 ∧ K 1 j ≤ 40 ∧ K 2 j ≤ 40) (hR4 : ∀ j, j < I 3 → K 0 j = 0 → K 4 j = 40) : Ki l yX6_word wsX6_word { frames := 2, cells := 0, slots := 0, locals := 42 } D (TY cI cO cL) [.ref (a 0), .int (x), .int (v)] (bW cI cO a ca ia n O I J F E K G0) (fun r w => (¬ (0 ≤ x.toInt ∧ x.toInt < I 3) ∧ r = -1 ∧ w = bW cI cO a ca ia n O I J F E K G0) ∨ ((0 ≤ x.toInt ∧ x.toInt < I 3) ∧ K 0 (tn x) ≠ 0 ∧ r = -1 ∧ w = bW cI cO a ca ia n O I J F E K G0) ∨ ((0 ≤ x.toInt ∧ x.toInt < I 3) ∧ K 0 (tn x) = 0 ∧ 40 ≤ K 3 (tn x) ∧ r = -2 ∧ w = bW cI cO a ca ia n O I J F E K G0) ∨ ((0 ≤ x.toInt ∧ x.toInt < I 3) ∧ K 0 (tn x) = 0 ∧ K 3 (tn x) < 40 ∧ r = nI (K 3 (tn x) + 1) ∧ w = bW cI cO a ca ia n O I J F E (va_up K 3 (va_up (K 3) (tn x) (K 3 (tn x) + 1))) (va_up G0 (tn x) (upd (G0 (tn x)) (K 3 (tn x)) v)))) := by
  refine Ki.mk (cc := cX6_word) (maxL := 4) (rt := .int) (own := RX6) (by decide) rfl rfl (Nat.le_of_ble_eq_true rfl) ?_
  intro p e s m below meth c A Q ls C hname hA G hl RET
  obtain ⟨⟨hx, hb, hml, hown, hts⟩, hK, hN⟩ := id C
  have hl : lv_has ls 4 [(0, .ref (a 0)), (1, .int (x)), (2, .int (v))] := hl
  have hX1 : ∀ w ∈ u_ws RX1 TX1 5, w ∈ wsX6_word := by decide +kernel
  have hX6 : ∀ w ∈ u_ws RX6 TX6 8, w ∈ wsX6_word := by decide +kernel
  refine lv_aload_n hx hb dX6_word_0 rfl (lv_at hl 0 rfl) ?_
  refine r_get (v := .ref (a 1)) C G hX6 0 rfl rfl 0 (by decide) (by decide +kernel) rfl dX6_word_1 ?_
  refine lv_iload_n hx hb dX6_word_4 rfl (lv_at hl 1 rfl) ?_
  refine r_aq G hA (r_rV (na := 1) (As := [.int (x)]) (rest := []) C G (c_X4_find l D cI cO cL a ca ia n O I J F E K G0 x hn hO) gX6_word_X4_find rfl (by decide +kernel) ⟨Nat.le_of_ble_eq_true rfl, Nat.le_of_ble_eq_true rfl⟩ 1 rfl rfl rfl hl.1 rfl (Nat.le_of_ble_eq_true rfl) dX6_word_5 ⟨by first | (simp only []; omega) | decide, by first | (simp only []; omega) | decide⟩) (fun r5 w5 H locs hp5 G => ?_)
  rcases hp5 with ⟨rfl, rfl, hi5⟩ | ⟨rfl, rfl, hi5⟩
  · skip
    refine r_st (st' := [.ref (ca (tn x))]) rfl ?_
    obtain ⟨x1, hx1, ex1, rfl⟩ := nat_of (x := x) (by omega)
    rw [tn_nI hx1]
    have hRx := hRm x1 (by omega)
    have hKx := hK0 x1 (by omega)
    refine lv_astore_n (lv' := [(3, .ref (ca x1)), (0, .ref (a 0)), (1, .int (nI (x1))), (2, .int (v))]) hx hb dX6_word_8 rfl hl (by decide) rfl (fun ls hl => ?_)
    refine lv_aload_n hx hb dX6_word_9 rfl (lv_at hl 0 rfl) ?_
    refine lv_ifnull hx hb dX6_word_10 ?_
    refine lv_aload_n hx hb dX6_word_13 rfl (lv_at hl 0 rfl) ?_
    refine r_getN (v := .int (nI ((K 0) x1))) C G hX1 (16 + 2 * x1) (bW_c (by omega)) rfl 1 (by decide) (by decide +kernel) rfl dX6_word_14 ?_
    refine lv_if_eq (tgt := 22) hx hb dX6_word_17 (by decide) (fun c17 => ?_) (fun c17 => ?_)
    · skip
      replace c17 : (((K 0) x1 : Nat) : Int) = (0) := (cv_eq (nI_toInt (by omega)) (by decide)).mp c17
      refine lv_aload_n hx hb dX6_word_22 rfl (lv_at hl 0 rfl) ?_
      refine r_getN (v := .int (nI ((K 3) x1))) C G hX1 (16 + 2 * x1) (bW_c (by omega)) rfl 4 (by decide) (by decide +kernel) rfl dX6_word_23 ?_
      refine lv_bipush (v := (nI (40))) hx hb dX6_word_26 (by decide) ?_
      refine lv_icmp_lt (tgt := 34) hx hb dX6_word_28 (by decide) (fun c28 => ?_) (fun c28 => ?_)
      · skip
        replace c28 : (((K 3) x1 : Nat) : Int) < ((40 : Nat) : Int) := (cv_lt (nI_toInt (by omega)) (nI_toInt (by omega))).mp c28
        have hR4x := hR4 x1 (by omega) (by omega)
        refine lv_aload_n hx hb dX6_word_34 rfl (lv_at hl 0 rfl) ?_
        refine lv_iload_n hx hb dX6_word_35 rfl (lv_at hl 3 rfl) ?_
        refine r_av G hA (r_rV (na := 1) (As := [.int (v)]) (rest := []) C G (c_X1_append_R l D cI cO cL a ca ia n O I J F E K G0 x1 (by omega) v (by show (K 3) x1 ≤ (K 4) x1; omega) (by omega) (by show (K 3) x1 < (K 4) x1; omega)) gX6_word_X1_append rfl (by decide +kernel) ⟨Nat.le_of_ble_eq_true rfl, Nat.le_of_ble_eq_true rfl⟩ (16 + 2 * x1) (bW_c (by omega)) rfl rfl hl.1 rfl (Nat.le_of_ble_eq_true rfl) dX6_word_36 ⟨by first | (simp only []; omega) | decide, by first | (simp only []; omega) | decide⟩) (fun w36 H locs hp36 G => ?_)
        obtain ⟨rfl⟩ := hp36
        refine lv_aload_n hx hb dX6_word_39 rfl (lv_at hl 0 rfl) ?_
        refine r_getN (v := .int (nI ((va_up (K 3) x1 ((K 3) x1 + 1)) x1))) C G hX1 (16 + 2 * x1) (bW_c (by omega)) rfl 4 (by decide) (by decide +kernel) rfl dX6_word_40 ?_
        exact RET (nI ((va_up (K 3) x1 ((K 3) x1 + 1)) x1)) (bW cI cO a ca ia n O I J F E (va_up K 3 (va_up (K 3) x1 ((K 3) x1 + 1))) (va_up G0 x1 (upd (G0 x1) ((K 3) x1) v))) _ _ ls _ _ _ (by rw [tn_nI hx1]; exact Or.inr (Or.inr (Or.inr (⟨by omega, by omega, by omega, by rw [up_same], rfl⟩)))) G (by first | (simp only []; omega) | decide) (by first | (simp only []; omega) | decide) rfl dX6_word_43
      · skip
        replace c28 : ((40 : Nat) : Int) ≤ (((K 3) x1 : Nat) : Int) := Int.not_lt.mp (fun h => c28 ((cv_lt (nI_toInt (by omega)) (nI_toInt (by omega))).mpr h))
        refine lv_bipush (v := ((-2))) hx hb dX6_word_31 (by decide) ?_
        exact RET ((-2)) (bW cI cO a ca ia n O I J F E K G0) _ _ ls _ _ _ (by rw [tn_nI hx1]; exact Or.inr (Or.inr (Or.inl (⟨by omega, by omega, by omega, rfl, rfl⟩)))) G (by first | (simp only []; omega) | decide) (by first | (simp only []; omega) | decide) rfl dX6_word_33
    · skip
      replace c17 : ¬ (((K 0) x1 : Nat) : Int) = (0) := fun h => c17 ((cv_eq (nI_toInt (by omega)) (by decide)).mpr h)
      refine lv_iconst (v := ((-1))) hx hb dX6_word_20 (by decide) ?_
      exact RET ((-1)) (bW cI cO a ca ia n O I J F E K G0) _ _ ls _ _ _ (by rw [tn_nI hx1]; exact Or.inr (Or.inl (⟨by omega, by omega, rfl, rfl⟩))) G (by first | (simp only []; omega) | decide) (by first | (simp only []; omega) | decide) rfl dX6_word_21
  · skip
    refine r_st (st' := [.null]) rfl ?_
    refine lv_astore_nN (lv' := [(3, .null), (0, .ref (a 0)), (1, .int (x)), (2, .int (v))]) hx hb dX6_word_8 rfl hl (by decide) rfl (fun ls hl => ?_)
    refine lv_aload_nN hx hb dX6_word_9 rfl (lv_at hl 0 rfl) ?_
    refine lv_ifnullN (tgt := 20) hx hb dX6_word_10 (by decide) ?_
    refine lv_iconst (v := ((-1))) hx hb dX6_word_20 (by decide) ?_
    exact RET ((-1)) (bW cI cO a ca ia n O I J F E K G0) _ _ ls _ _ _ (Or.inl (⟨by omega, rfl, rfl⟩)) G (by first | (simp only []; omega) | decide) (by first | (simp only []; omega) | decide) rfl dX6_word_21
theorem up_id {α : Type} (f : Nat → α) (k : Nat) : va_up f k (f k) = f := by
  funext i; unfold va_up; by_cases h : i = k
  · rw [if_pos h, h]
  · rw [if_neg h]
theorem pb_c (z : Int64) : z.toInt32 &&& nI 255 = (z &&& 255).toInt32 := by
  apply Int32.toBitVec_inj.mp
  show (z.toBitVec.signExtend 32) &&& (nI 255).toBitVec = (z.toBitVec &&& (255 : Int64).toBitVec).signExtend 32
  have e1 : (nI 255).toBitVec = 255#32 := by decide
  have e2 : (255 : Int64).toBitVec = 255#64 := by decide
  rw [e1, e2]
  generalize z.toBitVec = q
  rw [BitVec.signExtend_eq_setWidth_of_le _ (by decide), BitVec.signExtend_eq_setWidth_of_le _ (by decide), BitVec.setWidth_and]
  rfl
set_option maxHeartbeats 4000000 in
set_option maxRecDepth 100000 in
theorem c_X6_paint (l : Launch) (D : va_G) (cI cO cL : ClassId) (a ca ia : Nat → Nat) (n : Nat) (O : Nat → Option Nat) (I : Nat → Nat) (J : Nat → Int64) (F : Nat → Nat → Nat) (E : Nat → Nat → Int32) (K : Nat → Nat → Nat) (G0 : Nat → Nat → Int32) (x y : Int32) (v : Int64) (hn : I 3 ≤ 60) (hO : ∀ j, j < I 3 → O j = some (ca j)) (hin : I 3 ≤ n) (hRm : ∀ j, j < I 3 → K 3 j ≤ K 4 j ∧ K 4 j ≤ 1600) (hK0 : ∀ j, j < I 3 → K 0 j ≤ 2 ∧ K 1 j ≤ 40 ∧ K 2 j ≤ 40) : Ki l yX6_paint wsX6_paint { frames := 2, cells := 0, slots := 0, locals := 43 } D (TY cI cO cL) [.ref (a 0), .int (x), .int (y), .long (v)] (bW cI cO a ca ia n O I J F E K G0) (fun r w => (¬ (0 ≤ x.toInt ∧ x.toInt < I 3) ∧ r = -1 ∧ w = bW cI cO a ca ia n O I J F E K G0) ∨ ((0 ≤ x.toInt ∧ x.toInt < I 3) ∧ K 0 (tn x) ≠ 1 ∧ r = -1 ∧ w = bW cI cO a ca ia n O I J F E K G0) ∨ ((0 ≤ x.toInt ∧ x.toInt < I 3) ∧ K 0 (tn x) = 1 ∧ ¬ (0 ≤ y.toInt ∧ y.toInt < K 3 (tn x)) ∧ r = -1 ∧ w = bW cI cO a ca ia n O I J F E K G0) ∨ ((0 ≤ x.toInt ∧ x.toInt < I 3) ∧ K 0 (tn x) = 1 ∧ (0 ≤ y.toInt ∧ y.toInt < K 3 (tn x)) ∧ r = 1 ∧ w = bW cI cO a ca ia n O I J F E K (va_up G0 (tn x) (pnt (tn y) v (min 8 (K 3 (tn x) - tn y)) (G0 (tn x)))))) := by
  refine Ki.mk (cc := cX6_paint) (maxL := 8) (rt := .int) (own := RX6) (by decide) rfl rfl (Nat.le_of_ble_eq_true rfl) ?_
  intro p e s m below meth c A Q ls C hname hA G hl RET
  obtain ⟨⟨hx, hb, hml, hown, hts⟩, hK, hN⟩ := id C
  have hl : lv_has ls 8 [(0, .ref (a 0)), (1, .int (x)), (2, .int (y)), (3, .long (v))] := hl
  have hX1 : ∀ w ∈ u_ws RX1 TX1 5, w ∈ wsX6_paint := by decide +kernel
  have hX6 : ∀ w ∈ u_ws RX6 TX6 8, w ∈ wsX6_paint := by decide +kernel
  refine lv_aload_n hx hb dX6_paint_0 rfl (lv_at hl 0 rfl) ?_
  refine r_get (v := .ref (a 1)) C G hX6 0 rfl rfl 0 (by decide) (by decide +kernel) rfl dX6_paint_1 ?_
  refine lv_iload_n hx hb dX6_paint_4 rfl (lv_at hl 1 rfl) ?_
  refine r_aq G hA (r_rV (na := 1) (As := [.int (x)]) (rest := []) C G (c_X4_find l D cI cO cL a ca ia n O I J F E K G0 x hn hO) gX6_paint_X4_find rfl (by decide +kernel) ⟨Nat.le_of_ble_eq_true rfl, Nat.le_of_ble_eq_true rfl⟩ 1 rfl rfl rfl hl.1 rfl (Nat.le_of_ble_eq_true rfl) dX6_paint_5 ⟨by first | (simp only []; omega) | decide, by first | (simp only []; omega) | decide⟩) (fun r5 w5 H locs hp5 G => ?_)
  rcases hp5 with ⟨rfl, rfl, hi5⟩ | ⟨rfl, rfl, hi5⟩
  · skip
    refine r_st (st' := [.ref (ca (tn x))]) rfl ?_
    obtain ⟨x1, hx1, ex1, rfl⟩ := nat_of (x := x) (by omega)
    rw [tn_nI hx1]
    have hRx := hRm x1 (by omega)
    have hKx := hK0 x1 (by omega)
    refine lv_astore (lv' := [(5, .ref (ca x1)), (0, .ref (a 0)), (1, .int (nI (x1))), (2, .int (y)), (3, .long (v))]) hx hb dX6_paint_8 hl (by decide) rfl (fun ls hl => ?_)
    refine lv_aload hx hb dX6_paint_10 (lv_at hl 0 rfl) ?_
    refine lv_ifnull hx hb dX6_paint_12 ?_
    refine lv_aload hx hb dX6_paint_15 (lv_at hl 0 rfl) ?_
    refine r_getN (v := .int (nI ((K 0) x1))) C G hX1 (16 + 2 * x1) (bW_c (by omega)) rfl 1 (by decide) (by decide +kernel) rfl dX6_paint_17 ?_
    refine lv_iconst (v := (nI (1))) hx hb dX6_paint_20 (by decide) ?_
    refine lv_icmp_ne (tgt := 33) hx hb dX6_paint_21 (by decide) (fun c21 => ?_) (fun c21 => ?_)
    · skip
      replace c21 : ¬ (((K 0) x1 : Nat) : Int) = ((1 : Nat) : Int) := fun h => c21 ((cv_eq (nI_toInt (by omega)) (nI_toInt (by omega))).mpr h)
      refine lv_iconst (v := ((-1))) hx hb dX6_paint_33 (by decide) ?_
      exact RET ((-1)) (bW cI cO a ca ia n O I J F E K G0) _ _ ls _ _ _ (by rw [tn_nI hx1]; exact Or.inr (Or.inl (⟨by omega, by omega, rfl, rfl⟩))) G (by first | (simp only []; omega) | decide) (by first | (simp only []; omega) | decide) rfl dX6_paint_34
    · skip
      replace c21 : (((K 0) x1 : Nat) : Int) = ((1 : Nat) : Int) := (cv_eq (nI_toInt (by omega)) (nI_toInt (by omega))).mp c21
      refine lv_aload hx hb dX6_paint_24 (lv_at hl 0 rfl) ?_
      refine lv_iload_n hx hb dX6_paint_26 rfl (lv_at hl 3 rfl) ?_
      refine r_ai G hA (r_rV (na := 1) (As := [.int (y)]) (rest := []) C G (c_X1_holds_R l D cI cO cL a ca ia n O I J F E K G0 x1 (by omega) y (by show (K 3) x1 ≤ (K 4) x1; omega) (by omega)) gX6_paint_X1_holds rfl (by decide +kernel) ⟨Nat.le_of_ble_eq_true rfl, Nat.le_of_ble_eq_true rfl⟩ (16 + 2 * x1) (bW_c (by omega)) rfl rfl hl.1 rfl (Nat.le_of_ble_eq_true rfl) dX6_paint_27 ⟨by first | (simp only []; omega) | decide, by first | (simp only []; omega) | decide⟩) (fun r27 w27 H locs hp27 G => ?_)
      rcases hp27 with ⟨rfl, rfl, hi27⟩ | ⟨rfl, rfl, hi27⟩
      · skip
        replace hi27 : 0 ≤ (y).toInt ∧ (y).toInt < ((K 3) x1 : Nat) := hi27
        refine lv_if_ne (tgt := 35) hx hb dX6_paint_30 (by decide) (fun c30 => ?_) (fun c30 => ?_)
        · skip
          obtain ⟨y1, hy1, ey1, rfl⟩ := nat_of (x := y) (by omega)
          refine lv_bipush (v := (nI (8))) hx hb dX6_paint_35 (by decide) ?_
          refine lv_aload hx hb dX6_paint_37 (lv_at hl 0 rfl) ?_
          refine r_getN (v := .int (nI ((K 3) x1))) C G hX1 (16 + 2 * x1) (bW_c (by omega)) rfl 4 (by decide) (by decide +kernel) rfl dX6_paint_39 ?_
          refine lv_iload_n hx hb dX6_paint_42 rfl (lv_at hl 3 rfl) ?_
          refine r_isub hx hb (by omega) dX6_paint_43 ?_
          refine va_mmin hx hb (by rw [hml]; exact hl.1.symm) hown (hts (.methodLink RX6 92 Lib.Math.min.name) (by decide +kernel)) (hts (.static Lib.Math.min.name) (by decide +kernel)) (hts (.initialized "java/lang/Math") (by decide +kernel)) (hts (.code Lib.Math.min.name Lib.Math.min.code 2 (some .int)) (by decide +kernel)) (Nat.le_of_ble_eq_true rfl) (Nat.le_of_ble_eq_true rfl) (by first | (simp only []; omega) | decide) (by first | (simp only []; omega) | decide) dX6_paint_44 ?_
          refine r_top (y := nI (min 8 (((K 3) x1) - y1))) (nI_min (by omega) (by omega)) ?_
          refine lv_istore (lv' := [(6, .int (nI (min 8 (((K 3) x1) - y1)))), (5, .ref (ca x1)), (0, .ref (a 0)), (1, .int (nI (x1))), (2, .int (nI (y1))), (3, .long (v))]) hx hb dX6_paint_47 hl (by decide) rfl (fun ls hl => ?_)
          refine lv_iconst (v := (nI (0))) hx hb dX6_paint_49 (by decide) ?_
          refine lv_istore (lv' := [(7, .int (nI (0))), (6, .int (nI (min 8 (((K 3) x1) - y1)))), (5, .ref (ca x1)), (0, .ref (a 0)), (1, .int (nI (x1))), (2, .int (nI (y1))), (3, .long (v))]) hx hb dX6_paint_50 hl (by decide) rfl (fun ls hl => ?_)
          have lp52 : ∀ (fuel52 : Nat) (bb : Nat) (hm : 8 - bb < fuel52) (hb2 : bb ≤ min 8 (K 3 x1 - y1)) (H : Heap) (locs : List Loc) (ls : Array Slot), Wd A s.heap D (bW cI cO a ca ia n O I J F E K (va_up G0 x1 (pnt y1 v bb (G0 x1)))) H locs → lv_has ls 8 [(0, .ref (a 0)), (1, .int (nI (x1))), (2, .int (nI (y1))), (3, .long (v)), (5, .ref (ca x1)), (6, .int (nI (min 8 ((K 3 x1) - y1)))), (7, .int (nI (bb)))] → W p l e ({ frames := 2, cells := 0, slots := 0, locals := 43 } : Room) s m ([.ref (a 0), .int (nI (x1)), .int (nI (y1)), .long (v)] : List Value).toArray below meth c H locs 0 0 Q (F0 m 52 ls []) := by
            intro fuel52
            induction fuel52 with
            | zero => intro bb hm hb2; exact absurd hm (by omega)
            | succ fuel52 ih52 =>
              intro bb hm hb2 H locs ls G hl
              refine lv_iload hx hb dX6_paint_52 (lv_at hl 6 rfl) ?_
              refine lv_iload hx hb dX6_paint_54 (lv_at hl 5 rfl) ?_
              refine lv_icmp_ge (tgt := 89) hx hb dX6_paint_56 (by decide) (fun c56 => ?_) (fun c56 => ?_)
              · skip
                replace c56 : ((min 8 ((K 3 x1) - y1) : Nat) : Int) ≤ ((bb : Nat) : Int) := (cv_le (nI_toInt (by omega)) (nI_toInt (by omega))).mp c56
                refine lv_iconst (v := (nI (1))) hx hb dX6_paint_89 (by decide) ?_
                exact RET (nI (1)) (bW cI cO a ca ia n O I J F E K (va_up G0 x1 (pnt y1 v bb (G0 x1)))) _ _ ls _ _ _ (by rw [tn_nI hx1, tn_nI hy1]; exact Or.inr (Or.inr (Or.inr (⟨by omega, by omega, by omega, rfl, by obtain rfl : bb = min 8 (K 3 x1 - y1) := (by omega); rfl⟩)))) G (by first | (simp only []; omega) | decide) (by first | (simp only []; omega) | decide) rfl dX6_paint_90
              · skip
                replace c56 : ((bb : Nat) : Int) < ((min 8 ((K 3 x1) - y1) : Nat) : Int) := Int.not_le.mp (fun h => c56 ((cv_le (nI_toInt (by omega)) (nI_toInt (by omega))).mpr h))
                refine lv_aload hx hb dX6_paint_59 (lv_at hl 4 rfl) ?_
                refine lv_iload_n hx hb dX6_paint_61 rfl (lv_at hl 2 rfl) ?_
                refine lv_iload hx hb dX6_paint_62 (lv_at hl 6 rfl) ?_
                refine r_iadd hx hb dX6_paint_64 ?_
                refine lv_lload_n hx hb dX6_paint_65 rfl (lv_at hl 3 rfl) ?_
                refine lv_bipush (v := (nI (56))) hx hb dX6_paint_66 (by decide) ?_
                refine lv_bipush (v := (nI (8))) hx hb dX6_paint_68 (by decide) ?_
                refine lv_iload hx hb dX6_paint_70 (lv_at hl 6 rfl) ?_
                refine r_imul hx hb dX6_paint_72 ?_
                refine r_isub hx hb (by omega) dX6_paint_73 ?_
                refine lv_lushr (v := ush v (56 - (8 * bb))) hx hb dX6_paint_74 rfl ?_
                refine lv_l2i hx hb dX6_paint_75 rfl ?_
                refine lv_sipush (v := (nI (255))) hx hb dX6_paint_76 (by decide) ?_
                refine lv_iand hx hb dX6_paint_79 ?_
                refine r_top (y := pb v bb) (pb_c _) ?_
                refine r_av G hA (r_rV (na := 2) (As := [.int (nI (y1 + bb)), .int (pb v bb)]) (rest := []) C G (c_X1_put_R l D cI cO cL a ca ia n O I J F E K (va_up G0 x1 (pnt y1 v bb (G0 x1))) x1 (by omega) (y1 + bb) (pb v bb) (by show (K 3) x1 ≤ (K 4) x1; omega) (by omega) (by show y1 + bb < (K 3) x1; omega)) gX6_paint_X1_put rfl (by decide +kernel) ⟨Nat.le_of_ble_eq_true rfl, Nat.le_of_ble_eq_true rfl⟩ (16 + 2 * x1) (bW_c (by omega)) rfl rfl hl.1 rfl (Nat.le_of_ble_eq_true rfl) dX6_paint_80 ⟨by first | (simp only []; omega) | decide, by first | (simp only []; omega) | decide⟩) (fun w80 H locs hp80 G => ?_)
                obtain ⟨rfl⟩ := hp80
                replace G : Wd A s.heap D (bW cI cO a ca ia n O I J F E K (va_up G0 x1 (upd (pnt y1 v bb (G0 x1)) (y1 + bb) (pb v bb)))) H locs := G.eq (by rw [up_same, bx_uu])
                replace G : Wd A s.heap D (bW cI cO a ca ia n O I J F E K (va_up G0 x1 (pnt y1 v (bb + 1) (G0 x1)))) H locs := G.eq (by rw [pnt_s])
                refine lv_iinc (v := nI (bb + 1)) (lv' := [(7, .int (nI (bb + 1))), (0, .ref (a 0)), (1, .int (nI (x1))), (2, .int (nI (y1))), (3, .long (v)), (5, .ref (ca x1)), (6, .int (nI (min 8 ((K 3 x1) - y1))))]) hx hb dX6_paint_83 hl (k := 6) rfl (inc_n _ 1) (by decide) rfl (fun ls hl => ?_)
                refine lv_goto (tgt := 52) hx hb dX6_paint_86 (by decide) ?_
                exact ih52 (bb + 1) (by omega) (by omega) _ _ _ (G.eq (rfl)) (lv_sub hl [1, 2, 3, 4, 5, 6, 0] rfl)
          exact lp52 9 0 (by omega) (by omega) _ _ _ (G.eq (by rw [pnt_0, up_id])) (lv_sub hl [3, 4, 5, 6, 2, 1, 0] rfl)
        · skip
          exact absurd c30 (by decide)
      · skip
        replace hi27 : ¬ (0 ≤ (y).toInt ∧ (y).toInt < ((K 3) x1 : Nat)) := hi27
        refine lv_if_ne (tgt := 35) hx hb dX6_paint_30 (by decide) (fun c30 => ?_) (fun c30 => ?_)
        · skip
          exact absurd c30 (by decide)
        · skip
          refine lv_iconst (v := ((-1))) hx hb dX6_paint_33 (by decide) ?_
          exact RET ((-1)) (bW cI cO a ca ia n O I J F E K G0) _ _ ls _ _ _ (by rw [tn_nI hx1]; exact Or.inr (Or.inr (Or.inl (⟨by omega, by omega, by omega, rfl, rfl⟩)))) G (by first | (simp only []; omega) | decide) (by first | (simp only []; omega) | decide) rfl dX6_paint_34
  · skip
    refine r_st (st' := [.null]) rfl ?_
    refine lv_astoreN (lv' := [(5, .null), (0, .ref (a 0)), (1, .int (x)), (2, .int (y)), (3, .long (v))]) hx hb dX6_paint_8 hl (by decide) rfl (fun ls hl => ?_)
    refine lv_aloadN hx hb dX6_paint_10 (lv_at hl 0 rfl) ?_
    refine lv_ifnullN (tgt := 33) hx hb dX6_paint_12 (by decide) ?_
    refine lv_iconst (v := ((-1))) hx hb dX6_paint_33 (by decide) ?_
    exact RET ((-1)) (bW cI cO a ca ia n O I J F E K G0) _ _ ls _ _ _ (Or.inl (⟨by omega, rfl, rfl⟩)) G (by first | (simp only []; omega) | decide) (by first | (simp only []; omega) | decide) rfl dX6_paint_34
set_option maxHeartbeats 4000000 in
set_option maxRecDepth 100000 in
theorem c_X6_mark (l : Launch) (D : va_G) (cI cO cL : ClassId) (a ca ia : Nat → Nat) (n : Nat) (O : Nat → Option Nat) (I : Nat → Nat) (J : Nat → Int64) (F : Nat → Nat → Nat) (E : Nat → Nat → Int32) (K : Nat → Nat → Nat) (G0 : Nat → Nat → Int32) (x lb wt : Int32) (hn : I 3 ≤ 60) : Ki l yX6_mark wsX6_mark { frames := 2, cells := 0, slots := 0, locals := 44 } D (TY cI cO cL) [.ref (a 0), .int (x), .int (lb), .int (wt)] (bW cI cO a ca ia n O I J F E K G0) (fun r w => (¬ (0 ≤ x.toInt ∧ x.toInt < I 3 ∧ 0 ≤ lb.toInt ∧ lb.toInt ≤ 7 ∧ 0 ≤ wt.toInt ∧ wt.toInt ≤ 1000) ∧ r = -1 ∧ w = bW cI cO a ca ia n O I J F E K G0) ∨ ((0 ≤ x.toInt ∧ x.toInt < I 3 ∧ 0 ≤ lb.toInt ∧ lb.toInt ≤ 7 ∧ 0 ≤ wt.toInt ∧ wt.toInt ≤ 1000) ∧ r = 1 ∧ w = bW cI cO a ca ia n O I J (va_up (va_up F 0 (va_up (F 0) (tn x) (tn lb))) 1 (va_up (F 1) (tn x) (tn wt))) E K G0)) := by
  refine Ki.mk (cc := cX6_mark) (maxL := 4) (rt := .int) (own := RX6) (by decide) rfl rfl (Nat.le_of_ble_eq_true rfl) ?_
  intro p e s m below meth c A Q ls C hname hA G hl RET
  obtain ⟨⟨hx, hb, hml, hown, hts⟩, hK, hN⟩ := id C
  have hl : lv_has ls 4 [(0, .ref (a 0)), (1, .int (x)), (2, .int (lb)), (3, .int (wt))] := hl
  have hX6 : ∀ w ∈ u_ws RX6 TX6 8, w ∈ wsX6_mark := by decide +kernel
  refine lv_aload_n hx hb dX6_mark_0 rfl (lv_at hl 0 rfl) ?_
  refine r_get (v := .ref (a 1)) C G hX6 0 rfl rfl 0 (by decide) (by decide +kernel) rfl dX6_mark_1 ?_
  refine lv_iload_n hx hb dX6_mark_4 rfl (lv_at hl 1 rfl) ?_
  refine r_ai G hA (r_rV (na := 1) (As := [.int (x)]) (rest := []) C G (c_X4_has l D cI cO cL a ca ia n O I J F E K G0 x hn) gX6_mark_X4_has rfl (by decide +kernel) ⟨Nat.le_of_ble_eq_true rfl, Nat.le_of_ble_eq_true rfl⟩ 1 rfl rfl rfl hl.1 rfl (Nat.le_of_ble_eq_true rfl) dX6_mark_5 ⟨by first | (simp only []; omega) | decide, by first | (simp only []; omega) | decide⟩) (fun r5 w5 H locs hp5 G => ?_)
  rcases hp5 with ⟨rfl, rfl, hi5⟩ | ⟨rfl, rfl, hi5⟩
  · skip
    replace hi5 : 0 ≤ (x).toInt ∧ (x).toInt < (I 3 : Nat) := hi5
    refine lv_if_eq (tgt := 25) hx hb dX6_mark_8 (by decide) (fun c8 => ?_) (fun c8 => ?_)
    · skip
      exact absurd c8 (by decide)
    · skip
      refine lv_iload_n hx hb dX6_mark_11 rfl (lv_at hl 2 rfl) ?_
      refine r_ai G hA (r_rS (na := 1) (As := [.int (lb)]) (rest := []) C G (c_X6_isLabel l D cI cO cL (bW cI cO a ca ia n O I J F E K G0) lb) gX6_mark_X6_isLabel rfl (by decide +kernel) ⟨Nat.le_of_ble_eq_true rfl, Nat.le_of_ble_eq_true rfl⟩ rfl hl.1 rfl (Nat.le_of_ble_eq_true rfl) dX6_mark_12 ⟨by first | (simp only []; omega) | decide, by first | (simp only []; omega) | decide⟩) (fun r12 w12 H locs hp12 G => ?_)
      rcases hp12 with ⟨rfl, rfl, hi12⟩ | ⟨rfl, rfl, hi12⟩
      · skip
        refine lv_if_eq (tgt := 25) hx hb dX6_mark_15 (by decide) (fun c15 => ?_) (fun c15 => ?_)
        · skip
          exact absurd c15 (by decide)
        · skip
          refine lv_iload_n hx hb dX6_mark_18 rfl (lv_at hl 3 rfl) ?_
          refine r_ai G hA (r_rS (na := 1) (As := [.int (wt)]) (rest := []) C G (c_X6_isWeight l D cI cO cL (bW cI cO a ca ia n O I J F E K G0) wt) gX6_mark_X6_isWeight rfl (by decide +kernel) ⟨Nat.le_of_ble_eq_true rfl, Nat.le_of_ble_eq_true rfl⟩ rfl hl.1 rfl (Nat.le_of_ble_eq_true rfl) dX6_mark_19 ⟨by first | (simp only []; omega) | decide, by first | (simp only []; omega) | decide⟩) (fun r19 w19 H locs hp19 G => ?_)
          rcases hp19 with ⟨rfl, rfl, hi19⟩ | ⟨rfl, rfl, hi19⟩
          · skip
            refine lv_if_ne (tgt := 27) hx hb dX6_mark_22 (by decide) (fun c22 => ?_) (fun c22 => ?_)
            · skip
              obtain ⟨x1, hx1, ex1, rfl⟩ := nat_of (x := x) (by omega)
              obtain ⟨lb1, hlb1, elb1, rfl⟩ := nat_of (x := lb) (by omega)
              obtain ⟨wt1, hwt1, ewt1, rfl⟩ := nat_of (x := wt) (by omega)
              refine lv_aload_n hx hb dX6_mark_27 rfl (lv_at hl 0 rfl) ?_
              refine r_get (v := .ref (a 1)) C G hX6 0 rfl rfl 0 (by decide) (by decide +kernel) rfl dX6_mark_28 ?_
              refine lv_iload_n hx hb dX6_mark_31 rfl (lv_at hl 1 rfl) ?_
              refine lv_iload_n hx hb dX6_mark_32 rfl (lv_at hl 2 rfl) ?_
              refine lv_iload_n hx hb dX6_mark_33 rfl (lv_at hl 3 rfl) ?_
              refine r_av G hA (r_rV (na := 3) (As := [.int (nI (x1)), .int (nI (lb1)), .int (nI (wt1))]) (rest := []) C G (c_X4_relabel l D cI cO cL a ca ia n O I J F E K G0 x1 lb1 wt1 hn (by omega)) gX6_mark_X4_relabel rfl (by decide +kernel) ⟨Nat.le_of_ble_eq_true rfl, Nat.le_of_ble_eq_true rfl⟩ 1 rfl rfl rfl hl.1 rfl (Nat.le_of_ble_eq_true rfl) dX6_mark_34 ⟨by first | (simp only []; omega) | decide, by first | (simp only []; omega) | decide⟩) (fun w34 H locs hp34 G => ?_)
              obtain ⟨rfl⟩ := hp34
              refine lv_iconst (v := (nI (1))) hx hb dX6_mark_37 (by decide) ?_
              exact RET (nI (1)) (bW cI cO a ca ia n O I J (va_up (va_up F 0 (va_up (F 0) x1 lb1)) 1 (va_up (F 1) x1 wt1)) E K G0) _ _ ls _ _ _ (by rw [tn_nI hx1, tn_nI hlb1, tn_nI hwt1]; exact Or.inr (⟨by omega, rfl, rfl⟩)) G (by first | (simp only []; omega) | decide) (by first | (simp only []; omega) | decide) rfl dX6_mark_38
            · skip
              exact absurd c22 (by decide)
          · skip
            refine lv_if_ne (tgt := 27) hx hb dX6_mark_22 (by decide) (fun c22 => ?_) (fun c22 => ?_)
            · skip
              exact absurd c22 (by decide)
            · skip
              refine lv_iconst (v := ((-1))) hx hb dX6_mark_25 (by decide) ?_
              exact RET ((-1)) (bW cI cO a ca ia n O I J F E K G0) _ _ ls _ _ _ (Or.inl (⟨by omega, rfl, rfl⟩)) G (by first | (simp only []; omega) | decide) (by first | (simp only []; omega) | decide) rfl dX6_mark_26
      · skip
        refine lv_if_eq (tgt := 25) hx hb dX6_mark_15 (by decide) (fun c15 => ?_) (fun c15 => ?_)
        · skip
          refine lv_iconst (v := ((-1))) hx hb dX6_mark_25 (by decide) ?_
          exact RET ((-1)) (bW cI cO a ca ia n O I J F E K G0) _ _ ls _ _ _ (Or.inl (⟨by omega, rfl, rfl⟩)) G (by first | (simp only []; omega) | decide) (by first | (simp only []; omega) | decide) rfl dX6_mark_26
        · skip
          exact absurd c15 (by decide)
  · skip
    replace hi5 : ¬ (0 ≤ (x).toInt ∧ (x).toInt < (I 3 : Nat)) := hi5
    refine lv_if_eq (tgt := 25) hx hb dX6_mark_8 (by decide) (fun c8 => ?_) (fun c8 => ?_)
    · skip
      refine lv_iconst (v := ((-1))) hx hb dX6_mark_25 (by decide) ?_
      exact RET ((-1)) (bW cI cO a ca ia n O I J F E K G0) _ _ ls _ _ _ (Or.inl (⟨by omega, rfl, rfl⟩)) G (by first | (simp only []; omega) | decide) (by first | (simp only []; omega) | decide) rfl dX6_mark_26
    · skip
      exact absurd c8 (by decide)
set_option maxHeartbeats 4000000 in
set_option maxRecDepth 100000 in
theorem c_X6_of (l : Launch) (D : va_G) (cI cO cL : ClassId) (a ca ia : Nat → Nat) (n : Nat) (O : Nat → Option Nat) (I : Nat → Nat) (J : Nat → Int64) (F : Nat → Nat → Nat) (E : Nat → Nat → Int32) (K : Nat → Nat → Nat) (G0 : Nat → Nat → Int32) (x y : Int32) (hn : I 3 ≤ 60) (hO : ∀ j, j < I 3 → O j = some (ca j)) (hin : I 3 ≤ n) : Ki l yX6_of wsX6_of { frames := 2, cells := 0, slots := 0, locals := 42 } D (TY cI cO cL) [.ref (a 0), .int (x), .int (y)] (bW cI cO a ca ia n O I J F E K G0) (fun r w => (¬ (0 ≤ x.toInt ∧ x.toInt < I 3) ∧ r = -1 ∧ w = bW cI cO a ca ia n O I J F E K G0) ∨ ((0 ≤ x.toInt ∧ x.toInt < I 3) ∧ y = nI 0 ∧ r = nI (K 0 (tn x)) ∧ w = bW cI cO a ca ia n O I J F E K G0) ∨ ((0 ≤ x.toInt ∧ x.toInt < I 3) ∧ y = nI 1 ∧ r = nI (F 0 (tn x)) ∧ w = bW cI cO a ca ia n O I J F E K G0) ∨ ((0 ≤ x.toInt ∧ x.toInt < I 3) ∧ y = nI 2 ∧ r = nI (F 1 (tn x)) ∧ w = bW cI cO a ca ia n O I J F E K G0) ∨ ((0 ≤ x.toInt ∧ x.toInt < I 3) ∧ y = nI 3 ∧ r = nI (K 3 (tn x)) ∧ w = bW cI cO a ca ia n O I J F E K G0) ∨ ((0 ≤ x.toInt ∧ x.toInt < I 3) ∧ y = nI 4 ∧ r = nI (K 1 (tn x)) ∧ w = bW cI cO a ca ia n O I J F E K G0) ∨ ((0 ≤ x.toInt ∧ x.toInt < I 3) ∧ y = nI 5 ∧ r = nI (K 2 (tn x)) ∧ w = bW cI cO a ca ia n O I J F E K G0) ∨ ((0 ≤ x.toInt ∧ x.toInt < I 3) ∧ (y.toInt < 0 ∨ 5 < y.toInt) ∧ r = -1 ∧ w = bW cI cO a ca ia n O I J F E K G0)) := by
  refine Ki.mk (cc := cX6_of) (maxL := 4) (rt := .int) (own := RX6) (by decide) rfl rfl (Nat.le_of_ble_eq_true rfl) ?_
  intro p e s m below meth c A Q ls C hname hA G hl RET
  obtain ⟨⟨hx, hb, hml, hown, hts⟩, hK, hN⟩ := id C
  have hl : lv_has ls 4 [(0, .ref (a 0)), (1, .int (x)), (2, .int (y))] := hl
  have hX1 : ∀ w ∈ u_ws RX1 TX1 5, w ∈ wsX6_of := by decide +kernel
  have hX6 : ∀ w ∈ u_ws RX6 TX6 8, w ∈ wsX6_of := by decide +kernel
  refine lv_aload_n hx hb dX6_of_0 rfl (lv_at hl 0 rfl) ?_
  refine r_get (v := .ref (a 1)) C G hX6 0 rfl rfl 0 (by decide) (by decide +kernel) rfl dX6_of_1 ?_
  refine lv_iload_n hx hb dX6_of_4 rfl (lv_at hl 1 rfl) ?_
  refine r_aq G hA (r_rV (na := 1) (As := [.int (x)]) (rest := []) C G (c_X4_find l D cI cO cL a ca ia n O I J F E K G0 x hn hO) gX6_of_X4_find rfl (by decide +kernel) ⟨Nat.le_of_ble_eq_true rfl, Nat.le_of_ble_eq_true rfl⟩ 1 rfl rfl rfl hl.1 rfl (Nat.le_of_ble_eq_true rfl) dX6_of_5 ⟨by first | (simp only []; omega) | decide, by first | (simp only []; omega) | decide⟩) (fun r5 w5 H locs hp5 G => ?_)
  rcases hp5 with ⟨rfl, rfl, hi5⟩ | ⟨rfl, rfl, hi5⟩
  · skip
    refine r_st (st' := [.ref (ca (tn x))]) rfl ?_
    obtain ⟨x1, hx1, ex1, rfl⟩ := nat_of (x := x) (by omega)
    rw [tn_nI hx1]
    refine lv_astore_n (lv' := [(3, .ref (ca x1)), (0, .ref (a 0)), (1, .int (nI (x1))), (2, .int (y))]) hx hb dX6_of_8 rfl hl (by decide) rfl (fun ls hl => ?_)
    refine lv_aload_n hx hb dX6_of_9 rfl (lv_at hl 0 rfl) ?_
    refine lv_ifnonnull (tgt := 15) hx hb dX6_of_10 (by decide) ?_
    refine lv_iload_n hx hb dX6_of_15 rfl (lv_at hl 3 rfl) ?_
    by_cases k16_0 : y = nI 0
    · skip
      refine r_top (y := nI 0) k16_0 ?_
      refine lv_tableIn (off := (40)) (tgt := 56) hx hb dX6_of_16 (by decide) (by decide) (by decide) (by decide) ?_
      refine lv_aload_n hx hb dX6_of_56 rfl (lv_at hl 0 rfl) ?_
      refine r_getN (v := .int (nI ((K 0) x1))) C G hX1 (16 + 2 * x1) (bW_c (by omega)) rfl 1 (by decide) (by decide +kernel) rfl dX6_of_57 ?_
      exact RET (nI ((K 0) x1)) (bW cI cO a ca ia n O I J F E K G0) _ _ ls _ _ _ (by rw [tn_nI hx1]; exact Or.inr (Or.inl (⟨by omega, k16_0, rfl, rfl⟩))) G (by first | (simp only []; omega) | decide) (by first | (simp only []; omega) | decide) rfl dX6_of_60
    by_cases k16_1 : y = nI 1
    · skip
      refine r_top (y := nI 1) k16_1 ?_
      refine lv_tableIn (off := (45)) (tgt := 61) hx hb dX6_of_16 (by decide) (by decide) (by decide) (by decide) ?_
      refine lv_aload_n hx hb dX6_of_61 rfl (lv_at hl 1 rfl) ?_
      refine r_get (v := .ref (a 1)) C G hX6 0 rfl rfl 0 (by decide) (by decide +kernel) rfl dX6_of_62 ?_
      refine lv_iload_n hx hb dX6_of_65 rfl (lv_at hl 2 rfl) ?_
      refine r_ai G hA (r_rV (na := 1) (As := [.int (nI (x1))]) (rest := []) C G (c_X4_label l D cI cO cL a ca ia n O I J F E K G0 x1 hn (by omega)) gX6_of_X4_label rfl (by decide +kernel) ⟨Nat.le_of_ble_eq_true rfl, Nat.le_of_ble_eq_true rfl⟩ 1 rfl rfl rfl hl.1 rfl (Nat.le_of_ble_eq_true rfl) dX6_of_66 ⟨by first | (simp only []; omega) | decide, by first | (simp only []; omega) | decide⟩) (fun r66 w66 H locs hp66 G => ?_)
      obtain ⟨rfl, rfl⟩ := hp66
      refine r_top (y := nI ((F 0) x1)) rfl ?_
      exact RET (nI ((F 0) x1)) (bW cI cO a ca ia n O I J F E K G0) _ _ ls _ _ _ (by rw [tn_nI hx1]; exact Or.inr (Or.inr (Or.inl (⟨by omega, k16_1, rfl, rfl⟩)))) G (by first | (simp only []; omega) | decide) (by first | (simp only []; omega) | decide) rfl dX6_of_69
    by_cases k16_2 : y = nI 2
    · skip
      refine r_top (y := nI 2) k16_2 ?_
      refine lv_tableIn (off := (54)) (tgt := 70) hx hb dX6_of_16 (by decide) (by decide) (by decide) (by decide) ?_
      refine lv_aload_n hx hb dX6_of_70 rfl (lv_at hl 1 rfl) ?_
      refine r_get (v := .ref (a 1)) C G hX6 0 rfl rfl 0 (by decide) (by decide +kernel) rfl dX6_of_71 ?_
      refine lv_iload_n hx hb dX6_of_74 rfl (lv_at hl 2 rfl) ?_
      refine r_ai G hA (r_rV (na := 1) (As := [.int (nI (x1))]) (rest := []) C G (c_X4_weight l D cI cO cL a ca ia n O I J F E K G0 x1 hn (by omega)) gX6_of_X4_weight rfl (by decide +kernel) ⟨Nat.le_of_ble_eq_true rfl, Nat.le_of_ble_eq_true rfl⟩ 1 rfl rfl rfl hl.1 rfl (Nat.le_of_ble_eq_true rfl) dX6_of_75 ⟨by first | (simp only []; omega) | decide, by first | (simp only []; omega) | decide⟩) (fun r75 w75 H locs hp75 G => ?_)
      obtain ⟨rfl, rfl⟩ := hp75
      refine r_top (y := nI ((F 1) x1)) rfl ?_
      exact RET (nI ((F 1) x1)) (bW cI cO a ca ia n O I J F E K G0) _ _ ls _ _ _ (by rw [tn_nI hx1]; exact Or.inr (Or.inr (Or.inr (Or.inl (⟨by omega, k16_2, rfl, rfl⟩))))) G (by first | (simp only []; omega) | decide) (by first | (simp only []; omega) | decide) rfl dX6_of_78
    by_cases k16_3 : y = nI 3
    · skip
      refine r_top (y := nI 3) k16_3 ?_
      refine lv_tableIn (off := (63)) (tgt := 79) hx hb dX6_of_16 (by decide) (by decide) (by decide) (by decide) ?_
      refine lv_aload_n hx hb dX6_of_79 rfl (lv_at hl 0 rfl) ?_
      refine r_getN (v := .int (nI ((K 3) x1))) C G hX1 (16 + 2 * x1) (bW_c (by omega)) rfl 4 (by decide) (by decide +kernel) rfl dX6_of_80 ?_
      exact RET (nI ((K 3) x1)) (bW cI cO a ca ia n O I J F E K G0) _ _ ls _ _ _ (by rw [tn_nI hx1]; exact Or.inr (Or.inr (Or.inr (Or.inr (Or.inl (⟨by omega, k16_3, rfl, rfl⟩)))))) G (by first | (simp only []; omega) | decide) (by first | (simp only []; omega) | decide) rfl dX6_of_83
    by_cases k16_4 : y = nI 4
    · skip
      refine r_top (y := nI 4) k16_4 ?_
      refine lv_tableIn (off := (68)) (tgt := 84) hx hb dX6_of_16 (by decide) (by decide) (by decide) (by decide) ?_
      refine lv_aload_n hx hb dX6_of_84 rfl (lv_at hl 0 rfl) ?_
      refine r_getN (v := .int (nI ((K 1) x1))) C G hX1 (16 + 2 * x1) (bW_c (by omega)) rfl 2 (by decide) (by decide +kernel) rfl dX6_of_85 ?_
      exact RET (nI ((K 1) x1)) (bW cI cO a ca ia n O I J F E K G0) _ _ ls _ _ _ (by rw [tn_nI hx1]; exact Or.inr (Or.inr (Or.inr (Or.inr (Or.inr (Or.inl (⟨by omega, k16_4, rfl, rfl⟩))))))) G (by first | (simp only []; omega) | decide) (by first | (simp only []; omega) | decide) rfl dX6_of_88
    by_cases k16_5 : y = nI 5
    · skip
      refine r_top (y := nI 5) k16_5 ?_
      refine lv_tableIn (off := (73)) (tgt := 89) hx hb dX6_of_16 (by decide) (by decide) (by decide) (by decide) ?_
      refine lv_aload_n hx hb dX6_of_89 rfl (lv_at hl 0 rfl) ?_
      refine r_getN (v := .int (nI ((K 2) x1))) C G hX1 (16 + 2 * x1) (bW_c (by omega)) rfl 3 (by decide) (by decide +kernel) rfl dX6_of_90 ?_
      exact RET (nI ((K 2) x1)) (bW cI cO a ca ia n O I J F E K G0) _ _ ls _ _ _ (by rw [tn_nI hx1]; exact Or.inr (Or.inr (Or.inr (Or.inr (Or.inr (Or.inr (Or.inl (⟨by omega, k16_5, rfl, rfl⟩)))))))) G (by first | (simp only []; omega) | decide) (by first | (simp only []; omega) | decide) rfl dX6_of_93
    have ko16 : (y).toInt < (0) ∨ (5) < (y).toInt := by
      have z0 := lv_neT (a := (0)) k16_0 (by decide)
      have z1 := lv_neT (a := (1)) k16_1 (by decide)
      have z2 := lv_neT (a := (2)) k16_2 (by decide)
      have z3 := lv_neT (a := (3)) k16_3 (by decide)
      have z4 := lv_neT (a := (4)) k16_4 (by decide)
      have z5 := lv_neT (a := (5)) k16_5 (by decide)
      omega
    refine lv_tableOut (tgt := 94) hx hb dX6_of_16 ko16 (by decide) ?_
    refine lv_iconst (v := ((-1))) hx hb dX6_of_94 (by decide) ?_
    exact RET ((-1)) (bW cI cO a ca ia n O I J F E K G0) _ _ ls _ _ _ (by rw [tn_nI hx1]; exact Or.inr (Or.inr (Or.inr (Or.inr (Or.inr (Or.inr (Or.inr (⟨by omega, by omega, rfl, rfl⟩)))))))) G (by first | (simp only []; omega) | decide) (by first | (simp only []; omega) | decide) rfl dX6_of_95
  · skip
    refine r_st (st' := [.null]) rfl ?_
    refine lv_astore_nN (lv' := [(3, .null), (0, .ref (a 0)), (1, .int (x)), (2, .int (y))]) hx hb dX6_of_8 rfl hl (by decide) rfl (fun ls hl => ?_)
    refine lv_aload_nN hx hb dX6_of_9 rfl (lv_at hl 0 rfl) ?_
    refine lv_ifnonnullN hx hb dX6_of_10 ?_
    refine lv_iconst (v := ((-1))) hx hb dX6_of_13 (by decide) ?_
    exact RET ((-1)) (bW cI cO a ca ia n O I J F E K G0) _ _ ls _ _ _ (Or.inl (⟨by omega, rfl, rfl⟩)) G (by first | (simp only []; omega) | decide) (by first | (simp only []; omega) | decide) rfl dX6_of_14
set_option maxHeartbeats 4000000 in
set_option maxRecDepth 100000 in
theorem c_X6_seed (l : Launch) (D : va_G) (cI cO cL : ClassId) (a ca ia : Nat → Nat) (n : Nat) (O : Nat → Option Nat) (I : Nat → Nat) (J : Nat → Int64) (F : Nat → Nat → Nat) (E : Nat → Nat → Int32) (K : Nat → Nat → Nat) (G0 : Nat → Nat → Int32) (z : Int64) : Kl l yX6_seed wsX6_seed { frames := 0, cells := 0, slots := 0, locals := 0 } D (TY cI cO cL) [.ref (a 0), .long (z)] (bW cI cO a ca ia n O I J F E K G0) (fun r w => r = J 0 ∧ w = bW cI cO a ca ia n O I (va_up J 0 z) F E K G0) := by
  refine Kl.mk (cc := cX6_seed) (maxL := 5) (own := RX6) (by decide) rfl rfl (Nat.le_of_ble_eq_true rfl) ?_
  intro p e s m below meth c A Q ls C hname hA G hl RET
  obtain ⟨⟨hx, hb, hml, hown, hts⟩, hK, hN⟩ := id C
  have hl : lv_has ls 5 [(0, .ref (a 0)), (1, .long (z))] := hl
  have hX5 : ∀ w ∈ u_ws RX5 TX5 5, w ∈ wsX6_seed := by decide +kernel
  have hX6 : ∀ w ∈ u_ws RX6 TX6 8, w ∈ wsX6_seed := by decide +kernel
  refine lv_aload_n hx hb dX6_seed_0 rfl (lv_at hl 0 rfl) ?_
  refine r_get (v := .ref (a 2)) C G hX6 0 rfl rfl 1 (by decide) (by decide +kernel) rfl dX6_seed_1 ?_
  refine r_getN (v := .long (J 0)) C G hX5 2 rfl rfl 0 (by decide) (by decide +kernel) rfl dX6_seed_4 ?_
  refine lv_lstore_n (lv' := [(3, .long (J 0)), (0, .ref (a 0)), (1, .long (z))]) hx hb dX6_seed_7 rfl hl (by decide) rfl (fun ls hl => ?_)
  refine lv_aload_n hx hb dX6_seed_8 rfl (lv_at hl 1 rfl) ?_
  refine r_get (v := .ref (a 2)) C G hX6 0 rfl rfl 1 (by decide) (by decide +kernel) rfl dX6_seed_9 ?_
  refine lv_lload_n hx hb dX6_seed_12 rfl (lv_at hl 2 rfl) ?_
  refine r_putN (ws' := bW cI cO a ca ia n O I (va_up J 0 z) F E K G0) C G hX5 tyX5_ok nmX5 2 rfl rfl 0 (by decide) (by decide +kernel) rfl rfl rfl (Nat.le_of_ble_eq_true rfl) dX6_seed_13 rfl (fun H locs G => ?_)
  refine lv_lload_n hx hb dX6_seed_16 rfl (lv_at hl 0 rfl) ?_
  exact RET (J 0) (bW cI cO a ca ia n O I (va_up J 0 z) F E K G0) _ _ ls _ _ _ (⟨rfl, rfl⟩) G (by first | (simp only []; omega) | decide) (by first | (simp only []; omega) | decide) dX6_seed_17
set_option maxHeartbeats 4000000 in
set_option maxRecDepth 100000 in
theorem c_X6_set (l : Launch) (D : va_G) (cI cO cL : ClassId) (a ca ia : Nat → Nat) (n : Nat) (O : Nat → Option Nat) (I : Nat → Nat) (J : Nat → Int64) (F : Nat → Nat → Nat) (E : Nat → Nat → Int32) (K : Nat → Nat → Nat) (G0 : Nat → Nat → Int32) (x y : Int32) : Ki l yX6_set wsX6_set { frames := 1, cells := 0, slots := 0, locals := 23 } D (TY cI cO cL) [.ref (a 0), .int (x), .int (y)] (bW cI cO a ca ia n O I J F E K G0) (fun r w => (x = nI 0 ∧ (0 ≤ y.toInt ∧ y.toInt ≤ 20) ∧ r = nI (I 4) ∧ w = bW cI cO a ca ia n O (va_up I 4 (tn y)) J F E K G0) ∨ (x = nI 1 ∧ (1 ≤ y.toInt ∧ y.toInt ≤ 60) ∧ r = nI (I 5) ∧ w = bW cI cO a ca ia n O (va_up I 5 (tn y)) J F E K G0) ∨ (x = nI 2 ∧ (1 ≤ y.toInt ∧ y.toInt ≤ 60) ∧ r = nI (I 6) ∧ w = bW cI cO a ca ia n O (va_up I 6 (tn y)) J F E K G0) ∨ (x = nI 3 ∧ (0 ≤ y.toInt ∧ y.toInt ≤ 1) ∧ r = nI (I 7) ∧ w = bW cI cO a ca ia n O (va_up I 7 (tn y)) J F E K G0) ∨ (¬ ((x.toInt = 0 ∧ 0 ≤ y.toInt ∧ y.toInt ≤ 20) ∨ (x.toInt = 1 ∧ 1 ≤ y.toInt ∧ y.toInt ≤ 60) ∨ (x.toInt = 2 ∧ 1 ≤ y.toInt ∧ y.toInt ≤ 60) ∨ (x.toInt = 3 ∧ 0 ≤ y.toInt ∧ y.toInt ≤ 1)) ∧ r = -1 ∧ w = bW cI cO a ca ia n O I J F E K G0)) := by
  refine Ki.mk (cc := cX6_set) (maxL := 3) (rt := .int) (own := RX6) (by decide) rfl rfl (Nat.le_of_ble_eq_true rfl) ?_
  intro p e s m below meth c A Q ls C hname hA G hl RET
  obtain ⟨⟨hx, hb, hml, hown, hts⟩, hK, hN⟩ := id C
  have hl : lv_has ls 3 [(0, .ref (a 0)), (1, .int (x)), (2, .int (y))] := hl
  have hX6 : ∀ w ∈ u_ws RX6 TX6 8, w ∈ wsX6_set := by decide +kernel
  refine lv_aload_n hx hb dX6_set_0 rfl (lv_at hl 0 rfl) ?_
  refine r_get (v := .ref (a 2)) C G hX6 0 rfl rfl 1 (by decide) (by decide +kernel) rfl dX6_set_1 ?_
  refine lv_iload_n hx hb dX6_set_4 rfl (lv_at hl 1 rfl) ?_
  refine lv_iload_n hx hb dX6_set_5 rfl (lv_at hl 2 rfl) ?_
  refine r_ai G hA (r_rV (na := 2) (As := [.int (x), .int (y)]) (rest := []) C G (c_X5_allows l D cI cO cL a ca ia n O I J F E K G0 x y) gX6_set_X5_allows rfl (by decide +kernel) ⟨Nat.le_of_ble_eq_true rfl, Nat.le_of_ble_eq_true rfl⟩ 2 rfl rfl rfl hl.1 rfl (Nat.le_of_ble_eq_true rfl) dX6_set_6 ⟨by first | (simp only []; omega) | decide, by first | (simp only []; omega) | decide⟩) (fun r6 w6 H locs hp6 G => ?_)
  rcases hp6 with ⟨rfl, rfl, hi6⟩ | ⟨rfl, rfl, hi6⟩
  · skip
    refine lv_if_ne (tgt := 14) hx hb dX6_set_9 (by decide) (fun c9 => ?_) (fun c9 => ?_)
    · skip
      obtain ⟨y1, hy1, ey1, rfl⟩ := nat_of (x := y) (by omega)
      refine lv_aload_n hx hb dX6_set_14 rfl (lv_at hl 0 rfl) ?_
      refine r_get (v := .ref (a 2)) C G hX6 0 rfl rfl 1 (by decide) (by decide +kernel) rfl dX6_set_15 ?_
      refine lv_iload_n hx hb dX6_set_18 rfl (lv_at hl 1 rfl) ?_
      refine lv_iload_n hx hb dX6_set_19 rfl (lv_at hl 2 rfl) ?_
      refine r_ai G hA (r_rV (na := 2) (As := [.int (x), .int (nI (y1))]) (rest := []) C G (c_X5_exchange l D cI cO cL a ca ia n O I J F E K G0 x y1 (by omega)) gX6_set_X5_exchange rfl (by decide +kernel) ⟨Nat.le_of_ble_eq_true rfl, Nat.le_of_ble_eq_true rfl⟩ 2 rfl rfl rfl hl.1 rfl (Nat.le_of_ble_eq_true rfl) dX6_set_20 ⟨by first | (simp only []; omega) | decide, by first | (simp only []; omega) | decide⟩) (fun r20 w20 H locs hp20 G => ?_)
      rcases hp20 with ⟨ex20, rfl, rfl⟩ | ⟨ex20, rfl, rfl⟩ | ⟨ex20, rfl, rfl⟩ | ⟨ex20, rfl, rfl⟩
      · skip
        refine r_top (y := nI (I 4)) rfl ?_
        exact RET (nI (I 4)) (bW cI cO a ca ia n O (va_up I 4 y1) J F E K G0) _ _ ls _ _ _ (by rw [tn_nI hy1]; have ex := congrArg Int32.toInt ex20; rw [nI_toInt (show 0 < 2 ^ 31 by omega)] at ex; exact Or.inl (⟨ex20, by omega, rfl, rfl⟩)) G (by first | (simp only []; omega) | decide) (by first | (simp only []; omega) | decide) rfl dX6_set_23
      · skip
        refine r_top (y := nI (I 5)) rfl ?_
        exact RET (nI (I 5)) (bW cI cO a ca ia n O (va_up I 5 y1) J F E K G0) _ _ ls _ _ _ (by rw [tn_nI hy1]; have ex := congrArg Int32.toInt ex20; rw [nI_toInt (show 1 < 2 ^ 31 by omega)] at ex; exact Or.inr (Or.inl (⟨ex20, by omega, rfl, rfl⟩))) G (by first | (simp only []; omega) | decide) (by first | (simp only []; omega) | decide) rfl dX6_set_23
      · skip
        refine r_top (y := nI (I 6)) rfl ?_
        exact RET (nI (I 6)) (bW cI cO a ca ia n O (va_up I 6 y1) J F E K G0) _ _ ls _ _ _ (by rw [tn_nI hy1]; have ex := congrArg Int32.toInt ex20; rw [nI_toInt (show 2 < 2 ^ 31 by omega)] at ex; exact Or.inr (Or.inr (Or.inl (⟨ex20, by omega, rfl, rfl⟩)))) G (by first | (simp only []; omega) | decide) (by first | (simp only []; omega) | decide) rfl dX6_set_23
      · skip
        refine r_top (y := nI (I 7)) rfl ?_
        exact RET (nI (I 7)) (bW cI cO a ca ia n O (va_up I 7 y1) J F E K G0) _ _ ls _ _ _ (by rw [tn_nI hy1]; have ex := congrArg Int32.toInt ex20; rw [nI_toInt (show 3 < 2 ^ 31 by omega)] at ex; exact Or.inr (Or.inr (Or.inr (Or.inl (⟨ex20, by omega, rfl, rfl⟩))))) G (by first | (simp only []; omega) | decide) (by first | (simp only []; omega) | decide) rfl dX6_set_23
    · skip
      exact absurd c9 (by decide)
  · skip
    refine lv_if_ne (tgt := 14) hx hb dX6_set_9 (by decide) (fun c9 => ?_) (fun c9 => ?_)
    · skip
      exact absurd c9 (by decide)
    · skip
      refine lv_iconst (v := ((-1))) hx hb dX6_set_12 (by decide) ?_
      exact RET ((-1)) (bW cI cO a ca ia n O I J F E K G0) _ _ ls _ _ _ (Or.inr (Or.inr (Or.inr (Or.inr (⟨hi6, rfl, rfl⟩))))) G (by first | (simp only []; omega) | decide) (by first | (simp only []; omega) | decide) rfl dX6_set_13
set_option maxHeartbeats 4000000 in
set_option maxRecDepth 100000 in
theorem c_X6_resume (l : Launch) (D : va_G) (cI cO cL : ClassId) (a ca ia : Nat → Nat) (n : Nat) (O : Nat → Option Nat) (I : Nat → Nat) (J : Nat → Int64) (F : Nat → Nat → Nat) (E : Nat → Nat → Int32) (K : Nat → Nat → Nat) (G0 : Nat → Nat → Int32) (x y z : Int32) (hn : I 3 ≤ 60) : Ki l yX6_resume wsX6_resume { frames := 1, cells := 0, slots := 0, locals := 20 } D (TY cI cO cL) [.ref (a 0), .int (x), .int (y), .int (z)] (bW cI cO a ca ia n O I J F E K G0) (fun r w => (¬ (0 ≤ x.toInt ∧ x.toInt ≤ 4 ∧ 0 ≤ y.toInt ∧ y.toInt ≤ 1000 ∧ 0 ≤ z.toInt ∧ z.toInt ≤ I 3) ∧ r = -1 ∧ w = bW cI cO a ca ia n O I J F E K G0) ∨ ((0 ≤ x.toInt ∧ x.toInt ≤ 4 ∧ 0 ≤ y.toInt ∧ y.toInt ≤ 1000 ∧ 0 ≤ z.toInt ∧ z.toInt ≤ I 3) ∧ r = 1 ∧ w = bW cI cO a ca ia n O (va_up (va_up (va_up I 0 (tn x)) 1 (tn y)) 2 (tn z)) J F E K G0)) := by
  refine Ki.mk (cc := cX6_resume) (maxL := 4) (rt := .int) (own := RX6) (by decide) rfl rfl (Nat.le_of_ble_eq_true rfl) ?_
  intro p e s m below meth c A Q ls C hname hA G hl RET
  obtain ⟨⟨hx, hb, hml, hown, hts⟩, hK, hN⟩ := id C
  have hl : lv_has ls 4 [(0, .ref (a 0)), (1, .int (x)), (2, .int (y)), (3, .int (z))] := hl
  have hX4 : ∀ w ∈ u_ws RX4 TX4 4, w ∈ wsX6_resume := by decide +kernel
  have hX6 : ∀ w ∈ u_ws RX6 TX6 8, w ∈ wsX6_resume := by decide +kernel
  refine lv_iload_n hx hb dX6_resume_0 rfl (lv_at hl 1 rfl) ?_
  refine r_ai G hA (r_rS (na := 1) (As := [.int (x)]) (rest := []) C G (c_X6_isWay l D cI cO cL (bW cI cO a ca ia n O I J F E K G0) x) gX6_resume_X6_isWay rfl (by decide +kernel) ⟨Nat.le_of_ble_eq_true rfl, Nat.le_of_ble_eq_true rfl⟩ rfl hl.1 rfl (Nat.le_of_ble_eq_true rfl) dX6_resume_1 ⟨by first | (simp only []; omega) | decide, by first | (simp only []; omega) | decide⟩) (fun r1 w1 H locs hp1 G => ?_)
  rcases hp1 with ⟨rfl, rfl, hi1⟩ | ⟨rfl, rfl, hi1⟩
  · skip
    refine lv_if_eq (tgt := 29) hx hb dX6_resume_4 (by decide) (fun c4 => ?_) (fun c4 => ?_)
    · skip
      exact absurd c4 (by decide)
    · skip
      refine lv_iload_n hx hb dX6_resume_7 rfl (lv_at hl 2 rfl) ?_
      refine r_ai G hA (r_rS (na := 1) (As := [.int (y)]) (rest := []) C G (c_X6_isRound l D cI cO cL (bW cI cO a ca ia n O I J F E K G0) y) gX6_resume_X6_isRound rfl (by decide +kernel) ⟨Nat.le_of_ble_eq_true rfl, Nat.le_of_ble_eq_true rfl⟩ rfl hl.1 rfl (Nat.le_of_ble_eq_true rfl) dX6_resume_8 ⟨by first | (simp only []; omega) | decide, by first | (simp only []; omega) | decide⟩) (fun r8 w8 H locs hp8 G => ?_)
      rcases hp8 with ⟨rfl, rfl, hi8⟩ | ⟨rfl, rfl, hi8⟩
      · skip
        refine lv_if_eq (tgt := 29) hx hb dX6_resume_11 (by decide) (fun c11 => ?_) (fun c11 => ?_)
        · skip
          exact absurd c11 (by decide)
        · skip
          refine lv_iload_n hx hb dX6_resume_14 rfl (lv_at hl 3 rfl) ?_
          refine lv_if_lt (tgt := 29) hx hb dX6_resume_15 (by decide) (fun c15 => ?_) (fun c15 => ?_)
          · skip
            replace c15 : (z).toInt < (0) := (cv_lt rfl (by decide)).mp c15
            refine lv_iconst (v := ((-1))) hx hb dX6_resume_29 (by decide) ?_
            exact RET ((-1)) (bW cI cO a ca ia n O I J F E K G0) _ _ ls _ _ _ (Or.inl (⟨by omega, rfl, rfl⟩)) G (by first | (simp only []; omega) | decide) (by first | (simp only []; omega) | decide) rfl dX6_resume_30
          · skip
            replace c15 : (0) ≤ (z).toInt := Int.not_lt.mp (fun h => c15 ((cv_lt rfl (by decide)).mpr h))
            refine lv_iload_n hx hb dX6_resume_18 rfl (lv_at hl 3 rfl) ?_
            refine lv_aload_n hx hb dX6_resume_19 rfl (lv_at hl 0 rfl) ?_
            refine r_get (v := .ref (a 1)) C G hX6 0 rfl rfl 0 (by decide) (by decide +kernel) rfl dX6_resume_20 ?_
            refine r_getN (v := .int (nI (I 3))) C G hX4 1 rfl rfl 3 (by decide) (by decide +kernel) rfl dX6_resume_23 ?_
            refine lv_icmp_le (tgt := 31) hx hb dX6_resume_26 (by decide) (fun c26 => ?_) (fun c26 => ?_)
            · skip
              replace c26 : (z).toInt ≤ ((I 3 : Nat) : Int) := (cv_le rfl (nI_toInt (by omega))).mp c26
              obtain ⟨x1, hx1, ex1, rfl⟩ := nat_of (x := x) (by omega)
              obtain ⟨y1, hy1, ey1, rfl⟩ := nat_of (x := y) (by omega)
              obtain ⟨z1, hz1, ez1, rfl⟩ := nat_of (x := z) (by omega)
              refine lv_aload_n hx hb dX6_resume_31 rfl (lv_at hl 0 rfl) ?_
              refine lv_iload_n hx hb dX6_resume_32 rfl (lv_at hl 1 rfl) ?_
              refine r_put (ws' := bW cI cO a ca ia n O (va_up I 0 x1) J F E K G0) C G hX6 tyX6_ok nmX6 0 rfl rfl 5 (by decide) (by decide +kernel) rfl rfl rfl (Nat.le_of_ble_eq_true rfl) dX6_resume_33 rfl (fun H locs G => ?_)
              refine lv_aload_n hx hb dX6_resume_36 rfl (lv_at hl 0 rfl) ?_
              refine lv_iload_n hx hb dX6_resume_37 rfl (lv_at hl 2 rfl) ?_
              refine r_put (ws' := bW cI cO a ca ia n O (va_up (va_up I 0 x1) 1 y1) J F E K G0) C G hX6 tyX6_ok nmX6 0 rfl rfl 6 (by decide) (by decide +kernel) rfl rfl rfl (Nat.le_of_ble_eq_true rfl) dX6_resume_38 rfl (fun H locs G => ?_)
              refine lv_aload_n hx hb dX6_resume_41 rfl (lv_at hl 0 rfl) ?_
              refine lv_iload_n hx hb dX6_resume_42 rfl (lv_at hl 3 rfl) ?_
              refine r_put (ws' := bW cI cO a ca ia n O (va_up (va_up (va_up I 0 x1) 1 y1) 2 z1) J F E K G0) C G hX6 tyX6_ok nmX6 0 rfl rfl 7 (by decide) (by decide +kernel) rfl rfl rfl (Nat.le_of_ble_eq_true rfl) dX6_resume_43 rfl (fun H locs G => ?_)
              refine lv_iconst (v := (nI (1))) hx hb dX6_resume_46 (by decide) ?_
              exact RET (nI (1)) (bW cI cO a ca ia n O (va_up (va_up (va_up I 0 x1) 1 y1) 2 z1) J F E K G0) _ _ ls _ _ _ (by rw [tn_nI hx1, tn_nI hy1, tn_nI hz1]; exact Or.inr (⟨by omega, rfl, rfl⟩)) G (by first | (simp only []; omega) | decide) (by first | (simp only []; omega) | decide) rfl dX6_resume_47
            · skip
              replace c26 : ((I 3 : Nat) : Int) < (z).toInt := Int.not_le.mp (fun h => c26 ((cv_le rfl (nI_toInt (by omega))).mpr h))
              refine lv_iconst (v := ((-1))) hx hb dX6_resume_29 (by decide) ?_
              exact RET ((-1)) (bW cI cO a ca ia n O I J F E K G0) _ _ ls _ _ _ (Or.inl (⟨by omega, rfl, rfl⟩)) G (by first | (simp only []; omega) | decide) (by first | (simp only []; omega) | decide) rfl dX6_resume_30
      · skip
        refine lv_if_eq (tgt := 29) hx hb dX6_resume_11 (by decide) (fun c11 => ?_) (fun c11 => ?_)
        · skip
          refine lv_iconst (v := ((-1))) hx hb dX6_resume_29 (by decide) ?_
          exact RET ((-1)) (bW cI cO a ca ia n O I J F E K G0) _ _ ls _ _ _ (Or.inl (⟨by omega, rfl, rfl⟩)) G (by first | (simp only []; omega) | decide) (by first | (simp only []; omega) | decide) rfl dX6_resume_30
        · skip
          exact absurd c11 (by decide)
  · skip
    refine lv_if_eq (tgt := 29) hx hb dX6_resume_4 (by decide) (fun c4 => ?_) (fun c4 => ?_)
    · skip
      refine lv_iconst (v := ((-1))) hx hb dX6_resume_29 (by decide) ?_
      exact RET ((-1)) (bW cI cO a ca ia n O I J F E K G0) _ _ ls _ _ _ (Or.inl (⟨by omega, rfl, rfl⟩)) G (by first | (simp only []; omega) | decide) (by first | (simp only []; omega) | decide) rfl dX6_resume_30
    · skip
      exact absurd c4 (by decide)
set_option maxHeartbeats 4000000 in
set_option maxRecDepth 100000 in
theorem c_X6_at (l : Launch) (D : va_G) (cI cO cL : ClassId) (a ca ia : Nat → Nat) (n : Nat) (O : Nat → Option Nat) (I : Nat → Nat) (J : Nat → Int64) (F : Nat → Nat → Nat) (E : Nat → Nat → Int32) (K : Nat → Nat → Nat) (G0 : Nat → Nat → Int32) (x : Int32) : Ki l yX6_at wsX6_at { frames := 0, cells := 0, slots := 0, locals := 0 } D (TY cI cO cL) [.ref (a 0), .int (x)] (bW cI cO a ca ia n O I J F E K G0) (fun r w => (x.toInt = 0 ∧ r = nI (I 0) ∧ w = bW cI cO a ca ia n O I J F E K G0) ∨ (x.toInt = 1 ∧ r = nI (I 1) ∧ w = bW cI cO a ca ia n O I J F E K G0) ∨ (x.toInt = 2 ∧ r = nI (I 2) ∧ w = bW cI cO a ca ia n O I J F E K G0) ∨ ((x.toInt < 0 ∨ 2 < x.toInt) ∧ r = -1 ∧ w = bW cI cO a ca ia n O I J F E K G0)) := by
  refine Ki.mk (cc := cX6_at) (maxL := 2) (rt := .int) (own := RX6) (by decide) rfl rfl (Nat.le_of_ble_eq_true rfl) ?_
  intro p e s m below meth c A Q ls C hname hA G hl RET
  obtain ⟨⟨hx, hb, hml, hown, hts⟩, hK, hN⟩ := id C
  have hl : lv_has ls 2 [(0, .ref (a 0)), (1, .int (x))] := hl
  have hX6 : ∀ w ∈ u_ws RX6 TX6 8, w ∈ wsX6_at := by decide +kernel
  refine lv_iload_n hx hb dX6_at_0 rfl (lv_at hl 1 rfl) ?_
  by_cases k1_0 : x = nI 0
  · skip
    refine r_top (y := nI 0) k1_0 ?_
    refine lv_tableIn (off := (27)) (tgt := 28) hx hb dX6_at_1 (by decide) (by decide) (by decide) (by decide) ?_
    refine lv_aload_n hx hb dX6_at_28 rfl (lv_at hl 0 rfl) ?_
    refine r_get (v := .int (nI (I 0))) C G hX6 0 rfl rfl 5 (by decide) (by decide +kernel) rfl dX6_at_29 ?_
    exact RET (nI (I 0)) (bW cI cO a ca ia n O I J F E K G0) _ _ ls _ _ _ (by have ex := congrArg Int32.toInt k1_0; rw [nI_toInt (show 0 < 2 ^ 31 by omega)] at ex; exact Or.inl (⟨ex, rfl, rfl⟩)) G (by first | (simp only []; omega) | decide) (by first | (simp only []; omega) | decide) rfl dX6_at_32
  by_cases k1_1 : x = nI 1
  · skip
    refine r_top (y := nI 1) k1_1 ?_
    refine lv_tableIn (off := (32)) (tgt := 33) hx hb dX6_at_1 (by decide) (by decide) (by decide) (by decide) ?_
    refine lv_aload_n hx hb dX6_at_33 rfl (lv_at hl 0 rfl) ?_
    refine r_get (v := .int (nI (I 1))) C G hX6 0 rfl rfl 6 (by decide) (by decide +kernel) rfl dX6_at_34 ?_
    exact RET (nI (I 1)) (bW cI cO a ca ia n O I J F E K G0) _ _ ls _ _ _ (by have ex := congrArg Int32.toInt k1_1; rw [nI_toInt (show 1 < 2 ^ 31 by omega)] at ex; exact Or.inr (Or.inl (⟨ex, rfl, rfl⟩))) G (by first | (simp only []; omega) | decide) (by first | (simp only []; omega) | decide) rfl dX6_at_37
  by_cases k1_2 : x = nI 2
  · skip
    refine r_top (y := nI 2) k1_2 ?_
    refine lv_tableIn (off := (37)) (tgt := 38) hx hb dX6_at_1 (by decide) (by decide) (by decide) (by decide) ?_
    refine lv_aload_n hx hb dX6_at_38 rfl (lv_at hl 0 rfl) ?_
    refine r_get (v := .int (nI (I 2))) C G hX6 0 rfl rfl 7 (by decide) (by decide +kernel) rfl dX6_at_39 ?_
    exact RET (nI (I 2)) (bW cI cO a ca ia n O I J F E K G0) _ _ ls _ _ _ (by have ex := congrArg Int32.toInt k1_2; rw [nI_toInt (show 2 < 2 ^ 31 by omega)] at ex; exact Or.inr (Or.inr (Or.inl (⟨ex, rfl, rfl⟩)))) G (by first | (simp only []; omega) | decide) (by first | (simp only []; omega) | decide) rfl dX6_at_42
  have ko1 : (x).toInt < (0) ∨ (2) < (x).toInt := by
    have z0 := lv_neT (a := (0)) k1_0 (by decide)
    have z1 := lv_neT (a := (1)) k1_1 (by decide)
    have z2 := lv_neT (a := (2)) k1_2 (by decide)
    omega
  refine lv_tableOut (tgt := 43) hx hb dX6_at_1 ko1 (by decide) ?_
  refine lv_iconst (v := ((-1))) hx hb dX6_at_43 (by decide) ?_
  exact RET ((-1)) (bW cI cO a ca ia n O I J F E K G0) _ _ ls _ _ _ (Or.inr (Or.inr (Or.inr (⟨by omega, rfl, rfl⟩)))) G (by first | (simp only []; omega) | decide) (by first | (simp only []; omega) | decide) rfl dX6_at_44
set_option maxHeartbeats 4000000 in
set_option maxRecDepth 100000 in
theorem c_X6_out (l : Launch) (D : va_G) (cI cO cL : ClassId) (a ca ia : Nat → Nat) (n : Nat) (O : Nat → Option Nat) (I : Nat → Nat) (J : Nat → Int64) (F : Nat → Nat → Nat) (E : Nat → Nat → Int32) (K : Nat → Nat → Nat) (G0 : Nat → Nat → Int32) (x : Int32) (h9 : I 9 ≤ 2) (h10 : I 10 ≤ 40) (h11 : I 11 ≤ 40) (h12 : I 12 ≤ 1600) : Ki l yX6_out wsX6_out { frames := 2, cells := 0, slots := 0, locals := 42 } D (TY cI cO cL) [.ref (a 0), .int (x)] (bW cI cO a ca ia n O I J F E K G0) (fun r w => (I 9 = 2 ∧ r = -11 ∧ w = bW cI cO a ca ia n O I J F E K G0) ∨ (I 9 ≠ 2 ∧ x = (-1) ∧ r = nI (I 12) ∧ w = bW cI cO a ca ia n O I J F E K G0) ∨ (I 9 ≠ 2 ∧ x = (-2) ∧ r = nI (I 10) ∧ w = bW cI cO a ca ia n O I J F E K G0) ∨ (I 9 ≠ 2 ∧ x = (-3) ∧ r = nI (I 11) ∧ w = bW cI cO a ca ia n O I J F E K G0) ∨ (I 9 ≠ 2 ∧ (0 ≤ x.toInt ∧ x.toInt < I 12) ∧ r = E 0 (tn x) ∧ w = bW cI cO a ca ia n O I J F E K G0) ∨ (I 9 ≠ 2 ∧ (x.toInt < (-3) ∨ (-1) < x.toInt) ∧ ¬ (0 ≤ x.toInt ∧ x.toInt < I 12) ∧ r = -13 ∧ w = bW cI cO a ca ia n O I J F E K G0)) := by
  refine Ki.mk (cc := cX6_out) (maxL := 2) (rt := .int) (own := RX6) (by decide) rfl rfl (Nat.le_of_ble_eq_true rfl) ?_
  intro p e s m below meth c A Q ls C hname hA G hl RET
  obtain ⟨⟨hx, hb, hml, hown, hts⟩, hK, hN⟩ := id C
  have hl : lv_has ls 2 [(0, .ref (a 0)), (1, .int (x))] := hl
  have hX1 : ∀ w ∈ u_ws RX1 TX1 5, w ∈ wsX6_out := by decide +kernel
  have hX6 : ∀ w ∈ u_ws RX6 TX6 8, w ∈ wsX6_out := by decide +kernel
  refine lv_aload_n hx hb dX6_out_0 rfl (lv_at hl 0 rfl) ?_
  refine r_get (v := .ref (a 14)) C G hX6 0 rfl rfl 4 (by decide) (by decide +kernel) rfl dX6_out_1 ?_
  refine r_getN (v := .int (nI (I 9))) C G hX1 14 rfl rfl 1 (by decide) (by decide +kernel) rfl dX6_out_4 ?_
  refine lv_iconst (v := (nI (2))) hx hb dX6_out_7 (by decide) ?_
  refine lv_icmp_ne (tgt := 14) hx hb dX6_out_8 (by decide) (fun c8 => ?_) (fun c8 => ?_)
  · skip
    replace c8 : ¬ ((I 9 : Nat) : Int) = ((2 : Nat) : Int) := fun h => c8 ((cv_eq (nI_toInt (by omega)) (nI_toInt (by omega))).mpr h)
    refine lv_iload_n hx hb dX6_out_14 rfl (lv_at hl 1 rfl) ?_
    by_cases k15_0 : x = (-3)
    · skip
      refine r_top (y := (-3)) k15_0 ?_
      refine lv_tableIn (off := (41)) (tgt := 56) hx hb dX6_out_15 (by decide) (by decide) (by decide) (by decide) ?_
      refine lv_aload_n hx hb dX6_out_56 rfl (lv_at hl 0 rfl) ?_
      refine r_get (v := .ref (a 14)) C G hX6 0 rfl rfl 4 (by decide) (by decide +kernel) rfl dX6_out_57 ?_
      refine r_getN (v := .int (nI (I 11))) C G hX1 14 rfl rfl 3 (by decide) (by decide +kernel) rfl dX6_out_60 ?_
      exact RET (nI (I 11)) (bW cI cO a ca ia n O I J F E K G0) _ _ ls _ _ _ (Or.inr (Or.inr (Or.inr (Or.inl (⟨by omega, k15_0, rfl, rfl⟩))))) G (by first | (simp only []; omega) | decide) (by first | (simp only []; omega) | decide) rfl dX6_out_63
    by_cases k15_1 : x = (-2)
    · skip
      refine r_top (y := (-2)) k15_1 ?_
      refine lv_tableIn (off := (33)) (tgt := 48) hx hb dX6_out_15 (by decide) (by decide) (by decide) (by decide) ?_
      refine lv_aload_n hx hb dX6_out_48 rfl (lv_at hl 0 rfl) ?_
      refine r_get (v := .ref (a 14)) C G hX6 0 rfl rfl 4 (by decide) (by decide +kernel) rfl dX6_out_49 ?_
      refine r_getN (v := .int (nI (I 10))) C G hX1 14 rfl rfl 2 (by decide) (by decide +kernel) rfl dX6_out_52 ?_
      exact RET (nI (I 10)) (bW cI cO a ca ia n O I J F E K G0) _ _ ls _ _ _ (Or.inr (Or.inr (Or.inl (⟨by omega, k15_1, rfl, rfl⟩)))) G (by first | (simp only []; omega) | decide) (by first | (simp only []; omega) | decide) rfl dX6_out_55
    by_cases k15_2 : x = (-1)
    · skip
      refine r_top (y := (-1)) k15_2 ?_
      refine lv_tableIn (off := (25)) (tgt := 40) hx hb dX6_out_15 (by decide) (by decide) (by decide) (by decide) ?_
      refine lv_aload_n hx hb dX6_out_40 rfl (lv_at hl 0 rfl) ?_
      refine r_get (v := .ref (a 14)) C G hX6 0 rfl rfl 4 (by decide) (by decide +kernel) rfl dX6_out_41 ?_
      refine r_getN (v := .int (nI (I 12))) C G hX1 14 rfl rfl 4 (by decide) (by decide +kernel) rfl dX6_out_44 ?_
      exact RET (nI (I 12)) (bW cI cO a ca ia n O I J F E K G0) _ _ ls _ _ _ (Or.inr (Or.inl (⟨by omega, k15_2, rfl, rfl⟩))) G (by first | (simp only []; omega) | decide) (by first | (simp only []; omega) | decide) rfl dX6_out_47
    have ko15 : (x).toInt < (-3) ∨ (-1) < (x).toInt := by
      have z0 := lv_neT (a := (-3)) k15_0 (by decide)
      have z1 := lv_neT (a := (-2)) k15_1 (by decide)
      have z2 := lv_neT (a := (-1)) k15_2 (by decide)
      omega
    refine lv_tableOut (tgt := 64) hx hb dX6_out_15 ko15 (by decide) ?_
    refine lv_aload_n hx hb dX6_out_64 rfl (lv_at hl 0 rfl) ?_
    refine r_get (v := .ref (a 14)) C G hX6 0 rfl rfl 4 (by decide) (by decide +kernel) rfl dX6_out_65 ?_
    refine lv_iload_n hx hb dX6_out_68 rfl (lv_at hl 1 rfl) ?_
    refine r_ai G hA (r_rV (na := 1) (As := [.int (x)]) (rest := []) C G (c_X1_holds_A l D cI cO cL a ca ia n O I J F E K G0 x (by show I 12 ≤ 1600; omega)) gX6_out_X1_holds rfl (by decide +kernel) ⟨Nat.le_of_ble_eq_true rfl, Nat.le_of_ble_eq_true rfl⟩ 14 rfl rfl rfl hl.1 rfl (Nat.le_of_ble_eq_true rfl) dX6_out_69 ⟨by first | (simp only []; omega) | decide, by first | (simp only []; omega) | decide⟩) (fun r69 w69 H locs hp69 G => ?_)
    rcases hp69 with ⟨rfl, rfl, hi69⟩ | ⟨rfl, rfl, hi69⟩
    · skip
      replace hi69 : 0 ≤ (x).toInt ∧ (x).toInt < (I 12 : Nat) := hi69
      refine lv_if_eq (tgt := 86) hx hb dX6_out_72 (by decide) (fun c72 => ?_) (fun c72 => ?_)
      · skip
        exact absurd c72 (by decide)
      · skip
        obtain ⟨x1, hx1, ex1, rfl⟩ := nat_of (x := x) (by omega)
        refine lv_aload_n hx hb dX6_out_75 rfl (lv_at hl 0 rfl) ?_
        refine r_get (v := .ref (a 14)) C G hX6 0 rfl rfl 4 (by decide) (by decide +kernel) rfl dX6_out_76 ?_
        refine lv_iload_n hx hb dX6_out_79 rfl (lv_at hl 1 rfl) ?_
        refine r_ai G hA (r_rV (na := 1) (As := [.int (nI (x1))]) (rest := []) C G (c_X1_item_A l D cI cO cL a ca ia n O I J F E K G0 x1 (by show I 12 ≤ 1600; omega) (by show x1 < I 12; omega)) gX6_out_X1_item rfl (by decide +kernel) ⟨Nat.le_of_ble_eq_true rfl, Nat.le_of_ble_eq_true rfl⟩ 14 rfl rfl rfl hl.1 rfl (Nat.le_of_ble_eq_true rfl) dX6_out_80 ⟨by first | (simp only []; omega) | decide, by first | (simp only []; omega) | decide⟩) (fun r80 w80 H locs hp80 G => ?_)
        obtain ⟨rfl, rfl⟩ := hp80
        refine r_top (y := (E 0) x1) rfl ?_
        refine lv_goto (tgt := 88) hx hb dX6_out_83 (by decide) ?_
        exact RET ((E 0) x1) (bW cI cO a ca ia n O I J F E K G0) _ _ ls _ _ _ (by rw [tn_nI hx1]; exact Or.inr (Or.inr (Or.inr (Or.inr (Or.inl (⟨by omega, by omega, rfl, rfl⟩)))))) G (by first | (simp only []; omega) | decide) (by first | (simp only []; omega) | decide) rfl dX6_out_88
    · skip
      replace hi69 : ¬ (0 ≤ (x).toInt ∧ (x).toInt < (I 12 : Nat)) := hi69
      refine lv_if_eq (tgt := 86) hx hb dX6_out_72 (by decide) (fun c72 => ?_) (fun c72 => ?_)
      · skip
        refine lv_bipush (v := ((-13))) hx hb dX6_out_86 (by decide) ?_
        exact RET ((-13)) (bW cI cO a ca ia n O I J F E K G0) _ _ ls _ _ _ (Or.inr (Or.inr (Or.inr (Or.inr (Or.inr (⟨by omega, ko15, by omega, rfl, rfl⟩)))))) G (by first | (simp only []; omega) | decide) (by first | (simp only []; omega) | decide) rfl dX6_out_88
      · skip
        exact absurd c72 (by decide)
  · skip
    replace c8 : ((I 9 : Nat) : Int) = ((2 : Nat) : Int) := (cv_eq (nI_toInt (by omega)) (nI_toInt (by omega))).mp c8
    refine lv_bipush (v := ((-11))) hx hb dX6_out_11 (by decide) ?_
    exact RET ((-11)) (bW cI cO a ca ia n O I J F E K G0) _ _ ls _ _ _ (Or.inl (⟨by omega, rfl, rfl⟩)) G (by first | (simp only []; omega) | decide) (by first | (simp only []; omega) | decide) rfl dX6_out_13
set_option maxHeartbeats 4000000 in
set_option maxRecDepth 100000 in
theorem c_X6_like (l : Launch) (D : va_G) (cI cO cL : ClassId) (a ca ia : Nat → Nat) (n : Nat) (O : Nat → Option Nat) (I : Nat → Nat) (J : Nat → Int64) (F : Nat → Nat → Nat) (E : Nat → Nat → Int32) (K : Nat → Nat → Nat) (G0 : Nat → Nat → Int32) (x : Int32) (hn : I 3 ≤ 60) (hO : ∀ j, j < I 3 → O j = some (ca j)) (hin : I 3 ≤ n) (hRm : ∀ j, j < I 3 → K 3 j ≤ K 4 j ∧ K 4 j ≤ 1600) (hK0 : ∀ j, j < I 3 → K 0 j ≤ 2 ∧ K 1 j ≤ 40 ∧ K 2 j ≤ 40) (h9 : I 9 ≤ 2) (h10 : I 10 ≤ 40) (h11 : I 11 ≤ 40) (h12 : I 12 ≤ 1600) : Ki l yX6_like wsX6_like { frames := 3, cells := 0, slots := 0, locals := 64 } D (TY cI cO cL) [.ref (a 0), .int (x)] (bW cI cO a ca ia n O I J F E K G0) (fun r w => (¬ (0 ≤ x.toInt ∧ x.toInt < I 3) ∧ r = -1 ∧ w = bW cI cO a ca ia n O I J F E K G0) ∨ ((0 ≤ x.toInt ∧ x.toInt < I 3) ∧ (K 0 (tn x) = I 9 ∧ K 1 (tn x) = I 10 ∧ K 2 (tn x) = I 11 ∧ K 3 (tn x) = I 12 ∧ ∀ k, k < K 3 (tn x) → G0 (tn x) k = E 0 k) ∧ r = 1 ∧ w = bW cI cO a ca ia n O I J F E K G0) ∨ ((0 ≤ x.toInt ∧ x.toInt < I 3) ∧ ¬ (K 0 (tn x) = I 9 ∧ K 1 (tn x) = I 10 ∧ K 2 (tn x) = I 11 ∧ K 3 (tn x) = I 12 ∧ ∀ k, k < K 3 (tn x) → G0 (tn x) k = E 0 k) ∧ r = 0 ∧ w = bW cI cO a ca ia n O I J F E K G0)) := by
  refine Ki.mk (cc := cX6_like) (maxL := 3) (rt := .int) (own := RX6) (by decide) rfl rfl (Nat.le_of_ble_eq_true rfl) ?_
  intro p e s m below meth c A Q ls C hname hA G hl RET
  obtain ⟨⟨hx, hb, hml, hown, hts⟩, hK, hN⟩ := id C
  have hl : lv_has ls 3 [(0, .ref (a 0)), (1, .int (x))] := hl
  have hX6 : ∀ w ∈ u_ws RX6 TX6 8, w ∈ wsX6_like := by decide +kernel
  refine lv_aload_n hx hb dX6_like_0 rfl (lv_at hl 0 rfl) ?_
  refine r_get (v := .ref (a 1)) C G hX6 0 rfl rfl 0 (by decide) (by decide +kernel) rfl dX6_like_1 ?_
  refine lv_iload_n hx hb dX6_like_4 rfl (lv_at hl 1 rfl) ?_
  refine r_aq G hA (r_rV (na := 1) (As := [.int (x)]) (rest := []) C G (c_X4_find l D cI cO cL a ca ia n O I J F E K G0 x hn hO) gX6_like_X4_find rfl (by decide +kernel) ⟨Nat.le_of_ble_eq_true rfl, Nat.le_of_ble_eq_true rfl⟩ 1 rfl rfl rfl hl.1 rfl (Nat.le_of_ble_eq_true rfl) dX6_like_5 ⟨by first | (simp only []; omega) | decide, by first | (simp only []; omega) | decide⟩) (fun r5 w5 H locs hp5 G => ?_)
  rcases hp5 with ⟨rfl, rfl, hi5⟩ | ⟨rfl, rfl, hi5⟩
  · skip
    refine r_st (st' := [.ref (ca (tn x))]) rfl ?_
    obtain ⟨x1, hx1, ex1, rfl⟩ := nat_of (x := x) (by omega)
    rw [tn_nI hx1]
    have hRx := hRm x1 (by omega)
    have hKx := hK0 x1 (by omega)
    refine lv_astore_n (lv' := [(2, .ref (ca x1)), (0, .ref (a 0)), (1, .int (nI (x1)))]) hx hb dX6_like_8 rfl hl (by decide) rfl (fun ls hl => ?_)
    refine lv_aload_n hx hb dX6_like_9 rfl (lv_at hl 0 rfl) ?_
    refine lv_ifnonnull (tgt := 15) hx hb dX6_like_10 (by decide) ?_
    refine lv_aload_n hx hb dX6_like_15 rfl (lv_at hl 0 rfl) ?_
    refine lv_aload_n hx hb dX6_like_16 rfl (lv_at hl 1 rfl) ?_
    refine r_get (v := .ref (a 14)) C G hX6 0 rfl rfl 4 (by decide) (by decide +kernel) rfl dX6_like_17 ?_
    refine r_ai G hA (r_rV (na := 1) (As := [.ref (a 14)]) (rest := []) C G (c_X1_isLike l D cI cO cL a ca ia n O I J F E K G0 x1 (by omega) (by omega) (by omega) (by omega) (by omega) (by omega) (by omega) (by omega) (by omega) (by omega)) gX6_like_X1_isLike rfl (by decide +kernel) ⟨Nat.le_of_ble_eq_true rfl, Nat.le_of_ble_eq_true rfl⟩ (16 + 2 * x1) (bW_c (by omega)) rfl rfl hl.1 rfl (Nat.le_of_ble_eq_true rfl) dX6_like_20 ⟨by first | (simp only []; omega) | decide, by first | (simp only []; omega) | decide⟩) (fun r20 w20 H locs hp20 G => ?_)
    rcases hp20 with ⟨rfl, rfl, hi20⟩ | ⟨rfl, rfl, hi20⟩
    · skip
      refine lv_if_eq (tgt := 30) hx hb dX6_like_23 (by decide) (fun c23 => ?_) (fun c23 => ?_)
      · skip
        exact absurd c23 (by decide)
      · skip
        refine lv_iconst (v := (nI (1))) hx hb dX6_like_26 (by decide) ?_
        refine lv_goto (tgt := 31) hx hb dX6_like_27 (by decide) ?_
        exact RET (nI (1)) (bW cI cO a ca ia n O I J F E K G0) _ _ ls _ _ _ (by rw [tn_nI hx1]; exact Or.inr (Or.inl (⟨by omega, hi20, rfl, rfl⟩))) G (by first | (simp only []; omega) | decide) (by first | (simp only []; omega) | decide) rfl dX6_like_31
    · skip
      refine lv_if_eq (tgt := 30) hx hb dX6_like_23 (by decide) (fun c23 => ?_) (fun c23 => ?_)
      · skip
        refine lv_iconst (v := (nI (0))) hx hb dX6_like_30 (by decide) ?_
        exact RET (nI (0)) (bW cI cO a ca ia n O I J F E K G0) _ _ ls _ _ _ (by rw [tn_nI hx1]; exact Or.inr (Or.inr (⟨by omega, hi20, rfl, rfl⟩))) G (by first | (simp only []; omega) | decide) (by first | (simp only []; omega) | decide) rfl dX6_like_31
      · skip
        exact absurd c23 (by decide)
  · skip
    refine r_st (st' := [.null]) rfl ?_
    refine lv_astore_nN (lv' := [(2, .null), (0, .ref (a 0)), (1, .int (x))]) hx hb dX6_like_8 rfl hl (by decide) rfl (fun ls hl => ?_)
    refine lv_aload_nN hx hb dX6_like_9 rfl (lv_at hl 0 rfl) ?_
    refine lv_ifnonnullN hx hb dX6_like_10 ?_
    refine lv_iconst (v := ((-1))) hx hb dX6_like_13 (by decide) ?_
    exact RET ((-1)) (bW cI cO a ca ia n O I J F E K G0) _ _ ls _ _ _ (Or.inl (⟨by omega, rfl, rfl⟩)) G (by first | (simp only []; omega) | decide) (by first | (simp only []; omega) | decide) rfl dX6_like_14
