set_option maxHeartbeats 4000000 in
set_option maxRecDepth 100000 in
theorem c_X3_layOutLabels (l : Launch) (D : va_G) (cI cO cL : ClassId) (a ca ia : Nat → Nat) (n : Nat) (O : Nat → Option Nat) (I : Nat → Nat) (J : Nat → Int64) (F : Nat → Nat → Nat) (E : Nat → Nat → Int32) (K : Nat → Nat → Nat) (G0 : Nat → Nat → Int32) (h8 : I 8 ≤ 60) (h83 : I 8 = I 3) (hn : I 3 ≤ 60) (hLb : ∀ j, j < I 3 → F 0 j < 8) : Kv l yX3_layOutLabels wsX3_layOutLabels { frames := 2, cells := 0, slots := 0, locals := 42 } D (TY cI cO cL) [.ref (a 4)] (bW cI cO a ca ia n O I J F E K G0) (fun w => ∃ f4 f5 f6 f7, (∀ x, x < 8 → f4 x = fo (F 0) (I 8) x ∧ f5 x = cl (F 0) x (I 8) ∧ f6 x = cl (F 0) x (I 8) ∧ f7 x = 0) ∧ w = bW cI cO a ca ia n O I J (va_up (va_up (va_up (va_up F 4 f4) 5 f5) 6 f6) 7 f7) E K G0) := by
  refine Kv.mk (cc := cX3_layOutLabels) (maxL := 5) (own := RX3) (by decide) rfl rfl (Nat.le_of_ble_eq_true rfl) ?_
  intro p e s m below meth c A Q ls C hname hA G hl RET
  obtain ⟨⟨hx, hb, hml, hown, hts⟩, hK, hN⟩ := id C
  have hl : lv_has ls 5 [(0, .ref (a 4))] := hl
  have hX3 : ∀ w ∈ u_ws RX3 TX3 10, w ∈ wsX3_layOutLabels := by decide +kernel
  refine lv_iconst (v := (nI (0))) hx hb dX3_layOutLabels_0 (by decide) ?_
  refine lv_istore_n (lv' := [(1, .int (nI (0))), (0, .ref (a 4))]) hx hb dX3_layOutLabels_1 rfl hl (by decide) rfl (fun ls hl => ?_)
  refine lv_iconst (v := (nI (0))) hx hb dX3_layOutLabels_2 (by decide) ?_
  refine lv_istore_n (lv' := [(2, .int (nI (0))), (1, .int (nI (0))), (0, .ref (a 4))]) hx hb dX3_layOutLabels_3 rfl hl (by decide) rfl (fun ls hl => ?_)
  have lp4 : ∀ (fuel4 : Nat) (x : Nat) (f4 f5 f6 f7 : Nat → Nat) (hm : 8 - x < fuel4) (hx8 : x ≤ 8) (hall : ∀ y, y < x → f4 y = fo (F 0) (I 8) y ∧ f5 y = cl (F 0) y (I 8) ∧ f6 y = cl (F 0) y (I 8) ∧ f7 y = 0) (H : Heap) (locs : List Loc) (ls : Array Slot), Wd A s.heap D (bW cI cO a ca ia n O I J (va_up (va_up (va_up (va_up F 4 f4) 5 f5) 6 f6) 7 f7) E K G0) H locs → lv_has ls 5 [(0, .ref (a 4)), (1, .int (nI (fo (F 0) (I 8) x))), (2, .int (nI (x)))] → W p l e ({ frames := 2, cells := 0, slots := 0, locals := 42 } : Room) s m ([.ref (a 4)] : List Value).toArray below meth c H locs 0 0 Q (F0 m 4 ls []) := by
    intro fuel4
    induction fuel4 with
    | zero => intro x f4 f5 f6 f7 hm hx8 hall; exact absurd hm (by omega)
    | succ fuel4 ih4 =>
      intro x f4 f5 f6 f7 hm hx8 hall H locs ls G hl
      refine lv_iload_n hx hb dX3_layOutLabels_4 rfl (lv_at hl 2 rfl) ?_
      refine lv_bipush (v := (nI (8))) hx hb dX3_layOutLabels_5 (by decide) ?_
      refine lv_icmp_ge (tgt := 84) hx hb dX3_layOutLabels_7 (by decide) (fun c7 => ?_) (fun c7 => ?_)
      · skip
        replace c7 : ((8 : Nat) : Int) ≤ ((x : Nat) : Int) := (cv_le (nI_toInt (by omega)) (nI_toInt (by omega))).mp c7
        exact RET (bW cI cO a ca ia n O I J (va_up (va_up (va_up (va_up F 4 f4) 5 f5) 6 f6) 7 f7) E K G0) _ _ ls _ _ _ (⟨f4, f5, f6, f7, fun y hy => hall y (by omega), rfl⟩) G (by first | (simp only []; omega) | decide) (by first | (simp only []; omega) | decide) dX3_layOutLabels_84
      · skip
        replace c7 : ((x : Nat) : Int) < ((8 : Nat) : Int) := Int.not_le.mp (fun h => c7 ((cv_le (nI_toInt (by omega)) (nI_toInt (by omega))).mpr h))
        refine lv_iconst (v := (nI (0))) hx hb dX3_layOutLabels_10 (by decide) ?_
        refine lv_istore_n (lv' := [(3, .int (nI (0))), (0, .ref (a 4)), (1, .int (nI (fo (F 0) (I 8) x))), (2, .int (nI (x)))]) hx hb dX3_layOutLabels_11 rfl hl (by decide) rfl (fun ls hl => ?_)
        refine lv_iconst (v := (nI (0))) hx hb dX3_layOutLabels_12 (by decide) ?_
        refine lv_istore (lv' := [(4, .int (nI (0))), (3, .int (nI (0))), (0, .ref (a 4)), (1, .int (nI (fo (F 0) (I 8) x))), (2, .int (nI (x)))]) hx hb dX3_layOutLabels_13 hl (by decide) rfl (fun ls hl => ?_)
        have lp15 : ∀ (fuel15 : Nat) (k : Nat) (hm2 : I 8 - k < fuel15) (hk : k ≤ I 8) (H : Heap) (locs : List Loc) (ls : Array Slot), Wd A s.heap D (bW cI cO a ca ia n O I J (va_up (va_up (va_up (va_up F 4 f4) 5 f5) 6 f6) 7 f7) E K G0) H locs → lv_has ls 5 [(0, .ref (a 4)), (1, .int (nI (fo (F 0) (I 8) x))), (2, .int (nI (x))), (3, .int (nI (cl (F 0) x k))), (4, .int (nI (k)))] → W p l e ({ frames := 2, cells := 0, slots := 0, locals := 42 } : Room) s m ([.ref (a 4)] : List Value).toArray below meth c H locs 0 0 Q (F0 m 15 ls []) := by
          intro fuel15
          induction fuel15 with
          | zero => intro k hm2 hk; exact absurd hm2 (by omega)
          | succ fuel15 ih15 =>
            intro k hm2 hk H locs ls G hl
            refine lv_iload hx hb dX3_layOutLabels_15 (lv_at hl 4 rfl) ?_
            refine lv_aload_n hx hb dX3_layOutLabels_17 rfl (lv_at hl 0 rfl) ?_
            refine r_get (v := .int (nI (I 8))) C G hX3 4 rfl rfl 4 (by decide) (by decide +kernel) rfl dX3_layOutLabels_18 ?_
            refine lv_icmp_ge (tgt := 46) hx hb dX3_layOutLabels_21 (by decide) (fun c21 => ?_) (fun c21 => ?_)
            · skip
              replace c21 : ((I 8 : Nat) : Int) ≤ ((k : Nat) : Int) := (cv_le (nI_toInt (by omega)) (nI_toInt (by omega))).mp c21
              obtain rfl : k = I 8 := by omega
              have hcl := cl_le (lb := F 0) (x := x) (I 8)
              have hfo := fo_cl (lb := F 0) (n := I 8) (x := x)
              refine lv_aload_n hx hb dX3_layOutLabels_46 rfl (lv_at hl 0 rfl) ?_
              refine r_get (v := .ref (a 10)) C G hX3 4 rfl rfl 6 (by decide) (by decide +kernel) rfl dX3_layOutLabels_47 ?_
              refine lv_iload_n hx hb dX3_layOutLabels_50 rfl (lv_at hl 2 rfl) ?_
              refine lv_iload_n hx hb dX3_layOutLabels_51 rfl (lv_at hl 1 rfl) ?_
              refine r_iast (ws' := bW cI cO a ca ia n O I J (va_up (va_up (va_up (va_up F 5 f5) 6 f6) 7 f7) 4 (va_up f4 x (fo (F 0) (I 8) x))) E K G0) C G 10 0 rfl rfl x rfl (by omega) (by omega) (nI_upd _ _ _) dX3_layOutLabels_52 rfl (fun H locs G => ?_)
              refine lv_aload_n hx hb dX3_layOutLabels_53 rfl (lv_at hl 0 rfl) ?_
              refine r_get (v := .ref (a 11)) C G hX3 4 rfl rfl 7 (by decide) (by decide +kernel) rfl dX3_layOutLabels_54 ?_
              refine lv_iload_n hx hb dX3_layOutLabels_57 rfl (lv_at hl 2 rfl) ?_
              refine lv_iload_n hx hb dX3_layOutLabels_58 rfl (lv_at hl 3 rfl) ?_
              refine r_iast (ws' := bW cI cO a ca ia n O I J (va_up (va_up (va_up (va_up F 6 f6) 7 f7) 4 (va_up f4 x (fo (F 0) (I 8) x))) 5 (va_up f5 x (cl (F 0) x (I 8)))) E K G0) C G 11 0 rfl rfl x rfl (by omega) (by omega) (nI_upd _ _ _) dX3_layOutLabels_59 rfl (fun H locs G => ?_)
              refine lv_aload_n hx hb dX3_layOutLabels_60 rfl (lv_at hl 0 rfl) ?_
              refine r_get (v := .ref (a 12)) C G hX3 4 rfl rfl 8 (by decide) (by decide +kernel) rfl dX3_layOutLabels_61 ?_
              refine lv_iload_n hx hb dX3_layOutLabels_64 rfl (lv_at hl 2 rfl) ?_
              refine lv_iload_n hx hb dX3_layOutLabels_65 rfl (lv_at hl 3 rfl) ?_
              refine r_iast (ws' := bW cI cO a ca ia n O I J (va_up (va_up (va_up (va_up F 7 f7) 4 (va_up f4 x (fo (F 0) (I 8) x))) 5 (va_up f5 x (cl (F 0) x (I 8)))) 6 (va_up f6 x (cl (F 0) x (I 8)))) E K G0) C G 12 0 rfl rfl x rfl (by omega) (by omega) (nI_upd _ _ _) dX3_layOutLabels_66 rfl (fun H locs G => ?_)
              refine lv_aload_n hx hb dX3_layOutLabels_67 rfl (lv_at hl 0 rfl) ?_
              refine r_get (v := .ref (a 13)) C G hX3 4 rfl rfl 9 (by decide) (by decide +kernel) rfl dX3_layOutLabels_68 ?_
              refine lv_iload_n hx hb dX3_layOutLabels_71 rfl (lv_at hl 2 rfl) ?_
              refine lv_iconst (v := (nI (0))) hx hb dX3_layOutLabels_72 (by decide) ?_
              refine r_iast (ws' := bW cI cO a ca ia n O I J (va_up (va_up (va_up (va_up F 4 (va_up f4 x (fo (F 0) (I 8) x))) 5 (va_up f5 x (cl (F 0) x (I 8)))) 6 (va_up f6 x (cl (F 0) x (I 8)))) 7 (va_up f7 x 0)) E K G0) C G 13 0 rfl rfl x rfl (by omega) (by omega) (nI_upd _ _ _) dX3_layOutLabels_73 rfl (fun H locs G => ?_)
              refine lv_iload_n hx hb dX3_layOutLabels_74 rfl (lv_at hl 1 rfl) ?_
              refine lv_iload_n hx hb dX3_layOutLabels_75 rfl (lv_at hl 3 rfl) ?_
              refine r_iadd hx hb dX3_layOutLabels_76 ?_
              refine lv_istore_n (lv' := [(1, .int (nI ((fo (F 0) (I 8) x) + (cl (F 0) x (I 8))))), (0, .ref (a 4)), (2, .int (nI (x))), (3, .int (nI (cl (F 0) x (I 8)))), (4, .int (nI (I 8)))]) hx hb dX3_layOutLabels_77 rfl hl (by decide) rfl (fun ls hl => ?_)
              refine lv_iinc (v := nI (x + 1)) (lv' := [(2, .int (nI (x + 1))), (1, .int (nI ((fo (F 0) (I 8) x) + (cl (F 0) x (I 8))))), (0, .ref (a 4)), (3, .int (nI (cl (F 0) x (I 8)))), (4, .int (nI (I 8)))]) hx hb dX3_layOutLabels_78 hl (k := 2) rfl (inc_n _ 1) (by decide) rfl (fun ls hl => ?_)
              refine lv_goto (tgt := 4) hx hb dX3_layOutLabels_81 (by decide) ?_
              exact ih4 (x + 1) (va_up f4 x (fo (F 0) (I 8) x)) (va_up f5 x (cl (F 0) x (I 8))) (va_up f6 x (cl (F 0) x (I 8))) (va_up f7 x 0) (by omega) (by omega) (fun y hy => by rcases Nat.lt_or_ge y x with z | z; (rw [up_ne _ _ (by omega), up_ne _ _ (by omega), up_ne _ _ (by omega), up_ne _ _ (by omega)]; exact hall y z); (obtain rfl : y = x := (by omega); rw [up_same, up_same, up_same, up_same]; exact ⟨rfl, rfl, rfl, rfl⟩)) _ _ _ (G.eq (rfl)) (lv_sub hl [2, 1, 0] rfl)
            · skip
              replace c21 : ((k : Nat) : Int) < ((I 8 : Nat) : Int) := Int.not_le.mp (fun h => c21 ((cv_le (nI_toInt (by omega)) (nI_toInt (by omega))).mpr h))
              have hLk := hLb k (by omega)
              refine lv_aload_n hx hb dX3_layOutLabels_24 rfl (lv_at hl 0 rfl) ?_
              refine r_get (v := .ref (a 1)) C G hX3 4 rfl rfl 0 (by decide) (by decide +kernel) rfl dX3_layOutLabels_25 ?_
              refine lv_iload hx hb dX3_layOutLabels_28 (lv_at hl 4 rfl) ?_
              refine r_ai G hA (r_rV (na := 1) (As := [.int (nI (k))]) (rest := []) C G (c_X4_label l D cI cO cL a ca ia n O I J (va_up (va_up (va_up (va_up F 4 f4) 5 f5) 6 f6) 7 f7) E K G0 k hn (by omega)) gX3_layOutLabels_X4_label rfl (by decide +kernel) ⟨Nat.le_of_ble_eq_true rfl, Nat.le_of_ble_eq_true rfl⟩ 1 rfl rfl rfl hl.1 rfl (Nat.le_of_ble_eq_true rfl) dX3_layOutLabels_30 ⟨by first | (simp only []; omega) | decide, by first | (simp only []; omega) | decide⟩) (fun r30 w30 H locs hp30 G => ?_)
              obtain ⟨rfl, rfl⟩ := hp30
              refine r_top (y := nI ((F 0) k)) rfl ?_
              refine lv_iload_n hx hb dX3_layOutLabels_33 rfl (lv_at hl 2 rfl) ?_
              refine lv_icmp_ne (tgt := 40) hx hb dX3_layOutLabels_34 (by decide) (fun c34 => ?_) (fun c34 => ?_)
              · skip
                replace c34 : ¬ (((F 0) k : Nat) : Int) = ((x : Nat) : Int) := fun h => c34 ((cv_eq (nI_toInt (by omega)) (nI_toInt (by omega))).mpr h)
                rw [← cl_n (lb := F 0) (x := x) (r := k) (by omega)] at hl
                refine lv_iinc (v := nI (k + 1)) (lv' := [(4, .int (nI (k + 1))), (0, .ref (a 4)), (1, .int (nI (fo (F 0) (I 8) x))), (2, .int (nI (x))), (3, .int (nI (cl (F 0) x (k + 1))))]) hx hb dX3_layOutLabels_40 hl (k := 4) rfl (inc_n _ 1) (by decide) rfl (fun ls hl => ?_)
                refine lv_goto (tgt := 15) hx hb dX3_layOutLabels_43 (by decide) ?_
                exact ih15 (k + 1) (by omega) (by omega) _ _ _ (G.eq (rfl)) (lv_sub hl [1, 2, 3, 4, 0] rfl)
              · skip
                replace c34 : (((F 0) k : Nat) : Int) = ((x : Nat) : Int) := (cv_eq (nI_toInt (by omega)) (nI_toInt (by omega))).mp c34
                refine lv_iinc (v := nI ((cl (F 0) x k) + 1)) (lv' := [(3, .int (nI ((cl (F 0) x k) + 1))), (0, .ref (a 4)), (1, .int (nI (fo (F 0) (I 8) x))), (2, .int (nI (x))), (4, .int (nI (k)))]) hx hb dX3_layOutLabels_37 hl (k := 3) rfl (inc_n _ 1) (by decide) rfl (fun ls hl => ?_)
                rw [← cl_y (lb := F 0) (x := x) (r := k) (by omega)] at hl
                refine lv_iinc (v := nI (k + 1)) (lv' := [(4, .int (nI (k + 1))), (3, .int (nI (cl (F 0) x (k + 1)))), (0, .ref (a 4)), (1, .int (nI (fo (F 0) (I 8) x))), (2, .int (nI (x)))]) hx hb dX3_layOutLabels_40 hl (k := 4) rfl (inc_n _ 1) (by decide) rfl (fun ls hl => ?_)
                refine lv_goto (tgt := 15) hx hb dX3_layOutLabels_43 (by decide) ?_
                exact ih15 (k + 1) (by omega) (by omega) _ _ _ (G.eq (rfl)) (lv_sub hl [2, 3, 4, 1, 0] rfl)
        exact lp15 (I 8 + 1) 0 (by omega) (by omega) _ _ _ (G.eq (rfl)) (lv_sub hl [2, 3, 4, 1, 0] rfl)
  exact lp4 9 0 (F 4) (F 5) (F 6) (F 7) (by omega) (by omega) (fun y hy => by omega) _ _ _ (G.eq (rfl)) (lv_sub hl [2, 1, 0] rfl)
set_option maxHeartbeats 4000000 in
set_option maxRecDepth 100000 in
theorem c_X3_rowHeld (l : Launch) (D : va_G) (cI cO cL : ClassId) (a ca ia : Nat → Nat) (n : Nat) (O : Nat → Option Nat) (I : Nat → Nat) (J : Nat → Int64) (F : Nat → Nat → Nat) (E : Nat → Nat → Int32) (K : Nat → Nat → Nat) (G0 : Nat → Nat → Int32) (k : Nat) (hk : k < 60) : Ki l yX3_rowHeld wsX3_rowHeld { frames := 0, cells := 0, slots := 0, locals := 0 } D (TY cI cO cL) [.ref (a 4), .int (nI (k))] (bW cI cO a ca ia n O I J F E K G0) (fun r w => r = nI (F 3 k) ∧ w = bW cI cO a ca ia n O I J F E K G0) := by
  refine Ki.mk (cc := cX3_rowHeld) (maxL := 2) (rt := .int) (own := RX3) (by decide) rfl rfl (Nat.le_of_ble_eq_true rfl) ?_
  intro p e s m below meth c A Q ls C hname hA G hl RET
  obtain ⟨⟨hx, hb, hml, hown, hts⟩, hK, hN⟩ := id C
  have hl : lv_has ls 2 [(0, .ref (a 4)), (1, .int (nI (k)))] := hl
  have hX3 : ∀ w ∈ u_ws RX3 TX3 10, w ∈ wsX3_rowHeld := by decide +kernel
  refine lv_iload_n hx hb dX3_rowHeld_0 rfl (lv_at hl 1 rfl) ?_
  refine lv_if_lt (tgt := 22) hx hb dX3_rowHeld_1 (by decide) (fun c1 => ?_) (fun c1 => ?_)
  · skip
    replace c1 : ((k : Nat) : Int) < (0) := (cv_lt (nI_toInt (by omega)) (by decide)).mp c1
    exact absurd c1 (by omega)
  · skip
    replace c1 : (0) ≤ ((k : Nat) : Int) := Int.not_lt.mp (fun h => c1 ((cv_lt (nI_toInt (by omega)) (by decide)).mpr h))
    refine lv_iload_n hx hb dX3_rowHeld_4 rfl (lv_at hl 1 rfl) ?_
    refine lv_aload_n hx hb dX3_rowHeld_5 rfl (lv_at hl 0 rfl) ?_
    refine r_get (v := .ref (a 9)) C G hX3 4 rfl rfl 5 (by decide) (by decide +kernel) rfl dX3_rowHeld_6 ?_
    refine r_alen C G 9 0 rfl rfl dX3_rowHeld_9 ?_
    refine r_top (y := nI (60)) rfl ?_
    refine lv_icmp_ge (tgt := 22) hx hb dX3_rowHeld_10 (by decide) (fun c10 => ?_) (fun c10 => ?_)
    · skip
      replace c10 : ((60 : Nat) : Int) ≤ ((k : Nat) : Int) := (cv_le (nI_toInt (by omega)) (nI_toInt (by omega))).mp c10
      exact absurd c10 (by omega)
    · skip
      replace c10 : ((k : Nat) : Int) < ((60 : Nat) : Int) := Int.not_le.mp (fun h => c10 ((cv_le (nI_toInt (by omega)) (nI_toInt (by omega))).mpr h))
      refine lv_aload_n hx hb dX3_rowHeld_13 rfl (lv_at hl 0 rfl) ?_
      refine r_get (v := .ref (a 9)) C G hX3 4 rfl rfl 5 (by decide) (by decide +kernel) rfl dX3_rowHeld_14 ?_
      refine lv_iload_n hx hb dX3_rowHeld_17 rfl (lv_at hl 1 rfl) ?_
      refine r_iald (v := nI ((F 3) k)) C G 9 0 rfl rfl k rfl (by omega) (by omega) rfl dX3_rowHeld_18 ?_
      refine lv_goto (tgt := 24) hx hb dX3_rowHeld_19 (by decide) ?_
      exact RET (nI ((F 3) k)) (bW cI cO a ca ia n O I J F E K G0) _ _ ls _ _ _ (⟨rfl, rfl⟩) G (by first | (simp only []; omega) | decide) (by first | (simp only []; omega) | decide) rfl dX3_rowHeld_24
set_option maxHeartbeats 4000000 in
set_option maxRecDepth 100000 in
theorem c_X3_mixLabel (l : Launch) (D : va_G) (cI cO cL : ClassId) (a ca ia : Nat → Nat) (n : Nat) (O : Nat → Option Nat) (I : Nat → Nat) (J : Nat → Int64) (F : Nat → Nat → Nat) (E : Nat → Nat → Int32) (K : Nat → Nat → Nat) (G0 : Nat → Nat → Int32) (x rd : Nat) (h8 : I 8 ≤ 60) (h83 : I 8 = I 3) (hn : I 3 ≤ 60) (hLb : ∀ j, j < I 3 → F 0 j < 8) (hx8 : x < 8) (hrd : rd ≤ 1000) (hf4 : F 4 x = fo (F 0) (I 8) x) (hf5 : F 5 x = cl (F 0) x (I 8)) (hc0 : 0 < cl (F 0) x (I 8)) (hmx : F 7 x < 2 ^ 30) : Kv l yX3_mixLabel wsX3_mixLabel { frames := 3, cells := 0, slots := 0, locals := 68 } D (TY cI cO cL) [.ref (a 4), .int (nI (x)), .int (nI (rd))] (bW cI cO a ca ia n O I J F E K G0) (fun w => ∃ sc σ tk mx, (∀ i, i < cl (F 0) x (I 8) → sc (fo (F 0) (I 8) x + i) = mixR (J 0) rd (F 0) (I 8) x (F 7 x) i) ∧ (∀ y, (y < fo (F 0) (I 8) x ∨ fo (F 0) (I 8) x + cl (F 0) x (I 8) ≤ y) → sc y = F 3 y) ∧ tk x = 0 ∧ (∀ y, y ≠ x → tk y = F 6 y) ∧ mx x = F 7 x + 1 ∧ (∀ y, y ≠ x → mx y = F 7 y) ∧ w = bW cI cO a ca ia n O I (va_up J 1 (σ)) (va_up (va_up (va_up F 3 sc) 6 tk) 7 mx) E K G0) := by
  refine Kv.mk (cc := cX3_mixLabel) (maxL := 5) (own := RX3) (by decide) rfl rfl (Nat.le_of_ble_eq_true rfl) ?_
  intro p e s m below meth c A Q ls C hname hA G hl RET
  obtain ⟨⟨hx, hb, hml, hown, hts⟩, hK, hN⟩ := id C
  have hl : lv_has ls 5 [(0, .ref (a 4)), (1, .int (nI (x))), (2, .int (nI (rd)))] := hl
  have hX3 : ∀ w ∈ u_ws RX3 TX3 10, w ∈ wsX3_mixLabel := by decide +kernel
  have hfc := fo_cl (lb := F 0) (n := I 8) (x := x)
  refine lv_aload_n hx hb dX3_mixLabel_0 rfl (lv_at hl 0 rfl) ?_
  refine r_get (v := .ref (a 10)) C G hX3 4 rfl rfl 6 (by decide) (by decide +kernel) rfl dX3_mixLabel_1 ?_
  refine lv_iload_n hx hb dX3_mixLabel_4 rfl (lv_at hl 1 rfl) ?_
  refine r_iald (v := nI ((F 4) x)) C G 10 0 rfl rfl x rfl (by omega) (by omega) rfl dX3_mixLabel_5 ?_
  refine r_top (y := nI (fo (F 0) (I 8) x + cl (F 0) x 0)) (congrArg nI (by rw [hf4]; rfl)) ?_
  refine lv_istore_n (lv' := [(3, .int (nI (fo (F 0) (I 8) x + cl (F 0) x 0))), (0, .ref (a 4)), (1, .int (nI (x))), (2, .int (nI (rd)))]) hx hb dX3_mixLabel_6 rfl hl (by decide) rfl (fun ls hl => ?_)
  refine lv_iconst (v := (nI (0))) hx hb dX3_mixLabel_7 (by decide) ?_
  refine lv_istore (lv' := [(4, .int (nI (0))), (3, .int (nI (fo (F 0) (I 8) x + cl (F 0) x 0))), (0, .ref (a 4)), (1, .int (nI (x))), (2, .int (nI (rd)))]) hx hb dX3_mixLabel_8 hl (by decide) rfl (fun ls hl => ?_)
  have lp10 : ∀ (fuel10 : Nat) (k : Nat) (hm : I 8 - k < fuel10) (hk : k ≤ I 8) (H : Heap) (locs : List Loc) (ls : Array Slot), Wd A s.heap D (bW cI cO a ca ia n O I J (va_up F 3 (fil (F 0) x (fo (F 0) (I 8) x) k (F 3))) E K G0) H locs → lv_has ls 5 [(0, .ref (a 4)), (1, .int (nI (x))), (2, .int (nI (rd))), (3, .int (nI (fo (F 0) (I 8) x + cl (F 0) x k))), (4, .int (nI (k)))] → W p l e ({ frames := 3, cells := 0, slots := 0, locals := 68 } : Room) s m ([.ref (a 4), .int (nI (x)), .int (nI (rd))] : List Value).toArray below meth c H locs 0 0 Q (F0 m 10 ls []) := by
    intro fuel10
    induction fuel10 with
    | zero => intro k hm hk; exact absurd hm (by omega)
    | succ fuel10 ih10 =>
      intro k hm hk H locs ls G hl
      refine lv_iload hx hb dX3_mixLabel_10 (lv_at hl 4 rfl) ?_
      refine lv_aload_n hx hb dX3_mixLabel_12 rfl (lv_at hl 0 rfl) ?_
      refine r_get (v := .int (nI (I 8))) C G hX3 4 rfl rfl 4 (by decide) (by decide +kernel) rfl dX3_mixLabel_13 ?_
      refine lv_icmp_ge (tgt := 58) hx hb dX3_mixLabel_16 (by decide) (fun c16 => ?_) (fun c16 => ?_)
      · skip
        replace c16 : ((I 8 : Nat) : Int) ≤ ((k : Nat) : Int) := (cv_le (nI_toInt (by omega)) (nI_toInt (by omega))).mp c16
        obtain rfl : k = I 8 := by omega
        refine lv_aload_n hx hb dX3_mixLabel_58 rfl (lv_at hl 0 rfl) ?_
        refine lv_iconst (v := (nI (3))) hx hb dX3_mixLabel_59 (by decide) ?_
        refine lv_iload_n hx hb dX3_mixLabel_60 rfl (lv_at hl 2 rfl) ?_
        refine r_av G hA (r_rV (na := 2) (As := [.int (nI (3)), .int (nI (rd))]) (rest := []) C G (c_X3_beginStream l D cI cO cL a ca ia n O I J (va_up F 3 (fil (F 0) x (fo (F 0) (I 8) x) (I 8) (F 3))) E K G0 3 rd (by omega) (by omega)) gX3_mixLabel_X3_beginStream rfl (by decide +kernel) ⟨Nat.le_of_ble_eq_true rfl, Nat.le_of_ble_eq_true rfl⟩ 4 rfl rfl rfl hl.1 rfl (Nat.le_of_ble_eq_true rfl) dX3_mixLabel_61 ⟨by first | (simp only []; omega) | decide, by first | (simp only []; omega) | decide⟩) (fun w61 H locs hp61 G => ?_)
        obtain ⟨σ61, eσ61, rfl⟩ := hp61
        replace eσ61 : σ61 = strm (J 0) 3 rd := eσ61
        refine lv_aload_n hx hb dX3_mixLabel_64 rfl (lv_at hl 0 rfl) ?_
        refine r_get (v := .ref (a 3)) C G hX3 4 rfl rfl 2 (by decide) (by decide +kernel) rfl dX3_mixLabel_65 ?_
        refine lv_iload_n hx hb dX3_mixLabel_68 rfl (lv_at hl 1 rfl) ?_
        refine r_av G hA (r_rV (na := 1) (As := [.int (nI (x))]) (rest := []) C G (c_X2_key l D cI cO cL a ca ia n O I (va_up J 1 (σ61)) (va_up F 3 (fil (F 0) x (fo (F 0) (I 8) x) (I 8) (F 3))) E K G0 x (by omega)) gX3_mixLabel_X2_key rfl (by decide +kernel) ⟨Nat.le_of_ble_eq_true rfl, Nat.le_of_ble_eq_true rfl⟩ 3 rfl rfl rfl hl.1 rfl (Nat.le_of_ble_eq_true rfl) dX3_mixLabel_69 ⟨by first | (simp only []; omega) | decide, by first | (simp only []; omega) | decide⟩) (fun w69 H locs hp69 G => ?_)
        obtain ⟨σ69, eσ69, rfl⟩ := hp69
        replace eσ69 : σ69 = keyv (σ61) (lN x) := eσ69
        refine lv_aload_n hx hb dX3_mixLabel_72 rfl (lv_at hl 0 rfl) ?_
        refine r_get (v := .ref (a 3)) C G hX3 4 rfl rfl 2 (by decide) (by decide +kernel) rfl dX3_mixLabel_73 ?_
        refine lv_aload_n hx hb dX3_mixLabel_76 rfl (lv_at hl 0 rfl) ?_
        refine r_get (v := .ref (a 13)) C G hX3 4 rfl rfl 9 (by decide) (by decide +kernel) rfl dX3_mixLabel_77 ?_
        refine lv_iload_n hx hb dX3_mixLabel_80 rfl (lv_at hl 1 rfl) ?_
        refine r_iald (v := nI ((F 7) x)) C G 13 0 rfl rfl x rfl (by omega) (by omega) rfl dX3_mixLabel_81 ?_
        refine r_av G hA (r_rV (na := 1) (As := [.int (nI ((F 7) x))]) (rest := []) C G (c_X2_key l D cI cO cL a ca ia n O I (va_up J 1 (σ69)) (va_up F 3 (fil (F 0) x (fo (F 0) (I 8) x) (I 8) (F 3))) E K G0 ((F 7) x) (by omega)) gX3_mixLabel_X2_key rfl (by decide +kernel) ⟨Nat.le_of_ble_eq_true rfl, Nat.le_of_ble_eq_true rfl⟩ 3 rfl rfl rfl hl.1 rfl (Nat.le_of_ble_eq_true rfl) dX3_mixLabel_82 ⟨by first | (simp only []; omega) | decide, by first | (simp only []; omega) | decide⟩) (fun w82 H locs hp82 G => ?_)
        obtain ⟨σ82, eσ82, rfl⟩ := hp82
        replace eσ82 : σ82 = keyv (σ69) (lN ((F 7) x)) := eσ82
        refine lv_aload_n hx hb dX3_mixLabel_85 rfl (lv_at hl 0 rfl) ?_
        refine r_get (v := .ref (a 3)) C G hX3 4 rfl rfl 2 (by decide) (by decide +kernel) rfl dX3_mixLabel_86 ?_
        refine lv_aload_n hx hb dX3_mixLabel_89 rfl (lv_at hl 0 rfl) ?_
        refine r_get (v := .ref (a 9)) C G hX3 4 rfl rfl 5 (by decide) (by decide +kernel) rfl dX3_mixLabel_90 ?_
        refine lv_aload_n hx hb dX3_mixLabel_93 rfl (lv_at hl 0 rfl) ?_
        refine r_get (v := .ref (a 10)) C G hX3 4 rfl rfl 6 (by decide) (by decide +kernel) rfl dX3_mixLabel_94 ?_
        refine lv_iload_n hx hb dX3_mixLabel_97 rfl (lv_at hl 1 rfl) ?_
        refine r_iald (v := nI ((F 4) x)) C G 10 0 rfl rfl x rfl (by omega) (by omega) rfl dX3_mixLabel_98 ?_
        refine r_top (y := nI (fo (F 0) (I 8) x)) (congrArg nI hf4) ?_
        refine lv_aload_n hx hb dX3_mixLabel_99 rfl (lv_at hl 0 rfl) ?_
        refine r_get (v := .ref (a 11)) C G hX3 4 rfl rfl 7 (by decide) (by decide +kernel) rfl dX3_mixLabel_100 ?_
        refine lv_iload_n hx hb dX3_mixLabel_103 rfl (lv_at hl 1 rfl) ?_
        refine r_iald (v := nI ((F 5) x)) C G 11 0 rfl rfl x rfl (by omega) (by omega) rfl dX3_mixLabel_104 ?_
        refine r_top (y := nI (cl (F 0) x (I 8))) (congrArg nI hf5) ?_
        refine r_av G hA (r_rV (na := 3) (As := [.ref (a 9), .int (nI (fo (F 0) (I 8) x)), .int (nI (cl (F 0) x (I 8)))]) (rest := []) C G (c_X2_shuffle_s l D cI cO cL a ca ia n O I (va_up J 1 (σ82)) (va_up F 3 (fil (F 0) x (fo (F 0) (I 8) x) (I 8) (F 3))) E K G0 (fo (F 0) (I 8) x) (cl (F 0) x (I 8)) (by omega)) gX3_mixLabel_X2_shuffle rfl (by decide +kernel) ⟨Nat.le_of_ble_eq_true rfl, Nat.le_of_ble_eq_true rfl⟩ 3 rfl rfl rfl hl.1 rfl (Nat.le_of_ble_eq_true rfl) dX3_mixLabel_105 ⟨by first | (simp only []; omega) | decide, by first | (simp only []; omega) | decide⟩) (fun w105 H locs hp105 G => ?_)
        obtain ⟨g105, σ105, eg105, rfl⟩ := hp105
        replace eg105 : (g105, σ105) = shf dr nxg (fo (F 0) (I 8) x) ((cl (F 0) x (I 8)) - 1) (fil (F 0) x (fo (F 0) (I 8) x) (I 8) (F 3)) (σ82) := eg105
        refine lv_aload_n hx hb dX3_mixLabel_108 rfl (lv_at hl 0 rfl) ?_
        refine r_get (v := .ref (a 13)) C G hX3 4 rfl rfl 9 (by decide) (by decide +kernel) rfl dX3_mixLabel_109 ?_
        refine lv_iload_n hx hb dX3_mixLabel_112 rfl (lv_at hl 1 rfl) ?_
        refine lv_dup2_11 hx hb dX3_mixLabel_113 rfl rfl ?_
        refine r_iald (v := nI ((F 7) x)) C G 13 0 rfl rfl x rfl (by omega) (by omega) rfl dX3_mixLabel_114 ?_
        refine lv_iconst (v := (nI (1))) hx hb dX3_mixLabel_115 (by decide) ?_
        refine r_iadd hx hb dX3_mixLabel_116 ?_
        refine r_iast (ws' := bW cI cO a ca ia n O I (va_up J 1 (σ105)) (va_up (va_up F 3 g105) 7 (va_up (F 7) x (((F 7) x) + 1))) E K G0) C G 13 0 rfl rfl x rfl (by omega) (by omega) (nI_upd _ _ _) dX3_mixLabel_117 rfl (fun H locs G => ?_)
        refine lv_aload_n hx hb dX3_mixLabel_118 rfl (lv_at hl 0 rfl) ?_
        refine r_get (v := .ref (a 12)) C G hX3 4 rfl rfl 8 (by decide) (by decide +kernel) rfl dX3_mixLabel_119 ?_
        refine lv_iload_n hx hb dX3_mixLabel_122 rfl (lv_at hl 1 rfl) ?_
        refine lv_iconst (v := (nI (0))) hx hb dX3_mixLabel_123 (by decide) ?_
        refine r_iast (ws' := bW cI cO a ca ia n O I (va_up J 1 (σ105)) (va_up (va_up (va_up F 3 g105) 7 (va_up (F 7) x (((F 7) x) + 1))) 6 (va_up (F 6) x 0)) E K G0) C G 12 0 rfl rfl x rfl (by omega) (by omega) (nI_upd _ _ _) dX3_mixLabel_124 rfl (fun H locs G => ?_)
        exact RET (bW cI cO a ca ia n O I (va_up J 1 (σ105)) (va_up (va_up (va_up F 3 g105) 7 (va_up (F 7) x (((F 7) x) + 1))) 6 (va_up (F 6) x 0)) E K G0) _ _ ls _ _ _ (by have hR := mixR_of (j := F 7 x) hc0 (by rw [eσ82, eσ69, eσ61]) eg105; exact ⟨g105, σ105, _, _, hR.1, hR.2, up_same _ _ _, fun y hy => up_ne _ _ hy, up_same _ _ _, fun y hy => up_ne _ _ hy, rfl⟩) G (by first | (simp only []; omega) | decide) (by first | (simp only []; omega) | decide) dX3_mixLabel_125
      · skip
        replace c16 : ((k : Nat) : Int) < ((I 8 : Nat) : Int) := Int.not_le.mp (fun h => c16 ((cv_le (nI_toInt (by omega)) (nI_toInt (by omega))).mpr h))
        have hLk := hLb k (by omega)
        have hcm := cl_mono (lb := F 0) (x := x) (I 8) (k + 1) (by omega)
        have hck := cl_le (lb := F 0) (x := x) k
        refine lv_aload_n hx hb dX3_mixLabel_19 rfl (lv_at hl 0 rfl) ?_
        refine r_get (v := .ref (a 1)) C G hX3 4 rfl rfl 0 (by decide) (by decide +kernel) rfl dX3_mixLabel_20 ?_
        refine lv_iload hx hb dX3_mixLabel_23 (lv_at hl 4 rfl) ?_
        refine r_ai G hA (r_rV (na := 1) (As := [.int (nI (k))]) (rest := []) C G (c_X4_label l D cI cO cL a ca ia n O I J (va_up F 3 (fil (F 0) x (fo (F 0) (I 8) x) k (F 3))) E K G0 k hn (by omega)) gX3_mixLabel_X4_label rfl (by decide +kernel) ⟨Nat.le_of_ble_eq_true rfl, Nat.le_of_ble_eq_true rfl⟩ 1 rfl rfl rfl hl.1 rfl (Nat.le_of_ble_eq_true rfl) dX3_mixLabel_25 ⟨by first | (simp only []; omega) | decide, by first | (simp only []; omega) | decide⟩) (fun r25 w25 H locs hp25 G => ?_)
        obtain ⟨rfl, rfl⟩ := hp25
        refine r_top (y := nI ((F 0) k)) rfl ?_
        refine lv_iload_n hx hb dX3_mixLabel_28 rfl (lv_at hl 1 rfl) ?_
        refine lv_icmp_ne (tgt := 52) hx hb dX3_mixLabel_29 (by decide) (fun c29 => ?_) (fun c29 => ?_)
        · skip
          replace c29 : ¬ (((F 0) k : Nat) : Int) = ((x : Nat) : Int) := fun h => c29 ((cv_eq (nI_toInt (by omega)) (nI_toInt (by omega))).mpr h)
          rw [← cl_n (lb := F 0) (x := x) (r := k) (by omega)] at hl
          refine lv_iinc (v := nI (k + 1)) (lv' := [(4, .int (nI (k + 1))), (0, .ref (a 4)), (1, .int (nI (x))), (2, .int (nI (rd))), (3, .int (nI (fo (F 0) (I 8) x + cl (F 0) x (k + 1))))]) hx hb dX3_mixLabel_52 hl (k := 4) rfl (inc_n _ 1) (by decide) rfl (fun ls hl => ?_)
          refine lv_goto (tgt := 10) hx hb dX3_mixLabel_55 (by decide) ?_
          exact ih10 (k + 1) (by omega) (by omega) _ _ _ (G.eq (by rw [fil_n (by omega)])) (lv_sub hl [1, 2, 3, 4, 0] rfl)
        · skip
          replace c29 : (((F 0) k : Nat) : Int) = ((x : Nat) : Int) := (cv_eq (nI_toInt (by omega)) (nI_toInt (by omega))).mp c29
          have hcy := cl_y (lb := F 0) (x := x) (r := k) (by omega)
          refine lv_iload_n hx hb dX3_mixLabel_32 rfl (lv_at hl 3 rfl) ?_
          refine lv_aload_n hx hb dX3_mixLabel_33 rfl (lv_at hl 0 rfl) ?_
          refine r_get (v := .ref (a 9)) C G hX3 4 rfl rfl 5 (by decide) (by decide +kernel) rfl dX3_mixLabel_34 ?_
          refine r_alen C G 9 0 rfl rfl dX3_mixLabel_37 ?_
          refine r_top (y := nI (60)) rfl ?_
          refine lv_icmp_ge (tgt := 52) hx hb dX3_mixLabel_38 (by decide) (fun c38 => ?_) (fun c38 => ?_)
          · skip
            replace c38 : ((60 : Nat) : Int) ≤ ((fo (F 0) (I 8) x + cl (F 0) x k : Nat) : Int) := (cv_le (nI_toInt (by omega)) (nI_toInt (by omega))).mp c38
            exact absurd c38 (by omega)
          · skip
            replace c38 : ((fo (F 0) (I 8) x + cl (F 0) x k : Nat) : Int) < ((60 : Nat) : Int) := Int.not_le.mp (fun h => c38 ((cv_le (nI_toInt (by omega)) (nI_toInt (by omega))).mpr h))
            refine lv_aload_n hx hb dX3_mixLabel_41 rfl (lv_at hl 0 rfl) ?_
            refine r_get (v := .ref (a 9)) C G hX3 4 rfl rfl 5 (by decide) (by decide +kernel) rfl dX3_mixLabel_42 ?_
            refine lv_iload_n hx hb dX3_mixLabel_45 rfl (lv_at hl 3 rfl) ?_
            refine lv_iload hx hb dX3_mixLabel_46 (lv_at hl 4 rfl) ?_
            refine r_iast (ws' := bW cI cO a ca ia n O I J (va_up F 3 (fil (F 0) x (fo (F 0) (I 8) x) (k + 1) (F 3))) E K G0) C G 9 0 rfl rfl (fo (F 0) (I 8) x + cl (F 0) x k) rfl (by omega) (by omega) (by rw [nI_upd]; exact congrArg (fun (g : Nat → Nat) => fun i => nI (g i)) ((fil_y (by omega)).symm)) dX3_mixLabel_48 rfl (fun H locs G => ?_)
            refine lv_iinc (v := nI ((fo (F 0) (I 8) x + cl (F 0) x k) + 1)) (lv' := [(3, .int (nI ((fo (F 0) (I 8) x + cl (F 0) x k) + 1))), (0, .ref (a 4)), (1, .int (nI (x))), (2, .int (nI (rd))), (4, .int (nI (k)))]) hx hb dX3_mixLabel_49 hl (k := 3) rfl (inc_n _ 1) (by decide) rfl (fun ls hl => ?_)
            rw [show fo (F 0) (I 8) x + cl (F 0) x k + 1 = fo (F 0) (I 8) x + cl (F 0) x (k + 1) by omega] at hl
            refine lv_iinc (v := nI (k + 1)) (lv' := [(4, .int (nI (k + 1))), (3, .int (nI (fo (F 0) (I 8) x + cl (F 0) x (k + 1)))), (0, .ref (a 4)), (1, .int (nI (x))), (2, .int (nI (rd)))]) hx hb dX3_mixLabel_52 hl (k := 4) rfl (inc_n _ 1) (by decide) rfl (fun ls hl => ?_)
            refine lv_goto (tgt := 10) hx hb dX3_mixLabel_55 (by decide) ?_
            exact ih10 (k + 1) (by omega) (by omega) _ _ _ (G.eq (rfl)) (lv_sub hl [2, 3, 4, 1, 0] rfl)
  exact lp10 (I 8 + 1) 0 (by omega) (by omega) _ _ _ (G.eq (rfl)) (lv_sub hl [2, 3, 4, 1, 0] rfl)
set_option maxHeartbeats 4000000 in
set_option maxRecDepth 100000 in
theorem c_X3_makeBalanced (l : Launch) (D : va_G) (cI cO cL : ClassId) (a ca ia : Nat → Nat) (n : Nat) (O : Nat → Option Nat) (I : Nat → Nat) (J : Nat → Int64) (F : Nat → Nat → Nat) (E : Nat → Nat → Int32) (K : Nat → Nat → Nat) (G0 : Nat → Nat → Int32) (rd : Nat) (h8 : I 8 ≤ 60) (h83 : I 8 = I 3) (hn : I 3 ≤ 60) (hLb : ∀ j, j < I 3 → F 0 j < 8) (hrd : rd ≤ 1000) : Kv l yX3_makeBalanced wsX3_makeBalanced { frames := 4, cells := 0, slots := 0, locals := 92 } D (TY cI cO cL) [.ref (a 4), .int (nI (rd))] (bW cI cO a ca ia n O I J F E K G0) (fun w => ∃ pl sc f4 f5 tk mx σ, isB (J 0) rd (I 8) (F 0) pl ∧ (∀ i, i < I 8 → pl i < I 8) ∧ w = bW cI cO a ca ia n O I (va_up J 1 (σ)) (va_up (va_up (va_up (va_up (va_up (va_up F 2 pl) 3 sc) 4 f4) 5 f5) 6 tk) 7 mx) E K G0) := by
  refine Kv.mk (cc := cX3_makeBalanced) (maxL := 5) (own := RX3) (by decide) rfl rfl (Nat.le_of_ble_eq_true rfl) ?_
  intro p e s m below meth c A Q ls C hname hA G hl RET
  obtain ⟨⟨hx, hb, hml, hown, hts⟩, hK, hN⟩ := id C
  have hl : lv_has ls 5 [(0, .ref (a 4)), (1, .int (nI (rd)))] := hl
  have hX3 : ∀ w ∈ u_ws RX3 TX3 10, w ∈ wsX3_makeBalanced := by decide +kernel
  have hLp : I 8 = 0 ∨ 0 < cl (F 0) (F 0 0) (I 8) := by rcases Nat.eq_zero_or_pos (I 8) with z | z; exact Or.inl z; exact Or.inr (cl_pos (lb := F 0) (j := 0) (I 8) z)
  have hL0 : I 8 = 0 ∨ F 0 0 < 8 := by rcases Nat.eq_zero_or_pos (I 8) with z | z; exact Or.inl z; exact Or.inr (hLb 0 (by omega))
  refine lv_aload_n hx hb dX3_makeBalanced_0 rfl (lv_at hl 0 rfl) ?_
  refine r_av G hA (r_rV (na := 0) (As := []) (rest := []) C G (c_X3_layOutLabels l D cI cO cL a ca ia n O I J F E K G0 h8 h83 hn hLb) gX3_makeBalanced_X3_layOutLabels rfl (by decide +kernel) ⟨Nat.le_of_ble_eq_true rfl, Nat.le_of_ble_eq_true rfl⟩ 4 rfl rfl rfl hl.1 rfl (Nat.le_of_ble_eq_true rfl) dX3_makeBalanced_1 ⟨by first | (simp only []; omega) | decide, by first | (simp only []; omega) | decide⟩) (fun w1 H locs hp1 G => ?_)
  obtain ⟨f4, f5, f6, f7, hlay, rfl⟩ := hp1
  refine lv_iconst (v := (nI (0))) hx hb dX3_makeBalanced_4 (by decide) ?_
  refine lv_istore_n (lv' := [(2, .int (nI (0))), (0, .ref (a 4)), (1, .int (nI (rd)))]) hx hb dX3_makeBalanced_5 rfl hl (by decide) rfl (fun ls hl => ?_)
  refine lv_iconst (v := (nI (0))) hx hb dX3_makeBalanced_6 (by decide) ?_
  refine lv_istore_n (lv' := [(3, .int (nI (0))), (2, .int (nI (0))), (0, .ref (a 4)), (1, .int (nI (rd)))]) hx hb dX3_makeBalanced_7 rfl hl (by decide) rfl (fun ls hl => ?_)
  have lp8 : ∀ (fuel8 : Nat) (st1 k : Nat) (ct gg pl sc tk mx : Nat → Nat) (σ : Int64) (hm : 480 - st1 < fuel8) (hs4 : st1 ≤ 480) (hk : k ≤ I 8) (eI : balI (fun x => cl (F 0) x (I 8)) (itm (mixR (J 0) rd (F 0) (I 8)) (fun x => cl (F 0) x (I 8))) st1 = (k, ct, gg)) (hpl : ∀ i, i < k → pl i = gg i) (hlt : ∀ i, i < k → pl i < I 8) (hct : ∀ y, ct y ≤ k) (hlab : labs true (mixR (J 0) rd (F 0) (I 8)) (fun x => cl (F 0) x (I 8)) (fo (F 0) (I 8)) ct tk mx sc) (hpr : I 8 = 0 ∨ st1 ≤ 8 * k + F 0 0) (H : Heap) (locs : List Loc) (ls : Array Slot), Wd A s.heap D (bW cI cO a ca ia n O I (va_up J 1 (σ)) (va_up (va_up (va_up (va_up (va_up (va_up F 2 pl) 3 sc) 4 f4) 5 f5) 6 tk) 7 mx) E K G0) H locs → lv_has ls 5 [(0, .ref (a 4)), (1, .int (nI (rd))), (2, .int (nI (k))), (3, .int (nI (st1)))] → W p l e ({ frames := 4, cells := 0, slots := 0, locals := 92 } : Room) s m ([.ref (a 4), .int (nI (rd))] : List Value).toArray below meth c H locs 0 0 Q (F0 m 8 ls []) := by
    intro fuel8
    induction fuel8 with
    | zero => intro st1 k ct gg pl sc tk mx σ hm hs4 hk eI hpl hlt hct hlab hpr; exact absurd hm (by omega)
    | succ fuel8 ih8 =>
      intro st1 k ct gg pl sc tk mx σ hm hs4 hk eI hpl hlt hct hlab hpr H locs ls G hl
      refine lv_iload_n hx hb dX3_makeBalanced_8 rfl (lv_at hl 3 rfl) ?_
      refine lv_sipush (v := (nI (480))) hx hb dX3_makeBalanced_9 (by decide) ?_
      refine lv_icmp_ge (tgt := 112) hx hb dX3_makeBalanced_12 (by decide) (fun c12 => ?_) (fun c12 => ?_)
      · skip
        replace c12 : ((480 : Nat) : Int) ≤ ((st1 : Nat) : Int) := (cv_le (nI_toInt (by omega)) (nI_toInt (by omega))).mp c12
        exact RET (bW cI cO a ca ia n O I (va_up J 1 (σ)) (va_up (va_up (va_up (va_up (va_up (va_up F 2 pl) 3 sc) 4 f4) 5 f5) 6 tk) 7 mx) E K G0) _ _ ls _ _ _ (by obtain rfl : k = I 8 := (by omega); exact ⟨pl, sc, f4, f5, tk, mx, σ, ⟨st1, ct, gg, eI, hpl⟩, hlt, rfl⟩) G (by first | (simp only []; omega) | decide) (by first | (simp only []; omega) | decide) dX3_makeBalanced_112
      · skip
        replace c12 : ((st1 : Nat) : Int) < ((480 : Nat) : Int) := Int.not_le.mp (fun h => c12 ((cv_le (nI_toInt (by omega)) (nI_toInt (by omega))).mpr h))
        refine lv_iload_n hx hb dX3_makeBalanced_15 rfl (lv_at hl 2 rfl) ?_
        refine lv_aload_n hx hb dX3_makeBalanced_16 rfl (lv_at hl 0 rfl) ?_
        refine r_get (v := .int (nI (I 8))) C G hX3 4 rfl rfl 4 (by decide) (by decide +kernel) rfl dX3_makeBalanced_17 ?_
        refine lv_icmp_ge (tgt := 112) hx hb dX3_makeBalanced_20 (by decide) (fun c20 => ?_) (fun c20 => ?_)
        · skip
          replace c20 : ((I 8 : Nat) : Int) ≤ ((k : Nat) : Int) := (cv_le (nI_toInt (by omega)) (nI_toInt (by omega))).mp c20
          exact RET (bW cI cO a ca ia n O I (va_up J 1 (σ)) (va_up (va_up (va_up (va_up (va_up (va_up F 2 pl) 3 sc) 4 f4) 5 f5) 6 tk) 7 mx) E K G0) _ _ ls _ _ _ (by obtain rfl : k = I 8 := (by omega); exact ⟨pl, sc, f4, f5, tk, mx, σ, ⟨st1, ct, gg, eI, hpl⟩, hlt, rfl⟩) G (by first | (simp only []; omega) | decide) (by first | (simp only []; omega) | decide) dX3_makeBalanced_112
        · skip
          replace c20 : ((k : Nat) : Int) < ((I 8 : Nat) : Int) := Int.not_le.mp (fun h => c20 ((cv_le (nI_toInt (by omega)) (nI_toInt (by omega))).mpr h))
          refine lv_iload_n hx hb dX3_makeBalanced_23 rfl (lv_at hl 3 rfl) ?_
          refine lv_bipush (v := (nI (8))) hx hb dX3_makeBalanced_24 (by decide) ?_
          refine r_irem hx hb (by omega) (by omega) (by omega) dX3_makeBalanced_26 ?_
          obtain ⟨x, ex⟩ : ∃ x, x = st1 % 8 := ⟨_, rfl⟩
          refine r_top (y := nI x) (by rw [ex]) ?_
          obtain ⟨hy4, hy5, -, -⟩ := hlay x (by omega)
          have hcl := cl_le (lb := F 0) (x := x) (I 8)
          have hfc := fo_cl (lb := F 0) (n := I 8) (x := x)
          refine lv_istore (lv' := [(4, .int (nI (x))), (0, .ref (a 4)), (1, .int (nI (rd))), (2, .int (nI (k))), (3, .int (nI (st1)))]) hx hb dX3_makeBalanced_27 hl (by decide) rfl (fun ls hl => ?_)
          refine lv_aload_n hx hb dX3_makeBalanced_29 rfl (lv_at hl 1 rfl) ?_
          refine r_get (v := .ref (a 11)) C G hX3 4 rfl rfl 7 (by decide) (by decide +kernel) rfl dX3_makeBalanced_30 ?_
          refine lv_iload hx hb dX3_makeBalanced_33 (lv_at hl 0 rfl) ?_
          refine r_iald (v := nI (f5 x)) C G 11 0 rfl rfl x rfl (by omega) (by omega) rfl dX3_makeBalanced_35 ?_
          refine lv_iconst (v := (nI (1))) hx hb dX3_makeBalanced_36 (by decide) ?_
          refine lv_icmp_ge (tgt := 43) hx hb dX3_makeBalanced_37 (by decide) (fun c37 => ?_) (fun c37 => ?_)
          · skip
            replace c37 : ((1 : Nat) : Int) ≤ ((f5 x : Nat) : Int) := (cv_le (nI_toInt (by omega)) (nI_toInt (by omega))).mp c37
            have hm0 : 0 < cl (F 0) x (I 8) := by omega
            have hlx : labI true (cl (F 0) x (I 8)) (ct x) (tk x) (mx x) (fun i => sc (fo (F 0) (I 8) x + i)) (mixR (J 0) rd (F 0) (I 8) x) := hlab x (by omega) hm0
            have hcx := hct x
            have htb : tk x ≤ 60 := by rcases Nat.eq_zero_or_pos (ct x) with z | z; (have q := hlx.1 z; simp only [if_true] at q; omega); (have q := (hlx.2 z).1; have q2 := Nat.mod_lt (ct x - 1) hm0; omega)
            refine lv_aload_n hx hb dX3_makeBalanced_43 rfl (lv_at hl 1 rfl) ?_
            refine r_get (v := .ref (a 12)) C G hX3 4 rfl rfl 8 (by decide) (by decide +kernel) rfl dX3_makeBalanced_44 ?_
            refine lv_iload hx hb dX3_makeBalanced_47 (lv_at hl 0 rfl) ?_
            refine r_iald (v := nI (tk x)) C G 12 0 rfl rfl x rfl (by omega) (by omega) rfl dX3_makeBalanced_49 ?_
            refine lv_aload_n hx hb dX3_makeBalanced_50 rfl (lv_at hl 1 rfl) ?_
            refine r_get (v := .ref (a 11)) C G hX3 4 rfl rfl 7 (by decide) (by decide +kernel) rfl dX3_makeBalanced_51 ?_
            refine lv_iload hx hb dX3_makeBalanced_54 (lv_at hl 0 rfl) ?_
            refine r_iald (v := nI (f5 x)) C G 11 0 rfl rfl x rfl (by omega) (by omega) rfl dX3_makeBalanced_56 ?_
            refine lv_icmp_lt (tgt := 67) hx hb dX3_makeBalanced_57 (by decide) (fun c57 => ?_) (fun c57 => ?_)
            · skip
              replace c57 : ((tk x : Nat) : Int) < ((f5 x : Nat) : Int) := (cv_lt (nI_toInt (by omega)) (nI_toInt (by omega))).mp c57
              obtain ⟨hq1, hq2, hq3⟩ := lab_in hlx hm0 (by omega)
              have hoo : ∀ y, y < 8 → y ≠ x → tk y = tk y ∧ mx y = mx y ∧ ∀ i, i < cl (F 0) y (I 8) → sc (fo (F 0) (I 8) y + i) = sc (fo (F 0) (I 8) y + i) := fun y _ _ => ⟨rfl, rfl, fun _ _ => rfl⟩
              have hml := Nat.mod_lt (ct x) hm0
              refine lv_aload_n hx hb dX3_makeBalanced_67 rfl (lv_at hl 1 rfl) ?_
              refine r_get (v := .ref (a 8)) C G hX3 4 rfl rfl 3 (by decide) (by decide +kernel) rfl dX3_makeBalanced_68 ?_
              refine lv_iload_n hx hb dX3_makeBalanced_71 rfl (lv_at hl 3 rfl) ?_
              refine lv_aload_n hx hb dX3_makeBalanced_72 rfl (lv_at hl 1 rfl) ?_
              refine lv_aload_n hx hb dX3_makeBalanced_73 rfl (lv_at hl 1 rfl) ?_
              refine r_get (v := .ref (a 10)) C G hX3 4 rfl rfl 6 (by decide) (by decide +kernel) rfl dX3_makeBalanced_74 ?_
              refine lv_iload hx hb dX3_makeBalanced_77 (lv_at hl 0 rfl) ?_
              refine r_iald (v := nI (f4 x)) C G 10 0 rfl rfl x rfl (by omega) (by omega) rfl dX3_makeBalanced_79 ?_
              refine lv_aload_n hx hb dX3_makeBalanced_80 rfl (lv_at hl 1 rfl) ?_
              refine r_get (v := .ref (a 12)) C G hX3 4 rfl rfl 8 (by decide) (by decide +kernel) rfl dX3_makeBalanced_81 ?_
              refine lv_iload hx hb dX3_makeBalanced_84 (lv_at hl 0 rfl) ?_
              refine r_iald (v := nI (tk x)) C G 12 0 rfl rfl x rfl (by omega) (by omega) rfl dX3_makeBalanced_86 ?_
              refine r_iadd hx hb dX3_makeBalanced_87 ?_
              refine r_ai G hA (r_rV (na := 1) (As := [.int (nI ((f4 x) + (tk x)))]) (rest := [.int (nI (k)), .ref (a 8)]) C G (c_X3_rowHeld l D cI cO cL a ca ia n O I (va_up J 1 (σ)) (va_up (va_up (va_up (va_up (va_up (va_up F 2 pl) 3 sc) 4 f4) 5 f5) 6 tk) 7 mx) E K G0 ((f4 x) + (tk x)) (by omega)) gX3_makeBalanced_X3_rowHeld rfl (by decide +kernel) ⟨Nat.le_of_ble_eq_true rfl, Nat.le_of_ble_eq_true rfl⟩ 4 rfl rfl rfl hl.1 rfl (Nat.le_of_ble_eq_true rfl) dX3_makeBalanced_88 ⟨by first | (simp only []; omega) | decide, by first | (simp only []; omega) | decide⟩) (fun r88 w88 H locs hp88 G => ?_)
              obtain ⟨rfl, rfl⟩ := hp88
              refine r_top (y := nI (sc ((f4 x) + (tk x)))) rfl ?_
              have hval : sc (f4 x + tk x) = itm (mixR (J 0) rd (F 0) (I 8)) (fun x => cl (F 0) x (I 8)) x (ct x) := by rw [hy4, hq1]; exact hq3 _ hml
              have hvlt : sc (f4 x + tk x) < I 8 := by rw [hval]; exact mixR_lt hm0 _ hml
              refine r_iast (ws' := bW cI cO a ca ia n O I (va_up J 1 (σ)) (va_up (va_up (va_up (va_up (va_up (va_up F 3 sc) 4 f4) 5 f5) 6 tk) 7 mx) 2 (va_up pl k (sc ((f4 x) + (tk x))))) E K G0) C G 8 0 rfl rfl k rfl (by omega) (by omega) (nI_upd _ _ _) dX3_makeBalanced_91 rfl (fun H locs G => ?_)
              refine lv_aload_n hx hb dX3_makeBalanced_92 rfl (lv_at hl 1 rfl) ?_
              refine r_get (v := .ref (a 12)) C G hX3 4 rfl rfl 8 (by decide) (by decide +kernel) rfl dX3_makeBalanced_93 ?_
              refine lv_iload hx hb dX3_makeBalanced_96 (lv_at hl 0 rfl) ?_
              refine lv_dup2_11 hx hb dX3_makeBalanced_98 rfl rfl ?_
              refine r_iald (v := nI (tk x)) C G 12 0 rfl rfl x rfl (by omega) (by omega) rfl dX3_makeBalanced_99 ?_
              refine lv_iconst (v := (nI (1))) hx hb dX3_makeBalanced_100 (by decide) ?_
              refine r_iadd hx hb dX3_makeBalanced_101 ?_
              refine r_iast (ws' := bW cI cO a ca ia n O I (va_up J 1 (σ)) (va_up (va_up (va_up (va_up (va_up (va_up F 3 sc) 4 f4) 5 f5) 7 mx) 2 (va_up pl k (sc ((f4 x) + (tk x))))) 6 (va_up tk x ((tk x) + 1))) E K G0) C G 12 0 rfl rfl x rfl (by omega) (by omega) (nI_upd _ _ _) dX3_makeBalanced_102 rfl (fun H locs G => ?_)
              refine lv_iinc (v := nI (k + 1)) (lv' := [(2, .int (nI (k + 1))), (4, .int (nI (x))), (0, .ref (a 4)), (1, .int (nI (rd))), (3, .int (nI (st1)))]) hx hb dX3_makeBalanced_103 hl (k := 3) rfl (inc_n _ 1) (by decide) rfl (fun ls hl => ?_)
              refine lv_iinc (v := nI (st1 + 1)) (lv' := [(3, .int (nI (st1 + 1))), (2, .int (nI (k + 1))), (4, .int (nI (x))), (0, .ref (a 4)), (1, .int (nI (rd)))]) hx hb dX3_makeBalanced_106 hl (k := 4) rfl (inc_n _ 1) (by decide) rfl (fun ls hl => ?_)
              refine lv_goto (tgt := 8) hx hb dX3_makeBalanced_109 (by decide) ?_
              exact ih8 (st1 + 1) (k + 1) _ _ (va_up pl k (sc ((f4 x) + (tk x)))) sc (va_up tk x ((tk x) + 1)) mx (σ) (by omega) (by omega) (by omega) (bal_1 eI ex (by show ¬ cl (F 0) x (I 8) = 0; omega)) (fun i hi => by by_cases q : i = k; (rw [q, up_same, up_same]; exact hval); (rw [up_ne _ _ q, up_ne _ _ q]; exact hpl i (by omega))) (fun i hi => by by_cases q : i = k; (rw [q, up_same]; exact hvlt); (rw [up_ne _ _ q]; exact hlt i (by omega))) (fun y => by by_cases q : y = x; (rw [q, up_same]; omega); (rw [up_ne _ _ q]; have := hct y; omega)) (labs_next hlab (by omega) hm0 hoo hq1 hq2 hq3) (by omega) _ _ _ (G.eq (rfl)) (lv_sub hl [3, 4, 1, 0] rfl)
            · skip
              replace c57 : ((f5 x : Nat) : Int) ≤ ((tk x : Nat) : Int) := Int.not_lt.mp (fun h => c57 ((cv_lt (nI_toInt (by omega)) (nI_toInt (by omega))).mpr h))
              obtain ⟨hz1, hz2⟩ := lab_end hlx hm0 (by omega)
              have hdv := Nat.div_le_self (ct x) (cl (F 0) x (I 8))
              refine lv_aload_n hx hb dX3_makeBalanced_60 rfl (lv_at hl 1 rfl) ?_
              refine lv_iload hx hb dX3_makeBalanced_61 (lv_at hl 0 rfl) ?_
              refine lv_iload_n hx hb dX3_makeBalanced_63 rfl (lv_at hl 2 rfl) ?_
              refine r_av G hA (r_rV (na := 2) (As := [.int (nI (x)), .int (nI (rd))]) (rest := []) C G (c_X3_mixLabel l D cI cO cL a ca ia n O I (va_up J 1 (σ)) (va_up (va_up (va_up (va_up (va_up (va_up F 2 pl) 3 sc) 4 f4) 5 f5) 6 tk) 7 mx) E K G0 x rd h8 h83 hn hLb (by omega) (by omega) hy4 hy5 hm0 (by show mx x < 2 ^ 30; omega)) gX3_makeBalanced_X3_mixLabel rfl (by decide +kernel) ⟨Nat.le_of_ble_eq_true rfl, Nat.le_of_ble_eq_true rfl⟩ 4 rfl rfl rfl hl.1 rfl (Nat.le_of_ble_eq_true rfl) dX3_makeBalanced_64 ⟨by first | (simp only []; omega) | decide, by first | (simp only []; omega) | decide⟩) (fun w64 H locs hp64 G => ?_)
              obtain ⟨sc64, σ64, tk64, mx64, hs64, ho64, ht64, hto64, hmx64, hmo64, rfl⟩ := hp64
              replace hs64 : ∀ i, i < cl (F 0) x (I 8) → sc64 (fo (F 0) (I 8) x + i) = mixR (J 0) rd (F 0) (I 8) x (mx x) i := hs64
              replace ho64 : ∀ y, (y < fo (F 0) (I 8) x ∨ fo (F 0) (I 8) x + cl (F 0) x (I 8) ≤ y) → sc64 y = sc y := ho64
              replace hto64 : ∀ y, y ≠ x → tk64 y = tk y := hto64
              replace hmx64 : mx64 x = mx x + 1 := hmx64
              replace hmo64 : ∀ y, y ≠ x → mx64 y = mx y := hmo64
              have hq1 : tk64 x = ct x % cl (F 0) x (I 8) := by omega
              have hq2 : mx64 x = ct x / cl (F 0) x (I 8) + 1 := by omega
              have hq3 : ∀ i, i < cl (F 0) x (I 8) → sc64 (fo (F 0) (I 8) x + i) = mixR (J 0) rd (F 0) (I 8) x (ct x / cl (F 0) x (I 8)) i := by rw [← hz1]; exact hs64
              have hoo : ∀ y, y < 8 → y ≠ x → tk64 y = tk y ∧ mx64 y = mx y ∧ ∀ i, i < cl (F 0) y (I 8) → sc64 (fo (F 0) (I 8) y + i) = sc (fo (F 0) (I 8) y + i) := fun y _ hy => ⟨hto64 y hy, hmo64 y hy, fun i hi => ho64 _ (fo_apart hy hi)⟩
              have hml := Nat.mod_lt (ct x) hm0
              refine lv_aload_n hx hb dX3_makeBalanced_67 rfl (lv_at hl 1 rfl) ?_
              refine r_get (v := .ref (a 8)) C G hX3 4 rfl rfl 3 (by decide) (by decide +kernel) rfl dX3_makeBalanced_68 ?_
              refine lv_iload_n hx hb dX3_makeBalanced_71 rfl (lv_at hl 3 rfl) ?_
              refine lv_aload_n hx hb dX3_makeBalanced_72 rfl (lv_at hl 1 rfl) ?_
              refine lv_aload_n hx hb dX3_makeBalanced_73 rfl (lv_at hl 1 rfl) ?_
              refine r_get (v := .ref (a 10)) C G hX3 4 rfl rfl 6 (by decide) (by decide +kernel) rfl dX3_makeBalanced_74 ?_
              refine lv_iload hx hb dX3_makeBalanced_77 (lv_at hl 0 rfl) ?_
              refine r_iald (v := nI (f4 x)) C G 10 0 rfl rfl x rfl (by omega) (by omega) rfl dX3_makeBalanced_79 ?_
              refine lv_aload_n hx hb dX3_makeBalanced_80 rfl (lv_at hl 1 rfl) ?_
              refine r_get (v := .ref (a 12)) C G hX3 4 rfl rfl 8 (by decide) (by decide +kernel) rfl dX3_makeBalanced_81 ?_
              refine lv_iload hx hb dX3_makeBalanced_84 (lv_at hl 0 rfl) ?_
              refine r_iald (v := nI (tk64 x)) C G 12 0 rfl rfl x rfl (by omega) (by omega) rfl dX3_makeBalanced_86 ?_
              refine r_iadd hx hb dX3_makeBalanced_87 ?_
              refine r_ai G hA (r_rV (na := 1) (As := [.int (nI ((f4 x) + (tk64 x)))]) (rest := [.int (nI (k)), .ref (a 8)]) C G (c_X3_rowHeld l D cI cO cL a ca ia n O I (va_up J 1 (σ64)) (va_up (va_up (va_up (va_up (va_up (va_up F 2 pl) 4 f4) 5 f5) 3 sc64) 6 tk64) 7 mx64) E K G0 ((f4 x) + (tk64 x)) (by omega)) gX3_makeBalanced_X3_rowHeld rfl (by decide +kernel) ⟨Nat.le_of_ble_eq_true rfl, Nat.le_of_ble_eq_true rfl⟩ 4 rfl rfl rfl hl.1 rfl (Nat.le_of_ble_eq_true rfl) dX3_makeBalanced_88 ⟨by first | (simp only []; omega) | decide, by first | (simp only []; omega) | decide⟩) (fun r88 w88 H locs hp88 G => ?_)
              obtain ⟨rfl, rfl⟩ := hp88
              refine r_top (y := nI (sc64 ((f4 x) + (tk64 x)))) rfl ?_
              have hval : sc64 (f4 x + tk64 x) = itm (mixR (J 0) rd (F 0) (I 8)) (fun x => cl (F 0) x (I 8)) x (ct x) := by rw [hy4, hq1]; exact hq3 _ hml
              have hvlt : sc64 (f4 x + tk64 x) < I 8 := by rw [hval]; exact mixR_lt hm0 _ hml
              refine r_iast (ws' := bW cI cO a ca ia n O I (va_up J 1 (σ64)) (va_up (va_up (va_up (va_up (va_up (va_up F 4 f4) 5 f5) 3 sc64) 6 tk64) 7 mx64) 2 (va_up pl k (sc64 ((f4 x) + (tk64 x))))) E K G0) C G 8 0 rfl rfl k rfl (by omega) (by omega) (nI_upd _ _ _) dX3_makeBalanced_91 rfl (fun H locs G => ?_)
              refine lv_aload_n hx hb dX3_makeBalanced_92 rfl (lv_at hl 1 rfl) ?_
              refine r_get (v := .ref (a 12)) C G hX3 4 rfl rfl 8 (by decide) (by decide +kernel) rfl dX3_makeBalanced_93 ?_
              refine lv_iload hx hb dX3_makeBalanced_96 (lv_at hl 0 rfl) ?_
              refine lv_dup2_11 hx hb dX3_makeBalanced_98 rfl rfl ?_
              refine r_iald (v := nI (tk64 x)) C G 12 0 rfl rfl x rfl (by omega) (by omega) rfl dX3_makeBalanced_99 ?_
              refine lv_iconst (v := (nI (1))) hx hb dX3_makeBalanced_100 (by decide) ?_
              refine r_iadd hx hb dX3_makeBalanced_101 ?_
              refine r_iast (ws' := bW cI cO a ca ia n O I (va_up J 1 (σ64)) (va_up (va_up (va_up (va_up (va_up (va_up F 4 f4) 5 f5) 3 sc64) 7 mx64) 2 (va_up pl k (sc64 ((f4 x) + (tk64 x))))) 6 (va_up tk64 x ((tk64 x) + 1))) E K G0) C G 12 0 rfl rfl x rfl (by omega) (by omega) (nI_upd _ _ _) dX3_makeBalanced_102 rfl (fun H locs G => ?_)
              refine lv_iinc (v := nI (k + 1)) (lv' := [(2, .int (nI (k + 1))), (4, .int (nI (x))), (0, .ref (a 4)), (1, .int (nI (rd))), (3, .int (nI (st1)))]) hx hb dX3_makeBalanced_103 hl (k := 3) rfl (inc_n _ 1) (by decide) rfl (fun ls hl => ?_)
              refine lv_iinc (v := nI (st1 + 1)) (lv' := [(3, .int (nI (st1 + 1))), (2, .int (nI (k + 1))), (4, .int (nI (x))), (0, .ref (a 4)), (1, .int (nI (rd)))]) hx hb dX3_makeBalanced_106 hl (k := 4) rfl (inc_n _ 1) (by decide) rfl (fun ls hl => ?_)
              refine lv_goto (tgt := 8) hx hb dX3_makeBalanced_109 (by decide) ?_
              exact ih8 (st1 + 1) (k + 1) _ _ (va_up pl k (sc64 ((f4 x) + (tk64 x)))) sc64 (va_up tk64 x ((tk64 x) + 1)) mx64 (σ64) (by omega) (by omega) (by omega) (bal_1 eI ex (by show ¬ cl (F 0) x (I 8) = 0; omega)) (fun i hi => by by_cases q : i = k; (rw [q, up_same, up_same]; exact hval); (rw [up_ne _ _ q, up_ne _ _ q]; exact hpl i (by omega))) (fun i hi => by by_cases q : i = k; (rw [q, up_same]; exact hvlt); (rw [up_ne _ _ q]; exact hlt i (by omega))) (fun y => by by_cases q : y = x; (rw [q, up_same]; omega); (rw [up_ne _ _ q]; have := hct y; omega)) (labs_next hlab (by omega) hm0 hoo hq1 hq2 hq3) (by omega) _ _ _ (G.eq (rfl)) (lv_sub hl [3, 4, 1, 0] rfl)
          · skip
            replace c37 : ((f5 x : Nat) : Int) < ((1 : Nat) : Int) := Int.not_le.mp (fun h => c37 ((cv_le (nI_toInt (by omega)) (nI_toInt (by omega))).mpr h))
            refine lv_goto (tgt := 106) hx hb dX3_makeBalanced_40 (by decide) ?_
            refine lv_iinc (v := nI (st1 + 1)) (lv' := [(3, .int (nI (st1 + 1))), (4, .int (nI (x))), (0, .ref (a 4)), (1, .int (nI (rd))), (2, .int (nI (k)))]) hx hb dX3_makeBalanced_106 hl (k := 4) rfl (inc_n _ 1) (by decide) rfl (fun ls hl => ?_)
            refine lv_goto (tgt := 8) hx hb dX3_makeBalanced_109 (by decide) ?_
            exact ih8 (st1 + 1) k ct gg pl sc tk mx σ (by omega) (by omega) hk (bal_0 eI ex (by show cl (F 0) x (I 8) = 0; omega)) hpl hlt hct hlab (by have hne : I 8 = 0 ∨ x ≠ F 0 0 := (by rcases hLp with z | z; exact Or.inl z; exact Or.inr (fun q => by rw [← q] at z; omega)); omega) _ _ _ (G.eq (rfl)) (lv_sub hl [2, 3, 4, 0] rfl)
  exact lp8 481 0 0 (fun _ => 0) (fun _ => 0) (F 2) (F 3) f6 f7 (J 1) (by omega) (by omega) (by omega) rfl (fun i hi => by omega) (fun i hi => by omega) (fun y => Nat.le_refl _) (fun y hy hm => ⟨fun _ => by obtain ⟨-, -, q6, q7⟩ := hlay y hy; exact ⟨q6, q7⟩, fun q => absurd q (Nat.lt_irrefl 0)⟩) (by omega) _ _ _ (G.eq (rfl)) (lv_sub hl [2, 3, 1, 0] rfl)
