def cnt (n sz dp : Nat) : Nat := if dp = 1 then n / sz else (n + sz - 1) / sz
def mof (n sz dp k : Nat) : Nat := if n - k * sz < sz then (if dp = 1 then 0 else n - k * sz) else sz
theorem lsub_ti {a b : Nat} (ha : a < 2 ^ 62) (hb : b < 2 ^ 62) : (lN a - lN b).toInt = (a : Int) - (b : Int) := by
  rw [Int64.toInt_sub, pk_lT (by omega), pk_lT (by omega)]
  simp only [Int.bmod_def]
  omega
set_option maxHeartbeats 4000000 in
set_option maxRecDepth 100000 in
theorem c_X7_count (l : Launch) (D : va_G) (cI cO cL : ClassId) (b : Nat → Nat) (I : Nat → Nat) (J : Nat → Int64) (F : Nat → Nat → Nat) (G0 : Nat → Nat → Int32) (h1 : I 1 ≤ 60) (h2 : I 2 ≤ 20) (h5 : I 5 ≤ 1) : Ki l yX7_count wsX7_count { frames := 0, cells := 0, slots := 0, locals := 0 } D (TY cI cO cL) [.ref (b 0)] (mW cI b I J F G0) (fun r w => (I 2 = 0 ∧ r = 0 ∧ w = mW cI b (va_up I 0 1) J F G0) ∨ (I 2 ≠ 0 ∧ r = nI (cnt (I 1) (I 2) (I 5)) ∧ w = mW cI b (va_up I 0 0) J F G0)) := by
  refine Ki.mk (cc := cX7_count) (maxL := 1) (rt := .int) (own := RX7) (by decide) rfl rfl (Nat.le_of_ble_eq_true rfl) ?_
  intro p e s m below meth c A Q ls C hname hA G hl RET
  obtain ⟨⟨hx, hb, hml, hown, hts⟩, hK, hN⟩ := id C
  have hl : lv_has ls 1 [(0, .ref (b 0))] := hl
  have hX7 : ∀ w ∈ u_ws RX7 TX7 30, w ∈ wsX7_count := by decide +kernel
  refine lv_aload_n hx hb dX7_count_0 rfl (lv_at hl 0 rfl) ?_
  refine lv_aload_n hx hb dX7_count_1 rfl (lv_at hl 0 rfl) ?_
  refine r_get (v := .int (nI (I 2))) C G hX7 0 rfl rfl 11 (by decide) (by decide +kernel) rfl dX7_count_2 ?_
  refine lv_if_ne (tgt := 12) hx hb dX7_count_5 (by decide) (fun c5 => ?_) (fun c5 => ?_)
  · skip
    replace c5 : ¬ ((I 2 : Nat) : Int) = (0) := fun h => c5 ((cv_eq (nI_toInt (by omega)) (by decide)).mpr h)
    refine lv_iconst (v := (nI (0))) hx hb dX7_count_12 (by decide) ?_
    refine r_put (ws' := mW cI b (va_up I 0 0) J F G0) C G hX7 tyX7_ok nmX7 0 rfl rfl 0 (by decide) (by decide +kernel) rfl rfl rfl (Nat.le_of_ble_eq_true rfl) dX7_count_13 rfl (fun H locs G => ?_)
    refine lv_aload_n hx hb dX7_count_16 rfl (lv_at hl 0 rfl) ?_
    refine r_get (v := .int (nI (I 2))) C G hX7 0 rfl rfl 11 (by decide) (by decide +kernel) rfl dX7_count_17 ?_
    refine lv_if_ne (tgt := 27) hx hb dX7_count_20 (by decide) (fun c20 => ?_) (fun c20 => ?_)
    · skip
      replace c20 : ¬ ((I 2 : Nat) : Int) = (0) := fun h => c20 ((cv_eq (nI_toInt (by omega)) (by decide)).mpr h)
      refine lv_aload_n hx hb dX7_count_27 rfl (lv_at hl 0 rfl) ?_
      refine r_get (v := .int (nI (I 5))) C G hX7 0 rfl rfl 14 (by decide) (by decide +kernel) rfl dX7_count_28 ?_
      refine lv_iconst (v := (nI (1))) hx hb dX7_count_31 (by decide) ?_
      refine lv_icmp_ne (tgt := 47) hx hb dX7_count_32 (by decide) (fun c32 => ?_) (fun c32 => ?_)
      · skip
        replace c32 : ¬ ((I 5 : Nat) : Int) = ((1 : Nat) : Int) := fun h => c32 ((cv_eq (nI_toInt (by omega)) (nI_toInt (by omega))).mpr h)
        refine lv_aload_n hx hb dX7_count_47 rfl (lv_at hl 0 rfl) ?_
        refine r_get (v := .int (nI (I 1))) C G hX7 0 rfl rfl 3 (by decide) (by decide +kernel) rfl dX7_count_48 ?_
        refine lv_aload_n hx hb dX7_count_51 rfl (lv_at hl 0 rfl) ?_
        refine r_get (v := .int (nI (I 2))) C G hX7 0 rfl rfl 11 (by decide) (by decide +kernel) rfl dX7_count_52 ?_
        refine r_iadd hx hb dX7_count_55 ?_
        refine lv_iconst (v := (nI (1))) hx hb dX7_count_56 (by decide) ?_
        refine r_isub hx hb (by omega) dX7_count_57 ?_
        refine lv_aload_n hx hb dX7_count_58 rfl (lv_at hl 0 rfl) ?_
        refine r_get (v := .int (nI (I 2))) C G hX7 0 rfl rfl 11 (by decide) (by decide +kernel) rfl dX7_count_59 ?_
        refine r_idiv hx hb (by omega) (by omega) (by omega) dX7_count_62 ?_
        exact RET (nI ((((I 1) + (I 2)) - 1) / (I 2))) (mW cI b (va_up I 0 0) J F G0) _ _ ls _ _ _ (Or.inr ⟨by omega, congrArg nI (by unfold cnt; rw [if_neg (by omega)]), rfl⟩) G (by first | (simp only []; omega) | decide) (by first | (simp only []; omega) | decide) rfl dX7_count_63
      · skip
        replace c32 : ((I 5 : Nat) : Int) = ((1 : Nat) : Int) := (cv_eq (nI_toInt (by omega)) (nI_toInt (by omega))).mp c32
        refine lv_aload_n hx hb dX7_count_35 rfl (lv_at hl 0 rfl) ?_
        refine r_get (v := .int (nI (I 1))) C G hX7 0 rfl rfl 3 (by decide) (by decide +kernel) rfl dX7_count_36 ?_
        refine lv_aload_n hx hb dX7_count_39 rfl (lv_at hl 0 rfl) ?_
        refine r_get (v := .int (nI (I 2))) C G hX7 0 rfl rfl 11 (by decide) (by decide +kernel) rfl dX7_count_40 ?_
        refine r_idiv hx hb (by omega) (by omega) (by omega) dX7_count_43 ?_
        refine lv_goto (tgt := 63) hx hb dX7_count_44 (by decide) ?_
        exact RET (nI ((I 1) / (I 2))) (mW cI b (va_up I 0 0) J F G0) _ _ ls _ _ _ (Or.inr ⟨by omega, congrArg nI (by unfold cnt; rw [if_pos (by omega)]), rfl⟩) G (by first | (simp only []; omega) | decide) (by first | (simp only []; omega) | decide) rfl dX7_count_63
    · skip
      replace c20 : ((I 2 : Nat) : Int) = (0) := (cv_eq (nI_toInt (by omega)) (by decide)).mp c20
      exact absurd c20 (by omega)
  · skip
    replace c5 : ((I 2 : Nat) : Int) = (0) := (cv_eq (nI_toInt (by omega)) (by decide)).mp c5
    refine lv_iconst (v := (nI (1))) hx hb dX7_count_8 (by decide) ?_
    refine lv_goto (tgt := 13) hx hb dX7_count_9 (by decide) ?_
    refine r_put (ws' := mW cI b (va_up I 0 1) J F G0) C G hX7 tyX7_ok nmX7 0 rfl rfl 0 (by decide) (by decide +kernel) rfl rfl rfl (Nat.le_of_ble_eq_true rfl) dX7_count_13 rfl (fun H locs G => ?_)
    refine lv_aload_n hx hb dX7_count_16 rfl (lv_at hl 0 rfl) ?_
    refine r_get (v := .int (nI (I 2))) C G hX7 0 rfl rfl 11 (by decide) (by decide +kernel) rfl dX7_count_17 ?_
    refine lv_if_ne (tgt := 27) hx hb dX7_count_20 (by decide) (fun c20 => ?_) (fun c20 => ?_)
    · skip
      replace c20 : ¬ ((I 2 : Nat) : Int) = (0) := fun h => c20 ((cv_eq (nI_toInt (by omega)) (by decide)).mpr h)
      exact absurd c20 (by omega)
    · skip
      replace c20 : ((I 2 : Nat) : Int) = (0) := (cv_eq (nI_toInt (by omega)) (by decide)).mp c20
      refine lv_iconst (v := (nI (0))) hx hb dX7_count_23 (by decide) ?_
      refine lv_goto (tgt := 63) hx hb dX7_count_24 (by decide) ?_
      exact RET (nI (0)) (mW cI b (va_up I 0 1) J F G0) _ _ ls _ _ _ (Or.inl ⟨by omega, rfl, rfl⟩) G (by first | (simp only []; omega) | decide) (by first | (simp only []; omega) | decide) rfl dX7_count_63
set_option maxHeartbeats 4000000 in
set_option maxRecDepth 100000 in
theorem c_X7_thrown (l : Launch) (D : va_G) (cI cO cL : ClassId) (b : Nat → Nat) (I : Nat → Nat) (J : Nat → Int64) (F : Nat → Nat → Nat) (G0 : Nat → Nat → Int32) : Ki l yX7_thrown wsX7_thrown { frames := 0, cells := 0, slots := 0, locals := 0 } D (TY cI cO cL) [.ref (b 0)] (mW cI b I J F G0) (fun r w => r = nI (I 0) ∧ w = mW cI b I J F G0) := by
  refine Ki.mk (cc := cX7_thrown) (maxL := 1) (rt := .int) (own := RX7) (by decide) rfl rfl (Nat.le_of_ble_eq_true rfl) ?_
  intro p e s m below meth c A Q ls C hname hA G hl RET
  obtain ⟨⟨hx, hb, hml, hown, hts⟩, hK, hN⟩ := id C
  have hl : lv_has ls 1 [(0, .ref (b 0))] := hl
  have hX7 : ∀ w ∈ u_ws RX7 TX7 30, w ∈ wsX7_thrown := by decide +kernel
  refine lv_aload_n hx hb dX7_thrown_0 rfl (lv_at hl 0 rfl) ?_
  refine r_get (v := .int (nI (I 0))) C G hX7 0 rfl rfl 0 (by decide) (by decide +kernel) rfl dX7_thrown_1 ?_
  exact RET (nI (I 0)) (mW cI b I J F G0) _ _ ls _ _ _ (⟨rfl, rfl⟩) G (by first | (simp only []; omega) | decide) (by first | (simp only []; omega) | decide) rfl dX7_thrown_4
set_option maxHeartbeats 4000000 in
set_option maxRecDepth 100000 in
theorem c_X7_manyOf (l : Launch) (D : va_G) (cI cO cL : ClassId) (b : Nat → Nat) (I : Nat → Nat) (J : Nat → Int64) (F : Nat → Nat → Nat) (G0 : Nat → Nat → Int32) (k : Nat) (hk : k < 2 ^ 31) (h1 : I 1 ≤ 60) (h2 : I 2 ≤ 20) (h5 : I 5 ≤ 1) : Ki l yX7_manyOf wsX7_manyOf { frames := 0, cells := 0, slots := 0, locals := 0 } D (TY cI cO cL) [.ref (b 0), .int (nI (k))] (mW cI b I J F G0) (fun r w => r = nI (mof (I 1) (I 2) (I 5) k) ∧ w = mW cI b I J F G0) := by
  refine Ki.mk (cc := cX7_manyOf) (maxL := 6) (rt := .int) (own := RX7) (by decide) rfl rfl (Nat.le_of_ble_eq_true rfl) ?_
  intro p e s m below meth c A Q ls C hname hA G hl RET
  obtain ⟨⟨hx, hb, hml, hown, hts⟩, hK, hN⟩ := id C
  have hl : lv_has ls 6 [(0, .ref (b 0)), (1, .int (nI (k)))] := hl
  have hX7 : ∀ w ∈ u_ws RX7 TX7 30, w ∈ wsX7_manyOf := by decide +kernel
  refine lv_iload_n hx hb dX7_manyOf_0 rfl (lv_at hl 1 rfl) ?_
  refine lv_i2l (v := lN (k)) hx hb dX7_manyOf_1 (nI_l (by omega)) ?_
  refine lv_aload_n hx hb dX7_manyOf_2 rfl (lv_at hl 0 rfl) ?_
  refine r_get (v := .int (nI (I 2))) C G hX7 0 rfl rfl 11 (by decide) (by decide +kernel) rfl dX7_manyOf_3 ?_
  refine lv_i2l (v := lN (I 2)) hx hb dX7_manyOf_6 (nI_l (by omega)) ?_
  refine lv_lmul hx hb dX7_manyOf_7 ?_
  refine r_topl (y := lN (k * I 2)) (lN_mul _ _) ?_
  have hkm : k * I 2 ≤ k * 20 := Nat.mul_le_mul_left _ h2
  refine lv_lstore_n (lv' := [(2, .long (lN (k * I 2))), (0, .ref (b 0)), (1, .int (nI (k)))]) hx hb dX7_manyOf_8 rfl hl (by decide) rfl (fun ls hl => ?_)
  refine lv_aload_n hx hb dX7_manyOf_9 rfl (lv_at hl 1 rfl) ?_
  refine r_get (v := .int (nI (I 1))) C G hX7 0 rfl rfl 3 (by decide) (by decide +kernel) rfl dX7_manyOf_10 ?_
  refine lv_i2l (v := lN (I 1)) hx hb dX7_manyOf_13 (nI_l (by omega)) ?_
  refine lv_lload_n hx hb dX7_manyOf_14 rfl (lv_at hl 0 rfl) ?_
  refine lv_lsub hx hb dX7_manyOf_15 ?_
  refine lv_aload_n hx hb dX7_manyOf_16 rfl (lv_at hl 1 rfl) ?_
  refine r_get (v := .int (nI (I 2))) C G hX7 0 rfl rfl 11 (by decide) (by decide +kernel) rfl dX7_manyOf_17 ?_
  refine lv_i2l (v := lN (I 2)) hx hb dX7_manyOf_20 (nI_l (by omega)) ?_
  refine W.lcmp hx hb dX7_manyOf_21 ?_
  refine lv_if_ge (tgt := 35) hx hb dX7_manyOf_22 (by decide) (fun c22 => ?_) (fun c22 => ?_)
  · skip
    replace c22 : (((I 2) : Nat) : Int) ≤ ((I 1 : Nat) : Int) - ((k * I 2 : Nat) : Int) := ((lg_cmp_ge _ _).trans (cw_le (pk_lT (by omega)) (lsub_ti (by omega) (by omega)))).mp c22
    refine lv_aload_n hx hb dX7_manyOf_35 rfl (lv_at hl 1 rfl) ?_
    refine r_get (v := .int (nI (I 2))) C G hX7 0 rfl rfl 11 (by decide) (by decide +kernel) rfl dX7_manyOf_36 ?_
    refine lv_i2l (v := lN (I 2)) hx hb dX7_manyOf_39 (nI_l (by omega)) ?_
    refine lv_lstore (lv' := [(4, .long (lN (I 2))), (2, .long (lN (k * I 2))), (0, .ref (b 0)), (1, .int (nI (k)))]) hx hb dX7_manyOf_40 hl (by decide) rfl (fun ls hl => ?_)
    refine lv_lload hx hb dX7_manyOf_42 (lv_at hl 0 rfl) ?_
    refine lv_lconst (v := 0) hx hb dX7_manyOf_44 (by decide) ?_
    refine W.lcmp hx hb dX7_manyOf_45 ?_
    refine lv_if_lt (tgt := 68) hx hb dX7_manyOf_46 (by decide) (fun c46 => ?_) (fun c46 => ?_)
    · skip
      replace c46 : (((I 2) : Nat) : Int) < (0) := ((lg_cmp_lt _ _).trans (cw_lt (pk_lT (by omega)) (by decide))).mp c46
      refine lv_iconst (v := (nI (0))) hx hb dX7_manyOf_68 (by decide) ?_
      refine lv_goto (tgt := 75) hx hb dX7_manyOf_69 (by decide) ?_
      exact RET (nI (0)) (mW cI b I J F G0) _ _ ls _ _ _ (⟨congrArg nI (by unfold mof; split <;> (try split) <;> omega), rfl⟩) G (by first | (simp only []; omega) | decide) (by first | (simp only []; omega) | decide) rfl dX7_manyOf_75
    · skip
      replace c46 : (0) ≤ (((I 2) : Nat) : Int) := Int.not_lt.mp (fun h => c46 (((lg_cmp_lt _ _).trans (cw_lt (pk_lT (by omega)) (by decide))).mpr h))
      refine lv_aload_n hx hb dX7_manyOf_49 rfl (lv_at hl 2 rfl) ?_
      refine r_get (v := .int (nI (I 5))) C G hX7 0 rfl rfl 14 (by decide) (by decide +kernel) rfl dX7_manyOf_50 ?_
      refine lv_iconst (v := (nI (1))) hx hb dX7_manyOf_53 (by decide) ?_
      refine lv_icmp_ne (tgt := 72) hx hb dX7_manyOf_54 (by decide) (fun c54 => ?_) (fun c54 => ?_)
      · skip
        replace c54 : ¬ ((I 5 : Nat) : Int) = ((1 : Nat) : Int) := fun h => c54 ((cv_eq (nI_toInt (by omega)) (nI_toInt (by omega))).mpr h)
        refine lv_lload hx hb dX7_manyOf_72 (lv_at hl 0 rfl) ?_
        refine lv_l2i (v := nI (I 2)) hx hb dX7_manyOf_74 (lN_i _) ?_
        exact RET (nI (I 2)) (mW cI b I J F G0) _ _ ls _ _ _ (⟨congrArg nI (by unfold mof; split <;> (try split) <;> omega), rfl⟩) G (by first | (simp only []; omega) | decide) (by first | (simp only []; omega) | decide) rfl dX7_manyOf_75
      · skip
        replace c54 : ((I 5 : Nat) : Int) = ((1 : Nat) : Int) := (cv_eq (nI_toInt (by omega)) (nI_toInt (by omega))).mp c54
        refine lv_lload hx hb dX7_manyOf_57 (lv_at hl 0 rfl) ?_
        refine lv_aload_n hx hb dX7_manyOf_59 rfl (lv_at hl 2 rfl) ?_
        refine r_get (v := .int (nI (I 2))) C G hX7 0 rfl rfl 11 (by decide) (by decide +kernel) rfl dX7_manyOf_60 ?_
        refine lv_i2l (v := lN (I 2)) hx hb dX7_manyOf_63 (nI_l (by omega)) ?_
        refine W.lcmp hx hb dX7_manyOf_64 ?_
        refine lv_if_ge (tgt := 72) hx hb dX7_manyOf_65 (by decide) (fun c65 => ?_) (fun c65 => ?_)
        · skip
          replace c65 : (((I 2) : Nat) : Int) ≤ (((I 2) : Nat) : Int) := ((lg_cmp_ge _ _).trans (cw_le (pk_lT (by omega)) (pk_lT (by omega)))).mp c65
          refine lv_lload hx hb dX7_manyOf_72 (lv_at hl 0 rfl) ?_
          refine lv_l2i (v := nI (I 2)) hx hb dX7_manyOf_74 (lN_i _) ?_
          exact RET (nI (I 2)) (mW cI b I J F G0) _ _ ls _ _ _ (⟨congrArg nI (by unfold mof; split <;> (try split) <;> omega), rfl⟩) G (by first | (simp only []; omega) | decide) (by first | (simp only []; omega) | decide) rfl dX7_manyOf_75
        · skip
          replace c65 : (((I 2) : Nat) : Int) < (((I 2) : Nat) : Int) := Int.not_le.mp (fun h => c65 (((lg_cmp_ge _ _).trans (cw_le (pk_lT (by omega)) (pk_lT (by omega)))).mpr h))
          refine lv_iconst (v := (nI (0))) hx hb dX7_manyOf_68 (by decide) ?_
          refine lv_goto (tgt := 75) hx hb dX7_manyOf_69 (by decide) ?_
          exact RET (nI (0)) (mW cI b I J F G0) _ _ ls _ _ _ (⟨congrArg nI (by unfold mof; split <;> (try split) <;> omega), rfl⟩) G (by first | (simp only []; omega) | decide) (by first | (simp only []; omega) | decide) rfl dX7_manyOf_75
  · skip
    replace c22 : ((I 1 : Nat) : Int) - ((k * I 2 : Nat) : Int) < (((I 2) : Nat) : Int) := Int.not_le.mp (fun h => c22 (((lg_cmp_ge _ _).trans (cw_le (pk_lT (by omega)) (lsub_ti (by omega) (by omega)))).mpr h))
    refine lv_aload_n hx hb dX7_manyOf_25 rfl (lv_at hl 1 rfl) ?_
    refine r_get (v := .int (nI (I 1))) C G hX7 0 rfl rfl 3 (by decide) (by decide +kernel) rfl dX7_manyOf_26 ?_
    refine lv_i2l (v := lN (I 1)) hx hb dX7_manyOf_29 (nI_l (by omega)) ?_
    refine lv_lload_n hx hb dX7_manyOf_30 rfl (lv_at hl 0 rfl) ?_
    refine lv_lsub hx hb dX7_manyOf_31 ?_
    refine lv_goto (tgt := 40) hx hb dX7_manyOf_32 (by decide) ?_
    refine lv_lstore (lv' := [(4, .long (lN (I 1) - lN (k * I 2))), (2, .long (lN (k * I 2))), (0, .ref (b 0)), (1, .int (nI (k)))]) hx hb dX7_manyOf_40 hl (by decide) rfl (fun ls hl => ?_)
    refine lv_lload hx hb dX7_manyOf_42 (lv_at hl 0 rfl) ?_
    refine lv_lconst (v := 0) hx hb dX7_manyOf_44 (by decide) ?_
    refine W.lcmp hx hb dX7_manyOf_45 ?_
    refine lv_if_lt (tgt := 68) hx hb dX7_manyOf_46 (by decide) (fun c46 => ?_) (fun c46 => ?_)
    · skip
      replace c46 : ((I 1 : Nat) : Int) - ((k * I 2 : Nat) : Int) < (0) := ((lg_cmp_lt _ _).trans (cw_lt (lsub_ti (by omega) (by omega)) (by decide))).mp c46
      refine lv_iconst (v := (nI (0))) hx hb dX7_manyOf_68 (by decide) ?_
      refine lv_goto (tgt := 75) hx hb dX7_manyOf_69 (by decide) ?_
      exact RET (nI (0)) (mW cI b I J F G0) _ _ ls _ _ _ (⟨congrArg nI (by unfold mof; split <;> (try split) <;> omega), rfl⟩) G (by first | (simp only []; omega) | decide) (by first | (simp only []; omega) | decide) rfl dX7_manyOf_75
    · skip
      replace c46 : (0) ≤ ((I 1 : Nat) : Int) - ((k * I 2 : Nat) : Int) := Int.not_lt.mp (fun h => c46 (((lg_cmp_lt _ _).trans (cw_lt (lsub_ti (by omega) (by omega)) (by decide))).mpr h))
      refine lv_aload_n hx hb dX7_manyOf_49 rfl (lv_at hl 2 rfl) ?_
      refine r_get (v := .int (nI (I 5))) C G hX7 0 rfl rfl 14 (by decide) (by decide +kernel) rfl dX7_manyOf_50 ?_
      refine lv_iconst (v := (nI (1))) hx hb dX7_manyOf_53 (by decide) ?_
      refine lv_icmp_ne (tgt := 72) hx hb dX7_manyOf_54 (by decide) (fun c54 => ?_) (fun c54 => ?_)
      · skip
        replace c54 : ¬ ((I 5 : Nat) : Int) = ((1 : Nat) : Int) := fun h => c54 ((cv_eq (nI_toInt (by omega)) (nI_toInt (by omega))).mpr h)
        refine lv_lload hx hb dX7_manyOf_72 (lv_at hl 0 rfl) ?_
        refine r_topl (y := lN (I 1 - k * I 2)) (lN_sub (by omega)) ?_
        refine lv_l2i (v := nI (I 1 - k * I 2)) hx hb dX7_manyOf_74 (lN_i _) ?_
        exact RET (nI (I 1 - k * I 2)) (mW cI b I J F G0) _ _ ls _ _ _ (⟨congrArg nI (by unfold mof; split <;> (try split) <;> omega), rfl⟩) G (by first | (simp only []; omega) | decide) (by first | (simp only []; omega) | decide) rfl dX7_manyOf_75
      · skip
        replace c54 : ((I 5 : Nat) : Int) = ((1 : Nat) : Int) := (cv_eq (nI_toInt (by omega)) (nI_toInt (by omega))).mp c54
        refine lv_lload hx hb dX7_manyOf_57 (lv_at hl 0 rfl) ?_
        refine lv_aload_n hx hb dX7_manyOf_59 rfl (lv_at hl 2 rfl) ?_
        refine r_get (v := .int (nI (I 2))) C G hX7 0 rfl rfl 11 (by decide) (by decide +kernel) rfl dX7_manyOf_60 ?_
        refine lv_i2l (v := lN (I 2)) hx hb dX7_manyOf_63 (nI_l (by omega)) ?_
        refine W.lcmp hx hb dX7_manyOf_64 ?_
        refine lv_if_ge (tgt := 72) hx hb dX7_manyOf_65 (by decide) (fun c65 => ?_) (fun c65 => ?_)
        · skip
          replace c65 : (((I 2) : Nat) : Int) ≤ ((I 1 : Nat) : Int) - ((k * I 2 : Nat) : Int) := ((lg_cmp_ge _ _).trans (cw_le (pk_lT (by omega)) (lsub_ti (by omega) (by omega)))).mp c65
          refine lv_lload hx hb dX7_manyOf_72 (lv_at hl 0 rfl) ?_
          refine r_topl (y := lN (I 1 - k * I 2)) (lN_sub (by omega)) ?_
          refine lv_l2i (v := nI (I 1 - k * I 2)) hx hb dX7_manyOf_74 (lN_i _) ?_
          exact RET (nI (I 1 - k * I 2)) (mW cI b I J F G0) _ _ ls _ _ _ (⟨congrArg nI (by unfold mof; split <;> (try split) <;> omega), rfl⟩) G (by first | (simp only []; omega) | decide) (by first | (simp only []; omega) | decide) rfl dX7_manyOf_75
        · skip
          replace c65 : ((I 1 : Nat) : Int) - ((k * I 2 : Nat) : Int) < (((I 2) : Nat) : Int) := Int.not_le.mp (fun h => c65 (((lg_cmp_ge _ _).trans (cw_le (pk_lT (by omega)) (lsub_ti (by omega) (by omega)))).mpr h))
          refine lv_iconst (v := (nI (0))) hx hb dX7_manyOf_68 (by decide) ?_
          refine lv_goto (tgt := 75) hx hb dX7_manyOf_69 (by decide) ?_
          exact RET (nI (0)) (mW cI b I J F G0) _ _ ls _ _ _ (⟨congrArg nI (by unfold mof; split <;> (try split) <;> omega), rfl⟩) G (by first | (simp only []; omega) | decide) (by first | (simp only []; omega) | decide) rfl dX7_manyOf_75
set_option maxHeartbeats 4000000 in
set_option maxRecDepth 100000 in
theorem c_X7_like (l : Launch) (D : va_G) (cI cO cL : ClassId) (b : Nat → Nat) (I : Nat → Nat) (J : Nat → Int64) (F : Nat → Nat → Nat) (G0 : Nat → Nat → Int32) (x : Int32) (h1 : I 1 ≤ 60) (hL : ∀ j, j < I 1 → F 3 j ≤ 1600) (hKd : ∀ j, j < I 1 → F 0 j ≤ 2) (hHi : ∀ j, j < I 1 → F 4 j ≤ 40) (hWi : ∀ j, j < I 1 → F 5 j ≤ 40) (h9 : I 9 ≤ 2) (h10 : I 10 ≤ 1600) (h11 : I 11 ≤ 40) (h12 : I 12 ≤ 40) : Ki l yX7_like wsX7_like { frames := 2, cells := 0, slots := 0, locals := 46 } D (TY cI cO cL) [.ref (b 0), .int (x)] (mW cI b I J F G0) (fun r w => (¬ (0 ≤ x.toInt ∧ x.toInt < I 1) ∧ r = -1 ∧ w = mW cI b (va_up I 0 0) J F G0) ∨ ((0 ≤ x.toInt ∧ x.toInt < I 1) ∧ (I 9 = F 0 (tn x) ∧ (I 9 = 2 ∨ (I 10 = F 3 (tn x) ∧ I 11 = F 4 (tn x) ∧ I 12 = F 5 (tn x))) ∧ ∀ k, k < F 3 (tn x) → G0 1 k = G0 0 (1600 * tn x + k)) ∧ r = 1 ∧ w = mW cI b (va_up I 0 0) J F G0) ∨ ((0 ≤ x.toInt ∧ x.toInt < I 1) ∧ ¬ (I 9 = F 0 (tn x) ∧ (I 9 = 2 ∨ (I 10 = F 3 (tn x) ∧ I 11 = F 4 (tn x) ∧ I 12 = F 5 (tn x))) ∧ ∀ k, k < F 3 (tn x) → G0 1 k = G0 0 (1600 * tn x + k)) ∧ r = 0 ∧ w = mW cI b (va_up I 0 0) J F G0)) := by
  refine Ki.mk (cc := cX7_like) (maxL := 3) (rt := .int) (own := RX7) (by decide) rfl rfl (Nat.le_of_ble_eq_true rfl) ?_
  intro p e s m below meth c A Q ls C hname hA G hl RET
  obtain ⟨⟨hx, hb, hml, hown, hts⟩, hK, hN⟩ := id C
  have hl : lv_has ls 3 [(0, .ref (b 0)), (1, .int (x))] := hl
  have hX7 : ∀ w ∈ u_ws RX7 TX7 30, w ∈ wsX7_like := by decide +kernel
  refine lv_aload_n hx hb dX7_like_0 rfl (lv_at hl 0 rfl) ?_
  refine lv_iconst (v := (nI (0))) hx hb dX7_like_1 (by decide) ?_
  refine r_put (ws' := mW cI b (va_up I 0 0) J F G0) C G hX7 tyX7_ok nmX7 0 rfl rfl 0 (by decide) (by decide +kernel) rfl rfl rfl (Nat.le_of_ble_eq_true rfl) dX7_like_2 rfl (fun H locs G => ?_)
  refine lv_aload_n hx hb dX7_like_5 rfl (lv_at hl 0 rfl) ?_
  refine lv_iload_n hx hb dX7_like_6 rfl (lv_at hl 1 rfl) ?_
  refine r_ai G hA (r_rV (na := 1) (As := [.int (x)]) (rest := []) C G (c_X7_isRow l D cI cO cL b (va_up I 0 0) J F G0 x h1) gX7_like_X7_isRow rfl (by decide +kernel) ⟨Nat.le_of_ble_eq_true rfl, Nat.le_of_ble_eq_true rfl⟩ 0 rfl rfl rfl hl.1 rfl (Nat.le_of_ble_eq_true rfl) dX7_like_7 ⟨by first | (simp only []; omega) | decide, by first | (simp only []; omega) | decide⟩) (fun r7 w7 H locs hp7 G => ?_)
  rcases hp7 with ⟨rfl, rfl, hi7⟩ | ⟨rfl, rfl, hi7⟩
  · skip
    replace hi7 : 0 ≤ (x).toInt ∧ (x).toInt < I 1 := hi7
    refine lv_if_ne (tgt := 15) hx hb dX7_like_10 (by decide) (fun c10 => ?_) (fun c10 => ?_)
    · skip
      obtain ⟨x1, hx1, ex1, rfl⟩ := nat_of (x := x) (by omega)
      have hLx := hL x1 (by omega)
      have hKx := hKd x1 (by omega)
      have hHx := hHi x1 (by omega)
      have hWx := hWi x1 (by omega)
      refine lv_aload_n hx hb dX7_like_15 rfl (lv_at hl 0 rfl) ?_
      refine r_get (v := .int (nI (I 9))) C G hX7 0 rfl rfl 24 (by decide) (by decide +kernel) rfl dX7_like_16 ?_
      refine lv_aload_n hx hb dX7_like_19 rfl (lv_at hl 0 rfl) ?_
      refine r_get (v := .ref (b 1)) C G hX7 0 rfl rfl 4 (by decide) (by decide +kernel) rfl dX7_like_20 ?_
      refine lv_iload_n hx hb dX7_like_23 rfl (lv_at hl 1 rfl) ?_
      refine r_iald (v := nI ((F 0) x1)) C G 1 0 rfl rfl x1 rfl (by omega) (by omega) rfl dX7_like_24 ?_
      refine lv_icmp_ne (tgt := 75) hx hb dX7_like_25 (by decide) (fun c25 => ?_) (fun c25 => ?_)
      · skip
        replace c25 : ¬ ((I 9 : Nat) : Int) = (((F 0) x1 : Nat) : Int) := fun h => c25 ((cv_eq (nI_toInt (by omega)) (nI_toInt (by omega))).mpr h)
        refine lv_iconst (v := (nI (0))) hx hb dX7_like_75 (by decide) ?_
        exact RET (nI (0)) (mW cI b (va_up I 0 0) J F G0) _ _ ls _ _ _ (by rw [tn_nI hx1]; exact Or.inr (Or.inr (⟨by omega, fun h => by omega, rfl, rfl⟩))) G (by first | (simp only []; omega) | decide) (by first | (simp only []; omega) | decide) rfl dX7_like_76
      · skip
        replace c25 : ((I 9 : Nat) : Int) = (((F 0) x1 : Nat) : Int) := (cv_eq (nI_toInt (by omega)) (nI_toInt (by omega))).mp c25
        refine lv_aload_n hx hb dX7_like_28 rfl (lv_at hl 0 rfl) ?_
        refine r_get (v := .int (nI (I 9))) C G hX7 0 rfl rfl 24 (by decide) (by decide +kernel) rfl dX7_like_29 ?_
        refine lv_iconst (v := (nI (2))) hx hb dX7_like_32 (by decide) ?_
        refine lv_icmp_eq (tgt := 77) hx hb dX7_like_33 (by decide) (fun c33 => ?_) (fun c33 => ?_)
        · skip
          replace c33 : ((I 9 : Nat) : Int) = ((2 : Nat) : Int) := (cv_eq (nI_toInt (by omega)) (nI_toInt (by omega))).mp c33
          refine lv_iconst (v := (nI (0))) hx hb dX7_like_77 (by decide) ?_
          refine lv_istore_n (lv' := [(2, .int (nI (0))), (0, .ref (b 0)), (1, .int (nI (x1)))]) hx hb dX7_like_78 rfl hl (by decide) rfl (fun ls hl => ?_)
          have lp79 : ∀ (fuel79 : Nat) (k : Nat) (hm : F 3 x1 - k < fuel79) (hk : k ≤ F 3 x1) (hall : ∀ i, i < k → G0 1 i = G0 0 (1600 * x1 + i)) (H : Heap) (locs : List Loc) (ls : Array Slot), Wd A s.heap D (mW cI b (va_up I 0 0) J F G0) H locs → lv_has ls 3 [(0, .ref (b 0)), (1, .int (nI (x1))), (2, .int (nI (k)))] → W p l e ({ frames := 2, cells := 0, slots := 0, locals := 46 } : Room) s m ([.ref (b 0), .int (nI (x1))] : List Value).toArray below meth c H locs 0 0 Q (F0 m 79 ls []) := by
            intro fuel79
            induction fuel79 with
            | zero => intro k hm hk hall; exact absurd hm (by omega)
            | succ fuel79 ih79 =>
              intro k hm hk hall H locs ls G hl
              refine lv_iload_n hx hb dX7_like_79 rfl (lv_at hl 2 rfl) ?_
              refine lv_aload_n hx hb dX7_like_80 rfl (lv_at hl 0 rfl) ?_
              refine r_get (v := .ref (b 4)) C G hX7 0 rfl rfl 7 (by decide) (by decide +kernel) rfl dX7_like_81 ?_
              refine lv_iload_n hx hb dX7_like_84 rfl (lv_at hl 1 rfl) ?_
              refine r_iald (v := nI ((F 3) x1)) C G 4 0 rfl rfl x1 rfl (by omega) (by omega) rfl dX7_like_85 ?_
              refine lv_icmp_ge (tgt := 118) hx hb dX7_like_86 (by decide) (fun c86 => ?_) (fun c86 => ?_)
              · skip
                replace c86 : (((F 3) x1 : Nat) : Int) ≤ ((k : Nat) : Int) := (cv_le (nI_toInt (by omega)) (nI_toInt (by omega))).mp c86
                refine lv_iconst (v := (nI (1))) hx hb dX7_like_118 (by decide) ?_
                exact RET (nI (1)) (mW cI b (va_up I 0 0) J F G0) _ _ ls _ _ _ (by rw [tn_nI hx1]; exact Or.inr (Or.inl (⟨by omega, ⟨by omega, by omega, fun i hi => hall i (by omega)⟩, rfl, rfl⟩))) G (by first | (simp only []; omega) | decide) (by first | (simp only []; omega) | decide) rfl dX7_like_119
              · skip
                replace c86 : ((k : Nat) : Int) < (((F 3) x1 : Nat) : Int) := Int.not_le.mp (fun h => c86 ((cv_le (nI_toInt (by omega)) (nI_toInt (by omega))).mpr h))
                refine lv_aload_n hx hb dX7_like_89 rfl (lv_at hl 0 rfl) ?_
                refine r_get (v := .ref (b 14)) C G hX7 0 rfl rfl 28 (by decide) (by decide +kernel) rfl dX7_like_90 ?_
                refine lv_iload_n hx hb dX7_like_93 rfl (lv_at hl 2 rfl) ?_
                refine r_iald (v := (G0 1) k) C G 14 0 rfl rfl k rfl (by omega) (by omega) rfl dX7_like_94 ?_
                refine lv_aload_n hx hb dX7_like_95 rfl (lv_at hl 0 rfl) ?_
                refine r_get (v := .ref (b 7)) C G hX7 0 rfl rfl 10 (by decide) (by decide +kernel) rfl dX7_like_96 ?_
                refine lv_sipush (v := (nI (1600))) hx hb dX7_like_99 (by decide) ?_
                refine lv_iload_n hx hb dX7_like_102 rfl (lv_at hl 1 rfl) ?_
                refine r_imul hx hb dX7_like_103 ?_
                refine lv_iload_n hx hb dX7_like_104 rfl (lv_at hl 2 rfl) ?_
                refine r_iadd hx hb dX7_like_105 ?_
                refine r_iald (v := (G0 0) ((1600 * x1) + k)) C G 7 0 rfl rfl ((1600 * x1) + k) rfl (by omega) (by omega) rfl dX7_like_106 ?_
                refine lv_icmp_eq (tgt := 112) hx hb dX7_like_107 (by decide) (fun c107 => ?_) (fun c107 => ?_)
                · skip
                  replace c107 : ((G0 1) k).toInt = ((G0 0) ((1600 * x1) + k)).toInt := (cv_eq rfl rfl).mp c107
                  refine lv_iinc (v := nI (k + 1)) (lv' := [(2, .int (nI (k + 1))), (0, .ref (b 0)), (1, .int (nI (x1)))]) hx hb dX7_like_112 hl (k := 2) rfl (inc_n _ 1) (by decide) rfl (fun ls hl => ?_)
                  refine lv_goto (tgt := 79) hx hb dX7_like_115 (by decide) ?_
                  exact ih79 (k + 1) (by omega) (by omega) (fun i hi => by rcases Nat.lt_or_ge i k with q | q; exact hall i q; obtain rfl : i = k := (by omega); exact Int32.toInt_inj.mp c107) _ _ _ (G.eq (rfl)) (lv_sub hl [1, 2, 0] rfl)
                · skip
                  replace c107 : ¬ ((G0 1) k).toInt = ((G0 0) ((1600 * x1) + k)).toInt := fun h => c107 ((cv_eq rfl rfl).mpr h)
                  refine lv_iconst (v := (nI (0))) hx hb dX7_like_110 (by decide) ?_
                  exact RET (nI (0)) (mW cI b (va_up I 0 0) J F G0) _ _ ls _ _ _ (by rw [tn_nI hx1]; exact Or.inr (Or.inr (⟨by omega, fun h => c107 (congrArg Int32.toInt (h.2.2 k (by omega))), rfl, rfl⟩))) G (by first | (simp only []; omega) | decide) (by first | (simp only []; omega) | decide) rfl dX7_like_111
          exact lp79 (F 3 x1 + 1) 0 (by omega) (by omega) (fun i hi => by omega) _ _ _ (G.eq (rfl)) (lv_sub hl [1, 2, 0] rfl)
        · skip
          replace c33 : ¬ ((I 9 : Nat) : Int) = ((2 : Nat) : Int) := fun h => c33 ((cv_eq (nI_toInt (by omega)) (nI_toInt (by omega))).mpr h)
          refine lv_aload_n hx hb dX7_like_36 rfl (lv_at hl 0 rfl) ?_
          refine r_get (v := .int (nI (I 10))) C G hX7 0 rfl rfl 25 (by decide) (by decide +kernel) rfl dX7_like_37 ?_
          refine lv_aload_n hx hb dX7_like_40 rfl (lv_at hl 0 rfl) ?_
          refine r_get (v := .ref (b 4)) C G hX7 0 rfl rfl 7 (by decide) (by decide +kernel) rfl dX7_like_41 ?_
          refine lv_iload_n hx hb dX7_like_44 rfl (lv_at hl 1 rfl) ?_
          refine r_iald (v := nI ((F 3) x1)) C G 4 0 rfl rfl x1 rfl (by omega) (by omega) rfl dX7_like_45 ?_
          refine lv_icmp_ne (tgt := 75) hx hb dX7_like_46 (by decide) (fun c46 => ?_) (fun c46 => ?_)
          · skip
            replace c46 : ¬ ((I 10 : Nat) : Int) = (((F 3) x1 : Nat) : Int) := fun h => c46 ((cv_eq (nI_toInt (by omega)) (nI_toInt (by omega))).mpr h)
            refine lv_iconst (v := (nI (0))) hx hb dX7_like_75 (by decide) ?_
            exact RET (nI (0)) (mW cI b (va_up I 0 0) J F G0) _ _ ls _ _ _ (by rw [tn_nI hx1]; exact Or.inr (Or.inr (⟨by omega, fun h => by omega, rfl, rfl⟩))) G (by first | (simp only []; omega) | decide) (by first | (simp only []; omega) | decide) rfl dX7_like_76
          · skip
            replace c46 : ((I 10 : Nat) : Int) = (((F 3) x1 : Nat) : Int) := (cv_eq (nI_toInt (by omega)) (nI_toInt (by omega))).mp c46
            refine lv_aload_n hx hb dX7_like_49 rfl (lv_at hl 0 rfl) ?_
            refine r_get (v := .int (nI (I 11))) C G hX7 0 rfl rfl 26 (by decide) (by decide +kernel) rfl dX7_like_50 ?_
            refine lv_aload_n hx hb dX7_like_53 rfl (lv_at hl 0 rfl) ?_
            refine r_get (v := .ref (b 5)) C G hX7 0 rfl rfl 8 (by decide) (by decide +kernel) rfl dX7_like_54 ?_
            refine lv_iload_n hx hb dX7_like_57 rfl (lv_at hl 1 rfl) ?_
            refine r_iald (v := nI ((F 4) x1)) C G 5 0 rfl rfl x1 rfl (by omega) (by omega) rfl dX7_like_58 ?_
            refine lv_icmp_ne (tgt := 75) hx hb dX7_like_59 (by decide) (fun c59 => ?_) (fun c59 => ?_)
            · skip
              replace c59 : ¬ ((I 11 : Nat) : Int) = (((F 4) x1 : Nat) : Int) := fun h => c59 ((cv_eq (nI_toInt (by omega)) (nI_toInt (by omega))).mpr h)
              refine lv_iconst (v := (nI (0))) hx hb dX7_like_75 (by decide) ?_
              exact RET (nI (0)) (mW cI b (va_up I 0 0) J F G0) _ _ ls _ _ _ (by rw [tn_nI hx1]; exact Or.inr (Or.inr (⟨by omega, fun h => by omega, rfl, rfl⟩))) G (by first | (simp only []; omega) | decide) (by first | (simp only []; omega) | decide) rfl dX7_like_76
            · skip
              replace c59 : ((I 11 : Nat) : Int) = (((F 4) x1 : Nat) : Int) := (cv_eq (nI_toInt (by omega)) (nI_toInt (by omega))).mp c59
              refine lv_aload_n hx hb dX7_like_62 rfl (lv_at hl 0 rfl) ?_
              refine r_get (v := .int (nI (I 12))) C G hX7 0 rfl rfl 27 (by decide) (by decide +kernel) rfl dX7_like_63 ?_
              refine lv_aload_n hx hb dX7_like_66 rfl (lv_at hl 0 rfl) ?_
              refine r_get (v := .ref (b 6)) C G hX7 0 rfl rfl 9 (by decide) (by decide +kernel) rfl dX7_like_67 ?_
              refine lv_iload_n hx hb dX7_like_70 rfl (lv_at hl 1 rfl) ?_
              refine r_iald (v := nI ((F 5) x1)) C G 6 0 rfl rfl x1 rfl (by omega) (by omega) rfl dX7_like_71 ?_
              refine lv_icmp_eq (tgt := 77) hx hb dX7_like_72 (by decide) (fun c72 => ?_) (fun c72 => ?_)
              · skip
                replace c72 : ((I 12 : Nat) : Int) = (((F 5) x1 : Nat) : Int) := (cv_eq (nI_toInt (by omega)) (nI_toInt (by omega))).mp c72
                refine lv_iconst (v := (nI (0))) hx hb dX7_like_77 (by decide) ?_
                refine lv_istore_n (lv' := [(2, .int (nI (0))), (0, .ref (b 0)), (1, .int (nI (x1)))]) hx hb dX7_like_78 rfl hl (by decide) rfl (fun ls hl => ?_)
                have lp79 : ∀ (fuel79 : Nat) (k : Nat) (hm : F 3 x1 - k < fuel79) (hk : k ≤ F 3 x1) (hall : ∀ i, i < k → G0 1 i = G0 0 (1600 * x1 + i)) (H : Heap) (locs : List Loc) (ls : Array Slot), Wd A s.heap D (mW cI b (va_up I 0 0) J F G0) H locs → lv_has ls 3 [(0, .ref (b 0)), (1, .int (nI (x1))), (2, .int (nI (k)))] → W p l e ({ frames := 2, cells := 0, slots := 0, locals := 46 } : Room) s m ([.ref (b 0), .int (nI (x1))] : List Value).toArray below meth c H locs 0 0 Q (F0 m 79 ls []) := by
                  intro fuel79
                  induction fuel79 with
                  | zero => intro k hm hk hall; exact absurd hm (by omega)
                  | succ fuel79 ih79 =>
                    intro k hm hk hall H locs ls G hl
                    refine lv_iload_n hx hb dX7_like_79 rfl (lv_at hl 2 rfl) ?_
                    refine lv_aload_n hx hb dX7_like_80 rfl (lv_at hl 0 rfl) ?_
                    refine r_get (v := .ref (b 4)) C G hX7 0 rfl rfl 7 (by decide) (by decide +kernel) rfl dX7_like_81 ?_
                    refine lv_iload_n hx hb dX7_like_84 rfl (lv_at hl 1 rfl) ?_
                    refine r_iald (v := nI ((F 3) x1)) C G 4 0 rfl rfl x1 rfl (by omega) (by omega) rfl dX7_like_85 ?_
                    refine lv_icmp_ge (tgt := 118) hx hb dX7_like_86 (by decide) (fun c86 => ?_) (fun c86 => ?_)
                    · skip
                      replace c86 : (((F 3) x1 : Nat) : Int) ≤ ((k : Nat) : Int) := (cv_le (nI_toInt (by omega)) (nI_toInt (by omega))).mp c86
                      refine lv_iconst (v := (nI (1))) hx hb dX7_like_118 (by decide) ?_
                      exact RET (nI (1)) (mW cI b (va_up I 0 0) J F G0) _ _ ls _ _ _ (by rw [tn_nI hx1]; exact Or.inr (Or.inl (⟨by omega, ⟨by omega, by omega, fun i hi => hall i (by omega)⟩, rfl, rfl⟩))) G (by first | (simp only []; omega) | decide) (by first | (simp only []; omega) | decide) rfl dX7_like_119
                    · skip
                      replace c86 : ((k : Nat) : Int) < (((F 3) x1 : Nat) : Int) := Int.not_le.mp (fun h => c86 ((cv_le (nI_toInt (by omega)) (nI_toInt (by omega))).mpr h))
                      refine lv_aload_n hx hb dX7_like_89 rfl (lv_at hl 0 rfl) ?_
                      refine r_get (v := .ref (b 14)) C G hX7 0 rfl rfl 28 (by decide) (by decide +kernel) rfl dX7_like_90 ?_
                      refine lv_iload_n hx hb dX7_like_93 rfl (lv_at hl 2 rfl) ?_
                      refine r_iald (v := (G0 1) k) C G 14 0 rfl rfl k rfl (by omega) (by omega) rfl dX7_like_94 ?_
                      refine lv_aload_n hx hb dX7_like_95 rfl (lv_at hl 0 rfl) ?_
                      refine r_get (v := .ref (b 7)) C G hX7 0 rfl rfl 10 (by decide) (by decide +kernel) rfl dX7_like_96 ?_
                      refine lv_sipush (v := (nI (1600))) hx hb dX7_like_99 (by decide) ?_
                      refine lv_iload_n hx hb dX7_like_102 rfl (lv_at hl 1 rfl) ?_
                      refine r_imul hx hb dX7_like_103 ?_
                      refine lv_iload_n hx hb dX7_like_104 rfl (lv_at hl 2 rfl) ?_
                      refine r_iadd hx hb dX7_like_105 ?_
                      refine r_iald (v := (G0 0) ((1600 * x1) + k)) C G 7 0 rfl rfl ((1600 * x1) + k) rfl (by omega) (by omega) rfl dX7_like_106 ?_
                      refine lv_icmp_eq (tgt := 112) hx hb dX7_like_107 (by decide) (fun c107 => ?_) (fun c107 => ?_)
                      · skip
                        replace c107 : ((G0 1) k).toInt = ((G0 0) ((1600 * x1) + k)).toInt := (cv_eq rfl rfl).mp c107
                        refine lv_iinc (v := nI (k + 1)) (lv' := [(2, .int (nI (k + 1))), (0, .ref (b 0)), (1, .int (nI (x1)))]) hx hb dX7_like_112 hl (k := 2) rfl (inc_n _ 1) (by decide) rfl (fun ls hl => ?_)
                        refine lv_goto (tgt := 79) hx hb dX7_like_115 (by decide) ?_
                        exact ih79 (k + 1) (by omega) (by omega) (fun i hi => by rcases Nat.lt_or_ge i k with q | q; exact hall i q; obtain rfl : i = k := (by omega); exact Int32.toInt_inj.mp c107) _ _ _ (G.eq (rfl)) (lv_sub hl [1, 2, 0] rfl)
                      · skip
                        replace c107 : ¬ ((G0 1) k).toInt = ((G0 0) ((1600 * x1) + k)).toInt := fun h => c107 ((cv_eq rfl rfl).mpr h)
                        refine lv_iconst (v := (nI (0))) hx hb dX7_like_110 (by decide) ?_
                        exact RET (nI (0)) (mW cI b (va_up I 0 0) J F G0) _ _ ls _ _ _ (by rw [tn_nI hx1]; exact Or.inr (Or.inr (⟨by omega, fun h => c107 (congrArg Int32.toInt (h.2.2 k (by omega))), rfl, rfl⟩))) G (by first | (simp only []; omega) | decide) (by first | (simp only []; omega) | decide) rfl dX7_like_111
                exact lp79 (F 3 x1 + 1) 0 (by omega) (by omega) (fun i hi => by omega) _ _ _ (G.eq (rfl)) (lv_sub hl [1, 2, 0] rfl)
              · skip
                replace c72 : ¬ ((I 12 : Nat) : Int) = (((F 5) x1 : Nat) : Int) := fun h => c72 ((cv_eq (nI_toInt (by omega)) (nI_toInt (by omega))).mpr h)
                refine lv_iconst (v := (nI (0))) hx hb dX7_like_75 (by decide) ?_
                exact RET (nI (0)) (mW cI b (va_up I 0 0) J F G0) _ _ ls _ _ _ (by rw [tn_nI hx1]; exact Or.inr (Or.inr (⟨by omega, fun h => by omega, rfl, rfl⟩))) G (by first | (simp only []; omega) | decide) (by first | (simp only []; omega) | decide) rfl dX7_like_76
    · skip
      exact absurd c10 (by decide)
  · skip
    replace hi7 : ¬ (0 ≤ (x).toInt ∧ (x).toInt < I 1) := hi7
    refine lv_if_ne (tgt := 15) hx hb dX7_like_10 (by decide) (fun c10 => ?_) (fun c10 => ?_)
    · skip
      exact absurd c10 (by decide)
    · skip
      refine lv_iconst (v := ((-1))) hx hb dX7_like_13 (by decide) ?_
      exact RET ((-1)) (mW cI b (va_up I 0 0) J F G0) _ _ ls _ _ _ (Or.inl (⟨by omega, rfl, rfl⟩)) G (by first | (simp only []; omega) | decide) (by first | (simp only []; omega) | decide) rfl dX7_like_14
