theorem cw_lt {x y : Int64} {X Y : Int} (hx : x.toInt = X) (hy : y.toInt = Y) : x < y ↔ X < Y := by rw [Int64.lt_iff_toInt_lt, hx, hy]
theorem cw_le {x y : Int64} {X Y : Int} (hx : x.toInt = X) (hy : y.toInt = Y) : x ≤ y ↔ X ≤ Y := by rw [Int64.le_iff_toInt_le, hx, hy]
theorem cw_eq {x y : Int64} {X Y : Int} (hx : x.toInt = X) (hy : y.toInt = Y) : x = y ↔ X = Y := by rw [← Int64.toInt_inj, hx, hy]
theorem i2l_ti {x : Int32} {X : Int} (h : x.toInt = X) : x.toInt64.toInt = X := by rw [Int32.toInt_toInt64, h]
theorem nat_of {x : Int32} (h : 0 ≤ x.toInt) : ∃ j : Nat, j < 2 ^ 31 ∧ x.toInt = (j : Int) ∧ x = nI j := by
  obtain ⟨j, hj, rfl⟩ := nI_of (x := x) (fun q => by rw [Int32.lt_iff_toInt_lt] at q; have : (0 : Int32).toInt = 0 := rfl; omega)
  exact ⟨j, hj, nI_toInt hj, rfl⟩
theorem eq_lit {x : Int32} {k : Nat} (h : x.toInt = (k : Int)) (hk : k < 2 ^ 31) : x = nI k := Int32.toInt_inj.mp (by rw [h, nI_toInt hk])
def tn (x : Int32) : Nat := x.toInt.toNat
theorem tn_nI {j : Nat} (h : j < 2 ^ 31) : tn (nI j) = j := by unfold tn; rw [nI_toInt h]; simp
theorem prod_le {a b : Nat} (ha : a ≤ 40) (hb : b ≤ 40) : a * b ≤ 1600 := Nat.mul_le_mul ha hb
def zr (o k : Nat) (g : Nat → Int32) : Nat → Int32 := fun i => if o ≤ i ∧ i < o + k then 0 else g i
theorem zr_0 (o : Nat) (g : Nat → Int32) : zr o 0 g = g := by
  funext i; unfold zr; rw [if_neg (by omega)]
theorem zr_s (o k : Nat) (g : Nat → Int32) : upd (zr o k g) (o + k) 0 = zr o (k + 1) g := by
  funext i; unfold upd zr
  by_cases h : i = o + k
  · rw [if_pos h, if_pos (by omega)]
  · rw [if_neg h]
    by_cases h2 : o ≤ i ∧ i < o + k
    · rw [if_pos h2, if_pos (by omega)]
    · rw [if_neg h2, if_neg (by omega)]
set_option maxHeartbeats 4000000 in
set_option maxRecDepth 100000 in
theorem c_X7_in (l : Launch) (D : va_G) (cI cO cL : ClassId) (ws : va_W) (v lo hi : Int64) (V LO HI : Int) (hV : v.toInt = V) (hLO : lo.toInt = LO) (hHI : hi.toInt = HI) : Ki l yX7_in wsX7_in { frames := 0, cells := 0, slots := 0, locals := 0 } D (TY cI cO cL) [.long (v), .long (lo), .long (hi)] (ws) (fun r w => (r = 1 ∧ w = ws ∧ (LO ≤ V ∧ V ≤ HI)) ∨ (r = 0 ∧ w = ws ∧ ¬ (LO ≤ V ∧ V ≤ HI))) := by
  refine Ki.mk (cc := cX7_in) (maxL := 6) (rt := .boolean) (own := RX7) (by decide) rfl rfl (Nat.le_of_ble_eq_true rfl) ?_
  intro p e s m below meth c A Q ls C hname hA G hl RET
  obtain ⟨⟨hx, hb, hml, hown, hts⟩, hK, hN⟩ := id C
  have hl : lv_has ls 6 [(0, .long (v)), (2, .long (lo)), (4, .long (hi))] := hl
  refine lv_lload_n hx hb dX7_in_0 rfl (lv_at hl 0 rfl) ?_
  refine lv_lload_n hx hb dX7_in_1 rfl (lv_at hl 1 rfl) ?_
  refine W.lcmp hx hb dX7_in_2 ?_
  refine lv_if_lt (tgt := 17) hx hb dX7_in_3 (by decide) (fun c3 => ?_) (fun c3 => ?_)
  · skip
    replace c3 : V < LO := ((lg_cmp_lt _ _).trans (cw_lt hV hLO)).mp c3
    refine lv_iconst (v := (nI (0))) hx hb dX7_in_17 (by decide) ?_
    exact RET (nI (0)) (ws) _ _ ls _ _ _ (Or.inr ⟨rfl, rfl, by omega⟩) G (by first | (simp only []; omega) | decide) (by first | (simp only []; omega) | decide) rfl dX7_in_18
  · skip
    replace c3 : LO ≤ V := Int.not_lt.mp (fun h => c3 (((lg_cmp_lt _ _).trans (cw_lt hV hLO)).mpr h))
    refine lv_lload_n hx hb dX7_in_6 rfl (lv_at hl 0 rfl) ?_
    refine lv_lload hx hb dX7_in_7 (lv_at hl 2 rfl) ?_
    refine W.lcmp hx hb dX7_in_9 ?_
    refine lv_if_gt (tgt := 17) hx hb dX7_in_10 (by decide) (fun c10 => ?_) (fun c10 => ?_)
    · skip
      replace c10 : HI < V := ((lg_cmp_gt _ _).trans (cw_lt hHI hV)).mp c10
      refine lv_iconst (v := (nI (0))) hx hb dX7_in_17 (by decide) ?_
      exact RET (nI (0)) (ws) _ _ ls _ _ _ (Or.inr ⟨rfl, rfl, by omega⟩) G (by first | (simp only []; omega) | decide) (by first | (simp only []; omega) | decide) rfl dX7_in_18
    · skip
      replace c10 : V ≤ HI := Int.not_lt.mp (fun h => c10 (((lg_cmp_gt _ _).trans (cw_lt hHI hV)).mpr h))
      refine lv_iconst (v := (nI (1))) hx hb dX7_in_13 (by decide) ?_
      refine lv_goto (tgt := 18) hx hb dX7_in_14 (by decide) ?_
      exact RET (nI (1)) (ws) _ _ ls _ _ _ (Or.inl ⟨rfl, rfl, by omega⟩) G (by first | (simp only []; omega) | decide) (by first | (simp only []; omega) | decide) rfl dX7_in_18
set_option maxHeartbeats 4000000 in
set_option maxRecDepth 100000 in
theorem c_X7_isRow (l : Launch) (D : va_G) (cI cO cL : ClassId) (b : Nat → Nat) (I : Nat → Nat) (J : Nat → Int64) (F : Nat → Nat → Nat) (G0 : Nat → Nat → Int32) (x : Int32) (h1 : I 1 ≤ 60) : Ki l yX7_isRow wsX7_isRow { frames := 1, cells := 0, slots := 0, locals := 25 } D (TY cI cO cL) [.ref (b 0), .int (x)] (mW cI b I J F G0) (fun r w => (r = 1 ∧ w = mW cI b I J F G0 ∧ (0 ≤ x.toInt ∧ x.toInt < I 1)) ∨ (r = 0 ∧ w = mW cI b I J F G0 ∧ ¬ (0 ≤ x.toInt ∧ x.toInt < I 1))) := by
  refine Ki.mk (cc := cX7_isRow) (maxL := 2) (rt := .boolean) (own := RX7) (by decide) rfl rfl (Nat.le_of_ble_eq_true rfl) ?_
  intro p e s m below meth c A Q ls C hname hA G hl RET
  obtain ⟨⟨hx, hb, hml, hown, hts⟩, hK, hN⟩ := id C
  have hl : lv_has ls 2 [(0, .ref (b 0)), (1, .int (x))] := hl
  have hX7 : ∀ w ∈ u_ws RX7 TX7 30, w ∈ wsX7_isRow := by decide +kernel
  refine lv_iload_n hx hb dX7_isRow_0 rfl (lv_at hl 1 rfl) ?_
  refine lv_i2l hx hb dX7_isRow_1 rfl ?_
  refine lv_lconst (v := 0) hx hb dX7_isRow_2 (by decide) ?_
  refine lv_aload_n hx hb dX7_isRow_3 rfl (lv_at hl 0 rfl) ?_
  refine r_get (v := .int (nI (I 1))) C G hX7 0 rfl rfl 3 (by decide) (by decide +kernel) rfl dX7_isRow_4 ?_
  refine lv_iconst (v := (nI (1))) hx hb dX7_isRow_7 (by decide) ?_
  refine lv_isub hx hb dX7_isRow_8 ?_
  refine lv_i2l hx hb dX7_isRow_9 rfl ?_
  refine r_ai G hA (r_rS (na := 3) (As := [.long (x.toInt64), .long (0), .long ((nI (I 1) - nI (1)).toInt64)]) (rest := []) C G (c_X7_in l D cI cO cL (mW cI b I J F G0) x.toInt64 0 ((nI (I 1) - nI (1)).toInt64) ((x).toInt) ((0)) (((I 1 : Nat) : Int) - ((1 : Nat) : Int)) ((i2l_ti rfl)) ((by decide)) ((i2l_ti (pk_sub_toInt (by omega) (by omega))))) gX7_isRow_X7_in rfl (by decide +kernel) ⟨Nat.le_of_ble_eq_true rfl, Nat.le_of_ble_eq_true rfl⟩ rfl hl.1 rfl (Nat.le_of_ble_eq_true rfl) dX7_isRow_10 ⟨by first | (simp only []; omega) | decide, by first | (simp only []; omega) | decide⟩) (fun r10 w10 H locs hp10 G => ?_)
  rcases hp10 with ⟨rfl, rfl, hi10⟩ | ⟨rfl, rfl, hi10⟩
  · skip
    exact RET (nI (1)) (mW cI b I J F G0) _ _ ls _ _ _ (Or.inl ⟨rfl, rfl, by omega⟩) G (by first | (simp only []; omega) | decide) (by first | (simp only []; omega) | decide) rfl dX7_isRow_13
  · skip
    exact RET (nI (0)) (mW cI b I J F G0) _ _ ls _ _ _ (Or.inr ⟨rfl, rfl, by omega⟩) G (by first | (simp only []; omega) | decide) (by first | (simp only []; omega) | decide) rfl dX7_isRow_13
set_option maxHeartbeats 4000000 in
set_option maxRecDepth 100000 in
theorem c_X7_isAsked (l : Launch) (D : va_G) (cI cO cL : ClassId) (b : Nat → Nat) (I : Nat → Nat) (J : Nat → Int64) (F : Nat → Nat → Nat) (G0 : Nat → Nat → Int32) (x y : Int32) : Ki l yX7_isAsked wsX7_isAsked { frames := 1, cells := 0, slots := 0, locals := 25 } D (TY cI cO cL) [.ref (b 0), .int (x), .int (y)] (mW cI b I J F G0) (fun r w => (r = 1 ∧ w = mW cI b I J F G0 ∧ (0 ≤ x.toInt ∧ x.toInt ≤ 4 ∧ 0 ≤ y.toInt ∧ y.toInt ≤ 1000)) ∨ (r = 0 ∧ w = mW cI b I J F G0 ∧ ¬ (0 ≤ x.toInt ∧ x.toInt ≤ 4 ∧ 0 ≤ y.toInt ∧ y.toInt ≤ 1000))) := by
  refine Ki.mk (cc := cX7_isAsked) (maxL := 3) (rt := .boolean) (own := RX7) (by decide) rfl rfl (Nat.le_of_ble_eq_true rfl) ?_
  intro p e s m below meth c A Q ls C hname hA G hl RET
  obtain ⟨⟨hx, hb, hml, hown, hts⟩, hK, hN⟩ := id C
  have hl : lv_has ls 3 [(0, .ref (b 0)), (1, .int (x)), (2, .int (y))] := hl
  refine lv_iload_n hx hb dX7_isAsked_0 rfl (lv_at hl 1 rfl) ?_
  refine lv_i2l hx hb dX7_isAsked_1 rfl ?_
  refine lv_lconst (v := 0) hx hb dX7_isAsked_2 (by decide) ?_
  refine lv_ldc2 (v := (4)) hx hb hown (hts (.constantLong RX7 158 (4)) (by decide +kernel)) dX7_isAsked_3 ?_
  refine r_ai G hA (r_rS (na := 3) (As := [.long (x.toInt64), .long (0), .long ((4))]) (rest := []) C G (c_X7_in l D cI cO cL (mW cI b I J F G0) x.toInt64 0 ((4)) ((x).toInt) ((0)) ((4)) ((i2l_ti rfl)) ((by decide)) ((by decide))) gX7_isAsked_X7_in rfl (by decide +kernel) ⟨Nat.le_of_ble_eq_true rfl, Nat.le_of_ble_eq_true rfl⟩ rfl hl.1 rfl (Nat.le_of_ble_eq_true rfl) dX7_isAsked_6 ⟨by first | (simp only []; omega) | decide, by first | (simp only []; omega) | decide⟩) (fun r6 w6 H locs hp6 G => ?_)
  rcases hp6 with ⟨rfl, rfl, hi6⟩ | ⟨rfl, rfl, hi6⟩
  · skip
    refine lv_if_eq (tgt := 28) hx hb dX7_isAsked_9 (by decide) (fun c9 => ?_) (fun c9 => ?_)
    · skip
      exact absurd c9 (by decide)
    · skip
      refine lv_iload_n hx hb dX7_isAsked_12 rfl (lv_at hl 2 rfl) ?_
      refine lv_i2l hx hb dX7_isAsked_13 rfl ?_
      refine lv_lconst (v := 0) hx hb dX7_isAsked_14 (by decide) ?_
      refine lv_ldc2 (v := (1000)) hx hb hown (hts (.constantLong RX7 102 (1000)) (by decide +kernel)) dX7_isAsked_15 ?_
      refine r_ai G hA (r_rS (na := 3) (As := [.long (y.toInt64), .long (0), .long ((1000))]) (rest := []) C G (c_X7_in l D cI cO cL (mW cI b I J F G0) y.toInt64 0 ((1000)) ((y).toInt) ((0)) ((1000)) ((i2l_ti rfl)) ((by decide)) ((by decide))) gX7_isAsked_X7_in rfl (by decide +kernel) ⟨Nat.le_of_ble_eq_true rfl, Nat.le_of_ble_eq_true rfl⟩ rfl hl.1 rfl (Nat.le_of_ble_eq_true rfl) dX7_isAsked_18 ⟨by first | (simp only []; omega) | decide, by first | (simp only []; omega) | decide⟩) (fun r18 w18 H locs hp18 G => ?_)
      rcases hp18 with ⟨rfl, rfl, hi18⟩ | ⟨rfl, rfl, hi18⟩
      · skip
        refine lv_if_eq (tgt := 28) hx hb dX7_isAsked_21 (by decide) (fun c21 => ?_) (fun c21 => ?_)
        · skip
          exact absurd c21 (by decide)
        · skip
          refine lv_iconst (v := (nI (1))) hx hb dX7_isAsked_24 (by decide) ?_
          refine lv_goto (tgt := 29) hx hb dX7_isAsked_25 (by decide) ?_
          exact RET (nI (1)) (mW cI b I J F G0) _ _ ls _ _ _ (Or.inl ⟨rfl, rfl, by omega⟩) G (by first | (simp only []; omega) | decide) (by first | (simp only []; omega) | decide) rfl dX7_isAsked_29
      · skip
        refine lv_if_eq (tgt := 28) hx hb dX7_isAsked_21 (by decide) (fun c21 => ?_) (fun c21 => ?_)
        · skip
          refine lv_iconst (v := (nI (0))) hx hb dX7_isAsked_28 (by decide) ?_
          exact RET (nI (0)) (mW cI b I J F G0) _ _ ls _ _ _ (Or.inr ⟨rfl, rfl, by omega⟩) G (by first | (simp only []; omega) | decide) (by first | (simp only []; omega) | decide) rfl dX7_isAsked_29
        · skip
          exact absurd c21 (by decide)
  · skip
    refine lv_if_eq (tgt := 28) hx hb dX7_isAsked_9 (by decide) (fun c9 => ?_) (fun c9 => ?_)
    · skip
      refine lv_iconst (v := (nI (0))) hx hb dX7_isAsked_28 (by decide) ?_
      exact RET (nI (0)) (mW cI b I J F G0) _ _ ls _ _ _ (Or.inr ⟨rfl, rfl, by omega⟩) G (by first | (simp only []; omega) | decide) (by first | (simp only []; omega) | decide) rfl dX7_isAsked_29
    · skip
      exact absurd c9 (by decide)
set_option maxHeartbeats 4000000 in
set_option maxRecDepth 100000 in
theorem c_X7_comes (l : Launch) (D : va_G) (cI cO cL : ClassId) (b : Nat → Nat) (I : Nat → Nat) (J : Nat → Int64) (F : Nat → Nat → Nat) (G0 : Nat → Nat → Int32) (kd hi wi : Nat) (lb wt : Int32) (h1 : I 1 ≤ 60) (hh : hi ≤ 40) (hw : wi ≤ 40) (hp : hi * wi ≤ 1600) : Ki l yX7_comes wsX7_comes { frames := 1, cells := 0, slots := 0, locals := 25 } D (TY cI cO cL) [.ref (b 0), .int (nI (kd)), .int (lb), .int (wt), .int (nI (hi)), .int (nI (wi))] (mW cI b I J F G0) (fun r w => (¬ (0 ≤ lb.toInt ∧ lb.toInt ≤ 7 ∧ 0 ≤ wt.toInt ∧ wt.toInt ≤ 1000) ∧ r = -1 ∧ w = mW cI b I J F G0) ∨ ((0 ≤ lb.toInt ∧ lb.toInt ≤ 7 ∧ 0 ≤ wt.toInt ∧ wt.toInt ≤ 1000) ∧ I 1 = 60 ∧ r = -2 ∧ w = mW cI b I J F G0) ∨ ((0 ≤ lb.toInt ∧ lb.toInt ≤ 7 ∧ 0 ≤ wt.toInt ∧ wt.toInt ≤ 1000) ∧ I 1 < 60 ∧ r = nI (I 1) ∧ w = mW cI b (va_up I 1 (I 1 + 1)) J (va_up (va_up (va_up (va_up (va_up (va_up F 0 (va_up (F 0) (I 1) kd)) 1 (va_up (F 1) (I 1) (tn lb))) 2 (va_up (F 2) (I 1) (tn wt))) 3 (va_up (F 3) (I 1) (hi * wi))) 4 (va_up (F 4) (I 1) hi)) 5 (va_up (F 5) (I 1) wi)) (va_up G0 0 (zr (1600 * I 1) 1600 (G0 0))))) := by
  refine Ki.mk (cc := cX7_comes) (maxL := 7) (rt := .int) (own := RX7) (by decide) rfl rfl (Nat.le_of_ble_eq_true rfl) ?_
  intro p e s m below meth c A Q ls C hname hA G hl RET
  obtain ⟨⟨hx, hb, hml, hown, hts⟩, hK, hN⟩ := id C
  have hl : lv_has ls 7 [(0, .ref (b 0)), (1, .int (nI (kd))), (2, .int (lb)), (3, .int (wt)), (4, .int (nI (hi))), (5, .int (nI (wi)))] := hl
  have hX7 : ∀ w ∈ u_ws RX7 TX7 30, w ∈ wsX7_comes := by decide +kernel
  refine lv_iload_n hx hb dX7_comes_0 rfl (lv_at hl 2 rfl) ?_
  refine lv_i2l hx hb dX7_comes_1 rfl ?_
  refine lv_lconst (v := 0) hx hb dX7_comes_2 (by decide) ?_
  refine lv_ldc2 (v := (7)) hx hb hown (hts (.constantLong RX7 100 (7)) (by decide +kernel)) dX7_comes_3 ?_
  refine r_ai G hA (r_rS (na := 3) (As := [.long (lb.toInt64), .long (0), .long ((7))]) (rest := []) C G (c_X7_in l D cI cO cL (mW cI b I J F G0) lb.toInt64 0 ((7)) ((lb).toInt) ((0)) ((7)) ((i2l_ti rfl)) ((by decide)) ((by decide))) gX7_comes_X7_in rfl (by decide +kernel) ⟨Nat.le_of_ble_eq_true rfl, Nat.le_of_ble_eq_true rfl⟩ rfl hl.1 rfl (Nat.le_of_ble_eq_true rfl) dX7_comes_6 ⟨by first | (simp only []; omega) | decide, by first | (simp only []; omega) | decide⟩) (fun r6 w6 H locs hp6 G => ?_)
  rcases hp6 with ⟨rfl, rfl, hi6⟩ | ⟨rfl, rfl, hi6⟩
  · skip
    refine lv_if_eq (tgt := 24) hx hb dX7_comes_9 (by decide) (fun c9 => ?_) (fun c9 => ?_)
    · skip
      exact absurd c9 (by decide)
    · skip
      refine lv_iload_n hx hb dX7_comes_12 rfl (lv_at hl 3 rfl) ?_
      refine lv_i2l hx hb dX7_comes_13 rfl ?_
      refine lv_lconst (v := 0) hx hb dX7_comes_14 (by decide) ?_
      refine lv_ldc2 (v := (1000)) hx hb hown (hts (.constantLong RX7 102 (1000)) (by decide +kernel)) dX7_comes_15 ?_
      refine r_ai G hA (r_rS (na := 3) (As := [.long (wt.toInt64), .long (0), .long ((1000))]) (rest := []) C G (c_X7_in l D cI cO cL (mW cI b I J F G0) wt.toInt64 0 ((1000)) ((wt).toInt) ((0)) ((1000)) ((i2l_ti rfl)) ((by decide)) ((by decide))) gX7_comes_X7_in rfl (by decide +kernel) ⟨Nat.le_of_ble_eq_true rfl, Nat.le_of_ble_eq_true rfl⟩ rfl hl.1 rfl (Nat.le_of_ble_eq_true rfl) dX7_comes_18 ⟨by first | (simp only []; omega) | decide, by first | (simp only []; omega) | decide⟩) (fun r18 w18 H locs hp18 G => ?_)
      rcases hp18 with ⟨rfl, rfl, hi18⟩ | ⟨rfl, rfl, hi18⟩
      · skip
        refine lv_if_ne (tgt := 26) hx hb dX7_comes_21 (by decide) (fun c21 => ?_) (fun c21 => ?_)
        · skip
          refine lv_aload_n hx hb dX7_comes_26 rfl (lv_at hl 0 rfl) ?_
          refine r_get (v := .int (nI (I 1))) C G hX7 0 rfl rfl 3 (by decide) (by decide +kernel) rfl dX7_comes_27 ?_
          refine lv_bipush (v := (nI (60))) hx hb dX7_comes_30 (by decide) ?_
          refine lv_icmp_ne (tgt := 38) hx hb dX7_comes_32 (by decide) (fun c32 => ?_) (fun c32 => ?_)
          · skip
            replace c32 : ¬ ((I 1 : Nat) : Int) = ((60 : Nat) : Int) := fun h => c32 ((cv_eq (nI_toInt (by omega)) (nI_toInt (by omega))).mpr h)
            obtain ⟨lb1, hlb1, elb1, rfl⟩ := nat_of (x := lb) (by omega)
            obtain ⟨wt1, hwt1, ewt1, rfl⟩ := nat_of (x := wt) (by omega)
            refine lv_aload_n hx hb dX7_comes_38 rfl (lv_at hl 0 rfl) ?_
            refine r_get (v := .ref (b 1)) C G hX7 0 rfl rfl 4 (by decide) (by decide +kernel) rfl dX7_comes_39 ?_
            refine lv_aload_n hx hb dX7_comes_42 rfl (lv_at hl 0 rfl) ?_
            refine r_get (v := .int (nI (I 1))) C G hX7 0 rfl rfl 3 (by decide) (by decide +kernel) rfl dX7_comes_43 ?_
            refine lv_iload_n hx hb dX7_comes_46 rfl (lv_at hl 1 rfl) ?_
            refine r_iast (ws' := mW cI b I J (va_up F 0 (va_up (F 0) (I 1) kd)) G0) C G 1 0 rfl rfl (I 1) rfl (by omega) (by omega) (nI_upd _ _ _) dX7_comes_47 rfl (fun H locs G => ?_)
            refine lv_aload_n hx hb dX7_comes_48 rfl (lv_at hl 0 rfl) ?_
            refine r_get (v := .ref (b 2)) C G hX7 0 rfl rfl 5 (by decide) (by decide +kernel) rfl dX7_comes_49 ?_
            refine lv_aload_n hx hb dX7_comes_52 rfl (lv_at hl 0 rfl) ?_
            refine r_get (v := .int (nI (I 1))) C G hX7 0 rfl rfl 3 (by decide) (by decide +kernel) rfl dX7_comes_53 ?_
            refine lv_iload_n hx hb dX7_comes_56 rfl (lv_at hl 2 rfl) ?_
            refine r_iast (ws' := mW cI b I J (va_up (va_up F 0 (va_up (F 0) (I 1) kd)) 1 (va_up (F 1) (I 1) lb1)) G0) C G 2 0 rfl rfl (I 1) rfl (by omega) (by omega) (nI_upd _ _ _) dX7_comes_57 rfl (fun H locs G => ?_)
            refine lv_aload_n hx hb dX7_comes_58 rfl (lv_at hl 0 rfl) ?_
            refine r_get (v := .ref (b 3)) C G hX7 0 rfl rfl 6 (by decide) (by decide +kernel) rfl dX7_comes_59 ?_
            refine lv_aload_n hx hb dX7_comes_62 rfl (lv_at hl 0 rfl) ?_
            refine r_get (v := .int (nI (I 1))) C G hX7 0 rfl rfl 3 (by decide) (by decide +kernel) rfl dX7_comes_63 ?_
            refine lv_iload_n hx hb dX7_comes_66 rfl (lv_at hl 3 rfl) ?_
            refine r_iast (ws' := mW cI b I J (va_up (va_up (va_up F 0 (va_up (F 0) (I 1) kd)) 1 (va_up (F 1) (I 1) lb1)) 2 (va_up (F 2) (I 1) wt1)) G0) C G 3 0 rfl rfl (I 1) rfl (by omega) (by omega) (nI_upd _ _ _) dX7_comes_67 rfl (fun H locs G => ?_)
            refine lv_aload_n hx hb dX7_comes_68 rfl (lv_at hl 0 rfl) ?_
            refine r_get (v := .ref (b 5)) C G hX7 0 rfl rfl 8 (by decide) (by decide +kernel) rfl dX7_comes_69 ?_
            refine lv_aload_n hx hb dX7_comes_72 rfl (lv_at hl 0 rfl) ?_
            refine r_get (v := .int (nI (I 1))) C G hX7 0 rfl rfl 3 (by decide) (by decide +kernel) rfl dX7_comes_73 ?_
            refine lv_iload hx hb dX7_comes_76 (lv_at hl 4 rfl) ?_
            refine r_iast (ws' := mW cI b I J (va_up (va_up (va_up (va_up F 0 (va_up (F 0) (I 1) kd)) 1 (va_up (F 1) (I 1) lb1)) 2 (va_up (F 2) (I 1) wt1)) 4 (va_up (F 4) (I 1) hi)) G0) C G 5 0 rfl rfl (I 1) rfl (by omega) (by omega) (nI_upd _ _ _) dX7_comes_78 rfl (fun H locs G => ?_)
            refine lv_aload_n hx hb dX7_comes_79 rfl (lv_at hl 0 rfl) ?_
            refine r_get (v := .ref (b 6)) C G hX7 0 rfl rfl 9 (by decide) (by decide +kernel) rfl dX7_comes_80 ?_
            refine lv_aload_n hx hb dX7_comes_83 rfl (lv_at hl 0 rfl) ?_
            refine r_get (v := .int (nI (I 1))) C G hX7 0 rfl rfl 3 (by decide) (by decide +kernel) rfl dX7_comes_84 ?_
            refine lv_iload hx hb dX7_comes_87 (lv_at hl 5 rfl) ?_
            refine r_iast (ws' := mW cI b I J (va_up (va_up (va_up (va_up (va_up F 0 (va_up (F 0) (I 1) kd)) 1 (va_up (F 1) (I 1) lb1)) 2 (va_up (F 2) (I 1) wt1)) 4 (va_up (F 4) (I 1) hi)) 5 (va_up (F 5) (I 1) wi)) G0) C G 6 0 rfl rfl (I 1) rfl (by omega) (by omega) (nI_upd _ _ _) dX7_comes_89 rfl (fun H locs G => ?_)
            refine lv_aload_n hx hb dX7_comes_90 rfl (lv_at hl 0 rfl) ?_
            refine r_get (v := .ref (b 4)) C G hX7 0 rfl rfl 7 (by decide) (by decide +kernel) rfl dX7_comes_91 ?_
            refine lv_aload_n hx hb dX7_comes_94 rfl (lv_at hl 0 rfl) ?_
            refine r_get (v := .int (nI (I 1))) C G hX7 0 rfl rfl 3 (by decide) (by decide +kernel) rfl dX7_comes_95 ?_
            refine lv_iload hx hb dX7_comes_98 (lv_at hl 4 rfl) ?_
            refine lv_iload hx hb dX7_comes_100 (lv_at hl 5 rfl) ?_
            refine r_imul hx hb dX7_comes_102 ?_
            refine r_iast (ws' := mW cI b I J (va_up (va_up (va_up (va_up (va_up (va_up F 0 (va_up (F 0) (I 1) kd)) 1 (va_up (F 1) (I 1) lb1)) 2 (va_up (F 2) (I 1) wt1)) 4 (va_up (F 4) (I 1) hi)) 5 (va_up (F 5) (I 1) wi)) 3 (va_up (F 3) (I 1) (hi * wi))) G0) C G 4 0 rfl rfl (I 1) rfl (by omega) (by omega) (nI_upd _ _ _) dX7_comes_103 rfl (fun H locs G => ?_)
            refine lv_iconst (v := (nI (0))) hx hb dX7_comes_104 (by decide) ?_
            refine lv_istore (lv' := [(6, .int (nI (0))), (0, .ref (b 0)), (1, .int (nI (kd))), (2, .int (nI (lb1))), (3, .int (nI (wt1))), (4, .int (nI (hi))), (5, .int (nI (wi)))]) hx hb dX7_comes_105 hl (by decide) rfl (fun ls hl => ?_)
            have lp107 : ∀ (fuel107 : Nat) (k : Nat) (hm : 1600 - k < fuel107) (hk : k ≤ 1600) (H : Heap) (locs : List Loc) (ls : Array Slot), Wd A s.heap D (mW cI b I J (va_up (va_up (va_up (va_up (va_up (va_up F 0 (va_up (F 0) (I 1) kd)) 3 (va_up (F 3) (I 1) (hi * wi))) 4 (va_up (F 4) (I 1) hi)) 5 (va_up (F 5) (I 1) wi)) 1 (va_up (F 1) (I 1) lb1)) 2 (va_up (F 2) (I 1) wt1)) (va_up G0 0 (zr (1600 * I 1) k (G0 0)))) H locs → lv_has ls 7 [(0, .ref (b 0)), (6, .int (nI (k)))] → W p l e ({ frames := 1, cells := 0, slots := 0, locals := 25 } : Room) s m ([.ref (b 0), .int (nI (kd)), .int (nI (lb1)), .int (nI (wt1)), .int (nI (hi)), .int (nI (wi))] : List Value).toArray below meth c H locs 0 0 Q (F0 m 107 ls []) := by
              intro fuel107
              induction fuel107 with
              | zero => intro k hm hk; exact absurd hm (by omega)
              | succ fuel107 ih107 =>
                intro k hm hk H locs ls G hl
                refine lv_iload hx hb dX7_comes_107 (lv_at hl 1 rfl) ?_
                refine lv_sipush (v := (nI (1600))) hx hb dX7_comes_109 (by decide) ?_
                refine lv_icmp_ge (tgt := 138) hx hb dX7_comes_112 (by decide) (fun c112 => ?_) (fun c112 => ?_)
                · skip
                  replace c112 : ((1600 : Nat) : Int) ≤ ((k : Nat) : Int) := (cv_le (nI_toInt (by omega)) (nI_toInt (by omega))).mp c112
                  obtain rfl : k = 1600 := by omega
                  refine lv_aload_n hx hb dX7_comes_138 rfl (lv_at hl 0 rfl) ?_
                  refine lv_dup hx hb dX7_comes_139 rfl ?_
                  refine r_get (v := .int (nI (I 1))) C G hX7 0 rfl rfl 3 (by decide) (by decide +kernel) rfl dX7_comes_140 ?_
                  refine lv_iconst (v := (nI (1))) hx hb dX7_comes_143 (by decide) ?_
                  refine r_iadd hx hb dX7_comes_144 ?_
                  refine r_put (ws' := mW cI b (va_up I 1 ((I 1) + 1)) J (va_up (va_up (va_up (va_up (va_up (va_up F 0 (va_up (F 0) (I 1) kd)) 3 (va_up (F 3) (I 1) (hi * wi))) 4 (va_up (F 4) (I 1) hi)) 5 (va_up (F 5) (I 1) wi)) 1 (va_up (F 1) (I 1) lb1)) 2 (va_up (F 2) (I 1) wt1)) (va_up G0 0 (zr (1600 * I 1) 1600 (G0 0)))) C G hX7 tyX7_ok nmX7 0 rfl rfl 3 (by decide) (by decide +kernel) rfl rfl rfl (Nat.le_of_ble_eq_true rfl) dX7_comes_145 rfl (fun H locs G => ?_)
                  refine lv_aload_n hx hb dX7_comes_148 rfl (lv_at hl 0 rfl) ?_
                  refine r_get (v := .int (nI ((I 1) + 1))) C G hX7 0 rfl rfl 3 (by decide) (by decide +kernel) rfl dX7_comes_149 ?_
                  refine lv_iconst (v := (nI (1))) hx hb dX7_comes_152 (by decide) ?_
                  refine r_isub hx hb (by omega) dX7_comes_153 ?_
                  exact RET (nI (((I 1) + 1) - 1)) (mW cI b (va_up I 1 ((I 1) + 1)) J (va_up (va_up (va_up (va_up (va_up (va_up F 0 (va_up (F 0) (I 1) kd)) 3 (va_up (F 3) (I 1) (hi * wi))) 4 (va_up (F 4) (I 1) hi)) 5 (va_up (F 5) (I 1) wi)) 1 (va_up (F 1) (I 1) lb1)) 2 (va_up (F 2) (I 1) wt1)) (va_up G0 0 (zr (1600 * I 1) 1600 (G0 0)))) _ _ ls _ _ _ (by rw [tn_nI hlb1, tn_nI hwt1]; exact Or.inr (Or.inr ⟨by omega, by omega, by rw [Nat.add_sub_cancel], rfl⟩)) G (by first | (simp only []; omega) | decide) (by first | (simp only []; omega) | decide) rfl dX7_comes_154
                · skip
                  replace c112 : ((k : Nat) : Int) < ((1600 : Nat) : Int) := Int.not_le.mp (fun h => c112 ((cv_le (nI_toInt (by omega)) (nI_toInt (by omega))).mpr h))
                  refine lv_aload_n hx hb dX7_comes_115 rfl (lv_at hl 0 rfl) ?_
                  refine r_get (v := .ref (b 7)) C G hX7 0 rfl rfl 10 (by decide) (by decide +kernel) rfl dX7_comes_116 ?_
                  refine lv_sipush (v := (nI (1600))) hx hb dX7_comes_119 (by decide) ?_
                  refine lv_aload_n hx hb dX7_comes_122 rfl (lv_at hl 0 rfl) ?_
                  refine r_get (v := .int (nI (I 1))) C G hX7 0 rfl rfl 3 (by decide) (by decide +kernel) rfl dX7_comes_123 ?_
                  refine r_imul hx hb dX7_comes_126 ?_
                  refine lv_iload hx hb dX7_comes_127 (lv_at hl 1 rfl) ?_
                  refine r_iadd hx hb dX7_comes_129 ?_
                  refine lv_iconst (v := (nI (0))) hx hb dX7_comes_130 (by decide) ?_
                  refine r_iast (ws' := mW cI b I J (va_up (va_up (va_up (va_up (va_up (va_up F 0 (va_up (F 0) (I 1) kd)) 3 (va_up (F 3) (I 1) (hi * wi))) 4 (va_up (F 4) (I 1) hi)) 5 (va_up (F 5) (I 1) wi)) 1 (va_up (F 1) (I 1) lb1)) 2 (va_up (F 2) (I 1) wt1)) (va_up G0 0 (zr (1600 * I 1) (k + 1) (G0 0)))) C G 7 0 rfl rfl ((1600 * (I 1)) + k) rfl (by omega) (by omega) (zr_s _ _ _) dX7_comes_131 rfl (fun H locs G => ?_)
                  refine lv_iinc (v := nI (k + 1)) (lv' := [(6, .int (nI (k + 1))), (0, .ref (b 0))]) hx hb dX7_comes_132 hl (k := 1) rfl (inc_n _ 1) (by decide) rfl (fun ls hl => ?_)
                  refine lv_goto (tgt := 107) hx hb dX7_comes_135 (by decide) ?_
                  exact ih107 (k + 1) (by omega) (by omega) _ _ _ (G.eq (rfl)) (lv_sub hl [1, 0] rfl)
            exact lp107 1601 0 (by omega) (by omega) _ _ _ (G.eq (by rw [zr_0]; rfl)) (lv_sub hl [1, 0] rfl)
          · skip
            replace c32 : ((I 1 : Nat) : Int) = ((60 : Nat) : Int) := (cv_eq (nI_toInt (by omega)) (nI_toInt (by omega))).mp c32
            refine lv_bipush (v := ((-2))) hx hb dX7_comes_35 (by decide) ?_
            exact RET ((-2)) (mW cI b I J F G0) _ _ ls _ _ _ (Or.inr (Or.inl ⟨by omega, by omega, rfl, rfl⟩)) G (by first | (simp only []; omega) | decide) (by first | (simp only []; omega) | decide) rfl dX7_comes_37
        · skip
          exact absurd c21 (by decide)
      · skip
        refine lv_if_ne (tgt := 26) hx hb dX7_comes_21 (by decide) (fun c21 => ?_) (fun c21 => ?_)
        · skip
          exact absurd c21 (by decide)
        · skip
          refine lv_iconst (v := ((-1))) hx hb dX7_comes_24 (by decide) ?_
          exact RET ((-1)) (mW cI b I J F G0) _ _ ls _ _ _ (Or.inl ⟨by omega, rfl, rfl⟩) G (by first | (simp only []; omega) | decide) (by first | (simp only []; omega) | decide) rfl dX7_comes_25
  · skip
    refine lv_if_eq (tgt := 24) hx hb dX7_comes_9 (by decide) (fun c9 => ?_) (fun c9 => ?_)
    · skip
      refine lv_iconst (v := ((-1))) hx hb dX7_comes_24 (by decide) ?_
      exact RET ((-1)) (mW cI b I J F G0) _ _ ls _ _ _ (Or.inl ⟨by omega, rfl, rfl⟩) G (by first | (simp only []; omega) | decide) (by first | (simp only []; omega) | decide) rfl dX7_comes_25
    · skip
      exact absurd c9 (by decide)
