set_option maxHeartbeats 4000000 in
set_option maxRecDepth 100000 in
theorem c_X2_shuffle_p (l : Launch) (D : va_G) (cI cO cL : ClassId) (a ca ia : Nat → Nat) (n : Nat) (O : Nat → Option Nat) (I : Nat → Nat) (J : Nat → Int64) (F : Nat → Nat → Nat) (E : Nat → Nat → Int32) (K : Nat → Nat → Nat) (G0 : Nat → Nat → Int32) (o q : Nat) (h : o + q ≤ 60) : Kv l yX2_shuffle wsX2_shuffle { frames := 2, cells := 0, slots := 0, locals := 42 } D (TY cI cO cL) [.ref (a 3), .ref (a 8), .int (nI (o)), .int (nI (q))] (bW cI cO a ca ia n O I J F E K G0) (fun w => ∃ g σ, (g, σ) = shf dr nxg o (q - 1) (F 2) (J 1) ∧ w = bW cI cO a ca ia n O I (va_up J 1 (σ)) (va_up F 2 g) E K G0) := by
  refine Kv.mk (cc := cX2_shuffle) (maxL := 7) (own := RX2) (by decide) rfl rfl (Nat.le_of_ble_eq_true rfl) ?_
  intro p e s m below meth c A Q ls C hname hA G hl RET
  obtain ⟨⟨hx, hb, hml, hown, hts⟩, hK, hN⟩ := id C
  have hl : lv_has ls 7 [(0, .ref (a 3)), (1, .ref (a 8)), (2, .int (nI (o))), (3, .int (nI (q)))] := hl
  rcases Nat.eq_zero_or_pos q with rfl | hq
  · skip
    refine lv_iload_n hx hb dX2_shuffle_0 rfl (lv_at hl 2 rfl) ?_
    refine lv_if_lt (tgt := 12) hx hb dX2_shuffle_1 (by decide) (fun c1 => ?_) (fun c1 => ?_)
    · skip
      replace c1 : ((o : Nat) : Int) < (0) := (cv_lt (nI_toInt (by omega)) (by decide)).mp c1
      exact absurd c1 (by omega)
    · skip
      replace c1 : (0) ≤ ((o : Nat) : Int) := Int.not_lt.mp (fun h => c1 ((cv_lt (nI_toInt (by omega)) (by decide)).mpr h))
      refine lv_iload_n hx hb dX2_shuffle_4 rfl (lv_at hl 3 rfl) ?_
      refine lv_aload_n hx hb dX2_shuffle_5 rfl (lv_at hl 1 rfl) ?_
      refine r_alen C G 8 0 rfl rfl dX2_shuffle_6 ?_
      refine r_top (y := nI (60)) rfl ?_
      refine lv_iload_n hx hb dX2_shuffle_7 rfl (lv_at hl 2 rfl) ?_
      refine r_isub hx hb (by omega) dX2_shuffle_8 ?_
      refine lv_icmp_le (tgt := 13) hx hb dX2_shuffle_9 (by decide) (fun c9 => ?_) (fun c9 => ?_)
      · skip
        replace c9 : ((0 : Nat) : Int) ≤ ((60 - o : Nat) : Int) := (cv_le (nI_toInt (by omega)) (nI_toInt (by omega))).mp c9
        refine lv_iload_n hx hb dX2_shuffle_13 rfl (lv_at hl 3 rfl) ?_
        refine lv_iconst (v := (nI (1))) hx hb dX2_shuffle_14 (by decide) ?_
        refine lv_isub hx hb dX2_shuffle_15 ?_
        refine r_top (y := (-1)) (by decide) ?_
        refine lv_istore (lv' := [(4, .int ((-1))), (0, .ref (a 3)), (1, .ref (a 8)), (2, .int (nI (o))), (3, .int (nI (0)))]) hx hb dX2_shuffle_16 hl (by decide) rfl (fun ls hl => ?_)
        refine lv_iload hx hb dX2_shuffle_18 (lv_at hl 0 rfl) ?_
        refine lv_iconst (v := (nI (1))) hx hb dX2_shuffle_20 (by decide) ?_
        refine lv_icmp_lt (tgt := 66) hx hb dX2_shuffle_21 (by decide) (fun c21 => ?_) (fun c21 => ?_)
        · skip
          exact RET (bW cI cO a ca ia n O I J F E K G0) _ _ ls _ _ _ (⟨F 2, J 1, rfl, rfl⟩) G (by first | (simp only []; omega) | decide) (by first | (simp only []; omega) | decide) dX2_shuffle_66
        · skip
          exact absurd c21 (by decide)
      · skip
        replace c9 : ((60 - o : Nat) : Int) < ((0 : Nat) : Int) := Int.not_le.mp (fun h => c9 ((cv_le (nI_toInt (by omega)) (nI_toInt (by omega))).mpr h))
        exact absurd c9 (by omega)
  · skip
    refine lv_iload_n hx hb dX2_shuffle_0 rfl (lv_at hl 2 rfl) ?_
    refine lv_if_lt (tgt := 12) hx hb dX2_shuffle_1 (by decide) (fun c1 => ?_) (fun c1 => ?_)
    · skip
      replace c1 : ((o : Nat) : Int) < (0) := (cv_lt (nI_toInt (by omega)) (by decide)).mp c1
      exact absurd c1 (by omega)
    · skip
      replace c1 : (0) ≤ ((o : Nat) : Int) := Int.not_lt.mp (fun h => c1 ((cv_lt (nI_toInt (by omega)) (by decide)).mpr h))
      refine lv_iload_n hx hb dX2_shuffle_4 rfl (lv_at hl 3 rfl) ?_
      refine lv_aload_n hx hb dX2_shuffle_5 rfl (lv_at hl 1 rfl) ?_
      refine r_alen C G 8 0 rfl rfl dX2_shuffle_6 ?_
      refine r_top (y := nI (60)) rfl ?_
      refine lv_iload_n hx hb dX2_shuffle_7 rfl (lv_at hl 2 rfl) ?_
      refine r_isub hx hb (by omega) dX2_shuffle_8 ?_
      refine lv_icmp_le (tgt := 13) hx hb dX2_shuffle_9 (by decide) (fun c9 => ?_) (fun c9 => ?_)
      · skip
        replace c9 : ((q : Nat) : Int) ≤ ((60 - o : Nat) : Int) := (cv_le (nI_toInt (by omega)) (nI_toInt (by omega))).mp c9
        refine lv_iload_n hx hb dX2_shuffle_13 rfl (lv_at hl 3 rfl) ?_
        refine lv_iconst (v := (nI (1))) hx hb dX2_shuffle_14 (by decide) ?_
        refine r_isub hx hb (by omega) dX2_shuffle_15 ?_
        refine lv_istore (lv' := [(4, .int (nI (q - 1))), (0, .ref (a 3)), (1, .ref (a 8)), (2, .int (nI (o))), (3, .int (nI (q)))]) hx hb dX2_shuffle_16 hl (by decide) rfl (fun ls hl => ?_)
        have lp18 : ∀ (fuel18 : Nat) (k : Nat) (f : Nat → Nat) (σ : Int64) (hm : k < fuel18) (hk : k < q) (hs : shf dr nxg o k f σ = shf dr nxg o (q - 1) (F 2) (J 1)) (H : Heap) (locs : List Loc) (ls : Array Slot), Wd A s.heap D (bW cI cO a ca ia n O I (va_up J 1 (σ)) (va_up F 2 f) E K G0) H locs → lv_has ls 7 [(0, .ref (a 3)), (1, .ref (a 8)), (2, .int (nI (o))), (3, .int (nI (q))), (4, .int (nI (k)))] → W p l e ({ frames := 2, cells := 0, slots := 0, locals := 42 } : Room) s m ([.ref (a 3), .ref (a 8), .int (nI (o)), .int (nI (q))] : List Value).toArray below meth c H locs 0 0 Q (F0 m 18 ls []) := by
          intro fuel18
          induction fuel18 with
          | zero => intro k f σ hm hk hs; exact absurd hm (by omega)
          | succ fuel18 ih18 =>
            intro k f σ hm hk hs H locs ls G hl
            refine lv_iload hx hb dX2_shuffle_18 (lv_at hl 4 rfl) ?_
            refine lv_iconst (v := (nI (1))) hx hb dX2_shuffle_20 (by decide) ?_
            refine lv_icmp_lt (tgt := 66) hx hb dX2_shuffle_21 (by decide) (fun c21 => ?_) (fun c21 => ?_)
            · skip
              replace c21 : ((k : Nat) : Int) < ((1 : Nat) : Int) := (cv_lt (nI_toInt (by omega)) (nI_toInt (by omega))).mp c21
              exact RET (bW cI cO a ca ia n O I (va_up J 1 (σ)) (va_up F 2 f) E K G0) _ _ ls _ _ _ (⟨f, σ, by have hk0 : k = 0 := (by omega); subst hk0; exact hs, rfl⟩) G (by first | (simp only []; omega) | decide) (by first | (simp only []; omega) | decide) dX2_shuffle_66
            · skip
              replace c21 : ((1 : Nat) : Int) ≤ ((k : Nat) : Int) := Int.not_lt.mp (fun h => c21 ((cv_lt (nI_toInt (by omega)) (nI_toInt (by omega))).mpr h))
              obtain ⟨k1, rfl⟩ : ∃ k1, k = k1 + 1 := ⟨k - 1, by omega⟩
              refine lv_iload_n hx hb dX2_shuffle_24 rfl (lv_at hl 2 rfl) ?_
              refine lv_aload_n hx hb dX2_shuffle_25 rfl (lv_at hl 0 rfl) ?_
              refine lv_iload hx hb dX2_shuffle_26 (lv_at hl 4 rfl) ?_
              refine lv_iconst (v := (nI (1))) hx hb dX2_shuffle_28 (by decide) ?_
              refine r_iadd hx hb dX2_shuffle_29 ?_
              refine r_ai G hA (r_rV (na := 1) (As := [.int (nI ((k1 + 1) + 1))]) (rest := [.int (nI (o))]) C G (c_X2_below l D cI cO cL a ca ia n O I (va_up J 1 (σ)) (va_up F 2 f) E K G0 ((k1 + 1) + 1) (by omega) (by omega)) gX2_shuffle_X2_below rfl (by decide +kernel) ⟨Nat.le_of_ble_eq_true rfl, Nat.le_of_ble_eq_true rfl⟩ 3 rfl rfl rfl hl.1 rfl (Nat.le_of_ble_eq_true rfl) dX2_shuffle_30 ⟨by first | (simp only []; omega) | decide, by first | (simp only []; omega) | decide⟩) (fun r30 w30 H locs hp30 G => ?_)
              obtain ⟨d30, σ30, eσ30, ed30, hd30, rfl, rfl⟩ := hp30
              replace eσ30 : σ30 = nxg (σ) := eσ30
              refine r_top (y := nI (d30)) rfl ?_
              refine r_iadd hx hb dX2_shuffle_33 ?_
              refine lv_istore (lv' := [(5, .int (nI (o + d30))), (0, .ref (a 3)), (1, .ref (a 8)), (2, .int (nI (o))), (3, .int (nI (q))), (4, .int (nI (k1 + 1)))]) hx hb dX2_shuffle_34 hl (by decide) rfl (fun ls hl => ?_)
              refine lv_aload_n hx hb dX2_shuffle_36 rfl (lv_at hl 2 rfl) ?_
              refine lv_iload_n hx hb dX2_shuffle_37 rfl (lv_at hl 3 rfl) ?_
              refine lv_iload hx hb dX2_shuffle_38 (lv_at hl 5 rfl) ?_
              refine r_iadd hx hb dX2_shuffle_40 ?_
              refine r_iald (v := nI (f (o + (k1 + 1)))) C G 8 0 rfl rfl (o + (k1 + 1)) rfl (by omega) (by omega) rfl dX2_shuffle_41 ?_
              refine lv_istore (lv' := [(6, .int (nI (f (o + (k1 + 1))))), (5, .int (nI (o + d30))), (0, .ref (a 3)), (1, .ref (a 8)), (2, .int (nI (o))), (3, .int (nI (q))), (4, .int (nI (k1 + 1)))]) hx hb dX2_shuffle_42 hl (by decide) rfl (fun ls hl => ?_)
              refine lv_aload_n hx hb dX2_shuffle_44 rfl (lv_at hl 3 rfl) ?_
              refine lv_iload_n hx hb dX2_shuffle_45 rfl (lv_at hl 4 rfl) ?_
              refine lv_iload hx hb dX2_shuffle_46 (lv_at hl 6 rfl) ?_
              refine r_iadd hx hb dX2_shuffle_48 ?_
              refine lv_aload_n hx hb dX2_shuffle_49 rfl (lv_at hl 3 rfl) ?_
              refine lv_iload hx hb dX2_shuffle_50 (lv_at hl 1 rfl) ?_
              refine r_iald (v := nI (f (o + d30))) C G 8 0 rfl rfl (o + d30) rfl (by omega) (by omega) rfl dX2_shuffle_52 ?_
              refine r_iast (ws' := bW cI cO a ca ia n O I (va_up J 1 (σ30)) (va_up F 2 (va_up f (o + (k1 + 1)) (f (o + d30)))) E K G0) C G 8 0 rfl rfl (o + (k1 + 1)) rfl (by omega) (by omega) (nI_upd _ _ _) dX2_shuffle_53 rfl (fun H locs G => ?_)
              refine lv_aload_n hx hb dX2_shuffle_54 rfl (lv_at hl 3 rfl) ?_
              refine lv_iload hx hb dX2_shuffle_55 (lv_at hl 1 rfl) ?_
              refine lv_iload hx hb dX2_shuffle_57 (lv_at hl 0 rfl) ?_
              refine r_iast (ws' := bW cI cO a ca ia n O I (va_up J 1 (σ30)) (va_up F 2 (va_up (va_up f (o + (k1 + 1)) (f (o + d30))) (o + d30) (f (o + (k1 + 1))))) E K G0) C G 8 0 rfl rfl (o + d30) rfl (by omega) (by omega) (nI_upd _ _ _) dX2_shuffle_59 rfl (fun H locs G => ?_)
              refine lv_iinc (v := nI (k1)) (lv' := [(4, .int (nI (k1))), (6, .int (nI (f (o + (k1 + 1))))), (5, .int (nI (o + d30))), (0, .ref (a 3)), (1, .ref (a 8)), (2, .int (nI (o))), (3, .int (nI (q)))]) hx hb dX2_shuffle_60 hl (k := 6) rfl (pk_m1 _) (by decide) rfl (fun ls hl => ?_)
              refine lv_goto (tgt := 18) hx hb dX2_shuffle_63 (by decide) ?_
              exact ih18 k1 (va_up (va_up f (o + (k1 + 1)) (f (o + d30))) (o + d30) (f (o + (k1 + 1)))) (σ30) (by omega) (by omega) (Eq.trans (shf_step eσ30 ed30).symm hs) _ _ _ (G.eq (rfl)) (lv_sub hl [3, 4, 5, 6, 0] rfl)
        exact lp18 q (q - 1) (F 2) (J 1) (by omega) (by omega) rfl _ _ _ (G.eq (rfl)) (lv_sub hl [1, 2, 3, 4, 0] rfl)
      · skip
        replace c9 : ((60 - o : Nat) : Int) < ((q : Nat) : Int) := Int.not_le.mp (fun h => c9 ((cv_le (nI_toInt (by omega)) (nI_toInt (by omega))).mpr h))
        exact absurd c9 (by omega)
set_option maxHeartbeats 4000000 in
set_option maxRecDepth 100000 in
theorem c_X2_shuffle_s (l : Launch) (D : va_G) (cI cO cL : ClassId) (a ca ia : Nat → Nat) (n : Nat) (O : Nat → Option Nat) (I : Nat → Nat) (J : Nat → Int64) (F : Nat → Nat → Nat) (E : Nat → Nat → Int32) (K : Nat → Nat → Nat) (G0 : Nat → Nat → Int32) (o q : Nat) (h : o + q ≤ 60) : Kv l yX2_shuffle wsX2_shuffle { frames := 2, cells := 0, slots := 0, locals := 42 } D (TY cI cO cL) [.ref (a 3), .ref (a 9), .int (nI (o)), .int (nI (q))] (bW cI cO a ca ia n O I J F E K G0) (fun w => ∃ g σ, (g, σ) = shf dr nxg o (q - 1) (F 3) (J 1) ∧ w = bW cI cO a ca ia n O I (va_up J 1 (σ)) (va_up F 3 g) E K G0) := by
  refine Kv.mk (cc := cX2_shuffle) (maxL := 7) (own := RX2) (by decide) rfl rfl (Nat.le_of_ble_eq_true rfl) ?_
  intro p e s m below meth c A Q ls C hname hA G hl RET
  obtain ⟨⟨hx, hb, hml, hown, hts⟩, hK, hN⟩ := id C
  have hl : lv_has ls 7 [(0, .ref (a 3)), (1, .ref (a 9)), (2, .int (nI (o))), (3, .int (nI (q)))] := hl
  rcases Nat.eq_zero_or_pos q with rfl | hq
  · skip
    refine lv_iload_n hx hb dX2_shuffle_0 rfl (lv_at hl 2 rfl) ?_
    refine lv_if_lt (tgt := 12) hx hb dX2_shuffle_1 (by decide) (fun c1 => ?_) (fun c1 => ?_)
    · skip
      replace c1 : ((o : Nat) : Int) < (0) := (cv_lt (nI_toInt (by omega)) (by decide)).mp c1
      exact absurd c1 (by omega)
    · skip
      replace c1 : (0) ≤ ((o : Nat) : Int) := Int.not_lt.mp (fun h => c1 ((cv_lt (nI_toInt (by omega)) (by decide)).mpr h))
      refine lv_iload_n hx hb dX2_shuffle_4 rfl (lv_at hl 3 rfl) ?_
      refine lv_aload_n hx hb dX2_shuffle_5 rfl (lv_at hl 1 rfl) ?_
      refine r_alen C G 9 0 rfl rfl dX2_shuffle_6 ?_
      refine r_top (y := nI (60)) rfl ?_
      refine lv_iload_n hx hb dX2_shuffle_7 rfl (lv_at hl 2 rfl) ?_
      refine r_isub hx hb (by omega) dX2_shuffle_8 ?_
      refine lv_icmp_le (tgt := 13) hx hb dX2_shuffle_9 (by decide) (fun c9 => ?_) (fun c9 => ?_)
      · skip
        replace c9 : ((0 : Nat) : Int) ≤ ((60 - o : Nat) : Int) := (cv_le (nI_toInt (by omega)) (nI_toInt (by omega))).mp c9
        refine lv_iload_n hx hb dX2_shuffle_13 rfl (lv_at hl 3 rfl) ?_
        refine lv_iconst (v := (nI (1))) hx hb dX2_shuffle_14 (by decide) ?_
        refine lv_isub hx hb dX2_shuffle_15 ?_
        refine r_top (y := (-1)) (by decide) ?_
        refine lv_istore (lv' := [(4, .int ((-1))), (0, .ref (a 3)), (1, .ref (a 9)), (2, .int (nI (o))), (3, .int (nI (0)))]) hx hb dX2_shuffle_16 hl (by decide) rfl (fun ls hl => ?_)
        refine lv_iload hx hb dX2_shuffle_18 (lv_at hl 0 rfl) ?_
        refine lv_iconst (v := (nI (1))) hx hb dX2_shuffle_20 (by decide) ?_
        refine lv_icmp_lt (tgt := 66) hx hb dX2_shuffle_21 (by decide) (fun c21 => ?_) (fun c21 => ?_)
        · skip
          exact RET (bW cI cO a ca ia n O I J F E K G0) _ _ ls _ _ _ (⟨F 3, J 1, rfl, rfl⟩) G (by first | (simp only []; omega) | decide) (by first | (simp only []; omega) | decide) dX2_shuffle_66
        · skip
          exact absurd c21 (by decide)
      · skip
        replace c9 : ((60 - o : Nat) : Int) < ((0 : Nat) : Int) := Int.not_le.mp (fun h => c9 ((cv_le (nI_toInt (by omega)) (nI_toInt (by omega))).mpr h))
        exact absurd c9 (by omega)
  · skip
    refine lv_iload_n hx hb dX2_shuffle_0 rfl (lv_at hl 2 rfl) ?_
    refine lv_if_lt (tgt := 12) hx hb dX2_shuffle_1 (by decide) (fun c1 => ?_) (fun c1 => ?_)
    · skip
      replace c1 : ((o : Nat) : Int) < (0) := (cv_lt (nI_toInt (by omega)) (by decide)).mp c1
      exact absurd c1 (by omega)
    · skip
      replace c1 : (0) ≤ ((o : Nat) : Int) := Int.not_lt.mp (fun h => c1 ((cv_lt (nI_toInt (by omega)) (by decide)).mpr h))
      refine lv_iload_n hx hb dX2_shuffle_4 rfl (lv_at hl 3 rfl) ?_
      refine lv_aload_n hx hb dX2_shuffle_5 rfl (lv_at hl 1 rfl) ?_
      refine r_alen C G 9 0 rfl rfl dX2_shuffle_6 ?_
      refine r_top (y := nI (60)) rfl ?_
      refine lv_iload_n hx hb dX2_shuffle_7 rfl (lv_at hl 2 rfl) ?_
      refine r_isub hx hb (by omega) dX2_shuffle_8 ?_
      refine lv_icmp_le (tgt := 13) hx hb dX2_shuffle_9 (by decide) (fun c9 => ?_) (fun c9 => ?_)
      · skip
        replace c9 : ((q : Nat) : Int) ≤ ((60 - o : Nat) : Int) := (cv_le (nI_toInt (by omega)) (nI_toInt (by omega))).mp c9
        refine lv_iload_n hx hb dX2_shuffle_13 rfl (lv_at hl 3 rfl) ?_
        refine lv_iconst (v := (nI (1))) hx hb dX2_shuffle_14 (by decide) ?_
        refine r_isub hx hb (by omega) dX2_shuffle_15 ?_
        refine lv_istore (lv' := [(4, .int (nI (q - 1))), (0, .ref (a 3)), (1, .ref (a 9)), (2, .int (nI (o))), (3, .int (nI (q)))]) hx hb dX2_shuffle_16 hl (by decide) rfl (fun ls hl => ?_)
        have lp18 : ∀ (fuel18 : Nat) (k : Nat) (f : Nat → Nat) (σ : Int64) (hm : k < fuel18) (hk : k < q) (hs : shf dr nxg o k f σ = shf dr nxg o (q - 1) (F 3) (J 1)) (H : Heap) (locs : List Loc) (ls : Array Slot), Wd A s.heap D (bW cI cO a ca ia n O I (va_up J 1 (σ)) (va_up F 3 f) E K G0) H locs → lv_has ls 7 [(0, .ref (a 3)), (1, .ref (a 9)), (2, .int (nI (o))), (3, .int (nI (q))), (4, .int (nI (k)))] → W p l e ({ frames := 2, cells := 0, slots := 0, locals := 42 } : Room) s m ([.ref (a 3), .ref (a 9), .int (nI (o)), .int (nI (q))] : List Value).toArray below meth c H locs 0 0 Q (F0 m 18 ls []) := by
          intro fuel18
          induction fuel18 with
          | zero => intro k f σ hm hk hs; exact absurd hm (by omega)
          | succ fuel18 ih18 =>
            intro k f σ hm hk hs H locs ls G hl
            refine lv_iload hx hb dX2_shuffle_18 (lv_at hl 4 rfl) ?_
            refine lv_iconst (v := (nI (1))) hx hb dX2_shuffle_20 (by decide) ?_
            refine lv_icmp_lt (tgt := 66) hx hb dX2_shuffle_21 (by decide) (fun c21 => ?_) (fun c21 => ?_)
            · skip
              replace c21 : ((k : Nat) : Int) < ((1 : Nat) : Int) := (cv_lt (nI_toInt (by omega)) (nI_toInt (by omega))).mp c21
              exact RET (bW cI cO a ca ia n O I (va_up J 1 (σ)) (va_up F 3 f) E K G0) _ _ ls _ _ _ (⟨f, σ, by have hk0 : k = 0 := (by omega); subst hk0; exact hs, rfl⟩) G (by first | (simp only []; omega) | decide) (by first | (simp only []; omega) | decide) dX2_shuffle_66
            · skip
              replace c21 : ((1 : Nat) : Int) ≤ ((k : Nat) : Int) := Int.not_lt.mp (fun h => c21 ((cv_lt (nI_toInt (by omega)) (nI_toInt (by omega))).mpr h))
              obtain ⟨k1, rfl⟩ : ∃ k1, k = k1 + 1 := ⟨k - 1, by omega⟩
              refine lv_iload_n hx hb dX2_shuffle_24 rfl (lv_at hl 2 rfl) ?_
              refine lv_aload_n hx hb dX2_shuffle_25 rfl (lv_at hl 0 rfl) ?_
              refine lv_iload hx hb dX2_shuffle_26 (lv_at hl 4 rfl) ?_
              refine lv_iconst (v := (nI (1))) hx hb dX2_shuffle_28 (by decide) ?_
              refine r_iadd hx hb dX2_shuffle_29 ?_
              refine r_ai G hA (r_rV (na := 1) (As := [.int (nI ((k1 + 1) + 1))]) (rest := [.int (nI (o))]) C G (c_X2_below l D cI cO cL a ca ia n O I (va_up J 1 (σ)) (va_up F 3 f) E K G0 ((k1 + 1) + 1) (by omega) (by omega)) gX2_shuffle_X2_below rfl (by decide +kernel) ⟨Nat.le_of_ble_eq_true rfl, Nat.le_of_ble_eq_true rfl⟩ 3 rfl rfl rfl hl.1 rfl (Nat.le_of_ble_eq_true rfl) dX2_shuffle_30 ⟨by first | (simp only []; omega) | decide, by first | (simp only []; omega) | decide⟩) (fun r30 w30 H locs hp30 G => ?_)
              obtain ⟨d30, σ30, eσ30, ed30, hd30, rfl, rfl⟩ := hp30
              replace eσ30 : σ30 = nxg (σ) := eσ30
              refine r_top (y := nI (d30)) rfl ?_
              refine r_iadd hx hb dX2_shuffle_33 ?_
              refine lv_istore (lv' := [(5, .int (nI (o + d30))), (0, .ref (a 3)), (1, .ref (a 9)), (2, .int (nI (o))), (3, .int (nI (q))), (4, .int (nI (k1 + 1)))]) hx hb dX2_shuffle_34 hl (by decide) rfl (fun ls hl => ?_)
              refine lv_aload_n hx hb dX2_shuffle_36 rfl (lv_at hl 2 rfl) ?_
              refine lv_iload_n hx hb dX2_shuffle_37 rfl (lv_at hl 3 rfl) ?_
              refine lv_iload hx hb dX2_shuffle_38 (lv_at hl 5 rfl) ?_
              refine r_iadd hx hb dX2_shuffle_40 ?_
              refine r_iald (v := nI (f (o + (k1 + 1)))) C G 9 0 rfl rfl (o + (k1 + 1)) rfl (by omega) (by omega) rfl dX2_shuffle_41 ?_
              refine lv_istore (lv' := [(6, .int (nI (f (o + (k1 + 1))))), (5, .int (nI (o + d30))), (0, .ref (a 3)), (1, .ref (a 9)), (2, .int (nI (o))), (3, .int (nI (q))), (4, .int (nI (k1 + 1)))]) hx hb dX2_shuffle_42 hl (by decide) rfl (fun ls hl => ?_)
              refine lv_aload_n hx hb dX2_shuffle_44 rfl (lv_at hl 3 rfl) ?_
              refine lv_iload_n hx hb dX2_shuffle_45 rfl (lv_at hl 4 rfl) ?_
              refine lv_iload hx hb dX2_shuffle_46 (lv_at hl 6 rfl) ?_
              refine r_iadd hx hb dX2_shuffle_48 ?_
              refine lv_aload_n hx hb dX2_shuffle_49 rfl (lv_at hl 3 rfl) ?_
              refine lv_iload hx hb dX2_shuffle_50 (lv_at hl 1 rfl) ?_
              refine r_iald (v := nI (f (o + d30))) C G 9 0 rfl rfl (o + d30) rfl (by omega) (by omega) rfl dX2_shuffle_52 ?_
              refine r_iast (ws' := bW cI cO a ca ia n O I (va_up J 1 (σ30)) (va_up F 3 (va_up f (o + (k1 + 1)) (f (o + d30)))) E K G0) C G 9 0 rfl rfl (o + (k1 + 1)) rfl (by omega) (by omega) (nI_upd _ _ _) dX2_shuffle_53 rfl (fun H locs G => ?_)
              refine lv_aload_n hx hb dX2_shuffle_54 rfl (lv_at hl 3 rfl) ?_
              refine lv_iload hx hb dX2_shuffle_55 (lv_at hl 1 rfl) ?_
              refine lv_iload hx hb dX2_shuffle_57 (lv_at hl 0 rfl) ?_
              refine r_iast (ws' := bW cI cO a ca ia n O I (va_up J 1 (σ30)) (va_up F 3 (va_up (va_up f (o + (k1 + 1)) (f (o + d30))) (o + d30) (f (o + (k1 + 1))))) E K G0) C G 9 0 rfl rfl (o + d30) rfl (by omega) (by omega) (nI_upd _ _ _) dX2_shuffle_59 rfl (fun H locs G => ?_)
              refine lv_iinc (v := nI (k1)) (lv' := [(4, .int (nI (k1))), (6, .int (nI (f (o + (k1 + 1))))), (5, .int (nI (o + d30))), (0, .ref (a 3)), (1, .ref (a 9)), (2, .int (nI (o))), (3, .int (nI (q)))]) hx hb dX2_shuffle_60 hl (k := 6) rfl (pk_m1 _) (by decide) rfl (fun ls hl => ?_)
              refine lv_goto (tgt := 18) hx hb dX2_shuffle_63 (by decide) ?_
              exact ih18 k1 (va_up (va_up f (o + (k1 + 1)) (f (o + d30))) (o + d30) (f (o + (k1 + 1)))) (σ30) (by omega) (by omega) (Eq.trans (shf_step eσ30 ed30).symm hs) _ _ _ (G.eq (rfl)) (lv_sub hl [3, 4, 5, 6, 0] rfl)
        exact lp18 q (q - 1) (F 3) (J 1) (by omega) (by omega) rfl _ _ _ (G.eq (rfl)) (lv_sub hl [1, 2, 3, 4, 0] rfl)
      · skip
        replace c9 : ((60 - o : Nat) : Int) < ((q : Nat) : Int) := Int.not_le.mp (fun h => c9 ((cv_le (nI_toInt (by omega)) (nI_toInt (by omega))).mpr h))
        exact absurd c9 (by omega)
set_option maxHeartbeats 4000000 in
set_option maxRecDepth 100000 in
theorem c_X7_mixes_o (l : Launch) (D : va_G) (cI cO cL : ClassId) (b : Nat → Nat) (I : Nat → Nat) (J : Nat → Int64) (F : Nat → Nat → Nat) (G0 : Nat → Nat → Int32) (o q : Nat) (h : o + q ≤ 60) : Kv l yX7_mixes wsX7_mixes { frames := 2, cells := 0, slots := 0, locals := 45 } D (TY cI cO cL) [.ref (b 0), .ref (b 8), .int (nI (o)), .int (nI (q))] (mW cI b I J F G0) (fun w => ∃ g σ, (g, σ) = shf dr nxg o (q - 1) (F 6) (J 1) ∧ w = mW cI b I (va_up J 1 (σ)) (va_up F 6 g) G0) := by
  refine Kv.mk (cc := cX7_mixes) (maxL := 7) (own := RX7) (by decide) rfl rfl (Nat.le_of_ble_eq_true rfl) ?_
  intro p e s m below meth c A Q ls C hname hA G hl RET
  obtain ⟨⟨hx, hb, hml, hown, hts⟩, hK, hN⟩ := id C
  have hl : lv_has ls 7 [(0, .ref (b 0)), (1, .ref (b 8)), (2, .int (nI (o))), (3, .int (nI (q)))] := hl
  rcases Nat.eq_zero_or_pos q with rfl | hq
  · skip
    refine lv_iload_n hx hb dX7_mixes_0 rfl (lv_at hl 3 rfl) ?_
    refine lv_iconst (v := (nI (1))) hx hb dX7_mixes_1 (by decide) ?_
    refine lv_isub hx hb dX7_mixes_2 ?_
    refine r_top (y := (-1)) (by decide) ?_
    refine lv_istore (lv' := [(4, .int ((-1))), (0, .ref (b 0)), (1, .ref (b 8)), (2, .int (nI (o))), (3, .int (nI (0)))]) hx hb dX7_mixes_3 hl (by decide) rfl (fun ls hl => ?_)
    refine lv_iload hx hb dX7_mixes_5 (lv_at hl 0 rfl) ?_
    refine lv_if_le (tgt := 55) hx hb dX7_mixes_7 (by decide) (fun c7 => ?_) (fun c7 => ?_)
    · skip
      exact RET (mW cI b I J F G0) _ _ ls _ _ _ (⟨F 6, J 1, rfl, rfl⟩) G (by first | (simp only []; omega) | decide) (by first | (simp only []; omega) | decide) dX7_mixes_55
    · skip
      exact absurd c7 (by decide)
  · skip
    refine lv_iload_n hx hb dX7_mixes_0 rfl (lv_at hl 3 rfl) ?_
    refine lv_iconst (v := (nI (1))) hx hb dX7_mixes_1 (by decide) ?_
    refine r_isub hx hb (by omega) dX7_mixes_2 ?_
    refine lv_istore (lv' := [(4, .int (nI (q - 1))), (0, .ref (b 0)), (1, .ref (b 8)), (2, .int (nI (o))), (3, .int (nI (q)))]) hx hb dX7_mixes_3 hl (by decide) rfl (fun ls hl => ?_)
    have lp5 : ∀ (fuel5 : Nat) (k : Nat) (f : Nat → Nat) (σ : Int64) (hm : k < fuel5) (hk : k < q) (hs : shf dr nxg o k f σ = shf dr nxg o (q - 1) (F 6) (J 1)) (H : Heap) (locs : List Loc) (ls : Array Slot), Wd A s.heap D (mW cI b I (va_up J 1 (σ)) (va_up F 6 f) G0) H locs → lv_has ls 7 [(0, .ref (b 0)), (1, .ref (b 8)), (2, .int (nI (o))), (3, .int (nI (q))), (4, .int (nI (k)))] → W p l e ({ frames := 2, cells := 0, slots := 0, locals := 45 } : Room) s m ([.ref (b 0), .ref (b 8), .int (nI (o)), .int (nI (q))] : List Value).toArray below meth c H locs 0 0 Q (F0 m 5 ls []) := by
      intro fuel5
      induction fuel5 with
      | zero => intro k f σ hm hk hs; exact absurd hm (by omega)
      | succ fuel5 ih5 =>
        intro k f σ hm hk hs H locs ls G hl
        refine lv_iload hx hb dX7_mixes_5 (lv_at hl 4 rfl) ?_
        refine lv_if_le (tgt := 55) hx hb dX7_mixes_7 (by decide) (fun c7 => ?_) (fun c7 => ?_)
        · skip
          replace c7 : ((k : Nat) : Int) ≤ (0) := (cv_le (nI_toInt (by omega)) (by decide)).mp c7
          exact RET (mW cI b I (va_up J 1 (σ)) (va_up F 6 f) G0) _ _ ls _ _ _ (⟨f, σ, by have hk0 : k = 0 := (by omega); subst hk0; exact hs, rfl⟩) G (by first | (simp only []; omega) | decide) (by first | (simp only []; omega) | decide) dX7_mixes_55
        · skip
          replace c7 : (0) < ((k : Nat) : Int) := Int.not_le.mp (fun h => c7 ((cv_le (nI_toInt (by omega)) (by decide)).mpr h))
          obtain ⟨k1, rfl⟩ : ∃ k1, k = k1 + 1 := ⟨k - 1, by omega⟩
          refine lv_aload_n hx hb dX7_mixes_10 rfl (lv_at hl 0 rfl) ?_
          refine lv_iload hx hb dX7_mixes_11 (lv_at hl 4 rfl) ?_
          refine lv_iconst (v := (nI (1))) hx hb dX7_mixes_13 (by decide) ?_
          refine r_iadd hx hb dX7_mixes_14 ?_
          refine lv_i2l (v := lN ((k1 + 1) + 1)) hx hb dX7_mixes_15 (nI_l (by omega)) ?_
          refine r_ai G hA (r_rV (na := 1) (As := [.long (lN ((k1 + 1) + 1))]) (rest := []) C G (c_X7_draw l D cI cO cL b I (va_up J 1 (σ)) (va_up F 6 f) G0 ((k1 + 1) + 1) (by omega) (by omega)) gX7_mixes_X7_draw rfl (by decide +kernel) ⟨Nat.le_of_ble_eq_true rfl, Nat.le_of_ble_eq_true rfl⟩ 0 rfl rfl rfl hl.1 rfl (Nat.le_of_ble_eq_true rfl) dX7_mixes_16 ⟨by first | (simp only []; omega) | decide, by first | (simp only []; omega) | decide⟩) (fun r16 w16 H locs hp16 G => ?_)
          obtain ⟨d16, σ16, eσ16, ed16, hd16, rfl, rfl⟩ := hp16
          replace eσ16 : σ16 = nxg (σ) := eσ16
          refine r_top (y := nI (d16)) rfl ?_
          refine lv_istore (lv' := [(5, .int (nI (d16))), (0, .ref (b 0)), (1, .ref (b 8)), (2, .int (nI (o))), (3, .int (nI (q))), (4, .int (nI (k1 + 1)))]) hx hb dX7_mixes_19 hl (by decide) rfl (fun ls hl => ?_)
          refine lv_aload_n hx hb dX7_mixes_21 rfl (lv_at hl 2 rfl) ?_
          refine lv_iload_n hx hb dX7_mixes_22 rfl (lv_at hl 3 rfl) ?_
          refine lv_iload hx hb dX7_mixes_23 (lv_at hl 5 rfl) ?_
          refine r_iadd hx hb dX7_mixes_25 ?_
          refine r_iald (v := nI (f (o + (k1 + 1)))) C G 8 0 rfl rfl (o + (k1 + 1)) rfl (by omega) (by omega) rfl dX7_mixes_26 ?_
          refine lv_istore (lv' := [(6, .int (nI (f (o + (k1 + 1))))), (5, .int (nI (d16))), (0, .ref (b 0)), (1, .ref (b 8)), (2, .int (nI (o))), (3, .int (nI (q))), (4, .int (nI (k1 + 1)))]) hx hb dX7_mixes_27 hl (by decide) rfl (fun ls hl => ?_)
          refine lv_aload_n hx hb dX7_mixes_29 rfl (lv_at hl 3 rfl) ?_
          refine lv_iload_n hx hb dX7_mixes_30 rfl (lv_at hl 4 rfl) ?_
          refine lv_iload hx hb dX7_mixes_31 (lv_at hl 6 rfl) ?_
          refine r_iadd hx hb dX7_mixes_33 ?_
          refine lv_aload_n hx hb dX7_mixes_34 rfl (lv_at hl 3 rfl) ?_
          refine lv_iload_n hx hb dX7_mixes_35 rfl (lv_at hl 4 rfl) ?_
          refine lv_iload hx hb dX7_mixes_36 (lv_at hl 1 rfl) ?_
          refine r_iadd hx hb dX7_mixes_38 ?_
          refine r_iald (v := nI (f (o + d16))) C G 8 0 rfl rfl (o + d16) rfl (by omega) (by omega) rfl dX7_mixes_39 ?_
          refine r_iast (ws' := mW cI b I (va_up J 1 (σ16)) (va_up F 6 (va_up f (o + (k1 + 1)) (f (o + d16)))) G0) C G 8 0 rfl rfl (o + (k1 + 1)) rfl (by omega) (by omega) (nI_upd _ _ _) dX7_mixes_40 rfl (fun H locs G => ?_)
          refine lv_aload_n hx hb dX7_mixes_41 rfl (lv_at hl 3 rfl) ?_
          refine lv_iload_n hx hb dX7_mixes_42 rfl (lv_at hl 4 rfl) ?_
          refine lv_iload hx hb dX7_mixes_43 (lv_at hl 1 rfl) ?_
          refine r_iadd hx hb dX7_mixes_45 ?_
          refine lv_iload hx hb dX7_mixes_46 (lv_at hl 0 rfl) ?_
          refine r_iast (ws' := mW cI b I (va_up J 1 (σ16)) (va_up F 6 (va_up (va_up f (o + (k1 + 1)) (f (o + d16))) (o + d16) (f (o + (k1 + 1))))) G0) C G 8 0 rfl rfl (o + d16) rfl (by omega) (by omega) (nI_upd _ _ _) dX7_mixes_48 rfl (fun H locs G => ?_)
          refine lv_iinc (v := nI (k1)) (lv' := [(4, .int (nI (k1))), (6, .int (nI (f (o + (k1 + 1))))), (5, .int (nI (d16))), (0, .ref (b 0)), (1, .ref (b 8)), (2, .int (nI (o))), (3, .int (nI (q)))]) hx hb dX7_mixes_49 hl (k := 6) rfl (pk_m1 _) (by decide) rfl (fun ls hl => ?_)
          refine lv_goto (tgt := 5) hx hb dX7_mixes_52 (by decide) ?_
          exact ih5 k1 (va_up (va_up f (o + (k1 + 1)) (f (o + d16))) (o + d16) (f (o + (k1 + 1)))) (σ16) (by omega) (by omega) (Eq.trans (shf_step eσ16 ed16).symm hs) _ _ _ (G.eq (rfl)) (lv_sub hl [3, 4, 5, 6, 0] rfl)
    exact lp5 q (q - 1) (F 6) (J 1) (by omega) (by omega) rfl _ _ _ (G.eq (rfl)) (lv_sub hl [1, 2, 3, 4, 0] rfl)
set_option maxHeartbeats 4000000 in
set_option maxRecDepth 100000 in
theorem c_X7_mixes_s (l : Launch) (D : va_G) (cI cO cL : ClassId) (b : Nat → Nat) (I : Nat → Nat) (J : Nat → Int64) (F : Nat → Nat → Nat) (G0 : Nat → Nat → Int32) (o q : Nat) (h : o + q ≤ 60) : Kv l yX7_mixes wsX7_mixes { frames := 2, cells := 0, slots := 0, locals := 45 } D (TY cI cO cL) [.ref (b 0), .ref (b 9), .int (nI (o)), .int (nI (q))] (mW cI b I J F G0) (fun w => ∃ g σ, (g, σ) = shf dr nxg o (q - 1) (F 7) (J 1) ∧ w = mW cI b I (va_up J 1 (σ)) (va_up F 7 g) G0) := by
  refine Kv.mk (cc := cX7_mixes) (maxL := 7) (own := RX7) (by decide) rfl rfl (Nat.le_of_ble_eq_true rfl) ?_
  intro p e s m below meth c A Q ls C hname hA G hl RET
  obtain ⟨⟨hx, hb, hml, hown, hts⟩, hK, hN⟩ := id C
  have hl : lv_has ls 7 [(0, .ref (b 0)), (1, .ref (b 9)), (2, .int (nI (o))), (3, .int (nI (q)))] := hl
  rcases Nat.eq_zero_or_pos q with rfl | hq
  · skip
    refine lv_iload_n hx hb dX7_mixes_0 rfl (lv_at hl 3 rfl) ?_
    refine lv_iconst (v := (nI (1))) hx hb dX7_mixes_1 (by decide) ?_
    refine lv_isub hx hb dX7_mixes_2 ?_
    refine r_top (y := (-1)) (by decide) ?_
    refine lv_istore (lv' := [(4, .int ((-1))), (0, .ref (b 0)), (1, .ref (b 9)), (2, .int (nI (o))), (3, .int (nI (0)))]) hx hb dX7_mixes_3 hl (by decide) rfl (fun ls hl => ?_)
    refine lv_iload hx hb dX7_mixes_5 (lv_at hl 0 rfl) ?_
    refine lv_if_le (tgt := 55) hx hb dX7_mixes_7 (by decide) (fun c7 => ?_) (fun c7 => ?_)
    · skip
      exact RET (mW cI b I J F G0) _ _ ls _ _ _ (⟨F 7, J 1, rfl, rfl⟩) G (by first | (simp only []; omega) | decide) (by first | (simp only []; omega) | decide) dX7_mixes_55
    · skip
      exact absurd c7 (by decide)
  · skip
    refine lv_iload_n hx hb dX7_mixes_0 rfl (lv_at hl 3 rfl) ?_
    refine lv_iconst (v := (nI (1))) hx hb dX7_mixes_1 (by decide) ?_
    refine r_isub hx hb (by omega) dX7_mixes_2 ?_
    refine lv_istore (lv' := [(4, .int (nI (q - 1))), (0, .ref (b 0)), (1, .ref (b 9)), (2, .int (nI (o))), (3, .int (nI (q)))]) hx hb dX7_mixes_3 hl (by decide) rfl (fun ls hl => ?_)
    have lp5 : ∀ (fuel5 : Nat) (k : Nat) (f : Nat → Nat) (σ : Int64) (hm : k < fuel5) (hk : k < q) (hs : shf dr nxg o k f σ = shf dr nxg o (q - 1) (F 7) (J 1)) (H : Heap) (locs : List Loc) (ls : Array Slot), Wd A s.heap D (mW cI b I (va_up J 1 (σ)) (va_up F 7 f) G0) H locs → lv_has ls 7 [(0, .ref (b 0)), (1, .ref (b 9)), (2, .int (nI (o))), (3, .int (nI (q))), (4, .int (nI (k)))] → W p l e ({ frames := 2, cells := 0, slots := 0, locals := 45 } : Room) s m ([.ref (b 0), .ref (b 9), .int (nI (o)), .int (nI (q))] : List Value).toArray below meth c H locs 0 0 Q (F0 m 5 ls []) := by
      intro fuel5
      induction fuel5 with
      | zero => intro k f σ hm hk hs; exact absurd hm (by omega)
      | succ fuel5 ih5 =>
        intro k f σ hm hk hs H locs ls G hl
        refine lv_iload hx hb dX7_mixes_5 (lv_at hl 4 rfl) ?_
        refine lv_if_le (tgt := 55) hx hb dX7_mixes_7 (by decide) (fun c7 => ?_) (fun c7 => ?_)
        · skip
          replace c7 : ((k : Nat) : Int) ≤ (0) := (cv_le (nI_toInt (by omega)) (by decide)).mp c7
          exact RET (mW cI b I (va_up J 1 (σ)) (va_up F 7 f) G0) _ _ ls _ _ _ (⟨f, σ, by have hk0 : k = 0 := (by omega); subst hk0; exact hs, rfl⟩) G (by first | (simp only []; omega) | decide) (by first | (simp only []; omega) | decide) dX7_mixes_55
        · skip
          replace c7 : (0) < ((k : Nat) : Int) := Int.not_le.mp (fun h => c7 ((cv_le (nI_toInt (by omega)) (by decide)).mpr h))
          obtain ⟨k1, rfl⟩ : ∃ k1, k = k1 + 1 := ⟨k - 1, by omega⟩
          refine lv_aload_n hx hb dX7_mixes_10 rfl (lv_at hl 0 rfl) ?_
          refine lv_iload hx hb dX7_mixes_11 (lv_at hl 4 rfl) ?_
          refine lv_iconst (v := (nI (1))) hx hb dX7_mixes_13 (by decide) ?_
          refine r_iadd hx hb dX7_mixes_14 ?_
          refine lv_i2l (v := lN ((k1 + 1) + 1)) hx hb dX7_mixes_15 (nI_l (by omega)) ?_
          refine r_ai G hA (r_rV (na := 1) (As := [.long (lN ((k1 + 1) + 1))]) (rest := []) C G (c_X7_draw l D cI cO cL b I (va_up J 1 (σ)) (va_up F 7 f) G0 ((k1 + 1) + 1) (by omega) (by omega)) gX7_mixes_X7_draw rfl (by decide +kernel) ⟨Nat.le_of_ble_eq_true rfl, Nat.le_of_ble_eq_true rfl⟩ 0 rfl rfl rfl hl.1 rfl (Nat.le_of_ble_eq_true rfl) dX7_mixes_16 ⟨by first | (simp only []; omega) | decide, by first | (simp only []; omega) | decide⟩) (fun r16 w16 H locs hp16 G => ?_)
          obtain ⟨d16, σ16, eσ16, ed16, hd16, rfl, rfl⟩ := hp16
          replace eσ16 : σ16 = nxg (σ) := eσ16
          refine r_top (y := nI (d16)) rfl ?_
          refine lv_istore (lv' := [(5, .int (nI (d16))), (0, .ref (b 0)), (1, .ref (b 9)), (2, .int (nI (o))), (3, .int (nI (q))), (4, .int (nI (k1 + 1)))]) hx hb dX7_mixes_19 hl (by decide) rfl (fun ls hl => ?_)
          refine lv_aload_n hx hb dX7_mixes_21 rfl (lv_at hl 2 rfl) ?_
          refine lv_iload_n hx hb dX7_mixes_22 rfl (lv_at hl 3 rfl) ?_
          refine lv_iload hx hb dX7_mixes_23 (lv_at hl 5 rfl) ?_
          refine r_iadd hx hb dX7_mixes_25 ?_
          refine r_iald (v := nI (f (o + (k1 + 1)))) C G 9 0 rfl rfl (o + (k1 + 1)) rfl (by omega) (by omega) rfl dX7_mixes_26 ?_
          refine lv_istore (lv' := [(6, .int (nI (f (o + (k1 + 1))))), (5, .int (nI (d16))), (0, .ref (b 0)), (1, .ref (b 9)), (2, .int (nI (o))), (3, .int (nI (q))), (4, .int (nI (k1 + 1)))]) hx hb dX7_mixes_27 hl (by decide) rfl (fun ls hl => ?_)
          refine lv_aload_n hx hb dX7_mixes_29 rfl (lv_at hl 3 rfl) ?_
          refine lv_iload_n hx hb dX7_mixes_30 rfl (lv_at hl 4 rfl) ?_
          refine lv_iload hx hb dX7_mixes_31 (lv_at hl 6 rfl) ?_
          refine r_iadd hx hb dX7_mixes_33 ?_
          refine lv_aload_n hx hb dX7_mixes_34 rfl (lv_at hl 3 rfl) ?_
          refine lv_iload_n hx hb dX7_mixes_35 rfl (lv_at hl 4 rfl) ?_
          refine lv_iload hx hb dX7_mixes_36 (lv_at hl 1 rfl) ?_
          refine r_iadd hx hb dX7_mixes_38 ?_
          refine r_iald (v := nI (f (o + d16))) C G 9 0 rfl rfl (o + d16) rfl (by omega) (by omega) rfl dX7_mixes_39 ?_
          refine r_iast (ws' := mW cI b I (va_up J 1 (σ16)) (va_up F 7 (va_up f (o + (k1 + 1)) (f (o + d16)))) G0) C G 9 0 rfl rfl (o + (k1 + 1)) rfl (by omega) (by omega) (nI_upd _ _ _) dX7_mixes_40 rfl (fun H locs G => ?_)
          refine lv_aload_n hx hb dX7_mixes_41 rfl (lv_at hl 3 rfl) ?_
          refine lv_iload_n hx hb dX7_mixes_42 rfl (lv_at hl 4 rfl) ?_
          refine lv_iload hx hb dX7_mixes_43 (lv_at hl 1 rfl) ?_
          refine r_iadd hx hb dX7_mixes_45 ?_
          refine lv_iload hx hb dX7_mixes_46 (lv_at hl 0 rfl) ?_
          refine r_iast (ws' := mW cI b I (va_up J 1 (σ16)) (va_up F 7 (va_up (va_up f (o + (k1 + 1)) (f (o + d16))) (o + d16) (f (o + (k1 + 1))))) G0) C G 9 0 rfl rfl (o + d16) rfl (by omega) (by omega) (nI_upd _ _ _) dX7_mixes_48 rfl (fun H locs G => ?_)
          refine lv_iinc (v := nI (k1)) (lv' := [(4, .int (nI (k1))), (6, .int (nI (f (o + (k1 + 1))))), (5, .int (nI (d16))), (0, .ref (b 0)), (1, .ref (b 9)), (2, .int (nI (o))), (3, .int (nI (q)))]) hx hb dX7_mixes_49 hl (k := 6) rfl (pk_m1 _) (by decide) rfl (fun ls hl => ?_)
          refine lv_goto (tgt := 5) hx hb dX7_mixes_52 (by decide) ?_
          exact ih5 k1 (va_up (va_up f (o + (k1 + 1)) (f (o + d16))) (o + d16) (f (o + (k1 + 1)))) (σ16) (by omega) (by omega) (Eq.trans (shf_step eσ16 ed16).symm hs) _ _ _ (G.eq (rfl)) (lv_sub hl [3, 4, 5, 6, 0] rfl)
    exact lp5 q (q - 1) (F 7) (J 1) (by omega) (by omega) rfl _ _ _ (G.eq (rfl)) (lv_sub hl [1, 2, 3, 4, 0] rfl)
