set_option maxHeartbeats 4000000 in
set_option maxRecDepth 100000 in
theorem c_X3_beginStream (l : Launch) (D : va_G) (cI cO cL : ClassId) (a ca ia : Nat → Nat) (n : Nat) (O : Nat → Option Nat) (I : Nat → Nat) (J : Nat → Int64) (F : Nat → Nat → Nat) (E : Nat → Nat → Int32) (K : Nat → Nat → Nat) (G0 : Nat → Nat → Int32) (x y : Nat) (hx1 : x < 2 ^ 31) (hy1 : y < 2 ^ 31) : Kv l yX3_beginStream wsX3_beginStream { frames := 2, cells := 0, slots := 0, locals := 42 } D (TY cI cO cL) [.ref (a 4), .int (nI (x)), .int (nI (y))] (bW cI cO a ca ia n O I J F E K G0) (fun w => ∃ σ, σ = strm (J 0) x y ∧ w = bW cI cO a ca ia n O I (va_up J 1 (σ)) F E K G0) := by
  refine Kv.mk (cc := cX3_beginStream) (maxL := 3) (own := RX3) (by decide) rfl rfl (Nat.le_of_ble_eq_true rfl) ?_
  intro p e s m below meth c A Q ls C hname hA G hl RET
  obtain ⟨⟨hx, hb, hml, hown, hts⟩, hK, hN⟩ := id C
  have hl : lv_has ls 3 [(0, .ref (a 4)), (1, .int (nI (x))), (2, .int (nI (y)))] := hl
  have hX3 : ∀ w ∈ u_ws RX3 TX3 10, w ∈ wsX3_beginStream := by decide +kernel
  have hX5 : ∀ w ∈ u_ws RX5 TX5 5, w ∈ wsX3_beginStream := by decide +kernel
  refine lv_aload_n hx hb dX3_beginStream_0 rfl (lv_at hl 0 rfl) ?_
  refine r_get (v := .ref (a 3)) C G hX3 4 rfl rfl 2 (by decide) (by decide +kernel) rfl dX3_beginStream_1 ?_
  refine lv_aload_n hx hb dX3_beginStream_4 rfl (lv_at hl 0 rfl) ?_
  refine r_get (v := .ref (a 2)) C G hX3 4 rfl rfl 1 (by decide) (by decide +kernel) rfl dX3_beginStream_5 ?_
  refine r_getN (v := .long (J 0)) C G hX5 2 rfl rfl 0 (by decide) (by decide +kernel) rfl dX3_beginStream_8 ?_
  refine r_av G hA (r_rV (na := 1) (As := [.long (J 0)]) (rest := []) C G (c_X2_begin l D cI cO cL a ca ia n O I J F E K G0 (J 0)) gX3_beginStream_X2_begin rfl (by decide +kernel) ⟨Nat.le_of_ble_eq_true rfl, Nat.le_of_ble_eq_true rfl⟩ 3 rfl rfl rfl hl.1 rfl (Nat.le_of_ble_eq_true rfl) dX3_beginStream_11 ⟨by first | (simp only []; omega) | decide, by first | (simp only []; omega) | decide⟩) (fun w11 H locs hp11 G => ?_)
  obtain ⟨rfl⟩ := hp11
  refine lv_aload_n hx hb dX3_beginStream_14 rfl (lv_at hl 0 rfl) ?_
  refine r_get (v := .ref (a 3)) C G hX3 4 rfl rfl 2 (by decide) (by decide +kernel) rfl dX3_beginStream_15 ?_
  refine lv_iload_n hx hb dX3_beginStream_18 rfl (lv_at hl 1 rfl) ?_
  refine r_av G hA (r_rV (na := 1) (As := [.int (nI (x))]) (rest := []) C G (c_X2_key l D cI cO cL a ca ia n O I (va_up J 1 (J 0)) F E K G0 x (by omega)) gX3_beginStream_X2_key rfl (by decide +kernel) ⟨Nat.le_of_ble_eq_true rfl, Nat.le_of_ble_eq_true rfl⟩ 3 rfl rfl rfl hl.1 rfl (Nat.le_of_ble_eq_true rfl) dX3_beginStream_19 ⟨by first | (simp only []; omega) | decide, by first | (simp only []; omega) | decide⟩) (fun w19 H locs hp19 G => ?_)
  obtain ⟨σ19, eσ19, rfl⟩ := hp19
  replace eσ19 : σ19 = keyv (J 0) (lN x) := eσ19
  refine lv_aload_n hx hb dX3_beginStream_22 rfl (lv_at hl 0 rfl) ?_
  refine r_get (v := .ref (a 3)) C G hX3 4 rfl rfl 2 (by decide) (by decide +kernel) rfl dX3_beginStream_23 ?_
  refine lv_iload_n hx hb dX3_beginStream_26 rfl (lv_at hl 2 rfl) ?_
  refine r_av G hA (r_rV (na := 1) (As := [.int (nI (y))]) (rest := []) C G (c_X2_key l D cI cO cL a ca ia n O I (va_up J 1 (σ19)) F E K G0 y (by omega)) gX3_beginStream_X2_key rfl (by decide +kernel) ⟨Nat.le_of_ble_eq_true rfl, Nat.le_of_ble_eq_true rfl⟩ 3 rfl rfl rfl hl.1 rfl (Nat.le_of_ble_eq_true rfl) dX3_beginStream_27 ⟨by first | (simp only []; omega) | decide, by first | (simp only []; omega) | decide⟩) (fun w27 H locs hp27 G => ?_)
  obtain ⟨σ27, eσ27, rfl⟩ := hp27
  replace eσ27 : σ27 = keyv (σ19) (lN y) := eσ27
  exact RET (bW cI cO a ca ia n O I (va_up J 1 (σ27)) F E K G0) _ _ ls _ _ _ (⟨σ27, by rw [eσ27, eσ19]; rfl, rfl⟩) G (by first | (simp only []; omega) | decide) (by first | (simp only []; omega) | decide) dX3_beginStream_30
set_option maxHeartbeats 4000000 in
set_option maxRecDepth 100000 in
theorem c_X3_makePlain (l : Launch) (D : va_G) (cI cO cL : ClassId) (a ca ia : Nat → Nat) (n : Nat) (O : Nat → Option Nat) (I : Nat → Nat) (J : Nat → Int64) (F : Nat → Nat → Nat) (E : Nat → Nat → Int32) (K : Nat → Nat → Nat) (G0 : Nat → Nat → Int32) (h8 : I 8 ≤ 60) : Kv l yX3_makePlain wsX3_makePlain { frames := 3, cells := 0, slots := 0, locals := 68 } D (TY cI cO cL) [.ref (a 4)] (bW cI cO a ca ia n O I J F E K G0) (fun w => ∃ g σ, (∀ i, i < I 8 → g i = plO (J 1) (I 8) i) ∧ w = bW cI cO a ca ia n O I (va_up J 1 (σ)) (va_up F 2 g) E K G0) := by
  refine Kv.mk (cc := cX3_makePlain) (maxL := 2) (own := RX3) (by decide) rfl rfl (Nat.le_of_ble_eq_true rfl) ?_
  intro p e s m below meth c A Q ls C hname hA G hl RET
  obtain ⟨⟨hx, hb, hml, hown, hts⟩, hK, hN⟩ := id C
  have hl : lv_has ls 2 [(0, .ref (a 4))] := hl
  have hX3 : ∀ w ∈ u_ws RX3 TX3 10, w ∈ wsX3_makePlain := by decide +kernel
  refine lv_iconst (v := (nI (0))) hx hb dX3_makePlain_0 (by decide) ?_
  refine lv_istore_n (lv' := [(1, .int (nI (0))), (0, .ref (a 4))]) hx hb dX3_makePlain_1 rfl hl (by decide) rfl (fun ls hl => ?_)
  have lp2 : ∀ (fuel2 : Nat) (k : Nat) (hm : I 8 - k < fuel2) (hk : k ≤ I 8) (H : Heap) (locs : List Loc) (ls : Array Slot), Wd A s.heap D (bW cI cO a ca ia n O I J (va_up F 2 (idn k (F 2))) E K G0) H locs → lv_has ls 2 [(0, .ref (a 4)), (1, .int (nI (k)))] → W p l e ({ frames := 3, cells := 0, slots := 0, locals := 68 } : Room) s m ([.ref (a 4)] : List Value).toArray below meth c H locs 0 0 Q (F0 m 2 ls []) := by
    intro fuel2
    induction fuel2 with
    | zero => intro k hm hk; exact absurd hm (by omega)
    | succ fuel2 ih2 =>
      intro k hm hk H locs ls G hl
      refine lv_iload_n hx hb dX3_makePlain_2 rfl (lv_at hl 1 rfl) ?_
      refine lv_aload_n hx hb dX3_makePlain_3 rfl (lv_at hl 0 rfl) ?_
      refine r_get (v := .int (nI (I 8))) C G hX3 4 rfl rfl 4 (by decide) (by decide +kernel) rfl dX3_makePlain_4 ?_
      refine lv_icmp_ge (tgt := 23) hx hb dX3_makePlain_7 (by decide) (fun c7 => ?_) (fun c7 => ?_)
      · skip
        replace c7 : ((I 8 : Nat) : Int) ≤ ((k : Nat) : Int) := (cv_le (nI_toInt (by omega)) (nI_toInt (by omega))).mp c7
        obtain rfl : k = I 8 := by omega
        refine lv_aload_n hx hb dX3_makePlain_23 rfl (lv_at hl 0 rfl) ?_
        refine r_get (v := .ref (a 3)) C G hX3 4 rfl rfl 2 (by decide) (by decide +kernel) rfl dX3_makePlain_24 ?_
        refine lv_aload_n hx hb dX3_makePlain_27 rfl (lv_at hl 0 rfl) ?_
        refine r_get (v := .ref (a 8)) C G hX3 4 rfl rfl 3 (by decide) (by decide +kernel) rfl dX3_makePlain_28 ?_
        refine lv_iconst (v := (nI (0))) hx hb dX3_makePlain_31 (by decide) ?_
        refine lv_aload_n hx hb dX3_makePlain_32 rfl (lv_at hl 0 rfl) ?_
        refine r_get (v := .int (nI (I 8))) C G hX3 4 rfl rfl 4 (by decide) (by decide +kernel) rfl dX3_makePlain_33 ?_
        refine r_av G hA (r_rV (na := 3) (As := [.ref (a 8), .int (nI (0)), .int (nI (I 8))]) (rest := []) C G (c_X2_shuffle_p l D cI cO cL a ca ia n O I J (va_up F 2 (idn (I 8) (F 2))) E K G0 0 (I 8) (by omega)) gX3_makePlain_X2_shuffle rfl (by decide +kernel) ⟨Nat.le_of_ble_eq_true rfl, Nat.le_of_ble_eq_true rfl⟩ 3 rfl rfl rfl hl.1 rfl (Nat.le_of_ble_eq_true rfl) dX3_makePlain_36 ⟨by first | (simp only []; omega) | decide, by first | (simp only []; omega) | decide⟩) (fun w36 H locs hp36 G => ?_)
        obtain ⟨g36, σ36, eg36, rfl⟩ := hp36
        replace eg36 : (g36, σ36) = shf dr nxg 0 ((I 8) - 1) (idn (I 8) (F 2)) (J 1) := eg36
        exact RET (bW cI cO a ca ia n O I (va_up J 1 (σ36)) (va_up F 2 g36) E K G0) _ _ ls _ _ _ (⟨g36, σ36, plO_of eg36, rfl⟩) G (by first | (simp only []; omega) | decide) (by first | (simp only []; omega) | decide) dX3_makePlain_39
      · skip
        replace c7 : ((k : Nat) : Int) < ((I 8 : Nat) : Int) := Int.not_le.mp (fun h => c7 ((cv_le (nI_toInt (by omega)) (nI_toInt (by omega))).mpr h))
        refine lv_aload_n hx hb dX3_makePlain_10 rfl (lv_at hl 0 rfl) ?_
        refine r_get (v := .ref (a 8)) C G hX3 4 rfl rfl 3 (by decide) (by decide +kernel) rfl dX3_makePlain_11 ?_
        refine lv_iload_n hx hb dX3_makePlain_14 rfl (lv_at hl 1 rfl) ?_
        refine lv_iload_n hx hb dX3_makePlain_15 rfl (lv_at hl 1 rfl) ?_
        refine r_iast (ws' := bW cI cO a ca ia n O I J (va_up F 2 (idn (k + 1) (F 2))) E K G0) C G 8 0 rfl rfl k rfl (by omega) (by omega) (by rw [nI_upd]; exact congrArg (fun (g : Nat → Nat) => fun i => nI (g i)) (idn_s _ _)) dX3_makePlain_16 rfl (fun H locs G => ?_)
        refine lv_iinc (v := nI (k + 1)) (lv' := [(1, .int (nI (k + 1))), (0, .ref (a 4))]) hx hb dX3_makePlain_17 hl (k := 1) rfl (inc_n _ 1) (by decide) rfl (fun ls hl => ?_)
        refine lv_goto (tgt := 2) hx hb dX3_makePlain_20 (by decide) ?_
        exact ih2 (k + 1) (by omega) (by omega) _ _ _ (G.eq (rfl)) (lv_sub hl [1, 0] rfl)
  exact lp2 (I 8 + 1) 0 (by omega) (by omega) _ _ _ (G.eq (by rw [idn_0]; rfl)) (lv_sub hl [1, 0] rfl)
set_option maxHeartbeats 4000000 in
set_option maxRecDepth 100000 in
theorem c_X3_sortByLength (l : Launch) (D : va_G) (cI cO cL : ClassId) (a ca ia : Nat → Nat) (n : Nat) (O : Nat → Option Nat) (I : Nat → Nat) (J : Nat → Int64) (F : Nat → Nat → Nat) (E : Nat → Nat → Int32) (K : Nat → Nat → Nat) (G0 : Nat → Nat → Int32) (lo hi : Nat) (hn : I 3 ≤ 60) (hO : ∀ j, j < I 3 → O j = some (ca j)) (hin : I 3 ≤ n) (h83 : I 8 = I 3) (hK3 : ∀ j, j < I 3 → K 3 j ≤ 1600) (hbd : ∀ i, i < I 8 → F 2 i < I 8) (hlo : lo < I 8) (hhi : hi ≤ I 8) : Kv l yX3_sortByLength wsX3_sortByLength { frames := 3, cells := 0, slots := 0, locals := 64 } D (TY cI cO cL) [.ref (a 4), .int (nI (lo)), .int (nI (hi))] (bW cI cO a ca ia n O I J F E K G0) (fun w => w = bW cI cO a ca ia n O I J (va_up F 2 (srtF (K 3) lo (hi - lo - 1) (F 2))) E K G0) := by
  refine Kv.mk (cc := cX3_sortByLength) (maxL := 7) (own := RX3) (by decide) rfl rfl (Nat.le_of_ble_eq_true rfl) ?_
  intro p e s m below meth c A Q ls C hname hA G hl RET
  obtain ⟨⟨hx, hb, hml, hown, hts⟩, hK, hN⟩ := id C
  have hl : lv_has ls 7 [(0, .ref (a 4)), (1, .int (nI (lo))), (2, .int (nI (hi)))] := hl
  have hX3 : ∀ w ∈ u_ws RX3 TX3 10, w ∈ wsX3_sortByLength := by decide +kernel
  refine lv_iload_n hx hb dX3_sortByLength_0 rfl (lv_at hl 1 rfl) ?_
  refine lv_iconst (v := (nI (1))) hx hb dX3_sortByLength_1 (by decide) ?_
  refine r_iadd hx hb dX3_sortByLength_2 ?_
  refine lv_istore_n (lv' := [(3, .int (nI (lo + 1))), (0, .ref (a 4)), (1, .int (nI (lo))), (2, .int (nI (hi)))]) hx hb dX3_sortByLength_3 rfl hl (by decide) rfl (fun ls hl => ?_)
  have lp4 : ∀ (fuel4 : Nat) (u : Nat) (f : Nat → Nat) (hm : hi - u < fuel4) (hc : u ≤ hi - lo - 1) (ef : f = srtF (K 3) lo u (F 2)) (H : Heap) (locs : List Loc) (ls : Array Slot), Wd A s.heap D (bW cI cO a ca ia n O I J (va_up F 2 f) E K G0) H locs → lv_has ls 7 [(0, .ref (a 4)), (1, .int (nI (lo))), (2, .int (nI (hi))), (3, .int (nI (lo + (u + 1))))] → W p l e ({ frames := 3, cells := 0, slots := 0, locals := 64 } : Room) s m ([.ref (a 4), .int (nI (lo)), .int (nI (hi))] : List Value).toArray below meth c H locs 0 0 Q (F0 m 4 ls []) := by
    intro fuel4
    induction fuel4 with
    | zero => intro u f hm hc ef; exact absurd hm (by omega)
    | succ fuel4 ih4 =>
      intro u f hm hc ef H locs ls G hl
      refine lv_iload_n hx hb dX3_sortByLength_4 rfl (lv_at hl 3 rfl) ?_
      refine lv_iload_n hx hb dX3_sortByLength_5 rfl (lv_at hl 2 rfl) ?_
      refine lv_icmp_ge (tgt := 95) hx hb dX3_sortByLength_6 (by decide) (fun c6 => ?_) (fun c6 => ?_)
      · skip
        replace c6 : ((hi : Nat) : Int) ≤ ((lo + (u + 1) : Nat) : Int) := (cv_le (nI_toInt (by omega)) (nI_toInt (by omega))).mp c6
        exact RET (bW cI cO a ca ia n O I J (va_up F 2 f) E K G0) _ _ ls _ _ _ (by obtain rfl : u = hi - lo - 1 := (by omega); rw [ef]) G (by first | (simp only []; omega) | decide) (by first | (simp only []; omega) | decide) dX3_sortByLength_95
      · skip
        replace c6 : ((lo + (u + 1) : Nat) : Int) < ((hi : Nat) : Int) := Int.not_le.mp (fun h => c6 ((cv_le (nI_toInt (by omega)) (nI_toInt (by omega))).mpr h))
        refine lv_aload_n hx hb dX3_sortByLength_9 rfl (lv_at hl 0 rfl) ?_
        refine r_get (v := .ref (a 8)) C G hX3 4 rfl rfl 3 (by decide) (by decide +kernel) rfl dX3_sortByLength_10 ?_
        refine lv_iload_n hx hb dX3_sortByLength_13 rfl (lv_at hl 3 rfl) ?_
        refine r_iald (v := nI (f (lo + (u + 1)))) C G 8 0 rfl rfl (lo + (u + 1)) rfl (by omega) (by omega) rfl dX3_sortByLength_14 ?_
        have hfl := srtF_lt (ln := K 3) (lo := lo) (N := I 8) u (F 2) (by omega) hbd
        rw [← ef] at hfl
        have hvl := hfl (lo + (u + 1)) (by omega)
        obtain ⟨v, ev⟩ : ∃ v, v = f (lo + (u + 1)) := ⟨_, rfl⟩
        rw [← ev] at hvl
        refine r_top (y := nI v) (by rw [ev]) ?_
        have hv3 := hK3 v (by omega)
        refine lv_istore (lv' := [(4, .int (nI (v))), (0, .ref (a 4)), (1, .int (nI (lo))), (2, .int (nI (hi))), (3, .int (nI (lo + (u + 1))))]) hx hb dX3_sortByLength_15 hl (by decide) rfl (fun ls hl => ?_)
        refine lv_aload_n hx hb dX3_sortByLength_17 rfl (lv_at hl 1 rfl) ?_
        refine r_get (v := .ref (a 1)) C G hX3 4 rfl rfl 0 (by decide) (by decide +kernel) rfl dX3_sortByLength_18 ?_
        refine lv_iload hx hb dX3_sortByLength_21 (lv_at hl 0 rfl) ?_
        refine r_ai G hA (r_rV (na := 1) (As := [.int (nI (v))]) (rest := []) C G (c_X4_length l D cI cO cL a ca ia n O I J (va_up F 2 f) E K G0 v hn hO (by omega) hin) gX3_sortByLength_X4_length rfl (by decide +kernel) ⟨Nat.le_of_ble_eq_true rfl, Nat.le_of_ble_eq_true rfl⟩ 1 rfl rfl rfl hl.1 rfl (Nat.le_of_ble_eq_true rfl) dX3_sortByLength_23 ⟨by first | (simp only []; omega) | decide, by first | (simp only []; omega) | decide⟩) (fun r23 w23 H locs hp23 G => ?_)
        obtain ⟨rfl, rfl⟩ := hp23
        refine r_top (y := nI ((K 3) v)) rfl ?_
        refine lv_istore (lv' := [(5, .int (nI ((K 3) v))), (4, .int (nI (v))), (0, .ref (a 4)), (1, .int (nI (lo))), (2, .int (nI (hi))), (3, .int (nI (lo + (u + 1))))]) hx hb dX3_sortByLength_26 hl (by decide) rfl (fun ls hl => ?_)
        refine lv_iload_n hx hb dX3_sortByLength_28 rfl (lv_at hl 5 rfl) ?_
        refine lv_istore (lv' := [(6, .int (nI (lo + (u + 1)))), (5, .int (nI ((K 3) v))), (4, .int (nI (v))), (0, .ref (a 4)), (1, .int (nI (lo))), (2, .int (nI (hi))), (3, .int (nI (lo + (u + 1))))]) hx hb dX3_sortByLength_29 hl (by decide) rfl (fun ls hl => ?_)
        have lp31 : ∀ (fuel31 : Nat) (d : Nat) (g : Nat → Nat) (hm2 : d < fuel31) (hd : d ≤ u + 1) (eg : insL (K 3) v lo d g = insL (K 3) v lo (u + 1) f) (hg : ∀ i, i < I 8 → g i < I 8) (H : Heap) (locs : List Loc) (ls : Array Slot), Wd A s.heap D (bW cI cO a ca ia n O I J (va_up F 2 g) E K G0) H locs → lv_has ls 7 [(0, .ref (a 4)), (1, .int (nI (lo))), (2, .int (nI (hi))), (3, .int (nI (lo + (u + 1)))), (4, .int (nI (v))), (5, .int (nI (K 3 v))), (6, .int (nI (lo + d)))] → W p l e ({ frames := 3, cells := 0, slots := 0, locals := 64 } : Room) s m ([.ref (a 4), .int (nI (lo)), .int (nI (hi))] : List Value).toArray below meth c H locs 0 0 Q (F0 m 31 ls []) := by
          intro fuel31
          induction fuel31 with
          | zero => intro d g hm2 hd eg hg; exact absurd hm2 (by omega)
          | succ fuel31 ih31 =>
            intro d g hm2 hd eg hg H locs ls G hl
            refine lv_iload hx hb dX3_sortByLength_31 (lv_at hl 6 rfl) ?_
            refine lv_iload_n hx hb dX3_sortByLength_33 rfl (lv_at hl 1 rfl) ?_
            refine lv_icmp_le (tgt := 80) hx hb dX3_sortByLength_34 (by decide) (fun c34 => ?_) (fun c34 => ?_)
            · skip
              replace c34 : ((lo + d : Nat) : Int) ≤ ((lo : Nat) : Int) := (cv_le (nI_toInt (by omega)) (nI_toInt (by omega))).mp c34
              obtain rfl : d = 0 := by omega
              refine lv_aload_n hx hb dX3_sortByLength_80 rfl (lv_at hl 0 rfl) ?_
              refine r_get (v := .ref (a 8)) C G hX3 4 rfl rfl 3 (by decide) (by decide +kernel) rfl dX3_sortByLength_81 ?_
              refine lv_iload hx hb dX3_sortByLength_84 (lv_at hl 6 rfl) ?_
              refine lv_iload hx hb dX3_sortByLength_86 (lv_at hl 4 rfl) ?_
              refine r_iast (ws' := bW cI cO a ca ia n O I J (va_up F 2 (va_up g (lo + 0) v)) E K G0) C G 8 0 rfl rfl (lo + 0) rfl (by omega) (by omega) (nI_upd _ _ _) dX3_sortByLength_88 rfl (fun H locs G => ?_)
              refine lv_iinc (v := nI ((lo + (u + 1)) + 1)) (lv' := [(3, .int (nI ((lo + (u + 1)) + 1))), (0, .ref (a 4)), (1, .int (nI (lo))), (2, .int (nI (hi))), (4, .int (nI (v))), (5, .int (nI (K 3 v))), (6, .int (nI (lo + 0)))]) hx hb dX3_sortByLength_89 hl (k := 3) rfl (inc_n _ 1) (by decide) rfl (fun ls hl => ?_)
              refine lv_goto (tgt := 4) hx hb dX3_sortByLength_92 (by decide) ?_
              exact ih4 (u + 1) (va_up g (lo + 0) v) (by omega) (by omega) (by subst ev; subst ef; exact eg) _ _ _ (G.eq (rfl)) (lv_sub hl [1, 2, 3, 0] rfl)
            · skip
              replace c34 : ((lo : Nat) : Int) < ((lo + d : Nat) : Int) := Int.not_le.mp (fun h => c34 ((cv_le (nI_toInt (by omega)) (nI_toInt (by omega))).mpr h))
              obtain ⟨d1, rfl⟩ : ∃ d1, d = d1 + 1 := ⟨d - 1, by omega⟩
              have hgl := hg (lo + d1) (by omega)
              have hg3 := hK3 _ (by omega : g (lo + d1) < I 3)
              refine lv_aload_n hx hb dX3_sortByLength_37 rfl (lv_at hl 0 rfl) ?_
              refine r_get (v := .ref (a 1)) C G hX3 4 rfl rfl 0 (by decide) (by decide +kernel) rfl dX3_sortByLength_38 ?_
              refine lv_aload_n hx hb dX3_sortByLength_41 rfl (lv_at hl 0 rfl) ?_
              refine r_get (v := .ref (a 8)) C G hX3 4 rfl rfl 3 (by decide) (by decide +kernel) rfl dX3_sortByLength_42 ?_
              refine lv_iload hx hb dX3_sortByLength_45 (lv_at hl 6 rfl) ?_
              refine lv_iconst (v := (nI (1))) hx hb dX3_sortByLength_47 (by decide) ?_
              refine r_isub hx hb (by omega) dX3_sortByLength_48 ?_
              refine r_top (y := nI (lo + d1)) (congrArg nI (by omega)) ?_
              refine r_iald (v := nI (g (lo + d1))) C G 8 0 rfl rfl (lo + d1) rfl (by omega) (by omega) rfl dX3_sortByLength_49 ?_
              refine r_ai G hA (r_rV (na := 1) (As := [.int (nI (g (lo + d1)))]) (rest := []) C G (c_X4_length l D cI cO cL a ca ia n O I J (va_up F 2 g) E K G0 (g (lo + d1)) hn hO (by omega) hin) gX3_sortByLength_X4_length rfl (by decide +kernel) ⟨Nat.le_of_ble_eq_true rfl, Nat.le_of_ble_eq_true rfl⟩ 1 rfl rfl rfl hl.1 rfl (Nat.le_of_ble_eq_true rfl) dX3_sortByLength_50 ⟨by first | (simp only []; omega) | decide, by first | (simp only []; omega) | decide⟩) (fun r50 w50 H locs hp50 G => ?_)
              obtain ⟨rfl, rfl⟩ := hp50
              refine r_top (y := nI ((K 3) (g (lo + d1)))) rfl ?_
              refine lv_iload hx hb dX3_sortByLength_53 (lv_at hl 5 rfl) ?_
              refine lv_icmp_le (tgt := 80) hx hb dX3_sortByLength_55 (by decide) (fun c55 => ?_) (fun c55 => ?_)
              · skip
                replace c55 : (((K 3) (g (lo + d1)) : Nat) : Int) ≤ ((K 3 v : Nat) : Int) := (cv_le (nI_toInt (by omega)) (nI_toInt (by omega))).mp c55
                refine lv_aload_n hx hb dX3_sortByLength_80 rfl (lv_at hl 0 rfl) ?_
                refine r_get (v := .ref (a 8)) C G hX3 4 rfl rfl 3 (by decide) (by decide +kernel) rfl dX3_sortByLength_81 ?_
                refine lv_iload hx hb dX3_sortByLength_84 (lv_at hl 6 rfl) ?_
                refine lv_iload hx hb dX3_sortByLength_86 (lv_at hl 4 rfl) ?_
                refine r_iast (ws' := bW cI cO a ca ia n O I J (va_up F 2 (va_up g (lo + (d1 + 1)) v)) E K G0) C G 8 0 rfl rfl (lo + (d1 + 1)) rfl (by omega) (by omega) (nI_upd _ _ _) dX3_sortByLength_88 rfl (fun H locs G => ?_)
                refine lv_iinc (v := nI ((lo + (u + 1)) + 1)) (lv' := [(3, .int (nI ((lo + (u + 1)) + 1))), (0, .ref (a 4)), (1, .int (nI (lo))), (2, .int (nI (hi))), (4, .int (nI (v))), (5, .int (nI (K 3 v))), (6, .int (nI (lo + (d1 + 1))))]) hx hb dX3_sortByLength_89 hl (k := 3) rfl (inc_n _ 1) (by decide) rfl (fun ls hl => ?_)
                refine lv_goto (tgt := 4) hx hb dX3_sortByLength_92 (by decide) ?_
                exact ih4 (u + 1) (va_up g (lo + (d1 + 1)) v) (by omega) (by omega) (by rw [insL_s, if_neg (by omega)] at eg; subst ev; subst ef; exact eg) _ _ _ (G.eq (rfl)) (lv_sub hl [1, 2, 3, 0] rfl)
              · skip
                replace c55 : ((K 3 v : Nat) : Int) < (((K 3) (g (lo + d1)) : Nat) : Int) := Int.not_le.mp (fun h => c55 ((cv_le (nI_toInt (by omega)) (nI_toInt (by omega))).mpr h))
                refine lv_aload_n hx hb dX3_sortByLength_58 rfl (lv_at hl 0 rfl) ?_
                refine r_get (v := .ref (a 8)) C G hX3 4 rfl rfl 3 (by decide) (by decide +kernel) rfl dX3_sortByLength_59 ?_
                refine lv_iload hx hb dX3_sortByLength_62 (lv_at hl 6 rfl) ?_
                refine lv_aload_n hx hb dX3_sortByLength_64 rfl (lv_at hl 0 rfl) ?_
                refine r_get (v := .ref (a 8)) C G hX3 4 rfl rfl 3 (by decide) (by decide +kernel) rfl dX3_sortByLength_65 ?_
                refine lv_iload hx hb dX3_sortByLength_68 (lv_at hl 6 rfl) ?_
                refine lv_iconst (v := (nI (1))) hx hb dX3_sortByLength_70 (by decide) ?_
                refine r_isub hx hb (by omega) dX3_sortByLength_71 ?_
                refine r_top (y := nI (lo + d1)) (congrArg nI (by omega)) ?_
                refine r_iald (v := nI (g (lo + d1))) C G 8 0 rfl rfl (lo + d1) rfl (by omega) (by omega) rfl dX3_sortByLength_72 ?_
                refine r_iast (ws' := bW cI cO a ca ia n O I J (va_up F 2 (va_up g (lo + (d1 + 1)) (g (lo + d1)))) E K G0) C G 8 0 rfl rfl (lo + (d1 + 1)) rfl (by omega) (by omega) (nI_upd _ _ _) dX3_sortByLength_73 rfl (fun H locs G => ?_)
                refine lv_iinc (v := nI ((lo + (d1 + 1)) - 1)) (lv' := [(6, .int (nI ((lo + (d1 + 1)) - 1))), (0, .ref (a 4)), (1, .int (nI (lo))), (2, .int (nI (hi))), (3, .int (nI (lo + (u + 1)))), (4, .int (nI (v))), (5, .int (nI (K 3 v)))]) hx hb dX3_sortByLength_74 hl (k := 6) rfl (sb_m1 (by omega)) (by decide) rfl (fun ls hl => ?_)
                refine lv_goto (tgt := 31) hx hb dX3_sortByLength_77 (by decide) ?_
                exact ih31 d1 (va_up g (lo + (d1 + 1)) (g (lo + d1))) (by omega) (by omega) (by rw [insL_s, if_pos (by omega)] at eg; exact eg) (fun i hi => by by_cases q : i = lo + (d1 + 1); (rw [q, up_same]; omega); (rw [up_ne _ _ q]; exact hg i hi)) _ _ _ (G.eq (rfl)) (lv_sub hl [1, 2, 3, 4, 5, 6, 0] rfl)
        exact lp31 (u + 2) (u + 1) f (by omega) (by omega) rfl hfl _ _ _ (G.eq (rfl)) (lv_sub hl [3, 4, 5, 6, 2, 1, 0] rfl)
  exact lp4 (hi + 1) 0 (F 2) (by omega) (by omega) rfl _ _ _ (G.eq (rfl)) (lv_sub hl [1, 2, 3, 0] rfl)
set_option maxHeartbeats 4000000 in
set_option maxRecDepth 100000 in
theorem c_X3_sortParts (l : Launch) (D : va_G) (cI cO cL : ClassId) (a ca ia : Nat → Nat) (n : Nat) (O : Nat → Option Nat) (I : Nat → Nat) (J : Nat → Int64) (F : Nat → Nat → Nat) (E : Nat → Nat → Int32) (K : Nat → Nat → Nat) (G0 : Nat → Nat → Int32) (hn : I 3 ≤ 60) (hO : ∀ j, j < I 3 → O j = some (ca j)) (hin : I 3 ≤ n) (h83 : I 8 = I 3) (hK3 : ∀ j, j < I 3 → K 3 j ≤ 1600) (h5 : 1 ≤ I 5 ∧ I 5 ≤ 60) (hbd : ∀ i, i < I 8 → F 2 i < I 8) : Kv l yX3_sortParts wsX3_sortParts { frames := 4, cells := 0, slots := 0, locals := 90 } D (TY cI cO cL) [.ref (a 4)] (bW cI cO a ca ia n O I J F E K G0) (fun w => w = bW cI cO a ca ia n O I J (va_up F 2 (prt (K 3) (I 5) (I 8) (I 8) (F 2))) E K G0) := by
  refine Kv.mk (cc := cX3_sortParts) (maxL := 3) (own := RX3) (by decide) rfl rfl (Nat.le_of_ble_eq_true rfl) ?_
  intro p e s m below meth c A Q ls C hname hA G hl RET
  obtain ⟨⟨hx, hb, hml, hown, hts⟩, hK, hN⟩ := id C
  have hl : lv_has ls 3 [(0, .ref (a 4))] := hl
  have hX3 : ∀ w ∈ u_ws RX3 TX3 10, w ∈ wsX3_sortParts := by decide +kernel
  have hX5 : ∀ w ∈ u_ws RX5 TX5 5, w ∈ wsX3_sortParts := by decide +kernel
  refine lv_iconst (v := (nI (1))) hx hb dX3_sortParts_0 (by decide) ?_
  refine lv_aload_n hx hb dX3_sortParts_1 rfl (lv_at hl 0 rfl) ?_
  refine r_get (v := .ref (a 2)) C G hX3 4 rfl rfl 1 (by decide) (by decide +kernel) rfl dX3_sortParts_2 ?_
  refine r_getN (v := .int (nI (I 5))) C G hX5 2 rfl rfl 2 (by decide) (by decide +kernel) rfl dX3_sortParts_5 ?_
  refine va_mmax hx hb (by rw [hml]; exact hl.1.symm) hown (hts (.methodLink RX3 101 Lib.Math.max.name) (by decide +kernel)) (hts (.static Lib.Math.max.name) (by decide +kernel)) (hts (.initialized "java/lang/Math") (by decide +kernel)) (hts (.code Lib.Math.max.name Lib.Math.max.code 2 (some .int)) (by decide +kernel)) (Nat.le_of_ble_eq_true rfl) (Nat.le_of_ble_eq_true rfl) (by first | (simp only []; omega) | decide) (by first | (simp only []; omega) | decide) dX3_sortParts_8 ?_
  refine r_top (y := nI (max 1 (I 5))) (nI_max (by omega) (by omega)) ?_
  refine r_top (y := nI (I 5)) (congrArg nI (Nat.max_eq_right (by omega))) ?_
  refine lv_istore_n (lv' := [(1, .int (nI (I 5))), (0, .ref (a 4))]) hx hb dX3_sortParts_11 rfl hl (by decide) rfl (fun ls hl => ?_)
  refine lv_iconst (v := (nI (0))) hx hb dX3_sortParts_12 (by decide) ?_
  refine r_top (y := nI (0 * I 5)) (congrArg nI (Nat.zero_mul _).symm) ?_
  refine lv_istore_n (lv' := [(2, .int (nI (0 * I 5))), (1, .int (nI (I 5))), (0, .ref (a 4))]) hx hb dX3_sortParts_13 rfl hl (by decide) rfl (fun ls hl => ?_)
  have lp14 : ∀ (fuel14 : Nat) (t : Nat) (f : Nat → Nat) (hm : I 8 + 1 - t * I 5 < fuel14) (ht : t * I 5 ≤ I 8 + I 5) (ht2 : t = 0 ∨ (t - 1) * I 5 < I 8) (ef : f = prt (K 3) (I 5) (I 8) t (F 2)) (H : Heap) (locs : List Loc) (ls : Array Slot), Wd A s.heap D (bW cI cO a ca ia n O I J (va_up F 2 f) E K G0) H locs → lv_has ls 3 [(0, .ref (a 4)), (1, .int (nI (I 5))), (2, .int (nI (t * I 5)))] → W p l e ({ frames := 4, cells := 0, slots := 0, locals := 90 } : Room) s m ([.ref (a 4)] : List Value).toArray below meth c H locs 0 0 Q (F0 m 14 ls []) := by
    intro fuel14
    induction fuel14 with
    | zero => intro t f hm ht ht2 ef; exact absurd hm (by omega)
    | succ fuel14 ih14 =>
      intro t f hm ht ht2 ef H locs ls G hl
      refine lv_iload_n hx hb dX3_sortParts_14 rfl (lv_at hl 2 rfl) ?_
      refine lv_aload_n hx hb dX3_sortParts_15 rfl (lv_at hl 0 rfl) ?_
      refine r_get (v := .int (nI (I 8))) C G hX3 4 rfl rfl 4 (by decide) (by decide +kernel) rfl dX3_sortParts_16 ?_
      refine lv_icmp_ge (tgt := 44) hx hb dX3_sortParts_19 (by decide) (fun c19 => ?_) (fun c19 => ?_)
      · skip
        replace c19 : ((I 8 : Nat) : Int) ≤ ((t * I 5 : Nat) : Int) := (cv_le (nI_toInt (by omega)) (nI_toInt (by omega))).mp c19
        exact RET (bW cI cO a ca ia n O I J (va_up F 2 f) E K G0) _ _ ls _ _ _ (by rw [ef, prt_n (by omega) (by omega) ht2]) G (by first | (simp only []; omega) | decide) (by first | (simp only []; omega) | decide) dX3_sortParts_44
      · skip
        replace c19 : ((t * I 5 : Nat) : Int) < ((I 8 : Nat) : Int) := Int.not_le.mp (fun h => c19 ((cv_le (nI_toInt (by omega)) (nI_toInt (by omega))).mpr h))
        have hbf : ∀ i, i < I 8 → f i < I 8 := by rw [ef]; exact prt_lt t _ hbd
        refine lv_aload_n hx hb dX3_sortParts_22 rfl (lv_at hl 0 rfl) ?_
        refine lv_iload_n hx hb dX3_sortParts_23 rfl (lv_at hl 2 rfl) ?_
        refine lv_aload_n hx hb dX3_sortParts_24 rfl (lv_at hl 0 rfl) ?_
        refine r_get (v := .int (nI (I 8))) C G hX3 4 rfl rfl 4 (by decide) (by decide +kernel) rfl dX3_sortParts_25 ?_
        refine lv_iload_n hx hb dX3_sortParts_28 rfl (lv_at hl 2 rfl) ?_
        refine lv_iload_n hx hb dX3_sortParts_29 rfl (lv_at hl 1 rfl) ?_
        refine r_iadd hx hb dX3_sortParts_30 ?_
        refine va_mmin hx hb (by rw [hml]; exact hl.1.symm) hown (hts (.methodLink RX3 49 Lib.Math.min.name) (by decide +kernel)) (hts (.static Lib.Math.min.name) (by decide +kernel)) (hts (.initialized "java/lang/Math") (by decide +kernel)) (hts (.code Lib.Math.min.name Lib.Math.min.code 2 (some .int)) (by decide +kernel)) (Nat.le_of_ble_eq_true rfl) (Nat.le_of_ble_eq_true rfl) (by first | (simp only []; omega) | decide) (by first | (simp only []; omega) | decide) dX3_sortParts_31 ?_
        refine r_top (y := nI (min (I 8) ((t * I 5) + (I 5)))) (nI_min (by omega) (by omega)) ?_
        refine r_av G hA (r_rV (na := 2) (As := [.int (nI (t * I 5)), .int (nI (min (I 8) ((t * I 5) + (I 5))))]) (rest := []) C G (c_X3_sortByLength l D cI cO cL a ca ia n O I J (va_up F 2 f) E K G0 (t * I 5) (min (I 8) ((t * I 5) + (I 5))) hn hO hin h83 hK3 hbf (by omega) (by omega)) gX3_sortParts_X3_sortByLength rfl (by decide +kernel) ⟨Nat.le_of_ble_eq_true rfl, Nat.le_of_ble_eq_true rfl⟩ 4 rfl rfl rfl hl.1 rfl (Nat.le_of_ble_eq_true rfl) dX3_sortParts_34 ⟨by first | (simp only []; omega) | decide, by first | (simp only []; omega) | decide⟩) (fun w34 H locs hp34 G => ?_)
        obtain ⟨rfl⟩ := hp34
        refine lv_iload_n hx hb dX3_sortParts_37 rfl (lv_at hl 2 rfl) ?_
        refine lv_iload_n hx hb dX3_sortParts_38 rfl (lv_at hl 1 rfl) ?_
        refine r_iadd hx hb dX3_sortParts_39 ?_
        have hts : (t + 1) * I 5 = t * I 5 + I 5 := Nat.succ_mul _ _
        refine r_top (y := nI ((t + 1) * I 5)) (congrArg nI hts.symm) ?_
        refine lv_istore_n (lv' := [(2, .int (nI ((t + 1) * I 5))), (0, .ref (a 4)), (1, .int (nI (I 5)))]) hx hb dX3_sortParts_40 rfl hl (by decide) rfl (fun ls hl => ?_)
        refine lv_goto (tgt := 14) hx hb dX3_sortParts_41 (by decide) ?_
        exact ih14 (t + 1) (srtF (K 3) (t * I 5) ((min (I 8) ((t * I 5) + (I 5))) - (t * I 5) - 1) f) (by omega) (by omega) (Or.inr (by rw [Nat.add_sub_cancel]; omega)) (by rw [ef]; rfl) _ _ _ (G.eq (rfl)) (lv_sub hl [1, 2, 0] rfl)
  exact lp14 (I 8 + 2) 0 (F 2) (by omega) (by rw [Nat.zero_mul]; omega) (Or.inl rfl) rfl _ _ _ (G.eq (rfl)) (lv_sub hl [2, 1, 0] rfl)
set_option maxHeartbeats 4000000 in
set_option maxRecDepth 100000 in
theorem c_X3_rowAbove (l : Launch) (D : va_G) (cI cO cL : ClassId) (a ca ia : Nat → Nat) (n : Nat) (O : Nat → Option Nat) (I : Nat → Nat) (J : Nat → Int64) (F : Nat → Nat → Nat) (E : Nat → Nat → Int32) (K : Nat → Nat → Nat) (G0 : Nat → Nat → Int32) (x : Nat) (hn : I 3 ≤ 60) (h83 : I 8 = I 3) (hWt : ∀ j, j < I 3 → F 1 j ≤ 1000) (hx0 : x < wsum (F 1) (I 8)) : Ki l yX3_rowAbove wsX3_rowAbove { frames := 2, cells := 0, slots := 0, locals := 42 } D (TY cI cO cL) [.ref (a 4), .int (nI (x))] (bW cI cO a ca ia n O I J F E K G0) (fun r w => ∃ j, j < I 8 ∧ wsum (F 1) j ≤ x ∧ x < wsum (F 1) (j + 1) ∧ r = nI j ∧ w = bW cI cO a ca ia n O I J F E K G0) := by
  refine Ki.mk (cc := cX3_rowAbove) (maxL := 4) (rt := .int) (own := RX3) (by decide) rfl rfl (Nat.le_of_ble_eq_true rfl) ?_
  intro p e s m below meth c A Q ls C hname hA G hl RET
  obtain ⟨⟨hx, hb, hml, hown, hts⟩, hK, hN⟩ := id C
  have hl : lv_has ls 4 [(0, .ref (a 4)), (1, .int (nI (x)))] := hl
  have hX3 : ∀ w ∈ u_ws RX3 TX3 10, w ∈ wsX3_rowAbove := by decide +kernel
  have hw8 := wsum_le (w := F 1) hWt (I 8) (by omega)
  refine lv_iconst (v := (nI (0))) hx hb dX3_rowAbove_0 (by decide) ?_
  refine lv_istore_n (lv' := [(2, .int (nI (0))), (0, .ref (a 4)), (1, .int (nI (x)))]) hx hb dX3_rowAbove_1 rfl hl (by decide) rfl (fun ls hl => ?_)
  refine lv_iconst (v := (nI (0))) hx hb dX3_rowAbove_2 (by decide) ?_
  refine lv_istore_n (lv' := [(3, .int (nI (0))), (2, .int (nI (0))), (0, .ref (a 4)), (1, .int (nI (x)))]) hx hb dX3_rowAbove_3 rfl hl (by decide) rfl (fun ls hl => ?_)
  have lp4 : ∀ (fuel4 : Nat) (k : Nat) (hm : I 8 - k < fuel4) (hk : k ≤ I 8) (hle : wsum (F 1) k ≤ x) (H : Heap) (locs : List Loc) (ls : Array Slot), Wd A s.heap D (bW cI cO a ca ia n O I J F E K G0) H locs → lv_has ls 4 [(0, .ref (a 4)), (1, .int (nI (x))), (2, .int (nI (wsum (F 1) k))), (3, .int (nI (k)))] → W p l e ({ frames := 2, cells := 0, slots := 0, locals := 42 } : Room) s m ([.ref (a 4), .int (nI (x))] : List Value).toArray below meth c H locs 0 0 Q (F0 m 4 ls []) := by
    intro fuel4
    induction fuel4 with
    | zero => intro k hm hk hle; exact absurd hm (by omega)
    | succ fuel4 ih4 =>
      intro k hm hk hle H locs ls G hl
      refine lv_iload_n hx hb dX3_rowAbove_4 rfl (lv_at hl 3 rfl) ?_
      refine lv_aload_n hx hb dX3_rowAbove_5 rfl (lv_at hl 0 rfl) ?_
      refine r_get (v := .int (nI (I 8))) C G hX3 4 rfl rfl 4 (by decide) (by decide +kernel) rfl dX3_rowAbove_6 ?_
      refine lv_icmp_ge (tgt := 36) hx hb dX3_rowAbove_9 (by decide) (fun c9 => ?_) (fun c9 => ?_)
      · skip
        replace c9 : ((I 8 : Nat) : Int) ≤ ((k : Nat) : Int) := (cv_le (nI_toInt (by omega)) (nI_toInt (by omega))).mp c9
        exact absurd (show k = I 8 by omega) (fun q => by rw [q] at hle; omega)
      · skip
        replace c9 : ((k : Nat) : Int) < ((I 8 : Nat) : Int) := Int.not_le.mp (fun h => c9 ((cv_le (nI_toInt (by omega)) (nI_toInt (by omega))).mpr h))
        have hw := wsum_le (w := F 1) hWt (k + 1) (by omega)
        have hw2 : wsum (F 1) (k + 1) = wsum (F 1) k + F 1 k := rfl
        refine lv_iload_n hx hb dX3_rowAbove_12 rfl (lv_at hl 2 rfl) ?_
        refine lv_aload_n hx hb dX3_rowAbove_13 rfl (lv_at hl 0 rfl) ?_
        refine r_get (v := .ref (a 1)) C G hX3 4 rfl rfl 0 (by decide) (by decide +kernel) rfl dX3_rowAbove_14 ?_
        refine lv_iload_n hx hb dX3_rowAbove_17 rfl (lv_at hl 3 rfl) ?_
        refine r_ai G hA (r_rV (na := 1) (As := [.int (nI (k))]) (rest := [.int (nI (wsum (F 1) k))]) C G (c_X4_weight l D cI cO cL a ca ia n O I J F E K G0 k hn (by omega)) gX3_rowAbove_X4_weight rfl (by decide +kernel) ⟨Nat.le_of_ble_eq_true rfl, Nat.le_of_ble_eq_true rfl⟩ 1 rfl rfl rfl hl.1 rfl (Nat.le_of_ble_eq_true rfl) dX3_rowAbove_18 ⟨by first | (simp only []; omega) | decide, by first | (simp only []; omega) | decide⟩) (fun r18 w18 H locs hp18 G => ?_)
        obtain ⟨rfl, rfl⟩ := hp18
        refine r_top (y := nI ((F 1) k)) rfl ?_
        refine r_iadd hx hb dX3_rowAbove_21 ?_
        refine lv_istore_n (lv' := [(2, .int (nI ((wsum (F 1) k) + ((F 1) k)))), (0, .ref (a 4)), (1, .int (nI (x))), (3, .int (nI (k)))]) hx hb dX3_rowAbove_22 rfl hl (by decide) rfl (fun ls hl => ?_)
        refine lv_iload_n hx hb dX3_rowAbove_23 rfl (lv_at hl 0 rfl) ?_
        refine lv_iload_n hx hb dX3_rowAbove_24 rfl (lv_at hl 2 rfl) ?_
        refine lv_icmp_le (tgt := 30) hx hb dX3_rowAbove_25 (by decide) (fun c25 => ?_) (fun c25 => ?_)
        · skip
          replace c25 : (((wsum (F 1) k) + ((F 1) k) : Nat) : Int) ≤ ((x : Nat) : Int) := (cv_le (nI_toInt (by omega)) (nI_toInt (by omega))).mp c25
          refine lv_iinc (v := nI (k + 1)) (lv' := [(3, .int (nI (k + 1))), (2, .int (nI ((wsum (F 1) k) + ((F 1) k)))), (0, .ref (a 4)), (1, .int (nI (x)))]) hx hb dX3_rowAbove_30 hl (k := 3) rfl (inc_n _ 1) (by decide) rfl (fun ls hl => ?_)
          refine lv_goto (tgt := 4) hx hb dX3_rowAbove_33 (by decide) ?_
          exact ih4 (k + 1) (by omega) (by omega) (by omega) _ _ _ (G.eq (rfl)) (lv_sub hl [2, 3, 1, 0] rfl)
        · skip
          replace c25 : ((x : Nat) : Int) < (((wsum (F 1) k) + ((F 1) k) : Nat) : Int) := Int.not_le.mp (fun h => c25 ((cv_le (nI_toInt (by omega)) (nI_toInt (by omega))).mpr h))
          refine lv_iload_n hx hb dX3_rowAbove_28 rfl (lv_at hl 3 rfl) ?_
          exact RET (nI (k)) (bW cI cO a ca ia n O I J F E K G0) _ _ ls _ _ _ (⟨k, by omega, by omega, by omega, rfl, rfl⟩) G (by first | (simp only []; omega) | decide) (by first | (simp only []; omega) | decide) rfl dX3_rowAbove_29
  exact lp4 (I 8 + 1) 0 (by omega) (by omega) (Nat.zero_le _) _ _ _ (G.eq (rfl)) (lv_sub hl [2, 3, 1, 0] rfl)
set_option maxHeartbeats 4000000 in
set_option maxRecDepth 100000 in
theorem c_X3_makeWeighted (l : Launch) (D : va_G) (cI cO cL : ClassId) (a ca ia : Nat → Nat) (n : Nat) (O : Nat → Option Nat) (I : Nat → Nat) (J : Nat → Int64) (F : Nat → Nat → Nat) (E : Nat → Nat → Int32) (K : Nat → Nat → Nat) (G0 : Nat → Nat → Int32) (hn : I 3 ≤ 60) (h83 : I 8 = I 3) (hWt : ∀ j, j < I 3 → F 1 j ≤ 1000) (hpos : 0 < wsum (F 1) (I 3) ∨ I 3 = 0) : Kv l yX3_makeWeighted wsX3_makeWeighted { frames := 3, cells := 0, slots := 0, locals := 65 } D (TY cI cO cL) [.ref (a 4)] (bW cI cO a ca ia n O I J F E K G0) (fun w => ∃ g σ, isW (F 1) (I 3) (J 1) g ∧ w = bW cI cO a ca ia n O I (va_up J 1 (σ)) (va_up F 2 g) E K G0) := by
  refine Kv.mk (cc := cX3_makeWeighted) (maxL := 3) (own := RX3) (by decide) rfl rfl (Nat.le_of_ble_eq_true rfl) ?_
  intro p e s m below meth c A Q ls C hname hA G hl RET
  obtain ⟨⟨hx, hb, hml, hown, hts⟩, hK, hN⟩ := id C
  have hl : lv_has ls 3 [(0, .ref (a 4))] := hl
  have hX3 : ∀ w ∈ u_ws RX3 TX3 10, w ∈ wsX3_makeWeighted := by decide +kernel
  have hw3 := wsum_le (w := F 1) hWt (I 3) (by omega)
  refine lv_aload_n hx hb dX3_makeWeighted_0 rfl (lv_at hl 0 rfl) ?_
  refine r_get (v := .ref (a 1)) C G hX3 4 rfl rfl 0 (by decide) (by decide +kernel) rfl dX3_makeWeighted_1 ?_
  refine r_ai G hA (r_rV (na := 0) (As := []) (rest := []) C G (c_X4_sumOfWeights l D cI cO cL a ca ia n O I J F E K G0 hn hWt) gX3_makeWeighted_X4_sumOfWeights rfl (by decide +kernel) ⟨Nat.le_of_ble_eq_true rfl, Nat.le_of_ble_eq_true rfl⟩ 1 rfl rfl rfl hl.1 rfl (Nat.le_of_ble_eq_true rfl) dX3_makeWeighted_4 ⟨by first | (simp only []; omega) | decide, by first | (simp only []; omega) | decide⟩) (fun r4 w4 H locs hp4 G => ?_)
  obtain ⟨rfl, rfl⟩ := hp4
  refine r_top (y := nI (wsum (F 1) (I 3))) rfl ?_
  refine lv_istore_n (lv' := [(1, .int (nI (wsum (F 1) (I 3)))), (0, .ref (a 4))]) hx hb dX3_makeWeighted_7 rfl hl (by decide) rfl (fun ls hl => ?_)
  refine lv_iconst (v := (nI (0))) hx hb dX3_makeWeighted_8 (by decide) ?_
  refine lv_istore_n (lv' := [(2, .int (nI (0))), (1, .int (nI (wsum (F 1) (I 3)))), (0, .ref (a 4))]) hx hb dX3_makeWeighted_9 rfl hl (by decide) rfl (fun ls hl => ?_)
  have lp10 : ∀ (fuel10 : Nat) (k : Nat) (f : Nat → Nat) (σ : Int64) (hm : I 8 - k < fuel10) (hk : k ≤ I 8) (eσ : σ = sIt nxg (J 1) k) (hall : ∀ q, q < k → f q < I 3 ∧ wsum (F 1) (f q) ≤ dr (sIt nxg (J 1) (q + 1)) (wsum (F 1) (I 3)) ∧ dr (sIt nxg (J 1) (q + 1)) (wsum (F 1) (I 3)) < wsum (F 1) (f q + 1)) (H : Heap) (locs : List Loc) (ls : Array Slot), Wd A s.heap D (bW cI cO a ca ia n O I (va_up J 1 (σ)) (va_up F 2 f) E K G0) H locs → lv_has ls 3 [(0, .ref (a 4)), (1, .int (nI (wsum (F 1) (I 3)))), (2, .int (nI (k)))] → W p l e ({ frames := 3, cells := 0, slots := 0, locals := 65 } : Room) s m ([.ref (a 4)] : List Value).toArray below meth c H locs 0 0 Q (F0 m 10 ls []) := by
    intro fuel10
    induction fuel10 with
    | zero => intro k f σ hm hk eσ hall; exact absurd hm (by omega)
    | succ fuel10 ih10 =>
      intro k f σ hm hk eσ hall H locs ls G hl
      refine lv_iload_n hx hb dX3_makeWeighted_10 rfl (lv_at hl 2 rfl) ?_
      refine lv_aload_n hx hb dX3_makeWeighted_11 rfl (lv_at hl 0 rfl) ?_
      refine r_get (v := .int (nI (I 8))) C G hX3 4 rfl rfl 4 (by decide) (by decide +kernel) rfl dX3_makeWeighted_12 ?_
      refine lv_icmp_ge (tgt := 42) hx hb dX3_makeWeighted_15 (by decide) (fun c15 => ?_) (fun c15 => ?_)
      · skip
        replace c15 : ((I 8 : Nat) : Int) ≤ ((k : Nat) : Int) := (cv_le (nI_toInt (by omega)) (nI_toInt (by omega))).mp c15
        exact RET (bW cI cO a ca ia n O I (va_up J 1 (σ)) (va_up F 2 f) E K G0) _ _ ls _ _ _ (⟨f, σ, fun q hq => hall q (by omega), rfl⟩) G (by first | (simp only []; omega) | decide) (by first | (simp only []; omega) | decide) dX3_makeWeighted_42
      · skip
        replace c15 : ((k : Nat) : Int) < ((I 8 : Nat) : Int) := Int.not_le.mp (fun h => c15 ((cv_le (nI_toInt (by omega)) (nI_toInt (by omega))).mpr h))
        refine lv_aload_n hx hb dX3_makeWeighted_18 rfl (lv_at hl 0 rfl) ?_
        refine r_get (v := .ref (a 8)) C G hX3 4 rfl rfl 3 (by decide) (by decide +kernel) rfl dX3_makeWeighted_19 ?_
        refine lv_iload_n hx hb dX3_makeWeighted_22 rfl (lv_at hl 2 rfl) ?_
        refine lv_aload_n hx hb dX3_makeWeighted_23 rfl (lv_at hl 0 rfl) ?_
        refine lv_aload_n hx hb dX3_makeWeighted_24 rfl (lv_at hl 0 rfl) ?_
        refine r_get (v := .ref (a 3)) C G hX3 4 rfl rfl 2 (by decide) (by decide +kernel) rfl dX3_makeWeighted_25 ?_
        refine lv_iload_n hx hb dX3_makeWeighted_28 rfl (lv_at hl 1 rfl) ?_
        refine r_ai G hA (r_rV (na := 1) (As := [.int (nI (wsum (F 1) (I 3)))]) (rest := [.ref (a 4), .int (nI (k)), .ref (a 8)]) C G (c_X2_below l D cI cO cL a ca ia n O I (va_up J 1 (σ)) (va_up F 2 f) E K G0 (wsum (F 1) (I 3)) (by omega) (by omega)) gX3_makeWeighted_X2_below rfl (by decide +kernel) ⟨Nat.le_of_ble_eq_true rfl, Nat.le_of_ble_eq_true rfl⟩ 3 rfl rfl rfl hl.1 rfl (Nat.le_of_ble_eq_true rfl) dX3_makeWeighted_29 ⟨by first | (simp only []; omega) | decide, by first | (simp only []; omega) | decide⟩) (fun r29 w29 H locs hp29 G => ?_)
        obtain ⟨d29, σ29, eσ29, ed29, hd29, rfl, rfl⟩ := hp29
        replace eσ29 : σ29 = nxg (σ) := eσ29
        refine r_top (y := nI (d29)) rfl ?_
        refine r_ai G hA (r_rV (na := 1) (As := [.int (nI (d29))]) (rest := [.int (nI (k)), .ref (a 8)]) C G (c_X3_rowAbove l D cI cO cL a ca ia n O I (va_up J 1 (σ29)) (va_up F 2 f) E K G0 d29 hn h83 hWt (by show d29 < wsum (F 1) (I 8); rw [h83]; omega)) gX3_makeWeighted_X3_rowAbove rfl (by decide +kernel) ⟨Nat.le_of_ble_eq_true rfl, Nat.le_of_ble_eq_true rfl⟩ 4 rfl rfl rfl hl.1 rfl (Nat.le_of_ble_eq_true rfl) dX3_makeWeighted_32 ⟨by first | (simp only []; omega) | decide, by first | (simp only []; omega) | decide⟩) (fun r32 w32 H locs hp32 G => ?_)
        obtain ⟨j32, hj32, ha32, hb32, rfl, rfl⟩ := hp32
        refine r_top (y := nI (j32)) rfl ?_
        refine r_iast (ws' := bW cI cO a ca ia n O I (va_up J 1 (σ29)) (va_up F 2 (va_up f k j32)) E K G0) C G 8 0 rfl rfl k rfl (by omega) (by omega) (nI_upd _ _ _) dX3_makeWeighted_35 rfl (fun H locs G => ?_)
        refine lv_iinc (v := nI (k + 1)) (lv' := [(2, .int (nI (k + 1))), (0, .ref (a 4)), (1, .int (nI (wsum (F 1) (I 3))))]) hx hb dX3_makeWeighted_36 hl (k := 2) rfl (inc_n _ 1) (by decide) rfl (fun ls hl => ?_)
        refine lv_goto (tgt := 10) hx hb dX3_makeWeighted_39 (by decide) ?_
        exact ih10 (k + 1) (va_up f k j32) σ29 (by omega) (by omega) (by rw [eσ29, eσ]; rfl) (fun q hq => by rcases Nat.lt_or_ge q k with z | z; (rw [up_ne _ _ (by omega)]; exact hall q z); (obtain rfl : q = k := (by omega); rw [up_same, show sIt nxg (J 1) (q + 1) = σ29 by rw [eσ29, eσ]; rfl, ← ed29]; exact ⟨by omega, ha32, hb32⟩)) _ _ _ (G.eq (rfl)) (lv_sub hl [1, 2, 0] rfl)
  exact lp10 (I 8 + 1) 0 (F 2) (J 1) (by omega) (by omega) rfl (fun q hq => by omega) _ _ _ (G.eq (rfl)) (lv_sub hl [2, 1, 0] rfl)
