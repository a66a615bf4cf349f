theorem lN_ne0 {k : Nat} (h0 : 0 < k) (hk : k < 2 ^ 63) : ¬ lN k = 0 := by
  intro h
  have h1 : lN k = lN 0 := h
  rw [pk_lEQ hk (by omega)] at h1
  omega
set_option maxHeartbeats 4000000 in
set_option maxRecDepth 100000 in
theorem c_X2_mixed (l : Launch) (D : va_G) (cI cO cL : ClassId) (ws : va_W) (z : Int64) : Kl l yX2_mixed wsX2_mixed { frames := 0, cells := 0, slots := 0, locals := 0 } D (TY cI cO cL) [.long (z)] (ws) (fun r w => r = mixv z ∧ w = ws) := by
  refine Kl.mk (cc := cX2_mixed) (maxL := 2) (own := RX2) (by decide) rfl rfl (Nat.le_of_ble_eq_true rfl) ?_
  intro p e s m below meth c A Q ls C hname hA G hl RET
  obtain ⟨⟨hx, hb, hml, hown, hts⟩, hK, hN⟩ := id C
  have hl : lv_has ls 2 [(0, .long (z))] := hl
  refine lv_lload_n hx hb dX2_mixed_0 rfl (lv_at hl 0 rfl) ?_
  refine lv_lload_n hx hb dX2_mixed_1 rfl (lv_at hl 0 rfl) ?_
  refine lv_bipush (v := (nI (30))) hx hb dX2_mixed_2 (by decide) ?_
  refine lv_lushr (v := ush z 30) hx hb dX2_mixed_4 rfl ?_
  refine lv_lxor hx hb dX2_mixed_5 ?_
  refine lv_ldc2 (v := (-4658895280553007687)) hx hb hown (hts (.constantLong RX2 23 (-4658895280553007687)) (by decide +kernel)) dX2_mixed_6 ?_
  refine lv_lmul hx hb dX2_mixed_9 ?_
  refine lv_lstore_n (lv' := [(0, .long ((z ^^^ (ush z 30)) * ((-4658895280553007687))))]) hx hb dX2_mixed_10 rfl hl (by decide) rfl (fun ls hl => ?_)
  refine lv_lload_n hx hb dX2_mixed_11 rfl (lv_at hl 0 rfl) ?_
  refine lv_lload_n hx hb dX2_mixed_12 rfl (lv_at hl 0 rfl) ?_
  refine lv_bipush (v := (nI (27))) hx hb dX2_mixed_13 (by decide) ?_
  refine lv_lushr (v := ush ((z ^^^ (ush z 30)) * ((-4658895280553007687))) 27) hx hb dX2_mixed_15 rfl ?_
  refine lv_lxor hx hb dX2_mixed_16 ?_
  refine lv_ldc2 (v := (-7723592293110705685)) hx hb hown (hts (.constantLong RX2 25 (-7723592293110705685)) (by decide +kernel)) dX2_mixed_17 ?_
  refine lv_lmul hx hb dX2_mixed_20 ?_
  refine lv_lstore_n (lv' := [(0, .long ((((z ^^^ (ush z 30)) * ((-4658895280553007687))) ^^^ (ush ((z ^^^ (ush z 30)) * ((-4658895280553007687))) 27)) * ((-7723592293110705685))))]) hx hb dX2_mixed_21 rfl hl (by decide) rfl (fun ls hl => ?_)
  refine lv_lload_n hx hb dX2_mixed_22 rfl (lv_at hl 0 rfl) ?_
  refine lv_lload_n hx hb dX2_mixed_23 rfl (lv_at hl 0 rfl) ?_
  refine lv_bipush (v := (nI (31))) hx hb dX2_mixed_24 (by decide) ?_
  refine lv_lushr (v := ush ((((z ^^^ (ush z 30)) * ((-4658895280553007687))) ^^^ (ush ((z ^^^ (ush z 30)) * ((-4658895280553007687))) 27)) * ((-7723592293110705685))) 31) hx hb dX2_mixed_26 rfl ?_
  refine lv_lxor hx hb dX2_mixed_27 ?_
  exact RET (((((z ^^^ (ush z 30)) * ((-4658895280553007687))) ^^^ (ush ((z ^^^ (ush z 30)) * ((-4658895280553007687))) 27)) * ((-7723592293110705685))) ^^^ (ush ((((z ^^^ (ush z 30)) * ((-4658895280553007687))) ^^^ (ush ((z ^^^ (ush z 30)) * ((-4658895280553007687))) 27)) * ((-7723592293110705685))) 31)) (ws) _ _ ls _ _ _ (⟨rfl, rfl⟩) G (by first | (simp only []; omega) | decide) (by first | (simp only []; omega) | decide) dX2_mixed_28
set_option maxHeartbeats 4000000 in
set_option maxRecDepth 100000 in
theorem c_X7_mix (l : Launch) (D : va_G) (cI cO cL : ClassId) (ws : va_W) (z : Int64) : Kl l yX7_mix wsX7_mix { frames := 0, cells := 0, slots := 0, locals := 0 } D (TY cI cO cL) [.long (z)] (ws) (fun r w => r = mixv z ∧ w = ws) := by
  refine Kl.mk (cc := cX7_mix) (maxL := 4) (own := RX7) (by decide) rfl rfl (Nat.le_of_ble_eq_true rfl) ?_
  intro p e s m below meth c A Q ls C hname hA G hl RET
  obtain ⟨⟨hx, hb, hml, hown, hts⟩, hK, hN⟩ := id C
  have hl : lv_has ls 4 [(0, .long (z))] := hl
  refine lv_lload_n hx hb dX7_mix_0 rfl (lv_at hl 0 rfl) ?_
  refine lv_lload_n hx hb dX7_mix_1 rfl (lv_at hl 0 rfl) ?_
  refine lv_bipush (v := (nI (30))) hx hb dX7_mix_2 (by decide) ?_
  refine lv_lushr (v := ush z 30) hx hb dX7_mix_4 rfl ?_
  refine lv_lxor hx hb dX7_mix_5 ?_
  refine lv_ldc2 (v := (-4658895280553007687)) hx hb hown (hts (.constantLong RX7 72 (-4658895280553007687)) (by decide +kernel)) dX7_mix_6 ?_
  refine lv_lmul hx hb dX7_mix_9 ?_
  refine lv_lstore_n (lv' := [(2, .long ((z ^^^ (ush z 30)) * ((-4658895280553007687)))), (0, .long (z))]) hx hb dX7_mix_10 rfl hl (by decide) rfl (fun ls hl => ?_)
  refine lv_lload_n hx hb dX7_mix_11 rfl (lv_at hl 0 rfl) ?_
  refine lv_lload_n hx hb dX7_mix_12 rfl (lv_at hl 0 rfl) ?_
  refine lv_bipush (v := (nI (27))) hx hb dX7_mix_13 (by decide) ?_
  refine lv_lushr (v := ush ((z ^^^ (ush z 30)) * ((-4658895280553007687))) 27) hx hb dX7_mix_15 rfl ?_
  refine lv_lxor hx hb dX7_mix_16 ?_
  refine lv_ldc2 (v := (-7723592293110705685)) hx hb hown (hts (.constantLong RX7 74 (-7723592293110705685)) (by decide +kernel)) dX7_mix_17 ?_
  refine lv_lmul hx hb dX7_mix_20 ?_
  refine lv_lstore_n (lv' := [(2, .long ((((z ^^^ (ush z 30)) * ((-4658895280553007687))) ^^^ (ush ((z ^^^ (ush z 30)) * ((-4658895280553007687))) 27)) * ((-7723592293110705685)))), (0, .long (z))]) hx hb dX7_mix_21 rfl hl (by decide) rfl (fun ls hl => ?_)
  refine lv_lload_n hx hb dX7_mix_22 rfl (lv_at hl 0 rfl) ?_
  refine lv_lload_n hx hb dX7_mix_23 rfl (lv_at hl 0 rfl) ?_
  refine lv_bipush (v := (nI (31))) hx hb dX7_mix_24 (by decide) ?_
  refine lv_lushr (v := ush ((((z ^^^ (ush z 30)) * ((-4658895280553007687))) ^^^ (ush ((z ^^^ (ush z 30)) * ((-4658895280553007687))) 27)) * ((-7723592293110705685))) 31) hx hb dX7_mix_26 rfl ?_
  refine lv_lxor hx hb dX7_mix_27 ?_
  exact RET (((((z ^^^ (ush z 30)) * ((-4658895280553007687))) ^^^ (ush ((z ^^^ (ush z 30)) * ((-4658895280553007687))) 27)) * ((-7723592293110705685))) ^^^ (ush ((((z ^^^ (ush z 30)) * ((-4658895280553007687))) ^^^ (ush ((z ^^^ (ush z 30)) * ((-4658895280553007687))) 27)) * ((-7723592293110705685))) 31)) (ws) _ _ ls _ _ _ (⟨rfl, rfl⟩) G (by first | (simp only []; omega) | decide) (by first | (simp only []; omega) | decide) dX7_mix_28
set_option maxHeartbeats 4000000 in
set_option maxRecDepth 100000 in
theorem c_X2_begin (l : Launch) (D : va_G) (cI cO cL : ClassId) (a ca ia : Nat → Nat) (n : Nat) (O : Nat → Option Nat) (I : Nat → Nat) (J : Nat → Int64) (F : Nat → Nat → Nat) (E : Nat → Nat → Int32) (K : Nat → Nat → Nat) (G0 : Nat → Nat → Int32) (z : Int64) : Kv l yX2_begin wsX2_begin { frames := 0, cells := 0, slots := 0, locals := 0 } D (TY cI cO cL) [.ref (a 3), .long (z)] (bW cI cO a ca ia n O I J F E K G0) (fun w => w = bW cI cO a ca ia n O I (va_up J 1 z) F E K G0) := by
  refine Kv.mk (cc := cX2_begin) (maxL := 3) (own := RX2) (by decide) rfl rfl (Nat.le_of_ble_eq_true rfl) ?_
  intro p e s m below meth c A Q ls C hname hA G hl RET
  obtain ⟨⟨hx, hb, hml, hown, hts⟩, hK, hN⟩ := id C
  have hl : lv_has ls 3 [(0, .ref (a 3)), (1, .long (z))] := hl
  have hX2 : ∀ w ∈ u_ws RX2 TX2 1, w ∈ wsX2_begin := by decide +kernel
  refine lv_aload_n hx hb dX2_begin_0 rfl (lv_at hl 0 rfl) ?_
  refine lv_lload_n hx hb dX2_begin_1 rfl (lv_at hl 1 rfl) ?_
  refine r_put (ws' := bW cI cO a ca ia n O I (va_up J 1 z) F E K G0) C G hX2 tyX2_ok nmX2 3 rfl rfl 0 (by decide) (by decide +kernel) rfl rfl rfl (Nat.le_of_ble_eq_true rfl) dX2_begin_2 rfl (fun H locs G => ?_)
  exact RET (bW cI cO a ca ia n O I (va_up J 1 z) F E K G0) _ _ ls _ _ _ (rfl) G (by first | (simp only []; omega) | decide) (by first | (simp only []; omega) | decide) dX2_begin_5
set_option maxHeartbeats 4000000 in
set_option maxRecDepth 100000 in
theorem c_X7_begin (l : Launch) (D : va_G) (cI cO cL : ClassId) (b : Nat → Nat) (I : Nat → Nat) (J : Nat → Int64) (F : Nat → Nat → Nat) (G0 : Nat → Nat → Int32) : Kv l yX7_begin wsX7_begin { frames := 0, cells := 0, slots := 0, locals := 0 } D (TY cI cO cL) [.ref (b 0)] (mW cI b I J F G0) (fun w => w = mW cI b I (va_up J 1 (J 0)) F G0) := by
  refine Kv.mk (cc := cX7_begin) (maxL := 1) (own := RX7) (by decide) rfl rfl (Nat.le_of_ble_eq_true rfl) ?_
  intro p e s m below meth c A Q ls C hname hA G hl RET
  obtain ⟨⟨hx, hb, hml, hown, hts⟩, hK, hN⟩ := id C
  have hl : lv_has ls 1 [(0, .ref (b 0))] := hl
  have hX7 : ∀ w ∈ u_ws RX7 TX7 30, w ∈ wsX7_begin := by decide +kernel
  refine lv_aload_n hx hb dX7_begin_0 rfl (lv_at hl 0 rfl) ?_
  refine lv_aload_n hx hb dX7_begin_1 rfl (lv_at hl 0 rfl) ?_
  refine r_get (v := .long (J 0)) C G hX7 0 rfl rfl 1 (by decide) (by decide +kernel) rfl dX7_begin_2 ?_
  refine r_put (ws' := mW cI b I (va_up J 1 (J 0)) F G0) C G hX7 tyX7_ok nmX7 0 rfl rfl 2 (by decide) (by decide +kernel) rfl rfl rfl (Nat.le_of_ble_eq_true rfl) dX7_begin_5 rfl (fun H locs G => ?_)
  exact RET (mW cI b I (va_up J 1 (J 0)) F G0) _ _ ls _ _ _ (rfl) G (by first | (simp only []; omega) | decide) (by first | (simp only []; omega) | decide) dX7_begin_8
set_option maxHeartbeats 4000000 in
set_option maxRecDepth 100000 in
theorem c_X2_key (l : Launch) (D : va_G) (cI cO cL : ClassId) (a ca ia : Nat → Nat) (n : Nat) (O : Nat → Option Nat) (I : Nat → Nat) (J : Nat → Int64) (F : Nat → Nat → Nat) (E : Nat → Nat → Int32) (K : Nat → Nat → Nat) (G0 : Nat → Nat → Int32) (k : Nat) (hk : k < 2 ^ 31) : Kv l yX2_key wsX2_key { frames := 1, cells := 0, slots := 0, locals := 21 } D (TY cI cO cL) [.ref (a 3), .int (nI (k))] (bW cI cO a ca ia n O I J F E K G0) (fun w => ∃ σ, σ = keyv (J 1) (lN k) ∧ w = bW cI cO a ca ia n O I (va_up J 1 (σ)) F E K G0) := by
  refine Kv.mk (cc := cX2_key) (maxL := 2) (own := RX2) (by decide) rfl rfl (Nat.le_of_ble_eq_true rfl) ?_
  intro p e s m below meth c A Q ls C hname hA G hl RET
  obtain ⟨⟨hx, hb, hml, hown, hts⟩, hK, hN⟩ := id C
  have hl : lv_has ls 2 [(0, .ref (a 3)), (1, .int (nI (k)))] := hl
  have hX2 : ∀ w ∈ u_ws RX2 TX2 1, w ∈ wsX2_key := by decide +kernel
  refine lv_aload_n hx hb dX2_key_0 rfl (lv_at hl 0 rfl) ?_
  refine lv_aload_n hx hb dX2_key_1 rfl (lv_at hl 0 rfl) ?_
  refine r_get (v := .long (J 1)) C G hX2 3 rfl rfl 0 (by decide) (by decide +kernel) rfl dX2_key_2 ?_
  refine lv_iload_n hx hb dX2_key_5 rfl (lv_at hl 1 rfl) ?_
  refine lv_i2l (v := lN (k)) hx hb dX2_key_6 (nI_l (by omega)) ?_
  refine lv_ldc2 (v := gold) hx hb hown (hts (.constantLong RX2 13 (-7046029254386353131)) (by decide +kernel)) dX2_key_7 ?_
  refine lv_lmul hx hb dX2_key_10 ?_
  refine lv_lxor hx hb dX2_key_11 ?_
  refine r_al G hA (r_rS (na := 1) (As := [.long ((J 1) ^^^ ((lN (k)) * gold))]) (rest := [.ref (a 3)]) C G (c_X2_mixed l D cI cO cL (bW cI cO a ca ia n O I J F E K G0) ((J 1) ^^^ ((lN (k)) * gold))) gX2_key_X2_mixed rfl (by decide +kernel) ⟨Nat.le_of_ble_eq_true rfl, Nat.le_of_ble_eq_true rfl⟩ rfl hl.1 rfl (Nat.le_of_ble_eq_true rfl) dX2_key_12 ⟨by first | (simp only []; omega) | decide, by first | (simp only []; omega) | decide⟩) (fun r12 w12 H locs hp12 G => ?_)
  obtain ⟨rfl, rfl⟩ := hp12
  refine r_put (ws' := bW cI cO a ca ia n O I (va_up J 1 (mixv ((J 1) ^^^ ((lN (k)) * gold)))) F E K G0) C G hX2 tyX2_ok nmX2 3 rfl rfl 0 (by decide) (by decide +kernel) rfl rfl rfl (Nat.le_of_ble_eq_true rfl) dX2_key_15 rfl (fun H locs G => ?_)
  exact RET (bW cI cO a ca ia n O I (va_up J 1 (mixv ((J 1) ^^^ ((lN (k)) * gold)))) F E K G0) _ _ ls _ _ _ (⟨_, rfl, rfl⟩) G (by first | (simp only []; omega) | decide) (by first | (simp only []; omega) | decide) dX2_key_18
set_option maxHeartbeats 4000000 in
set_option maxRecDepth 100000 in
theorem c_X7_with (l : Launch) (D : va_G) (cI cO cL : ClassId) (b : Nat → Nat) (I : Nat → Nat) (J : Nat → Int64) (F : Nat → Nat → Nat) (G0 : Nat → Nat → Int32) (k : Int64) : Kv l yX7_with wsX7_with { frames := 1, cells := 0, slots := 0, locals := 23 } D (TY cI cO cL) [.ref (b 0), .long (k)] (mW cI b I J F G0) (fun w => ∃ σ, σ = keyv (J 1) k ∧ w = mW cI b I (va_up J 1 (σ)) F G0) := by
  refine Kv.mk (cc := cX7_with) (maxL := 3) (own := RX7) (by decide) rfl rfl (Nat.le_of_ble_eq_true rfl) ?_
  intro p e s m below meth c A Q ls C hname hA G hl RET
  obtain ⟨⟨hx, hb, hml, hown, hts⟩, hK, hN⟩ := id C
  have hl : lv_has ls 3 [(0, .ref (b 0)), (1, .long (k))] := hl
  have hX7 : ∀ w ∈ u_ws RX7 TX7 30, w ∈ wsX7_with := by decide +kernel
  refine lv_aload_n hx hb dX7_with_0 rfl (lv_at hl 0 rfl) ?_
  refine lv_aload_n hx hb dX7_with_1 rfl (lv_at hl 0 rfl) ?_
  refine r_get (v := .long (J 1)) C G hX7 0 rfl rfl 2 (by decide) (by decide +kernel) rfl dX7_with_2 ?_
  refine lv_lload_n hx hb dX7_with_5 rfl (lv_at hl 1 rfl) ?_
  refine lv_ldc2 (v := gold) hx hb hown (hts (.constantLong RX7 83 (-7046029254386353131)) (by decide +kernel)) dX7_with_6 ?_
  refine lv_lmul hx hb dX7_with_9 ?_
  refine lv_lxor hx hb dX7_with_10 ?_
  refine r_al G hA (r_rS (na := 1) (As := [.long ((J 1) ^^^ (k * gold))]) (rest := [.ref (b 0)]) C G (c_X7_mix l D cI cO cL (mW cI b I J F G0) ((J 1) ^^^ (k * gold))) gX7_with_X7_mix rfl (by decide +kernel) ⟨Nat.le_of_ble_eq_true rfl, Nat.le_of_ble_eq_true rfl⟩ rfl hl.1 rfl (Nat.le_of_ble_eq_true rfl) dX7_with_11 ⟨by first | (simp only []; omega) | decide, by first | (simp only []; omega) | decide⟩) (fun r11 w11 H locs hp11 G => ?_)
  obtain ⟨rfl, rfl⟩ := hp11
  refine r_put (ws' := mW cI b I (va_up J 1 (mixv ((J 1) ^^^ (k * gold)))) F G0) C G hX7 tyX7_ok nmX7 0 rfl rfl 2 (by decide) (by decide +kernel) rfl rfl rfl (Nat.le_of_ble_eq_true rfl) dX7_with_14 rfl (fun H locs G => ?_)
  exact RET (mW cI b I (va_up J 1 (mixv ((J 1) ^^^ (k * gold)))) F G0) _ _ ls _ _ _ (⟨_, rfl, rfl⟩) G (by first | (simp only []; omega) | decide) (by first | (simp only []; omega) | decide) dX7_with_17
set_option maxHeartbeats 4000000 in
set_option maxRecDepth 100000 in
theorem c_X2_below (l : Launch) (D : va_G) (cI cO cL : ClassId) (a ca ia : Nat → Nat) (n : Nat) (O : Nat → Option Nat) (I : Nat → Nat) (J : Nat → Int64) (F : Nat → Nat → Nat) (E : Nat → Nat → Int32) (K : Nat → Nat → Nat) (G0 : Nat → Nat → Int32) (k : Nat) (h0 : 0 < k) (hk : k < 2 ^ 31) : Ki l yX2_below wsX2_below { frames := 1, cells := 0, slots := 0, locals := 21 } D (TY cI cO cL) [.ref (a 3), .int (nI (k))] (bW cI cO a ca ia n O I J F E K G0) (fun r w => ∃ d σ, σ = nxg (J 1) ∧ d = dr σ k ∧ d < k ∧ r = nI d ∧ w = bW cI cO a ca ia n O I (va_up J 1 (σ)) F E K G0) := by
  refine Ki.mk (cc := cX2_below) (maxL := 2) (rt := .int) (own := RX2) (by decide) rfl rfl (Nat.le_of_ble_eq_true rfl) ?_
  intro p e s m below meth c A Q ls C hname hA G hl RET
  obtain ⟨⟨hx, hb, hml, hown, hts⟩, hK, hN⟩ := id C
  have hl : lv_has ls 2 [(0, .ref (a 3)), (1, .int (nI (k)))] := hl
  have hX2 : ∀ w ∈ u_ws RX2 TX2 1, w ∈ wsX2_below := by decide +kernel
  refine lv_iload_n hx hb dX2_below_0 rfl (lv_at hl 1 rfl) ?_
  refine lv_iconst (v := (nI (1))) hx hb dX2_below_1 (by decide) ?_
  refine lv_icmp_ge (tgt := 7) hx hb dX2_below_2 (by decide) (fun c2 => ?_) (fun c2 => ?_)
  · skip
    replace c2 : ((1 : Nat) : Int) ≤ ((k : Nat) : Int) := (cv_le (nI_toInt (by omega)) (nI_toInt (by omega))).mp c2
    refine lv_aload_n hx hb dX2_below_7 rfl (lv_at hl 0 rfl) ?_
    refine lv_dup hx hb dX2_below_8 rfl ?_
    refine r_get (v := .long (J 1)) C G hX2 3 rfl rfl 0 (by decide) (by decide +kernel) rfl dX2_below_9 ?_
    refine lv_ldc2 (v := gold) hx hb hown (hts (.constantLong RX2 13 (-7046029254386353131)) (by decide +kernel)) dX2_below_12 ?_
    refine lv_ladd hx hb dX2_below_15 ?_
    refine r_put (ws' := bW cI cO a ca ia n O I (va_up J 1 ((J 1) + gold)) F E K G0) C G hX2 tyX2_ok nmX2 3 rfl rfl 0 (by decide) (by decide +kernel) rfl rfl rfl (Nat.le_of_ble_eq_true rfl) dX2_below_16 rfl (fun H locs G => ?_)
    refine lv_aload_n hx hb dX2_below_19 rfl (lv_at hl 0 rfl) ?_
    refine r_get (v := .long ((J 1) + gold)) C G hX2 3 rfl rfl 0 (by decide) (by decide +kernel) rfl dX2_below_20 ?_
    refine r_al G hA (r_rS (na := 1) (As := [.long ((J 1) + gold)]) (rest := []) C G (c_X2_mixed l D cI cO cL (bW cI cO a ca ia n O I (va_up J 1 ((J 1) + gold)) F E K G0) ((J 1) + gold)) gX2_below_X2_mixed rfl (by decide +kernel) ⟨Nat.le_of_ble_eq_true rfl, Nat.le_of_ble_eq_true rfl⟩ rfl hl.1 rfl (Nat.le_of_ble_eq_true rfl) dX2_below_23 ⟨by first | (simp only []; omega) | decide, by first | (simp only []; omega) | decide⟩) (fun r23 w23 H locs hp23 G => ?_)
    obtain ⟨rfl, rfl⟩ := hp23
    refine lv_iconst (v := (nI (1))) hx hb dX2_below_26 (by decide) ?_
    refine lv_lushr (v := ush (mixv ((J 1) + gold)) 1) hx hb dX2_below_27 rfl ?_
    refine lv_iload_n hx hb dX2_below_28 rfl (lv_at hl 1 rfl) ?_
    refine lv_i2l (v := lN (k)) hx hb dX2_below_29 (nI_l (by omega)) ?_
    refine lv_lrem hx hb dX2_below_30 (lN_ne0 (by omega) (by omega)) ?_
    refine lv_l2i hx hb dX2_below_31 rfl ?_
    exact RET (((ush (mixv ((J 1) + gold)) 1) - (ush (mixv ((J 1) + gold)) 1) / (lN (k)) * (lN (k))).toInt32) (bW cI cO a ca ia n O I (va_up J 1 ((J 1) + gold)) F E K G0) _ _ ls _ _ _ (⟨_, _, rfl, rfl, dr_lt _ h0, dr_val _ h0 hk, rfl⟩) G (by first | (simp only []; omega) | decide) (by first | (simp only []; omega) | decide) rfl dX2_below_32
  · skip
    replace c2 : ((k : Nat) : Int) < ((1 : Nat) : Int) := Int.not_le.mp (fun h => c2 ((cv_le (nI_toInt (by omega)) (nI_toInt (by omega))).mpr h))
    exact absurd c2 (by omega)
set_option maxHeartbeats 4000000 in
set_option maxRecDepth 100000 in
theorem c_X7_draw (l : Launch) (D : va_G) (cI cO cL : ClassId) (b : Nat → Nat) (I : Nat → Nat) (J : Nat → Int64) (F : Nat → Nat → Nat) (G0 : Nat → Nat → Int32) (k : Nat) (h0 : 0 < k) (hk : k < 2 ^ 31) : Ki l yX7_draw wsX7_draw { frames := 1, cells := 0, slots := 0, locals := 23 } D (TY cI cO cL) [.ref (b 0), .long (lN k)] (mW cI b I J F G0) (fun r w => ∃ d σ, σ = nxg (J 1) ∧ d = dr σ k ∧ d < k ∧ r = nI d ∧ w = mW cI b I (va_up J 1 (σ)) F G0) := by
  refine Ki.mk (cc := cX7_draw) (maxL := 3) (rt := .int) (own := RX7) (by decide) rfl rfl (Nat.le_of_ble_eq_true rfl) ?_
  intro p e s m below meth c A Q ls C hname hA G hl RET
  obtain ⟨⟨hx, hb, hml, hown, hts⟩, hK, hN⟩ := id C
  have hl : lv_has ls 3 [(0, .ref (b 0)), (1, .long (lN k))] := hl
  have hX7 : ∀ w ∈ u_ws RX7 TX7 30, w ∈ wsX7_draw := by decide +kernel
  refine lv_aload_n hx hb dX7_draw_0 rfl (lv_at hl 0 rfl) ?_
  refine lv_dup hx hb dX7_draw_1 rfl ?_
  refine r_get (v := .long (J 1)) C G hX7 0 rfl rfl 2 (by decide) (by decide +kernel) rfl dX7_draw_2 ?_
  refine lv_ldc2 (v := gold) hx hb hown (hts (.constantLong RX7 83 (-7046029254386353131)) (by decide +kernel)) dX7_draw_5 ?_
  refine lv_ladd hx hb dX7_draw_8 ?_
  refine r_put (ws' := mW cI b I (va_up J 1 ((J 1) + gold)) F G0) C G hX7 tyX7_ok nmX7 0 rfl rfl 2 (by decide) (by decide +kernel) rfl rfl rfl (Nat.le_of_ble_eq_true rfl) dX7_draw_9 rfl (fun H locs G => ?_)
  refine lv_aload_n hx hb dX7_draw_12 rfl (lv_at hl 0 rfl) ?_
  refine r_get (v := .long ((J 1) + gold)) C G hX7 0 rfl rfl 2 (by decide) (by decide +kernel) rfl dX7_draw_13 ?_
  refine r_al G hA (r_rS (na := 1) (As := [.long ((J 1) + gold)]) (rest := []) C G (c_X7_mix l D cI cO cL (mW cI b I (va_up J 1 ((J 1) + gold)) F G0) ((J 1) + gold)) gX7_draw_X7_mix rfl (by decide +kernel) ⟨Nat.le_of_ble_eq_true rfl, Nat.le_of_ble_eq_true rfl⟩ rfl hl.1 rfl (Nat.le_of_ble_eq_true rfl) dX7_draw_16 ⟨by first | (simp only []; omega) | decide, by first | (simp only []; omega) | decide⟩) (fun r16 w16 H locs hp16 G => ?_)
  obtain ⟨rfl, rfl⟩ := hp16
  refine lv_iconst (v := (nI (1))) hx hb dX7_draw_19 (by decide) ?_
  refine lv_lushr (v := ush (mixv ((J 1) + gold)) 1) hx hb dX7_draw_20 rfl ?_
  refine lv_lload_n hx hb dX7_draw_21 rfl (lv_at hl 1 rfl) ?_
  refine lv_lrem hx hb dX7_draw_22 (lN_ne0 (by omega) (by omega)) ?_
  refine lv_l2i hx hb dX7_draw_23 rfl ?_
  exact RET (((ush (mixv ((J 1) + gold)) 1) - (ush (mixv ((J 1) + gold)) 1) / (lN k) * (lN k)).toInt32) (mW cI b I (va_up J 1 ((J 1) + gold)) F G0) _ _ ls _ _ _ (⟨_, _, rfl, rfl, dr_lt _ h0, dr_val _ h0 hk, rfl⟩) G (by first | (simp only []; omega) | decide) (by first | (simp only []; omega) | decide) rfl dX7_draw_24
