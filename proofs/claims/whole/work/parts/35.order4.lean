set_option maxHeartbeats 4000000 in
set_option maxRecDepth 100000 in
theorem c_X7_again (l : Launch) (D : va_G) (cI cO cL : ClassId) (b : Nat → Nat) (I : Nat → Nat) (J : Nat → Int64) (F : Nat → Nat → Nat) (G0 : Nat → Nat → Int32) (x rd : Nat) (h1 : I 1 ≤ 60) (hLb : ∀ j, j < I 1 → F 1 j < 8) (hx8 : x < 8) (hrd : rd ≤ 1000) (hf8 : F 8 x = fo (F 1) (I 1) x) (hf9 : F 9 x = cl (F 1) x (I 1)) (hc0 : 0 < cl (F 1) x (I 1)) (hmx : F 11 x < 2 ^ 30) : Kv l yX7_again wsX7_again { frames := 3, cells := 0, slots := 0, locals := 71 } D (TY cI cO cL) [.ref (b 0), .int (nI (x)), .int (nI (rd))] (mW cI b I J F G0) (fun w => ∃ sc σ tk mx, (∀ i, i < cl (F 1) x (I 1) → sc (fo (F 1) (I 1) x + i) = mixR (J 0) rd (F 1) (I 1) x (F 11 x) i) ∧ (∀ y, (y < fo (F 1) (I 1) x ∨ fo (F 1) (I 1) x + cl (F 1) x (I 1) ≤ y) → sc y = F 7 y) ∧ tk x = 0 ∧ (∀ y, y ≠ x → tk y = F 10 y) ∧ mx x = F 11 x + 1 ∧ (∀ y, y ≠ x → mx y = F 11 y) ∧ w = mW cI b I (va_up J 1 (σ)) (va_up (va_up (va_up F 7 sc) 10 tk) 11 mx) G0) := by
  refine Kv.mk (cc := cX7_again) (maxL := 5) (own := RX7) (by decide) rfl rfl (Nat.le_of_ble_eq_true rfl) ?_
  intro p e s m below meth c A Q ls C hname hA G hl RET
  obtain ⟨⟨hx, hb, hml, hown, hts⟩, hK, hN⟩ := id C
  have hl : lv_has ls 5 [(0, .ref (b 0)), (1, .int (nI (x))), (2, .int (nI (rd)))] := hl
  have hX7 : ∀ w ∈ u_ws RX7 TX7 30, w ∈ wsX7_again := by decide +kernel
  have hfc := fo_cl (lb := F 1) (n := I 1) (x := x)
  refine lv_aload_n hx hb dX7_again_0 rfl (lv_at hl 0 rfl) ?_
  refine r_get (v := .ref (b 10)) C G hX7 0 rfl rfl 17 (by decide) (by decide +kernel) rfl dX7_again_1 ?_
  refine lv_iload_n hx hb dX7_again_4 rfl (lv_at hl 1 rfl) ?_
  refine r_iald (v := nI ((F 8) x)) C G 10 0 rfl rfl x rfl (by omega) (by omega) rfl dX7_again_5 ?_
  refine r_top (y := nI (fo (F 1) (I 1) x + cl (F 1) x 0)) (congrArg nI (by rw [hf8]; rfl)) ?_
  refine lv_istore_n (lv' := [(3, .int (nI (fo (F 1) (I 1) x + cl (F 1) x 0))), (0, .ref (b 0)), (1, .int (nI (x))), (2, .int (nI (rd)))]) hx hb dX7_again_6 rfl hl (by decide) rfl (fun ls hl => ?_)
  refine lv_iconst (v := (nI (0))) hx hb dX7_again_7 (by decide) ?_
  refine lv_istore (lv' := [(4, .int (nI (0))), (3, .int (nI (fo (F 1) (I 1) x + cl (F 1) x 0))), (0, .ref (b 0)), (1, .int (nI (x))), (2, .int (nI (rd)))]) hx hb dX7_again_8 hl (by decide) rfl (fun ls hl => ?_)
  have lp10 : ∀ (fuel10 : Nat) (k : Nat) (hm : I 1 - k < fuel10) (hk : k ≤ I 1) (H : Heap) (locs : List Loc) (ls : Array Slot), Wd A s.heap D (mW cI b I J (va_up F 7 (fil (F 1) x (fo (F 1) (I 1) x) k (F 7))) G0) H locs → lv_has ls 5 [(0, .ref (b 0)), (1, .int (nI (x))), (2, .int (nI (rd))), (3, .int (nI (fo (F 1) (I 1) x + cl (F 1) x k))), (4, .int (nI (k)))] → W p l e ({ frames := 3, cells := 0, slots := 0, locals := 71 } : Room) s m ([.ref (b 0), .int (nI (x)), .int (nI (rd))] : List Value).toArray below meth c H locs 0 0 Q (F0 m 10 ls []) := by
    intro fuel10
    induction fuel10 with
    | zero => intro k hm hk; exact absurd hm (by omega)
    | succ fuel10 ih10 =>
      intro k hm hk H locs ls G hl
      refine lv_iload hx hb dX7_again_10 (lv_at hl 4 rfl) ?_
      refine lv_aload_n hx hb dX7_again_12 rfl (lv_at hl 0 rfl) ?_
      refine r_get (v := .int (nI (I 1))) C G hX7 0 rfl rfl 3 (by decide) (by decide +kernel) rfl dX7_again_13 ?_
      refine lv_icmp_ge (tgt := 47) hx hb dX7_again_16 (by decide) (fun c16 => ?_) (fun c16 => ?_)
      · skip
        replace c16 : ((I 1 : Nat) : Int) ≤ ((k : Nat) : Int) := (cv_le (nI_toInt (by omega)) (nI_toInt (by omega))).mp c16
        obtain rfl : k = I 1 := by omega
        refine lv_aload_n hx hb dX7_again_47 rfl (lv_at hl 0 rfl) ?_
        refine r_av G hA (r_rV (na := 0) (As := []) (rest := []) C G (c_X7_begin l D cI cO cL b I J (va_up F 7 (fil (F 1) x (fo (F 1) (I 1) x) (I 1) (F 7))) G0) gX7_again_X7_begin rfl (by decide +kernel) ⟨Nat.le_of_ble_eq_true rfl, Nat.le_of_ble_eq_true rfl⟩ 0 rfl rfl rfl hl.1 rfl (Nat.le_of_ble_eq_true rfl) dX7_again_48 ⟨by first | (simp only []; omega) | decide, by first | (simp only []; omega) | decide⟩) (fun w48 H locs hp48 G => ?_)
        obtain ⟨rfl⟩ := hp48
        refine lv_aload_n hx hb dX7_again_51 rfl (lv_at hl 0 rfl) ?_
        refine lv_ldc2 (v := (3)) hx hb hown (hts (.constantLong RX7 152 (3)) (by decide +kernel)) dX7_again_52 ?_
        refine r_topl (y := lN 3) rfl ?_
        refine r_av G hA (r_rV (na := 1) (As := [.long (lN 3)]) (rest := []) C G (c_X7_with l D cI cO cL b I (va_up J 1 (J 0)) (va_up F 7 (fil (F 1) x (fo (F 1) (I 1) x) (I 1) (F 7))) G0 (lN 3)) gX7_again_X7_with rfl (by decide +kernel) ⟨Nat.le_of_ble_eq_true rfl, Nat.le_of_ble_eq_true rfl⟩ 0 rfl rfl rfl hl.1 rfl (Nat.le_of_ble_eq_true rfl) dX7_again_55 ⟨by first | (simp only []; omega) | decide, by first | (simp only []; omega) | decide⟩) (fun w55 H locs hp55 G => ?_)
        obtain ⟨σ55, eσ55, rfl⟩ := hp55
        replace eσ55 : σ55 = keyv (J 0) (lN 3) := eσ55
        refine lv_aload_n hx hb dX7_again_58 rfl (lv_at hl 0 rfl) ?_
        refine lv_iload_n hx hb dX7_again_59 rfl (lv_at hl 2 rfl) ?_
        refine lv_i2l (v := lN (rd)) hx hb dX7_again_60 (nI_l (by omega)) ?_
        refine r_av G hA (r_rV (na := 1) (As := [.long (lN (rd))]) (rest := []) C G (c_X7_with l D cI cO cL b I (va_up J 1 (σ55)) (va_up F 7 (fil (F 1) x (fo (F 1) (I 1) x) (I 1) (F 7))) G0 (lN (rd))) gX7_again_X7_with rfl (by decide +kernel) ⟨Nat.le_of_ble_eq_true rfl, Nat.le_of_ble_eq_true rfl⟩ 0 rfl rfl rfl hl.1 rfl (Nat.le_of_ble_eq_true rfl) dX7_again_61 ⟨by first | (simp only []; omega) | decide, by first | (simp only []; omega) | decide⟩) (fun w61 H locs hp61 G => ?_)
        obtain ⟨σ61, eσ61, rfl⟩ := hp61
        replace eσ61 : σ61 = keyv (σ55) (lN (rd)) := eσ61
        refine lv_aload_n hx hb dX7_again_64 rfl (lv_at hl 0 rfl) ?_
        refine lv_iload_n hx hb dX7_again_65 rfl (lv_at hl 1 rfl) ?_
        refine lv_i2l (v := lN (x)) hx hb dX7_again_66 (nI_l (by omega)) ?_
        refine r_av G hA (r_rV (na := 1) (As := [.long (lN (x))]) (rest := []) C G (c_X7_with l D cI cO cL b I (va_up J 1 (σ61)) (va_up F 7 (fil (F 1) x (fo (F 1) (I 1) x) (I 1) (F 7))) G0 (lN (x))) gX7_again_X7_with rfl (by decide +kernel) ⟨Nat.le_of_ble_eq_true rfl, Nat.le_of_ble_eq_true rfl⟩ 0 rfl rfl rfl hl.1 rfl (Nat.le_of_ble_eq_true rfl) dX7_again_67 ⟨by first | (simp only []; omega) | decide, by first | (simp only []; omega) | decide⟩) (fun w67 H locs hp67 G => ?_)
        obtain ⟨σ67, eσ67, rfl⟩ := hp67
        replace eσ67 : σ67 = keyv (σ61) (lN (x)) := eσ67
        refine lv_aload_n hx hb dX7_again_70 rfl (lv_at hl 0 rfl) ?_
        refine lv_aload_n hx hb dX7_again_71 rfl (lv_at hl 0 rfl) ?_
        refine r_get (v := .ref (b 13)) C G hX7 0 rfl rfl 20 (by decide) (by decide +kernel) rfl dX7_again_72 ?_
        refine lv_iload_n hx hb dX7_again_75 rfl (lv_at hl 1 rfl) ?_
        refine r_iald (v := nI ((F 11) x)) C G 13 0 rfl rfl x rfl (by omega) (by omega) rfl dX7_again_76 ?_
        refine lv_i2l (v := lN ((F 11) x)) hx hb dX7_again_77 (nI_l (by omega)) ?_
        refine r_av G hA (r_rV (na := 1) (As := [.long (lN ((F 11) x))]) (rest := []) C G (c_X7_with l D cI cO cL b I (va_up J 1 (σ67)) (va_up F 7 (fil (F 1) x (fo (F 1) (I 1) x) (I 1) (F 7))) G0 (lN ((F 11) x))) gX7_again_X7_with rfl (by decide +kernel) ⟨Nat.le_of_ble_eq_true rfl, Nat.le_of_ble_eq_true rfl⟩ 0 rfl rfl rfl hl.1 rfl (Nat.le_of_ble_eq_true rfl) dX7_again_78 ⟨by first | (simp only []; omega) | decide, by first | (simp only []; omega) | decide⟩) (fun w78 H locs hp78 G => ?_)
        obtain ⟨σ78, eσ78, rfl⟩ := hp78
        replace eσ78 : σ78 = keyv (σ67) (lN ((F 11) x)) := eσ78
        refine lv_aload_n hx hb dX7_again_81 rfl (lv_at hl 0 rfl) ?_
        refine lv_aload_n hx hb dX7_again_82 rfl (lv_at hl 0 rfl) ?_
        refine r_get (v := .ref (b 9)) C G hX7 0 rfl rfl 16 (by decide) (by decide +kernel) rfl dX7_again_83 ?_
        refine lv_aload_n hx hb dX7_again_86 rfl (lv_at hl 0 rfl) ?_
        refine r_get (v := .ref (b 10)) C G hX7 0 rfl rfl 17 (by decide) (by decide +kernel) rfl dX7_again_87 ?_
        refine lv_iload_n hx hb dX7_again_90 rfl (lv_at hl 1 rfl) ?_
        refine r_iald (v := nI ((F 8) x)) C G 10 0 rfl rfl x rfl (by omega) (by omega) rfl dX7_again_91 ?_
        refine r_top (y := nI (fo (F 1) (I 1) x)) (congrArg nI hf8) ?_
        refine lv_aload_n hx hb dX7_again_92 rfl (lv_at hl 0 rfl) ?_
        refine r_get (v := .ref (b 11)) C G hX7 0 rfl rfl 18 (by decide) (by decide +kernel) rfl dX7_again_93 ?_
        refine lv_iload_n hx hb dX7_again_96 rfl (lv_at hl 1 rfl) ?_
        refine r_iald (v := nI ((F 9) x)) C G 11 0 rfl rfl x rfl (by omega) (by omega) rfl dX7_again_97 ?_
        refine r_top (y := nI (cl (F 1) x (I 1))) (congrArg nI hf9) ?_
        refine r_av G hA (r_rV (na := 3) (As := [.ref (b 9), .int (nI (fo (F 1) (I 1) x)), .int (nI (cl (F 1) x (I 1)))]) (rest := []) C G (c_X7_mixes_s l D cI cO cL b I (va_up J 1 (σ78)) (va_up F 7 (fil (F 1) x (fo (F 1) (I 1) x) (I 1) (F 7))) G0 (fo (F 1) (I 1) x) (cl (F 1) x (I 1)) (by omega)) gX7_again_X7_mixes rfl (by decide +kernel) ⟨Nat.le_of_ble_eq_true rfl, Nat.le_of_ble_eq_true rfl⟩ 0 rfl rfl rfl hl.1 rfl (Nat.le_of_ble_eq_true rfl) dX7_again_98 ⟨by first | (simp only []; omega) | decide, by first | (simp only []; omega) | decide⟩) (fun w98 H locs hp98 G => ?_)
        obtain ⟨g98, σ98, eg98, rfl⟩ := hp98
        replace eg98 : (g98, σ98) = shf dr nxg (fo (F 1) (I 1) x) ((cl (F 1) x (I 1)) - 1) (fil (F 1) x (fo (F 1) (I 1) x) (I 1) (F 7)) (σ78) := eg98
        refine lv_aload_n hx hb dX7_again_101 rfl (lv_at hl 0 rfl) ?_
        refine r_get (v := .ref (b 13)) C G hX7 0 rfl rfl 20 (by decide) (by decide +kernel) rfl dX7_again_102 ?_
        refine lv_iload_n hx hb dX7_again_105 rfl (lv_at hl 1 rfl) ?_
        refine lv_dup2_11 hx hb dX7_again_106 rfl rfl ?_
        refine r_iald (v := nI ((F 11) x)) C G 13 0 rfl rfl x rfl (by omega) (by omega) rfl dX7_again_107 ?_
        refine lv_iconst (v := (nI (1))) hx hb dX7_again_108 (by decide) ?_
        refine r_iadd hx hb dX7_again_109 ?_
        refine r_iast (ws' := mW cI b I (va_up J 1 (σ98)) (va_up (va_up F 7 g98) 11 (va_up (F 11) x (((F 11) x) + 1))) G0) C G 13 0 rfl rfl x rfl (by omega) (by omega) (nI_upd _ _ _) dX7_again_110 rfl (fun H locs G => ?_)
        refine lv_aload_n hx hb dX7_again_111 rfl (lv_at hl 0 rfl) ?_
        refine r_get (v := .ref (b 12)) C G hX7 0 rfl rfl 19 (by decide) (by decide +kernel) rfl dX7_again_112 ?_
        refine lv_iload_n hx hb dX7_again_115 rfl (lv_at hl 1 rfl) ?_
        refine lv_iconst (v := (nI (0))) hx hb dX7_again_116 (by decide) ?_
        refine r_iast (ws' := mW cI b I (va_up J 1 (σ98)) (va_up (va_up (va_up F 7 g98) 11 (va_up (F 11) x (((F 11) x) + 1))) 10 (va_up (F 10) x 0)) G0) C G 12 0 rfl rfl x rfl (by omega) (by omega) (nI_upd _ _ _) dX7_again_117 rfl (fun H locs G => ?_)
        exact RET (mW cI b I (va_up J 1 (σ98)) (va_up (va_up (va_up F 7 g98) 11 (va_up (F 11) x (((F 11) x) + 1))) 10 (va_up (F 10) x 0)) G0) _ _ ls _ _ _ (by have hR := mixR_of (sd := J 0) (rd := rd) (j := F 11 x) hc0 (by rw [eσ78, eσ67, eσ61, eσ55]; rfl) eg98; exact ⟨g98, σ98, _, _, hR.1, hR.2, up_same _ _ _, fun y hy => up_ne _ _ hy, up_same _ _ _, fun y hy => up_ne _ _ hy, rfl⟩) G (by first | (simp only []; omega) | decide) (by first | (simp only []; omega) | decide) dX7_again_118
      · skip
        replace c16 : ((k : Nat) : Int) < ((I 1 : Nat) : Int) := Int.not_le.mp (fun h => c16 ((cv_le (nI_toInt (by omega)) (nI_toInt (by omega))).mpr h))
        have hLk := hLb k (by omega)
        have hcm := cl_mono (lb := F 1) (x := x) (I 1) (k + 1) (by omega)
        have hck := cl_le (lb := F 1) (x := x) k
        refine lv_aload_n hx hb dX7_again_19 rfl (lv_at hl 0 rfl) ?_
        refine r_get (v := .ref (b 2)) C G hX7 0 rfl rfl 5 (by decide) (by decide +kernel) rfl dX7_again_20 ?_
        refine lv_iload hx hb dX7_again_23 (lv_at hl 4 rfl) ?_
        refine r_iald (v := nI ((F 1) k)) C G 2 0 rfl rfl k rfl (by omega) (by omega) rfl dX7_again_25 ?_
        refine lv_iload_n hx hb dX7_again_26 rfl (lv_at hl 1 rfl) ?_
        refine lv_icmp_ne (tgt := 41) hx hb dX7_again_27 (by decide) (fun c27 => ?_) (fun c27 => ?_)
        · skip
          replace c27 : ¬ (((F 1) k : Nat) : Int) = ((x : Nat) : Int) := fun h => c27 ((cv_eq (nI_toInt (by omega)) (nI_toInt (by omega))).mpr h)
          rw [← cl_n (lb := F 1) (x := x) (r := k) (by omega)] at hl
          refine lv_iinc (v := nI (k + 1)) (lv' := [(4, .int (nI (k + 1))), (0, .ref (b 0)), (1, .int (nI (x))), (2, .int (nI (rd))), (3, .int (nI (fo (F 1) (I 1) x + cl (F 1) x (k + 1))))]) hx hb dX7_again_41 hl (k := 4) rfl (inc_n _ 1) (by decide) rfl (fun ls hl => ?_)
          refine lv_goto (tgt := 10) hx hb dX7_again_44 (by decide) ?_
          exact ih10 (k + 1) (by omega) (by omega) _ _ _ (G.eq (by rw [fil_n (by omega)])) (lv_sub hl [1, 2, 3, 4, 0] rfl)
        · skip
          replace c27 : (((F 1) k : Nat) : Int) = ((x : Nat) : Int) := (cv_eq (nI_toInt (by omega)) (nI_toInt (by omega))).mp c27
          have hcy := cl_y (lb := F 1) (x := x) (r := k) (by omega)
          refine lv_aload_n hx hb dX7_again_30 rfl (lv_at hl 0 rfl) ?_
          refine r_get (v := .ref (b 9)) C G hX7 0 rfl rfl 16 (by decide) (by decide +kernel) rfl dX7_again_31 ?_
          refine lv_iload_n hx hb dX7_again_34 rfl (lv_at hl 3 rfl) ?_
          refine lv_iload hx hb dX7_again_35 (lv_at hl 4 rfl) ?_
          refine r_iast (ws' := mW cI b I J (va_up F 7 (fil (F 1) x (fo (F 1) (I 1) x) (k + 1) (F 7))) G0) C G 9 0 rfl rfl (fo (F 1) (I 1) x + cl (F 1) x k) rfl (by omega) (by omega) (by rw [nI_upd]; exact congrArg (fun (g : Nat → Nat) => fun i => nI (g i)) ((fil_y (by omega)).symm)) dX7_again_37 rfl (fun H locs G => ?_)
          refine lv_iinc (v := nI ((fo (F 1) (I 1) x + cl (F 1) x k) + 1)) (lv' := [(3, .int (nI ((fo (F 1) (I 1) x + cl (F 1) x k) + 1))), (0, .ref (b 0)), (1, .int (nI (x))), (2, .int (nI (rd))), (4, .int (nI (k)))]) hx hb dX7_again_38 hl (k := 3) rfl (inc_n _ 1) (by decide) rfl (fun ls hl => ?_)
          rw [show fo (F 1) (I 1) x + cl (F 1) x k + 1 = fo (F 1) (I 1) x + cl (F 1) x (k + 1) by omega] at hl
          refine lv_iinc (v := nI (k + 1)) (lv' := [(4, .int (nI (k + 1))), (3, .int (nI (fo (F 1) (I 1) x + cl (F 1) x (k + 1)))), (0, .ref (b 0)), (1, .int (nI (x))), (2, .int (nI (rd)))]) hx hb dX7_again_41 hl (k := 4) rfl (inc_n _ 1) (by decide) rfl (fun ls hl => ?_)
          refine lv_goto (tgt := 10) hx hb dX7_again_44 (by decide) ?_
          exact ih10 (k + 1) (by omega) (by omega) _ _ _ (G.eq (rfl)) (lv_sub hl [2, 3, 4, 1, 0] rfl)
  exact lp10 (I 1 + 1) 0 (by omega) (by omega) _ _ _ (G.eq (rfl)) (lv_sub hl [2, 3, 4, 1, 0] rfl)
set_option maxHeartbeats 4000000 in
set_option maxRecDepth 100000 in
theorem c_X7_balanced (l : Launch) (D : va_G) (cI cO cL : ClassId) (b : Nat → Nat) (I : Nat → Nat) (J : Nat → Int64) (F : Nat → Nat → Nat) (G0 : Nat → Nat → Int32) (rd : Nat) (h1 : I 1 ≤ 60) (hLb : ∀ j, j < I 1 → F 1 j < 8) (hrd : rd ≤ 1000) : Kv l yX7_balanced wsX7_balanced { frames := 4, cells := 0, slots := 0, locals := 95 } D (TY cI cO cL) [.ref (b 0), .int (nI (rd))] (mW cI b I J F G0) (fun w => ∃ pl sc f8 f9 tk mx σ, isB (J 0) rd (I 1) (F 1) pl ∧ (∀ i, i < I 1 → pl i < I 1) ∧ w = mW cI b I (va_up J 1 (σ)) (va_up (va_up (va_up (va_up (va_up (va_up F 6 pl) 7 sc) 8 f8) 9 f9) 10 tk) 11 mx) G0) := by
  refine Kv.mk (cc := cX7_balanced) (maxL := 5) (own := RX7) (by decide) rfl rfl (Nat.le_of_ble_eq_true rfl) ?_
  intro p e s m below meth c A Q ls C hname hA G hl RET
  obtain ⟨⟨hx, hb, hml, hown, hts⟩, hK, hN⟩ := id C
  have hl : lv_has ls 5 [(0, .ref (b 0)), (1, .int (nI (rd)))] := hl
  have hX7 : ∀ w ∈ u_ws RX7 TX7 30, w ∈ wsX7_balanced := by decide +kernel
  have hLp : I 1 = 0 ∨ 0 < cl (F 1) (F 1 0) (I 1) := by rcases Nat.eq_zero_or_pos (I 1) with z | z; exact Or.inl z; exact Or.inr (cl_pos (lb := F 1) (j := 0) (I 1) z)
  have hL0 : I 1 = 0 ∨ F 1 0 < 8 := by rcases Nat.eq_zero_or_pos (I 1) with z | z; exact Or.inl z; exact Or.inr (hLb 0 (by omega))
  refine lv_iconst (v := (nI (0))) hx hb dX7_balanced_0 (by decide) ?_
  refine lv_istore_n (lv' := [(2, .int (nI (0))), (0, .ref (b 0)), (1, .int (nI (rd)))]) hx hb dX7_balanced_1 rfl hl (by decide) rfl (fun ls hl => ?_)
  refine lv_iconst (v := (nI (0))) hx hb dX7_balanced_2 (by decide) ?_
  refine lv_istore_n (lv' := [(3, .int (nI (0))), (2, .int (nI (0))), (0, .ref (b 0)), (1, .int (nI (rd)))]) hx hb dX7_balanced_3 rfl hl (by decide) rfl (fun ls hl => ?_)
  have lp4 : ∀ (fuel4 : Nat) (x : Nat) (f7 f8 f9 f10 f11 : Nat → Nat) (σ : Int64) (hm : 8 - x < fuel4) (hx8 : x ≤ 8) (hall : ∀ y, y < x → f8 y = fo (F 1) (I 1) y ∧ f9 y = cl (F 1) y (I 1) ∧ (0 < cl (F 1) y (I 1) → f10 y = 0 ∧ f11 y = 1 ∧ ∀ i, i < cl (F 1) y (I 1) → f7 (fo (F 1) (I 1) y + i) = mixR (J 0) rd (F 1) (I 1) y 0 i)) (H : Heap) (locs : List Loc) (ls : Array Slot), Wd A s.heap D (mW cI b I (va_up J 1 (σ)) (va_up (va_up (va_up (va_up (va_up F 7 f7) 8 f8) 9 f9) 10 f10) 11 f11) G0) H locs → lv_has ls 5 [(0, .ref (b 0)), (1, .int (nI (rd))), (2, .int (nI (fo (F 1) (I 1) x))), (3, .int (nI (x)))] → W p l e ({ frames := 4, cells := 0, slots := 0, locals := 95 } : Room) s m ([.ref (b 0), .int (nI (rd))] : List Value).toArray below meth c H locs 0 0 Q (F0 m 4 ls []) := by
    intro fuel4
    induction fuel4 with
    | zero => intro x f7 f8 f9 f10 f11 σ hm hx8 hall; exact absurd hm (by omega)
    | succ fuel4 ih4 =>
      intro x f7 f8 f9 f10 f11 σ hm hx8 hall H locs ls G hl
      refine lv_iload_n hx hb dX7_balanced_4 rfl (lv_at hl 3 rfl) ?_
      refine lv_bipush (v := (nI (8))) hx hb dX7_balanced_5 (by decide) ?_
      refine lv_icmp_ge (tgt := 104) hx hb dX7_balanced_7 (by decide) (fun c7 => ?_) (fun c7 => ?_)
      · skip
        replace c7 : ((8 : Nat) : Int) ≤ ((x : Nat) : Int) := (cv_le (nI_toInt (by omega)) (nI_toInt (by omega))).mp c7
        obtain rfl : x = 8 := by omega
        refine lv_iconst (v := (nI (0))) hx hb dX7_balanced_104 (by decide) ?_
        refine lv_istore_n (lv' := [(3, .int (nI (0))), (0, .ref (b 0)), (1, .int (nI (rd))), (2, .int (nI (fo (F 1) (I 1) 8)))]) hx hb dX7_balanced_105 rfl hl (by decide) rfl (fun ls hl => ?_)
        refine lv_iconst (v := (nI (0))) hx hb dX7_balanced_106 (by decide) ?_
        refine lv_istore (lv' := [(4, .int (nI (0))), (3, .int (nI (0))), (0, .ref (b 0)), (1, .int (nI (rd))), (2, .int (nI (fo (F 1) (I 1) 8)))]) hx hb dX7_balanced_107 hl (by decide) rfl (fun ls hl => ?_)
        have lp109 : ∀ (fuel109 : Nat) (st1 k : Nat) (ct gg pl sc tk mx : Nat → Nat) (σ : Int64) (hm3 : 500 - st1 < fuel109) (hk : k ≤ I 1) (eI : balI (fun x => cl (F 1) x (I 1)) (itm (mixR (J 0) rd (F 1) (I 1)) (fun x => cl (F 1) x (I 1))) st1 = (k, ct, gg)) (hpl : ∀ i, i < k → pl i = gg i) (hlt : ∀ i, i < k → pl i < I 1) (hct : ∀ y, ct y ≤ k) (hlab : labs false (mixR (J 0) rd (F 1) (I 1)) (fun x => cl (F 1) x (I 1)) (fo (F 1) (I 1)) ct tk mx sc) (hpr : I 1 = 0 ∨ st1 ≤ 8 * k + F 1 0) (H : Heap) (locs : List Loc) (ls : Array Slot), Wd A s.heap D (mW cI b I (va_up J 1 (σ)) (va_up (va_up (va_up (va_up (va_up (va_up F 8 f8) 9 f9) 6 pl) 7 sc) 10 tk) 11 mx) G0) H locs → lv_has ls 5 [(0, .ref (b 0)), (1, .int (nI (rd))), (3, .int (nI (k))), (4, .int (nI (st1 % 8)))] → W p l e ({ frames := 4, cells := 0, slots := 0, locals := 95 } : Room) s m ([.ref (b 0), .int (nI (rd))] : List Value).toArray below meth c H locs 0 0 Q (F0 m 109 ls []) := by
          intro fuel109
          induction fuel109 with
          | zero => intro st1 k ct gg pl sc tk mx σ hm3 hk eI hpl hlt hct hlab hpr; exact absurd hm3 (by omega)
          | succ fuel109 ih109 =>
            intro st1 k ct gg pl sc tk mx σ hm3 hk eI hpl hlt hct hlab hpr H locs ls G hl
            refine lv_iload_n hx hb dX7_balanced_109 rfl (lv_at hl 2 rfl) ?_
            refine lv_aload_n hx hb dX7_balanced_110 rfl (lv_at hl 0 rfl) ?_
            refine r_get (v := .int (nI (I 1))) C G hX7 0 rfl rfl 3 (by decide) (by decide +kernel) rfl dX7_balanced_111 ?_
            refine lv_icmp_ge (tgt := 203) hx hb dX7_balanced_114 (by decide) (fun c114 => ?_) (fun c114 => ?_)
            · skip
              replace c114 : ((I 1 : Nat) : Int) ≤ ((k : Nat) : Int) := (cv_le (nI_toInt (by omega)) (nI_toInt (by omega))).mp c114
              exact RET (mW cI b I (va_up J 1 (σ)) (va_up (va_up (va_up (va_up (va_up (va_up F 8 f8) 9 f9) 6 pl) 7 sc) 10 tk) 11 mx) G0) _ _ ls _ _ _ (by obtain rfl : k = I 1 := (by omega); exact ⟨pl, sc, f8, f9, tk, mx, σ, ⟨st1, ct, gg, eI, hpl⟩, hlt, rfl⟩) G (by first | (simp only []; omega) | decide) (by first | (simp only []; omega) | decide) dX7_balanced_203
            · skip
              replace c114 : ((k : Nat) : Int) < ((I 1 : Nat) : Int) := Int.not_le.mp (fun h => c114 ((cv_le (nI_toInt (by omega)) (nI_toInt (by omega))).mpr h))
              obtain ⟨x, ex⟩ : ∃ x, x = st1 % 8 := ⟨_, rfl⟩
              rw [← ex] at hl
              obtain ⟨hy8, hy9, -⟩ := hall x (by omega)
              have hcl := cl_le (lb := F 1) (x := x) (I 1)
              have hfc := fo_cl (lb := F 1) (n := I 1) (x := x)
              refine lv_aload_n hx hb dX7_balanced_117 rfl (lv_at hl 0 rfl) ?_
              refine r_get (v := .ref (b 11)) C G hX7 0 rfl rfl 18 (by decide) (by decide +kernel) rfl dX7_balanced_118 ?_
              refine lv_iload hx hb dX7_balanced_121 (lv_at hl 3 rfl) ?_
              refine r_iald (v := nI (f9 x)) C G 11 0 rfl rfl x rfl (by omega) (by omega) rfl dX7_balanced_123 ?_
              refine lv_if_le (tgt := 191) hx hb dX7_balanced_124 (by decide) (fun c124 => ?_) (fun c124 => ?_)
              · skip
                replace c124 : ((f9 x : Nat) : Int) ≤ (0) := (cv_le (nI_toInt (by omega)) (by decide)).mp c124
                refine lv_iload hx hb dX7_balanced_191 (lv_at hl 3 rfl) ?_
                refine lv_iconst (v := (nI (1))) hx hb dX7_balanced_193 (by decide) ?_
                refine r_iadd hx hb dX7_balanced_194 ?_
                refine lv_bipush (v := (nI (8))) hx hb dX7_balanced_195 (by decide) ?_
                refine r_irem hx hb (by omega) (by omega) (by omega) dX7_balanced_197 ?_
                refine lv_istore (lv' := [(4, .int (nI ((x + 1) % 8))), (0, .ref (b 0)), (1, .int (nI (rd))), (3, .int (nI (k)))]) hx hb dX7_balanced_198 hl (by decide) rfl (fun ls hl => ?_)
                rw [show (x + 1) % 8 = (st1 + 1) % 8 by omega] at hl
                refine lv_goto (tgt := 109) hx hb dX7_balanced_200 (by decide) ?_
                exact ih109 (st1 + 1) k ct gg pl sc tk mx σ (by omega) hk (bal_0 eI ex (by show cl (F 1) x (I 1) = 0; omega)) hpl hlt hct hlab (by have hne : I 1 = 0 ∨ x ≠ F 1 0 := (by rcases hLp with z | z; exact Or.inl z; exact Or.inr (fun q => by rw [← q] at z; omega)); omega) _ _ _ (G.eq (rfl)) (lv_sub hl [1, 2, 3, 0] rfl)
              · skip
                replace c124 : (0) < ((f9 x : Nat) : Int) := Int.not_le.mp (fun h => c124 ((cv_le (nI_toInt (by omega)) (by decide)).mpr h))
                have hm0 : 0 < cl (F 1) x (I 1) := by omega
                have hlx : labI false (cl (F 1) x (I 1)) (ct x) (tk x) (mx x) (fun i => sc (fo (F 1) (I 1) x + i)) (mixR (J 0) rd (F 1) (I 1) x) := hlab x (by omega) hm0
                have hcx := hct x
                have htb : tk x ≤ cl (F 1) x (I 1) := by rcases Nat.eq_zero_or_pos (ct x) with z | z; (have q := hlx.1 z; simp only [Bool.false_eq_true, if_false] at q; omega); (have q := (hlx.2 z).1; have q2 := Nat.mod_lt (ct x - 1) hm0; omega)
                refine lv_aload_n hx hb dX7_balanced_127 rfl (lv_at hl 0 rfl) ?_
                refine r_get (v := .ref (b 12)) C G hX7 0 rfl rfl 19 (by decide) (by decide +kernel) rfl dX7_balanced_128 ?_
                refine lv_iload hx hb dX7_balanced_131 (lv_at hl 3 rfl) ?_
                refine r_iald (v := nI (tk x)) C G 12 0 rfl rfl x rfl (by omega) (by omega) rfl dX7_balanced_133 ?_
                refine lv_aload_n hx hb dX7_balanced_134 rfl (lv_at hl 0 rfl) ?_
                refine r_get (v := .ref (b 11)) C G hX7 0 rfl rfl 18 (by decide) (by decide +kernel) rfl dX7_balanced_135 ?_
                refine lv_iload hx hb dX7_balanced_138 (lv_at hl 3 rfl) ?_
                refine r_iald (v := nI (f9 x)) C G 11 0 rfl rfl x rfl (by omega) (by omega) rfl dX7_balanced_140 ?_
                refine lv_icmp_ne (tgt := 151) hx hb dX7_balanced_141 (by decide) (fun c141 => ?_) (fun c141 => ?_)
                · skip
                  replace c141 : ¬ ((tk x : Nat) : Int) = ((f9 x : Nat) : Int) := fun h => c141 ((cv_eq (nI_toInt (by omega)) (nI_toInt (by omega))).mpr h)
                  obtain ⟨hq1, hq2, hq3⟩ := lab_in hlx hm0 (by omega)
                  have hoo : ∀ y, y < 8 → y ≠ x → tk y = tk y ∧ mx y = mx y ∧ ∀ i, i < cl (F 1) y (I 1) → sc (fo (F 1) (I 1) y + i) = sc (fo (F 1) (I 1) y + i) := fun y _ _ => ⟨rfl, rfl, fun _ _ => rfl⟩
                  have hml := Nat.mod_lt (ct x) hm0
                  have hval : sc (f8 x + tk x) = itm (mixR (J 0) rd (F 1) (I 1)) (fun x => cl (F 1) x (I 1)) x (ct x) := by rw [hy8, hq1]; exact hq3 _ hml
                  have hvlt : sc (f8 x + tk x) < I 1 := by rw [hval]; exact mixR_lt hm0 _ hml
                  refine lv_aload_n hx hb dX7_balanced_151 rfl (lv_at hl 0 rfl) ?_
                  refine r_get (v := .ref (b 8)) C G hX7 0 rfl rfl 15 (by decide) (by decide +kernel) rfl dX7_balanced_152 ?_
                  refine lv_iload_n hx hb dX7_balanced_155 rfl (lv_at hl 2 rfl) ?_
                  refine lv_aload_n hx hb dX7_balanced_156 rfl (lv_at hl 0 rfl) ?_
                  refine r_get (v := .ref (b 9)) C G hX7 0 rfl rfl 16 (by decide) (by decide +kernel) rfl dX7_balanced_157 ?_
                  refine lv_aload_n hx hb dX7_balanced_160 rfl (lv_at hl 0 rfl) ?_
                  refine r_get (v := .ref (b 10)) C G hX7 0 rfl rfl 17 (by decide) (by decide +kernel) rfl dX7_balanced_161 ?_
                  refine lv_iload hx hb dX7_balanced_164 (lv_at hl 3 rfl) ?_
                  refine r_iald (v := nI (f8 x)) C G 10 0 rfl rfl x rfl (by omega) (by omega) rfl dX7_balanced_166 ?_
                  refine lv_aload_n hx hb dX7_balanced_167 rfl (lv_at hl 0 rfl) ?_
                  refine r_get (v := .ref (b 12)) C G hX7 0 rfl rfl 19 (by decide) (by decide +kernel) rfl dX7_balanced_168 ?_
                  refine lv_iload hx hb dX7_balanced_171 (lv_at hl 3 rfl) ?_
                  refine r_iald (v := nI (tk x)) C G 12 0 rfl rfl x rfl (by omega) (by omega) rfl dX7_balanced_173 ?_
                  refine r_iadd hx hb dX7_balanced_174 ?_
                  refine r_iald (v := nI (sc ((f8 x) + (tk x)))) C G 9 0 rfl rfl ((f8 x) + (tk x)) rfl (by omega) (by omega) rfl dX7_balanced_175 ?_
                  refine r_iast (ws' := mW cI b I (va_up J 1 (σ)) (va_up (va_up (va_up (va_up (va_up (va_up F 8 f8) 9 f9) 7 sc) 10 tk) 11 mx) 6 (va_up pl k (sc ((f8 x) + (tk x))))) G0) C G 8 0 rfl rfl k rfl (by omega) (by omega) (nI_upd _ _ _) dX7_balanced_176 rfl (fun H locs G => ?_)
                  refine lv_aload_n hx hb dX7_balanced_177 rfl (lv_at hl 0 rfl) ?_
                  refine r_get (v := .ref (b 12)) C G hX7 0 rfl rfl 19 (by decide) (by decide +kernel) rfl dX7_balanced_178 ?_
                  refine lv_iload hx hb dX7_balanced_181 (lv_at hl 3 rfl) ?_
                  refine lv_dup2_11 hx hb dX7_balanced_183 rfl rfl ?_
                  refine r_iald (v := nI (tk x)) C G 12 0 rfl rfl x rfl (by omega) (by omega) rfl dX7_balanced_184 ?_
                  refine lv_iconst (v := (nI (1))) hx hb dX7_balanced_185 (by decide) ?_
                  refine r_iadd hx hb dX7_balanced_186 ?_
                  refine r_iast (ws' := mW cI b I (va_up J 1 (σ)) (va_up (va_up (va_up (va_up (va_up (va_up F 8 f8) 9 f9) 7 sc) 11 mx) 6 (va_up pl k (sc ((f8 x) + (tk x))))) 10 (va_up tk x ((tk x) + 1))) G0) C G 12 0 rfl rfl x rfl (by omega) (by omega) (nI_upd _ _ _) dX7_balanced_187 rfl (fun H locs G => ?_)
                  refine lv_iinc (v := nI (k + 1)) (lv' := [(3, .int (nI (k + 1))), (0, .ref (b 0)), (1, .int (nI (rd))), (4, .int (nI (x)))]) hx hb dX7_balanced_188 hl (k := 2) rfl (inc_n _ 1) (by decide) rfl (fun ls hl => ?_)
                  refine lv_iload hx hb dX7_balanced_191 (lv_at hl 3 rfl) ?_
                  refine lv_iconst (v := (nI (1))) hx hb dX7_balanced_193 (by decide) ?_
                  refine r_iadd hx hb dX7_balanced_194 ?_
                  refine lv_bipush (v := (nI (8))) hx hb dX7_balanced_195 (by decide) ?_
                  refine r_irem hx hb (by omega) (by omega) (by omega) dX7_balanced_197 ?_
                  refine lv_istore (lv' := [(4, .int (nI ((x + 1) % 8))), (3, .int (nI (k + 1))), (0, .ref (b 0)), (1, .int (nI (rd)))]) hx hb dX7_balanced_198 hl (by decide) rfl (fun ls hl => ?_)
                  rw [show (x + 1) % 8 = (st1 + 1) % 8 by omega] at hl
                  refine lv_goto (tgt := 109) hx hb dX7_balanced_200 (by decide) ?_
                  exact ih109 (st1 + 1) (k + 1) _ _ (va_up pl k (sc ((f8 x) + (tk x)))) sc (va_up tk x ((tk x) + 1)) mx (σ) (by omega) (by omega) (bal_1 eI ex (by show ¬ cl (F 1) x (I 1) = 0; omega)) (fun i hi => by by_cases q : i = k; (rw [q, up_same, up_same]; exact hval); (rw [up_ne _ _ q, up_ne _ _ q]; exact hpl i (by omega))) (fun i hi => by by_cases q : i = k; (rw [q, up_same]; exact hvlt); (rw [up_ne _ _ q]; exact hlt i (by omega))) (fun y => by by_cases q : y = x; (rw [q, up_same]; omega); (rw [up_ne _ _ q]; have := hct y; omega)) (labs_next hlab (by omega) hm0 hoo hq1 hq2 hq3) (by omega) _ _ _ (G.eq (rfl)) (lv_sub hl [2, 3, 1, 0] rfl)
                · skip
                  replace c141 : ((tk x : Nat) : Int) = ((f9 x : Nat) : Int) := (cv_eq (nI_toInt (by omega)) (nI_toInt (by omega))).mp c141
                  obtain ⟨hz1, hz2⟩ := lab_end hlx hm0 (by omega)
                  have hdv := Nat.div_le_self (ct x) (cl (F 1) x (I 1))
                  refine lv_aload_n hx hb dX7_balanced_144 rfl (lv_at hl 0 rfl) ?_
                  refine lv_iload hx hb dX7_balanced_145 (lv_at hl 3 rfl) ?_
                  refine lv_iload_n hx hb dX7_balanced_147 rfl (lv_at hl 1 rfl) ?_
                  refine r_av G hA (r_rV (na := 2) (As := [.int (nI (x)), .int (nI (rd))]) (rest := []) C G (c_X7_again l D cI cO cL b I (va_up J 1 (σ)) (va_up (va_up (va_up (va_up (va_up (va_up F 8 f8) 9 f9) 6 pl) 7 sc) 10 tk) 11 mx) G0 x rd h1 hLb (by omega) (by omega) hy8 hy9 hm0 (by show mx x < 2 ^ 30; omega)) gX7_balanced_X7_again rfl (by decide +kernel) ⟨Nat.le_of_ble_eq_true rfl, Nat.le_of_ble_eq_true rfl⟩ 0 rfl rfl rfl hl.1 rfl (Nat.le_of_ble_eq_true rfl) dX7_balanced_148 ⟨by first | (simp only []; omega) | decide, by first | (simp only []; omega) | decide⟩) (fun w148 H locs hp148 G => ?_)
                  obtain ⟨sc148, σ148, tk148, mx148, hs148, ho148, ht148, hto148, hmx148, hmo148, rfl⟩ := hp148
                  replace hs148 : ∀ i, i < cl (F 1) x (I 1) → sc148 (fo (F 1) (I 1) x + i) = mixR (J 0) rd (F 1) (I 1) x (mx x) i := hs148
                  replace ho148 : ∀ y, (y < fo (F 1) (I 1) x ∨ fo (F 1) (I 1) x + cl (F 1) x (I 1) ≤ y) → sc148 y = sc y := ho148
                  replace hto148 : ∀ y, y ≠ x → tk148 y = tk y := hto148
                  replace hmx148 : mx148 x = mx x + 1 := hmx148
                  replace hmo148 : ∀ y, y ≠ x → mx148 y = mx y := hmo148
                  have hq1 : tk148 x = ct x % cl (F 1) x (I 1) := by omega
                  have hq2 : mx148 x = ct x / cl (F 1) x (I 1) + 1 := by omega
                  have hq3 : ∀ i, i < cl (F 1) x (I 1) → sc148 (fo (F 1) (I 1) x + i) = mixR (J 0) rd (F 1) (I 1) x (ct x / cl (F 1) x (I 1)) i := by rw [← hz1]; exact hs148
                  have hoo : ∀ y, y < 8 → y ≠ x → tk148 y = tk y ∧ mx148 y = mx y ∧ ∀ i, i < cl (F 1) y (I 1) → sc148 (fo (F 1) (I 1) y + i) = sc (fo (F 1) (I 1) y + i) := fun y _ hy => ⟨hto148 y hy, hmo148 y hy, fun i hi => ho148 _ (fo_apart hy hi)⟩
                  have hml := Nat.mod_lt (ct x) hm0
                  have hval : sc148 (f8 x + tk148 x) = itm (mixR (J 0) rd (F 1) (I 1)) (fun x => cl (F 1) x (I 1)) x (ct x) := by rw [hy8, hq1]; exact hq3 _ hml
                  have hvlt : sc148 (f8 x + tk148 x) < I 1 := by rw [hval]; exact mixR_lt hm0 _ hml
                  refine lv_aload_n hx hb dX7_balanced_151 rfl (lv_at hl 0 rfl) ?_
                  refine r_get (v := .ref (b 8)) C G hX7 0 rfl rfl 15 (by decide) (by decide +kernel) rfl dX7_balanced_152 ?_
                  refine lv_iload_n hx hb dX7_balanced_155 rfl (lv_at hl 2 rfl) ?_
                  refine lv_aload_n hx hb dX7_balanced_156 rfl (lv_at hl 0 rfl) ?_
                  refine r_get (v := .ref (b 9)) C G hX7 0 rfl rfl 16 (by decide) (by decide +kernel) rfl dX7_balanced_157 ?_
                  refine lv_aload_n hx hb dX7_balanced_160 rfl (lv_at hl 0 rfl) ?_
                  refine r_get (v := .ref (b 10)) C G hX7 0 rfl rfl 17 (by decide) (by decide +kernel) rfl dX7_balanced_161 ?_
                  refine lv_iload hx hb dX7_balanced_164 (lv_at hl 3 rfl) ?_
                  refine r_iald (v := nI (f8 x)) C G 10 0 rfl rfl x rfl (by omega) (by omega) rfl dX7_balanced_166 ?_
                  refine lv_aload_n hx hb dX7_balanced_167 rfl (lv_at hl 0 rfl) ?_
                  refine r_get (v := .ref (b 12)) C G hX7 0 rfl rfl 19 (by decide) (by decide +kernel) rfl dX7_balanced_168 ?_
                  refine lv_iload hx hb dX7_balanced_171 (lv_at hl 3 rfl) ?_
                  refine r_iald (v := nI (tk148 x)) C G 12 0 rfl rfl x rfl (by omega) (by omega) rfl dX7_balanced_173 ?_
                  refine r_iadd hx hb dX7_balanced_174 ?_
                  refine r_iald (v := nI (sc148 ((f8 x) + (tk148 x)))) C G 9 0 rfl rfl ((f8 x) + (tk148 x)) rfl (by omega) (by omega) rfl dX7_balanced_175 ?_
                  refine r_iast (ws' := mW cI b I (va_up J 1 (σ148)) (va_up (va_up (va_up (va_up (va_up (va_up F 8 f8) 9 f9) 7 sc148) 10 tk148) 11 mx148) 6 (va_up pl k (sc148 ((f8 x) + (tk148 x))))) G0) C G 8 0 rfl rfl k rfl (by omega) (by omega) (nI_upd _ _ _) dX7_balanced_176 rfl (fun H locs G => ?_)
                  refine lv_aload_n hx hb dX7_balanced_177 rfl (lv_at hl 0 rfl) ?_
                  refine r_get (v := .ref (b 12)) C G hX7 0 rfl rfl 19 (by decide) (by decide +kernel) rfl dX7_balanced_178 ?_
                  refine lv_iload hx hb dX7_balanced_181 (lv_at hl 3 rfl) ?_
                  refine lv_dup2_11 hx hb dX7_balanced_183 rfl rfl ?_
                  refine r_iald (v := nI (tk148 x)) C G 12 0 rfl rfl x rfl (by omega) (by omega) rfl dX7_balanced_184 ?_
                  refine lv_iconst (v := (nI (1))) hx hb dX7_balanced_185 (by decide) ?_
                  refine r_iadd hx hb dX7_balanced_186 ?_
                  refine r_iast (ws' := mW cI b I (va_up J 1 (σ148)) (va_up (va_up (va_up (va_up (va_up (va_up F 8 f8) 9 f9) 7 sc148) 11 mx148) 6 (va_up pl k (sc148 ((f8 x) + (tk148 x))))) 10 (va_up tk148 x ((tk148 x) + 1))) G0) C G 12 0 rfl rfl x rfl (by omega) (by omega) (nI_upd _ _ _) dX7_balanced_187 rfl (fun H locs G => ?_)
                  refine lv_iinc (v := nI (k + 1)) (lv' := [(3, .int (nI (k + 1))), (0, .ref (b 0)), (1, .int (nI (rd))), (4, .int (nI (x)))]) hx hb dX7_balanced_188 hl (k := 2) rfl (inc_n _ 1) (by decide) rfl (fun ls hl => ?_)
                  refine lv_iload hx hb dX7_balanced_191 (lv_at hl 3 rfl) ?_
                  refine lv_iconst (v := (nI (1))) hx hb dX7_balanced_193 (by decide) ?_
                  refine r_iadd hx hb dX7_balanced_194 ?_
                  refine lv_bipush (v := (nI (8))) hx hb dX7_balanced_195 (by decide) ?_
                  refine r_irem hx hb (by omega) (by omega) (by omega) dX7_balanced_197 ?_
                  refine lv_istore (lv' := [(4, .int (nI ((x + 1) % 8))), (3, .int (nI (k + 1))), (0, .ref (b 0)), (1, .int (nI (rd)))]) hx hb dX7_balanced_198 hl (by decide) rfl (fun ls hl => ?_)
                  rw [show (x + 1) % 8 = (st1 + 1) % 8 by omega] at hl
                  refine lv_goto (tgt := 109) hx hb dX7_balanced_200 (by decide) ?_
                  exact ih109 (st1 + 1) (k + 1) _ _ (va_up pl k (sc148 ((f8 x) + (tk148 x)))) sc148 (va_up tk148 x ((tk148 x) + 1)) mx148 (σ148) (by omega) (by omega) (bal_1 eI ex (by show ¬ cl (F 1) x (I 1) = 0; omega)) (fun i hi => by by_cases q : i = k; (rw [q, up_same, up_same]; exact hval); (rw [up_ne _ _ q, up_ne _ _ q]; exact hpl i (by omega))) (fun i hi => by by_cases q : i = k; (rw [q, up_same]; exact hvlt); (rw [up_ne _ _ q]; exact hlt i (by omega))) (fun y => by by_cases q : y = x; (rw [q, up_same]; omega); (rw [up_ne _ _ q]; have := hct y; omega)) (labs_next hlab (by omega) hm0 hoo hq1 hq2 hq3) (by omega) _ _ _ (G.eq (rfl)) (lv_sub hl [2, 3, 1, 0] rfl)
        exact lp109 501 0 0 (fun _ => 0) (fun _ => 0) (F 6) f7 f10 f11 σ (by omega) (by omega) rfl (fun i hi => by omega) (fun i hi => by omega) (fun y => Nat.le_refl _) (fun y hy hm => ⟨fun _ => by obtain ⟨-, -, q7⟩ := hall y hy; exact q7 hm, fun q => absurd q (Nat.lt_irrefl 0)⟩) (by omega) _ _ _ (G.eq (rfl)) (lv_sub hl [2, 3, 1, 0] rfl)
      · skip
        replace c7 : ((x : Nat) : Int) < ((8 : Nat) : Int) := Int.not_le.mp (fun h => c7 ((cv_le (nI_toInt (by omega)) (nI_toInt (by omega))).mpr h))
        refine lv_aload_n hx hb dX7_balanced_10 rfl (lv_at hl 0 rfl) ?_
        refine r_get (v := .ref (b 10)) C G hX7 0 rfl rfl 17 (by decide) (by decide +kernel) rfl dX7_balanced_11 ?_
        refine lv_iload_n hx hb dX7_balanced_14 rfl (lv_at hl 3 rfl) ?_
        refine lv_iload_n hx hb dX7_balanced_15 rfl (lv_at hl 2 rfl) ?_
        refine r_iast (ws' := mW cI b I (va_up J 1 (σ)) (va_up (va_up (va_up (va_up (va_up F 7 f7) 9 f9) 10 f10) 11 f11) 8 (va_up f8 x (fo (F 1) (I 1) x))) G0) C G 10 0 rfl rfl x rfl (by omega) (by omega) (nI_upd _ _ _) dX7_balanced_16 rfl (fun H locs G => ?_)
        refine lv_aload_n hx hb dX7_balanced_17 rfl (lv_at hl 0 rfl) ?_
        refine r_get (v := .ref (b 11)) C G hX7 0 rfl rfl 18 (by decide) (by decide +kernel) rfl dX7_balanced_18 ?_
        refine lv_iload_n hx hb dX7_balanced_21 rfl (lv_at hl 3 rfl) ?_
        refine lv_iconst (v := (nI (0))) hx hb dX7_balanced_22 (by decide) ?_
        refine r_iast (ws' := mW cI b I (va_up J 1 (σ)) (va_up (va_up (va_up (va_up (va_up F 7 f7) 10 f10) 11 f11) 8 (va_up f8 x (fo (F 1) (I 1) x))) 9 (va_up f9 x 0)) G0) C G 11 0 rfl rfl x rfl (by omega) (by omega) (nI_upd _ _ _) dX7_balanced_23 rfl (fun H locs G => ?_)
        refine lv_aload_n hx hb dX7_balanced_24 rfl (lv_at hl 0 rfl) ?_
        refine r_get (v := .ref (b 13)) C G hX7 0 rfl rfl 20 (by decide) (by decide +kernel) rfl dX7_balanced_25 ?_
        refine lv_iload_n hx hb dX7_balanced_28 rfl (lv_at hl 3 rfl) ?_
        refine lv_iconst (v := (nI (0))) hx hb dX7_balanced_29 (by decide) ?_
        refine r_iast (ws' := mW cI b I (va_up J 1 (σ)) (va_up (va_up (va_up (va_up (va_up F 7 f7) 10 f10) 8 (va_up f8 x (fo (F 1) (I 1) x))) 9 (va_up f9 x 0)) 11 (va_up f11 x 0)) G0) C G 13 0 rfl rfl x rfl (by omega) (by omega) (nI_upd _ _ _) dX7_balanced_30 rfl (fun H locs G => ?_)
        refine lv_iconst (v := (nI (0))) hx hb dX7_balanced_31 (by decide) ?_
        refine lv_istore (lv' := [(4, .int (nI (0))), (0, .ref (b 0)), (1, .int (nI (rd))), (2, .int (nI (fo (F 1) (I 1) x))), (3, .int (nI (x)))]) hx hb dX7_balanced_32 hl (by decide) rfl (fun ls hl => ?_)
        have lp34 : ∀ (fuel34 : Nat) (k : Nat) (g9 : Nat → Nat) (hm2 : I 1 - k < fuel34) (hk : k ≤ I 1) (hg9 : g9 x = cl (F 1) x k) (hgo : ∀ y, y ≠ x → g9 y = f9 y) (H : Heap) (locs : List Loc) (ls : Array Slot), Wd A s.heap D (mW cI b I (va_up J 1 (σ)) (va_up (va_up (va_up (va_up (va_up F 7 f7) 10 f10) 8 (va_up f8 x (fo (F 1) (I 1) x))) 9 g9) 11 (va_up f11 x 0)) G0) H locs → lv_has ls 5 [(0, .ref (b 0)), (1, .int (nI (rd))), (2, .int (nI (fo (F 1) (I 1) x))), (3, .int (nI (x))), (4, .int (nI (k)))] → W p l e ({ frames := 4, cells := 0, slots := 0, locals := 95 } : Room) s m ([.ref (b 0), .int (nI (rd))] : List Value).toArray below meth c H locs 0 0 Q (F0 m 34 ls []) := by
          intro fuel34
          induction fuel34 with
          | zero => intro k g9 hm2 hk hg9 hgo; exact absurd hm2 (by omega)
          | succ fuel34 ih34 =>
            intro k g9 hm2 hk hg9 hgo H locs ls G hl
            refine lv_iload hx hb dX7_balanced_34 (lv_at hl 4 rfl) ?_
            refine lv_aload_n hx hb dX7_balanced_36 rfl (lv_at hl 0 rfl) ?_
            refine r_get (v := .int (nI (I 1))) C G hX7 0 rfl rfl 3 (by decide) (by decide +kernel) rfl dX7_balanced_37 ?_
            refine lv_icmp_ge (tgt := 74) hx hb dX7_balanced_40 (by decide) (fun c40 => ?_) (fun c40 => ?_)
            · skip
              replace c40 : ((I 1 : Nat) : Int) ≤ ((k : Nat) : Int) := (cv_le (nI_toInt (by omega)) (nI_toInt (by omega))).mp c40
              obtain rfl : k = I 1 := by omega
              have hcl := cl_le (lb := F 1) (x := x) (I 1)
              have hfc := fo_cl (lb := F 1) (n := I 1) (x := x)
              refine lv_iload_n hx hb dX7_balanced_74 rfl (lv_at hl 2 rfl) ?_
              refine lv_aload_n hx hb dX7_balanced_75 rfl (lv_at hl 0 rfl) ?_
              refine r_get (v := .ref (b 11)) C G hX7 0 rfl rfl 18 (by decide) (by decide +kernel) rfl dX7_balanced_76 ?_
              refine lv_iload_n hx hb dX7_balanced_79 rfl (lv_at hl 3 rfl) ?_
              refine r_iald (v := nI (g9 x)) C G 11 0 rfl rfl x rfl (by omega) (by omega) rfl dX7_balanced_80 ?_
              refine r_iadd hx hb dX7_balanced_81 ?_
              refine r_top (y := nI (fo (F 1) (I 1) (x + 1))) (congrArg nI (by rw [hg9]; rfl)) ?_
              refine lv_istore_n (lv' := [(2, .int (nI (fo (F 1) (I 1) (x + 1)))), (0, .ref (b 0)), (1, .int (nI (rd))), (3, .int (nI (x))), (4, .int (nI (I 1)))]) hx hb dX7_balanced_82 rfl hl (by decide) rfl (fun ls hl => ?_)
              refine lv_aload_n hx hb dX7_balanced_83 rfl (lv_at hl 1 rfl) ?_
              refine r_get (v := .ref (b 11)) C G hX7 0 rfl rfl 18 (by decide) (by decide +kernel) rfl dX7_balanced_84 ?_
              refine lv_iload_n hx hb dX7_balanced_87 rfl (lv_at hl 3 rfl) ?_
              refine r_iald (v := nI (g9 x)) C G 11 0 rfl rfl x rfl (by omega) (by omega) rfl dX7_balanced_88 ?_
              refine lv_if_le (tgt := 98) hx hb dX7_balanced_89 (by decide) (fun c89 => ?_) (fun c89 => ?_)
              · skip
                replace c89 : ((g9 x : Nat) : Int) ≤ (0) := (cv_le (nI_toInt (by omega)) (by decide)).mp c89
                refine lv_iinc (v := nI (x + 1)) (lv' := [(3, .int (nI (x + 1))), (2, .int (nI (fo (F 1) (I 1) (x + 1)))), (0, .ref (b 0)), (1, .int (nI (rd))), (4, .int (nI (I 1)))]) hx hb dX7_balanced_98 hl (k := 3) rfl (inc_n _ 1) (by decide) rfl (fun ls hl => ?_)
                refine lv_goto (tgt := 4) hx hb dX7_balanced_101 (by decide) ?_
                exact ih4 (x + 1) f7 (va_up f8 x (fo (F 1) (I 1) x)) g9 f10 (va_up f11 x 0) σ (by omega) (by omega) (fun y hy => by rcases Nat.lt_or_ge y x with z | z; (obtain ⟨q1, q2, q3⟩ := hall y z; exact ⟨by rw [up_ne _ _ (by omega)]; exact q1, by rw [hgo y (by omega)]; exact q2, fun w9 => by rw [up_ne _ _ (by omega)]; exact q3 w9⟩); (obtain rfl : y = x := (by omega); exact ⟨up_same _ _ _, hg9, fun w9 => by omega⟩)) _ _ _ (G.eq (rfl)) (lv_sub hl [2, 3, 1, 0] rfl)
              · skip
                replace c89 : (0) < ((g9 x : Nat) : Int) := Int.not_le.mp (fun h => c89 ((cv_le (nI_toInt (by omega)) (by decide)).mpr h))
                have hm0 : 0 < cl (F 1) x (I 1) := by omega
                refine lv_aload_n hx hb dX7_balanced_92 rfl (lv_at hl 1 rfl) ?_
                refine lv_iload_n hx hb dX7_balanced_93 rfl (lv_at hl 3 rfl) ?_
                refine lv_iload_n hx hb dX7_balanced_94 rfl (lv_at hl 2 rfl) ?_
                refine r_av G hA (r_rV (na := 2) (As := [.int (nI (x)), .int (nI (rd))]) (rest := []) C G (c_X7_again l D cI cO cL b I (va_up J 1 (σ)) (va_up (va_up (va_up (va_up (va_up F 7 f7) 10 f10) 8 (va_up f8 x (fo (F 1) (I 1) x))) 9 g9) 11 (va_up f11 x 0)) G0 x rd h1 hLb (by omega) (by omega) (up_same _ _ _) hg9 hm0 (by show va_up f11 x 0 x < 2 ^ 30; rw [up_same]; omega)) gX7_balanced_X7_again rfl (by decide +kernel) ⟨Nat.le_of_ble_eq_true rfl, Nat.le_of_ble_eq_true rfl⟩ 0 rfl rfl rfl hl.1 rfl (Nat.le_of_ble_eq_true rfl) dX7_balanced_95 ⟨by first | (simp only []; omega) | decide, by first | (simp only []; omega) | decide⟩) (fun w95 H locs hp95 G => ?_)
                obtain ⟨sc95, σ95, tk95, mx95, hs95, ho95, ht95, hto95, hmx95, hmo95, rfl⟩ := hp95
                replace hs95 : ∀ i, i < cl (F 1) x (I 1) → sc95 (fo (F 1) (I 1) x + i) = mixR (J 0) rd (F 1) (I 1) x ((va_up f11 x 0) x) i := hs95
                replace ho95 : ∀ y, (y < fo (F 1) (I 1) x ∨ fo (F 1) (I 1) x + cl (F 1) x (I 1) ≤ y) → sc95 y = f7 y := ho95
                replace hto95 : ∀ y, y ≠ x → tk95 y = f10 y := hto95
                replace hmx95 : mx95 x = (va_up f11 x 0) x + 1 := hmx95
                replace hmo95 : ∀ y, y ≠ x → mx95 y = (va_up f11 x 0) y := hmo95
                refine lv_iinc (v := nI (x + 1)) (lv' := [(3, .int (nI (x + 1))), (2, .int (nI (fo (F 1) (I 1) (x + 1)))), (0, .ref (b 0)), (1, .int (nI (rd))), (4, .int (nI (I 1)))]) hx hb dX7_balanced_98 hl (k := 3) rfl (inc_n _ 1) (by decide) rfl (fun ls hl => ?_)
                refine lv_goto (tgt := 4) hx hb dX7_balanced_101 (by decide) ?_
                exact ih4 (x + 1) sc95 (va_up f8 x (fo (F 1) (I 1) x)) g9 tk95 mx95 σ95 (by omega) (by omega) (fun y hy => by rcases Nat.lt_or_ge y x with z | z; (obtain ⟨q1, q2, q3⟩ := hall y z; exact ⟨by rw [up_ne _ _ (by omega)]; exact q1, by rw [hgo y (by omega)]; exact q2, fun w9 => by obtain ⟨r1, r2, r3⟩ := q3 w9; exact ⟨by rw [hto95 y (by omega)]; exact r1, by rw [hmo95 y (by omega), up_ne _ _ (by omega)]; exact r2, fun i hi => by rw [ho95 _ (fo_apart (by omega) hi)]; exact r3 i hi⟩⟩); (obtain rfl : y = x := (by omega); exact ⟨up_same _ _ _, hg9, fun _ => ⟨ht95, by rw [hmx95, up_same], by rw [up_same] at hs95; exact hs95⟩⟩)) _ _ _ (G.eq (rfl)) (lv_sub hl [2, 3, 1, 0] rfl)
            · skip
              replace c40 : ((k : Nat) : Int) < ((I 1 : Nat) : Int) := Int.not_le.mp (fun h => c40 ((cv_le (nI_toInt (by omega)) (nI_toInt (by omega))).mpr h))
              have hLk := hLb k (by omega)
              have hck := cl_le (lb := F 1) (x := x) k
              refine lv_aload_n hx hb dX7_balanced_43 rfl (lv_at hl 0 rfl) ?_
              refine r_get (v := .ref (b 11)) C G hX7 0 rfl rfl 18 (by decide) (by decide +kernel) rfl dX7_balanced_44 ?_
              refine lv_iload_n hx hb dX7_balanced_47 rfl (lv_at hl 3 rfl) ?_
              refine lv_dup2_11 hx hb dX7_balanced_48 rfl rfl ?_
              refine r_iald (v := nI (g9 x)) C G 11 0 rfl rfl x rfl (by omega) (by omega) rfl dX7_balanced_49 ?_
              refine lv_aload_n hx hb dX7_balanced_50 rfl (lv_at hl 0 rfl) ?_
              refine r_get (v := .ref (b 2)) C G hX7 0 rfl rfl 5 (by decide) (by decide +kernel) rfl dX7_balanced_51 ?_
              refine lv_iload hx hb dX7_balanced_54 (lv_at hl 4 rfl) ?_
              refine r_iald (v := nI ((F 1) k)) C G 2 0 rfl rfl k rfl (by omega) (by omega) rfl dX7_balanced_56 ?_
              refine lv_iload_n hx hb dX7_balanced_57 rfl (lv_at hl 3 rfl) ?_
              refine lv_icmp_ne (tgt := 65) hx hb dX7_balanced_58 (by decide) (fun c58 => ?_) (fun c58 => ?_)
              · skip
                replace c58 : ¬ (((F 1) k : Nat) : Int) = ((x : Nat) : Int) := fun h => c58 ((cv_eq (nI_toInt (by omega)) (nI_toInt (by omega))).mpr h)
                refine lv_iconst (v := (nI (0))) hx hb dX7_balanced_65 (by decide) ?_
                refine r_iadd hx hb dX7_balanced_66 ?_
                refine r_iast (ws' := mW cI b I (va_up J 1 (σ)) (va_up (va_up (va_up (va_up (va_up F 7 f7) 10 f10) 8 (va_up f8 x (fo (F 1) (I 1) x))) 11 (va_up f11 x 0)) 9 (va_up g9 x ((g9 x) + 0))) G0) C G 11 0 rfl rfl x rfl (by omega) (by omega) (nI_upd _ _ _) dX7_balanced_67 rfl (fun H locs G => ?_)
                refine lv_iinc (v := nI (k + 1)) (lv' := [(4, .int (nI (k + 1))), (0, .ref (b 0)), (1, .int (nI (rd))), (2, .int (nI (fo (F 1) (I 1) x))), (3, .int (nI (x)))]) hx hb dX7_balanced_68 hl (k := 4) rfl (inc_n _ 1) (by decide) rfl (fun ls hl => ?_)
                refine lv_goto (tgt := 34) hx hb dX7_balanced_71 (by decide) ?_
                exact ih34 (k + 1) (va_up g9 x ((g9 x) + 0)) (by omega) (by omega) (by rw [up_same, hg9, cl_n (by omega)]; rfl) (fun y hy => by rw [up_ne _ _ (by omega)]; exact hgo y hy) _ _ _ (G.eq (rfl)) (lv_sub hl [1, 2, 3, 4, 0] rfl)
              · skip
                replace c58 : (((F 1) k : Nat) : Int) = ((x : Nat) : Int) := (cv_eq (nI_toInt (by omega)) (nI_toInt (by omega))).mp c58
                refine lv_iconst (v := (nI (1))) hx hb dX7_balanced_61 (by decide) ?_
                refine lv_goto (tgt := 66) hx hb dX7_balanced_62 (by decide) ?_
                refine r_iadd hx hb dX7_balanced_66 ?_
                refine r_iast (ws' := mW cI b I (va_up J 1 (σ)) (va_up (va_up (va_up (va_up (va_up F 7 f7) 10 f10) 8 (va_up f8 x (fo (F 1) (I 1) x))) 11 (va_up f11 x 0)) 9 (va_up g9 x ((g9 x) + 1))) G0) C G 11 0 rfl rfl x rfl (by omega) (by omega) (nI_upd _ _ _) dX7_balanced_67 rfl (fun H locs G => ?_)
                refine lv_iinc (v := nI (k + 1)) (lv' := [(4, .int (nI (k + 1))), (0, .ref (b 0)), (1, .int (nI (rd))), (2, .int (nI (fo (F 1) (I 1) x))), (3, .int (nI (x)))]) hx hb dX7_balanced_68 hl (k := 4) rfl (inc_n _ 1) (by decide) rfl (fun ls hl => ?_)
                refine lv_goto (tgt := 34) hx hb dX7_balanced_71 (by decide) ?_
                exact ih34 (k + 1) (va_up g9 x ((g9 x) + 1)) (by omega) (by omega) (by rw [up_same, hg9, cl_y (by omega)]) (fun y hy => by rw [up_ne _ _ (by omega)]; exact hgo y hy) _ _ _ (G.eq (rfl)) (lv_sub hl [1, 2, 3, 4, 0] rfl)
        exact lp34 (I 1 + 1) 0 (va_up f9 x 0) (by omega) (by omega) (up_same _ _ _) (fun y hy => up_ne _ _ hy) _ _ _ (G.eq (rfl)) (lv_sub hl [1, 2, 3, 4, 0] rfl)
  exact lp4 9 0 (F 7) (F 8) (F 9) (F 10) (F 11) (J 1) (by omega) (by omega) (fun y hy => by omega) _ _ _ (G.eq (rfl)) (lv_sub hl [2, 3, 1, 0] rfl)
