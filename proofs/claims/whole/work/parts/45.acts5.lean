theorem ActIs.cast {ac n H W L : Nat} {sg : Int64} {s : Nat → Int32} {kd Ho Wo Lo kd' Ho' Wo' Lo' : Nat} {o : Nat → Int32} (h : ActIs ac n H W L sg s kd Ho Wo Lo o) (e1 : kd' = kd) (e2 : Ho' = Ho) (e3 : Wo' = Wo) (e4 : Lo' = Lo) : ActIs ac n H W L sg s kd' Ho' Wo' Lo' o := by
  subst e1; subst e2; subst e3; subst e4; exact h
theorem ActIs.c1 {ac n H W L : Nat} {sg : Int64} {s o0 o : Nat → Int32} (h : ac = 1) (h1 : n ≤ H) (h2 : n ≤ W) (hL : L = H * W) (hs : ∀ k, k < L → o0 k = s k) (ho : ∀ y x, y < n → x < n → o (y * n + x) = o0 ((dr (nxg sg) (H - n + 1) + y) * W + dr (nxg (nxg sg)) (W - n + 1) + x)) : ActIs ac n H W L sg s 1 n n (n * n) o := by
  refine ActIs.p1 h (fun y x hy hx => ?_)
  rw [ho y x hy hx]
  refine hs _ ?_
  rw [hL, Nat.add_assoc]
  have d1 := dr_lt (nxg sg) (n := H - n + 1) (by omega)
  have d2 := dr_lt (nxg (nxg sg)) (n := W - n + 1) (by omega)
  exact yx_lt (by omega) (by omega)
theorem tH_s {t H W : Nat} : tH (t + 1) H W = tW t H W := by unfold tH tW; split <;> split <;> first | rfl | omega
theorem tW_s {t H W : Nat} : tW (t + 1) H W = tH t H W := by unfold tH tW; split <;> split <;> first | rfl | omega
theorem tHW {t H W : Nat} : tH t H W * tW t H W = H * W := by unfold tH tW; split; rfl; exact Nat.mul_comm _ _
theorem flv {ac kd H W L : Nat} {n : Int} : flN ac kd H W L n = 0 ∨ flN ac kd H W L n = 1 ∨ flN ac kd H W L n = 2 ∨ flN ac kd H W L n = 3 ∨ flN ac kd H W L n = 5 ∨ flN ac kd H W L n = 6 := by
  unfold flN; split <;> (try split) <;> (try split) <;> (try split) <;> (try split) <;> omega
set_option maxHeartbeats 4000000 in
set_option maxRecDepth 100000 in
theorem c_X7_act (l : Launch) (D : va_G) (cI cO cL : ClassId) (b : Nat → Nat) (I : Nat → Nat) (J : Nat → Int64) (F : Nat → Nat → Nat) (G0 : Nat → Nat → Int32) (x y z v : Int32) (h1 : I 1 ≤ 60) (hKd : ∀ j, j < I 1 → F 0 j ≤ 2) (hL : ∀ j, j < I 1 → F 3 j ≤ 1600) (hHi : ∀ j, j < I 1 → F 4 j ≤ 40) (hWi : ∀ j, j < I 1 → F 5 j ≤ 40) (hPc : ∀ j, j < I 1 → F 0 j = 1 → 1 ≤ F 4 j ∧ 1 ≤ F 5 j ∧ F 3 j = F 4 j * F 5 j) (hWd : ∀ j, j < I 1 → F 0 j = 0 → F 4 j = 0 ∧ F 5 j = 0 ∧ F 3 j ≤ 40) : Ki l yX7_act wsX7_act { frames := 3, cells := 0, slots := 0, locals := 70 } D (TY cI cO cL) [.ref (b 0), .int (x), .int (y), .int (z), .int (v)] (mW cI b I J F G0) (fun r w => (¬ (0 ≤ y.toInt ∧ y.toInt < I 1 ∧ 0 ≤ z.toInt ∧ z.toInt ≤ 1000 ∧ ((x.toInt = 0) ∨ (x.toInt = 1 ∧ v.toInt ≤ 40) ∨ (x.toInt = 2 ∧ 0 ≤ v.toInt ∧ v.toInt ≤ 256) ∨ (x.toInt = 3 ∧ 0 ≤ v.toInt ∧ v.toInt ≤ 100) ∨ (x.toInt = 4 ∧ 0 ≤ v.toInt ∧ v.toInt ≤ 50))) ∧ r = -1 ∧ w = mW cI b (va_up I 0 0) J F G0) ∨ ((0 ≤ y.toInt ∧ y.toInt < I 1 ∧ 0 ≤ z.toInt ∧ z.toInt ≤ 1000 ∧ ((x.toInt = 0) ∨ (x.toInt = 1 ∧ v.toInt ≤ 40) ∨ (x.toInt = 2 ∧ 0 ≤ v.toInt ∧ v.toInt ≤ 256) ∨ (x.toInt = 3 ∧ 0 ≤ v.toInt ∧ v.toInt ≤ 100) ∨ (x.toInt = 4 ∧ 0 ≤ v.toInt ∧ v.toInt ≤ 50))) ∧ flN (tn x) (F 0 (tn y)) (F 4 (tn y)) (F 5 (tn y)) (F 3 (tn y)) v.toInt = 1 ∧ r = -11 ∧ w = mW cI b (va_up I 0 0) J F G0) ∨ ((0 ≤ y.toInt ∧ y.toInt < I 1 ∧ 0 ≤ z.toInt ∧ z.toInt ≤ 1000 ∧ ((x.toInt = 0) ∨ (x.toInt = 1 ∧ v.toInt ≤ 40) ∨ (x.toInt = 2 ∧ 0 ≤ v.toInt ∧ v.toInt ≤ 256) ∨ (x.toInt = 3 ∧ 0 ≤ v.toInt ∧ v.toInt ≤ 100) ∨ (x.toInt = 4 ∧ 0 ≤ v.toInt ∧ v.toInt ≤ 50))) ∧ flN (tn x) (F 0 (tn y)) (F 4 (tn y)) (F 5 (tn y)) (F 3 (tn y)) v.toInt = 2 ∧ r = -12 ∧ w = mW cI b (va_up I 0 0) J F G0) ∨ ((0 ≤ y.toInt ∧ y.toInt < I 1 ∧ 0 ≤ z.toInt ∧ z.toInt ≤ 1000 ∧ ((x.toInt = 0) ∨ (x.toInt = 1 ∧ v.toInt ≤ 40) ∨ (x.toInt = 2 ∧ 0 ≤ v.toInt ∧ v.toInt ≤ 256) ∨ (x.toInt = 3 ∧ 0 ≤ v.toInt ∧ v.toInt ≤ 100) ∨ (x.toInt = 4 ∧ 0 ≤ v.toInt ∧ v.toInt ≤ 50))) ∧ flN (tn x) (F 0 (tn y)) (F 4 (tn y)) (F 5 (tn y)) (F 3 (tn y)) v.toInt = 3 ∧ r = -13 ∧ w = mW cI b (va_up I 0 0) J F G0) ∨ ((0 ≤ y.toInt ∧ y.toInt < I 1 ∧ 0 ≤ z.toInt ∧ z.toInt ≤ 1000 ∧ ((x.toInt = 0) ∨ (x.toInt = 1 ∧ v.toInt ≤ 40) ∨ (x.toInt = 2 ∧ 0 ≤ v.toInt ∧ v.toInt ≤ 256) ∨ (x.toInt = 3 ∧ 0 ≤ v.toInt ∧ v.toInt ≤ 100) ∨ (x.toInt = 4 ∧ 0 ≤ v.toInt ∧ v.toInt ≤ 50))) ∧ flN (tn x) (F 0 (tn y)) (F 4 (tn y)) (F 5 (tn y)) (F 3 (tn y)) v.toInt = 5 ∧ r = -15 ∧ w = mW cI b (va_up I 0 0) J F G0) ∨ ((0 ≤ y.toInt ∧ y.toInt < I 1 ∧ 0 ≤ z.toInt ∧ z.toInt ≤ 1000 ∧ ((x.toInt = 0) ∨ (x.toInt = 1 ∧ v.toInt ≤ 40) ∨ (x.toInt = 2 ∧ 0 ≤ v.toInt ∧ v.toInt ≤ 256) ∨ (x.toInt = 3 ∧ 0 ≤ v.toInt ∧ v.toInt ≤ 100) ∨ (x.toInt = 4 ∧ 0 ≤ v.toInt ∧ v.toInt ≤ 50))) ∧ flN (tn x) (F 0 (tn y)) (F 4 (tn y)) (F 5 (tn y)) (F 3 (tn y)) v.toInt = 6 ∧ r = -16 ∧ w = mW cI b (va_up I 0 0) J F G0) ∨ ((0 ≤ y.toInt ∧ y.toInt < I 1 ∧ 0 ≤ z.toInt ∧ z.toInt ≤ 1000 ∧ ((x.toInt = 0) ∨ (x.toInt = 1 ∧ v.toInt ≤ 40) ∨ (x.toInt = 2 ∧ 0 ≤ v.toInt ∧ v.toInt ≤ 256) ∨ (x.toInt = 3 ∧ 0 ≤ v.toInt ∧ v.toInt ≤ 100) ∨ (x.toInt = 4 ∧ 0 ≤ v.toInt ∧ v.toInt ≤ 50))) ∧ flN (tn x) (F 0 (tn y)) (F 4 (tn y)) (F 5 (tn y)) (F 3 (tn y)) v.toInt = 0 ∧ ∃ kd Ho Wo Lo o g σ, ActIs (tn x) (tn v) (F 4 (tn y)) (F 5 (tn y)) (F 3 (tn y)) (actS (J 0) (tn y) (tn z) (tn x)) (fun k => G0 0 (1600 * tn y + k)) kd Ho Wo Lo o ∧ kd ≤ 1 ∧ Lo ≤ 1600 ∧ Ho ≤ 40 ∧ Wo ≤ 40 ∧ r = nI Lo ∧ w = mW cI b (va_up (va_up (va_up (va_up (va_up I 0 0) 9 kd) 10 Lo) 11 Ho) 12 Wo) (va_up J 1 (σ)) F (va_up (va_up G0 1 o) 2 g))) := by
  refine Ki.mk (cc := cX7_act) (maxL := 9) (rt := .int) (own := RX7) (by decide) rfl rfl (Nat.le_of_ble_eq_true rfl) ?_
  intro p e s m below meth c A Q ls C hname hA G hl RET
  obtain ⟨⟨hx, hb, hml, hown, hts⟩, hK, hN⟩ := id C
  have hl : lv_has ls 9 [(0, .ref (b 0)), (1, .int (x)), (2, .int (y)), (3, .int (z)), (4, .int (v))] := hl
  have hX7 : ∀ w ∈ u_ws RX7 TX7 30, w ∈ wsX7_act := by decide +kernel
  refine lv_aload_n hx hb dX7_act_0 rfl (lv_at hl 0 rfl) ?_
  refine lv_iconst (v := (nI (0))) hx hb dX7_act_1 (by decide) ?_
  refine r_put (ws' := mW cI b (va_up I 0 0) J F G0) C G hX7 tyX7_ok nmX7 0 rfl rfl 0 (by decide) (by decide +kernel) rfl rfl rfl (Nat.le_of_ble_eq_true rfl) dX7_act_2 rfl (fun H locs G => ?_)
  have ct105 : ∀ (hok : (0 ≤ y.toInt ∧ y.toInt < I 1 ∧ 0 ≤ z.toInt ∧ z.toInt ≤ 1000 ∧ ((x.toInt = 0) ∨ (x.toInt = 1 ∧ v.toInt ≤ 40) ∨ (x.toInt = 2 ∧ 0 ≤ v.toInt ∧ v.toInt ≤ 256) ∨ (x.toInt = 3 ∧ 0 ≤ v.toInt ∧ v.toInt ≤ 100) ∨ (x.toInt = 4 ∧ 0 ≤ v.toInt ∧ v.toInt ≤ 50)))) (H : Heap) (locs : List Loc) (ls : Array Slot), Wd A s.heap D (mW cI b (va_up I 0 0) J F G0) H locs → lv_has ls 9 [(0, .ref (b 0)), (1, .int (x)), (2, .int (y)), (3, .int (z)), (4, .int (v))] → W p l e ({ frames := 3, cells := 0, slots := 0, locals := 70 } : Room) s m ([.ref (b 0), .int (x), .int (y), .int (z), .int (v)] : List Value).toArray below meth c H locs 0 0 Q (F0 m 105 ls []) := by
    intro hok H locs ls G hl
    obtain ⟨x1, hx1, ex1, rfl⟩ := nat_of (x := x) (by omega)
    obtain ⟨y1, hy1, ey1, rfl⟩ := nat_of (x := y) (by omega)
    obtain ⟨z1, hz1, ez1, rfl⟩ := nat_of (x := z) (by omega)
    have hKx := hKd y1 (by omega)
    have hLx := hL y1 (by omega)
    have hHx := hHi y1 (by omega)
    have hWx := hWi y1 (by omega)
    have hpx := hPc y1 (by omega)
    have hwx := hWd y1 (by omega)
    refine lv_aload_n hx hb dX7_act_105 rfl (lv_at hl 0 rfl) ?_
    refine lv_iload_n hx hb dX7_act_106 rfl (lv_at hl 1 rfl) ?_
    refine lv_iload_n hx hb dX7_act_107 rfl (lv_at hl 2 rfl) ?_
    refine lv_iload hx hb dX7_act_108 (lv_at hl 4 rfl) ?_
    refine r_ai G hA (r_rV (na := 3) (As := [.int (nI (x1)), .int (nI (y1)), .int (v)]) (rest := []) C G (c_X7_failure l D cI cO cL b (va_up I 0 0) J F G0 x1 y1 v h1 (by show y1 < I 1; omega) (by omega) (by omega) (by omega) (by omega) (by omega)) gX7_act_X7_failure rfl (by decide +kernel) ⟨Nat.le_of_ble_eq_true rfl, Nat.le_of_ble_eq_true rfl⟩ 0 rfl rfl rfl hl.1 rfl (Nat.le_of_ble_eq_true rfl) dX7_act_110 ⟨by first | (simp only []; omega) | decide, by first | (simp only []; omega) | decide⟩) (fun r110 w110 H locs hp110 G => ?_)
    obtain ⟨rfl, rfl⟩ := hp110
    refine r_top (y := nI (flN x1 (F 0 y1) (F 4 y1) (F 5 y1) (F 3 y1) v.toInt)) rfl ?_
    obtain ⟨f, ef⟩ : ∃ f, f = flN x1 (F 0 y1) (F 4 y1) (F 5 y1) (F 3 y1) v.toInt := ⟨_, rfl⟩
    refine r_top (y := nI f) (by rw [ef]) ?_
    have hf : f = 0 ∨ f = 1 ∨ f = 2 ∨ f = 3 ∨ f = 5 ∨ f = 6 := by rw [ef]; exact flv
    refine lv_istore (lv' := [(5, .int (nI (f))), (0, .ref (b 0)), (1, .int (nI (x1))), (2, .int (nI (y1))), (3, .int (nI (z1))), (4, .int (v))]) hx hb dX7_act_113 hl (by decide) rfl (fun ls hl => ?_)
    refine lv_iload hx hb dX7_act_115 (lv_at hl 0 rfl) ?_
    refine lv_if_le (tgt := 126) hx hb dX7_act_117 (by decide) (fun c117 => ?_) (fun c117 => ?_)
    · skip
      replace c117 : ((f : Nat) : Int) ≤ (0) := (cv_le (nI_toInt (by omega)) (by decide)).mp c117
      obtain rfl : f = 0 := by omega
      have hf0 := fl0 ef.symm
      refine lv_aload_n hx hb dX7_act_126 rfl (lv_at hl 1 rfl) ?_
      refine r_av G hA (r_rV (na := 0) (As := []) (rest := []) C G (c_X7_begin l D cI cO cL b (va_up I 0 0) J F G0) gX7_act_X7_begin rfl (by decide +kernel) ⟨Nat.le_of_ble_eq_true rfl, Nat.le_of_ble_eq_true rfl⟩ 0 rfl rfl rfl hl.1 rfl (Nat.le_of_ble_eq_true rfl) dX7_act_127 ⟨by first | (simp only []; omega) | decide, by first | (simp only []; omega) | decide⟩) (fun w127 H locs hp127 G => ?_)
      obtain ⟨rfl⟩ := hp127
      refine lv_aload_n hx hb dX7_act_130 rfl (lv_at hl 1 rfl) ?_
      refine lv_ldc2 (v := (5)) hx hb hown (hts (.constantLong RX7 192 (5)) (by decide +kernel)) dX7_act_131 ?_
      refine r_topl (y := lN 5) rfl ?_
      refine r_av G hA (r_rV (na := 1) (As := [.long (lN 5)]) (rest := []) C G (c_X7_with l D cI cO cL b (va_up I 0 0) (va_up J 1 (J 0)) F G0 (lN 5)) gX7_act_X7_with rfl (by decide +kernel) ⟨Nat.le_of_ble_eq_true rfl, Nat.le_of_ble_eq_true rfl⟩ 0 rfl rfl rfl hl.1 rfl (Nat.le_of_ble_eq_true rfl) dX7_act_134 ⟨by first | (simp only []; omega) | decide, by first | (simp only []; omega) | decide⟩) (fun w134 H locs hp134 G => ?_)
      obtain ⟨σ134, eσ134, rfl⟩ := hp134
      replace eσ134 : σ134 = keyv (J 0) (lN 5) := eσ134
      refine lv_aload_n hx hb dX7_act_137 rfl (lv_at hl 1 rfl) ?_
      refine lv_iload_n hx hb dX7_act_138 rfl (lv_at hl 3 rfl) ?_
      refine lv_i2l (v := lN (y1)) hx hb dX7_act_139 (nI_l (by omega)) ?_
      refine r_av G hA (r_rV (na := 1) (As := [.long (lN (y1))]) (rest := []) C G (c_X7_with l D cI cO cL b (va_up I 0 0) (va_up J 1 (σ134)) F G0 (lN (y1))) gX7_act_X7_with rfl (by decide +kernel) ⟨Nat.le_of_ble_eq_true rfl, Nat.le_of_ble_eq_true rfl⟩ 0 rfl rfl rfl hl.1 rfl (Nat.le_of_ble_eq_true rfl) dX7_act_140 ⟨by first | (simp only []; omega) | decide, by first | (simp only []; omega) | decide⟩) (fun w140 H locs hp140 G => ?_)
      obtain ⟨σ140, eσ140, rfl⟩ := hp140
      replace eσ140 : σ140 = keyv (σ134) (lN (y1)) := eσ140
      refine lv_aload_n hx hb dX7_act_143 rfl (lv_at hl 1 rfl) ?_
      refine lv_iload_n hx hb dX7_act_144 rfl (lv_at hl 4 rfl) ?_
      refine lv_i2l (v := lN (z1)) hx hb dX7_act_145 (nI_l (by omega)) ?_
      refine r_av G hA (r_rV (na := 1) (As := [.long (lN (z1))]) (rest := []) C G (c_X7_with l D cI cO cL b (va_up I 0 0) (va_up J 1 (σ140)) F G0 (lN (z1))) gX7_act_X7_with rfl (by decide +kernel) ⟨Nat.le_of_ble_eq_true rfl, Nat.le_of_ble_eq_true rfl⟩ 0 rfl rfl rfl hl.1 rfl (Nat.le_of_ble_eq_true rfl) dX7_act_146 ⟨by first | (simp only []; omega) | decide, by first | (simp only []; omega) | decide⟩) (fun w146 H locs hp146 G => ?_)
      obtain ⟨σ146, eσ146, rfl⟩ := hp146
      replace eσ146 : σ146 = keyv (σ140) (lN (z1)) := eσ146
      refine lv_aload_n hx hb dX7_act_149 rfl (lv_at hl 1 rfl) ?_
      refine lv_iload_n hx hb dX7_act_150 rfl (lv_at hl 2 rfl) ?_
      refine lv_i2l (v := lN (x1)) hx hb dX7_act_151 (nI_l (by omega)) ?_
      refine r_av G hA (r_rV (na := 1) (As := [.long (lN (x1))]) (rest := []) C G (c_X7_with l D cI cO cL b (va_up I 0 0) (va_up J 1 (σ146)) F G0 (lN (x1))) gX7_act_X7_with rfl (by decide +kernel) ⟨Nat.le_of_ble_eq_true rfl, Nat.le_of_ble_eq_true rfl⟩ 0 rfl rfl rfl hl.1 rfl (Nat.le_of_ble_eq_true rfl) dX7_act_152 ⟨by first | (simp only []; omega) | decide, by first | (simp only []; omega) | decide⟩) (fun w152 H locs hp152 G => ?_)
      obtain ⟨σ152, eσ152, rfl⟩ := hp152
      replace eσ152 : σ152 = keyv (σ146) (lN (x1)) := eσ152
      have eS : σ152 = actS (J 0) y1 z1 x1 := by rw [eσ152, eσ146, eσ140, eσ134]; rfl
      refine lv_aload_n hx hb dX7_act_155 rfl (lv_at hl 1 rfl) ?_
      refine lv_aload_n hx hb dX7_act_156 rfl (lv_at hl 1 rfl) ?_
      refine r_get (v := .ref (b 1)) C G hX7 0 rfl rfl 4 (by decide) (by decide +kernel) rfl dX7_act_157 ?_
      refine lv_iload_n hx hb dX7_act_160 rfl (lv_at hl 3 rfl) ?_
      refine r_iald (v := nI ((F 0) y1)) C G 1 0 rfl rfl y1 rfl (by omega) (by omega) rfl dX7_act_161 ?_
      refine r_put (ws' := mW cI b (va_up (va_up I 0 0) 9 ((F 0) y1)) (va_up J 1 (σ152)) F G0) C G hX7 tyX7_ok nmX7 0 rfl rfl 24 (by decide) (by decide +kernel) rfl rfl rfl (Nat.le_of_ble_eq_true rfl) dX7_act_162 rfl (fun H locs G => ?_)
      refine lv_aload_n hx hb dX7_act_165 rfl (lv_at hl 1 rfl) ?_
      refine lv_aload_n hx hb dX7_act_166 rfl (lv_at hl 1 rfl) ?_
      refine r_get (v := .ref (b 4)) C G hX7 0 rfl rfl 7 (by decide) (by decide +kernel) rfl dX7_act_167 ?_
      refine lv_iload_n hx hb dX7_act_170 rfl (lv_at hl 3 rfl) ?_
      refine r_iald (v := nI ((F 3) y1)) C G 4 0 rfl rfl y1 rfl (by omega) (by omega) rfl dX7_act_171 ?_
      refine r_put (ws' := mW cI b (va_up (va_up (va_up I 0 0) 9 ((F 0) y1)) 10 ((F 3) y1)) (va_up J 1 (σ152)) F G0) C G hX7 tyX7_ok nmX7 0 rfl rfl 25 (by decide) (by decide +kernel) rfl rfl rfl (Nat.le_of_ble_eq_true rfl) dX7_act_172 rfl (fun H locs G => ?_)
      refine lv_aload_n hx hb dX7_act_175 rfl (lv_at hl 1 rfl) ?_
      refine lv_aload_n hx hb dX7_act_176 rfl (lv_at hl 1 rfl) ?_
      refine r_get (v := .ref (b 5)) C G hX7 0 rfl rfl 8 (by decide) (by decide +kernel) rfl dX7_act_177 ?_
      refine lv_iload_n hx hb dX7_act_180 rfl (lv_at hl 3 rfl) ?_
      refine r_iald (v := nI ((F 4) y1)) C G 5 0 rfl rfl y1 rfl (by omega) (by omega) rfl dX7_act_181 ?_
      refine r_put (ws' := mW cI b (va_up (va_up (va_up (va_up I 0 0) 9 ((F 0) y1)) 10 ((F 3) y1)) 11 ((F 4) y1)) (va_up J 1 (σ152)) F G0) C G hX7 tyX7_ok nmX7 0 rfl rfl 26 (by decide) (by decide +kernel) rfl rfl rfl (Nat.le_of_ble_eq_true rfl) dX7_act_182 rfl (fun H locs G => ?_)
      refine lv_aload_n hx hb dX7_act_185 rfl (lv_at hl 1 rfl) ?_
      refine lv_aload_n hx hb dX7_act_186 rfl (lv_at hl 1 rfl) ?_
      refine r_get (v := .ref (b 6)) C G hX7 0 rfl rfl 9 (by decide) (by decide +kernel) rfl dX7_act_187 ?_
      refine lv_iload_n hx hb dX7_act_190 rfl (lv_at hl 3 rfl) ?_
      refine r_iald (v := nI ((F 5) y1)) C G 6 0 rfl rfl y1 rfl (by omega) (by omega) rfl dX7_act_191 ?_
      refine r_put (ws' := mW cI b (va_up (va_up (va_up (va_up (va_up I 0 0) 9 ((F 0) y1)) 10 ((F 3) y1)) 11 ((F 4) y1)) 12 ((F 5) y1)) (va_up J 1 (σ152)) F G0) C G hX7 tyX7_ok nmX7 0 rfl rfl 27 (by decide) (by decide +kernel) rfl rfl rfl (Nat.le_of_ble_eq_true rfl) dX7_act_192 rfl (fun H locs G => ?_)
      refine lv_iconst (v := (nI (0))) hx hb dX7_act_195 (by decide) ?_
      refine lv_istore (lv' := [(6, .int (nI (0))), (5, .int (nI (0))), (0, .ref (b 0)), (1, .int (nI (x1))), (2, .int (nI (y1))), (3, .int (nI (z1))), (4, .int (v))]) hx hb dX7_act_196 hl (by decide) rfl (fun ls hl => ?_)
      have lp198 : ∀ (fuel198 : Nat) (k : Nat) (o : Nat → Int32) (hm : F 3 y1 - k < fuel198) (hk : k ≤ F 3 y1) (ho : ∀ j, j < k → o j = G0 0 (1600 * y1 + j)) (H : Heap) (locs : List Loc) (ls : Array Slot), Wd A s.heap D (mW cI b (va_up (va_up (va_up (va_up (va_up I 0 0) 9 (F 0 y1)) 10 (F 3 y1)) 11 (F 4 y1)) 12 (F 5 y1)) (va_up J 1 (σ152)) F (va_up G0 1 o)) H locs → lv_has ls 9 [(0, .ref (b 0)), (1, .int (nI (x1))), (2, .int (nI (y1))), (3, .int (nI (z1))), (4, .int (v)), (6, .int (nI (k)))] → W p l e ({ frames := 3, cells := 0, slots := 0, locals := 70 } : Room) s m ([.ref (b 0), .int (nI (x1)), .int (nI (y1)), .int (nI (z1)), .int (v)] : List Value).toArray below meth c H locs 0 0 Q (F0 m 198 ls []) := by
        intro fuel198
        induction fuel198 with
        | zero => intro k o hm hk ho; exact absurd hm (by omega)
        | succ fuel198 ih198 =>
          intro k o hm hk ho H locs ls G hl
          refine lv_iload hx hb dX7_act_198 (lv_at hl 5 rfl) ?_
          refine lv_aload_n hx hb dX7_act_200 rfl (lv_at hl 0 rfl) ?_
          refine r_get (v := .int (nI (F 3 y1))) C G hX7 0 rfl rfl 25 (by decide) (by decide +kernel) rfl dX7_act_201 ?_
          refine lv_icmp_ge (tgt := 233) hx hb dX7_act_204 (by decide) (fun c204 => ?_) (fun c204 => ?_)
          · skip
            replace c204 : ((F 3 y1 : Nat) : Int) ≤ ((k : Nat) : Int) := (cv_le (nI_toInt (by omega)) (nI_toInt (by omega))).mp c204
            obtain rfl : k = F 3 y1 := by omega
            refine lv_iload_n hx hb dX7_act_233 rfl (lv_at hl 1 rfl) ?_
            by_cases k234_0 : x1 = 0
            · skip
              refine r_top (y := nI 0) (by rw [k234_0]) ?_
              refine lv_tableIn (off := (30)) (tgt := 264) hx hb dX7_act_234 (by decide) (by decide) (by decide) (by decide) ?_
              obtain ⟨q1, q2, q3⟩ := hpx (by omega)
              have hp16 := prod_le hHx hWx
              refine lv_aload_n hx hb dX7_act_264 rfl (lv_at hl 0 rfl) ?_
              refine lv_ldc2 (v := (4)) hx hb hown (hts (.constantLong RX7 158 (4)) (by decide +kernel)) dX7_act_265 ?_
              refine r_topl (y := lN 4) rfl ?_
              refine r_ai G hA (r_rV (na := 1) (As := [.long (lN 4)]) (rest := []) C G (c_X7_draw l D cI cO cL b (va_up (va_up (va_up (va_up (va_up I 0 0) 9 (F 0 y1)) 10 (F 3 y1)) 11 (F 4 y1)) 12 (F 5 y1)) (va_up J 1 (σ152)) F (va_up G0 1 o) 4 (by omega) (by omega)) gX7_act_X7_draw rfl (by decide +kernel) ⟨Nat.le_of_ble_eq_true rfl, Nat.le_of_ble_eq_true rfl⟩ 0 rfl rfl rfl hl.1 rfl (Nat.le_of_ble_eq_true rfl) dX7_act_268 ⟨by first | (simp only []; omega) | decide, by first | (simp only []; omega) | decide⟩) (fun r268 w268 H locs hp268 G => ?_)
              obtain ⟨d268, σ268, eσ268, ed268, hd268, rfl, rfl⟩ := hp268
              replace eσ268 : σ268 = nxg (σ152) := eσ268
              refine r_top (y := nI (d268)) rfl ?_
              refine lv_istore (lv' := [(6, .int (nI (d268))), (0, .ref (b 0)), (1, .int (nI (x1))), (2, .int (nI (y1))), (3, .int (nI (z1))), (4, .int (v))]) hx hb dX7_act_271 hl (by decide) rfl (fun ls hl => ?_)
              refine lv_iconst (v := (nI (0))) hx hb dX7_act_273 (by decide) ?_
              refine lv_istore (lv' := [(7, .int (nI (0))), (6, .int (nI (d268))), (0, .ref (b 0)), (1, .int (nI (x1))), (2, .int (nI (y1))), (3, .int (nI (z1))), (4, .int (v))]) hx hb dX7_act_274 hl (by decide) rfl (fun ls hl => ?_)
              have lp276 : ∀ (fuel276 : Nat) (t : Nat) (o2 g2 : Nat → Int32) (hm2 : d268 - t < fuel276) (ht : t ≤ d268) (hT : isT t (F 4 y1) (F 5 y1) (fun k => G0 0 (1600 * y1 + k)) o2) (H : Heap) (locs : List Loc) (ls : Array Slot), Wd A s.heap D (mW cI b (va_up (va_up (va_up (va_up (va_up I 0 0) 9 (F 0 y1)) 10 (F 3 y1)) 11 (tH t (F 4 y1) (F 5 y1))) 12 (tW t (F 4 y1) (F 5 y1))) (va_up J 1 (σ268)) F (va_up (va_up G0 1 o2) 2 g2)) H locs → lv_has ls 9 [(0, .ref (b 0)), (1, .int (nI (x1))), (2, .int (nI (y1))), (3, .int (nI (z1))), (4, .int (v)), (6, .int (nI (d268))), (7, .int (nI (t)))] → W p l e ({ frames := 3, cells := 0, slots := 0, locals := 70 } : Room) s m ([.ref (b 0), .int (nI (x1)), .int (nI (y1)), .int (nI (z1)), .int (v)] : List Value).toArray below meth c H locs 0 0 Q (F0 m 276 ls []) := by
                intro fuel276
                induction fuel276 with
                | zero => intro t o2 g2 hm2 ht hT; exact absurd hm2 (by omega)
                | succ fuel276 ih276 =>
                  intro t o2 g2 hm2 ht hT H locs ls G hl
                  refine lv_iload hx hb dX7_act_276 (lv_at hl 6 rfl) ?_
                  refine lv_iload hx hb dX7_act_278 (lv_at hl 5 rfl) ?_
                  refine lv_icmp_ge (tgt := 293) hx hb dX7_act_280 (by decide) (fun c280 => ?_) (fun c280 => ?_)
                  · skip
                    replace c280 : ((d268 : Nat) : Int) ≤ ((t : Nat) : Int) := (cv_le (nI_toInt (by omega)) (nI_toInt (by omega))).mp c280
                    refine lv_goto (tgt := 467) hx hb dX7_act_293 (by decide) ?_
                    refine lv_aload_n hx hb dX7_act_467 rfl (lv_at hl 0 rfl) ?_
                    refine r_get (v := .int (nI (F 3 y1))) C G hX7 0 rfl rfl 25 (by decide) (by decide +kernel) rfl dX7_act_468 ?_
                    exact RET (nI (F 3 y1)) (mW cI b (va_up (va_up (va_up (va_up (va_up I 0 0) 9 (F 0 y1)) 10 (F 3 y1)) 11 (tH t (F 4 y1) (F 5 y1))) 12 (tW t (F 4 y1) (F 5 y1))) (va_up J 1 (σ268)) F (va_up (va_up G0 1 o2) 2 g2)) _ _ ls _ _ _ (by rw [tn_nI hx1, tn_nI hy1, tn_nI hz1, ← eS]; exact Or.inr (Or.inr (Or.inr (Or.inr (Or.inr (Or.inr (⟨by omega, ef.symm, (F 0 y1), (tH t (F 4 y1) (F 5 y1)), (tW t (F 4 y1) (F 5 y1)), (F 3 y1), o2, g2, (σ268), (ActIs.p0 k234_0 eσ268 ((show t = d268 by omega).trans ed268) hT).cast (by omega) rfl rfl q3, by omega, by omega, (tH_le hHx hWx).1, (tH_le hHx hWx).2, rfl, rfl⟩))))))) G (by first | (simp only []; omega) | decide) (by first | (simp only []; omega) | decide) rfl dX7_act_471
                  · skip
                    replace c280 : ((t : Nat) : Int) < ((d268 : Nat) : Int) := Int.not_le.mp (fun h => c280 ((cv_le (nI_toInt (by omega)) (nI_toInt (by omega))).mpr h))
                    refine lv_aload_n hx hb dX7_act_283 rfl (lv_at hl 0 rfl) ?_
                    have htw := tHW (t := t) (H := F 4 y1) (W := F 5 y1)
                    have hte := tH_le (d := t) hHx hWx
                    refine r_av G hA (r_rV (na := 0) (As := []) (rest := []) C G (c_X7_turn l D cI cO cL b (va_up (va_up (va_up (va_up (va_up I 0 0) 9 (F 0 y1)) 10 (F 3 y1)) 11 (tH t (F 4 y1) (F 5 y1))) 12 (tW t (F 4 y1) (F 5 y1))) (va_up J 1 (σ268)) F (va_up (va_up G0 1 o2) 2 g2) (by show F 3 y1 = _; rw [q3]; exact htw.symm) hte.1 hte.2) gX7_act_X7_turn rfl (by decide +kernel) ⟨Nat.le_of_ble_eq_true rfl, Nat.le_of_ble_eq_true rfl⟩ 0 rfl rfl rfl hl.1 rfl (Nat.le_of_ble_eq_true rfl) dX7_act_284 ⟨by first | (simp only []; omega) | decide, by first | (simp only []; omega) | decide⟩) (fun w284 H locs hp284 G => ?_)
                    obtain ⟨o284, g284, ho284, rfl⟩ := hp284
                    replace ho284 : ∀ r c1, r < tW t (F 4 y1) (F 5 y1) → c1 < tH t (F 4 y1) (F 5 y1) → o284 (r * (tH t (F 4 y1) (F 5 y1)) + c1) = o2 (((tH t (F 4 y1) (F 5 y1)) - 1 - c1) * (tW t (F 4 y1) (F 5 y1)) + r) := ho284
                    refine lv_iinc (v := nI (t + 1)) (lv' := [(7, .int (nI (t + 1))), (0, .ref (b 0)), (1, .int (nI (x1))), (2, .int (nI (y1))), (3, .int (nI (z1))), (4, .int (v)), (6, .int (nI (d268)))]) hx hb dX7_act_287 hl (k := 6) rfl (inc_n _ 1) (by decide) rfl (fun ls hl => ?_)
                    refine lv_goto (tgt := 276) hx hb dX7_act_290 (by decide) ?_
                    exact ih276 (t + 1) o284 g284 (by omega) (by omega) (isT_s (by omega) hT ho284) _ _ _ (G.eq (by rw [tH_s, tW_s]; rfl)) (lv_sub hl [1, 2, 3, 4, 5, 6, 0] rfl)
              exact lp276 (d268 + 1) 0 o (G0 2) (by omega) (by omega) (isT_0 (fun k hk => ho k (by omega))) _ _ _ (G.eq (rfl)) (lv_sub hl [2, 3, 4, 5, 6, 1, 0] rfl)
            by_cases k234_1 : x1 = 1
            · skip
              refine r_top (y := nI 1) (by rw [k234_1]) ?_
              refine lv_tableIn (off := (62)) (tgt := 296) hx hb dX7_act_234 (by decide) (by decide) (by decide) (by decide) ?_
              obtain ⟨q1, q2, q3⟩ := hpx (by omega)
              have hp16 := prod_le hHx hWx
              obtain ⟨v1, hv1, ev1, rfl⟩ := nat_of (x := v) (by omega)
              have hv16 := prod_le (a := v1) (b := v1) (by omega) (by omega)
              refine lv_aload_n hx hb dX7_act_296 rfl (lv_at hl 0 rfl) ?_
              refine lv_iload hx hb dX7_act_297 (lv_at hl 4 rfl) ?_
              refine r_av G hA (r_rV (na := 1) (As := [.int (nI (v1))]) (rest := []) C G (c_X7_crop l D cI cO cL b (va_up (va_up (va_up (va_up (va_up I 0 0) 9 (F 0 y1)) 10 (F 3 y1)) 11 (F 4 y1)) 12 (F 5 y1)) (va_up J 1 (σ152)) F (va_up G0 1 o) v1 q3 hHx hWx (by show v1 ≤ F 4 y1; omega) (by show v1 ≤ F 5 y1; omega)) gX7_act_X7_crop rfl (by decide +kernel) ⟨Nat.le_of_ble_eq_true rfl, Nat.le_of_ble_eq_true rfl⟩ 0 rfl rfl rfl hl.1 rfl (Nat.le_of_ble_eq_true rfl) dX7_act_299 ⟨by first | (simp only []; omega) | decide, by first | (simp only []; omega) | decide⟩) (fun w299 H locs hp299 G => ?_)
              obtain ⟨o299, σ299, ho299, rfl⟩ := hp299
              replace ho299 : ∀ y x, y < v1 → x < v1 → o299 (y * v1 + x) = o ((dr (nxg (σ152)) ((F 4 y1) - v1 + 1) + y) * (F 5 y1) + dr (nxg (nxg (σ152))) ((F 5 y1) - v1 + 1) + x) := ho299
              refine lv_goto (tgt := 467) hx hb dX7_act_302 (by decide) ?_
              refine lv_aload_n hx hb dX7_act_467 rfl (lv_at hl 0 rfl) ?_
              refine r_get (v := .int (nI (v1 * v1))) C G hX7 0 rfl rfl 25 (by decide) (by decide +kernel) rfl dX7_act_468 ?_
              exact RET (nI (v1 * v1)) (mW cI b (va_up (va_up (va_up (va_up (va_up I 0 0) 9 (F 0 y1)) 10 (v1 * v1)) 11 v1) 12 v1) (va_up J 1 (σ299)) F (va_up G0 1 o299)) _ _ ls _ _ _ (by rw [tn_nI hx1, tn_nI hy1, tn_nI hz1, tn_nI hv1, ← eS]; exact Or.inr (Or.inr (Or.inr (Or.inr (Or.inr (Or.inr (⟨by omega, ef.symm, (F 0 y1), v1, v1, (v1 * v1), o299, (G0 2), (σ299), (ActIs.c1 k234_1 (by omega) (by omega) q3 ho ho299).cast (by omega) rfl rfl rfl, by omega, by omega, by omega, by omega, rfl, rfl⟩))))))) G (by first | (simp only []; omega) | decide) (by first | (simp only []; omega) | decide) rfl dX7_act_471
            by_cases k234_2 : x1 = 2
            · skip
              refine r_top (y := nI 2) (by rw [k234_2]) ?_
              refine lv_tableIn (off := (71)) (tgt := 305) hx hb dX7_act_234 (by decide) (by decide) (by decide) (by decide) ?_
              obtain ⟨q1, q2, q3⟩ := hpx (by omega)
              have hp16 := prod_le hHx hWx
              obtain ⟨v1, hv1, ev1, rfl⟩ := nat_of (x := v) (by omega)
              refine lv_iconst (v := (nI (0))) hx hb dX7_act_305 (by decide) ?_
              refine lv_istore (lv' := [(6, .int (nI (0))), (0, .ref (b 0)), (1, .int (nI (x1))), (2, .int (nI (y1))), (3, .int (nI (z1))), (4, .int (nI (v1)))]) hx hb dX7_act_306 hl (by decide) rfl (fun ls hl => ?_)
              have lp308 : ∀ (fuel308 : Nat) (k : Nat) (o2 : Nat → Int32) (σ : Int64) (hm2 : F 3 y1 - k < fuel308) (hk2 : k ≤ F 3 y1) (eσ : σ = sIt nxg σ152 k) (ho2 : ∀ j, j < k → o2 j = G0 0 (1600 * y1 + j) ^^^ nI (dr (sIt nxg σ152 (j + 1)) v1)) (hu2 : ∀ j, k ≤ j → j < F 3 y1 → o2 j = G0 0 (1600 * y1 + j)) (H : Heap) (locs : List Loc) (ls : Array Slot), Wd A s.heap D (mW cI b (va_up (va_up (va_up (va_up (va_up I 0 0) 9 (F 0 y1)) 10 (F 3 y1)) 11 (F 4 y1)) 12 (F 5 y1)) (va_up J 1 (σ)) F (va_up G0 1 o2)) H locs → lv_has ls 9 [(0, .ref (b 0)), (1, .int (nI (x1))), (2, .int (nI (y1))), (3, .int (nI (z1))), (4, .int (nI (v1))), (6, .int (nI (k)))] → W p l e ({ frames := 3, cells := 0, slots := 0, locals := 70 } : Room) s m ([.ref (b 0), .int (nI (x1)), .int (nI (y1)), .int (nI (z1)), .int (nI (v1))] : List Value).toArray below meth c H locs 0 0 Q (F0 m 308 ls []) := by
                intro fuel308
                induction fuel308 with
                | zero => intro k o2 σ hm2 hk2 eσ ho2 hu2; exact absurd hm2 (by omega)
                | succ fuel308 ih308 =>
                  intro k o2 σ hm2 hk2 eσ ho2 hu2 H locs ls G hl
                  refine lv_iload hx hb dX7_act_308 (lv_at hl 5 rfl) ?_
                  refine lv_aload_n hx hb dX7_act_310 rfl (lv_at hl 0 rfl) ?_
                  refine r_get (v := .int (nI (F 3 y1))) C G hX7 0 rfl rfl 25 (by decide) (by decide +kernel) rfl dX7_act_311 ?_
                  refine lv_icmp_ge (tgt := 340) hx hb dX7_act_314 (by decide) (fun c314 => ?_) (fun c314 => ?_)
                  · skip
                    replace c314 : ((F 3 y1 : Nat) : Int) ≤ ((k : Nat) : Int) := (cv_le (nI_toInt (by omega)) (nI_toInt (by omega))).mp c314
                    refine lv_goto (tgt := 467) hx hb dX7_act_340 (by decide) ?_
                    refine lv_aload_n hx hb dX7_act_467 rfl (lv_at hl 0 rfl) ?_
                    refine r_get (v := .int (nI (F 3 y1))) C G hX7 0 rfl rfl 25 (by decide) (by decide +kernel) rfl dX7_act_468 ?_
                    exact RET (nI (F 3 y1)) (mW cI b (va_up (va_up (va_up (va_up (va_up I 0 0) 9 (F 0 y1)) 10 (F 3 y1)) 11 (F 4 y1)) 12 (F 5 y1)) (va_up J 1 (σ)) F (va_up G0 1 o2)) _ _ ls _ _ _ (by rw [tn_nI hx1, tn_nI hy1, tn_nI hz1, tn_nI hv1, ← eS]; exact Or.inr (Or.inr (Or.inr (Or.inr (Or.inr (Or.inr (⟨by omega, ef.symm, (F 0 y1), (F 4 y1), (F 5 y1), (F 3 y1), o2, (G0 2), (σ), (ActIs.p2 k234_2 (fun i hi => ho2 i (by omega))).cast (by omega) rfl rfl rfl, by omega, by omega, by omega, by omega, rfl, rfl⟩))))))) G (by first | (simp only []; omega) | decide) (by first | (simp only []; omega) | decide) rfl dX7_act_471
                  · skip
                    replace c314 : ((k : Nat) : Int) < ((F 3 y1 : Nat) : Int) := Int.not_le.mp (fun h => c314 ((cv_le (nI_toInt (by omega)) (nI_toInt (by omega))).mpr h))
                    refine lv_aload_n hx hb dX7_act_317 rfl (lv_at hl 0 rfl) ?_
                    refine r_get (v := .ref (b 14)) C G hX7 0 rfl rfl 28 (by decide) (by decide +kernel) rfl dX7_act_318 ?_
                    refine lv_iload hx hb dX7_act_321 (lv_at hl 5 rfl) ?_
                    refine lv_dup2_11 hx hb dX7_act_323 rfl rfl ?_
                    refine r_iald (v := o2 k) C G 14 0 rfl rfl k rfl (by omega) (by omega) rfl dX7_act_324 ?_
                    refine lv_aload_n hx hb dX7_act_325 rfl (lv_at hl 0 rfl) ?_
                    refine lv_iload hx hb dX7_act_326 (lv_at hl 4 rfl) ?_
                    refine lv_i2l (v := lN (v1)) hx hb dX7_act_328 (nI_l (by omega)) ?_
                    refine r_ai G hA (r_rV (na := 1) (As := [.long (lN (v1))]) (rest := [.int (o2 k), .int (nI (k)), .ref (b 14)]) C G (c_X7_draw l D cI cO cL b (va_up (va_up (va_up (va_up (va_up I 0 0) 9 (F 0 y1)) 10 (F 3 y1)) 11 (F 4 y1)) 12 (F 5 y1)) (va_up J 1 (σ)) F (va_up G0 1 o2) v1 (by omega) (by omega)) gX7_act_X7_draw rfl (by decide +kernel) ⟨Nat.le_of_ble_eq_true rfl, Nat.le_of_ble_eq_true rfl⟩ 0 rfl rfl rfl hl.1 rfl (Nat.le_of_ble_eq_true rfl) dX7_act_329 ⟨by first | (simp only []; omega) | decide, by first | (simp only []; omega) | decide⟩) (fun r329 w329 H locs hp329 G => ?_)
                    obtain ⟨d329, σ329, eσ329, ed329, hd329, rfl, rfl⟩ := hp329
                    replace eσ329 : σ329 = nxg (σ) := eσ329
                    refine r_top (y := nI (d329)) rfl ?_
                    refine lv_ixor hx hb dX7_act_332 ?_
                    refine r_iast (ws' := mW cI b (va_up (va_up (va_up (va_up (va_up I 0 0) 9 (F 0 y1)) 10 (F 3 y1)) 11 (F 4 y1)) 12 (F 5 y1)) (va_up J 1 (σ329)) F (va_up G0 1 (upd o2 k ((o2 k) ^^^ (nI (d329)))))) C G 14 0 rfl rfl k rfl (by omega) (by omega) rfl dX7_act_333 rfl (fun H locs G => ?_)
                    refine lv_iinc (v := nI (k + 1)) (lv' := [(6, .int (nI (k + 1))), (0, .ref (b 0)), (1, .int (nI (x1))), (2, .int (nI (y1))), (3, .int (nI (z1))), (4, .int (nI (v1)))]) hx hb dX7_act_334 hl (k := 5) rfl (inc_n _ 1) (by decide) rfl (fun ls hl => ?_)
                    refine lv_goto (tgt := 308) hx hb dX7_act_337 (by decide) ?_
                    exact ih308 (k + 1) (upd o2 k ((o2 k) ^^^ (nI (d329)))) σ329 (by omega) (by omega) (by rw [eσ329, eσ]; rfl) (fun j hj => by by_cases q : j = k; (rw [q, pk_us, ed329, eσ329, eσ, hu2 k (by omega) (by omega)]; rfl); (rw [pk_un q]; exact ho2 j (by omega))) (fun j h1 h2 => by rw [pk_un (by omega)]; exact hu2 j (by omega) h2) _ _ _ (G.eq (rfl)) (lv_sub hl [1, 2, 3, 4, 5, 0] rfl)
              exact lp308 (F 3 y1 + 1) 0 o σ152 (by omega) (by omega) rfl (fun j hj => by omega) (fun j _ hj => ho j hj) _ _ _ (G.eq (rfl)) (lv_sub hl [1, 2, 3, 4, 5, 0] rfl)
            by_cases k234_3 : x1 = 3
            · skip
              refine r_top (y := nI 3) (by rw [k234_3]) ?_
              refine lv_tableIn (off := (109)) (tgt := 343) hx hb dX7_act_234 (by decide) (by decide) (by decide) (by decide) ?_
              obtain ⟨q1, q2, q3⟩ := hwx (by omega)
              obtain ⟨v1, hv1, ev1, rfl⟩ := nat_of (x := v) (by omega)
              have hcll := cl_le (lb := kp v1 σ152) (x := 1) (F 3 y1)
              refine lv_iconst (v := (nI (0))) hx hb dX7_act_343 (by decide) ?_
              refine lv_istore (lv' := [(6, .int (nI (0))), (0, .ref (b 0)), (1, .int (nI (x1))), (2, .int (nI (y1))), (3, .int (nI (z1))), (4, .int (nI (v1)))]) hx hb dX7_act_344 hl (by decide) rfl (fun ls hl => ?_)
              refine lv_iconst (v := (nI (0))) hx hb dX7_act_346 (by decide) ?_
              refine lv_istore (lv' := [(7, .int (nI (0))), (6, .int (nI (0))), (0, .ref (b 0)), (1, .int (nI (x1))), (2, .int (nI (y1))), (3, .int (nI (z1))), (4, .int (nI (v1)))]) hx hb dX7_act_347 hl (by decide) rfl (fun ls hl => ?_)
              have lp349 : ∀ (fuel349 : Nat) (k : Nat) (o2 : Nat → Int32) (σ : Int64) (hm2 : F 3 y1 - k < fuel349) (hk2 : k ≤ F 3 y1) (eσ : σ = sIt nxg σ152 k) (ho2 : ∀ j, j < k → kp v1 σ152 j = 1 → o2 (cl (kp v1 σ152) 1 j) = G0 0 (1600 * y1 + j)) (hu2 : ∀ j, k ≤ j → j < F 3 y1 → o2 j = G0 0 (1600 * y1 + j)) (H : Heap) (locs : List Loc) (ls : Array Slot), Wd A s.heap D (mW cI b (va_up (va_up (va_up (va_up (va_up I 0 0) 9 (F 0 y1)) 10 (F 3 y1)) 11 (F 4 y1)) 12 (F 5 y1)) (va_up J 1 (σ)) F (va_up G0 1 o2)) H locs → lv_has ls 9 [(0, .ref (b 0)), (1, .int (nI (x1))), (2, .int (nI (y1))), (3, .int (nI (z1))), (4, .int (nI (v1))), (6, .int (nI (cl (kp v1 σ152) 1 k))), (7, .int (nI (k)))] → W p l e ({ frames := 3, cells := 0, slots := 0, locals := 70 } : Room) s m ([.ref (b 0), .int (nI (x1)), .int (nI (y1)), .int (nI (z1)), .int (nI (v1))] : List Value).toArray below meth c H locs 0 0 Q (F0 m 349 ls []) := by
                intro fuel349
                induction fuel349 with
                | zero => intro k o2 σ hm2 hk2 eσ ho2 hu2; exact absurd hm2 (by omega)
                | succ fuel349 ih349 =>
                  intro k o2 σ hm2 hk2 eσ ho2 hu2 H locs ls G hl
                  refine lv_iload hx hb dX7_act_349 (lv_at hl 6 rfl) ?_
                  refine lv_aload_n hx hb dX7_act_351 rfl (lv_at hl 0 rfl) ?_
                  refine r_get (v := .int (nI (F 3 y1))) C G hX7 0 rfl rfl 25 (by decide) (by decide +kernel) rfl dX7_act_352 ?_
                  refine lv_icmp_ge (tgt := 393) hx hb dX7_act_355 (by decide) (fun c355 => ?_) (fun c355 => ?_)
                  · skip
                    replace c355 : ((F 3 y1 : Nat) : Int) ≤ ((k : Nat) : Int) := (cv_le (nI_toInt (by omega)) (nI_toInt (by omega))).mp c355
                    obtain rfl : k = F 3 y1 := by omega
                    refine lv_aload_n hx hb dX7_act_393 rfl (lv_at hl 0 rfl) ?_
                    refine lv_iload hx hb dX7_act_394 (lv_at hl 5 rfl) ?_
                    refine r_put (ws' := mW cI b (va_up (va_up (va_up (va_up (va_up I 0 0) 9 (F 0 y1)) 11 (F 4 y1)) 12 (F 5 y1)) 10 (cl (kp v1 σ152) 1 (F 3 y1))) (va_up J 1 (σ)) F (va_up G0 1 o2)) C G hX7 tyX7_ok nmX7 0 rfl rfl 25 (by decide) (by decide +kernel) rfl rfl rfl (Nat.le_of_ble_eq_true rfl) dX7_act_396 rfl (fun H locs G => ?_)
                    refine lv_goto (tgt := 467) hx hb dX7_act_399 (by decide) ?_
                    refine lv_aload_n hx hb dX7_act_467 rfl (lv_at hl 0 rfl) ?_
                    refine r_get (v := .int (nI (cl (kp v1 σ152) 1 (F 3 y1)))) C G hX7 0 rfl rfl 25 (by decide) (by decide +kernel) rfl dX7_act_468 ?_
                    exact RET (nI (cl (kp v1 σ152) 1 (F 3 y1))) (mW cI b (va_up (va_up (va_up (va_up (va_up I 0 0) 9 (F 0 y1)) 11 (F 4 y1)) 12 (F 5 y1)) 10 (cl (kp v1 σ152) 1 (F 3 y1))) (va_up J 1 (σ)) F (va_up G0 1 o2)) _ _ ls _ _ _ (by rw [tn_nI hx1, tn_nI hy1, tn_nI hz1, tn_nI hv1, ← eS]; exact Or.inr (Or.inr (Or.inr (Or.inr (Or.inr (Or.inr (⟨by omega, ef.symm, (F 0 y1), (F 4 y1), (F 5 y1), (cl (kp v1 σ152) 1 (F 3 y1)), o2, (G0 2), (σ), (ActIs.p3 k234_3 ho2).cast (by omega) (by omega) (by omega) rfl, by omega, by omega, by omega, by omega, rfl, rfl⟩))))))) G (by first | (simp only []; omega) | decide) (by first | (simp only []; omega) | decide) rfl dX7_act_471
                  · skip
                    replace c355 : ((k : Nat) : Int) < ((F 3 y1 : Nat) : Int) := Int.not_le.mp (fun h => c355 ((cv_le (nI_toInt (by omega)) (nI_toInt (by omega))).mpr h))
                    have hcl := cl_le (lb := kp v1 σ152) (x := 1) k
                    refine lv_aload_n hx hb dX7_act_358 rfl (lv_at hl 0 rfl) ?_
                    refine lv_ldc2 (v := (100)) hx hb hown (hts (.constantLong RX7 184 (100)) (by decide +kernel)) dX7_act_359 ?_
                    refine r_topl (y := lN 100) rfl ?_
                    refine r_ai G hA (r_rV (na := 1) (As := [.long (lN 100)]) (rest := []) C G (c_X7_draw l D cI cO cL b (va_up (va_up (va_up (va_up (va_up I 0 0) 9 (F 0 y1)) 10 (F 3 y1)) 11 (F 4 y1)) 12 (F 5 y1)) (va_up J 1 (σ)) F (va_up G0 1 o2) 100 (by omega) (by omega)) gX7_act_X7_draw rfl (by decide +kernel) ⟨Nat.le_of_ble_eq_true rfl, Nat.le_of_ble_eq_true rfl⟩ 0 rfl rfl rfl hl.1 rfl (Nat.le_of_ble_eq_true rfl) dX7_act_362 ⟨by first | (simp only []; omega) | decide, by first | (simp only []; omega) | decide⟩) (fun r362 w362 H locs hp362 G => ?_)
                    obtain ⟨d362, σ362, eσ362, ed362, hd362, rfl, rfl⟩ := hp362
                    replace eσ362 : σ362 = nxg (σ) := eσ362
                    refine r_top (y := nI (d362)) rfl ?_
                    refine lv_iload hx hb dX7_act_365 (lv_at hl 4 rfl) ?_
                    refine lv_icmp_lt (tgt := 387) hx hb dX7_act_367 (by decide) (fun c367 => ?_) (fun c367 => ?_)
                    · skip
                      replace c367 : ((d362 : Nat) : Int) < ((v1 : Nat) : Int) := (cv_lt (nI_toInt (by omega)) (nI_toInt (by omega))).mp c367
                      have hkp : ¬ kp v1 σ152 k = 1 := by unfold kp; rw [if_neg (by rw [show sIt nxg σ152 (k + 1) = σ362 by rw [eσ362, eσ]; rfl, ← ed362]; omega)]; decide
                      replace hl : lv_has ls 9 [(0, .ref (b 0)), (1, .int (nI (x1))), (2, .int (nI (y1))), (3, .int (nI (z1))), (4, .int (nI (v1))), (6, .int (nI (cl (kp v1 σ152) 1 (k + 1)))), (7, .int (nI (k)))] := by rw [cl_n hkp]; exact hl
                      refine lv_iinc (v := nI (k + 1)) (lv' := [(7, .int (nI (k + 1))), (0, .ref (b 0)), (1, .int (nI (x1))), (2, .int (nI (y1))), (3, .int (nI (z1))), (4, .int (nI (v1))), (6, .int (nI (cl (kp v1 σ152) 1 (k + 1))))]) hx hb dX7_act_387 hl (k := 6) rfl (inc_n _ 1) (by decide) rfl (fun ls hl => ?_)
                      refine lv_goto (tgt := 349) hx hb dX7_act_390 (by decide) ?_
                      exact ih349 (k + 1) o2 σ362 (by omega) (by omega) (by rw [eσ362, eσ]; rfl) (fun j hj e => by rcases Nat.lt_or_ge j k with q | q; exact ho2 j q e; (obtain rfl : j = k := (by omega); exact absurd e hkp)) (fun j h1 h2 => hu2 j (by omega) h2) _ _ _ (G.eq (rfl)) (lv_sub hl [1, 2, 3, 4, 5, 6, 0] rfl)
                    · skip
                      replace c367 : ((v1 : Nat) : Int) ≤ ((d362 : Nat) : Int) := Int.not_lt.mp (fun h => c367 ((cv_lt (nI_toInt (by omega)) (nI_toInt (by omega))).mpr h))
                      have hkp : kp v1 σ152 k = 1 := by unfold kp; rw [if_pos (by rw [show sIt nxg σ152 (k + 1) = σ362 by rw [eσ362, eσ]; rfl, ← ed362]; omega)]
                      refine lv_aload_n hx hb dX7_act_370 rfl (lv_at hl 0 rfl) ?_
                      refine r_get (v := .ref (b 14)) C G hX7 0 rfl rfl 28 (by decide) (by decide +kernel) rfl dX7_act_371 ?_
                      refine lv_iload hx hb dX7_act_374 (lv_at hl 5 rfl) ?_
                      refine lv_aload_n hx hb dX7_act_376 rfl (lv_at hl 0 rfl) ?_
                      refine r_get (v := .ref (b 14)) C G hX7 0 rfl rfl 28 (by decide) (by decide +kernel) rfl dX7_act_377 ?_
                      refine lv_iload hx hb dX7_act_380 (lv_at hl 6 rfl) ?_
                      refine r_iald (v := o2 k) C G 14 0 rfl rfl k rfl (by omega) (by omega) rfl dX7_act_382 ?_
                      refine r_iast (ws' := mW cI b (va_up (va_up (va_up (va_up (va_up I 0 0) 9 (F 0 y1)) 10 (F 3 y1)) 11 (F 4 y1)) 12 (F 5 y1)) (va_up J 1 (σ362)) F (va_up G0 1 (upd o2 (cl (kp v1 σ152) 1 k) (o2 k)))) C G 14 0 rfl rfl (cl (kp v1 σ152) 1 k) rfl (by omega) (by omega) rfl dX7_act_383 rfl (fun H locs G => ?_)
                      refine lv_iinc (v := nI ((cl (kp v1 σ152) 1 k) + 1)) (lv' := [(6, .int (nI ((cl (kp v1 σ152) 1 k) + 1))), (0, .ref (b 0)), (1, .int (nI (x1))), (2, .int (nI (y1))), (3, .int (nI (z1))), (4, .int (nI (v1))), (7, .int (nI (k)))]) hx hb dX7_act_384 hl (k := 5) rfl (inc_n _ 1) (by decide) rfl (fun ls hl => ?_)
                      replace hl : lv_has ls 9 [(6, .int (nI (cl (kp v1 σ152) 1 (k + 1)))), (0, .ref (b 0)), (1, .int (nI (x1))), (2, .int (nI (y1))), (3, .int (nI (z1))), (4, .int (nI (v1))), (7, .int (nI (k)))] := by rw [cl_y hkp]; exact hl
                      refine lv_iinc (v := nI (k + 1)) (lv' := [(7, .int (nI (k + 1))), (6, .int (nI (cl (kp v1 σ152) 1 (k + 1)))), (0, .ref (b 0)), (1, .int (nI (x1))), (2, .int (nI (y1))), (3, .int (nI (z1))), (4, .int (nI (v1)))]) hx hb dX7_act_387 hl (k := 6) rfl (inc_n _ 1) (by decide) rfl (fun ls hl => ?_)
                      refine lv_goto (tgt := 349) hx hb dX7_act_390 (by decide) ?_
                      exact ih349 (k + 1) (upd o2 (cl (kp v1 σ152) 1 k) (o2 k)) σ362 (by omega) (by omega) (by rw [eσ362, eσ]; rfl) (fun j hj e => by rcases Nat.lt_or_ge j k with q | q; (rw [pk_un (by have := cl_st q e; omega)]; exact ho2 j q e); (obtain rfl : j = k := (by omega); rw [pk_us]; exact hu2 _ (by omega) (by omega))) (fun j h1 h2 => by rw [pk_un (by omega)]; exact hu2 j (by omega) h2) _ _ _ (G.eq (rfl)) (lv_sub hl [2, 3, 4, 5, 6, 1, 0] rfl)
              exact lp349 (F 3 y1 + 1) 0 o σ152 (by omega) (by omega) rfl (fun j hj => by omega) (fun j _ hj => ho j hj) _ _ _ (G.eq (rfl)) (lv_sub hl [2, 3, 4, 5, 6, 1, 0] rfl)
            have ko234 : (nI (x1)).toInt < (0) ∨ (3) < (nI (x1)).toInt := by rw [nI_toInt (by omega)]; omega
            refine lv_tableOut (tgt := 402) hx hb dX7_act_234 ko234 (by decide) ?_
            obtain ⟨q1, q2, q3⟩ := hwx (by omega)
            obtain ⟨v1, hv1, ev1, rfl⟩ := nat_of (x := v) (by omega)
            refine lv_iconst (v := (nI (0))) hx hb dX7_act_402 (by decide) ?_
            refine lv_istore (lv' := [(6, .int (nI (0))), (0, .ref (b 0)), (1, .int (nI (x1))), (2, .int (nI (y1))), (3, .int (nI (z1))), (4, .int (nI (v1)))]) hx hb dX7_act_403 hl (by decide) rfl (fun ls hl => ?_)
            have lp405 : ∀ (fuel405 : Nat) (t : Nat) (o2 : Nat → Int32) (σ : Int64) (hm2 : v1 - t < fuel405) (ht : t ≤ v1) (eσ : σ = sIt nxg σ152 t) (ho2 : ∀ i, i < F 3 y1 → o2 i = swI dr nxg (F 3 y1) σ152 (fun k => G0 0 (1600 * y1 + k)) t i) (H : Heap) (locs : List Loc) (ls : Array Slot), Wd A s.heap D (mW cI b (va_up (va_up (va_up (va_up (va_up I 0 0) 9 (F 0 y1)) 10 (F 3 y1)) 11 (F 4 y1)) 12 (F 5 y1)) (va_up J 1 (σ)) F (va_up G0 1 o2)) H locs → lv_has ls 9 [(0, .ref (b 0)), (1, .int (nI (x1))), (2, .int (nI (y1))), (3, .int (nI (z1))), (4, .int (nI (v1))), (6, .int (nI (t)))] → W p l e ({ frames := 3, cells := 0, slots := 0, locals := 70 } : Room) s m ([.ref (b 0), .int (nI (x1)), .int (nI (y1)), .int (nI (z1)), .int (nI (v1))] : List Value).toArray below meth c H locs 0 0 Q (F0 m 405 ls []) := by
              intro fuel405
              induction fuel405 with
              | zero => intro t o2 σ hm2 ht eσ ho2; exact absurd hm2 (by omega)
              | succ fuel405 ih405 =>
                intro t o2 σ hm2 ht eσ ho2 H locs ls G hl
                refine lv_iload hx hb dX7_act_405 (lv_at hl 5 rfl) ?_
                refine lv_iload hx hb dX7_act_407 (lv_at hl 4 rfl) ?_
                refine lv_icmp_ge (tgt := 467) hx hb dX7_act_409 (by decide) (fun c409 => ?_) (fun c409 => ?_)
                · skip
                  replace c409 : ((v1 : Nat) : Int) ≤ ((t : Nat) : Int) := (cv_le (nI_toInt (by omega)) (nI_toInt (by omega))).mp c409
                  refine lv_aload_n hx hb dX7_act_467 rfl (lv_at hl 0 rfl) ?_
                  refine r_get (v := .int (nI (F 3 y1))) C G hX7 0 rfl rfl 25 (by decide) (by decide +kernel) rfl dX7_act_468 ?_
                  exact RET (nI (F 3 y1)) (mW cI b (va_up (va_up (va_up (va_up (va_up I 0 0) 9 (F 0 y1)) 10 (F 3 y1)) 11 (F 4 y1)) 12 (F 5 y1)) (va_up J 1 (σ)) F (va_up G0 1 o2)) _ _ ls _ _ _ (by rw [tn_nI hx1, tn_nI hy1, tn_nI hz1, tn_nI hv1, ← eS]; exact Or.inr (Or.inr (Or.inr (Or.inr (Or.inr (Or.inr (⟨by omega, ef.symm, (F 0 y1), (F 4 y1), (F 5 y1), (F 3 y1), o2, (G0 2), (σ), (ActIs.p4 (by omega) (fun i hi => by rw [show v1 = t by omega]; exact ho2 i hi)).cast (by omega) (by omega) (by omega) rfl, by omega, by omega, by omega, by omega, rfl, rfl⟩))))))) G (by first | (simp only []; omega) | decide) (by first | (simp only []; omega) | decide) rfl dX7_act_471
                · skip
                  replace c409 : ((t : Nat) : Int) < ((v1 : Nat) : Int) := Int.not_le.mp (fun h => c409 ((cv_le (nI_toInt (by omega)) (nI_toInt (by omega))).mpr h))
                  refine lv_aload_n hx hb dX7_act_412 rfl (lv_at hl 0 rfl) ?_
                  refine lv_aload_n hx hb dX7_act_413 rfl (lv_at hl 0 rfl) ?_
                  refine r_get (v := .int (nI (F 3 y1))) C G hX7 0 rfl rfl 25 (by decide) (by decide +kernel) rfl dX7_act_414 ?_
                  refine lv_iconst (v := (nI (1))) hx hb dX7_act_417 (by decide) ?_
                  refine r_isub hx hb (by omega) dX7_act_418 ?_
                  refine lv_i2l (v := lN ((F 3 y1) - 1)) hx hb dX7_act_419 (nI_l (by omega)) ?_
                  refine r_ai G hA (r_rV (na := 1) (As := [.long (lN ((F 3 y1) - 1))]) (rest := []) C G (c_X7_draw l D cI cO cL b (va_up (va_up (va_up (va_up (va_up I 0 0) 9 (F 0 y1)) 10 (F 3 y1)) 11 (F 4 y1)) 12 (F 5 y1)) (va_up J 1 (σ)) F (va_up G0 1 o2) ((F 3 y1) - 1) (by omega) (by omega)) gX7_act_X7_draw rfl (by decide +kernel) ⟨Nat.le_of_ble_eq_true rfl, Nat.le_of_ble_eq_true rfl⟩ 0 rfl rfl rfl hl.1 rfl (Nat.le_of_ble_eq_true rfl) dX7_act_420 ⟨by first | (simp only []; omega) | decide, by first | (simp only []; omega) | decide⟩) (fun r420 w420 H locs hp420 G => ?_)
                  obtain ⟨d420, σ420, eσ420, ed420, hd420, rfl, rfl⟩ := hp420
                  replace eσ420 : σ420 = nxg (σ) := eσ420
                  refine r_top (y := nI (d420)) rfl ?_
                  refine lv_istore (lv' := [(7, .int (nI (d420))), (0, .ref (b 0)), (1, .int (nI (x1))), (2, .int (nI (y1))), (3, .int (nI (z1))), (4, .int (nI (v1))), (6, .int (nI (t)))]) hx hb dX7_act_423 hl (by decide) rfl (fun ls hl => ?_)
                  refine lv_aload_n hx hb dX7_act_425 rfl (lv_at hl 1 rfl) ?_
                  refine r_get (v := .ref (b 14)) C G hX7 0 rfl rfl 28 (by decide) (by decide +kernel) rfl dX7_act_426 ?_
                  refine lv_iload hx hb dX7_act_429 (lv_at hl 0 rfl) ?_
                  refine r_iald (v := o2 d420) C G 14 0 rfl rfl d420 rfl (by omega) (by omega) rfl dX7_act_431 ?_
                  refine lv_istore (lv' := [(8, .int (o2 d420)), (7, .int (nI (d420))), (0, .ref (b 0)), (1, .int (nI (x1))), (2, .int (nI (y1))), (3, .int (nI (z1))), (4, .int (nI (v1))), (6, .int (nI (t)))]) hx hb dX7_act_432 hl (by decide) rfl (fun ls hl => ?_)
                  refine lv_aload_n hx hb dX7_act_434 rfl (lv_at hl 2 rfl) ?_
                  refine r_get (v := .ref (b 14)) C G hX7 0 rfl rfl 28 (by decide) (by decide +kernel) rfl dX7_act_435 ?_
                  refine lv_iload hx hb dX7_act_438 (lv_at hl 1 rfl) ?_
                  refine lv_aload_n hx hb dX7_act_440 rfl (lv_at hl 2 rfl) ?_
                  refine r_get (v := .ref (b 14)) C G hX7 0 rfl rfl 28 (by decide) (by decide +kernel) rfl dX7_act_441 ?_
                  refine lv_iload hx hb dX7_act_444 (lv_at hl 1 rfl) ?_
                  refine lv_iconst (v := (nI (1))) hx hb dX7_act_446 (by decide) ?_
                  refine r_iadd hx hb dX7_act_447 ?_
                  refine r_iald (v := o2 (d420 + 1)) C G 14 0 rfl rfl (d420 + 1) rfl (by omega) (by omega) rfl dX7_act_448 ?_
                  refine r_iast (ws' := mW cI b (va_up (va_up (va_up (va_up (va_up I 0 0) 9 (F 0 y1)) 10 (F 3 y1)) 11 (F 4 y1)) 12 (F 5 y1)) (va_up J 1 (σ420)) F (va_up G0 1 (upd o2 d420 (o2 (d420 + 1))))) C G 14 0 rfl rfl d420 rfl (by omega) (by omega) rfl dX7_act_449 rfl (fun H locs G => ?_)
                  refine lv_aload_n hx hb dX7_act_450 rfl (lv_at hl 2 rfl) ?_
                  refine r_get (v := .ref (b 14)) C G hX7 0 rfl rfl 28 (by decide) (by decide +kernel) rfl dX7_act_451 ?_
                  refine lv_iload hx hb dX7_act_454 (lv_at hl 1 rfl) ?_
                  refine lv_iconst (v := (nI (1))) hx hb dX7_act_456 (by decide) ?_
                  refine r_iadd hx hb dX7_act_457 ?_
                  refine lv_iload hx hb dX7_act_458 (lv_at hl 0 rfl) ?_
                  refine r_iast (ws' := mW cI b (va_up (va_up (va_up (va_up (va_up I 0 0) 9 (F 0 y1)) 10 (F 3 y1)) 11 (F 4 y1)) 12 (F 5 y1)) (va_up J 1 (σ420)) F (va_up G0 1 (upd (upd o2 d420 (o2 (d420 + 1))) (d420 + 1) (o2 d420)))) C G 14 0 rfl rfl (d420 + 1) rfl (by omega) (by omega) rfl dX7_act_460 rfl (fun H locs G => ?_)
                  refine lv_iinc (v := nI (t + 1)) (lv' := [(6, .int (nI (t + 1))), (8, .int (o2 d420)), (7, .int (nI (d420))), (0, .ref (b 0)), (1, .int (nI (x1))), (2, .int (nI (y1))), (3, .int (nI (z1))), (4, .int (nI (v1)))]) hx hb dX7_act_461 hl (k := 7) rfl (inc_n _ 1) (by decide) rfl (fun ls hl => ?_)
                  refine lv_goto (tgt := 405) hx hb dX7_act_464 (by decide) ?_
                  exact ih405 (t + 1) (upd (upd o2 d420 (o2 (d420 + 1))) (d420 + 1) (o2 d420)) σ420 (by omega) (by omega) (by rw [eσ420, eσ]; rfl) (swI_s (by rw [ed420, eσ420, eσ]; rfl) (by omega) ho2) _ _ _ (G.eq (rfl)) (lv_sub hl [3, 4, 5, 6, 7, 0] rfl)
            exact lp405 (v1 + 1) 0 o σ152 (by omega) (by omega) rfl ho _ _ _ (G.eq (rfl)) (lv_sub hl [1, 2, 3, 4, 5, 0] rfl)
          · skip
            replace c204 : ((k : Nat) : Int) < ((F 3 y1 : Nat) : Int) := Int.not_le.mp (fun h => c204 ((cv_le (nI_toInt (by omega)) (nI_toInt (by omega))).mpr h))
            refine lv_aload_n hx hb dX7_act_207 rfl (lv_at hl 0 rfl) ?_
            refine r_get (v := .ref (b 14)) C G hX7 0 rfl rfl 28 (by decide) (by decide +kernel) rfl dX7_act_208 ?_
            refine lv_iload hx hb dX7_act_211 (lv_at hl 5 rfl) ?_
            refine lv_aload_n hx hb dX7_act_213 rfl (lv_at hl 0 rfl) ?_
            refine r_get (v := .ref (b 7)) C G hX7 0 rfl rfl 10 (by decide) (by decide +kernel) rfl dX7_act_214 ?_
            refine lv_sipush (v := (nI (1600))) hx hb dX7_act_217 (by decide) ?_
            refine lv_iload_n hx hb dX7_act_220 rfl (lv_at hl 2 rfl) ?_
            refine r_imul hx hb dX7_act_221 ?_
            refine lv_iload hx hb dX7_act_222 (lv_at hl 5 rfl) ?_
            refine r_iadd hx hb dX7_act_224 ?_
            refine r_iald (v := (G0 0) ((1600 * y1) + k)) C G 7 0 rfl rfl ((1600 * y1) + k) rfl (by omega) (by omega) rfl dX7_act_225 ?_
            refine r_iast (ws' := mW cI b (va_up (va_up (va_up (va_up (va_up I 0 0) 9 (F 0 y1)) 10 (F 3 y1)) 11 (F 4 y1)) 12 (F 5 y1)) (va_up J 1 (σ152)) F (va_up G0 1 (upd o k ((G0 0) ((1600 * y1) + k))))) C G 14 0 rfl rfl k rfl (by omega) (by omega) rfl dX7_act_226 rfl (fun H locs G => ?_)
            refine lv_iinc (v := nI (k + 1)) (lv' := [(6, .int (nI (k + 1))), (0, .ref (b 0)), (1, .int (nI (x1))), (2, .int (nI (y1))), (3, .int (nI (z1))), (4, .int (v))]) hx hb dX7_act_227 hl (k := 5) rfl (inc_n _ 1) (by decide) rfl (fun ls hl => ?_)
            refine lv_goto (tgt := 198) hx hb dX7_act_230 (by decide) ?_
            exact ih198 (k + 1) (upd o k ((G0 0) ((1600 * y1) + k))) (by omega) (by omega) (fun j hj => by by_cases q : j = k; (rw [q, pk_us]); (rw [pk_un q]; exact ho j (by omega))) _ _ _ (G.eq (rfl)) (lv_sub hl [1, 2, 3, 4, 5, 0] rfl)
      exact lp198 (F 3 y1 + 1) 0 (G0 1) (by omega) (by omega) (fun j hj => by omega) _ _ _ (G.eq (rfl)) (lv_sub hl [2, 3, 4, 5, 6, 0] rfl)
    · skip
      replace c117 : (0) < ((f : Nat) : Int) := Int.not_le.mp (fun h => c117 ((cv_le (nI_toInt (by omega)) (by decide)).mpr h))
      rcases (show f = 1 ∨ f = 2 ∨ f = 3 ∨ f = 5 ∨ f = 6 by omega) with rfl | rfl | rfl | rfl | rfl
      · skip
        refine lv_bipush (v := ((-10))) hx hb dX7_act_120 (by decide) ?_
        refine lv_iload hx hb dX7_act_122 (lv_at hl 0 rfl) ?_
        refine lv_isub hx hb dX7_act_124 ?_
        exact RET (((-10)) - (nI (1))) (mW cI b (va_up I 0 0) J F G0) _ _ ls _ _ _ (by rw [tn_nI hx1, tn_nI hy1, tn_nI hz1]; exact Or.inr (Or.inl (⟨by omega, ef.symm, by decide, rfl⟩))) G (by first | (simp only []; omega) | decide) (by first | (simp only []; omega) | decide) rfl dX7_act_125
      · skip
        refine lv_bipush (v := ((-10))) hx hb dX7_act_120 (by decide) ?_
        refine lv_iload hx hb dX7_act_122 (lv_at hl 0 rfl) ?_
        refine lv_isub hx hb dX7_act_124 ?_
        exact RET (((-10)) - (nI (2))) (mW cI b (va_up I 0 0) J F G0) _ _ ls _ _ _ (by rw [tn_nI hx1, tn_nI hy1, tn_nI hz1]; exact Or.inr (Or.inr (Or.inl (⟨by omega, ef.symm, by decide, rfl⟩)))) G (by first | (simp only []; omega) | decide) (by first | (simp only []; omega) | decide) rfl dX7_act_125
      · skip
        refine lv_bipush (v := ((-10))) hx hb dX7_act_120 (by decide) ?_
        refine lv_iload hx hb dX7_act_122 (lv_at hl 0 rfl) ?_
        refine lv_isub hx hb dX7_act_124 ?_
        exact RET (((-10)) - (nI (3))) (mW cI b (va_up I 0 0) J F G0) _ _ ls _ _ _ (by rw [tn_nI hx1, tn_nI hy1, tn_nI hz1]; exact Or.inr (Or.inr (Or.inr (Or.inl (⟨by omega, ef.symm, by decide, rfl⟩))))) G (by first | (simp only []; omega) | decide) (by first | (simp only []; omega) | decide) rfl dX7_act_125
      · skip
        refine lv_bipush (v := ((-10))) hx hb dX7_act_120 (by decide) ?_
        refine lv_iload hx hb dX7_act_122 (lv_at hl 0 rfl) ?_
        refine lv_isub hx hb dX7_act_124 ?_
        exact RET (((-10)) - (nI (5))) (mW cI b (va_up I 0 0) J F G0) _ _ ls _ _ _ (by rw [tn_nI hx1, tn_nI hy1, tn_nI hz1]; exact Or.inr (Or.inr (Or.inr (Or.inr (Or.inl (⟨by omega, ef.symm, by decide, rfl⟩)))))) G (by first | (simp only []; omega) | decide) (by first | (simp only []; omega) | decide) rfl dX7_act_125
      · skip
        refine lv_bipush (v := ((-10))) hx hb dX7_act_120 (by decide) ?_
        refine lv_iload hx hb dX7_act_122 (lv_at hl 0 rfl) ?_
        refine lv_isub hx hb dX7_act_124 ?_
        exact RET (((-10)) - (nI (6))) (mW cI b (va_up I 0 0) J F G0) _ _ ls _ _ _ (by rw [tn_nI hx1, tn_nI hy1, tn_nI hz1]; exact Or.inr (Or.inr (Or.inr (Or.inr (Or.inr (Or.inl (⟨by omega, ef.symm, by decide, rfl⟩))))))) G (by first | (simp only []; omega) | decide) (by first | (simp only []; omega) | decide) rfl dX7_act_125
  refine lv_aload_n hx hb dX7_act_5 rfl (lv_at hl 0 rfl) ?_
  refine lv_iload_n hx hb dX7_act_6 rfl (lv_at hl 2 rfl) ?_
  refine r_ai G hA (r_rV (na := 1) (As := [.int (y)]) (rest := []) C G (c_X7_isRow l D cI cO cL b (va_up I 0 0) J F G0 y h1) gX7_act_X7_isRow rfl (by decide +kernel) ⟨Nat.le_of_ble_eq_true rfl, Nat.le_of_ble_eq_true rfl⟩ 0 rfl rfl rfl hl.1 rfl (Nat.le_of_ble_eq_true rfl) dX7_act_7 ⟨by first | (simp only []; omega) | decide, by first | (simp only []; omega) | decide⟩) (fun r7 w7 H locs hp7 G => ?_)
  rcases hp7 with ⟨rfl, rfl, hi7⟩ | ⟨rfl, rfl, hi7⟩
  · skip
    replace hi7 : 0 ≤ (y).toInt ∧ (y).toInt < I 1 := hi7
    refine lv_if_eq (tgt := 103) hx hb dX7_act_10 (by decide) (fun c10 => ?_) (fun c10 => ?_)
    · skip
      exact absurd c10 (by decide)
    · skip
      refine lv_iload_n hx hb dX7_act_13 rfl (lv_at hl 1 rfl) ?_
      refine lv_i2l hx hb dX7_act_14 rfl ?_
      refine lv_lconst (v := 0) hx hb dX7_act_15 (by decide) ?_
      refine lv_ldc2 (v := (4)) hx hb hown (hts (.constantLong RX7 158 (4)) (by decide +kernel)) dX7_act_16 ?_
      refine r_ai G hA (r_rS (na := 3) (As := [.long (x.toInt64), .long (0), .long ((4))]) (rest := []) C G (c_X7_in l D cI cO cL (mW cI b (va_up I 0 0) J F G0) x.toInt64 0 ((4)) ((x).toInt) ((0)) ((4)) ((i2l_ti rfl)) ((by decide)) ((by decide))) gX7_act_X7_in rfl (by decide +kernel) ⟨Nat.le_of_ble_eq_true rfl, Nat.le_of_ble_eq_true rfl⟩ rfl hl.1 rfl (Nat.le_of_ble_eq_true rfl) dX7_act_19 ⟨by first | (simp only []; omega) | decide, by first | (simp only []; omega) | decide⟩) (fun r19 w19 H locs hp19 G => ?_)
      rcases hp19 with ⟨rfl, rfl, hi19⟩ | ⟨rfl, rfl, hi19⟩
      · skip
        refine lv_if_eq (tgt := 103) hx hb dX7_act_22 (by decide) (fun c22 => ?_) (fun c22 => ?_)
        · skip
          exact absurd c22 (by decide)
        · skip
          refine lv_iload_n hx hb dX7_act_25 rfl (lv_at hl 3 rfl) ?_
          refine lv_i2l hx hb dX7_act_26 rfl ?_
          refine lv_lconst (v := 0) hx hb dX7_act_27 (by decide) ?_
          refine lv_ldc2 (v := (1000)) hx hb hown (hts (.constantLong RX7 102 (1000)) (by decide +kernel)) dX7_act_28 ?_
          refine r_ai G hA (r_rS (na := 3) (As := [.long (z.toInt64), .long (0), .long ((1000))]) (rest := []) C G (c_X7_in l D cI cO cL (mW cI b (va_up I 0 0) J F G0) z.toInt64 0 ((1000)) ((z).toInt) ((0)) ((1000)) ((i2l_ti rfl)) ((by decide)) ((by decide))) gX7_act_X7_in rfl (by decide +kernel) ⟨Nat.le_of_ble_eq_true rfl, Nat.le_of_ble_eq_true rfl⟩ rfl hl.1 rfl (Nat.le_of_ble_eq_true rfl) dX7_act_31 ⟨by first | (simp only []; omega) | decide, by first | (simp only []; omega) | decide⟩) (fun r31 w31 H locs hp31 G => ?_)
          rcases hp31 with ⟨rfl, rfl, hi31⟩ | ⟨rfl, rfl, hi31⟩
          · skip
            refine lv_if_eq (tgt := 103) hx hb dX7_act_34 (by decide) (fun c34 => ?_) (fun c34 => ?_)
            · skip
              exact absurd c34 (by decide)
            · skip
              refine lv_iload_n hx hb dX7_act_37 rfl (lv_at hl 1 rfl) ?_
              refine lv_iconst (v := (nI (2))) hx hb dX7_act_38 (by decide) ?_
              refine lv_icmp_ne (tgt := 55) hx hb dX7_act_39 (by decide) (fun c39 => ?_) (fun c39 => ?_)
              · skip
                replace c39 : ¬ (x).toInt = ((2 : Nat) : Int) := fun h => c39 ((cv_eq rfl (nI_toInt (by omega))).mpr h)
                refine lv_iload_n hx hb dX7_act_55 rfl (lv_at hl 1 rfl) ?_
                refine lv_iconst (v := (nI (3))) hx hb dX7_act_56 (by decide) ?_
                refine lv_icmp_ne (tgt := 73) hx hb dX7_act_57 (by decide) (fun c57 => ?_) (fun c57 => ?_)
                · skip
                  replace c57 : ¬ (x).toInt = ((3 : Nat) : Int) := fun h => c57 ((cv_eq rfl (nI_toInt (by omega))).mpr h)
                  refine lv_iload_n hx hb dX7_act_73 rfl (lv_at hl 1 rfl) ?_
                  refine lv_iconst (v := (nI (4))) hx hb dX7_act_74 (by decide) ?_
                  refine lv_icmp_ne (tgt := 91) hx hb dX7_act_75 (by decide) (fun c75 => ?_) (fun c75 => ?_)
                  · skip
                    replace c75 : ¬ (x).toInt = ((4 : Nat) : Int) := fun h => c75 ((cv_eq rfl (nI_toInt (by omega))).mpr h)
                    refine lv_iload_n hx hb dX7_act_91 rfl (lv_at hl 1 rfl) ?_
                    refine lv_iconst (v := (nI (1))) hx hb dX7_act_92 (by decide) ?_
                    refine lv_icmp_ne (tgt := 105) hx hb dX7_act_93 (by decide) (fun c93 => ?_) (fun c93 => ?_)
                    · skip
                      replace c93 : ¬ (x).toInt = ((1 : Nat) : Int) := fun h => c93 ((cv_eq rfl (nI_toInt (by omega))).mpr h)
                      exact ct105 (by omega) _ _ _ (G.eq (rfl)) (lv_sub hl [0, 1, 2, 3, 4] rfl)
                    · skip
                      replace c93 : (x).toInt = ((1 : Nat) : Int) := (cv_eq rfl (nI_toInt (by omega))).mp c93
                      refine lv_iload hx hb dX7_act_96 (lv_at hl 4 rfl) ?_
                      refine lv_bipush (v := (nI (40))) hx hb dX7_act_98 (by decide) ?_
                      refine lv_icmp_le (tgt := 105) hx hb dX7_act_100 (by decide) (fun c100 => ?_) (fun c100 => ?_)
                      · skip
                        replace c100 : (v).toInt ≤ ((40 : Nat) : Int) := (cv_le rfl (nI_toInt (by omega))).mp c100
                        exact ct105 (by omega) _ _ _ (G.eq (rfl)) (lv_sub hl [0, 1, 2, 3, 4] rfl)
                      · skip
                        replace c100 : ((40 : Nat) : Int) < (v).toInt := Int.not_le.mp (fun h => c100 ((cv_le rfl (nI_toInt (by omega))).mpr h))
                        refine lv_iconst (v := ((-1))) hx hb dX7_act_103 (by decide) ?_
                        exact RET ((-1)) (mW cI b (va_up I 0 0) J F G0) _ _ ls _ _ _ (Or.inl ⟨by omega, rfl, rfl⟩) G (by first | (simp only []; omega) | decide) (by first | (simp only []; omega) | decide) rfl dX7_act_104
                  · skip
                    replace c75 : (x).toInt = ((4 : Nat) : Int) := (cv_eq rfl (nI_toInt (by omega))).mp c75
                    refine lv_iload hx hb dX7_act_78 (lv_at hl 4 rfl) ?_
                    refine lv_i2l hx hb dX7_act_80 rfl ?_
                    refine lv_lconst (v := 0) hx hb dX7_act_81 (by decide) ?_
                    refine lv_ldc2 (v := (50)) hx hb hown (hts (.constantLong RX7 186 (50)) (by decide +kernel)) dX7_act_82 ?_
                    refine r_ai G hA (r_rS (na := 3) (As := [.long (v.toInt64), .long (0), .long ((50))]) (rest := []) C G (c_X7_in l D cI cO cL (mW cI b (va_up I 0 0) J F G0) v.toInt64 0 ((50)) ((v).toInt) ((0)) ((50)) ((i2l_ti rfl)) ((by decide)) ((by decide))) gX7_act_X7_in rfl (by decide +kernel) ⟨Nat.le_of_ble_eq_true rfl, Nat.le_of_ble_eq_true rfl⟩ rfl hl.1 rfl (Nat.le_of_ble_eq_true rfl) dX7_act_85 ⟨by first | (simp only []; omega) | decide, by first | (simp only []; omega) | decide⟩) (fun r85 w85 H locs hp85 G => ?_)
                    rcases hp85 with ⟨rfl, rfl, hi85⟩ | ⟨rfl, rfl, hi85⟩
                    · skip
                      refine lv_if_eq (tgt := 103) hx hb dX7_act_88 (by decide) (fun c88 => ?_) (fun c88 => ?_)
                      · skip
                        exact absurd c88 (by decide)
                      · skip
                        refine lv_iload_n hx hb dX7_act_91 rfl (lv_at hl 1 rfl) ?_
                        refine lv_iconst (v := (nI (1))) hx hb dX7_act_92 (by decide) ?_
                        refine lv_icmp_ne (tgt := 105) hx hb dX7_act_93 (by decide) (fun c93 => ?_) (fun c93 => ?_)
                        · skip
                          replace c93 : ¬ (x).toInt = ((1 : Nat) : Int) := fun h => c93 ((cv_eq rfl (nI_toInt (by omega))).mpr h)
                          exact ct105 (by omega) _ _ _ (G.eq (rfl)) (lv_sub hl [0, 1, 2, 3, 4] rfl)
                        · skip
                          replace c93 : (x).toInt = ((1 : Nat) : Int) := (cv_eq rfl (nI_toInt (by omega))).mp c93
                          refine lv_iload hx hb dX7_act_96 (lv_at hl 4 rfl) ?_
                          refine lv_bipush (v := (nI (40))) hx hb dX7_act_98 (by decide) ?_
                          refine lv_icmp_le (tgt := 105) hx hb dX7_act_100 (by decide) (fun c100 => ?_) (fun c100 => ?_)
                          · skip
                            replace c100 : (v).toInt ≤ ((40 : Nat) : Int) := (cv_le rfl (nI_toInt (by omega))).mp c100
                            exact ct105 (by omega) _ _ _ (G.eq (rfl)) (lv_sub hl [0, 1, 2, 3, 4] rfl)
                          · skip
                            replace c100 : ((40 : Nat) : Int) < (v).toInt := Int.not_le.mp (fun h => c100 ((cv_le rfl (nI_toInt (by omega))).mpr h))
                            refine lv_iconst (v := ((-1))) hx hb dX7_act_103 (by decide) ?_
                            exact RET ((-1)) (mW cI b (va_up I 0 0) J F G0) _ _ ls _ _ _ (Or.inl ⟨by omega, rfl, rfl⟩) G (by first | (simp only []; omega) | decide) (by first | (simp only []; omega) | decide) rfl dX7_act_104
                    · skip
                      refine lv_if_eq (tgt := 103) hx hb dX7_act_88 (by decide) (fun c88 => ?_) (fun c88 => ?_)
                      · skip
                        refine lv_iconst (v := ((-1))) hx hb dX7_act_103 (by decide) ?_
                        exact RET ((-1)) (mW cI b (va_up I 0 0) J F G0) _ _ ls _ _ _ (Or.inl ⟨by omega, rfl, rfl⟩) G (by first | (simp only []; omega) | decide) (by first | (simp only []; omega) | decide) rfl dX7_act_104
                      · skip
                        exact absurd c88 (by decide)
                · skip
                  replace c57 : (x).toInt = ((3 : Nat) : Int) := (cv_eq rfl (nI_toInt (by omega))).mp c57
                  refine lv_iload hx hb dX7_act_60 (lv_at hl 4 rfl) ?_
                  refine lv_i2l hx hb dX7_act_62 rfl ?_
                  refine lv_lconst (v := 0) hx hb dX7_act_63 (by decide) ?_
                  refine lv_ldc2 (v := (100)) hx hb hown (hts (.constantLong RX7 184 (100)) (by decide +kernel)) dX7_act_64 ?_
                  refine r_ai G hA (r_rS (na := 3) (As := [.long (v.toInt64), .long (0), .long ((100))]) (rest := []) C G (c_X7_in l D cI cO cL (mW cI b (va_up I 0 0) J F G0) v.toInt64 0 ((100)) ((v).toInt) ((0)) ((100)) ((i2l_ti rfl)) ((by decide)) ((by decide))) gX7_act_X7_in rfl (by decide +kernel) ⟨Nat.le_of_ble_eq_true rfl, Nat.le_of_ble_eq_true rfl⟩ rfl hl.1 rfl (Nat.le_of_ble_eq_true rfl) dX7_act_67 ⟨by first | (simp only []; omega) | decide, by first | (simp only []; omega) | decide⟩) (fun r67 w67 H locs hp67 G => ?_)
                  rcases hp67 with ⟨rfl, rfl, hi67⟩ | ⟨rfl, rfl, hi67⟩
                  · skip
                    refine lv_if_eq (tgt := 103) hx hb dX7_act_70 (by decide) (fun c70 => ?_) (fun c70 => ?_)
                    · skip
                      exact absurd c70 (by decide)
                    · skip
                      refine lv_iload_n hx hb dX7_act_73 rfl (lv_at hl 1 rfl) ?_
                      refine lv_iconst (v := (nI (4))) hx hb dX7_act_74 (by decide) ?_
                      refine lv_icmp_ne (tgt := 91) hx hb dX7_act_75 (by decide) (fun c75 => ?_) (fun c75 => ?_)
                      · skip
                        replace c75 : ¬ (x).toInt = ((4 : Nat) : Int) := fun h => c75 ((cv_eq rfl (nI_toInt (by omega))).mpr h)
                        refine lv_iload_n hx hb dX7_act_91 rfl (lv_at hl 1 rfl) ?_
                        refine lv_iconst (v := (nI (1))) hx hb dX7_act_92 (by decide) ?_
                        refine lv_icmp_ne (tgt := 105) hx hb dX7_act_93 (by decide) (fun c93 => ?_) (fun c93 => ?_)
                        · skip
                          replace c93 : ¬ (x).toInt = ((1 : Nat) : Int) := fun h => c93 ((cv_eq rfl (nI_toInt (by omega))).mpr h)
                          exact ct105 (by omega) _ _ _ (G.eq (rfl)) (lv_sub hl [0, 1, 2, 3, 4] rfl)
                        · skip
                          replace c93 : (x).toInt = ((1 : Nat) : Int) := (cv_eq rfl (nI_toInt (by omega))).mp c93
                          refine lv_iload hx hb dX7_act_96 (lv_at hl 4 rfl) ?_
                          refine lv_bipush (v := (nI (40))) hx hb dX7_act_98 (by decide) ?_
                          refine lv_icmp_le (tgt := 105) hx hb dX7_act_100 (by decide) (fun c100 => ?_) (fun c100 => ?_)
                          · skip
                            replace c100 : (v).toInt ≤ ((40 : Nat) : Int) := (cv_le rfl (nI_toInt (by omega))).mp c100
                            exact ct105 (by omega) _ _ _ (G.eq (rfl)) (lv_sub hl [0, 1, 2, 3, 4] rfl)
                          · skip
                            replace c100 : ((40 : Nat) : Int) < (v).toInt := Int.not_le.mp (fun h => c100 ((cv_le rfl (nI_toInt (by omega))).mpr h))
                            refine lv_iconst (v := ((-1))) hx hb dX7_act_103 (by decide) ?_
                            exact RET ((-1)) (mW cI b (va_up I 0 0) J F G0) _ _ ls _ _ _ (Or.inl ⟨by omega, rfl, rfl⟩) G (by first | (simp only []; omega) | decide) (by first | (simp only []; omega) | decide) rfl dX7_act_104
                      · skip
                        replace c75 : (x).toInt = ((4 : Nat) : Int) := (cv_eq rfl (nI_toInt (by omega))).mp c75
                        refine lv_iload hx hb dX7_act_78 (lv_at hl 4 rfl) ?_
                        refine lv_i2l hx hb dX7_act_80 rfl ?_
                        refine lv_lconst (v := 0) hx hb dX7_act_81 (by decide) ?_
                        refine lv_ldc2 (v := (50)) hx hb hown (hts (.constantLong RX7 186 (50)) (by decide +kernel)) dX7_act_82 ?_
                        refine r_ai G hA (r_rS (na := 3) (As := [.long (v.toInt64), .long (0), .long ((50))]) (rest := []) C G (c_X7_in l D cI cO cL (mW cI b (va_up I 0 0) J F G0) v.toInt64 0 ((50)) ((v).toInt) ((0)) ((50)) ((i2l_ti rfl)) ((by decide)) ((by decide))) gX7_act_X7_in rfl (by decide +kernel) ⟨Nat.le_of_ble_eq_true rfl, Nat.le_of_ble_eq_true rfl⟩ rfl hl.1 rfl (Nat.le_of_ble_eq_true rfl) dX7_act_85 ⟨by first | (simp only []; omega) | decide, by first | (simp only []; omega) | decide⟩) (fun r85 w85 H locs hp85 G => ?_)
                        rcases hp85 with ⟨rfl, rfl, hi85⟩ | ⟨rfl, rfl, hi85⟩
                        · skip
                          refine lv_if_eq (tgt := 103) hx hb dX7_act_88 (by decide) (fun c88 => ?_) (fun c88 => ?_)
                          · skip
                            exact absurd c88 (by decide)
                          · skip
                            refine lv_iload_n hx hb dX7_act_91 rfl (lv_at hl 1 rfl) ?_
                            refine lv_iconst (v := (nI (1))) hx hb dX7_act_92 (by decide) ?_
                            refine lv_icmp_ne (tgt := 105) hx hb dX7_act_93 (by decide) (fun c93 => ?_) (fun c93 => ?_)
                            · skip
                              replace c93 : ¬ (x).toInt = ((1 : Nat) : Int) := fun h => c93 ((cv_eq rfl (nI_toInt (by omega))).mpr h)
                              exact ct105 (by omega) _ _ _ (G.eq (rfl)) (lv_sub hl [0, 1, 2, 3, 4] rfl)
                            · skip
                              replace c93 : (x).toInt = ((1 : Nat) : Int) := (cv_eq rfl (nI_toInt (by omega))).mp c93
                              refine lv_iload hx hb dX7_act_96 (lv_at hl 4 rfl) ?_
                              refine lv_bipush (v := (nI (40))) hx hb dX7_act_98 (by decide) ?_
                              refine lv_icmp_le (tgt := 105) hx hb dX7_act_100 (by decide) (fun c100 => ?_) (fun c100 => ?_)
                              · skip
                                replace c100 : (v).toInt ≤ ((40 : Nat) : Int) := (cv_le rfl (nI_toInt (by omega))).mp c100
                                exact ct105 (by omega) _ _ _ (G.eq (rfl)) (lv_sub hl [0, 1, 2, 3, 4] rfl)
                              · skip
                                replace c100 : ((40 : Nat) : Int) < (v).toInt := Int.not_le.mp (fun h => c100 ((cv_le rfl (nI_toInt (by omega))).mpr h))
                                refine lv_iconst (v := ((-1))) hx hb dX7_act_103 (by decide) ?_
                                exact RET ((-1)) (mW cI b (va_up I 0 0) J F G0) _ _ ls _ _ _ (Or.inl ⟨by omega, rfl, rfl⟩) G (by first | (simp only []; omega) | decide) (by first | (simp only []; omega) | decide) rfl dX7_act_104
                        · skip
                          refine lv_if_eq (tgt := 103) hx hb dX7_act_88 (by decide) (fun c88 => ?_) (fun c88 => ?_)
                          · skip
                            refine lv_iconst (v := ((-1))) hx hb dX7_act_103 (by decide) ?_
                            exact RET ((-1)) (mW cI b (va_up I 0 0) J F G0) _ _ ls _ _ _ (Or.inl ⟨by omega, rfl, rfl⟩) G (by first | (simp only []; omega) | decide) (by first | (simp only []; omega) | decide) rfl dX7_act_104
                          · skip
                            exact absurd c88 (by decide)
                  · skip
                    refine lv_if_eq (tgt := 103) hx hb dX7_act_70 (by decide) (fun c70 => ?_) (fun c70 => ?_)
                    · skip
                      refine lv_iconst (v := ((-1))) hx hb dX7_act_103 (by decide) ?_
                      exact RET ((-1)) (mW cI b (va_up I 0 0) J F G0) _ _ ls _ _ _ (Or.inl ⟨by omega, rfl, rfl⟩) G (by first | (simp only []; omega) | decide) (by first | (simp only []; omega) | decide) rfl dX7_act_104
                    · skip
                      exact absurd c70 (by decide)
              · skip
                replace c39 : (x).toInt = ((2 : Nat) : Int) := (cv_eq rfl (nI_toInt (by omega))).mp c39
                refine lv_iload hx hb dX7_act_42 (lv_at hl 4 rfl) ?_
                refine lv_i2l hx hb dX7_act_44 rfl ?_
                refine lv_lconst (v := 0) hx hb dX7_act_45 (by decide) ?_
                refine lv_ldc2 (v := (256)) hx hb hown (hts (.constantLong RX7 182 (256)) (by decide +kernel)) dX7_act_46 ?_
                refine r_ai G hA (r_rS (na := 3) (As := [.long (v.toInt64), .long (0), .long ((256))]) (rest := []) C G (c_X7_in l D cI cO cL (mW cI b (va_up I 0 0) J F G0) v.toInt64 0 ((256)) ((v).toInt) ((0)) ((256)) ((i2l_ti rfl)) ((by decide)) ((by decide))) gX7_act_X7_in rfl (by decide +kernel) ⟨Nat.le_of_ble_eq_true rfl, Nat.le_of_ble_eq_true rfl⟩ rfl hl.1 rfl (Nat.le_of_ble_eq_true rfl) dX7_act_49 ⟨by first | (simp only []; omega) | decide, by first | (simp only []; omega) | decide⟩) (fun r49 w49 H locs hp49 G => ?_)
                rcases hp49 with ⟨rfl, rfl, hi49⟩ | ⟨rfl, rfl, hi49⟩
                · skip
                  refine lv_if_eq (tgt := 103) hx hb dX7_act_52 (by decide) (fun c52 => ?_) (fun c52 => ?_)
                  · skip
                    exact absurd c52 (by decide)
                  · skip
                    refine lv_iload_n hx hb dX7_act_55 rfl (lv_at hl 1 rfl) ?_
                    refine lv_iconst (v := (nI (3))) hx hb dX7_act_56 (by decide) ?_
                    refine lv_icmp_ne (tgt := 73) hx hb dX7_act_57 (by decide) (fun c57 => ?_) (fun c57 => ?_)
                    · skip
                      replace c57 : ¬ (x).toInt = ((3 : Nat) : Int) := fun h => c57 ((cv_eq rfl (nI_toInt (by omega))).mpr h)
                      refine lv_iload_n hx hb dX7_act_73 rfl (lv_at hl 1 rfl) ?_
                      refine lv_iconst (v := (nI (4))) hx hb dX7_act_74 (by decide) ?_
                      refine lv_icmp_ne (tgt := 91) hx hb dX7_act_75 (by decide) (fun c75 => ?_) (fun c75 => ?_)
                      · skip
                        replace c75 : ¬ (x).toInt = ((4 : Nat) : Int) := fun h => c75 ((cv_eq rfl (nI_toInt (by omega))).mpr h)
                        refine lv_iload_n hx hb dX7_act_91 rfl (lv_at hl 1 rfl) ?_
                        refine lv_iconst (v := (nI (1))) hx hb dX7_act_92 (by decide) ?_
                        refine lv_icmp_ne (tgt := 105) hx hb dX7_act_93 (by decide) (fun c93 => ?_) (fun c93 => ?_)
                        · skip
                          replace c93 : ¬ (x).toInt = ((1 : Nat) : Int) := fun h => c93 ((cv_eq rfl (nI_toInt (by omega))).mpr h)
                          exact ct105 (by omega) _ _ _ (G.eq (rfl)) (lv_sub hl [0, 1, 2, 3, 4] rfl)
                        · skip
                          replace c93 : (x).toInt = ((1 : Nat) : Int) := (cv_eq rfl (nI_toInt (by omega))).mp c93
                          refine lv_iload hx hb dX7_act_96 (lv_at hl 4 rfl) ?_
                          refine lv_bipush (v := (nI (40))) hx hb dX7_act_98 (by decide) ?_
                          refine lv_icmp_le (tgt := 105) hx hb dX7_act_100 (by decide) (fun c100 => ?_) (fun c100 => ?_)
                          · skip
                            replace c100 : (v).toInt ≤ ((40 : Nat) : Int) := (cv_le rfl (nI_toInt (by omega))).mp c100
                            exact ct105 (by omega) _ _ _ (G.eq (rfl)) (lv_sub hl [0, 1, 2, 3, 4] rfl)
                          · skip
                            replace c100 : ((40 : Nat) : Int) < (v).toInt := Int.not_le.mp (fun h => c100 ((cv_le rfl (nI_toInt (by omega))).mpr h))
                            refine lv_iconst (v := ((-1))) hx hb dX7_act_103 (by decide) ?_
                            exact RET ((-1)) (mW cI b (va_up I 0 0) J F G0) _ _ ls _ _ _ (Or.inl ⟨by omega, rfl, rfl⟩) G (by first | (simp only []; omega) | decide) (by first | (simp only []; omega) | decide) rfl dX7_act_104
                      · skip
                        replace c75 : (x).toInt = ((4 : Nat) : Int) := (cv_eq rfl (nI_toInt (by omega))).mp c75
                        refine lv_iload hx hb dX7_act_78 (lv_at hl 4 rfl) ?_
                        refine lv_i2l hx hb dX7_act_80 rfl ?_
                        refine lv_lconst (v := 0) hx hb dX7_act_81 (by decide) ?_
                        refine lv_ldc2 (v := (50)) hx hb hown (hts (.constantLong RX7 186 (50)) (by decide +kernel)) dX7_act_82 ?_
                        refine r_ai G hA (r_rS (na := 3) (As := [.long (v.toInt64), .long (0), .long ((50))]) (rest := []) C G (c_X7_in l D cI cO cL (mW cI b (va_up I 0 0) J F G0) v.toInt64 0 ((50)) ((v).toInt) ((0)) ((50)) ((i2l_ti rfl)) ((by decide)) ((by decide))) gX7_act_X7_in rfl (by decide +kernel) ⟨Nat.le_of_ble_eq_true rfl, Nat.le_of_ble_eq_true rfl⟩ rfl hl.1 rfl (Nat.le_of_ble_eq_true rfl) dX7_act_85 ⟨by first | (simp only []; omega) | decide, by first | (simp only []; omega) | decide⟩) (fun r85 w85 H locs hp85 G => ?_)
                        rcases hp85 with ⟨rfl, rfl, hi85⟩ | ⟨rfl, rfl, hi85⟩
                        · skip
                          refine lv_if_eq (tgt := 103) hx hb dX7_act_88 (by decide) (fun c88 => ?_) (fun c88 => ?_)
                          · skip
                            exact absurd c88 (by decide)
                          · skip
                            refine lv_iload_n hx hb dX7_act_91 rfl (lv_at hl 1 rfl) ?_
                            refine lv_iconst (v := (nI (1))) hx hb dX7_act_92 (by decide) ?_
                            refine lv_icmp_ne (tgt := 105) hx hb dX7_act_93 (by decide) (fun c93 => ?_) (fun c93 => ?_)
                            · skip
                              replace c93 : ¬ (x).toInt = ((1 : Nat) : Int) := fun h => c93 ((cv_eq rfl (nI_toInt (by omega))).mpr h)
                              exact ct105 (by omega) _ _ _ (G.eq (rfl)) (lv_sub hl [0, 1, 2, 3, 4] rfl)
                            · skip
                              replace c93 : (x).toInt = ((1 : Nat) : Int) := (cv_eq rfl (nI_toInt (by omega))).mp c93
                              refine lv_iload hx hb dX7_act_96 (lv_at hl 4 rfl) ?_
                              refine lv_bipush (v := (nI (40))) hx hb dX7_act_98 (by decide) ?_
                              refine lv_icmp_le (tgt := 105) hx hb dX7_act_100 (by decide) (fun c100 => ?_) (fun c100 => ?_)
                              · skip
                                replace c100 : (v).toInt ≤ ((40 : Nat) : Int) := (cv_le rfl (nI_toInt (by omega))).mp c100
                                exact ct105 (by omega) _ _ _ (G.eq (rfl)) (lv_sub hl [0, 1, 2, 3, 4] rfl)
                              · skip
                                replace c100 : ((40 : Nat) : Int) < (v).toInt := Int.not_le.mp (fun h => c100 ((cv_le rfl (nI_toInt (by omega))).mpr h))
                                refine lv_iconst (v := ((-1))) hx hb dX7_act_103 (by decide) ?_
                                exact RET ((-1)) (mW cI b (va_up I 0 0) J F G0) _ _ ls _ _ _ (Or.inl ⟨by omega, rfl, rfl⟩) G (by first | (simp only []; omega) | decide) (by first | (simp only []; omega) | decide) rfl dX7_act_104
                        · skip
                          refine lv_if_eq (tgt := 103) hx hb dX7_act_88 (by decide) (fun c88 => ?_) (fun c88 => ?_)
                          · skip
                            refine lv_iconst (v := ((-1))) hx hb dX7_act_103 (by decide) ?_
                            exact RET ((-1)) (mW cI b (va_up I 0 0) J F G0) _ _ ls _ _ _ (Or.inl ⟨by omega, rfl, rfl⟩) G (by first | (simp only []; omega) | decide) (by first | (simp only []; omega) | decide) rfl dX7_act_104
                          · skip
                            exact absurd c88 (by decide)
                    · skip
                      replace c57 : (x).toInt = ((3 : Nat) : Int) := (cv_eq rfl (nI_toInt (by omega))).mp c57
                      refine lv_iload hx hb dX7_act_60 (lv_at hl 4 rfl) ?_
                      refine lv_i2l hx hb dX7_act_62 rfl ?_
                      refine lv_lconst (v := 0) hx hb dX7_act_63 (by decide) ?_
                      refine lv_ldc2 (v := (100)) hx hb hown (hts (.constantLong RX7 184 (100)) (by decide +kernel)) dX7_act_64 ?_
                      refine r_ai G hA (r_rS (na := 3) (As := [.long (v.toInt64), .long (0), .long ((100))]) (rest := []) C G (c_X7_in l D cI cO cL (mW cI b (va_up I 0 0) J F G0) v.toInt64 0 ((100)) ((v).toInt) ((0)) ((100)) ((i2l_ti rfl)) ((by decide)) ((by decide))) gX7_act_X7_in rfl (by decide +kernel) ⟨Nat.le_of_ble_eq_true rfl, Nat.le_of_ble_eq_true rfl⟩ rfl hl.1 rfl (Nat.le_of_ble_eq_true rfl) dX7_act_67 ⟨by first | (simp only []; omega) | decide, by first | (simp only []; omega) | decide⟩) (fun r67 w67 H locs hp67 G => ?_)
                      rcases hp67 with ⟨rfl, rfl, hi67⟩ | ⟨rfl, rfl, hi67⟩
                      · skip
                        refine lv_if_eq (tgt := 103) hx hb dX7_act_70 (by decide) (fun c70 => ?_) (fun c70 => ?_)
                        · skip
                          exact absurd c70 (by decide)
                        · skip
                          refine lv_iload_n hx hb dX7_act_73 rfl (lv_at hl 1 rfl) ?_
                          refine lv_iconst (v := (nI (4))) hx hb dX7_act_74 (by decide) ?_
                          refine lv_icmp_ne (tgt := 91) hx hb dX7_act_75 (by decide) (fun c75 => ?_) (fun c75 => ?_)
                          · skip
                            replace c75 : ¬ (x).toInt = ((4 : Nat) : Int) := fun h => c75 ((cv_eq rfl (nI_toInt (by omega))).mpr h)
                            refine lv_iload_n hx hb dX7_act_91 rfl (lv_at hl 1 rfl) ?_
                            refine lv_iconst (v := (nI (1))) hx hb dX7_act_92 (by decide) ?_
                            refine lv_icmp_ne (tgt := 105) hx hb dX7_act_93 (by decide) (fun c93 => ?_) (fun c93 => ?_)
                            · skip
                              replace c93 : ¬ (x).toInt = ((1 : Nat) : Int) := fun h => c93 ((cv_eq rfl (nI_toInt (by omega))).mpr h)
                              exact ct105 (by omega) _ _ _ (G.eq (rfl)) (lv_sub hl [0, 1, 2, 3, 4] rfl)
                            · skip
                              replace c93 : (x).toInt = ((1 : Nat) : Int) := (cv_eq rfl (nI_toInt (by omega))).mp c93
                              refine lv_iload hx hb dX7_act_96 (lv_at hl 4 rfl) ?_
                              refine lv_bipush (v := (nI (40))) hx hb dX7_act_98 (by decide) ?_
                              refine lv_icmp_le (tgt := 105) hx hb dX7_act_100 (by decide) (fun c100 => ?_) (fun c100 => ?_)
                              · skip
                                replace c100 : (v).toInt ≤ ((40 : Nat) : Int) := (cv_le rfl (nI_toInt (by omega))).mp c100
                                exact ct105 (by omega) _ _ _ (G.eq (rfl)) (lv_sub hl [0, 1, 2, 3, 4] rfl)
                              · skip
                                replace c100 : ((40 : Nat) : Int) < (v).toInt := Int.not_le.mp (fun h => c100 ((cv_le rfl (nI_toInt (by omega))).mpr h))
                                refine lv_iconst (v := ((-1))) hx hb dX7_act_103 (by decide) ?_
                                exact RET ((-1)) (mW cI b (va_up I 0 0) J F G0) _ _ ls _ _ _ (Or.inl ⟨by omega, rfl, rfl⟩) G (by first | (simp only []; omega) | decide) (by first | (simp only []; omega) | decide) rfl dX7_act_104
                          · skip
                            replace c75 : (x).toInt = ((4 : Nat) : Int) := (cv_eq rfl (nI_toInt (by omega))).mp c75
                            refine lv_iload hx hb dX7_act_78 (lv_at hl 4 rfl) ?_
                            refine lv_i2l hx hb dX7_act_80 rfl ?_
                            refine lv_lconst (v := 0) hx hb dX7_act_81 (by decide) ?_
                            refine lv_ldc2 (v := (50)) hx hb hown (hts (.constantLong RX7 186 (50)) (by decide +kernel)) dX7_act_82 ?_
                            refine r_ai G hA (r_rS (na := 3) (As := [.long (v.toInt64), .long (0), .long ((50))]) (rest := []) C G (c_X7_in l D cI cO cL (mW cI b (va_up I 0 0) J F G0) v.toInt64 0 ((50)) ((v).toInt) ((0)) ((50)) ((i2l_ti rfl)) ((by decide)) ((by decide))) gX7_act_X7_in rfl (by decide +kernel) ⟨Nat.le_of_ble_eq_true rfl, Nat.le_of_ble_eq_true rfl⟩ rfl hl.1 rfl (Nat.le_of_ble_eq_true rfl) dX7_act_85 ⟨by first | (simp only []; omega) | decide, by first | (simp only []; omega) | decide⟩) (fun r85 w85 H locs hp85 G => ?_)
                            rcases hp85 with ⟨rfl, rfl, hi85⟩ | ⟨rfl, rfl, hi85⟩
                            · skip
                              refine lv_if_eq (tgt := 103) hx hb dX7_act_88 (by decide) (fun c88 => ?_) (fun c88 => ?_)
                              · skip
                                exact absurd c88 (by decide)
                              · skip
                                refine lv_iload_n hx hb dX7_act_91 rfl (lv_at hl 1 rfl) ?_
                                refine lv_iconst (v := (nI (1))) hx hb dX7_act_92 (by decide) ?_
                                refine lv_icmp_ne (tgt := 105) hx hb dX7_act_93 (by decide) (fun c93 => ?_) (fun c93 => ?_)
                                · skip
                                  replace c93 : ¬ (x).toInt = ((1 : Nat) : Int) := fun h => c93 ((cv_eq rfl (nI_toInt (by omega))).mpr h)
                                  exact ct105 (by omega) _ _ _ (G.eq (rfl)) (lv_sub hl [0, 1, 2, 3, 4] rfl)
                                · skip
                                  replace c93 : (x).toInt = ((1 : Nat) : Int) := (cv_eq rfl (nI_toInt (by omega))).mp c93
                                  refine lv_iload hx hb dX7_act_96 (lv_at hl 4 rfl) ?_
                                  refine lv_bipush (v := (nI (40))) hx hb dX7_act_98 (by decide) ?_
                                  refine lv_icmp_le (tgt := 105) hx hb dX7_act_100 (by decide) (fun c100 => ?_) (fun c100 => ?_)
                                  · skip
                                    replace c100 : (v).toInt ≤ ((40 : Nat) : Int) := (cv_le rfl (nI_toInt (by omega))).mp c100
                                    exact ct105 (by omega) _ _ _ (G.eq (rfl)) (lv_sub hl [0, 1, 2, 3, 4] rfl)
                                  · skip
                                    replace c100 : ((40 : Nat) : Int) < (v).toInt := Int.not_le.mp (fun h => c100 ((cv_le rfl (nI_toInt (by omega))).mpr h))
                                    refine lv_iconst (v := ((-1))) hx hb dX7_act_103 (by decide) ?_
                                    exact RET ((-1)) (mW cI b (va_up I 0 0) J F G0) _ _ ls _ _ _ (Or.inl ⟨by omega, rfl, rfl⟩) G (by first | (simp only []; omega) | decide) (by first | (simp only []; omega) | decide) rfl dX7_act_104
                            · skip
                              refine lv_if_eq (tgt := 103) hx hb dX7_act_88 (by decide) (fun c88 => ?_) (fun c88 => ?_)
                              · skip
                                refine lv_iconst (v := ((-1))) hx hb dX7_act_103 (by decide) ?_
                                exact RET ((-1)) (mW cI b (va_up I 0 0) J F G0) _ _ ls _ _ _ (Or.inl ⟨by omega, rfl, rfl⟩) G (by first | (simp only []; omega) | decide) (by first | (simp only []; omega) | decide) rfl dX7_act_104
                              · skip
                                exact absurd c88 (by decide)
                      · skip
                        refine lv_if_eq (tgt := 103) hx hb dX7_act_70 (by decide) (fun c70 => ?_) (fun c70 => ?_)
                        · skip
                          refine lv_iconst (v := ((-1))) hx hb dX7_act_103 (by decide) ?_
                          exact RET ((-1)) (mW cI b (va_up I 0 0) J F G0) _ _ ls _ _ _ (Or.inl ⟨by omega, rfl, rfl⟩) G (by first | (simp only []; omega) | decide) (by first | (simp only []; omega) | decide) rfl dX7_act_104
                        · skip
                          exact absurd c70 (by decide)
                · skip
                  refine lv_if_eq (tgt := 103) hx hb dX7_act_52 (by decide) (fun c52 => ?_) (fun c52 => ?_)
                  · skip
                    refine lv_iconst (v := ((-1))) hx hb dX7_act_103 (by decide) ?_
                    exact RET ((-1)) (mW cI b (va_up I 0 0) J F G0) _ _ ls _ _ _ (Or.inl ⟨by omega, rfl, rfl⟩) G (by first | (simp only []; omega) | decide) (by first | (simp only []; omega) | decide) rfl dX7_act_104
                  · skip
                    exact absurd c52 (by decide)
          · skip
            refine lv_if_eq (tgt := 103) hx hb dX7_act_34 (by decide) (fun c34 => ?_) (fun c34 => ?_)
            · skip
              refine lv_iconst (v := ((-1))) hx hb dX7_act_103 (by decide) ?_
              exact RET ((-1)) (mW cI b (va_up I 0 0) J F G0) _ _ ls _ _ _ (Or.inl ⟨by omega, rfl, rfl⟩) G (by first | (simp only []; omega) | decide) (by first | (simp only []; omega) | decide) rfl dX7_act_104
            · skip
              exact absurd c34 (by decide)
      · skip
        refine lv_if_eq (tgt := 103) hx hb dX7_act_22 (by decide) (fun c22 => ?_) (fun c22 => ?_)
        · skip
          refine lv_iconst (v := ((-1))) hx hb dX7_act_103 (by decide) ?_
          exact RET ((-1)) (mW cI b (va_up I 0 0) J F G0) _ _ ls _ _ _ (Or.inl ⟨by omega, rfl, rfl⟩) G (by first | (simp only []; omega) | decide) (by first | (simp only []; omega) | decide) rfl dX7_act_104
        · skip
          exact absurd c22 (by decide)
  · skip
    replace hi7 : ¬ (0 ≤ (y).toInt ∧ (y).toInt < I 1) := hi7
    refine lv_if_eq (tgt := 103) hx hb dX7_act_10 (by decide) (fun c10 => ?_) (fun c10 => ?_)
    · skip
      refine lv_iconst (v := ((-1))) hx hb dX7_act_103 (by decide) ?_
      exact RET ((-1)) (mW cI b (va_up I 0 0) J F G0) _ _ ls _ _ _ (Or.inl ⟨by omega, rfl, rfl⟩) G (by first | (simp only []; omega) | decide) (by first | (simp only []; omega) | decide) rfl dX7_act_104
    · skip
      exact absurd c10 (by decide)
