theorem tH_le {d H W : Nat} (h1 : H ≤ 40) (h2 : W ≤ 40) : tH d H W ≤ 40 ∧ tW d H W ≤ 40 := by unfold tH tW; split <;> omega
theorem ActIs.p0 {ac n H W L d : Nat} {sg t : Int64} {s o : Nat → Int32} (h : ac = 0) (et : t = nxg sg) (ed : d = dr t 4) (ho : isT d H W s o) : ActIs ac n H W L sg s 1 (tH d H W) (tW d H W) (H * W) o := by
  subst h; subst et; subst ed
  exact ⟨fun _ => ⟨rfl, rfl, rfl, rfl, ho⟩, fun z => absurd z (by omega), fun z => absurd z (by omega), fun z => absurd z (by omega), fun z => absurd z (by omega)⟩
theorem ActIs.p1 {ac n H W L : Nat} {sg : Int64} {s o : Nat → Int32} (h : ac = 1) (ho : ∀ y x, y < n → x < n → o (y * n + x) = s ((dr (nxg sg) (H - n + 1) + y) * W + dr (nxg (nxg sg)) (W - n + 1) + x)) : ActIs ac n H W L sg s 1 n n (n * n) o := by
  subst h
  exact ⟨fun z => absurd z (by omega), fun _ => ⟨rfl, rfl, rfl, rfl, ho⟩, fun z => absurd z (by omega), fun z => absurd z (by omega), fun z => absurd z (by omega)⟩
theorem ActIs.p2 {ac n H W L : Nat} {sg : Int64} {s o : Nat → Int32} (h : ac = 2) (ho : ∀ k, k < L → o k = s k ^^^ nI (dr (sIt nxg sg (k + 1)) n)) : ActIs ac n H W L sg s 1 H W L o := by
  subst h
  exact ⟨fun z => absurd z (by omega), fun z => absurd z (by omega), fun _ => ⟨rfl, rfl, rfl, rfl, ho⟩, fun z => absurd z (by omega), fun z => absurd z (by omega)⟩
theorem ActIs.p3 {ac n H W L : Nat} {sg : Int64} {s o : Nat → Int32} (h : ac = 3) (ho : ∀ j, j < L → kp n sg j = 1 → o (cl (kp n sg) 1 j) = s j) : ActIs ac n H W L sg s 0 0 0 (cl (kp n sg) 1 L) o := by
  subst h
  exact ⟨fun z => absurd z (by omega), fun z => absurd z (by omega), fun z => absurd z (by omega), fun _ => ⟨rfl, rfl, rfl, rfl, ho⟩, fun z => absurd z (by omega)⟩
theorem ActIs.p4 {ac n H W L : Nat} {sg : Int64} {s o : Nat → Int32} (h : ac = 4) (ho : ∀ k, k < L → o k = swI dr nxg L sg s n k) : ActIs ac n H W L sg s 0 0 0 L o := by
  subst h
  exact ⟨fun z => absurd z (by omega), fun z => absurd z (by omega), fun z => absurd z (by omega), fun z => absurd z (by omega), fun _ => ⟨rfl, rfl, rfl, rfl, ho⟩⟩
set_option maxHeartbeats 4000000 in
set_option maxRecDepth 100000 in
theorem c_X0_alter (l : Launch) (D : va_G) (cI cO cL : ClassId) (a ca ia : Nat → Nat) (n : Nat) (O : Nat → Option Nat) (I : Nat → Nat) (J : Nat → Int64) (F : Nat → Nat → Nat) (E : Nat → Nat → Int32) (K : Nat → Nat → Nat) (G0 : Nat → Nat → Int32) (r : Nat) (hr : r < n) (ac : Nat) (v : Int32) (hk0 : K 0 r ≤ 2) (hk1 : K 1 r ≤ 40) (hk2 : K 2 r ≤ 40) (hk3 : K 3 r ≤ K 4 r) (hk4 : K 4 r ≤ 1600) (hpc : K 0 r = 1 → 1 ≤ K 1 r ∧ 1 ≤ K 2 r ∧ K 3 r = K 1 r * K 2 r) (hwd : K 0 r = 0 → K 1 r = 0 ∧ K 2 r = 0 ∧ K 3 r ≤ 40) (hvv : ac = 0 ∨ (ac = 1 ∧ v.toInt ≤ 40) ∨ (ac = 2 ∧ 0 ≤ v.toInt ∧ v.toInt ≤ 256) ∨ (ac = 3 ∧ 0 ≤ v.toInt ∧ v.toInt ≤ 100) ∨ (ac = 4 ∧ 0 ≤ v.toInt ∧ v.toInt ≤ 50)) (hfl : flN ac (K 0 r) (K 1 r) (K 2 r) (K 3 r) v.toInt = 0) : Kv l yX0_alter wsX0_alter { frames := 4, cells := 0, slots := 0, locals := 89 } D (TY cI cO cL) [.int (nI (ac)), .ref (ca r), .int (v), .ref (a 3), .ref (a 14)] (bW cI cO a ca ia n O I J F E K G0) (fun w => ∃ kd Ho Wo Lo o σ, ActIs ac (tn v) (K 1 r) (K 2 r) (K 3 r) (J 1) (G0 r) kd Ho Wo Lo o ∧ kd ≤ 1 ∧ Lo ≤ 1600 ∧ Ho ≤ 40 ∧ Wo ≤ 40 ∧ w = bW cI cO a ca ia n O (va_up (va_up (va_up (va_up I 9 kd) 10 Ho) 11 Wo) 12 Lo) (va_up J 1 (σ)) F (va_up E 0 o) K G0) := by
  refine Kv.mk (cc := cX0_alter) (maxL := 5) (own := RX0) (by decide) rfl rfl (Nat.le_of_ble_eq_true rfl) ?_
  intro p e s m below meth c A Q ls C hname hA G hl RET
  obtain ⟨⟨hx, hb, hml, hown, hts⟩, hK, hN⟩ := id C
  have hl : lv_has ls 5 [(0, .int (nI (ac))), (1, .ref (ca r)), (2, .int (v)), (3, .ref (a 3)), (4, .ref (a 14))] := hl
  have hf0 := fl0 hfl
  refine lv_iload_n hx hb dX0_alter_0 rfl (lv_at hl 0 rfl) ?_
  by_cases k1_0 : ac = 0
  · skip
    refine r_top (y := nI 0) (by rw [k1_0]) ?_
    refine lv_tableIn (off := (31)) (tgt := 32) hx hb dX0_alter_1 (by decide) (by decide) (by decide) (by decide) ?_
    obtain ⟨q1, q2, q3⟩ := hpc (by omega)
    have hp16 := prod_le hk1 hk2
    refine lv_aload_n hx hb dX0_alter_32 rfl (lv_at hl 1 rfl) ?_
    refine lv_aload_n hx hb dX0_alter_33 rfl (lv_at hl 3 rfl) ?_
    refine lv_iconst (v := (nI (4))) hx hb dX0_alter_34 (by decide) ?_
    refine r_ai G hA (r_rV (na := 1) (As := [.int (nI (4))]) (rest := [.ref (ca r)]) C G (c_X2_below l D cI cO cL a ca ia n O I J F E K G0 4 (by omega) (by omega)) gX0_alter_X2_below rfl (by decide +kernel) ⟨Nat.le_of_ble_eq_true rfl, Nat.le_of_ble_eq_true rfl⟩ 3 rfl rfl rfl hl.1 rfl (Nat.le_of_ble_eq_true rfl) dX0_alter_35 ⟨by first | (simp only []; omega) | decide, by first | (simp only []; omega) | decide⟩) (fun r35 w35 H locs hp35 G => ?_)
    obtain ⟨d35, σ35, eσ35, ed35, hd35, rfl, rfl⟩ := hp35
    replace eσ35 : σ35 = nxg (J 1) := eσ35
    refine r_top (y := nI (d35)) rfl ?_
    refine lv_aload hx hb dX0_alter_38 (lv_at hl 4 rfl) ?_
    refine r_av G hA (r_rS (na := 3) (As := [.ref (ca r), .int (nI (d35)), .ref (a 14)]) (rest := []) C G (c_X0_turn l D cI cO cL a ca ia n O I (va_up J 1 (σ35)) F E K G0 r (by omega) d35 hk0 hk1 hk2 hk3 hk4 q3 (by omega)) gX0_alter_X0_turn rfl (by decide +kernel) ⟨Nat.le_of_ble_eq_true rfl, Nat.le_of_ble_eq_true rfl⟩ rfl hl.1 rfl (Nat.le_of_ble_eq_true rfl) dX0_alter_40 ⟨by first | (simp only []; omega) | decide, by first | (simp only []; omega) | decide⟩) (fun w40 H locs hp40 G => ?_)
    obtain ⟨o40, ho40, rfl⟩ := hp40
    refine lv_goto (tgt := 87) hx hb dX0_alter_43 (by decide) ?_
    exact RET (bW cI cO a ca ia n O (va_up (va_up (va_up (va_up I 9 1) 10 (tH d35 (K 1 r) (K 2 r))) 11 (tW d35 (K 1 r) (K 2 r))) 12 (K 1 r * K 2 r)) (va_up J 1 (σ35)) F (va_up E 0 o40) K G0) _ _ ls _ _ _ (⟨1, (tH d35 (K 1 r) (K 2 r)), (tW d35 (K 1 r) (K 2 r)), (K 1 r * K 2 r), o40, (σ35), ActIs.p0 k1_0 eσ35 ed35 ho40, by omega, by omega, (tH_le hk1 hk2).1, (tH_le hk1 hk2).2, rfl⟩) G (by first | (simp only []; omega) | decide) (by first | (simp only []; omega) | decide) dX0_alter_87
  by_cases k1_1 : ac = 1
  · skip
    refine r_top (y := nI 1) (by rw [k1_1]) ?_
    refine lv_tableIn (off := (45)) (tgt := 46) hx hb dX0_alter_1 (by decide) (by decide) (by decide) (by decide) ?_
    obtain ⟨q1, q2, q3⟩ := hpc (by omega)
    have hp16 := prod_le hk1 hk2
    obtain ⟨v1, hv1, ev1, rfl⟩ := nat_of (x := v) (by omega)
    have hv16 := prod_le (a := v1) (b := v1) (by omega) (by omega)
    refine lv_aload_n hx hb dX0_alter_46 rfl (lv_at hl 1 rfl) ?_
    refine lv_iload_n hx hb dX0_alter_47 rfl (lv_at hl 2 rfl) ?_
    refine lv_aload_n hx hb dX0_alter_48 rfl (lv_at hl 3 rfl) ?_
    refine lv_aload hx hb dX0_alter_49 (lv_at hl 4 rfl) ?_
    refine r_av G hA (r_rS (na := 4) (As := [.ref (ca r), .int (nI (v1)), .ref (a 3), .ref (a 14)]) (rest := []) C G (c_X0_crop l D cI cO cL a ca ia n O I J F E K G0 r (by omega) v1 hk0 hk1 hk2 hk3 hk4 q3 (by omega) (by omega)) gX0_alter_X0_crop rfl (by decide +kernel) ⟨Nat.le_of_ble_eq_true rfl, Nat.le_of_ble_eq_true rfl⟩ rfl hl.1 rfl (Nat.le_of_ble_eq_true rfl) dX0_alter_51 ⟨by first | (simp only []; omega) | decide, by first | (simp only []; omega) | decide⟩) (fun w51 H locs hp51 G => ?_)
    obtain ⟨o51, σ51, ho51, rfl⟩ := hp51
    refine lv_goto (tgt := 87) hx hb dX0_alter_54 (by decide) ?_
    exact RET (bW cI cO a ca ia n O (va_up (va_up (va_up (va_up I 9 1) 10 v1) 11 v1) 12 (v1 * v1)) (va_up J 1 (σ51)) F (va_up E 0 o51) K G0) _ _ ls _ _ _ (by rw [tn_nI hv1]; exact ⟨1, v1, v1, (v1 * v1), o51, (σ51), ActIs.p1 k1_1 ho51, by omega, by omega, by omega, by omega, rfl⟩) G (by first | (simp only []; omega) | decide) (by first | (simp only []; omega) | decide) dX0_alter_87
  by_cases k1_2 : ac = 2
  · skip
    refine r_top (y := nI 2) (by rw [k1_2]) ?_
    refine lv_tableIn (off := (56)) (tgt := 57) hx hb dX0_alter_1 (by decide) (by decide) (by decide) (by decide) ?_
    obtain ⟨q1, q2, q3⟩ := hpc (by omega)
    have hp16 := prod_le hk1 hk2
    obtain ⟨v1, hv1, ev1, rfl⟩ := nat_of (x := v) (by omega)
    refine lv_aload_n hx hb dX0_alter_57 rfl (lv_at hl 1 rfl) ?_
    refine lv_iload_n hx hb dX0_alter_58 rfl (lv_at hl 2 rfl) ?_
    refine lv_aload_n hx hb dX0_alter_59 rfl (lv_at hl 3 rfl) ?_
    refine lv_aload hx hb dX0_alter_60 (lv_at hl 4 rfl) ?_
    refine r_av G hA (r_rS (na := 4) (As := [.ref (ca r), .int (nI (v1)), .ref (a 3), .ref (a 14)]) (rest := []) C G (c_X0_addNoise l D cI cO cL a ca ia n O I J F E K G0 r (by omega) v1 hk0 hk1 hk2 hk3 hk4 q3 (by omega) (by omega)) gX0_alter_X0_addNoise rfl (by decide +kernel) ⟨Nat.le_of_ble_eq_true rfl, Nat.le_of_ble_eq_true rfl⟩ rfl hl.1 rfl (Nat.le_of_ble_eq_true rfl) dX0_alter_62 ⟨by first | (simp only []; omega) | decide, by first | (simp only []; omega) | decide⟩) (fun w62 H locs hp62 G => ?_)
    obtain ⟨o62, σ62, ho62, rfl⟩ := hp62
    refine lv_goto (tgt := 87) hx hb dX0_alter_65 (by decide) ?_
    exact RET (bW cI cO a ca ia n O (va_up (va_up (va_up (va_up I 9 1) 10 (K 1 r)) 11 (K 2 r)) 12 (K 3 r)) (va_up J 1 (σ62)) F (va_up E 0 o62) K G0) _ _ ls _ _ _ (by rw [tn_nI hv1]; exact ⟨1, (K 1 r), (K 2 r), (K 3 r), o62, (σ62), ActIs.p2 k1_2 ho62, by omega, by omega, by omega, by omega, rfl⟩) G (by first | (simp only []; omega) | decide) (by first | (simp only []; omega) | decide) dX0_alter_87
  by_cases k1_3 : ac = 3
  · skip
    refine r_top (y := nI 3) (by rw [k1_3]) ?_
    refine lv_tableIn (off := (67)) (tgt := 68) hx hb dX0_alter_1 (by decide) (by decide) (by decide) (by decide) ?_
    obtain ⟨q1, q2, q3⟩ := hwd (by omega)
    obtain ⟨v1, hv1, ev1, rfl⟩ := nat_of (x := v) (by omega)
    have hcll := cl_le (lb := kp v1 (J 1)) (x := 1) (K 3 r)
    refine lv_aload_n hx hb dX0_alter_68 rfl (lv_at hl 1 rfl) ?_
    refine lv_iload_n hx hb dX0_alter_69 rfl (lv_at hl 2 rfl) ?_
    refine lv_aload_n hx hb dX0_alter_70 rfl (lv_at hl 3 rfl) ?_
    refine lv_aload hx hb dX0_alter_71 (lv_at hl 4 rfl) ?_
    refine r_av G hA (r_rS (na := 4) (As := [.ref (ca r), .int (nI (v1)), .ref (a 3), .ref (a 14)]) (rest := []) C G (c_X0_leaveOut l D cI cO cL a ca ia n O I J F E K G0 r (by omega) v1 hk0 hk1 hk2 hk3 hk4 (by omega) (by omega)) gX0_alter_X0_leaveOut rfl (by decide +kernel) ⟨Nat.le_of_ble_eq_true rfl, Nat.le_of_ble_eq_true rfl⟩ rfl hl.1 rfl (Nat.le_of_ble_eq_true rfl) dX0_alter_73 ⟨by first | (simp only []; omega) | decide, by first | (simp only []; omega) | decide⟩) (fun w73 H locs hp73 G => ?_)
    obtain ⟨o73, σ73, ho73, rfl⟩ := hp73
    refine lv_goto (tgt := 87) hx hb dX0_alter_76 (by decide) ?_
    exact RET (bW cI cO a ca ia n O (va_up (va_up (va_up (va_up I 9 0) 10 0) 11 0) 12 (cl (kp v1 (J 1)) 1 (K 3 r))) (va_up J 1 (σ73)) F (va_up E 0 o73) K G0) _ _ ls _ _ _ (by rw [tn_nI hv1]; exact ⟨0, 0, 0, (cl (kp v1 (J 1)) 1 (K 3 r)), o73, (σ73), ActIs.p3 k1_3 ho73, by omega, by omega, by omega, by omega, rfl⟩) G (by first | (simp only []; omega) | decide) (by first | (simp only []; omega) | decide) dX0_alter_87
  have ko1 : (nI (ac)).toInt < (0) ∨ (3) < (nI (ac)).toInt := by rw [nI_toInt (by omega)]; omega
  refine lv_tableOut (tgt := 79) hx hb dX0_alter_1 ko1 (by decide) ?_
  obtain ⟨q1, q2, q3⟩ := hwd (by omega)
  obtain ⟨v1, hv1, ev1, rfl⟩ := nat_of (x := v) (by omega)
  have hcll := cl_le (lb := kp v1 (J 1)) (x := 1) (K 3 r)
  refine lv_aload_n hx hb dX0_alter_79 rfl (lv_at hl 1 rfl) ?_
  refine lv_iload_n hx hb dX0_alter_80 rfl (lv_at hl 2 rfl) ?_
  refine lv_aload_n hx hb dX0_alter_81 rfl (lv_at hl 3 rfl) ?_
  refine lv_aload hx hb dX0_alter_82 (lv_at hl 4 rfl) ?_
  refine r_av G hA (r_rS (na := 4) (As := [.ref (ca r), .int (nI (v1)), .ref (a 3), .ref (a 14)]) (rest := []) C G (c_X0_swapSome l D cI cO cL a ca ia n O I J F E K G0 r (by omega) v1 hk0 hk1 hk2 hk3 hk4 (by omega) (by omega) (by omega)) gX0_alter_X0_swapSome rfl (by decide +kernel) ⟨Nat.le_of_ble_eq_true rfl, Nat.le_of_ble_eq_true rfl⟩ rfl hl.1 rfl (Nat.le_of_ble_eq_true rfl) dX0_alter_84 ⟨by first | (simp only []; omega) | decide, by first | (simp only []; omega) | decide⟩) (fun w84 H locs hp84 G => ?_)
  obtain ⟨o84, σ84, ho84, rfl⟩ := hp84
  exact RET (bW cI cO a ca ia n O (va_up (va_up (va_up (va_up I 9 0) 10 0) 11 0) 12 (K 3 r)) (va_up J 1 (σ84)) F (va_up E 0 o84) K G0) _ _ ls _ _ _ (by rw [tn_nI hv1]; exact ⟨0, 0, 0, (K 3 r), o84, (σ84), ActIs.p4 (by omega) ho84, by omega, by omega, by omega, by omega, rfl⟩) G (by first | (simp only []; omega) | decide) (by first | (simp only []; omega) | decide) dX0_alter_87
/-- the stream of an ACT -/
def actS (sd : Int64) (row rd ac : Nat) : Int64 := keyv (keyv (keyv (keyv sd (lN 5)) (lN row)) (lN rd)) (lN ac)
set_option maxHeartbeats 4000000 in
set_option maxRecDepth 100000 in
theorem c_X6_act (l : Launch) (D : va_G) (cI cO cL : ClassId) (a ca ia : Nat → Nat) (n : Nat) (O : Nat → Option Nat) (I : Nat → Nat) (J : Nat → Int64) (F : Nat → Nat → Nat) (E : Nat → Nat → Int32) (K : Nat → Nat → Nat) (G0 : Nat → Nat → Int32) (x y z v : Int32) (hn : I 3 ≤ 60) (hO : ∀ j, j < I 3 → O j = some (ca j)) (hin : I 3 ≤ n) (hRm : ∀ j, j < I 3 → K 3 j ≤ K 4 j ∧ K 4 j ≤ 1600) (hK0 : ∀ j, j < I 3 → K 0 j ≤ 2 ∧ K 1 j ≤ 40 ∧ K 2 j ≤ 40) (hPc : ∀ j, j < I 3 → K 0 j = 1 → 1 ≤ K 1 j ∧ 1 ≤ K 2 j ∧ K 3 j = K 1 j * K 2 j) (hWd : ∀ j, j < I 3 → K 0 j = 0 → K 1 j = 0 ∧ K 2 j = 0 ∧ K 3 j ≤ 40) : Ki l yX6_act wsX6_act { frames := 5, cells := 0, slots := 0, locals := 113 } D (TY cI cO cL) [.ref (a 0), .int (x), .int (y), .int (z), .int (v)] (bW cI cO a ca ia n O I J F E K G0) (fun r w => (¬ (0 ≤ y.toInt ∧ y.toInt < I 3 ∧ 0 ≤ z.toInt ∧ z.toInt ≤ 1000 ∧ ((x.toInt = 0) ∨ (x.toInt = 1 ∧ v.toInt ≤ 40) ∨ (x.toInt = 2 ∧ 0 ≤ v.toInt ∧ v.toInt ≤ 256) ∨ (x.toInt = 3 ∧ 0 ≤ v.toInt ∧ v.toInt ≤ 100) ∨ (x.toInt = 4 ∧ 0 ≤ v.toInt ∧ v.toInt ≤ 50))) ∧ r = -1 ∧ w = bW cI cO a ca ia n O I J F E K G0) ∨ ((0 ≤ y.toInt ∧ y.toInt < I 3 ∧ 0 ≤ z.toInt ∧ z.toInt ≤ 1000 ∧ ((x.toInt = 0) ∨ (x.toInt = 1 ∧ v.toInt ≤ 40) ∨ (x.toInt = 2 ∧ 0 ≤ v.toInt ∧ v.toInt ≤ 256) ∨ (x.toInt = 3 ∧ 0 ≤ v.toInt ∧ v.toInt ≤ 100) ∨ (x.toInt = 4 ∧ 0 ≤ v.toInt ∧ v.toInt ≤ 50))) ∧ flN (tn x) (K 0 (tn y)) (K 1 (tn y)) (K 2 (tn y)) (K 3 (tn y)) v.toInt = 1 ∧ r = -11 ∧ w = bW cI cO a ca ia n O I J F E K G0) ∨ ((0 ≤ y.toInt ∧ y.toInt < I 3 ∧ 0 ≤ z.toInt ∧ z.toInt ≤ 1000 ∧ ((x.toInt = 0) ∨ (x.toInt = 1 ∧ v.toInt ≤ 40) ∨ (x.toInt = 2 ∧ 0 ≤ v.toInt ∧ v.toInt ≤ 256) ∨ (x.toInt = 3 ∧ 0 ≤ v.toInt ∧ v.toInt ≤ 100) ∨ (x.toInt = 4 ∧ 0 ≤ v.toInt ∧ v.toInt ≤ 50))) ∧ flN (tn x) (K 0 (tn y)) (K 1 (tn y)) (K 2 (tn y)) (K 3 (tn y)) v.toInt = 2 ∧ r = -12 ∧ w = bW cI cO a ca ia n O I J F E K G0) ∨ ((0 ≤ y.toInt ∧ y.toInt < I 3 ∧ 0 ≤ z.toInt ∧ z.toInt ≤ 1000 ∧ ((x.toInt = 0) ∨ (x.toInt = 1 ∧ v.toInt ≤ 40) ∨ (x.toInt = 2 ∧ 0 ≤ v.toInt ∧ v.toInt ≤ 256) ∨ (x.toInt = 3 ∧ 0 ≤ v.toInt ∧ v.toInt ≤ 100) ∨ (x.toInt = 4 ∧ 0 ≤ v.toInt ∧ v.toInt ≤ 50))) ∧ flN (tn x) (K 0 (tn y)) (K 1 (tn y)) (K 2 (tn y)) (K 3 (tn y)) v.toInt = 3 ∧ r = -13 ∧ w = bW cI cO a ca ia n O I J F E K G0) ∨ ((0 ≤ y.toInt ∧ y.toInt < I 3 ∧ 0 ≤ z.toInt ∧ z.toInt ≤ 1000 ∧ ((x.toInt = 0) ∨ (x.toInt = 1 ∧ v.toInt ≤ 40) ∨ (x.toInt = 2 ∧ 0 ≤ v.toInt ∧ v.toInt ≤ 256) ∨ (x.toInt = 3 ∧ 0 ≤ v.toInt ∧ v.toInt ≤ 100) ∨ (x.toInt = 4 ∧ 0 ≤ v.toInt ∧ v.toInt ≤ 50))) ∧ flN (tn x) (K 0 (tn y)) (K 1 (tn y)) (K 2 (tn y)) (K 3 (tn y)) v.toInt = 5 ∧ r = -15 ∧ w = bW cI cO a ca ia n O I J F E K G0) ∨ ((0 ≤ y.toInt ∧ y.toInt < I 3 ∧ 0 ≤ z.toInt ∧ z.toInt ≤ 1000 ∧ ((x.toInt = 0) ∨ (x.toInt = 1 ∧ v.toInt ≤ 40) ∨ (x.toInt = 2 ∧ 0 ≤ v.toInt ∧ v.toInt ≤ 256) ∨ (x.toInt = 3 ∧ 0 ≤ v.toInt ∧ v.toInt ≤ 100) ∨ (x.toInt = 4 ∧ 0 ≤ v.toInt ∧ v.toInt ≤ 50))) ∧ flN (tn x) (K 0 (tn y)) (K 1 (tn y)) (K 2 (tn y)) (K 3 (tn y)) v.toInt = 6 ∧ r = -16 ∧ w = bW cI cO a ca ia n O I J F E K G0) ∨ ((0 ≤ y.toInt ∧ y.toInt < I 3 ∧ 0 ≤ z.toInt ∧ z.toInt ≤ 1000 ∧ ((x.toInt = 0) ∨ (x.toInt = 1 ∧ v.toInt ≤ 40) ∨ (x.toInt = 2 ∧ 0 ≤ v.toInt ∧ v.toInt ≤ 256) ∨ (x.toInt = 3 ∧ 0 ≤ v.toInt ∧ v.toInt ≤ 100) ∨ (x.toInt = 4 ∧ 0 ≤ v.toInt ∧ v.toInt ≤ 50))) ∧ flN (tn x) (K 0 (tn y)) (K 1 (tn y)) (K 2 (tn y)) (K 3 (tn y)) v.toInt = 0 ∧ ∃ kd Ho Wo Lo o σ, ActIs (tn x) (tn v) (K 1 (tn y)) (K 2 (tn y)) (K 3 (tn y)) (actS (J 0) (tn y) (tn z) (tn x)) (G0 (tn y)) kd Ho Wo Lo o ∧ kd ≤ 1 ∧ Lo ≤ 1600 ∧ Ho ≤ 40 ∧ Wo ≤ 40 ∧ r = nI Lo ∧ w = bW cI cO a ca ia n O (va_up (va_up (va_up (va_up I 9 kd) 10 Ho) 11 Wo) 12 Lo) (va_up J 1 (σ)) F (va_up E 0 o) K G0)) := by
  refine Ki.mk (cc := cX6_act) (maxL := 7) (rt := .int) (own := RX6) (by decide) rfl rfl (Nat.le_of_ble_eq_true rfl) ?_
  intro p e s m below meth c A Q ls C hname hA G hl RET
  obtain ⟨⟨hx, hb, hml, hown, hts⟩, hK, hN⟩ := id C
  have hl : lv_has ls 7 [(0, .ref (a 0)), (1, .int (x)), (2, .int (y)), (3, .int (z)), (4, .int (v))] := hl
  have hX1 : ∀ w ∈ u_ws RX1 TX1 5, w ∈ wsX6_act := by decide +kernel
  have hX5 : ∀ w ∈ u_ws RX5 TX5 5, w ∈ wsX6_act := by decide +kernel
  have hX6 : ∀ w ∈ u_ws RX6 TX6 8, w ∈ wsX6_act := by decide +kernel
  refine lv_aload_n hx hb dX6_act_0 rfl (lv_at hl 0 rfl) ?_
  refine r_get (v := .ref (a 1)) C G hX6 0 rfl rfl 0 (by decide) (by decide +kernel) rfl dX6_act_1 ?_
  refine lv_iload_n hx hb dX6_act_4 rfl (lv_at hl 2 rfl) ?_
  refine r_aq G hA (r_rV (na := 1) (As := [.int (y)]) (rest := []) C G (c_X4_find l D cI cO cL a ca ia n O I J F E K G0 y hn hO) gX6_act_X4_find rfl (by decide +kernel) ⟨Nat.le_of_ble_eq_true rfl, Nat.le_of_ble_eq_true rfl⟩ 1 rfl rfl rfl hl.1 rfl (Nat.le_of_ble_eq_true rfl) dX6_act_5 ⟨by first | (simp only []; omega) | decide, by first | (simp only []; omega) | decide⟩) (fun r5 w5 H locs hp5 G => ?_)
  rcases hp5 with ⟨rfl, rfl, hi5⟩ | ⟨rfl, rfl, hi5⟩
  · skip
    refine r_st (st' := [.ref (ca (tn y))]) rfl ?_
    obtain ⟨y1, hy1, ey1, rfl⟩ := nat_of (x := y) (by omega)
    rw [tn_nI hy1]
    have hRx := hRm y1 (by omega)
    have hKx := hK0 y1 (by omega)
    refine lv_astore (lv' := [(5, .ref (ca y1)), (0, .ref (a 0)), (1, .int (x)), (2, .int (nI (y1))), (3, .int (z)), (4, .int (v))]) hx hb dX6_act_8 hl (by decide) rfl (fun ls hl => ?_)
    refine lv_aload hx hb dX6_act_10 (lv_at hl 0 rfl) ?_
    refine lv_ifnull hx hb dX6_act_12 ?_
    refine lv_iload_n hx hb dX6_act_15 rfl (lv_at hl 4 rfl) ?_
    refine r_ai G hA (r_rS (na := 1) (As := [.int (z)]) (rest := []) C G (c_X6_isRound l D cI cO cL (bW cI cO a ca ia n O I J F E K G0) z) gX6_act_X6_isRound rfl (by decide +kernel) ⟨Nat.le_of_ble_eq_true rfl, Nat.le_of_ble_eq_true rfl⟩ rfl hl.1 rfl (Nat.le_of_ble_eq_true rfl) dX6_act_16 ⟨by first | (simp only []; omega) | decide, by first | (simp only []; omega) | decide⟩) (fun r16 w16 H locs hp16 G => ?_)
    rcases hp16 with ⟨rfl, rfl, hi16⟩ | ⟨rfl, rfl, hi16⟩
    · skip
      refine lv_if_eq (tgt := 31) hx hb dX6_act_19 (by decide) (fun c19 => ?_) (fun c19 => ?_)
      · skip
        exact absurd c19 (by decide)
      · skip
        refine lv_iload_n hx hb dX6_act_22 rfl (lv_at hl 2 rfl) ?_
        refine lv_iload hx hb dX6_act_23 (lv_at hl 5 rfl) ?_
        refine r_ai G hA (r_rS (na := 2) (As := [.int (x), .int (v)]) (rest := []) C G (c_X0_allows l D cI cO cL (bW cI cO a ca ia n O I J F E K G0) x v) gX6_act_X0_allows rfl (by decide +kernel) ⟨Nat.le_of_ble_eq_true rfl, Nat.le_of_ble_eq_true rfl⟩ rfl hl.1 rfl (Nat.le_of_ble_eq_true rfl) dX6_act_25 ⟨by first | (simp only []; omega) | decide, by first | (simp only []; omega) | decide⟩) (fun r25 w25 H locs hp25 G => ?_)
        rcases hp25 with ⟨rfl, rfl, hi25⟩ | ⟨rfl, rfl, hi25⟩
        · skip
          refine lv_if_ne (tgt := 33) hx hb dX6_act_28 (by decide) (fun c28 => ?_) (fun c28 => ?_)
          · skip
            obtain ⟨x1, hx1, ex1, rfl⟩ := nat_of (x := x) (by omega)
            obtain ⟨z1, hz1, ez1, rfl⟩ := nat_of (x := z) (by omega)
            have hpx := hPc y1 (by omega)
            have hwx := hWd y1 (by omega)
            refine lv_iload_n hx hb dX6_act_33 rfl (lv_at hl 2 rfl) ?_
            refine lv_aload hx hb dX6_act_34 (lv_at hl 0 rfl) ?_
            refine lv_iload hx hb dX6_act_36 (lv_at hl 5 rfl) ?_
            refine r_ai G hA (r_rS (na := 3) (As := [.int (nI (x1)), .ref (ca y1), .int (v)]) (rest := []) C G (c_X0_failure l D cI cO cL a ca ia n O I J F E K G0 y1 (by omega) x1 v (by omega) (by omega) (by omega) (by omega) (by omega) (by omega) (fun q => by obtain ⟨u1, u2, u3⟩ := hpx q; have u4 := yx_lt (H := K 1 y1) (W := K 2 y1) (y := 0) (x := 0) (by omega) (by omega); omega) (by omega)) gX6_act_X0_failure rfl (by decide +kernel) ⟨Nat.le_of_ble_eq_true rfl, Nat.le_of_ble_eq_true rfl⟩ rfl hl.1 rfl (Nat.le_of_ble_eq_true rfl) dX6_act_38 ⟨by first | (simp only []; omega) | decide, by first | (simp only []; omega) | decide⟩) (fun r38 w38 H locs hp38 G => ?_)
            rcases hp38 with ⟨hfl, rfl, rfl⟩ | ⟨hfl, rfl, rfl⟩ | ⟨hfl, rfl, rfl⟩ | ⟨hfl, rfl, rfl⟩ | ⟨hfl, rfl, rfl⟩ | ⟨hfl, rfl, rfl⟩
            · skip
              refine lv_istore (lv' := [(6, .int (nI (0))), (5, .ref (ca y1)), (0, .ref (a 0)), (1, .int (nI (x1))), (2, .int (nI (y1))), (3, .int (nI (z1))), (4, .int (v))]) hx hb dX6_act_41 hl (by decide) rfl (fun ls hl => ?_)
              refine lv_iload hx hb dX6_act_43 (lv_at hl 0 rfl) ?_
              refine lv_if_eq (tgt := 51) hx hb dX6_act_45 (by decide) (fun c45 => ?_) (fun c45 => ?_)
              · skip
                refine lv_aload_n hx hb dX6_act_51 rfl (lv_at hl 2 rfl) ?_
                refine r_get (v := .ref (a 3)) C G hX6 0 rfl rfl 2 (by decide) (by decide +kernel) rfl dX6_act_52 ?_
                refine lv_aload_n hx hb dX6_act_55 rfl (lv_at hl 2 rfl) ?_
                refine r_get (v := .ref (a 2)) C G hX6 0 rfl rfl 1 (by decide) (by decide +kernel) rfl dX6_act_56 ?_
                refine r_getN (v := .long (J 0)) C G hX5 2 rfl rfl 0 (by decide) (by decide +kernel) rfl dX6_act_59 ?_
                refine r_av G hA (r_rV (na := 1) (As := [.long (J 0)]) (rest := []) C G (c_X2_begin l D cI cO cL a ca ia n O I J F E K G0 (J 0)) gX6_act_X2_begin rfl (by decide +kernel) ⟨Nat.le_of_ble_eq_true rfl, Nat.le_of_ble_eq_true rfl⟩ 3 rfl rfl rfl hl.1 rfl (Nat.le_of_ble_eq_true rfl) dX6_act_62 ⟨by first | (simp only []; omega) | decide, by first | (simp only []; omega) | decide⟩) (fun w62 H locs hp62 G => ?_)
                obtain ⟨rfl⟩ := hp62
                refine lv_aload_n hx hb dX6_act_65 rfl (lv_at hl 2 rfl) ?_
                refine r_get (v := .ref (a 3)) C G hX6 0 rfl rfl 2 (by decide) (by decide +kernel) rfl dX6_act_66 ?_
                refine lv_iconst (v := (nI (5))) hx hb dX6_act_69 (by decide) ?_
                refine r_av G hA (r_rV (na := 1) (As := [.int (nI (5))]) (rest := []) C G (c_X2_key l D cI cO cL a ca ia n O I (va_up J 1 (J 0)) F E K G0 5 (by omega)) gX6_act_X2_key rfl (by decide +kernel) ⟨Nat.le_of_ble_eq_true rfl, Nat.le_of_ble_eq_true rfl⟩ 3 rfl rfl rfl hl.1 rfl (Nat.le_of_ble_eq_true rfl) dX6_act_70 ⟨by first | (simp only []; omega) | decide, by first | (simp only []; omega) | decide⟩) (fun w70 H locs hp70 G => ?_)
                obtain ⟨σ70, eσ70, rfl⟩ := hp70
                replace eσ70 : σ70 = keyv (J 0) (lN 5) := eσ70
                refine lv_aload_n hx hb dX6_act_73 rfl (lv_at hl 2 rfl) ?_
                refine r_get (v := .ref (a 3)) C G hX6 0 rfl rfl 2 (by decide) (by decide +kernel) rfl dX6_act_74 ?_
                refine lv_iload_n hx hb dX6_act_77 rfl (lv_at hl 4 rfl) ?_
                refine r_av G hA (r_rV (na := 1) (As := [.int (nI (y1))]) (rest := []) C G (c_X2_key l D cI cO cL a ca ia n O I (va_up J 1 (σ70)) F E K G0 y1 (by omega)) gX6_act_X2_key rfl (by decide +kernel) ⟨Nat.le_of_ble_eq_true rfl, Nat.le_of_ble_eq_true rfl⟩ 3 rfl rfl rfl hl.1 rfl (Nat.le_of_ble_eq_true rfl) dX6_act_78 ⟨by first | (simp only []; omega) | decide, by first | (simp only []; omega) | decide⟩) (fun w78 H locs hp78 G => ?_)
                obtain ⟨σ78, eσ78, rfl⟩ := hp78
                replace eσ78 : σ78 = keyv (σ70) (lN y1) := eσ78
                refine lv_aload_n hx hb dX6_act_81 rfl (lv_at hl 2 rfl) ?_
                refine r_get (v := .ref (a 3)) C G hX6 0 rfl rfl 2 (by decide) (by decide +kernel) rfl dX6_act_82 ?_
                refine lv_iload_n hx hb dX6_act_85 rfl (lv_at hl 5 rfl) ?_
                refine r_av G hA (r_rV (na := 1) (As := [.int (nI (z1))]) (rest := []) C G (c_X2_key l D cI cO cL a ca ia n O I (va_up J 1 (σ78)) F E K G0 z1 (by omega)) gX6_act_X2_key rfl (by decide +kernel) ⟨Nat.le_of_ble_eq_true rfl, Nat.le_of_ble_eq_true rfl⟩ 3 rfl rfl rfl hl.1 rfl (Nat.le_of_ble_eq_true rfl) dX6_act_86 ⟨by first | (simp only []; omega) | decide, by first | (simp only []; omega) | decide⟩) (fun w86 H locs hp86 G => ?_)
                obtain ⟨σ86, eσ86, rfl⟩ := hp86
                replace eσ86 : σ86 = keyv (σ78) (lN z1) := eσ86
                refine lv_aload_n hx hb dX6_act_89 rfl (lv_at hl 2 rfl) ?_
                refine r_get (v := .ref (a 3)) C G hX6 0 rfl rfl 2 (by decide) (by decide +kernel) rfl dX6_act_90 ?_
                refine lv_iload_n hx hb dX6_act_93 rfl (lv_at hl 3 rfl) ?_
                refine r_av G hA (r_rV (na := 1) (As := [.int (nI (x1))]) (rest := []) C G (c_X2_key l D cI cO cL a ca ia n O I (va_up J 1 (σ86)) F E K G0 x1 (by omega)) gX6_act_X2_key rfl (by decide +kernel) ⟨Nat.le_of_ble_eq_true rfl, Nat.le_of_ble_eq_true rfl⟩ 3 rfl rfl rfl hl.1 rfl (Nat.le_of_ble_eq_true rfl) dX6_act_94 ⟨by first | (simp only []; omega) | decide, by first | (simp only []; omega) | decide⟩) (fun w94 H locs hp94 G => ?_)
                obtain ⟨σ94, eσ94, rfl⟩ := hp94
                replace eσ94 : σ94 = keyv (σ86) (lN x1) := eσ94
                have eS : σ94 = actS (J 0) y1 z1 x1 := by rw [eσ94, eσ86, eσ78, eσ70]; rfl
                refine lv_iload_n hx hb dX6_act_97 rfl (lv_at hl 3 rfl) ?_
                refine lv_aload hx hb dX6_act_98 (lv_at hl 1 rfl) ?_
                refine lv_iload hx hb dX6_act_100 (lv_at hl 6 rfl) ?_
                refine lv_aload_n hx hb dX6_act_102 rfl (lv_at hl 2 rfl) ?_
                refine r_get (v := .ref (a 3)) C G hX6 0 rfl rfl 2 (by decide) (by decide +kernel) rfl dX6_act_103 ?_
                refine lv_aload_n hx hb dX6_act_106 rfl (lv_at hl 2 rfl) ?_
                refine r_get (v := .ref (a 14)) C G hX6 0 rfl rfl 4 (by decide) (by decide +kernel) rfl dX6_act_107 ?_
                refine r_av G hA (r_rS (na := 5) (As := [.int (nI (x1)), .ref (ca y1), .int (v), .ref (a 3), .ref (a 14)]) (rest := []) C G (c_X0_alter l D cI cO cL a ca ia n O I (va_up J 1 (σ94)) F E K G0 y1 (by omega) x1 v (by omega) (by omega) (by omega) (by omega) (by omega) hpx hwx (by omega) hfl) gX6_act_X0_alter rfl (by decide +kernel) ⟨Nat.le_of_ble_eq_true rfl, Nat.le_of_ble_eq_true rfl⟩ rfl hl.1 rfl (Nat.le_of_ble_eq_true rfl) dX6_act_110 ⟨by first | (simp only []; omega) | decide, by first | (simp only []; omega) | decide⟩) (fun w110 H locs hp110 G => ?_)
                obtain ⟨kd110, Ho110, Wo110, Lo110, o110, σ110, hac110, hb1, hb2, hb3, hb4, rfl⟩ := hp110
                replace hac110 : ActIs x1 (tn v) ((K 1) y1) ((K 2) y1) ((K 3) y1) (σ94) (G0 y1) kd110 Ho110 Wo110 Lo110 o110 := hac110
                refine lv_aload_n hx hb dX6_act_113 rfl (lv_at hl 2 rfl) ?_
                refine r_get (v := .ref (a 14)) C G hX6 0 rfl rfl 4 (by decide) (by decide +kernel) rfl dX6_act_114 ?_
                refine r_getN (v := .int (nI (Lo110))) C G hX1 14 rfl rfl 4 (by decide) (by decide +kernel) rfl dX6_act_117 ?_
                exact RET (nI (Lo110)) (bW cI cO a ca ia n O (va_up (va_up (va_up (va_up I 9 kd110) 10 Ho110) 11 Wo110) 12 Lo110) (va_up J 1 (σ110)) F (va_up E 0 o110) K G0) _ _ ls _ _ _ (by rw [tn_nI hx1, tn_nI hy1, tn_nI hz1, ← eS]; exact Or.inr (Or.inr (Or.inr (Or.inr (Or.inr (Or.inr (⟨by omega, hfl, _, _, _, _, _, _, hac110, hb1, hb2, hb3, hb4, rfl, rfl⟩))))))) G (by first | (simp only []; omega) | decide) (by first | (simp only []; omega) | decide) rfl dX6_act_120
              · skip
                exact absurd c45 (by decide)
            · skip
              refine lv_istore (lv' := [(6, .int ((-11))), (5, .ref (ca y1)), (0, .ref (a 0)), (1, .int (nI (x1))), (2, .int (nI (y1))), (3, .int (nI (z1))), (4, .int (v))]) hx hb dX6_act_41 hl (by decide) rfl (fun ls hl => ?_)
              refine lv_iload hx hb dX6_act_43 (lv_at hl 0 rfl) ?_
              refine lv_if_eq (tgt := 51) hx hb dX6_act_45 (by decide) (fun c45 => ?_) (fun c45 => ?_)
              · skip
                exact absurd c45 (by decide)
              · skip
                refine lv_iload hx hb dX6_act_48 (lv_at hl 0 rfl) ?_
                exact RET ((-11)) (bW cI cO a ca ia n O I J F E K G0) _ _ ls _ _ _ (by rw [tn_nI hx1, tn_nI hy1, tn_nI hz1]; exact Or.inr (Or.inl (⟨by omega, hfl, rfl, rfl⟩))) G (by first | (simp only []; omega) | decide) (by first | (simp only []; omega) | decide) rfl dX6_act_50
            · skip
              refine lv_istore (lv' := [(6, .int ((-12))), (5, .ref (ca y1)), (0, .ref (a 0)), (1, .int (nI (x1))), (2, .int (nI (y1))), (3, .int (nI (z1))), (4, .int (v))]) hx hb dX6_act_41 hl (by decide) rfl (fun ls hl => ?_)
              refine lv_iload hx hb dX6_act_43 (lv_at hl 0 rfl) ?_
              refine lv_if_eq (tgt := 51) hx hb dX6_act_45 (by decide) (fun c45 => ?_) (fun c45 => ?_)
              · skip
                exact absurd c45 (by decide)
              · skip
                refine lv_iload hx hb dX6_act_48 (lv_at hl 0 rfl) ?_
                exact RET ((-12)) (bW cI cO a ca ia n O I J F E K G0) _ _ ls _ _ _ (by rw [tn_nI hx1, tn_nI hy1, tn_nI hz1]; exact Or.inr (Or.inr (Or.inl (⟨by omega, hfl, rfl, rfl⟩)))) G (by first | (simp only []; omega) | decide) (by first | (simp only []; omega) | decide) rfl dX6_act_50
            · skip
              refine lv_istore (lv' := [(6, .int ((-13))), (5, .ref (ca y1)), (0, .ref (a 0)), (1, .int (nI (x1))), (2, .int (nI (y1))), (3, .int (nI (z1))), (4, .int (v))]) hx hb dX6_act_41 hl (by decide) rfl (fun ls hl => ?_)
              refine lv_iload hx hb dX6_act_43 (lv_at hl 0 rfl) ?_
              refine lv_if_eq (tgt := 51) hx hb dX6_act_45 (by decide) (fun c45 => ?_) (fun c45 => ?_)
              · skip
                exact absurd c45 (by decide)
              · skip
                refine lv_iload hx hb dX6_act_48 (lv_at hl 0 rfl) ?_
                exact RET ((-13)) (bW cI cO a ca ia n O I J F E K G0) _ _ ls _ _ _ (by rw [tn_nI hx1, tn_nI hy1, tn_nI hz1]; exact Or.inr (Or.inr (Or.inr (Or.inl (⟨by omega, hfl, rfl, rfl⟩))))) G (by first | (simp only []; omega) | decide) (by first | (simp only []; omega) | decide) rfl dX6_act_50
            · skip
              refine lv_istore (lv' := [(6, .int ((-15))), (5, .ref (ca y1)), (0, .ref (a 0)), (1, .int (nI (x1))), (2, .int (nI (y1))), (3, .int (nI (z1))), (4, .int (v))]) hx hb dX6_act_41 hl (by decide) rfl (fun ls hl => ?_)
              refine lv_iload hx hb dX6_act_43 (lv_at hl 0 rfl) ?_
              refine lv_if_eq (tgt := 51) hx hb dX6_act_45 (by decide) (fun c45 => ?_) (fun c45 => ?_)
              · skip
                exact absurd c45 (by decide)
              · skip
                refine lv_iload hx hb dX6_act_48 (lv_at hl 0 rfl) ?_
                exact RET ((-15)) (bW cI cO a ca ia n O I J F E K G0) _ _ ls _ _ _ (by rw [tn_nI hx1, tn_nI hy1, tn_nI hz1]; exact Or.inr (Or.inr (Or.inr (Or.inr (Or.inl (⟨by omega, hfl, rfl, rfl⟩)))))) G (by first | (simp only []; omega) | decide) (by first | (simp only []; omega) | decide) rfl dX6_act_50
            · skip
              refine lv_istore (lv' := [(6, .int ((-16))), (5, .ref (ca y1)), (0, .ref (a 0)), (1, .int (nI (x1))), (2, .int (nI (y1))), (3, .int (nI (z1))), (4, .int (v))]) hx hb dX6_act_41 hl (by decide) rfl (fun ls hl => ?_)
              refine lv_iload hx hb dX6_act_43 (lv_at hl 0 rfl) ?_
              refine lv_if_eq (tgt := 51) hx hb dX6_act_45 (by decide) (fun c45 => ?_) (fun c45 => ?_)
              · skip
                exact absurd c45 (by decide)
              · skip
                refine lv_iload hx hb dX6_act_48 (lv_at hl 0 rfl) ?_
                exact RET ((-16)) (bW cI cO a ca ia n O I J F E K G0) _ _ ls _ _ _ (by rw [tn_nI hx1, tn_nI hy1, tn_nI hz1]; exact Or.inr (Or.inr (Or.inr (Or.inr (Or.inr (Or.inl (⟨by omega, hfl, rfl, rfl⟩))))))) G (by first | (simp only []; omega) | decide) (by first | (simp only []; omega) | decide) rfl dX6_act_50
          · skip
            exact absurd c28 (by decide)
        · skip
          refine lv_if_ne (tgt := 33) hx hb dX6_act_28 (by decide) (fun c28 => ?_) (fun c28 => ?_)
          · skip
            exact absurd c28 (by decide)
          · skip
            refine lv_iconst (v := ((-1))) hx hb dX6_act_31 (by decide) ?_
            exact RET ((-1)) (bW cI cO a ca ia n O I J F E K G0) _ _ ls _ _ _ (Or.inl ⟨by omega, rfl, rfl⟩) G (by first | (simp only []; omega) | decide) (by first | (simp only []; omega) | decide) rfl dX6_act_32
    · skip
      refine lv_if_eq (tgt := 31) hx hb dX6_act_19 (by decide) (fun c19 => ?_) (fun c19 => ?_)
      · skip
        refine lv_iconst (v := ((-1))) hx hb dX6_act_31 (by decide) ?_
        exact RET ((-1)) (bW cI cO a ca ia n O I J F E K G0) _ _ ls _ _ _ (Or.inl ⟨by omega, rfl, rfl⟩) G (by first | (simp only []; omega) | decide) (by first | (simp only []; omega) | decide) rfl dX6_act_32
      · skip
        exact absurd c19 (by decide)
  · skip
    refine r_st (st' := [.null]) rfl ?_
    refine lv_astoreN (lv' := [(5, .null), (0, .ref (a 0)), (1, .int (x)), (2, .int (y)), (3, .int (z)), (4, .int (v))]) hx hb dX6_act_8 hl (by decide) rfl (fun ls hl => ?_)
    refine lv_aloadN hx hb dX6_act_10 (lv_at hl 0 rfl) ?_
    refine lv_ifnullN (tgt := 31) hx hb dX6_act_12 (by decide) ?_
    refine lv_iconst (v := ((-1))) hx hb dX6_act_31 (by decide) ?_
    exact RET ((-1)) (bW cI cO a ca ia n O I J F E K G0) _ _ ls _ _ _ (Or.inl ⟨by omega, rfl, rfl⟩) G (by first | (simp only []; omega) | decide) (by first | (simp only []; omega) | decide) rfl dX6_act_32
