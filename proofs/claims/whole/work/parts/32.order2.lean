theorem buf_at {n h p h1 c1 : Nat} {s s1 : Int64} {f g b1 g1 : Nat → Nat} (hh : 1 ≤ h ∨ n = 0) (hn : h ≤ n) (hp : p ≤ n) (e : buf dr nxg n h s (idn h f) g p = (h1, c1, s1, b1, g1)) : h1 ≤ h ∧ c1 ≤ n ∧ (c1 < n → h1 = h) ∧ (p < n → 0 < h1) := by
  obtain ⟨h9, c9, s9, b9, g9, e9, i1, i2, i3, i4, i5, i6, i7⟩ := buf_inv (nx := nxg) (s := s) (b := idn h f) (g := g) dr_ok hh hn (fun i q => by unfold idn; rw [if_pos q]; omega) p hp
  have q := e9.symm.trans e
  simp only [Prod.mk.injEq] at q
  obtain ⟨q1, q2, -⟩ := q
  rw [← q1, ← q2]
  refine ⟨i1, i2, i5, fun hp2 => ?_⟩
  by_cases z : c9 < n
  · have := i5 z; omega
  · omega
set_option maxHeartbeats 4000000 in
set_option maxRecDepth 100000 in
theorem c_X3_makeBuffered (l : Launch) (D : va_G) (cI cO cL : ClassId) (a ca ia : Nat → Nat) (n : Nat) (O : Nat → Option Nat) (I : Nat → Nat) (J : Nat → Int64) (F : Nat → Nat → Nat) (E : Nat → Nat → Int32) (K : Nat → Nat → Nat) (G0 : Nat → Nat → Int32) (h8 : I 8 ≤ 60) (h6 : 1 ≤ I 6 ∧ I 6 ≤ 60) : Kv l yX3_makeBuffered wsX3_makeBuffered { frames := 2, cells := 0, slots := 0, locals := 42 } D (TY cI cO cL) [.ref (a 4)] (bW cI cO a ca ia n O I J F E K G0) (fun w => ∃ g h σ, (∀ i, i < I 8 → g i = buO (I 8) (min (I 8) (I 6)) (J 1) i) ∧ (∀ i, i < I 8 → g i < I 8) ∧ w = bW cI cO a ca ia n O I (va_up J 1 (σ)) (va_up (va_up F 2 g) 3 h) E K G0) := by
  refine Kv.mk (cc := cX3_makeBuffered) (maxL := 5) (own := RX3) (by decide) rfl rfl (Nat.le_of_ble_eq_true rfl) ?_
  intro p e s m below meth c A Q ls C hname hA G hl RET
  obtain ⟨⟨hx, hb, hml, hown, hts⟩, hK, hN⟩ := id C
  have hl : lv_has ls 5 [(0, .ref (a 4))] := hl
  have hX3 : ∀ w ∈ u_ws RX3 TX3 10, w ∈ wsX3_makeBuffered := by decide +kernel
  have hX5 : ∀ w ∈ u_ws RX5 TX5 5, w ∈ wsX3_makeBuffered := by decide +kernel
  refine lv_aload_n hx hb dX3_makeBuffered_0 rfl (lv_at hl 0 rfl) ?_
  refine r_get (v := .int (nI (I 8))) C G hX3 4 rfl rfl 4 (by decide) (by decide +kernel) rfl dX3_makeBuffered_1 ?_
  refine lv_aload_n hx hb dX3_makeBuffered_4 rfl (lv_at hl 0 rfl) ?_
  refine r_get (v := .ref (a 2)) C G hX3 4 rfl rfl 1 (by decide) (by decide +kernel) rfl dX3_makeBuffered_5 ?_
  refine r_getN (v := .int (nI (I 6))) C G hX5 2 rfl rfl 3 (by decide) (by decide +kernel) rfl dX3_makeBuffered_8 ?_
  refine va_mmin hx hb (by rw [hml]; exact hl.1.symm) hown (hts (.methodLink RX3 49 Lib.Math.min.name) (by decide +kernel)) (hts (.static Lib.Math.min.name) (by decide +kernel)) (hts (.initialized "java/lang/Math") (by decide +kernel)) (hts (.code Lib.Math.min.name Lib.Math.min.code 2 (some .int)) (by decide +kernel)) (Nat.le_of_ble_eq_true rfl) (Nat.le_of_ble_eq_true rfl) (by first | (simp only []; omega) | decide) (by first | (simp only []; omega) | decide) dX3_makeBuffered_11 ?_
  refine r_top (y := nI (min (I 8) (I 6))) (nI_min (by omega) (by omega)) ?_
  refine lv_istore_n (lv' := [(1, .int (nI (min (I 8) (I 6)))), (0, .ref (a 4))]) hx hb dX3_makeBuffered_14 rfl hl (by decide) rfl (fun ls hl => ?_)
  refine lv_iconst (v := (nI (0))) hx hb dX3_makeBuffered_15 (by decide) ?_
  refine lv_istore_n (lv' := [(2, .int (nI (0))), (1, .int (nI (min (I 8) (I 6)))), (0, .ref (a 4))]) hx hb dX3_makeBuffered_16 rfl hl (by decide) rfl (fun ls hl => ?_)
  have lp17 : ∀ (fuel17 : Nat) (k : Nat) (hm : min (I 8) (I 6) - k < fuel17) (hk : k ≤ min (I 8) (I 6)) (H : Heap) (locs : List Loc) (ls : Array Slot), Wd A s.heap D (bW cI cO a ca ia n O I J (va_up F 3 (idn k (F 3))) E K G0) H locs → lv_has ls 5 [(0, .ref (a 4)), (1, .int (nI (min (I 8) (I 6)))), (2, .int (nI (k)))] → W p l e ({ frames := 2, cells := 0, slots := 0, locals := 42 } : Room) s m ([.ref (a 4)] : List Value).toArray below meth c H locs 0 0 Q (F0 m 17 ls []) := by
    intro fuel17
    induction fuel17 with
    | zero => intro k hm hk; exact absurd hm (by omega)
    | succ fuel17 ih17 =>
      intro k hm hk H locs ls G hl
      refine lv_iload_n hx hb dX3_makeBuffered_17 rfl (lv_at hl 2 rfl) ?_
      refine lv_iload_n hx hb dX3_makeBuffered_18 rfl (lv_at hl 1 rfl) ?_
      refine lv_icmp_ge (tgt := 35) hx hb dX3_makeBuffered_19 (by decide) (fun c19 => ?_) (fun c19 => ?_)
      · skip
        replace c19 : ((min (I 8) (I 6) : Nat) : Int) ≤ ((k : Nat) : Int) := (cv_le (nI_toInt (by omega)) (nI_toInt (by omega))).mp c19
        obtain rfl : k = min (I 8) (I 6) := by omega
        refine lv_iload_n hx hb dX3_makeBuffered_35 rfl (lv_at hl 1 rfl) ?_
        refine lv_istore_n (lv' := [(2, .int (nI (min (I 8) (I 6)))), (0, .ref (a 4)), (1, .int (nI (min (I 8) (I 6))))]) hx hb dX3_makeBuffered_36 rfl hl (by decide) rfl (fun ls hl => ?_)
        refine lv_iconst (v := (nI (0))) hx hb dX3_makeBuffered_37 (by decide) ?_
        refine lv_istore_n (lv' := [(3, .int (nI (0))), (2, .int (nI (min (I 8) (I 6)))), (0, .ref (a 4)), (1, .int (nI (min (I 8) (I 6))))]) hx hb dX3_makeBuffered_38 rfl hl (by decide) rfl (fun ls hl => ?_)
        have lp39 : ∀ (fuel39 : Nat) (p1 h1 c1 : Nat) (s1 : Int64) (b1 g1 : Nat → Nat) (hm : I 8 - p1 < fuel39) (hp : p1 ≤ I 8) (eB : buf dr nxg (I 8) (min (I 8) (I 6)) (J 1) (idn (min (I 8) (I 6)) (F 3)) (F 2) p1 = (h1, c1, s1, b1, g1)) (H : Heap) (locs : List Loc) (ls : Array Slot), Wd A s.heap D (bW cI cO a ca ia n O I (va_up J 1 s1) (va_up (va_up F 2 g1) 3 b1) E K G0) H locs → lv_has ls 5 [(0, .ref (a 4)), (1, .int (nI (h1))), (2, .int (nI (c1))), (3, .int (nI (p1)))] → W p l e ({ frames := 2, cells := 0, slots := 0, locals := 42 } : Room) s m ([.ref (a 4)] : List Value).toArray below meth c H locs 0 0 Q (F0 m 39 ls []) := by
          intro fuel39
          induction fuel39 with
          | zero => intro p1 h1 c1 s1 b1 g1 hm hp eB; exact absurd hm (by omega)
          | succ fuel39 ih39 =>
            intro p1 h1 c1 s1 b1 g1 hm hp eB H locs ls G hl
            refine lv_iload_n hx hb dX3_makeBuffered_39 rfl (lv_at hl 3 rfl) ?_
            refine lv_aload_n hx hb dX3_makeBuffered_40 rfl (lv_at hl 0 rfl) ?_
            refine r_get (v := .int (nI (I 8))) C G hX3 4 rfl rfl 4 (by decide) (by decide +kernel) rfl dX3_makeBuffered_41 ?_
            refine lv_icmp_ge (tgt := 118) hx hb dX3_makeBuffered_44 (by decide) (fun c44 => ?_) (fun c44 => ?_)
            · skip
              replace c44 : ((I 8 : Nat) : Int) ≤ ((p1 : Nat) : Int) := (cv_le (nI_toInt (by omega)) (nI_toInt (by omega))).mp c44
              exact RET (bW cI cO a ca ia n O I (va_up J 1 s1) (va_up (va_up F 2 g1) 3 b1) E K G0) _ _ ls _ _ _ (by obtain rfl : p1 = I 8 := (by omega); exact ⟨g1, b1, s1, (buO_of (by omega) (by omega) eB).1, (buO_of (by omega) (by omega) eB).2, rfl⟩) G (by first | (simp only []; omega) | decide) (by first | (simp only []; omega) | decide) dX3_makeBuffered_118
            · skip
              replace c44 : ((p1 : Nat) : Int) < ((I 8 : Nat) : Int) := Int.not_le.mp (fun h => c44 ((cv_le (nI_toInt (by omega)) (nI_toInt (by omega))).mpr h))
              obtain ⟨i1, i2, i5, i4⟩ := buf_at (by omega) (by omega) hp eB
              have hh9 := i4 (by omega)
              refine lv_iload_n hx hb dX3_makeBuffered_47 rfl (lv_at hl 1 rfl) ?_
              refine lv_if_le (tgt := 118) hx hb dX3_makeBuffered_48 (by decide) (fun c48 => ?_) (fun c48 => ?_)
              · skip
                replace c48 : ((h1 : Nat) : Int) ≤ (0) := (cv_le (nI_toInt (by omega)) (by decide)).mp c48
                exact absurd c48 (by omega)
              · skip
                replace c48 : (0) < ((h1 : Nat) : Int) := Int.not_le.mp (fun h => c48 ((cv_le (nI_toInt (by omega)) (by decide)).mpr h))
                refine lv_aload_n hx hb dX3_makeBuffered_51 rfl (lv_at hl 0 rfl) ?_
                refine r_get (v := .ref (a 3)) C G hX3 4 rfl rfl 2 (by decide) (by decide +kernel) rfl dX3_makeBuffered_52 ?_
                refine lv_iload_n hx hb dX3_makeBuffered_55 rfl (lv_at hl 1 rfl) ?_
                refine r_ai G hA (r_rV (na := 1) (As := [.int (nI (h1))]) (rest := []) C G (c_X2_below l D cI cO cL a ca ia n O I (va_up J 1 s1) (va_up (va_up F 2 g1) 3 b1) E K G0 h1 (by omega) (by omega)) gX3_makeBuffered_X2_below rfl (by decide +kernel) ⟨Nat.le_of_ble_eq_true rfl, Nat.le_of_ble_eq_true rfl⟩ 3 rfl rfl rfl hl.1 rfl (Nat.le_of_ble_eq_true rfl) dX3_makeBuffered_56 ⟨by first | (simp only []; omega) | decide, by first | (simp only []; omega) | decide⟩) (fun r56 w56 H locs hp56 G => ?_)
                obtain ⟨d56, σ56, eσ56, ed56, hd56, rfl, rfl⟩ := hp56
                replace eσ56 : σ56 = nxg s1 := eσ56
                refine r_top (y := nI (d56)) rfl ?_
                refine lv_istore (lv' := [(4, .int (nI (d56))), (0, .ref (a 4)), (1, .int (nI (h1))), (2, .int (nI (c1))), (3, .int (nI (p1)))]) hx hb dX3_makeBuffered_59 hl (by decide) rfl (fun ls hl => ?_)
                refine lv_aload_n hx hb dX3_makeBuffered_61 rfl (lv_at hl 1 rfl) ?_
                refine r_get (v := .ref (a 8)) C G hX3 4 rfl rfl 3 (by decide) (by decide +kernel) rfl dX3_makeBuffered_62 ?_
                refine lv_iload_n hx hb dX3_makeBuffered_65 rfl (lv_at hl 4 rfl) ?_
                refine lv_aload_n hx hb dX3_makeBuffered_66 rfl (lv_at hl 1 rfl) ?_
                refine r_get (v := .ref (a 9)) C G hX3 4 rfl rfl 5 (by decide) (by decide +kernel) rfl dX3_makeBuffered_67 ?_
                refine lv_iload hx hb dX3_makeBuffered_70 (lv_at hl 0 rfl) ?_
                refine r_iald (v := nI (b1 d56)) C G 9 0 rfl rfl d56 rfl (by omega) (by omega) rfl dX3_makeBuffered_72 ?_
                refine r_iast (ws' := bW cI cO a ca ia n O I (va_up J 1 (σ56)) (va_up (va_up F 3 b1) 2 (va_up g1 p1 (b1 d56))) E K G0) C G 8 0 rfl rfl p1 rfl (by omega) (by omega) (nI_upd _ _ _) dX3_makeBuffered_73 rfl (fun H locs G => ?_)
                refine lv_iload_n hx hb dX3_makeBuffered_74 rfl (lv_at hl 3 rfl) ?_
                refine lv_aload_n hx hb dX3_makeBuffered_75 rfl (lv_at hl 1 rfl) ?_
                refine r_get (v := .int (nI (I 8))) C G hX3 4 rfl rfl 4 (by decide) (by decide +kernel) rfl dX3_makeBuffered_76 ?_
                refine lv_icmp_ge (tgt := 96) hx hb dX3_makeBuffered_79 (by decide) (fun c79 => ?_) (fun c79 => ?_)
                · skip
                  replace c79 : ((I 8 : Nat) : Int) ≤ ((c1 : Nat) : Int) := (cv_le (nI_toInt (by omega)) (nI_toInt (by omega))).mp c79
                  refine lv_iinc (v := nI (h1 - 1)) (lv' := [(1, .int (nI (h1 - 1))), (4, .int (nI (d56))), (0, .ref (a 4)), (2, .int (nI (c1))), (3, .int (nI (p1)))]) hx hb dX3_makeBuffered_96 hl (k := 2) rfl (sb_m1 (by omega)) (by decide) rfl (fun ls hl => ?_)
                  refine lv_aload_n hx hb dX3_makeBuffered_99 rfl (lv_at hl 2 rfl) ?_
                  refine r_get (v := .ref (a 9)) C G hX3 4 rfl rfl 5 (by decide) (by decide +kernel) rfl dX3_makeBuffered_100 ?_
                  refine lv_iload hx hb dX3_makeBuffered_103 (lv_at hl 1 rfl) ?_
                  refine lv_aload_n hx hb dX3_makeBuffered_105 rfl (lv_at hl 2 rfl) ?_
                  refine r_get (v := .ref (a 9)) C G hX3 4 rfl rfl 5 (by decide) (by decide +kernel) rfl dX3_makeBuffered_106 ?_
                  refine lv_iload_n hx hb dX3_makeBuffered_109 rfl (lv_at hl 0 rfl) ?_
                  refine r_iald (v := nI (b1 (h1 - 1))) C G 9 0 rfl rfl (h1 - 1) rfl (by omega) (by omega) rfl dX3_makeBuffered_110 ?_
                  refine r_iast (ws' := bW cI cO a ca ia n O I (va_up J 1 (σ56)) (va_up (va_up F 2 (va_up g1 p1 (b1 d56))) 3 (va_up b1 d56 (b1 (h1 - 1)))) E K G0) C G 9 0 rfl rfl d56 rfl (by omega) (by omega) (nI_upd _ _ _) dX3_makeBuffered_111 rfl (fun H locs G => ?_)
                  refine lv_iinc (v := nI (p1 + 1)) (lv' := [(3, .int (nI (p1 + 1))), (1, .int (nI (h1 - 1))), (4, .int (nI (d56))), (0, .ref (a 4)), (2, .int (nI (c1)))]) hx hb dX3_makeBuffered_112 hl (k := 4) rfl (inc_n _ 1) (by decide) rfl (fun ls hl => ?_)
                  refine lv_goto (tgt := 39) hx hb dX3_makeBuffered_115 (by decide) ?_
                  exact ih39 (p1 + 1) (h1 - 1) c1 σ56 (va_up b1 d56 (b1 (h1 - 1))) (va_up g1 p1 (b1 d56)) (by omega) (by omega) (buf_s2 eB eσ56 ed56 (by omega)) _ _ _ (G.eq (rfl)) (lv_sub hl [3, 1, 4, 0] rfl)
                · skip
                  replace c79 : ((c1 : Nat) : Int) < ((I 8 : Nat) : Int) := Int.not_le.mp (fun h => c79 ((cv_le (nI_toInt (by omega)) (nI_toInt (by omega))).mpr h))
                  refine lv_aload_n hx hb dX3_makeBuffered_82 rfl (lv_at hl 1 rfl) ?_
                  refine r_get (v := .ref (a 9)) C G hX3 4 rfl rfl 5 (by decide) (by decide +kernel) rfl dX3_makeBuffered_83 ?_
                  refine lv_iload hx hb dX3_makeBuffered_86 (lv_at hl 0 rfl) ?_
                  refine lv_iload_n hx hb dX3_makeBuffered_88 rfl (lv_at hl 3 rfl) ?_
                  refine r_iast (ws' := bW cI cO a ca ia n O I (va_up J 1 (σ56)) (va_up (va_up F 2 (va_up g1 p1 (b1 d56))) 3 (va_up b1 d56 c1)) E K G0) C G 9 0 rfl rfl d56 rfl (by omega) (by omega) (nI_upd _ _ _) dX3_makeBuffered_89 rfl (fun H locs G => ?_)
                  refine lv_iinc (v := nI (c1 + 1)) (lv' := [(2, .int (nI (c1 + 1))), (4, .int (nI (d56))), (0, .ref (a 4)), (1, .int (nI (h1))), (3, .int (nI (p1)))]) hx hb dX3_makeBuffered_90 hl (k := 3) rfl (inc_n _ 1) (by decide) rfl (fun ls hl => ?_)
                  refine lv_goto (tgt := 112) hx hb dX3_makeBuffered_93 (by decide) ?_
                  refine lv_iinc (v := nI (p1 + 1)) (lv' := [(3, .int (nI (p1 + 1))), (2, .int (nI (c1 + 1))), (4, .int (nI (d56))), (0, .ref (a 4)), (1, .int (nI (h1)))]) hx hb dX3_makeBuffered_112 hl (k := 4) rfl (inc_n _ 1) (by decide) rfl (fun ls hl => ?_)
                  refine lv_goto (tgt := 39) hx hb dX3_makeBuffered_115 (by decide) ?_
                  exact ih39 (p1 + 1) h1 (c1 + 1) σ56 (va_up b1 d56 c1) (va_up g1 p1 (b1 d56)) (by omega) (by omega) (buf_s1 eB eσ56 ed56 (by omega)) _ _ _ (G.eq (rfl)) (lv_sub hl [3, 4, 1, 0] rfl)
        exact lp39 (I 8 + 1) 0 (min (I 8) (I 6)) (min (I 8) (I 6)) (J 1) (idn (min (I 8) (I 6)) (F 3)) (F 2) (by omega) (by omega) rfl _ _ _ (G.eq (rfl)) (lv_sub hl [2, 3, 1, 0] rfl)
      · skip
        replace c19 : ((k : Nat) : Int) < ((min (I 8) (I 6) : Nat) : Int) := Int.not_le.mp (fun h => c19 ((cv_le (nI_toInt (by omega)) (nI_toInt (by omega))).mpr h))
        refine lv_aload_n hx hb dX3_makeBuffered_22 rfl (lv_at hl 0 rfl) ?_
        refine r_get (v := .ref (a 9)) C G hX3 4 rfl rfl 5 (by decide) (by decide +kernel) rfl dX3_makeBuffered_23 ?_
        refine lv_iload_n hx hb dX3_makeBuffered_26 rfl (lv_at hl 2 rfl) ?_
        refine lv_iload_n hx hb dX3_makeBuffered_27 rfl (lv_at hl 2 rfl) ?_
        refine r_iast (ws' := bW cI cO a ca ia n O I J (va_up F 3 (idn (k + 1) (F 3))) E K G0) C G 9 0 rfl rfl k rfl (by omega) (by omega) (by rw [nI_upd]; exact congrArg (fun (g : Nat → Nat) => fun i => nI (g i)) (idn_s _ _)) dX3_makeBuffered_28 rfl (fun H locs G => ?_)
        refine lv_iinc (v := nI (k + 1)) (lv' := [(2, .int (nI (k + 1))), (0, .ref (a 4)), (1, .int (nI (min (I 8) (I 6))))]) hx hb dX3_makeBuffered_29 hl (k := 2) rfl (inc_n _ 1) (by decide) rfl (fun ls hl => ?_)
        refine lv_goto (tgt := 17) hx hb dX3_makeBuffered_32 (by decide) ?_
        exact ih17 (k + 1) (by omega) (by omega) _ _ _ (G.eq (rfl)) (lv_sub hl [1, 2, 0] rfl)
  exact lp17 (min (I 8) (I 6) + 1) 0 (by omega) (by omega) _ _ _ (G.eq (by rw [idn_0]; rfl)) (lv_sub hl [2, 1, 0] rfl)
set_option maxHeartbeats 4000000 in
set_option maxRecDepth 100000 in
theorem c_X7_buffered (l : Launch) (D : va_G) (cI cO cL : ClassId) (b : Nat → Nat) (I : Nat → Nat) (J : Nat → Int64) (F : Nat → Nat → Nat) (G0 : Nat → Nat → Int32) (h1 : I 1 ≤ 60) (h4 : 1 ≤ I 4 ∧ I 4 ≤ 60) : Kv l yX7_buffered wsX7_buffered { frames := 2, cells := 0, slots := 0, locals := 45 } D (TY cI cO cL) [.ref (b 0)] (mW cI b I J F G0) (fun w => ∃ g h σ, (∀ i, i < I 1 → g i = buO (I 1) (min (I 1) (I 4)) (J 1) i) ∧ (∀ i, i < I 1 → g i < I 1) ∧ w = mW cI b I (va_up J 1 (σ)) (va_up (va_up F 6 g) 7 h) G0) := by
  refine Kv.mk (cc := cX7_buffered) (maxL := 5) (own := RX7) (by decide) rfl rfl (Nat.le_of_ble_eq_true rfl) ?_
  intro p e s m below meth c A Q ls C hname hA G hl RET
  obtain ⟨⟨hx, hb, hml, hown, hts⟩, hK, hN⟩ := id C
  have hl : lv_has ls 5 [(0, .ref (b 0))] := hl
  have hX7 : ∀ w ∈ u_ws RX7 TX7 30, w ∈ wsX7_buffered := by decide +kernel
  refine lv_aload_n hx hb dX7_buffered_0 rfl (lv_at hl 0 rfl) ?_
  refine r_get (v := .int (nI (I 4))) C G hX7 0 rfl rfl 13 (by decide) (by decide +kernel) rfl dX7_buffered_1 ?_
  refine lv_aload_n hx hb dX7_buffered_4 rfl (lv_at hl 0 rfl) ?_
  refine r_get (v := .int (nI (I 1))) C G hX7 0 rfl rfl 3 (by decide) (by decide +kernel) rfl dX7_buffered_5 ?_
  refine lv_icmp_ge (tgt := 18) hx hb dX7_buffered_8 (by decide) (fun c8 => ?_) (fun c8 => ?_)
  · skip
    replace c8 : ((I 1 : Nat) : Int) ≤ ((I 4 : Nat) : Int) := (cv_le (nI_toInt (by omega)) (nI_toInt (by omega))).mp c8
    refine lv_aload_n hx hb dX7_buffered_18 rfl (lv_at hl 0 rfl) ?_
    refine r_get (v := .int (nI (I 1))) C G hX7 0 rfl rfl 3 (by decide) (by decide +kernel) rfl dX7_buffered_19 ?_
    refine r_top (y := nI (min (I 1) (I 4))) (congrArg nI (by omega)) ?_
    refine lv_istore_n (lv' := [(1, .int (nI (min (I 1) (I 4)))), (0, .ref (b 0))]) hx hb dX7_buffered_22 rfl hl (by decide) rfl (fun ls hl => ?_)
    refine lv_iconst (v := (nI (0))) hx hb dX7_buffered_23 (by decide) ?_
    refine lv_istore_n (lv' := [(2, .int (nI (0))), (1, .int (nI (min (I 1) (I 4)))), (0, .ref (b 0))]) hx hb dX7_buffered_24 rfl hl (by decide) rfl (fun ls hl => ?_)
    have lp25 : ∀ (fuel25 : Nat) (k : Nat) (hm : min (I 1) (I 4) - k < fuel25) (hk : k ≤ min (I 1) (I 4)) (H : Heap) (locs : List Loc) (ls : Array Slot), Wd A s.heap D (mW cI b I J (va_up F 7 (idn k (F 7))) G0) H locs → lv_has ls 5 [(0, .ref (b 0)), (1, .int (nI (min (I 1) (I 4)))), (2, .int (nI (k)))] → W p l e ({ frames := 2, cells := 0, slots := 0, locals := 45 } : Room) s m ([.ref (b 0)] : List Value).toArray below meth c H locs 0 0 Q (F0 m 25 ls []) := by
      intro fuel25
      induction fuel25 with
      | zero => intro k hm hk; exact absurd hm (by omega)
      | succ fuel25 ih25 =>
        intro k hm hk H locs ls G hl
        refine lv_iload_n hx hb dX7_buffered_25 rfl (lv_at hl 2 rfl) ?_
        refine lv_iload_n hx hb dX7_buffered_26 rfl (lv_at hl 1 rfl) ?_
        refine lv_icmp_ge (tgt := 43) hx hb dX7_buffered_27 (by decide) (fun c27 => ?_) (fun c27 => ?_)
        · skip
          replace c27 : ((min (I 1) (I 4) : Nat) : Int) ≤ ((k : Nat) : Int) := (cv_le (nI_toInt (by omega)) (nI_toInt (by omega))).mp c27
          obtain rfl : k = min (I 1) (I 4) := by omega
          refine lv_iload_n hx hb dX7_buffered_43 rfl (lv_at hl 1 rfl) ?_
          refine lv_istore_n (lv' := [(2, .int (nI (min (I 1) (I 4)))), (0, .ref (b 0)), (1, .int (nI (min (I 1) (I 4))))]) hx hb dX7_buffered_44 rfl hl (by decide) rfl (fun ls hl => ?_)
          refine lv_iconst (v := (nI (0))) hx hb dX7_buffered_45 (by decide) ?_
          refine lv_istore_n (lv' := [(3, .int (nI (0))), (2, .int (nI (min (I 1) (I 4)))), (0, .ref (b 0)), (1, .int (nI (min (I 1) (I 4))))]) hx hb dX7_buffered_46 rfl hl (by decide) rfl (fun ls hl => ?_)
          have lp47 : ∀ (fuel47 : Nat) (p1 h1 c1 : Nat) (s1 : Int64) (b1 g1 : Nat → Nat) (hm : I 1 - p1 < fuel47) (hp : p1 ≤ I 1) (eB : buf dr nxg (I 1) (min (I 1) (I 4)) (J 1) (idn (min (I 1) (I 4)) (F 7)) (F 6) p1 = (h1, c1, s1, b1, g1)) (H : Heap) (locs : List Loc) (ls : Array Slot), Wd A s.heap D (mW cI b I (va_up J 1 s1) (va_up (va_up F 6 g1) 7 b1) G0) H locs → lv_has ls 5 [(0, .ref (b 0)), (1, .int (nI (h1))), (2, .int (nI (c1))), (3, .int (nI (p1)))] → W p l e ({ frames := 2, cells := 0, slots := 0, locals := 45 } : Room) s m ([.ref (b 0)] : List Value).toArray below meth c H locs 0 0 Q (F0 m 47 ls []) := by
            intro fuel47
            induction fuel47 with
            | zero => intro p1 h1 c1 s1 b1 g1 hm hp eB; exact absurd hm (by omega)
            | succ fuel47 ih47 =>
              intro p1 h1 c1 s1 b1 g1 hm hp eB H locs ls G hl
              refine lv_iload_n hx hb dX7_buffered_47 rfl (lv_at hl 3 rfl) ?_
              refine lv_aload_n hx hb dX7_buffered_48 rfl (lv_at hl 0 rfl) ?_
              refine r_get (v := .int (nI (I 1))) C G hX7 0 rfl rfl 3 (by decide) (by decide +kernel) rfl dX7_buffered_49 ?_
              refine lv_icmp_ge (tgt := 120) hx hb dX7_buffered_52 (by decide) (fun c52 => ?_) (fun c52 => ?_)
              · skip
                replace c52 : ((I 1 : Nat) : Int) ≤ ((p1 : Nat) : Int) := (cv_le (nI_toInt (by omega)) (nI_toInt (by omega))).mp c52
                exact RET (mW cI b I (va_up J 1 s1) (va_up (va_up F 6 g1) 7 b1) G0) _ _ ls _ _ _ (by obtain rfl : p1 = I 1 := (by omega); exact ⟨g1, b1, s1, (buO_of (by omega) (by omega) eB).1, (buO_of (by omega) (by omega) eB).2, rfl⟩) G (by first | (simp only []; omega) | decide) (by first | (simp only []; omega) | decide) dX7_buffered_120
              · skip
                replace c52 : ((p1 : Nat) : Int) < ((I 1 : Nat) : Int) := Int.not_le.mp (fun h => c52 ((cv_le (nI_toInt (by omega)) (nI_toInt (by omega))).mpr h))
                obtain ⟨i1, i2, i5, i4⟩ := buf_at (by omega) (by omega) hp eB
                have hh9 := i4 (by omega)
                refine lv_aload_n hx hb dX7_buffered_55 rfl (lv_at hl 0 rfl) ?_
                refine lv_iload_n hx hb dX7_buffered_56 rfl (lv_at hl 1 rfl) ?_
                refine lv_i2l (v := lN (h1)) hx hb dX7_buffered_57 (nI_l (by omega)) ?_
                refine r_ai G hA (r_rV (na := 1) (As := [.long (lN (h1))]) (rest := []) C G (c_X7_draw l D cI cO cL b I (va_up J 1 s1) (va_up (va_up F 6 g1) 7 b1) G0 h1 (by omega) (by omega)) gX7_buffered_X7_draw rfl (by decide +kernel) ⟨Nat.le_of_ble_eq_true rfl, Nat.le_of_ble_eq_true rfl⟩ 0 rfl rfl rfl hl.1 rfl (Nat.le_of_ble_eq_true rfl) dX7_buffered_58 ⟨by first | (simp only []; omega) | decide, by first | (simp only []; omega) | decide⟩) (fun r58 w58 H locs hp58 G => ?_)
                obtain ⟨d58, σ58, eσ58, ed58, hd58, rfl, rfl⟩ := hp58
                replace eσ58 : σ58 = nxg s1 := eσ58
                refine r_top (y := nI (d58)) rfl ?_
                refine lv_istore (lv' := [(4, .int (nI (d58))), (0, .ref (b 0)), (1, .int (nI (h1))), (2, .int (nI (c1))), (3, .int (nI (p1)))]) hx hb dX7_buffered_61 hl (by decide) rfl (fun ls hl => ?_)
                refine lv_aload_n hx hb dX7_buffered_63 rfl (lv_at hl 1 rfl) ?_
                refine r_get (v := .ref (b 8)) C G hX7 0 rfl rfl 15 (by decide) (by decide +kernel) rfl dX7_buffered_64 ?_
                refine lv_iload_n hx hb dX7_buffered_67 rfl (lv_at hl 4 rfl) ?_
                refine lv_aload_n hx hb dX7_buffered_68 rfl (lv_at hl 1 rfl) ?_
                refine r_get (v := .ref (b 9)) C G hX7 0 rfl rfl 16 (by decide) (by decide +kernel) rfl dX7_buffered_69 ?_
                refine lv_iload hx hb dX7_buffered_72 (lv_at hl 0 rfl) ?_
                refine r_iald (v := nI (b1 d58)) C G 9 0 rfl rfl d58 rfl (by omega) (by omega) rfl dX7_buffered_74 ?_
                refine r_iast (ws' := mW cI b I (va_up J 1 (σ58)) (va_up (va_up F 7 b1) 6 (va_up g1 p1 (b1 d58))) G0) C G 8 0 rfl rfl p1 rfl (by omega) (by omega) (nI_upd _ _ _) dX7_buffered_75 rfl (fun H locs G => ?_)
                refine lv_iload_n hx hb dX7_buffered_76 rfl (lv_at hl 3 rfl) ?_
                refine lv_aload_n hx hb dX7_buffered_77 rfl (lv_at hl 1 rfl) ?_
                refine r_get (v := .int (nI (I 1))) C G hX7 0 rfl rfl 3 (by decide) (by decide +kernel) rfl dX7_buffered_78 ?_
                refine lv_icmp_ge (tgt := 98) hx hb dX7_buffered_81 (by decide) (fun c81 => ?_) (fun c81 => ?_)
                · skip
                  replace c81 : ((I 1 : Nat) : Int) ≤ ((c1 : Nat) : Int) := (cv_le (nI_toInt (by omega)) (nI_toInt (by omega))).mp c81
                  refine lv_iinc (v := nI (h1 - 1)) (lv' := [(1, .int (nI (h1 - 1))), (4, .int (nI (d58))), (0, .ref (b 0)), (2, .int (nI (c1))), (3, .int (nI (p1)))]) hx hb dX7_buffered_98 hl (k := 2) rfl (sb_m1 (by omega)) (by decide) rfl (fun ls hl => ?_)
                  refine lv_aload_n hx hb dX7_buffered_101 rfl (lv_at hl 2 rfl) ?_
                  refine r_get (v := .ref (b 9)) C G hX7 0 rfl rfl 16 (by decide) (by decide +kernel) rfl dX7_buffered_102 ?_
                  refine lv_iload hx hb dX7_buffered_105 (lv_at hl 1 rfl) ?_
                  refine lv_aload_n hx hb dX7_buffered_107 rfl (lv_at hl 2 rfl) ?_
                  refine r_get (v := .ref (b 9)) C G hX7 0 rfl rfl 16 (by decide) (by decide +kernel) rfl dX7_buffered_108 ?_
                  refine lv_iload_n hx hb dX7_buffered_111 rfl (lv_at hl 0 rfl) ?_
                  refine r_iald (v := nI (b1 (h1 - 1))) C G 9 0 rfl rfl (h1 - 1) rfl (by omega) (by omega) rfl dX7_buffered_112 ?_
                  refine r_iast (ws' := mW cI b I (va_up J 1 (σ58)) (va_up (va_up F 6 (va_up g1 p1 (b1 d58))) 7 (va_up b1 d58 (b1 (h1 - 1)))) G0) C G 9 0 rfl rfl d58 rfl (by omega) (by omega) (nI_upd _ _ _) dX7_buffered_113 rfl (fun H locs G => ?_)
                  refine lv_iinc (v := nI (p1 + 1)) (lv' := [(3, .int (nI (p1 + 1))), (1, .int (nI (h1 - 1))), (4, .int (nI (d58))), (0, .ref (b 0)), (2, .int (nI (c1)))]) hx hb dX7_buffered_114 hl (k := 4) rfl (inc_n _ 1) (by decide) rfl (fun ls hl => ?_)
                  refine lv_goto (tgt := 47) hx hb dX7_buffered_117 (by decide) ?_
                  exact ih47 (p1 + 1) (h1 - 1) c1 σ58 (va_up b1 d58 (b1 (h1 - 1))) (va_up g1 p1 (b1 d58)) (by omega) (by omega) (buf_s2 eB eσ58 ed58 (by omega)) _ _ _ (G.eq (rfl)) (lv_sub hl [3, 1, 4, 0] rfl)
                · skip
                  replace c81 : ((c1 : Nat) : Int) < ((I 1 : Nat) : Int) := Int.not_le.mp (fun h => c81 ((cv_le (nI_toInt (by omega)) (nI_toInt (by omega))).mpr h))
                  refine lv_aload_n hx hb dX7_buffered_84 rfl (lv_at hl 1 rfl) ?_
                  refine r_get (v := .ref (b 9)) C G hX7 0 rfl rfl 16 (by decide) (by decide +kernel) rfl dX7_buffered_85 ?_
                  refine lv_iload hx hb dX7_buffered_88 (lv_at hl 0 rfl) ?_
                  refine lv_iload_n hx hb dX7_buffered_90 rfl (lv_at hl 3 rfl) ?_
                  refine r_iast (ws' := mW cI b I (va_up J 1 (σ58)) (va_up (va_up F 6 (va_up g1 p1 (b1 d58))) 7 (va_up b1 d58 c1)) G0) C G 9 0 rfl rfl d58 rfl (by omega) (by omega) (nI_upd _ _ _) dX7_buffered_91 rfl (fun H locs G => ?_)
                  refine lv_iinc (v := nI (c1 + 1)) (lv' := [(2, .int (nI (c1 + 1))), (4, .int (nI (d58))), (0, .ref (b 0)), (1, .int (nI (h1))), (3, .int (nI (p1)))]) hx hb dX7_buffered_92 hl (k := 3) rfl (inc_n _ 1) (by decide) rfl (fun ls hl => ?_)
                  refine lv_goto (tgt := 114) hx hb dX7_buffered_95 (by decide) ?_
                  refine lv_iinc (v := nI (p1 + 1)) (lv' := [(3, .int (nI (p1 + 1))), (2, .int (nI (c1 + 1))), (4, .int (nI (d58))), (0, .ref (b 0)), (1, .int (nI (h1)))]) hx hb dX7_buffered_114 hl (k := 4) rfl (inc_n _ 1) (by decide) rfl (fun ls hl => ?_)
                  refine lv_goto (tgt := 47) hx hb dX7_buffered_117 (by decide) ?_
                  exact ih47 (p1 + 1) h1 (c1 + 1) σ58 (va_up b1 d58 c1) (va_up g1 p1 (b1 d58)) (by omega) (by omega) (buf_s1 eB eσ58 ed58 (by omega)) _ _ _ (G.eq (rfl)) (lv_sub hl [3, 4, 1, 0] rfl)
          exact lp47 (I 1 + 1) 0 (min (I 1) (I 4)) (min (I 1) (I 4)) (J 1) (idn (min (I 1) (I 4)) (F 7)) (F 6) (by omega) (by omega) rfl _ _ _ (G.eq (rfl)) (lv_sub hl [2, 3, 1, 0] rfl)
        · skip
          replace c27 : ((k : Nat) : Int) < ((min (I 1) (I 4) : Nat) : Int) := Int.not_le.mp (fun h => c27 ((cv_le (nI_toInt (by omega)) (nI_toInt (by omega))).mpr h))
          refine lv_aload_n hx hb dX7_buffered_30 rfl (lv_at hl 0 rfl) ?_
          refine r_get (v := .ref (b 9)) C G hX7 0 rfl rfl 16 (by decide) (by decide +kernel) rfl dX7_buffered_31 ?_
          refine lv_iload_n hx hb dX7_buffered_34 rfl (lv_at hl 2 rfl) ?_
          refine lv_iload_n hx hb dX7_buffered_35 rfl (lv_at hl 2 rfl) ?_
          refine r_iast (ws' := mW cI b I J (va_up F 7 (idn (k + 1) (F 7))) G0) C G 9 0 rfl rfl k rfl (by omega) (by omega) (by rw [nI_upd]; exact congrArg (fun (g : Nat → Nat) => fun i => nI (g i)) (idn_s _ _)) dX7_buffered_36 rfl (fun H locs G => ?_)
          refine lv_iinc (v := nI (k + 1)) (lv' := [(2, .int (nI (k + 1))), (0, .ref (b 0)), (1, .int (nI (min (I 1) (I 4))))]) hx hb dX7_buffered_37 hl (k := 2) rfl (inc_n _ 1) (by decide) rfl (fun ls hl => ?_)
          refine lv_goto (tgt := 25) hx hb dX7_buffered_40 (by decide) ?_
          exact ih25 (k + 1) (by omega) (by omega) _ _ _ (G.eq (rfl)) (lv_sub hl [1, 2, 0] rfl)
    exact lp25 (min (I 1) (I 4) + 1) 0 (by omega) (by omega) _ _ _ (G.eq (by rw [idn_0]; rfl)) (lv_sub hl [2, 1, 0] rfl)
  · skip
    replace c8 : ((I 4 : Nat) : Int) < ((I 1 : Nat) : Int) := Int.not_le.mp (fun h => c8 ((cv_le (nI_toInt (by omega)) (nI_toInt (by omega))).mpr h))
    refine lv_aload_n hx hb dX7_buffered_11 rfl (lv_at hl 0 rfl) ?_
    refine r_get (v := .int (nI (I 4))) C G hX7 0 rfl rfl 13 (by decide) (by decide +kernel) rfl dX7_buffered_12 ?_
    refine lv_goto (tgt := 22) hx hb dX7_buffered_15 (by decide) ?_
    refine r_top (y := nI (min (I 1) (I 4))) (congrArg nI (by omega)) ?_
    refine lv_istore_n (lv' := [(1, .int (nI (min (I 1) (I 4)))), (0, .ref (b 0))]) hx hb dX7_buffered_22 rfl hl (by decide) rfl (fun ls hl => ?_)
    refine lv_iconst (v := (nI (0))) hx hb dX7_buffered_23 (by decide) ?_
    refine lv_istore_n (lv' := [(2, .int (nI (0))), (1, .int (nI (min (I 1) (I 4)))), (0, .ref (b 0))]) hx hb dX7_buffered_24 rfl hl (by decide) rfl (fun ls hl => ?_)
    have lp25 : ∀ (fuel25 : Nat) (k : Nat) (hm : min (I 1) (I 4) - k < fuel25) (hk : k ≤ min (I 1) (I 4)) (H : Heap) (locs : List Loc) (ls : Array Slot), Wd A s.heap D (mW cI b I J (va_up F 7 (idn k (F 7))) G0) H locs → lv_has ls 5 [(0, .ref (b 0)), (1, .int (nI (min (I 1) (I 4)))), (2, .int (nI (k)))] → W p l e ({ frames := 2, cells := 0, slots := 0, locals := 45 } : Room) s m ([.ref (b 0)] : List Value).toArray below meth c H locs 0 0 Q (F0 m 25 ls []) := by
      intro fuel25
      induction fuel25 with
      | zero => intro k hm hk; exact absurd hm (by omega)
      | succ fuel25 ih25 =>
        intro k hm hk H locs ls G hl
        refine lv_iload_n hx hb dX7_buffered_25 rfl (lv_at hl 2 rfl) ?_
        refine lv_iload_n hx hb dX7_buffered_26 rfl (lv_at hl 1 rfl) ?_
        refine lv_icmp_ge (tgt := 43) hx hb dX7_buffered_27 (by decide) (fun c27 => ?_) (fun c27 => ?_)
        · skip
          replace c27 : ((min (I 1) (I 4) : Nat) : Int) ≤ ((k : Nat) : Int) := (cv_le (nI_toInt (by omega)) (nI_toInt (by omega))).mp c27
          obtain rfl : k = min (I 1) (I 4) := by omega
          refine lv_iload_n hx hb dX7_buffered_43 rfl (lv_at hl 1 rfl) ?_
          refine lv_istore_n (lv' := [(2, .int (nI (min (I 1) (I 4)))), (0, .ref (b 0)), (1, .int (nI (min (I 1) (I 4))))]) hx hb dX7_buffered_44 rfl hl (by decide) rfl (fun ls hl => ?_)
          refine lv_iconst (v := (nI (0))) hx hb dX7_buffered_45 (by decide) ?_
          refine lv_istore_n (lv' := [(3, .int (nI (0))), (2, .int (nI (min (I 1) (I 4)))), (0, .ref (b 0)), (1, .int (nI (min (I 1) (I 4))))]) hx hb dX7_buffered_46 rfl hl (by decide) rfl (fun ls hl => ?_)
          have lp47 : ∀ (fuel47 : Nat) (p1 h1 c1 : Nat) (s1 : Int64) (b1 g1 : Nat → Nat) (hm : I 1 - p1 < fuel47) (hp : p1 ≤ I 1) (eB : buf dr nxg (I 1) (min (I 1) (I 4)) (J 1) (idn (min (I 1) (I 4)) (F 7)) (F 6) p1 = (h1, c1, s1, b1, g1)) (H : Heap) (locs : List Loc) (ls : Array Slot), Wd A s.heap D (mW cI b I (va_up J 1 s1) (va_up (va_up F 6 g1) 7 b1) G0) H locs → lv_has ls 5 [(0, .ref (b 0)), (1, .int (nI (h1))), (2, .int (nI (c1))), (3, .int (nI (p1)))] → W p l e ({ frames := 2, cells := 0, slots := 0, locals := 45 } : Room) s m ([.ref (b 0)] : List Value).toArray below meth c H locs 0 0 Q (F0 m 47 ls []) := by
            intro fuel47
            induction fuel47 with
            | zero => intro p1 h1 c1 s1 b1 g1 hm hp eB; exact absurd hm (by omega)
            | succ fuel47 ih47 =>
              intro p1 h1 c1 s1 b1 g1 hm hp eB H locs ls G hl
              refine lv_iload_n hx hb dX7_buffered_47 rfl (lv_at hl 3 rfl) ?_
              refine lv_aload_n hx hb dX7_buffered_48 rfl (lv_at hl 0 rfl) ?_
              refine r_get (v := .int (nI (I 1))) C G hX7 0 rfl rfl 3 (by decide) (by decide +kernel) rfl dX7_buffered_49 ?_
              refine lv_icmp_ge (tgt := 120) hx hb dX7_buffered_52 (by decide) (fun c52 => ?_) (fun c52 => ?_)
              · skip
                replace c52 : ((I 1 : Nat) : Int) ≤ ((p1 : Nat) : Int) := (cv_le (nI_toInt (by omega)) (nI_toInt (by omega))).mp c52
                exact RET (mW cI b I (va_up J 1 s1) (va_up (va_up F 6 g1) 7 b1) G0) _ _ ls _ _ _ (by obtain rfl : p1 = I 1 := (by omega); exact ⟨g1, b1, s1, (buO_of (by omega) (by omega) eB).1, (buO_of (by omega) (by omega) eB).2, rfl⟩) G (by first | (simp only []; omega) | decide) (by first | (simp only []; omega) | decide) dX7_buffered_120
              · skip
                replace c52 : ((p1 : Nat) : Int) < ((I 1 : Nat) : Int) := Int.not_le.mp (fun h => c52 ((cv_le (nI_toInt (by omega)) (nI_toInt (by omega))).mpr h))
                obtain ⟨i1, i2, i5, i4⟩ := buf_at (by omega) (by omega) hp eB
                have hh9 := i4 (by omega)
                refine lv_aload_n hx hb dX7_buffered_55 rfl (lv_at hl 0 rfl) ?_
                refine lv_iload_n hx hb dX7_buffered_56 rfl (lv_at hl 1 rfl) ?_
                refine lv_i2l (v := lN (h1)) hx hb dX7_buffered_57 (nI_l (by omega)) ?_
                refine r_ai G hA (r_rV (na := 1) (As := [.long (lN (h1))]) (rest := []) C G (c_X7_draw l D cI cO cL b I (va_up J 1 s1) (va_up (va_up F 6 g1) 7 b1) G0 h1 (by omega) (by omega)) gX7_buffered_X7_draw rfl (by decide +kernel) ⟨Nat.le_of_ble_eq_true rfl, Nat.le_of_ble_eq_true rfl⟩ 0 rfl rfl rfl hl.1 rfl (Nat.le_of_ble_eq_true rfl) dX7_buffered_58 ⟨by first | (simp only []; omega) | decide, by first | (simp only []; omega) | decide⟩) (fun r58 w58 H locs hp58 G => ?_)
                obtain ⟨d58, σ58, eσ58, ed58, hd58, rfl, rfl⟩ := hp58
                replace eσ58 : σ58 = nxg s1 := eσ58
                refine r_top (y := nI (d58)) rfl ?_
                refine lv_istore (lv' := [(4, .int (nI (d58))), (0, .ref (b 0)), (1, .int (nI (h1))), (2, .int (nI (c1))), (3, .int (nI (p1)))]) hx hb dX7_buffered_61 hl (by decide) rfl (fun ls hl => ?_)
                refine lv_aload_n hx hb dX7_buffered_63 rfl (lv_at hl 1 rfl) ?_
                refine r_get (v := .ref (b 8)) C G hX7 0 rfl rfl 15 (by decide) (by decide +kernel) rfl dX7_buffered_64 ?_
                refine lv_iload_n hx hb dX7_buffered_67 rfl (lv_at hl 4 rfl) ?_
                refine lv_aload_n hx hb dX7_buffered_68 rfl (lv_at hl 1 rfl) ?_
                refine r_get (v := .ref (b 9)) C G hX7 0 rfl rfl 16 (by decide) (by decide +kernel) rfl dX7_buffered_69 ?_
                refine lv_iload hx hb dX7_buffered_72 (lv_at hl 0 rfl) ?_
                refine r_iald (v := nI (b1 d58)) C G 9 0 rfl rfl d58 rfl (by omega) (by omega) rfl dX7_buffered_74 ?_
                refine r_iast (ws' := mW cI b I (va_up J 1 (σ58)) (va_up (va_up F 7 b1) 6 (va_up g1 p1 (b1 d58))) G0) C G 8 0 rfl rfl p1 rfl (by omega) (by omega) (nI_upd _ _ _) dX7_buffered_75 rfl (fun H locs G => ?_)
                refine lv_iload_n hx hb dX7_buffered_76 rfl (lv_at hl 3 rfl) ?_
                refine lv_aload_n hx hb dX7_buffered_77 rfl (lv_at hl 1 rfl) ?_
                refine r_get (v := .int (nI (I 1))) C G hX7 0 rfl rfl 3 (by decide) (by decide +kernel) rfl dX7_buffered_78 ?_
                refine lv_icmp_ge (tgt := 98) hx hb dX7_buffered_81 (by decide) (fun c81 => ?_) (fun c81 => ?_)
                · skip
                  replace c81 : ((I 1 : Nat) : Int) ≤ ((c1 : Nat) : Int) := (cv_le (nI_toInt (by omega)) (nI_toInt (by omega))).mp c81
                  refine lv_iinc (v := nI (h1 - 1)) (lv' := [(1, .int (nI (h1 - 1))), (4, .int (nI (d58))), (0, .ref (b 0)), (2, .int (nI (c1))), (3, .int (nI (p1)))]) hx hb dX7_buffered_98 hl (k := 2) rfl (sb_m1 (by omega)) (by decide) rfl (fun ls hl => ?_)
                  refine lv_aload_n hx hb dX7_buffered_101 rfl (lv_at hl 2 rfl) ?_
                  refine r_get (v := .ref (b 9)) C G hX7 0 rfl rfl 16 (by decide) (by decide +kernel) rfl dX7_buffered_102 ?_
                  refine lv_iload hx hb dX7_buffered_105 (lv_at hl 1 rfl) ?_
                  refine lv_aload_n hx hb dX7_buffered_107 rfl (lv_at hl 2 rfl) ?_
                  refine r_get (v := .ref (b 9)) C G hX7 0 rfl rfl 16 (by decide) (by decide +kernel) rfl dX7_buffered_108 ?_
                  refine lv_iload_n hx hb dX7_buffered_111 rfl (lv_at hl 0 rfl) ?_
                  refine r_iald (v := nI (b1 (h1 - 1))) C G 9 0 rfl rfl (h1 - 1) rfl (by omega) (by omega) rfl dX7_buffered_112 ?_
                  refine r_iast (ws' := mW cI b I (va_up J 1 (σ58)) (va_up (va_up F 6 (va_up g1 p1 (b1 d58))) 7 (va_up b1 d58 (b1 (h1 - 1)))) G0) C G 9 0 rfl rfl d58 rfl (by omega) (by omega) (nI_upd _ _ _) dX7_buffered_113 rfl (fun H locs G => ?_)
                  refine lv_iinc (v := nI (p1 + 1)) (lv' := [(3, .int (nI (p1 + 1))), (1, .int (nI (h1 - 1))), (4, .int (nI (d58))), (0, .ref (b 0)), (2, .int (nI (c1)))]) hx hb dX7_buffered_114 hl (k := 4) rfl (inc_n _ 1) (by decide) rfl (fun ls hl => ?_)
                  refine lv_goto (tgt := 47) hx hb dX7_buffered_117 (by decide) ?_
                  exact ih47 (p1 + 1) (h1 - 1) c1 σ58 (va_up b1 d58 (b1 (h1 - 1))) (va_up g1 p1 (b1 d58)) (by omega) (by omega) (buf_s2 eB eσ58 ed58 (by omega)) _ _ _ (G.eq (rfl)) (lv_sub hl [3, 1, 4, 0] rfl)
                · skip
                  replace c81 : ((c1 : Nat) : Int) < ((I 1 : Nat) : Int) := Int.not_le.mp (fun h => c81 ((cv_le (nI_toInt (by omega)) (nI_toInt (by omega))).mpr h))
                  refine lv_aload_n hx hb dX7_buffered_84 rfl (lv_at hl 1 rfl) ?_
                  refine r_get (v := .ref (b 9)) C G hX7 0 rfl rfl 16 (by decide) (by decide +kernel) rfl dX7_buffered_85 ?_
                  refine lv_iload hx hb dX7_buffered_88 (lv_at hl 0 rfl) ?_
                  refine lv_iload_n hx hb dX7_buffered_90 rfl (lv_at hl 3 rfl) ?_
                  refine r_iast (ws' := mW cI b I (va_up J 1 (σ58)) (va_up (va_up F 6 (va_up g1 p1 (b1 d58))) 7 (va_up b1 d58 c1)) G0) C G 9 0 rfl rfl d58 rfl (by omega) (by omega) (nI_upd _ _ _) dX7_buffered_91 rfl (fun H locs G => ?_)
                  refine lv_iinc (v := nI (c1 + 1)) (lv' := [(2, .int (nI (c1 + 1))), (4, .int (nI (d58))), (0, .ref (b 0)), (1, .int (nI (h1))), (3, .int (nI (p1)))]) hx hb dX7_buffered_92 hl (k := 3) rfl (inc_n _ 1) (by decide) rfl (fun ls hl => ?_)
                  refine lv_goto (tgt := 114) hx hb dX7_buffered_95 (by decide) ?_
                  refine lv_iinc (v := nI (p1 + 1)) (lv' := [(3, .int (nI (p1 + 1))), (2, .int (nI (c1 + 1))), (4, .int (nI (d58))), (0, .ref (b 0)), (1, .int (nI (h1)))]) hx hb dX7_buffered_114 hl (k := 4) rfl (inc_n _ 1) (by decide) rfl (fun ls hl => ?_)
                  refine lv_goto (tgt := 47) hx hb dX7_buffered_117 (by decide) ?_
                  exact ih47 (p1 + 1) h1 (c1 + 1) σ58 (va_up b1 d58 c1) (va_up g1 p1 (b1 d58)) (by omega) (by omega) (buf_s1 eB eσ58 ed58 (by omega)) _ _ _ (G.eq (rfl)) (lv_sub hl [3, 4, 1, 0] rfl)
          exact lp47 (I 1 + 1) 0 (min (I 1) (I 4)) (min (I 1) (I 4)) (J 1) (idn (min (I 1) (I 4)) (F 7)) (F 6) (by omega) (by omega) rfl _ _ _ (G.eq (rfl)) (lv_sub hl [2, 3, 1, 0] rfl)
        · skip
          replace c27 : ((k : Nat) : Int) < ((min (I 1) (I 4) : Nat) : Int) := Int.not_le.mp (fun h => c27 ((cv_le (nI_toInt (by omega)) (nI_toInt (by omega))).mpr h))
          refine lv_aload_n hx hb dX7_buffered_30 rfl (lv_at hl 0 rfl) ?_
          refine r_get (v := .ref (b 9)) C G hX7 0 rfl rfl 16 (by decide) (by decide +kernel) rfl dX7_buffered_31 ?_
          refine lv_iload_n hx hb dX7_buffered_34 rfl (lv_at hl 2 rfl) ?_
          refine lv_iload_n hx hb dX7_buffered_35 rfl (lv_at hl 2 rfl) ?_
          refine r_iast (ws' := mW cI b I J (va_up F 7 (idn (k + 1) (F 7))) G0) C G 9 0 rfl rfl k rfl (by omega) (by omega) (by rw [nI_upd]; exact congrArg (fun (g : Nat → Nat) => fun i => nI (g i)) (idn_s _ _)) dX7_buffered_36 rfl (fun H locs G => ?_)
          refine lv_iinc (v := nI (k + 1)) (lv' := [(2, .int (nI (k + 1))), (0, .ref (b 0)), (1, .int (nI (min (I 1) (I 4))))]) hx hb dX7_buffered_37 hl (k := 2) rfl (inc_n _ 1) (by decide) rfl (fun ls hl => ?_)
          refine lv_goto (tgt := 25) hx hb dX7_buffered_40 (by decide) ?_
          exact ih25 (k + 1) (by omega) (by omega) _ _ _ (G.eq (rfl)) (lv_sub hl [1, 2, 0] rfl)
    exact lp25 (min (I 1) (I 4) + 1) 0 (by omega) (by omega) _ _ _ (G.eq (by rw [idn_0]; rfl)) (lv_sub hl [2, 1, 0] rfl)
set_option maxHeartbeats 4000000 in
set_option maxRecDepth 100000 in
theorem c_X3_rowAt (l : Launch) (D : va_G) (cI cO cL : ClassId) (a ca ia : Nat → Nat) (n : Nat) (O : Nat → Option Nat) (I : Nat → Nat) (J : Nat → Int64) (F : Nat → Nat → Nat) (E : Nat → Nat → Int32) (K : Nat → Nat → Nat) (G0 : Nat → Nat → Int32) (q : Nat) (hq : q < 2 ^ 31) (h8 : I 8 ≤ 60) : Ki l yX3_rowAt wsX3_rowAt { frames := 0, cells := 0, slots := 0, locals := 0 } D (TY cI cO cL) [.ref (a 4), .int (nI (q))] (bW cI cO a ca ia n O I J F E K G0) (fun r w => (q < I 8 ∧ r = nI (F 2 q) ∧ w = bW cI cO a ca ia n O I J F E K G0) ∨ (I 8 ≤ q ∧ r = -3 ∧ w = bW cI cO a ca ia n O I J F E K G0)) := by
  refine Ki.mk (cc := cX3_rowAt) (maxL := 2) (rt := .int) (own := RX3) (by decide) rfl rfl (Nat.le_of_ble_eq_true rfl) ?_
  intro p e s m below meth c A Q ls C hname hA G hl RET
  obtain ⟨⟨hx, hb, hml, hown, hts⟩, hK, hN⟩ := id C
  have hl : lv_has ls 2 [(0, .ref (a 4)), (1, .int (nI (q)))] := hl
  have hX3 : ∀ w ∈ u_ws RX3 TX3 10, w ∈ wsX3_rowAt := by decide +kernel
  refine lv_iload_n hx hb dX3_rowAt_0 rfl (lv_at hl 1 rfl) ?_
  refine lv_if_lt (tgt := 21) hx hb dX3_rowAt_1 (by decide) (fun c1 => ?_) (fun c1 => ?_)
  · skip
    replace c1 : ((q : Nat) : Int) < (0) := (cv_lt (nI_toInt (by omega)) (by decide)).mp c1
    exact absurd c1 (by omega)
  · skip
    replace c1 : (0) ≤ ((q : Nat) : Int) := Int.not_lt.mp (fun h => c1 ((cv_lt (nI_toInt (by omega)) (by decide)).mpr h))
    refine lv_iload_n hx hb dX3_rowAt_4 rfl (lv_at hl 1 rfl) ?_
    refine lv_aload_n hx hb dX3_rowAt_5 rfl (lv_at hl 0 rfl) ?_
    refine r_get (v := .int (nI (I 8))) C G hX3 4 rfl rfl 4 (by decide) (by decide +kernel) rfl dX3_rowAt_6 ?_
    refine lv_icmp_ge (tgt := 21) hx hb dX3_rowAt_9 (by decide) (fun c9 => ?_) (fun c9 => ?_)
    · skip
      replace c9 : ((I 8 : Nat) : Int) ≤ ((q : Nat) : Int) := (cv_le (nI_toInt (by omega)) (nI_toInt (by omega))).mp c9
      refine lv_bipush (v := ((-3))) hx hb dX3_rowAt_21 (by decide) ?_
      exact RET ((-3)) (bW cI cO a ca ia n O I J F E K G0) _ _ ls _ _ _ (Or.inr ⟨by omega, rfl, rfl⟩) G (by first | (simp only []; omega) | decide) (by first | (simp only []; omega) | decide) rfl dX3_rowAt_23
    · skip
      replace c9 : ((q : Nat) : Int) < ((I 8 : Nat) : Int) := Int.not_le.mp (fun h => c9 ((cv_le (nI_toInt (by omega)) (nI_toInt (by omega))).mpr h))
      refine lv_aload_n hx hb dX3_rowAt_12 rfl (lv_at hl 0 rfl) ?_
      refine r_get (v := .ref (a 8)) C G hX3 4 rfl rfl 3 (by decide) (by decide +kernel) rfl dX3_rowAt_13 ?_
      refine lv_iload_n hx hb dX3_rowAt_16 rfl (lv_at hl 1 rfl) ?_
      refine r_iald (v := nI ((F 2) q)) C G 8 0 rfl rfl q rfl (by omega) (by omega) rfl dX3_rowAt_17 ?_
      refine lv_goto (tgt := 23) hx hb dX3_rowAt_18 (by decide) ?_
      exact RET (nI ((F 2) q)) (bW cI cO a ca ia n O I J F E K G0) _ _ ls _ _ _ (Or.inl ⟨by omega, rfl, rfl⟩) G (by first | (simp only []; omega) | decide) (by first | (simp only []; omega) | decide) rfl dX3_rowAt_23
set_option maxHeartbeats 4000000 in
set_option maxRecDepth 100000 in
theorem c_X7_weightsOfAll (l : Launch) (D : va_G) (cI cO cL : ClassId) (b : Nat → Nat) (I : Nat → Nat) (J : Nat → Int64) (F : Nat → Nat → Nat) (G0 : Nat → Nat → Int32) (h1 : I 1 ≤ 60) (hWt : ∀ j, j < I 1 → F 2 j ≤ 1000) : Ki l yX7_weightsOfAll wsX7_weightsOfAll { frames := 0, cells := 0, slots := 0, locals := 0 } D (TY cI cO cL) [.ref (b 0)] (mW cI b I J F G0) (fun r w => r = nI (wsum (F 2) (I 1)) ∧ w = mW cI b I J F G0) := by
  refine Ki.mk (cc := cX7_weightsOfAll) (maxL := 3) (rt := .int) (own := RX7) (by decide) rfl rfl (Nat.le_of_ble_eq_true rfl) ?_
  intro p e s m below meth c A Q ls C hname hA G hl RET
  obtain ⟨⟨hx, hb, hml, hown, hts⟩, hK, hN⟩ := id C
  have hl : lv_has ls 3 [(0, .ref (b 0))] := hl
  have hX7 : ∀ w ∈ u_ws RX7 TX7 30, w ∈ wsX7_weightsOfAll := by decide +kernel
  refine lv_iconst (v := (nI (0))) hx hb dX7_weightsOfAll_0 (by decide) ?_
  refine lv_istore_n (lv' := [(1, .int (nI (0))), (0, .ref (b 0))]) hx hb dX7_weightsOfAll_1 rfl hl (by decide) rfl (fun ls hl => ?_)
  refine lv_iconst (v := (nI (0))) hx hb dX7_weightsOfAll_2 (by decide) ?_
  refine lv_istore_n (lv' := [(2, .int (nI (0))), (1, .int (nI (0))), (0, .ref (b 0))]) hx hb dX7_weightsOfAll_3 rfl hl (by decide) rfl (fun ls hl => ?_)
  have lp4 : ∀ (fuel4 : Nat) (k : Nat) (hm : I 1 - k < fuel4) (hk : k ≤ I 1) (H : Heap) (locs : List Loc) (ls : Array Slot), Wd A s.heap D (mW cI b I J F G0) H locs → lv_has ls 3 [(0, .ref (b 0)), (1, .int (nI (wsum (F 2) k))), (2, .int (nI (k)))] → W p l e ({ frames := 0, cells := 0, slots := 0, locals := 0 } : Room) s m ([.ref (b 0)] : List Value).toArray below meth c H locs 0 0 Q (F0 m 4 ls []) := by
    intro fuel4
    induction fuel4 with
    | zero => intro k hm hk; exact absurd hm (by omega)
    | succ fuel4 ih4 =>
      intro k hm hk H locs ls G hl
      refine lv_iload_n hx hb dX7_weightsOfAll_4 rfl (lv_at hl 2 rfl) ?_
      refine lv_aload_n hx hb dX7_weightsOfAll_5 rfl (lv_at hl 0 rfl) ?_
      refine r_get (v := .int (nI (I 1))) C G hX7 0 rfl rfl 3 (by decide) (by decide +kernel) rfl dX7_weightsOfAll_6 ?_
      refine lv_icmp_ge (tgt := 27) hx hb dX7_weightsOfAll_9 (by decide) (fun c9 => ?_) (fun c9 => ?_)
      · skip
        replace c9 : ((I 1 : Nat) : Int) ≤ ((k : Nat) : Int) := (cv_le (nI_toInt (by omega)) (nI_toInt (by omega))).mp c9
        refine lv_iload_n hx hb dX7_weightsOfAll_27 rfl (lv_at hl 1 rfl) ?_
        exact RET (nI (wsum (F 2) k)) (mW cI b I J F G0) _ _ ls _ _ _ (⟨congrArg (fun k => nI (wsum (F 2) k)) (by omega), rfl⟩) G (by first | (simp only []; omega) | decide) (by first | (simp only []; omega) | decide) rfl dX7_weightsOfAll_28
      · skip
        replace c9 : ((k : Nat) : Int) < ((I 1 : Nat) : Int) := Int.not_le.mp (fun h => c9 ((cv_le (nI_toInt (by omega)) (nI_toInt (by omega))).mpr h))
        refine lv_iload_n hx hb dX7_weightsOfAll_12 rfl (lv_at hl 1 rfl) ?_
        refine lv_aload_n hx hb dX7_weightsOfAll_13 rfl (lv_at hl 0 rfl) ?_
        refine r_get (v := .ref (b 3)) C G hX7 0 rfl rfl 6 (by decide) (by decide +kernel) rfl dX7_weightsOfAll_14 ?_
        refine lv_iload_n hx hb dX7_weightsOfAll_17 rfl (lv_at hl 2 rfl) ?_
        refine r_iald (v := nI ((F 2) k)) C G 3 0 rfl rfl k rfl (by omega) (by omega) rfl dX7_weightsOfAll_18 ?_
        refine r_iadd hx hb dX7_weightsOfAll_19 ?_
        refine lv_istore_n (lv' := [(1, .int (nI ((wsum (F 2) k) + ((F 2) k)))), (0, .ref (b 0)), (2, .int (nI (k)))]) hx hb dX7_weightsOfAll_20 rfl hl (by decide) rfl (fun ls hl => ?_)
        refine lv_iinc (v := nI (k + 1)) (lv' := [(2, .int (nI (k + 1))), (1, .int (nI ((wsum (F 2) k) + ((F 2) k)))), (0, .ref (b 0))]) hx hb dX7_weightsOfAll_21 hl (k := 2) rfl (inc_n _ 1) (by decide) rfl (fun ls hl => ?_)
        refine lv_goto (tgt := 4) hx hb dX7_weightsOfAll_24 (by decide) ?_
        exact ih4 (k + 1) (by omega) (by omega) _ _ _ (G.eq (rfl)) (lv_sub hl [2, 1, 0] rfl)
  exact lp4 (I 1 + 1) 0 (by omega) (by omega) _ _ _ (G.eq (rfl)) (lv_sub hl [2, 1, 0] rfl)
set_option maxHeartbeats 4000000 in
set_option maxRecDepth 100000 in
theorem c_X7_byWeights (l : Launch) (D : va_G) (cI cO cL : ClassId) (b : Nat → Nat) (I : Nat → Nat) (J : Nat → Int64) (F : Nat → Nat → Nat) (G0 : Nat → Nat → Int32) (h1 : I 1 ≤ 60) (hWt : ∀ j, j < I 1 → F 2 j ≤ 1000) : Ki l yX7_byWeights wsX7_byWeights { frames := 2, cells := 0, slots := 0, locals := 45 } D (TY cI cO cL) [.ref (b 0)] (mW cI b I J F G0) (fun r w => (I 1 = 0 ∧ r = 1 ∧ w = mW cI b I J F G0) ∨ (I 1 ≠ 0 ∧ wsum (F 2) (I 1) = 0 ∧ r = 0 ∧ w = mW cI b I J F G0) ∨ (0 < wsum (F 2) (I 1) ∧ r = 1 ∧ ∃ g σ, isW (F 2) (I 1) (J 1) g ∧ w = mW cI b I (va_up J 1 (σ)) (va_up F 6 g) G0)) := by
  refine Ki.mk (cc := cX7_byWeights) (maxL := 6) (rt := .boolean) (own := RX7) (by decide) rfl rfl (Nat.le_of_ble_eq_true rfl) ?_
  intro p e s m below meth c A Q ls C hname hA G hl RET
  obtain ⟨⟨hx, hb, hml, hown, hts⟩, hK, hN⟩ := id C
  have hl : lv_has ls 6 [(0, .ref (b 0))] := hl
  have hX7 : ∀ w ∈ u_ws RX7 TX7 30, w ∈ wsX7_byWeights := by decide +kernel
  have hw1 := wsum_le (w := F 2) hWt (I 1) (by omega)
  refine lv_aload_n hx hb dX7_byWeights_0 rfl (lv_at hl 0 rfl) ?_
  refine r_ai G hA (r_rV (na := 0) (As := []) (rest := []) C G (c_X7_weightsOfAll l D cI cO cL b I J F G0 h1 hWt) gX7_byWeights_X7_weightsOfAll rfl (by decide +kernel) ⟨Nat.le_of_ble_eq_true rfl, Nat.le_of_ble_eq_true rfl⟩ 0 rfl rfl rfl hl.1 rfl (Nat.le_of_ble_eq_true rfl) dX7_byWeights_1 ⟨by first | (simp only []; omega) | decide, by first | (simp only []; omega) | decide⟩) (fun r1 w1 H locs hp1 G => ?_)
  obtain ⟨rfl, rfl⟩ := hp1
  refine r_top (y := nI (wsum (F 2) (I 1))) rfl ?_
  refine lv_istore_n (lv' := [(1, .int (nI (wsum (F 2) (I 1)))), (0, .ref (b 0))]) hx hb dX7_byWeights_4 rfl hl (by decide) rfl (fun ls hl => ?_)
  refine lv_iload_n hx hb dX7_byWeights_5 rfl (lv_at hl 0 rfl) ?_
  refine lv_if_ne (tgt := 22) hx hb dX7_byWeights_6 (by decide) (fun c6 => ?_) (fun c6 => ?_)
  · skip
    replace c6 : ¬ ((wsum (F 2) (I 1) : Nat) : Int) = (0) := fun h => c6 ((cv_eq (nI_toInt (by omega)) (by decide)).mpr h)
    refine lv_iconst (v := (nI (0))) hx hb dX7_byWeights_22 (by decide) ?_
    refine lv_istore_n (lv' := [(2, .int (nI (0))), (1, .int (nI (wsum (F 2) (I 1)))), (0, .ref (b 0))]) hx hb dX7_byWeights_23 rfl hl (by decide) rfl (fun ls hl => ?_)
    have lp24 : ∀ (fuel24 : Nat) (k : Nat) (f : Nat → Nat) (σ : Int64) (hm : I 1 - k < fuel24) (hk : k ≤ I 1) (eσ : σ = sIt nxg (J 1) k) (hall : ∀ q, q < k → f q < I 1 ∧ wsum (F 2) (f q) ≤ dr (sIt nxg (J 1) (q + 1)) (wsum (F 2) (I 1)) ∧ dr (sIt nxg (J 1) (q + 1)) (wsum (F 2) (I 1)) < wsum (F 2) (f q + 1)) (H : Heap) (locs : List Loc) (ls : Array Slot), Wd A s.heap D (mW cI b I (va_up J 1 (σ)) (va_up F 6 f) G0) H locs → lv_has ls 6 [(0, .ref (b 0)), (1, .int (nI (wsum (F 2) (I 1)))), (2, .int (nI (k)))] → W p l e ({ frames := 2, cells := 0, slots := 0, locals := 45 } : Room) s m ([.ref (b 0)] : List Value).toArray below meth c H locs 0 0 Q (F0 m 24 ls []) := by
      intro fuel24
      induction fuel24 with
      | zero => intro k f σ hm hk eσ hall; exact absurd hm (by omega)
      | succ fuel24 ih24 =>
        intro k f σ hm hk eσ hall H locs ls G hl
        refine lv_iload_n hx hb dX7_byWeights_24 rfl (lv_at hl 2 rfl) ?_
        refine lv_aload_n hx hb dX7_byWeights_25 rfl (lv_at hl 0 rfl) ?_
        refine r_get (v := .int (nI (I 1))) C G hX7 0 rfl rfl 3 (by decide) (by decide +kernel) rfl dX7_byWeights_26 ?_
        refine lv_icmp_ge (tgt := 88) hx hb dX7_byWeights_29 (by decide) (fun c29 => ?_) (fun c29 => ?_)
        · skip
          replace c29 : ((I 1 : Nat) : Int) ≤ ((k : Nat) : Int) := (cv_le (nI_toInt (by omega)) (nI_toInt (by omega))).mp c29
          refine lv_iconst (v := (nI (1))) hx hb dX7_byWeights_88 (by decide) ?_
          exact RET (nI (1)) (mW cI b I (va_up J 1 (σ)) (va_up F 6 f) G0) _ _ ls _ _ _ (Or.inr (Or.inr ⟨by omega, rfl, f, σ, fun z hz => hall z (by omega), rfl⟩)) G (by first | (simp only []; omega) | decide) (by first | (simp only []; omega) | decide) rfl dX7_byWeights_89
        · skip
          replace c29 : ((k : Nat) : Int) < ((I 1 : Nat) : Int) := Int.not_le.mp (fun h => c29 ((cv_le (nI_toInt (by omega)) (nI_toInt (by omega))).mpr h))
          refine lv_aload_n hx hb dX7_byWeights_32 rfl (lv_at hl 0 rfl) ?_
          refine lv_iload_n hx hb dX7_byWeights_33 rfl (lv_at hl 1 rfl) ?_
          refine lv_i2l (v := lN (wsum (F 2) (I 1))) hx hb dX7_byWeights_34 (nI_l (by omega)) ?_
          refine r_ai G hA (r_rV (na := 1) (As := [.long (lN (wsum (F 2) (I 1)))]) (rest := []) C G (c_X7_draw l D cI cO cL b I (va_up J 1 (σ)) (va_up F 6 f) G0 (wsum (F 2) (I 1)) (by omega) (by omega)) gX7_byWeights_X7_draw rfl (by decide +kernel) ⟨Nat.le_of_ble_eq_true rfl, Nat.le_of_ble_eq_true rfl⟩ 0 rfl rfl rfl hl.1 rfl (Nat.le_of_ble_eq_true rfl) dX7_byWeights_35 ⟨by first | (simp only []; omega) | decide, by first | (simp only []; omega) | decide⟩) (fun r35 w35 H locs hp35 G => ?_)
          obtain ⟨d35, σ35, eσ35, ed35, hd35, rfl, rfl⟩ := hp35
          replace eσ35 : σ35 = nxg (σ) := eσ35
          refine r_top (y := nI (d35)) rfl ?_
          refine lv_istore_n (lv' := [(3, .int (nI (d35))), (0, .ref (b 0)), (1, .int (nI (wsum (F 2) (I 1)))), (2, .int (nI (k)))]) hx hb dX7_byWeights_38 rfl hl (by decide) rfl (fun ls hl => ?_)
          refine lv_iconst (v := (nI (0))) hx hb dX7_byWeights_39 (by decide) ?_
          refine lv_istore (lv' := [(4, .int (nI (0))), (3, .int (nI (d35))), (0, .ref (b 0)), (1, .int (nI (wsum (F 2) (I 1)))), (2, .int (nI (k)))]) hx hb dX7_byWeights_40 hl (by decide) rfl (fun ls hl => ?_)
          refine lv_aload_n hx hb dX7_byWeights_42 rfl (lv_at hl 2 rfl) ?_
          refine r_get (v := .ref (b 3)) C G hX7 0 rfl rfl 6 (by decide) (by decide +kernel) rfl dX7_byWeights_43 ?_
          refine lv_iconst (v := (nI (0))) hx hb dX7_byWeights_46 (by decide) ?_
          refine r_iald (v := nI ((F 2) 0)) C G 3 0 rfl rfl 0 rfl (by omega) (by omega) rfl dX7_byWeights_47 ?_
          refine r_top (y := nI (wsum (F 2) (0 + 1))) (congrArg nI (by show F 2 0 = 0 + F 2 0; omega)) ?_
          refine lv_istore (lv' := [(5, .int (nI (wsum (F 2) (0 + 1)))), (4, .int (nI (0))), (3, .int (nI (d35))), (0, .ref (b 0)), (1, .int (nI (wsum (F 2) (I 1)))), (2, .int (nI (k)))]) hx hb dX7_byWeights_48 hl (by decide) rfl (fun ls hl => ?_)
          have lp50 : ∀ (fuel50 : Nat) (q : Nat) (hm2 : I 1 - q < fuel50) (hq : q < I 1) (hle : wsum (F 2) q ≤ d35) (H : Heap) (locs : List Loc) (ls : Array Slot), Wd A s.heap D (mW cI b I (va_up J 1 (σ35)) (va_up F 6 f) G0) H locs → lv_has ls 6 [(0, .ref (b 0)), (1, .int (nI (wsum (F 2) (I 1)))), (2, .int (nI (k))), (3, .int (nI (d35))), (4, .int (nI (q))), (5, .int (nI (wsum (F 2) (q + 1))))] → W p l e ({ frames := 2, cells := 0, slots := 0, locals := 45 } : Room) s m ([.ref (b 0)] : List Value).toArray below meth c H locs 0 0 Q (F0 m 50 ls []) := by
            intro fuel50
            induction fuel50 with
            | zero => intro q hm2 hq hle; exact absurd hm2 (by omega)
            | succ fuel50 ih50 =>
              intro q hm2 hq hle H locs ls G hl
              have hwq := wsum_le (w := F 2) hWt (q + 1) (by omega)
              refine lv_iload hx hb dX7_byWeights_50 (lv_at hl 5 rfl) ?_
              refine lv_iload_n hx hb dX7_byWeights_52 rfl (lv_at hl 3 rfl) ?_
              refine lv_icmp_gt (tgt := 74) hx hb dX7_byWeights_53 (by decide) (fun c53 => ?_) (fun c53 => ?_)
              · skip
                replace c53 : ((d35 : Nat) : Int) < ((wsum (F 2) (q + 1) : Nat) : Int) := (cv_lt (nI_toInt (by omega)) (nI_toInt (by omega))).mp c53
                refine lv_aload_n hx hb dX7_byWeights_74 rfl (lv_at hl 0 rfl) ?_
                refine r_get (v := .ref (b 8)) C G hX7 0 rfl rfl 15 (by decide) (by decide +kernel) rfl dX7_byWeights_75 ?_
                refine lv_iload_n hx hb dX7_byWeights_78 rfl (lv_at hl 2 rfl) ?_
                refine lv_iload hx hb dX7_byWeights_79 (lv_at hl 4 rfl) ?_
                refine r_iast (ws' := mW cI b I (va_up J 1 (σ35)) (va_up F 6 (va_up f k q)) G0) C G 8 0 rfl rfl k rfl (by omega) (by omega) (nI_upd _ _ _) dX7_byWeights_81 rfl (fun H locs G => ?_)
                refine lv_iinc (v := nI (k + 1)) (lv' := [(2, .int (nI (k + 1))), (0, .ref (b 0)), (1, .int (nI (wsum (F 2) (I 1)))), (3, .int (nI (d35))), (4, .int (nI (q))), (5, .int (nI (wsum (F 2) (q + 1))))]) hx hb dX7_byWeights_82 hl (k := 2) rfl (inc_n _ 1) (by decide) rfl (fun ls hl => ?_)
                refine lv_goto (tgt := 24) hx hb dX7_byWeights_85 (by decide) ?_
                exact ih24 (k + 1) (va_up f k q) σ35 (by omega) (by omega) (by rw [eσ35, eσ]; rfl) (fun z hz => by rcases Nat.lt_or_ge z k with y | y; (rw [up_ne _ _ (by omega)]; exact hall z y); (obtain rfl : z = k := (by omega); rw [up_same, show sIt nxg (J 1) (z + 1) = σ35 by rw [eσ35, eσ]; rfl, ← ed35]; exact ⟨hq, hle, by omega⟩)) _ _ _ (G.eq (rfl)) (lv_sub hl [1, 2, 0] rfl)
              · skip
                replace c53 : ((wsum (F 2) (q + 1) : Nat) : Int) ≤ ((d35 : Nat) : Int) := Int.not_lt.mp (fun h => c53 ((cv_lt (nI_toInt (by omega)) (nI_toInt (by omega))).mpr h))
                have hq1 : q + 1 < I 1 := by rcases Nat.lt_or_ge (q + 1) (I 1) with z | z; exact z; (have zz := wsum_mono (w := F 2) z; omega)
                have hw2 : wsum (F 2) (q + 1 + 1) = wsum (F 2) (q + 1) + F 2 (q + 1) := rfl
                refine lv_iinc (v := nI (q + 1)) (lv' := [(4, .int (nI (q + 1))), (0, .ref (b 0)), (1, .int (nI (wsum (F 2) (I 1)))), (2, .int (nI (k))), (3, .int (nI (d35))), (5, .int (nI (wsum (F 2) (q + 1))))]) hx hb dX7_byWeights_56 hl (k := 4) rfl (inc_n _ 1) (by decide) rfl (fun ls hl => ?_)
                refine lv_iload hx hb dX7_byWeights_59 (lv_at hl 5 rfl) ?_
                refine lv_aload_n hx hb dX7_byWeights_61 rfl (lv_at hl 1 rfl) ?_
                refine r_get (v := .ref (b 3)) C G hX7 0 rfl rfl 6 (by decide) (by decide +kernel) rfl dX7_byWeights_62 ?_
                refine lv_iload hx hb dX7_byWeights_65 (lv_at hl 0 rfl) ?_
                refine r_iald (v := nI ((F 2) (q + 1))) C G 3 0 rfl rfl (q + 1) rfl (by omega) (by omega) rfl dX7_byWeights_67 ?_
                refine r_iadd hx hb dX7_byWeights_68 ?_
                refine lv_istore (lv' := [(5, .int (nI ((wsum (F 2) (q + 1)) + ((F 2) (q + 1))))), (4, .int (nI (q + 1))), (0, .ref (b 0)), (1, .int (nI (wsum (F 2) (I 1)))), (2, .int (nI (k))), (3, .int (nI (d35)))]) hx hb dX7_byWeights_69 hl (by decide) rfl (fun ls hl => ?_)
                refine lv_goto (tgt := 50) hx hb dX7_byWeights_71 (by decide) ?_
                exact ih50 (q + 1) (by omega) (by omega) (by omega) _ _ _ (G.eq (rfl)) (lv_sub hl [2, 3, 4, 5, 1, 0] rfl)
          exact lp50 (I 1 + 1) 0 (by omega) (by omega) (Nat.zero_le _) _ _ _ (G.eq (rfl)) (lv_sub hl [3, 4, 5, 2, 1, 0] rfl)
    exact lp24 (I 1 + 1) 0 (F 6) (J 1) (by omega) (by omega) rfl (fun q hq => by omega) _ _ _ (G.eq (rfl)) (lv_sub hl [2, 1, 0] rfl)
  · skip
    replace c6 : ((wsum (F 2) (I 1) : Nat) : Int) = (0) := (cv_eq (nI_toInt (by omega)) (by decide)).mp c6
    refine lv_aload_n hx hb dX7_byWeights_9 rfl (lv_at hl 1 rfl) ?_
    refine r_get (v := .int (nI (I 1))) C G hX7 0 rfl rfl 3 (by decide) (by decide +kernel) rfl dX7_byWeights_10 ?_
    refine lv_if_ne (tgt := 20) hx hb dX7_byWeights_13 (by decide) (fun c13 => ?_) (fun c13 => ?_)
    · skip
      replace c13 : ¬ ((I 1 : Nat) : Int) = (0) := fun h => c13 ((cv_eq (nI_toInt (by omega)) (by decide)).mpr h)
      refine lv_iconst (v := (nI (0))) hx hb dX7_byWeights_20 (by decide) ?_
      exact RET (nI (0)) (mW cI b I J F G0) _ _ ls _ _ _ (Or.inr (Or.inl ⟨by omega, by omega, rfl, rfl⟩)) G (by first | (simp only []; omega) | decide) (by first | (simp only []; omega) | decide) rfl dX7_byWeights_21
    · skip
      replace c13 : ((I 1 : Nat) : Int) = (0) := (cv_eq (nI_toInt (by omega)) (by decide)).mp c13
      refine lv_iconst (v := (nI (1))) hx hb dX7_byWeights_16 (by decide) ?_
      refine lv_goto (tgt := 21) hx hb dX7_byWeights_17 (by decide) ?_
      exact RET (nI (1)) (mW cI b I J F G0) _ _ ls _ _ _ (Or.inl ⟨by omega, rfl, rfl⟩) G (by first | (simp only []; omega) | decide) (by first | (simp only []; omega) | decide) rfl dX7_byWeights_21
set_option maxHeartbeats 4000000 in
set_option maxRecDepth 100000 in
theorem c_X7_byLengths (l : Launch) (D : va_G) (cI cO cL : ClassId) (b : Nat → Nat) (I : Nat → Nat) (J : Nat → Int64) (F : Nat → Nat → Nat) (G0 : Nat → Nat → Int32) (h1 : I 1 ≤ 60) (hL : ∀ j, j < I 1 → F 3 j ≤ 1600) (h3 : 1 ≤ I 3 ∧ I 3 ≤ 60) (hbd : ∀ i, i < I 1 → F 6 i < I 1) : Kv l yX7_byLengths wsX7_byLengths { frames := 0, cells := 0, slots := 0, locals := 0 } D (TY cI cO cL) [.ref (b 0)] (mW cI b I J F G0) (fun w => w = mW cI b I J (va_up F 6 (prt (F 3) (I 3) (I 1) (I 1) (F 6))) G0) := by
  refine Kv.mk (cc := cX7_byLengths) (maxL := 6) (own := RX7) (by decide) rfl rfl (Nat.le_of_ble_eq_true rfl) ?_
  intro p e s m below meth c A Q ls C hname hA G hl RET
  obtain ⟨⟨hx, hb, hml, hown, hts⟩, hK, hN⟩ := id C
  have hl : lv_has ls 6 [(0, .ref (b 0))] := hl
  have hX7 : ∀ w ∈ u_ws RX7 TX7 30, w ∈ wsX7_byLengths := by decide +kernel
  refine lv_iconst (v := (nI (0))) hx hb dX7_byLengths_0 (by decide) ?_
  refine r_top (y := nI (0 * I 3)) (congrArg nI (Nat.zero_mul _).symm) ?_
  refine lv_istore_n (lv' := [(1, .int (nI (0 * I 3))), (0, .ref (b 0))]) hx hb dX7_byLengths_1 rfl hl (by decide) rfl (fun ls hl => ?_)
  have lp2 : ∀ (fuel2 : Nat) (t : Nat) (f : Nat → Nat) (hm : I 1 + 1 - t * I 3 < fuel2) (ht : t * I 3 ≤ I 1 + I 3) (ht2 : t = 0 ∨ (t - 1) * I 3 < I 1) (ef : f = prt (F 3) (I 3) (I 1) t (F 6)) (H : Heap) (locs : List Loc) (ls : Array Slot), Wd A s.heap D (mW cI b I J (va_up F 6 f) G0) H locs → lv_has ls 6 [(0, .ref (b 0)), (1, .int (nI (t * I 3)))] → W p l e ({ frames := 0, cells := 0, slots := 0, locals := 0 } : Room) s m ([.ref (b 0)] : List Value).toArray below meth c H locs 0 0 Q (F0 m 2 ls []) := by
    intro fuel2
    induction fuel2 with
    | zero => intro t f hm ht ht2 ef; exact absurd hm (by omega)
    | succ fuel2 ih2 =>
      intro t f hm ht ht2 ef H locs ls G hl
      refine lv_iload_n hx hb dX7_byLengths_2 rfl (lv_at hl 1 rfl) ?_
      refine lv_aload_n hx hb dX7_byLengths_3 rfl (lv_at hl 0 rfl) ?_
      refine r_get (v := .int (nI (I 1))) C G hX7 0 rfl rfl 3 (by decide) (by decide +kernel) rfl dX7_byLengths_4 ?_
      refine lv_icmp_ge (tgt := 134) hx hb dX7_byLengths_7 (by decide) (fun c7 => ?_) (fun c7 => ?_)
      · skip
        replace c7 : ((I 1 : Nat) : Int) ≤ ((t * I 3 : Nat) : Int) := (cv_le (nI_toInt (by omega)) (nI_toInt (by omega))).mp c7
        exact RET (mW cI b I J (va_up F 6 f) G0) _ _ ls _ _ _ (by rw [ef, prt_n (by omega) (by omega) ht2]) G (by first | (simp only []; omega) | decide) (by first | (simp only []; omega) | decide) dX7_byLengths_134
      · skip
        replace c7 : ((t * I 3 : Nat) : Int) < ((I 1 : Nat) : Int) := Int.not_le.mp (fun h => c7 ((cv_le (nI_toInt (by omega)) (nI_toInt (by omega))).mpr h))
        refine lv_iload_n hx hb dX7_byLengths_10 rfl (lv_at hl 1 rfl) ?_
        refine lv_aload_n hx hb dX7_byLengths_11 rfl (lv_at hl 0 rfl) ?_
        refine r_get (v := .int (nI (I 3))) C G hX7 0 rfl rfl 12 (by decide) (by decide +kernel) rfl dX7_byLengths_12 ?_
        refine r_iadd hx hb dX7_byLengths_15 ?_
        refine lv_aload_n hx hb dX7_byLengths_16 rfl (lv_at hl 0 rfl) ?_
        refine r_get (v := .int (nI (I 1))) C G hX7 0 rfl rfl 3 (by decide) (by decide +kernel) rfl dX7_byLengths_17 ?_
        refine lv_icmp_ge (tgt := 32) hx hb dX7_byLengths_20 (by decide) (fun c20 => ?_) (fun c20 => ?_)
        · skip
          replace c20 : ((I 1 : Nat) : Int) ≤ (((t * I 3) + (I 3) : Nat) : Int) := (cv_le (nI_toInt (by omega)) (nI_toInt (by omega))).mp c20
          refine lv_aload_n hx hb dX7_byLengths_32 rfl (lv_at hl 0 rfl) ?_
          refine r_get (v := .int (nI (I 1))) C G hX7 0 rfl rfl 3 (by decide) (by decide +kernel) rfl dX7_byLengths_33 ?_
          refine r_top (y := nI (min (I 1) (t * I 3 + I 3))) (congrArg nI (by omega)) ?_
          have hbf : ∀ i, i < I 1 → f i < I 1 := by rw [ef]; exact prt_lt t _ hbd
          refine lv_istore_n (lv' := [(2, .int (nI (min (I 1) (t * I 3 + I 3)))), (0, .ref (b 0)), (1, .int (nI (t * I 3)))]) hx hb dX7_byLengths_36 rfl hl (by decide) rfl (fun ls hl => ?_)
          refine lv_iload_n hx hb dX7_byLengths_37 rfl (lv_at hl 2 rfl) ?_
          refine lv_iconst (v := (nI (1))) hx hb dX7_byLengths_38 (by decide) ?_
          refine r_iadd hx hb dX7_byLengths_39 ?_
          refine lv_istore_n (lv' := [(3, .int (nI ((t * I 3) + 1))), (2, .int (nI (min (I 1) (t * I 3 + I 3)))), (0, .ref (b 0)), (1, .int (nI (t * I 3)))]) hx hb dX7_byLengths_40 rfl hl (by decide) rfl (fun ls hl => ?_)
          have lp41 : ∀ (fuel41 : Nat) (u : Nat) (f2 : Nat → Nat) (hm1 : 61 - u < fuel41) (hu : u ≤ min (I 1) (t * I 3 + I 3) - t * I 3 - 1) (ef2 : f2 = srtF (F 3) (t * I 3) u f) (H : Heap) (locs : List Loc) (ls : Array Slot), Wd A s.heap D (mW cI b I J (va_up F 6 f2) G0) H locs → lv_has ls 6 [(0, .ref (b 0)), (1, .int (nI (t * I 3))), (2, .int (nI (min (I 1) (t * I 3 + I 3)))), (3, .int (nI (t * I 3 + (u + 1))))] → W p l e ({ frames := 0, cells := 0, slots := 0, locals := 0 } : Room) s m ([.ref (b 0)] : List Value).toArray below meth c H locs 0 0 Q (F0 m 41 ls []) := by
            intro fuel41
            induction fuel41 with
            | zero => intro u f2 hm1 hu ef2; exact absurd hm1 (by omega)
            | succ fuel41 ih41 =>
              intro u f2 hm1 hu ef2 H locs ls G hl
              refine lv_iload_n hx hb dX7_byLengths_41 rfl (lv_at hl 3 rfl) ?_
              refine lv_iload_n hx hb dX7_byLengths_42 rfl (lv_at hl 2 rfl) ?_
              refine lv_icmp_ge (tgt := 124) hx hb dX7_byLengths_43 (by decide) (fun c43 => ?_) (fun c43 => ?_)
              · skip
                replace c43 : ((min (I 1) (t * I 3 + I 3) : Nat) : Int) ≤ ((t * I 3 + (u + 1) : Nat) : Int) := (cv_le (nI_toInt (by omega)) (nI_toInt (by omega))).mp c43
                refine lv_iload_n hx hb dX7_byLengths_124 rfl (lv_at hl 1 rfl) ?_
                refine lv_aload_n hx hb dX7_byLengths_125 rfl (lv_at hl 0 rfl) ?_
                refine r_get (v := .int (nI (I 3))) C G hX7 0 rfl rfl 12 (by decide) (by decide +kernel) rfl dX7_byLengths_126 ?_
                refine r_iadd hx hb dX7_byLengths_129 ?_
                have hts : (t + 1) * I 3 = t * I 3 + I 3 := Nat.succ_mul _ _
                refine r_top (y := nI ((t + 1) * I 3)) (congrArg nI hts.symm) ?_
                refine lv_istore_n (lv' := [(1, .int (nI ((t + 1) * I 3))), (0, .ref (b 0)), (2, .int (nI (min (I 1) (t * I 3 + I 3)))), (3, .int (nI (t * I 3 + (u + 1))))]) hx hb dX7_byLengths_130 rfl hl (by decide) rfl (fun ls hl => ?_)
                refine lv_goto (tgt := 2) hx hb dX7_byLengths_131 (by decide) ?_
                exact ih2 (t + 1) f2 (by omega) (by omega) (Or.inr (by rw [Nat.add_sub_cancel]; omega)) (by obtain rfl : u = min (I 1) (t * I 3 + I 3) - t * I 3 - 1 := (by omega); rw [ef2, ef]; rfl) _ _ _ (G.eq (rfl)) (lv_sub hl [1, 0] rfl)
              · skip
                replace c43 : ((t * I 3 + (u + 1) : Nat) : Int) < ((min (I 1) (t * I 3 + I 3) : Nat) : Int) := Int.not_le.mp (fun h => c43 ((cv_le (nI_toInt (by omega)) (nI_toInt (by omega))).mpr h))
                refine lv_aload_n hx hb dX7_byLengths_46 rfl (lv_at hl 0 rfl) ?_
                refine r_get (v := .ref (b 8)) C G hX7 0 rfl rfl 15 (by decide) (by decide +kernel) rfl dX7_byLengths_47 ?_
                refine lv_iload_n hx hb dX7_byLengths_50 rfl (lv_at hl 3 rfl) ?_
                refine r_iald (v := nI (f2 (t * I 3 + (u + 1)))) C G 8 0 rfl rfl (t * I 3 + (u + 1)) rfl (by omega) (by omega) rfl dX7_byLengths_51 ?_
                have hfl := srtF_lt (ln := F 3) (lo := t * I 3) (N := I 1) u f (by omega) hbf
                rw [← ef2] at hfl
                have hvl := hfl (t * I 3 + (u + 1)) (by omega)
                obtain ⟨v, ev⟩ : ∃ v, v = f2 (t * I 3 + (u + 1)) := ⟨_, rfl⟩
                rw [← ev] at hvl
                refine r_top (y := nI v) (by rw [ev]) ?_
                have hv3 := hL v (by omega)
                refine lv_istore (lv' := [(4, .int (nI (v))), (0, .ref (b 0)), (1, .int (nI (t * I 3))), (2, .int (nI (min (I 1) (t * I 3 + I 3)))), (3, .int (nI (t * I 3 + (u + 1))))]) hx hb dX7_byLengths_52 hl (by decide) rfl (fun ls hl => ?_)
                refine lv_iload_n hx hb dX7_byLengths_54 rfl (lv_at hl 4 rfl) ?_
                refine lv_istore (lv' := [(5, .int (nI (t * I 3 + (u + 1)))), (4, .int (nI (v))), (0, .ref (b 0)), (1, .int (nI (t * I 3))), (2, .int (nI (min (I 1) (t * I 3 + I 3)))), (3, .int (nI (t * I 3 + (u + 1))))]) hx hb dX7_byLengths_55 hl (by decide) rfl (fun ls hl => ?_)
                have lp57 : ∀ (fuel57 : Nat) (d : Nat) (g : Nat → Nat) (hm2 : d < fuel57) (hd : d ≤ u + 1) (eg : insL (F 3) v (t * I 3) d g = insL (F 3) v (t * I 3) (u + 1) f2) (hg : ∀ i, i < I 1 → g i < I 1) (H : Heap) (locs : List Loc) (ls : Array Slot), Wd A s.heap D (mW cI b I J (va_up F 6 g) G0) H locs → lv_has ls 6 [(0, .ref (b 0)), (1, .int (nI (t * I 3))), (2, .int (nI (min (I 1) (t * I 3 + I 3)))), (3, .int (nI (t * I 3 + (u + 1)))), (4, .int (nI (v))), (5, .int (nI (t * I 3 + d)))] → W p l e ({ frames := 0, cells := 0, slots := 0, locals := 0 } : Room) s m ([.ref (b 0)] : List Value).toArray below meth c H locs 0 0 Q (F0 m 57 ls []) := by
                  intro fuel57
                  induction fuel57 with
                  | zero => intro d g hm2 hd eg hg; exact absurd hm2 (by omega)
                  | succ fuel57 ih57 =>
                    intro d g hm2 hd eg hg H locs ls G hl
                    refine lv_iload hx hb dX7_byLengths_57 (lv_at hl 5 rfl) ?_
                    refine lv_iload_n hx hb dX7_byLengths_59 rfl (lv_at hl 1 rfl) ?_
                    refine lv_icmp_le (tgt := 109) hx hb dX7_byLengths_60 (by decide) (fun c60 => ?_) (fun c60 => ?_)
                    · skip
                      replace c60 : ((t * I 3 + d : Nat) : Int) ≤ ((t * I 3 : Nat) : Int) := (cv_le (nI_toInt (by omega)) (nI_toInt (by omega))).mp c60
                      obtain rfl : d = 0 := by omega
                      refine lv_aload_n hx hb dX7_byLengths_109 rfl (lv_at hl 0 rfl) ?_
                      refine r_get (v := .ref (b 8)) C G hX7 0 rfl rfl 15 (by decide) (by decide +kernel) rfl dX7_byLengths_110 ?_
                      refine lv_iload hx hb dX7_byLengths_113 (lv_at hl 5 rfl) ?_
                      refine lv_iload hx hb dX7_byLengths_115 (lv_at hl 4 rfl) ?_
                      refine r_iast (ws' := mW cI b I J (va_up F 6 (va_up g (t * I 3 + 0) v)) G0) C G 8 0 rfl rfl (t * I 3 + 0) rfl (by omega) (by omega) (nI_upd _ _ _) dX7_byLengths_117 rfl (fun H locs G => ?_)
                      refine lv_iinc (v := nI ((t * I 3 + (u + 1)) + 1)) (lv' := [(3, .int (nI ((t * I 3 + (u + 1)) + 1))), (0, .ref (b 0)), (1, .int (nI (t * I 3))), (2, .int (nI (min (I 1) (t * I 3 + I 3)))), (4, .int (nI (v))), (5, .int (nI (t * I 3 + 0)))]) hx hb dX7_byLengths_118 hl (k := 3) rfl (inc_n _ 1) (by decide) rfl (fun ls hl => ?_)
                      refine lv_goto (tgt := 41) hx hb dX7_byLengths_121 (by decide) ?_
                      exact ih41 (u + 1) (va_up g (t * I 3 + 0) v) (by omega) (by omega) (by subst ev; subst ef2; exact eg) _ _ _ (G.eq (rfl)) (lv_sub hl [1, 2, 3, 0] rfl)
                    · skip
                      replace c60 : ((t * I 3 : Nat) : Int) < ((t * I 3 + d : Nat) : Int) := Int.not_le.mp (fun h => c60 ((cv_le (nI_toInt (by omega)) (nI_toInt (by omega))).mpr h))
                      obtain ⟨d1, rfl⟩ : ∃ d1, d = d1 + 1 := ⟨d - 1, by omega⟩
                      have hgl := hg (t * I 3 + d1) (by omega)
                      have hg3 := hL _ (by omega : g (t * I 3 + d1) < I 1)
                      refine lv_aload_n hx hb dX7_byLengths_63 rfl (lv_at hl 0 rfl) ?_
                      refine r_get (v := .ref (b 4)) C G hX7 0 rfl rfl 7 (by decide) (by decide +kernel) rfl dX7_byLengths_64 ?_
                      refine lv_aload_n hx hb dX7_byLengths_67 rfl (lv_at hl 0 rfl) ?_
                      refine r_get (v := .ref (b 8)) C G hX7 0 rfl rfl 15 (by decide) (by decide +kernel) rfl dX7_byLengths_68 ?_
                      refine lv_iload hx hb dX7_byLengths_71 (lv_at hl 5 rfl) ?_
                      refine lv_iconst (v := (nI (1))) hx hb dX7_byLengths_73 (by decide) ?_
                      refine r_isub hx hb (by omega) dX7_byLengths_74 ?_
                      refine r_top (y := nI (t * I 3 + d1)) (congrArg nI (by omega)) ?_
                      refine r_iald (v := nI (g (t * I 3 + d1))) C G 8 0 rfl rfl (t * I 3 + d1) rfl (by omega) (by omega) rfl dX7_byLengths_75 ?_
                      refine r_iald (v := nI ((F 3) (g (t * I 3 + d1)))) C G 4 0 rfl rfl (g (t * I 3 + d1)) rfl (by omega) (by omega) rfl dX7_byLengths_76 ?_
                      refine lv_aload_n hx hb dX7_byLengths_77 rfl (lv_at hl 0 rfl) ?_
                      refine r_get (v := .ref (b 4)) C G hX7 0 rfl rfl 7 (by decide) (by decide +kernel) rfl dX7_byLengths_78 ?_
                      refine lv_iload hx hb dX7_byLengths_81 (lv_at hl 4 rfl) ?_
                      refine r_iald (v := nI ((F 3) v)) C G 4 0 rfl rfl v rfl (by omega) (by omega) rfl dX7_byLengths_83 ?_
                      refine lv_icmp_le (tgt := 109) hx hb dX7_byLengths_84 (by decide) (fun c84 => ?_) (fun c84 => ?_)
                      · skip
                        replace c84 : (((F 3) (g (t * I 3 + d1)) : Nat) : Int) ≤ (((F 3) v : Nat) : Int) := (cv_le (nI_toInt (by omega)) (nI_toInt (by omega))).mp c84
                        refine lv_aload_n hx hb dX7_byLengths_109 rfl (lv_at hl 0 rfl) ?_
                        refine r_get (v := .ref (b 8)) C G hX7 0 rfl rfl 15 (by decide) (by decide +kernel) rfl dX7_byLengths_110 ?_
                        refine lv_iload hx hb dX7_byLengths_113 (lv_at hl 5 rfl) ?_
                        refine lv_iload hx hb dX7_byLengths_115 (lv_at hl 4 rfl) ?_
                        refine r_iast (ws' := mW cI b I J (va_up F 6 (va_up g (t * I 3 + (d1 + 1)) v)) G0) C G 8 0 rfl rfl (t * I 3 + (d1 + 1)) rfl (by omega) (by omega) (nI_upd _ _ _) dX7_byLengths_117 rfl (fun H locs G => ?_)
                        refine lv_iinc (v := nI ((t * I 3 + (u + 1)) + 1)) (lv' := [(3, .int (nI ((t * I 3 + (u + 1)) + 1))), (0, .ref (b 0)), (1, .int (nI (t * I 3))), (2, .int (nI (min (I 1) (t * I 3 + I 3)))), (4, .int (nI (v))), (5, .int (nI (t * I 3 + (d1 + 1))))]) hx hb dX7_byLengths_118 hl (k := 3) rfl (inc_n _ 1) (by decide) rfl (fun ls hl => ?_)
                        refine lv_goto (tgt := 41) hx hb dX7_byLengths_121 (by decide) ?_
                        exact ih41 (u + 1) (va_up g (t * I 3 + (d1 + 1)) v) (by omega) (by omega) (by rw [insL_s, if_neg (by omega)] at eg; subst ev; subst ef2; exact eg) _ _ _ (G.eq (rfl)) (lv_sub hl [1, 2, 3, 0] rfl)
                      · skip
                        replace c84 : (((F 3) v : Nat) : Int) < (((F 3) (g (t * I 3 + d1)) : Nat) : Int) := Int.not_le.mp (fun h => c84 ((cv_le (nI_toInt (by omega)) (nI_toInt (by omega))).mpr h))
                        refine lv_aload_n hx hb dX7_byLengths_87 rfl (lv_at hl 0 rfl) ?_
                        refine r_get (v := .ref (b 8)) C G hX7 0 rfl rfl 15 (by decide) (by decide +kernel) rfl dX7_byLengths_88 ?_
                        refine lv_iload hx hb dX7_byLengths_91 (lv_at hl 5 rfl) ?_
                        refine lv_aload_n hx hb dX7_byLengths_93 rfl (lv_at hl 0 rfl) ?_
                        refine r_get (v := .ref (b 8)) C G hX7 0 rfl rfl 15 (by decide) (by decide +kernel) rfl dX7_byLengths_94 ?_
                        refine lv_iload hx hb dX7_byLengths_97 (lv_at hl 5 rfl) ?_
                        refine lv_iconst (v := (nI (1))) hx hb dX7_byLengths_99 (by decide) ?_
                        refine r_isub hx hb (by omega) dX7_byLengths_100 ?_
                        refine r_top (y := nI (t * I 3 + d1)) (congrArg nI (by omega)) ?_
                        refine r_iald (v := nI (g (t * I 3 + d1))) C G 8 0 rfl rfl (t * I 3 + d1) rfl (by omega) (by omega) rfl dX7_byLengths_101 ?_
                        refine r_iast (ws' := mW cI b I J (va_up F 6 (va_up g (t * I 3 + (d1 + 1)) (g (t * I 3 + d1)))) G0) C G 8 0 rfl rfl (t * I 3 + (d1 + 1)) rfl (by omega) (by omega) (nI_upd _ _ _) dX7_byLengths_102 rfl (fun H locs G => ?_)
                        refine lv_iinc (v := nI ((t * I 3 + (d1 + 1)) - 1)) (lv' := [(5, .int (nI ((t * I 3 + (d1 + 1)) - 1))), (0, .ref (b 0)), (1, .int (nI (t * I 3))), (2, .int (nI (min (I 1) (t * I 3 + I 3)))), (3, .int (nI (t * I 3 + (u + 1)))), (4, .int (nI (v)))]) hx hb dX7_byLengths_103 hl (k := 5) rfl (sb_m1 (by omega)) (by decide) rfl (fun ls hl => ?_)
                        refine lv_goto (tgt := 57) hx hb dX7_byLengths_106 (by decide) ?_
                        exact ih57 d1 (va_up g (t * I 3 + (d1 + 1)) (g (t * I 3 + d1))) (by omega) (by omega) (by rw [insL_s, if_pos (by omega)] at eg; exact eg) (fun i hi => by by_cases q : i = t * I 3 + (d1 + 1); (rw [q, up_same]; omega); (rw [up_ne _ _ q]; exact hg i hi)) _ _ _ (G.eq (rfl)) (lv_sub hl [1, 2, 3, 4, 5, 0] rfl)
                exact lp57 (u + 2) (u + 1) f2 (by omega) (by omega) rfl hfl _ _ _ (G.eq (rfl)) (lv_sub hl [2, 3, 4, 5, 1, 0] rfl)
          exact lp41 62 0 f (by omega) (by omega) rfl _ _ _ (G.eq (rfl)) (lv_sub hl [2, 3, 1, 0] rfl)
        · skip
          replace c20 : (((t * I 3) + (I 3) : Nat) : Int) < ((I 1 : Nat) : Int) := Int.not_le.mp (fun h => c20 ((cv_le (nI_toInt (by omega)) (nI_toInt (by omega))).mpr h))
          refine lv_iload_n hx hb dX7_byLengths_23 rfl (lv_at hl 1 rfl) ?_
          refine lv_aload_n hx hb dX7_byLengths_24 rfl (lv_at hl 0 rfl) ?_
          refine r_get (v := .int (nI (I 3))) C G hX7 0 rfl rfl 12 (by decide) (by decide +kernel) rfl dX7_byLengths_25 ?_
          refine r_iadd hx hb dX7_byLengths_28 ?_
          refine lv_goto (tgt := 36) hx hb dX7_byLengths_29 (by decide) ?_
          refine r_top (y := nI (min (I 1) (t * I 3 + I 3))) (congrArg nI (by omega)) ?_
          have hbf : ∀ i, i < I 1 → f i < I 1 := by rw [ef]; exact prt_lt t _ hbd
          refine lv_istore_n (lv' := [(2, .int (nI (min (I 1) (t * I 3 + I 3)))), (0, .ref (b 0)), (1, .int (nI (t * I 3)))]) hx hb dX7_byLengths_36 rfl hl (by decide) rfl (fun ls hl => ?_)
          refine lv_iload_n hx hb dX7_byLengths_37 rfl (lv_at hl 2 rfl) ?_
          refine lv_iconst (v := (nI (1))) hx hb dX7_byLengths_38 (by decide) ?_
          refine r_iadd hx hb dX7_byLengths_39 ?_
          refine lv_istore_n (lv' := [(3, .int (nI ((t * I 3) + 1))), (2, .int (nI (min (I 1) (t * I 3 + I 3)))), (0, .ref (b 0)), (1, .int (nI (t * I 3)))]) hx hb dX7_byLengths_40 rfl hl (by decide) rfl (fun ls hl => ?_)
          have lp41 : ∀ (fuel41 : Nat) (u : Nat) (f2 : Nat → Nat) (hm1 : 61 - u < fuel41) (hu : u ≤ min (I 1) (t * I 3 + I 3) - t * I 3 - 1) (ef2 : f2 = srtF (F 3) (t * I 3) u f) (H : Heap) (locs : List Loc) (ls : Array Slot), Wd A s.heap D (mW cI b I J (va_up F 6 f2) G0) H locs → lv_has ls 6 [(0, .ref (b 0)), (1, .int (nI (t * I 3))), (2, .int (nI (min (I 1) (t * I 3 + I 3)))), (3, .int (nI (t * I 3 + (u + 1))))] → W p l e ({ frames := 0, cells := 0, slots := 0, locals := 0 } : Room) s m ([.ref (b 0)] : List Value).toArray below meth c H locs 0 0 Q (F0 m 41 ls []) := by
            intro fuel41
            induction fuel41 with
            | zero => intro u f2 hm1 hu ef2; exact absurd hm1 (by omega)
            | succ fuel41 ih41 =>
              intro u f2 hm1 hu ef2 H locs ls G hl
              refine lv_iload_n hx hb dX7_byLengths_41 rfl (lv_at hl 3 rfl) ?_
              refine lv_iload_n hx hb dX7_byLengths_42 rfl (lv_at hl 2 rfl) ?_
              refine lv_icmp_ge (tgt := 124) hx hb dX7_byLengths_43 (by decide) (fun c43 => ?_) (fun c43 => ?_)
              · skip
                replace c43 : ((min (I 1) (t * I 3 + I 3) : Nat) : Int) ≤ ((t * I 3 + (u + 1) : Nat) : Int) := (cv_le (nI_toInt (by omega)) (nI_toInt (by omega))).mp c43
                refine lv_iload_n hx hb dX7_byLengths_124 rfl (lv_at hl 1 rfl) ?_
                refine lv_aload_n hx hb dX7_byLengths_125 rfl (lv_at hl 0 rfl) ?_
                refine r_get (v := .int (nI (I 3))) C G hX7 0 rfl rfl 12 (by decide) (by decide +kernel) rfl dX7_byLengths_126 ?_
                refine r_iadd hx hb dX7_byLengths_129 ?_
                have hts : (t + 1) * I 3 = t * I 3 + I 3 := Nat.succ_mul _ _
                refine r_top (y := nI ((t + 1) * I 3)) (congrArg nI hts.symm) ?_
                refine lv_istore_n (lv' := [(1, .int (nI ((t + 1) * I 3))), (0, .ref (b 0)), (2, .int (nI (min (I 1) (t * I 3 + I 3)))), (3, .int (nI (t * I 3 + (u + 1))))]) hx hb dX7_byLengths_130 rfl hl (by decide) rfl (fun ls hl => ?_)
                refine lv_goto (tgt := 2) hx hb dX7_byLengths_131 (by decide) ?_
                exact ih2 (t + 1) f2 (by omega) (by omega) (Or.inr (by rw [Nat.add_sub_cancel]; omega)) (by obtain rfl : u = min (I 1) (t * I 3 + I 3) - t * I 3 - 1 := (by omega); rw [ef2, ef]; rfl) _ _ _ (G.eq (rfl)) (lv_sub hl [1, 0] rfl)
              · skip
                replace c43 : ((t * I 3 + (u + 1) : Nat) : Int) < ((min (I 1) (t * I 3 + I 3) : Nat) : Int) := Int.not_le.mp (fun h => c43 ((cv_le (nI_toInt (by omega)) (nI_toInt (by omega))).mpr h))
                refine lv_aload_n hx hb dX7_byLengths_46 rfl (lv_at hl 0 rfl) ?_
                refine r_get (v := .ref (b 8)) C G hX7 0 rfl rfl 15 (by decide) (by decide +kernel) rfl dX7_byLengths_47 ?_
                refine lv_iload_n hx hb dX7_byLengths_50 rfl (lv_at hl 3 rfl) ?_
                refine r_iald (v := nI (f2 (t * I 3 + (u + 1)))) C G 8 0 rfl rfl (t * I 3 + (u + 1)) rfl (by omega) (by omega) rfl dX7_byLengths_51 ?_
                have hfl := srtF_lt (ln := F 3) (lo := t * I 3) (N := I 1) u f (by omega) hbf
                rw [← ef2] at hfl
                have hvl := hfl (t * I 3 + (u + 1)) (by omega)
                obtain ⟨v, ev⟩ : ∃ v, v = f2 (t * I 3 + (u + 1)) := ⟨_, rfl⟩
                rw [← ev] at hvl
                refine r_top (y := nI v) (by rw [ev]) ?_
                have hv3 := hL v (by omega)
                refine lv_istore (lv' := [(4, .int (nI (v))), (0, .ref (b 0)), (1, .int (nI (t * I 3))), (2, .int (nI (min (I 1) (t * I 3 + I 3)))), (3, .int (nI (t * I 3 + (u + 1))))]) hx hb dX7_byLengths_52 hl (by decide) rfl (fun ls hl => ?_)
                refine lv_iload_n hx hb dX7_byLengths_54 rfl (lv_at hl 4 rfl) ?_
                refine lv_istore (lv' := [(5, .int (nI (t * I 3 + (u + 1)))), (4, .int (nI (v))), (0, .ref (b 0)), (1, .int (nI (t * I 3))), (2, .int (nI (min (I 1) (t * I 3 + I 3)))), (3, .int (nI (t * I 3 + (u + 1))))]) hx hb dX7_byLengths_55 hl (by decide) rfl (fun ls hl => ?_)
                have lp57 : ∀ (fuel57 : Nat) (d : Nat) (g : Nat → Nat) (hm2 : d < fuel57) (hd : d ≤ u + 1) (eg : insL (F 3) v (t * I 3) d g = insL (F 3) v (t * I 3) (u + 1) f2) (hg : ∀ i, i < I 1 → g i < I 1) (H : Heap) (locs : List Loc) (ls : Array Slot), Wd A s.heap D (mW cI b I J (va_up F 6 g) G0) H locs → lv_has ls 6 [(0, .ref (b 0)), (1, .int (nI (t * I 3))), (2, .int (nI (min (I 1) (t * I 3 + I 3)))), (3, .int (nI (t * I 3 + (u + 1)))), (4, .int (nI (v))), (5, .int (nI (t * I 3 + d)))] → W p l e ({ frames := 0, cells := 0, slots := 0, locals := 0 } : Room) s m ([.ref (b 0)] : List Value).toArray below meth c H locs 0 0 Q (F0 m 57 ls []) := by
                  intro fuel57
                  induction fuel57 with
                  | zero => intro d g hm2 hd eg hg; exact absurd hm2 (by omega)
                  | succ fuel57 ih57 =>
                    intro d g hm2 hd eg hg H locs ls G hl
                    refine lv_iload hx hb dX7_byLengths_57 (lv_at hl 5 rfl) ?_
                    refine lv_iload_n hx hb dX7_byLengths_59 rfl (lv_at hl 1 rfl) ?_
                    refine lv_icmp_le (tgt := 109) hx hb dX7_byLengths_60 (by decide) (fun c60 => ?_) (fun c60 => ?_)
                    · skip
                      replace c60 : ((t * I 3 + d : Nat) : Int) ≤ ((t * I 3 : Nat) : Int) := (cv_le (nI_toInt (by omega)) (nI_toInt (by omega))).mp c60
                      obtain rfl : d = 0 := by omega
                      refine lv_aload_n hx hb dX7_byLengths_109 rfl (lv_at hl 0 rfl) ?_
                      refine r_get (v := .ref (b 8)) C G hX7 0 rfl rfl 15 (by decide) (by decide +kernel) rfl dX7_byLengths_110 ?_
                      refine lv_iload hx hb dX7_byLengths_113 (lv_at hl 5 rfl) ?_
                      refine lv_iload hx hb dX7_byLengths_115 (lv_at hl 4 rfl) ?_
                      refine r_iast (ws' := mW cI b I J (va_up F 6 (va_up g (t * I 3 + 0) v)) G0) C G 8 0 rfl rfl (t * I 3 + 0) rfl (by omega) (by omega) (nI_upd _ _ _) dX7_byLengths_117 rfl (fun H locs G => ?_)
                      refine lv_iinc (v := nI ((t * I 3 + (u + 1)) + 1)) (lv' := [(3, .int (nI ((t * I 3 + (u + 1)) + 1))), (0, .ref (b 0)), (1, .int (nI (t * I 3))), (2, .int (nI (min (I 1) (t * I 3 + I 3)))), (4, .int (nI (v))), (5, .int (nI (t * I 3 + 0)))]) hx hb dX7_byLengths_118 hl (k := 3) rfl (inc_n _ 1) (by decide) rfl (fun ls hl => ?_)
                      refine lv_goto (tgt := 41) hx hb dX7_byLengths_121 (by decide) ?_
                      exact ih41 (u + 1) (va_up g (t * I 3 + 0) v) (by omega) (by omega) (by subst ev; subst ef2; exact eg) _ _ _ (G.eq (rfl)) (lv_sub hl [1, 2, 3, 0] rfl)
                    · skip
                      replace c60 : ((t * I 3 : Nat) : Int) < ((t * I 3 + d : Nat) : Int) := Int.not_le.mp (fun h => c60 ((cv_le (nI_toInt (by omega)) (nI_toInt (by omega))).mpr h))
                      obtain ⟨d1, rfl⟩ : ∃ d1, d = d1 + 1 := ⟨d - 1, by omega⟩
                      have hgl := hg (t * I 3 + d1) (by omega)
                      have hg3 := hL _ (by omega : g (t * I 3 + d1) < I 1)
                      refine lv_aload_n hx hb dX7_byLengths_63 rfl (lv_at hl 0 rfl) ?_
                      refine r_get (v := .ref (b 4)) C G hX7 0 rfl rfl 7 (by decide) (by decide +kernel) rfl dX7_byLengths_64 ?_
                      refine lv_aload_n hx hb dX7_byLengths_67 rfl (lv_at hl 0 rfl) ?_
                      refine r_get (v := .ref (b 8)) C G hX7 0 rfl rfl 15 (by decide) (by decide +kernel) rfl dX7_byLengths_68 ?_
                      refine lv_iload hx hb dX7_byLengths_71 (lv_at hl 5 rfl) ?_
                      refine lv_iconst (v := (nI (1))) hx hb dX7_byLengths_73 (by decide) ?_
                      refine r_isub hx hb (by omega) dX7_byLengths_74 ?_
                      refine r_top (y := nI (t * I 3 + d1)) (congrArg nI (by omega)) ?_
                      refine r_iald (v := nI (g (t * I 3 + d1))) C G 8 0 rfl rfl (t * I 3 + d1) rfl (by omega) (by omega) rfl dX7_byLengths_75 ?_
                      refine r_iald (v := nI ((F 3) (g (t * I 3 + d1)))) C G 4 0 rfl rfl (g (t * I 3 + d1)) rfl (by omega) (by omega) rfl dX7_byLengths_76 ?_
                      refine lv_aload_n hx hb dX7_byLengths_77 rfl (lv_at hl 0 rfl) ?_
                      refine r_get (v := .ref (b 4)) C G hX7 0 rfl rfl 7 (by decide) (by decide +kernel) rfl dX7_byLengths_78 ?_
                      refine lv_iload hx hb dX7_byLengths_81 (lv_at hl 4 rfl) ?_
                      refine r_iald (v := nI ((F 3) v)) C G 4 0 rfl rfl v rfl (by omega) (by omega) rfl dX7_byLengths_83 ?_
                      refine lv_icmp_le (tgt := 109) hx hb dX7_byLengths_84 (by decide) (fun c84 => ?_) (fun c84 => ?_)
                      · skip
                        replace c84 : (((F 3) (g (t * I 3 + d1)) : Nat) : Int) ≤ (((F 3) v : Nat) : Int) := (cv_le (nI_toInt (by omega)) (nI_toInt (by omega))).mp c84
                        refine lv_aload_n hx hb dX7_byLengths_109 rfl (lv_at hl 0 rfl) ?_
                        refine r_get (v := .ref (b 8)) C G hX7 0 rfl rfl 15 (by decide) (by decide +kernel) rfl dX7_byLengths_110 ?_
                        refine lv_iload hx hb dX7_byLengths_113 (lv_at hl 5 rfl) ?_
                        refine lv_iload hx hb dX7_byLengths_115 (lv_at hl 4 rfl) ?_
                        refine r_iast (ws' := mW cI b I J (va_up F 6 (va_up g (t * I 3 + (d1 + 1)) v)) G0) C G 8 0 rfl rfl (t * I 3 + (d1 + 1)) rfl (by omega) (by omega) (nI_upd _ _ _) dX7_byLengths_117 rfl (fun H locs G => ?_)
                        refine lv_iinc (v := nI ((t * I 3 + (u + 1)) + 1)) (lv' := [(3, .int (nI ((t * I 3 + (u + 1)) + 1))), (0, .ref (b 0)), (1, .int (nI (t * I 3))), (2, .int (nI (min (I 1) (t * I 3 + I 3)))), (4, .int (nI (v))), (5, .int (nI (t * I 3 + (d1 + 1))))]) hx hb dX7_byLengths_118 hl (k := 3) rfl (inc_n _ 1) (by decide) rfl (fun ls hl => ?_)
                        refine lv_goto (tgt := 41) hx hb dX7_byLengths_121 (by decide) ?_
                        exact ih41 (u + 1) (va_up g (t * I 3 + (d1 + 1)) v) (by omega) (by omega) (by rw [insL_s, if_neg (by omega)] at eg; subst ev; subst ef2; exact eg) _ _ _ (G.eq (rfl)) (lv_sub hl [1, 2, 3, 0] rfl)
                      · skip
                        replace c84 : (((F 3) v : Nat) : Int) < (((F 3) (g (t * I 3 + d1)) : Nat) : Int) := Int.not_le.mp (fun h => c84 ((cv_le (nI_toInt (by omega)) (nI_toInt (by omega))).mpr h))
                        refine lv_aload_n hx hb dX7_byLengths_87 rfl (lv_at hl 0 rfl) ?_
                        refine r_get (v := .ref (b 8)) C G hX7 0 rfl rfl 15 (by decide) (by decide +kernel) rfl dX7_byLengths_88 ?_
                        refine lv_iload hx hb dX7_byLengths_91 (lv_at hl 5 rfl) ?_
                        refine lv_aload_n hx hb dX7_byLengths_93 rfl (lv_at hl 0 rfl) ?_
                        refine r_get (v := .ref (b 8)) C G hX7 0 rfl rfl 15 (by decide) (by decide +kernel) rfl dX7_byLengths_94 ?_
                        refine lv_iload hx hb dX7_byLengths_97 (lv_at hl 5 rfl) ?_
                        refine lv_iconst (v := (nI (1))) hx hb dX7_byLengths_99 (by decide) ?_
                        refine r_isub hx hb (by omega) dX7_byLengths_100 ?_
                        refine r_top (y := nI (t * I 3 + d1)) (congrArg nI (by omega)) ?_
                        refine r_iald (v := nI (g (t * I 3 + d1))) C G 8 0 rfl rfl (t * I 3 + d1) rfl (by omega) (by omega) rfl dX7_byLengths_101 ?_
                        refine r_iast (ws' := mW cI b I J (va_up F 6 (va_up g (t * I 3 + (d1 + 1)) (g (t * I 3 + d1)))) G0) C G 8 0 rfl rfl (t * I 3 + (d1 + 1)) rfl (by omega) (by omega) (nI_upd _ _ _) dX7_byLengths_102 rfl (fun H locs G => ?_)
                        refine lv_iinc (v := nI ((t * I 3 + (d1 + 1)) - 1)) (lv' := [(5, .int (nI ((t * I 3 + (d1 + 1)) - 1))), (0, .ref (b 0)), (1, .int (nI (t * I 3))), (2, .int (nI (min (I 1) (t * I 3 + I 3)))), (3, .int (nI (t * I 3 + (u + 1)))), (4, .int (nI (v)))]) hx hb dX7_byLengths_103 hl (k := 5) rfl (sb_m1 (by omega)) (by decide) rfl (fun ls hl => ?_)
                        refine lv_goto (tgt := 57) hx hb dX7_byLengths_106 (by decide) ?_
                        exact ih57 d1 (va_up g (t * I 3 + (d1 + 1)) (g (t * I 3 + d1))) (by omega) (by omega) (by rw [insL_s, if_pos (by omega)] at eg; exact eg) (fun i hi => by by_cases q : i = t * I 3 + (d1 + 1); (rw [q, up_same]; omega); (rw [up_ne _ _ q]; exact hg i hi)) _ _ _ (G.eq (rfl)) (lv_sub hl [1, 2, 3, 4, 5, 0] rfl)
                exact lp57 (u + 2) (u + 1) f2 (by omega) (by omega) rfl hfl _ _ _ (G.eq (rfl)) (lv_sub hl [2, 3, 4, 5, 1, 0] rfl)
          exact lp41 62 0 f (by omega) (by omega) rfl _ _ _ (G.eq (rfl)) (lv_sub hl [2, 3, 1, 0] rfl)
  exact lp2 (I 1 + 2) 0 (F 6) (by omega) (by rw [Nat.zero_mul]; omega) (Or.inl rfl) rfl _ _ _ (G.eq (rfl)) (lv_sub hl [1, 0] rfl)
