set_option maxHeartbeats 4000000 in
set_option maxRecDepth 100000 in
theorem c_X7_failure (l : Launch) (D : va_G) (cI cO cL : ClassId) (b : Nat → Nat) (I : Nat → Nat) (J : Nat → Int64) (F : Nat → Nat → Nat) (G0 : Nat → Nat → Int32) (ac j : Nat) (v : Int32) (h1 : I 1 ≤ 60) (hj : j < I 1) (hac : ac ≤ 4) (b0 : F 0 j ≤ 2) (b3 : F 3 j ≤ 1600) (b4 : F 4 j ≤ 40) (b5 : F 5 j ≤ 40) : Ki l yX7_failure wsX7_failure { frames := 0, cells := 0, slots := 0, locals := 0 } D (TY cI cO cL) [.ref (b 0), .int (nI (ac)), .int (nI (j)), .int (v)] (mW cI b I J F G0) (fun r w => r = nI (flN ac (F 0 j) (F 4 j) (F 5 j) (F 3 j) v.toInt) ∧ w = mW cI b I J F G0) := by
  refine Ki.mk (cc := cX7_failure) (maxL := 4) (rt := .int) (own := RX7) (by decide) rfl rfl (Nat.le_of_ble_eq_true rfl) ?_
  intro p e s m below meth c A Q ls C hname hA G hl RET
  obtain ⟨⟨hx, hb, hml, hown, hts⟩, hK, hN⟩ := id C
  have hl : lv_has ls 4 [(0, .ref (b 0)), (1, .int (nI (ac))), (2, .int (nI (j))), (3, .int (v))] := hl
  have hX7 : ∀ w ∈ u_ws RX7 TX7 30, w ∈ wsX7_failure := by decide +kernel
  refine lv_aload_n hx hb dX7_failure_0 rfl (lv_at hl 0 rfl) ?_
  refine r_get (v := .ref (b 1)) C G hX7 0 rfl rfl 4 (by decide) (by decide +kernel) rfl dX7_failure_1 ?_
  refine lv_iload_n hx hb dX7_failure_4 rfl (lv_at hl 2 rfl) ?_
  refine r_iald (v := nI ((F 0) j)) C G 1 0 rfl rfl j rfl (by omega) (by omega) rfl dX7_failure_5 ?_
  refine lv_iconst (v := (nI (2))) hx hb dX7_failure_6 (by decide) ?_
  refine lv_icmp_ne (tgt := 12) hx hb dX7_failure_7 (by decide) (fun c7 => ?_) (fun c7 => ?_)
  · skip
    replace c7 : ¬ (((F 0) j : Nat) : Int) = ((2 : Nat) : Int) := fun h => c7 ((cv_eq (nI_toInt (by omega)) (nI_toInt (by omega))).mpr h)
    refine lv_aload_n hx hb dX7_failure_12 rfl (lv_at hl 0 rfl) ?_
    refine r_get (v := .ref (b 1)) C G hX7 0 rfl rfl 4 (by decide) (by decide +kernel) rfl dX7_failure_13 ?_
    refine lv_iload_n hx hb dX7_failure_16 rfl (lv_at hl 2 rfl) ?_
    refine r_iald (v := nI ((F 0) j)) C G 1 0 rfl rfl j rfl (by omega) (by omega) rfl dX7_failure_17 ?_
    refine lv_if_ne (tgt := 25) hx hb dX7_failure_18 (by decide) (fun c18 => ?_) (fun c18 => ?_)
    · skip
      replace c18 : ¬ (((F 0) j : Nat) : Int) = (0) := fun h => c18 ((cv_eq (nI_toInt (by omega)) (by decide)).mpr h)
      refine lv_iconst (v := (nI (0))) hx hb dX7_failure_25 (by decide) ?_
      refine lv_iload_n hx hb dX7_failure_26 rfl (lv_at hl 1 rfl) ?_
      refine lv_iconst (v := (nI (2))) hx hb dX7_failure_27 (by decide) ?_
      refine lv_icmp_le (tgt := 35) hx hb dX7_failure_28 (by decide) (fun c28 => ?_) (fun c28 => ?_)
      · skip
        replace c28 : ((ac : Nat) : Int) ≤ ((2 : Nat) : Int) := (cv_le (nI_toInt (by omega)) (nI_toInt (by omega))).mp c28
        refine lv_iconst (v := (nI (0))) hx hb dX7_failure_35 (by decide) ?_
        refine lv_icmp_eq (tgt := 41) hx hb dX7_failure_36 (by decide) (fun c36 => ?_) (fun c36 => ?_)
        · skip
          refine lv_iload_n hx hb dX7_failure_41 rfl (lv_at hl 1 rfl) ?_
          refine lv_iconst (v := (nI (1))) hx hb dX7_failure_42 (by decide) ?_
          refine lv_icmp_ne (tgt := 66) hx hb dX7_failure_43 (by decide) (fun c43 => ?_) (fun c43 => ?_)
          · skip
            replace c43 : ¬ ((ac : Nat) : Int) = ((1 : Nat) : Int) := fun h => c43 ((cv_eq (nI_toInt (by omega)) (nI_toInt (by omega))).mpr h)
            refine lv_iload_n hx hb dX7_failure_66 rfl (lv_at hl 1 rfl) ?_
            refine lv_iconst (v := (nI (4))) hx hb dX7_failure_67 (by decide) ?_
            refine lv_icmp_ne (tgt := 86) hx hb dX7_failure_68 (by decide) (fun c68 => ?_) (fun c68 => ?_)
            · skip
              replace c68 : ¬ ((ac : Nat) : Int) = ((4 : Nat) : Int) := fun h => c68 ((cv_eq (nI_toInt (by omega)) (nI_toInt (by omega))).mpr h)
              refine lv_iload_n hx hb dX7_failure_86 rfl (lv_at hl 1 rfl) ?_
              refine lv_iconst (v := (nI (1))) hx hb dX7_failure_87 (by decide) ?_
              refine lv_icmp_ne (tgt := 97) hx hb dX7_failure_88 (by decide) (fun c88 => ?_) (fun c88 => ?_)
              · skip
                replace c88 : ¬ ((ac : Nat) : Int) = ((1 : Nat) : Int) := fun h => c88 ((cv_eq (nI_toInt (by omega)) (nI_toInt (by omega))).mpr h)
                refine lv_iload_n hx hb dX7_failure_97 rfl (lv_at hl 1 rfl) ?_
                refine lv_iconst (v := (nI (2))) hx hb dX7_failure_98 (by decide) ?_
                refine lv_icmp_ne (tgt := 106) hx hb dX7_failure_99 (by decide) (fun c99 => ?_) (fun c99 => ?_)
                · skip
                  replace c99 : ¬ ((ac : Nat) : Int) = ((2 : Nat) : Int) := fun h => c99 ((cv_eq (nI_toInt (by omega)) (nI_toInt (by omega))).mpr h)
                  refine lv_iload_n hx hb dX7_failure_106 rfl (lv_at hl 1 rfl) ?_
                  refine lv_iconst (v := (nI (4))) hx hb dX7_failure_107 (by decide) ?_
                  refine lv_icmp_ne (tgt := 130) hx hb dX7_failure_108 (by decide) (fun c108 => ?_) (fun c108 => ?_)
                  · skip
                    replace c108 : ¬ ((ac : Nat) : Int) = ((4 : Nat) : Int) := fun h => c108 ((cv_eq (nI_toInt (by omega)) (nI_toInt (by omega))).mpr h)
                    refine lv_iconst (v := (nI (0))) hx hb dX7_failure_130 (by decide) ?_
                    exact RET (nI (0)) (mW cI b I J F G0) _ _ ls _ _ _ (⟨congrArg nI (by unfold flN; split <;> (try split) <;> (try split) <;> (try split) <;> (try split) <;> omega), rfl⟩) G (by first | (simp only []; omega) | decide) (by first | (simp only []; omega) | decide) rfl dX7_failure_131
                  · skip
                    replace c108 : ((ac : Nat) : Int) = ((4 : Nat) : Int) := (cv_eq (nI_toInt (by omega)) (nI_toInt (by omega))).mp c108
                    refine lv_aload_n hx hb dX7_failure_111 rfl (lv_at hl 0 rfl) ?_
                    refine r_get (v := .ref (b 4)) C G hX7 0 rfl rfl 7 (by decide) (by decide +kernel) rfl dX7_failure_112 ?_
                    refine lv_iload_n hx hb dX7_failure_115 rfl (lv_at hl 2 rfl) ?_
                    refine r_iald (v := nI ((F 3) j)) C G 4 0 rfl rfl j rfl (by omega) (by omega) rfl dX7_failure_116 ?_
                    refine lv_iconst (v := (nI (1))) hx hb dX7_failure_117 (by decide) ?_
                    refine lv_icmp_ne (tgt := 130) hx hb dX7_failure_118 (by decide) (fun c118 => ?_) (fun c118 => ?_)
                    · skip
                      replace c118 : ¬ (((F 3) j : Nat) : Int) = ((1 : Nat) : Int) := fun h => c118 ((cv_eq (nI_toInt (by omega)) (nI_toInt (by omega))).mpr h)
                      refine lv_iconst (v := (nI (0))) hx hb dX7_failure_130 (by decide) ?_
                      exact RET (nI (0)) (mW cI b I J F G0) _ _ ls _ _ _ (⟨congrArg nI (by unfold flN; split <;> (try split) <;> (try split) <;> (try split) <;> (try split) <;> omega), rfl⟩) G (by first | (simp only []; omega) | decide) (by first | (simp only []; omega) | decide) rfl dX7_failure_131
                    · skip
                      replace c118 : (((F 3) j : Nat) : Int) = ((1 : Nat) : Int) := (cv_eq (nI_toInt (by omega)) (nI_toInt (by omega))).mp c118
                      refine lv_iload_n hx hb dX7_failure_121 rfl (lv_at hl 3 rfl) ?_
                      refine lv_if_le (tgt := 130) hx hb dX7_failure_122 (by decide) (fun c122 => ?_) (fun c122 => ?_)
                      · skip
                        replace c122 : (v).toInt ≤ (0) := (cv_le rfl (by decide)).mp c122
                        refine lv_iconst (v := (nI (0))) hx hb dX7_failure_130 (by decide) ?_
                        exact RET (nI (0)) (mW cI b I J F G0) _ _ ls _ _ _ (⟨congrArg nI (by unfold flN; split <;> (try split) <;> (try split) <;> (try split) <;> (try split) <;> omega), rfl⟩) G (by first | (simp only []; omega) | decide) (by first | (simp only []; omega) | decide) rfl dX7_failure_131
                      · skip
                        replace c122 : (0) < (v).toInt := Int.not_le.mp (fun h => c122 ((cv_le rfl (by decide)).mpr h))
                        refine lv_bipush (v := (nI (6))) hx hb dX7_failure_125 (by decide) ?_
                        refine lv_goto (tgt := 131) hx hb dX7_failure_127 (by decide) ?_
                        exact RET (nI (6)) (mW cI b I J F G0) _ _ ls _ _ _ (⟨congrArg nI (by unfold flN; split <;> (try split) <;> (try split) <;> (try split) <;> (try split) <;> omega), rfl⟩) G (by first | (simp only []; omega) | decide) (by first | (simp only []; omega) | decide) rfl dX7_failure_131
                · skip
                  replace c99 : ((ac : Nat) : Int) = ((2 : Nat) : Int) := (cv_eq (nI_toInt (by omega)) (nI_toInt (by omega))).mp c99
                  refine lv_iload_n hx hb dX7_failure_102 rfl (lv_at hl 3 rfl) ?_
                  refine lv_if_eq (tgt := 125) hx hb dX7_failure_103 (by decide) (fun c103 => ?_) (fun c103 => ?_)
                  · skip
                    replace c103 : (v).toInt = (0) := (cv_eq rfl (by decide)).mp c103
                    refine lv_bipush (v := (nI (6))) hx hb dX7_failure_125 (by decide) ?_
                    refine lv_goto (tgt := 131) hx hb dX7_failure_127 (by decide) ?_
                    exact RET (nI (6)) (mW cI b I J F G0) _ _ ls _ _ _ (⟨congrArg nI (by unfold flN; split <;> (try split) <;> (try split) <;> (try split) <;> (try split) <;> omega), rfl⟩) G (by first | (simp only []; omega) | decide) (by first | (simp only []; omega) | decide) rfl dX7_failure_131
                  · skip
                    replace c103 : ¬ (v).toInt = (0) := fun h => c103 ((cv_eq rfl (by decide)).mpr h)
                    refine lv_iload_n hx hb dX7_failure_106 rfl (lv_at hl 1 rfl) ?_
                    refine lv_iconst (v := (nI (4))) hx hb dX7_failure_107 (by decide) ?_
                    refine lv_icmp_ne (tgt := 130) hx hb dX7_failure_108 (by decide) (fun c108 => ?_) (fun c108 => ?_)
                    · skip
                      replace c108 : ¬ ((ac : Nat) : Int) = ((4 : Nat) : Int) := fun h => c108 ((cv_eq (nI_toInt (by omega)) (nI_toInt (by omega))).mpr h)
                      refine lv_iconst (v := (nI (0))) hx hb dX7_failure_130 (by decide) ?_
                      exact RET (nI (0)) (mW cI b I J F G0) _ _ ls _ _ _ (⟨congrArg nI (by unfold flN; split <;> (try split) <;> (try split) <;> (try split) <;> (try split) <;> omega), rfl⟩) G (by first | (simp only []; omega) | decide) (by first | (simp only []; omega) | decide) rfl dX7_failure_131
                    · skip
                      replace c108 : ((ac : Nat) : Int) = ((4 : Nat) : Int) := (cv_eq (nI_toInt (by omega)) (nI_toInt (by omega))).mp c108
                      refine lv_aload_n hx hb dX7_failure_111 rfl (lv_at hl 0 rfl) ?_
                      refine r_get (v := .ref (b 4)) C G hX7 0 rfl rfl 7 (by decide) (by decide +kernel) rfl dX7_failure_112 ?_
                      refine lv_iload_n hx hb dX7_failure_115 rfl (lv_at hl 2 rfl) ?_
                      refine r_iald (v := nI ((F 3) j)) C G 4 0 rfl rfl j rfl (by omega) (by omega) rfl dX7_failure_116 ?_
                      refine lv_iconst (v := (nI (1))) hx hb dX7_failure_117 (by decide) ?_
                      refine lv_icmp_ne (tgt := 130) hx hb dX7_failure_118 (by decide) (fun c118 => ?_) (fun c118 => ?_)
                      · skip
                        replace c118 : ¬ (((F 3) j : Nat) : Int) = ((1 : Nat) : Int) := fun h => c118 ((cv_eq (nI_toInt (by omega)) (nI_toInt (by omega))).mpr h)
                        refine lv_iconst (v := (nI (0))) hx hb dX7_failure_130 (by decide) ?_
                        exact RET (nI (0)) (mW cI b I J F G0) _ _ ls _ _ _ (⟨congrArg nI (by unfold flN; split <;> (try split) <;> (try split) <;> (try split) <;> (try split) <;> omega), rfl⟩) G (by first | (simp only []; omega) | decide) (by first | (simp only []; omega) | decide) rfl dX7_failure_131
                      · skip
                        replace c118 : (((F 3) j : Nat) : Int) = ((1 : Nat) : Int) := (cv_eq (nI_toInt (by omega)) (nI_toInt (by omega))).mp c118
                        refine lv_iload_n hx hb dX7_failure_121 rfl (lv_at hl 3 rfl) ?_
                        refine lv_if_le (tgt := 130) hx hb dX7_failure_122 (by decide) (fun c122 => ?_) (fun c122 => ?_)
                        · skip
                          replace c122 : (v).toInt ≤ (0) := (cv_le rfl (by decide)).mp c122
                          refine lv_iconst (v := (nI (0))) hx hb dX7_failure_130 (by decide) ?_
                          exact RET (nI (0)) (mW cI b I J F G0) _ _ ls _ _ _ (⟨congrArg nI (by unfold flN; split <;> (try split) <;> (try split) <;> (try split) <;> (try split) <;> omega), rfl⟩) G (by first | (simp only []; omega) | decide) (by first | (simp only []; omega) | decide) rfl dX7_failure_131
                        · skip
                          replace c122 : (0) < (v).toInt := Int.not_le.mp (fun h => c122 ((cv_le rfl (by decide)).mpr h))
                          refine lv_bipush (v := (nI (6))) hx hb dX7_failure_125 (by decide) ?_
                          refine lv_goto (tgt := 131) hx hb dX7_failure_127 (by decide) ?_
                          exact RET (nI (6)) (mW cI b I J F G0) _ _ ls _ _ _ (⟨congrArg nI (by unfold flN; split <;> (try split) <;> (try split) <;> (try split) <;> (try split) <;> omega), rfl⟩) G (by first | (simp only []; omega) | decide) (by first | (simp only []; omega) | decide) rfl dX7_failure_131
              · skip
                replace c88 : ((ac : Nat) : Int) = ((1 : Nat) : Int) := (cv_eq (nI_toInt (by omega)) (nI_toInt (by omega))).mp c88
                refine lv_iload_n hx hb dX7_failure_91 rfl (lv_at hl 3 rfl) ?_
                refine lv_if_ge (tgt := 97) hx hb dX7_failure_92 (by decide) (fun c92 => ?_) (fun c92 => ?_)
                · skip
                  replace c92 : (0) ≤ (v).toInt := (cv_le (by decide) rfl).mp c92
                  refine lv_iload_n hx hb dX7_failure_97 rfl (lv_at hl 1 rfl) ?_
                  refine lv_iconst (v := (nI (2))) hx hb dX7_failure_98 (by decide) ?_
                  refine lv_icmp_ne (tgt := 106) hx hb dX7_failure_99 (by decide) (fun c99 => ?_) (fun c99 => ?_)
                  · skip
                    replace c99 : ¬ ((ac : Nat) : Int) = ((2 : Nat) : Int) := fun h => c99 ((cv_eq (nI_toInt (by omega)) (nI_toInt (by omega))).mpr h)
                    refine lv_iload_n hx hb dX7_failure_106 rfl (lv_at hl 1 rfl) ?_
                    refine lv_iconst (v := (nI (4))) hx hb dX7_failure_107 (by decide) ?_
                    refine lv_icmp_ne (tgt := 130) hx hb dX7_failure_108 (by decide) (fun c108 => ?_) (fun c108 => ?_)
                    · skip
                      replace c108 : ¬ ((ac : Nat) : Int) = ((4 : Nat) : Int) := fun h => c108 ((cv_eq (nI_toInt (by omega)) (nI_toInt (by omega))).mpr h)
                      refine lv_iconst (v := (nI (0))) hx hb dX7_failure_130 (by decide) ?_
                      exact RET (nI (0)) (mW cI b I J F G0) _ _ ls _ _ _ (⟨congrArg nI (by unfold flN; split <;> (try split) <;> (try split) <;> (try split) <;> (try split) <;> omega), rfl⟩) G (by first | (simp only []; omega) | decide) (by first | (simp only []; omega) | decide) rfl dX7_failure_131
                    · skip
                      replace c108 : ((ac : Nat) : Int) = ((4 : Nat) : Int) := (cv_eq (nI_toInt (by omega)) (nI_toInt (by omega))).mp c108
                      refine lv_aload_n hx hb dX7_failure_111 rfl (lv_at hl 0 rfl) ?_
                      refine r_get (v := .ref (b 4)) C G hX7 0 rfl rfl 7 (by decide) (by decide +kernel) rfl dX7_failure_112 ?_
                      refine lv_iload_n hx hb dX7_failure_115 rfl (lv_at hl 2 rfl) ?_
                      refine r_iald (v := nI ((F 3) j)) C G 4 0 rfl rfl j rfl (by omega) (by omega) rfl dX7_failure_116 ?_
                      refine lv_iconst (v := (nI (1))) hx hb dX7_failure_117 (by decide) ?_
                      refine lv_icmp_ne (tgt := 130) hx hb dX7_failure_118 (by decide) (fun c118 => ?_) (fun c118 => ?_)
                      · skip
                        replace c118 : ¬ (((F 3) j : Nat) : Int) = ((1 : Nat) : Int) := fun h => c118 ((cv_eq (nI_toInt (by omega)) (nI_toInt (by omega))).mpr h)
                        refine lv_iconst (v := (nI (0))) hx hb dX7_failure_130 (by decide) ?_
                        exact RET (nI (0)) (mW cI b I J F G0) _ _ ls _ _ _ (⟨congrArg nI (by unfold flN; split <;> (try split) <;> (try split) <;> (try split) <;> (try split) <;> omega), rfl⟩) G (by first | (simp only []; omega) | decide) (by first | (simp only []; omega) | decide) rfl dX7_failure_131
                      · skip
                        replace c118 : (((F 3) j : Nat) : Int) = ((1 : Nat) : Int) := (cv_eq (nI_toInt (by omega)) (nI_toInt (by omega))).mp c118
                        refine lv_iload_n hx hb dX7_failure_121 rfl (lv_at hl 3 rfl) ?_
                        refine lv_if_le (tgt := 130) hx hb dX7_failure_122 (by decide) (fun c122 => ?_) (fun c122 => ?_)
                        · skip
                          replace c122 : (v).toInt ≤ (0) := (cv_le rfl (by decide)).mp c122
                          refine lv_iconst (v := (nI (0))) hx hb dX7_failure_130 (by decide) ?_
                          exact RET (nI (0)) (mW cI b I J F G0) _ _ ls _ _ _ (⟨congrArg nI (by unfold flN; split <;> (try split) <;> (try split) <;> (try split) <;> (try split) <;> omega), rfl⟩) G (by first | (simp only []; omega) | decide) (by first | (simp only []; omega) | decide) rfl dX7_failure_131
                        · skip
                          replace c122 : (0) < (v).toInt := Int.not_le.mp (fun h => c122 ((cv_le rfl (by decide)).mpr h))
                          refine lv_bipush (v := (nI (6))) hx hb dX7_failure_125 (by decide) ?_
                          refine lv_goto (tgt := 131) hx hb dX7_failure_127 (by decide) ?_
                          exact RET (nI (6)) (mW cI b I J F G0) _ _ ls _ _ _ (⟨congrArg nI (by unfold flN; split <;> (try split) <;> (try split) <;> (try split) <;> (try split) <;> omega), rfl⟩) G (by first | (simp only []; omega) | decide) (by first | (simp only []; omega) | decide) rfl dX7_failure_131
                  · skip
                    replace c99 : ((ac : Nat) : Int) = ((2 : Nat) : Int) := (cv_eq (nI_toInt (by omega)) (nI_toInt (by omega))).mp c99
                    refine lv_iload_n hx hb dX7_failure_102 rfl (lv_at hl 3 rfl) ?_
                    refine lv_if_eq (tgt := 125) hx hb dX7_failure_103 (by decide) (fun c103 => ?_) (fun c103 => ?_)
                    · skip
                      replace c103 : (v).toInt = (0) := (cv_eq rfl (by decide)).mp c103
                      refine lv_bipush (v := (nI (6))) hx hb dX7_failure_125 (by decide) ?_
                      refine lv_goto (tgt := 131) hx hb dX7_failure_127 (by decide) ?_
                      exact RET (nI (6)) (mW cI b I J F G0) _ _ ls _ _ _ (⟨congrArg nI (by unfold flN; split <;> (try split) <;> (try split) <;> (try split) <;> (try split) <;> omega), rfl⟩) G (by first | (simp only []; omega) | decide) (by first | (simp only []; omega) | decide) rfl dX7_failure_131
                    · skip
                      replace c103 : ¬ (v).toInt = (0) := fun h => c103 ((cv_eq rfl (by decide)).mpr h)
                      refine lv_iload_n hx hb dX7_failure_106 rfl (lv_at hl 1 rfl) ?_
                      refine lv_iconst (v := (nI (4))) hx hb dX7_failure_107 (by decide) ?_
                      refine lv_icmp_ne (tgt := 130) hx hb dX7_failure_108 (by decide) (fun c108 => ?_) (fun c108 => ?_)
                      · skip
                        replace c108 : ¬ ((ac : Nat) : Int) = ((4 : Nat) : Int) := fun h => c108 ((cv_eq (nI_toInt (by omega)) (nI_toInt (by omega))).mpr h)
                        refine lv_iconst (v := (nI (0))) hx hb dX7_failure_130 (by decide) ?_
                        exact RET (nI (0)) (mW cI b I J F G0) _ _ ls _ _ _ (⟨congrArg nI (by unfold flN; split <;> (try split) <;> (try split) <;> (try split) <;> (try split) <;> omega), rfl⟩) G (by first | (simp only []; omega) | decide) (by first | (simp only []; omega) | decide) rfl dX7_failure_131
                      · skip
                        replace c108 : ((ac : Nat) : Int) = ((4 : Nat) : Int) := (cv_eq (nI_toInt (by omega)) (nI_toInt (by omega))).mp c108
                        refine lv_aload_n hx hb dX7_failure_111 rfl (lv_at hl 0 rfl) ?_
                        refine r_get (v := .ref (b 4)) C G hX7 0 rfl rfl 7 (by decide) (by decide +kernel) rfl dX7_failure_112 ?_
                        refine lv_iload_n hx hb dX7_failure_115 rfl (lv_at hl 2 rfl) ?_
                        refine r_iald (v := nI ((F 3) j)) C G 4 0 rfl rfl j rfl (by omega) (by omega) rfl dX7_failure_116 ?_
                        refine lv_iconst (v := (nI (1))) hx hb dX7_failure_117 (by decide) ?_
                        refine lv_icmp_ne (tgt := 130) hx hb dX7_failure_118 (by decide) (fun c118 => ?_) (fun c118 => ?_)
                        · skip
                          replace c118 : ¬ (((F 3) j : Nat) : Int) = ((1 : Nat) : Int) := fun h => c118 ((cv_eq (nI_toInt (by omega)) (nI_toInt (by omega))).mpr h)
                          refine lv_iconst (v := (nI (0))) hx hb dX7_failure_130 (by decide) ?_
                          exact RET (nI (0)) (mW cI b I J F G0) _ _ ls _ _ _ (⟨congrArg nI (by unfold flN; split <;> (try split) <;> (try split) <;> (try split) <;> (try split) <;> omega), rfl⟩) G (by first | (simp only []; omega) | decide) (by first | (simp only []; omega) | decide) rfl dX7_failure_131
                        · skip
                          replace c118 : (((F 3) j : Nat) : Int) = ((1 : Nat) : Int) := (cv_eq (nI_toInt (by omega)) (nI_toInt (by omega))).mp c118
                          refine lv_iload_n hx hb dX7_failure_121 rfl (lv_at hl 3 rfl) ?_
                          refine lv_if_le (tgt := 130) hx hb dX7_failure_122 (by decide) (fun c122 => ?_) (fun c122 => ?_)
                          · skip
                            replace c122 : (v).toInt ≤ (0) := (cv_le rfl (by decide)).mp c122
                            refine lv_iconst (v := (nI (0))) hx hb dX7_failure_130 (by decide) ?_
                            exact RET (nI (0)) (mW cI b I J F G0) _ _ ls _ _ _ (⟨congrArg nI (by unfold flN; split <;> (try split) <;> (try split) <;> (try split) <;> (try split) <;> omega), rfl⟩) G (by first | (simp only []; omega) | decide) (by first | (simp only []; omega) | decide) rfl dX7_failure_131
                          · skip
                            replace c122 : (0) < (v).toInt := Int.not_le.mp (fun h => c122 ((cv_le rfl (by decide)).mpr h))
                            refine lv_bipush (v := (nI (6))) hx hb dX7_failure_125 (by decide) ?_
                            refine lv_goto (tgt := 131) hx hb dX7_failure_127 (by decide) ?_
                            exact RET (nI (6)) (mW cI b I J F G0) _ _ ls _ _ _ (⟨congrArg nI (by unfold flN; split <;> (try split) <;> (try split) <;> (try split) <;> (try split) <;> omega), rfl⟩) G (by first | (simp only []; omega) | decide) (by first | (simp only []; omega) | decide) rfl dX7_failure_131
                · skip
                  replace c92 : (v).toInt < (0) := Int.not_le.mp (fun h => c92 ((cv_le (by decide) rfl).mpr h))
                  refine lv_iconst (v := (nI (5))) hx hb dX7_failure_95 (by decide) ?_
                  exact RET (nI (5)) (mW cI b I J F G0) _ _ ls _ _ _ (⟨congrArg nI (by unfold flN; split <;> (try split) <;> (try split) <;> (try split) <;> (try split) <;> omega), rfl⟩) G (by first | (simp only []; omega) | decide) (by first | (simp only []; omega) | decide) rfl dX7_failure_96
            · skip
              replace c68 : ((ac : Nat) : Int) = ((4 : Nat) : Int) := (cv_eq (nI_toInt (by omega)) (nI_toInt (by omega))).mp c68
              refine lv_aload_n hx hb dX7_failure_71 rfl (lv_at hl 0 rfl) ?_
              refine r_get (v := .ref (b 4)) C G hX7 0 rfl rfl 7 (by decide) (by decide +kernel) rfl dX7_failure_72 ?_
              refine lv_iload_n hx hb dX7_failure_75 rfl (lv_at hl 2 rfl) ?_
              refine r_iald (v := nI ((F 3) j)) C G 4 0 rfl rfl j rfl (by omega) (by omega) rfl dX7_failure_76 ?_
              refine lv_if_ne (tgt := 86) hx hb dX7_failure_77 (by decide) (fun c77 => ?_) (fun c77 => ?_)
              · skip
                replace c77 : ¬ (((F 3) j : Nat) : Int) = (0) := fun h => c77 ((cv_eq (nI_toInt (by omega)) (by decide)).mpr h)
                refine lv_iload_n hx hb dX7_failure_86 rfl (lv_at hl 1 rfl) ?_
                refine lv_iconst (v := (nI (1))) hx hb dX7_failure_87 (by decide) ?_
                refine lv_icmp_ne (tgt := 97) hx hb dX7_failure_88 (by decide) (fun c88 => ?_) (fun c88 => ?_)
                · skip
                  replace c88 : ¬ ((ac : Nat) : Int) = ((1 : Nat) : Int) := fun h => c88 ((cv_eq (nI_toInt (by omega)) (nI_toInt (by omega))).mpr h)
                  refine lv_iload_n hx hb dX7_failure_97 rfl (lv_at hl 1 rfl) ?_
                  refine lv_iconst (v := (nI (2))) hx hb dX7_failure_98 (by decide) ?_
                  refine lv_icmp_ne (tgt := 106) hx hb dX7_failure_99 (by decide) (fun c99 => ?_) (fun c99 => ?_)
                  · skip
                    replace c99 : ¬ ((ac : Nat) : Int) = ((2 : Nat) : Int) := fun h => c99 ((cv_eq (nI_toInt (by omega)) (nI_toInt (by omega))).mpr h)
                    refine lv_iload_n hx hb dX7_failure_106 rfl (lv_at hl 1 rfl) ?_
                    refine lv_iconst (v := (nI (4))) hx hb dX7_failure_107 (by decide) ?_
                    refine lv_icmp_ne (tgt := 130) hx hb dX7_failure_108 (by decide) (fun c108 => ?_) (fun c108 => ?_)
                    · skip
                      replace c108 : ¬ ((ac : Nat) : Int) = ((4 : Nat) : Int) := fun h => c108 ((cv_eq (nI_toInt (by omega)) (nI_toInt (by omega))).mpr h)
                      refine lv_iconst (v := (nI (0))) hx hb dX7_failure_130 (by decide) ?_
                      exact RET (nI (0)) (mW cI b I J F G0) _ _ ls _ _ _ (⟨congrArg nI (by unfold flN; split <;> (try split) <;> (try split) <;> (try split) <;> (try split) <;> omega), rfl⟩) G (by first | (simp only []; omega) | decide) (by first | (simp only []; omega) | decide) rfl dX7_failure_131
                    · skip
                      replace c108 : ((ac : Nat) : Int) = ((4 : Nat) : Int) := (cv_eq (nI_toInt (by omega)) (nI_toInt (by omega))).mp c108
                      refine lv_aload_n hx hb dX7_failure_111 rfl (lv_at hl 0 rfl) ?_
                      refine r_get (v := .ref (b 4)) C G hX7 0 rfl rfl 7 (by decide) (by decide +kernel) rfl dX7_failure_112 ?_
                      refine lv_iload_n hx hb dX7_failure_115 rfl (lv_at hl 2 rfl) ?_
                      refine r_iald (v := nI ((F 3) j)) C G 4 0 rfl rfl j rfl (by omega) (by omega) rfl dX7_failure_116 ?_
                      refine lv_iconst (v := (nI (1))) hx hb dX7_failure_117 (by decide) ?_
                      refine lv_icmp_ne (tgt := 130) hx hb dX7_failure_118 (by decide) (fun c118 => ?_) (fun c118 => ?_)
                      · skip
                        replace c118 : ¬ (((F 3) j : Nat) : Int) = ((1 : Nat) : Int) := fun h => c118 ((cv_eq (nI_toInt (by omega)) (nI_toInt (by omega))).mpr h)
                        refine lv_iconst (v := (nI (0))) hx hb dX7_failure_130 (by decide) ?_
                        exact RET (nI (0)) (mW cI b I J F G0) _ _ ls _ _ _ (⟨congrArg nI (by unfold flN; split <;> (try split) <;> (try split) <;> (try split) <;> (try split) <;> omega), rfl⟩) G (by first | (simp only []; omega) | decide) (by first | (simp only []; omega) | decide) rfl dX7_failure_131
                      · skip
                        replace c118 : (((F 3) j : Nat) : Int) = ((1 : Nat) : Int) := (cv_eq (nI_toInt (by omega)) (nI_toInt (by omega))).mp c118
                        refine lv_iload_n hx hb dX7_failure_121 rfl (lv_at hl 3 rfl) ?_
                        refine lv_if_le (tgt := 130) hx hb dX7_failure_122 (by decide) (fun c122 => ?_) (fun c122 => ?_)
                        · skip
                          replace c122 : (v).toInt ≤ (0) := (cv_le rfl (by decide)).mp c122
                          refine lv_iconst (v := (nI (0))) hx hb dX7_failure_130 (by decide) ?_
                          exact RET (nI (0)) (mW cI b I J F G0) _ _ ls _ _ _ (⟨congrArg nI (by unfold flN; split <;> (try split) <;> (try split) <;> (try split) <;> (try split) <;> omega), rfl⟩) G (by first | (simp only []; omega) | decide) (by first | (simp only []; omega) | decide) rfl dX7_failure_131
                        · skip
                          replace c122 : (0) < (v).toInt := Int.not_le.mp (fun h => c122 ((cv_le rfl (by decide)).mpr h))
                          refine lv_bipush (v := (nI (6))) hx hb dX7_failure_125 (by decide) ?_
                          refine lv_goto (tgt := 131) hx hb dX7_failure_127 (by decide) ?_
                          exact RET (nI (6)) (mW cI b I J F G0) _ _ ls _ _ _ (⟨congrArg nI (by unfold flN; split <;> (try split) <;> (try split) <;> (try split) <;> (try split) <;> omega), rfl⟩) G (by first | (simp only []; omega) | decide) (by first | (simp only []; omega) | decide) rfl dX7_failure_131
                  · skip
                    replace c99 : ((ac : Nat) : Int) = ((2 : Nat) : Int) := (cv_eq (nI_toInt (by omega)) (nI_toInt (by omega))).mp c99
                    refine lv_iload_n hx hb dX7_failure_102 rfl (lv_at hl 3 rfl) ?_
                    refine lv_if_eq (tgt := 125) hx hb dX7_failure_103 (by decide) (fun c103 => ?_) (fun c103 => ?_)
                    · skip
                      replace c103 : (v).toInt = (0) := (cv_eq rfl (by decide)).mp c103
                      refine lv_bipush (v := (nI (6))) hx hb dX7_failure_125 (by decide) ?_
                      refine lv_goto (tgt := 131) hx hb dX7_failure_127 (by decide) ?_
                      exact RET (nI (6)) (mW cI b I J F G0) _ _ ls _ _ _ (⟨congrArg nI (by unfold flN; split <;> (try split) <;> (try split) <;> (try split) <;> (try split) <;> omega), rfl⟩) G (by first | (simp only []; omega) | decide) (by first | (simp only []; omega) | decide) rfl dX7_failure_131
                    · skip
                      replace c103 : ¬ (v).toInt = (0) := fun h => c103 ((cv_eq rfl (by decide)).mpr h)
                      refine lv_iload_n hx hb dX7_failure_106 rfl (lv_at hl 1 rfl) ?_
                      refine lv_iconst (v := (nI (4))) hx hb dX7_failure_107 (by decide) ?_
                      refine lv_icmp_ne (tgt := 130) hx hb dX7_failure_108 (by decide) (fun c108 => ?_) (fun c108 => ?_)
                      · skip
                        replace c108 : ¬ ((ac : Nat) : Int) = ((4 : Nat) : Int) := fun h => c108 ((cv_eq (nI_toInt (by omega)) (nI_toInt (by omega))).mpr h)
                        refine lv_iconst (v := (nI (0))) hx hb dX7_failure_130 (by decide) ?_
                        exact RET (nI (0)) (mW cI b I J F G0) _ _ ls _ _ _ (⟨congrArg nI (by unfold flN; split <;> (try split) <;> (try split) <;> (try split) <;> (try split) <;> omega), rfl⟩) G (by first | (simp only []; omega) | decide) (by first | (simp only []; omega) | decide) rfl dX7_failure_131
                      · skip
                        replace c108 : ((ac : Nat) : Int) = ((4 : Nat) : Int) := (cv_eq (nI_toInt (by omega)) (nI_toInt (by omega))).mp c108
                        refine lv_aload_n hx hb dX7_failure_111 rfl (lv_at hl 0 rfl) ?_
                        refine r_get (v := .ref (b 4)) C G hX7 0 rfl rfl 7 (by decide) (by decide +kernel) rfl dX7_failure_112 ?_
                        refine lv_iload_n hx hb dX7_failure_115 rfl (lv_at hl 2 rfl) ?_
                        refine r_iald (v := nI ((F 3) j)) C G 4 0 rfl rfl j rfl (by omega) (by omega) rfl dX7_failure_116 ?_
                        refine lv_iconst (v := (nI (1))) hx hb dX7_failure_117 (by decide) ?_
                        refine lv_icmp_ne (tgt := 130) hx hb dX7_failure_118 (by decide) (fun c118 => ?_) (fun c118 => ?_)
                        · skip
                          replace c118 : ¬ (((F 3) j : Nat) : Int) = ((1 : Nat) : Int) := fun h => c118 ((cv_eq (nI_toInt (by omega)) (nI_toInt (by omega))).mpr h)
                          refine lv_iconst (v := (nI (0))) hx hb dX7_failure_130 (by decide) ?_
                          exact RET (nI (0)) (mW cI b I J F G0) _ _ ls _ _ _ (⟨congrArg nI (by unfold flN; split <;> (try split) <;> (try split) <;> (try split) <;> (try split) <;> omega), rfl⟩) G (by first | (simp only []; omega) | decide) (by first | (simp only []; omega) | decide) rfl dX7_failure_131
                        · skip
                          replace c118 : (((F 3) j : Nat) : Int) = ((1 : Nat) : Int) := (cv_eq (nI_toInt (by omega)) (nI_toInt (by omega))).mp c118
                          refine lv_iload_n hx hb dX7_failure_121 rfl (lv_at hl 3 rfl) ?_
                          refine lv_if_le (tgt := 130) hx hb dX7_failure_122 (by decide) (fun c122 => ?_) (fun c122 => ?_)
                          · skip
                            replace c122 : (v).toInt ≤ (0) := (cv_le rfl (by decide)).mp c122
                            refine lv_iconst (v := (nI (0))) hx hb dX7_failure_130 (by decide) ?_
                            exact RET (nI (0)) (mW cI b I J F G0) _ _ ls _ _ _ (⟨congrArg nI (by unfold flN; split <;> (try split) <;> (try split) <;> (try split) <;> (try split) <;> omega), rfl⟩) G (by first | (simp only []; omega) | decide) (by first | (simp only []; omega) | decide) rfl dX7_failure_131
                          · skip
                            replace c122 : (0) < (v).toInt := Int.not_le.mp (fun h => c122 ((cv_le rfl (by decide)).mpr h))
                            refine lv_bipush (v := (nI (6))) hx hb dX7_failure_125 (by decide) ?_
                            refine lv_goto (tgt := 131) hx hb dX7_failure_127 (by decide) ?_
                            exact RET (nI (6)) (mW cI b I J F G0) _ _ ls _ _ _ (⟨congrArg nI (by unfold flN; split <;> (try split) <;> (try split) <;> (try split) <;> (try split) <;> omega), rfl⟩) G (by first | (simp only []; omega) | decide) (by first | (simp only []; omega) | decide) rfl dX7_failure_131
                · skip
                  replace c88 : ((ac : Nat) : Int) = ((1 : Nat) : Int) := (cv_eq (nI_toInt (by omega)) (nI_toInt (by omega))).mp c88
                  refine lv_iload_n hx hb dX7_failure_91 rfl (lv_at hl 3 rfl) ?_
                  refine lv_if_ge (tgt := 97) hx hb dX7_failure_92 (by decide) (fun c92 => ?_) (fun c92 => ?_)
                  · skip
                    replace c92 : (0) ≤ (v).toInt := (cv_le (by decide) rfl).mp c92
                    refine lv_iload_n hx hb dX7_failure_97 rfl (lv_at hl 1 rfl) ?_
                    refine lv_iconst (v := (nI (2))) hx hb dX7_failure_98 (by decide) ?_
                    refine lv_icmp_ne (tgt := 106) hx hb dX7_failure_99 (by decide) (fun c99 => ?_) (fun c99 => ?_)
                    · skip
                      replace c99 : ¬ ((ac : Nat) : Int) = ((2 : Nat) : Int) := fun h => c99 ((cv_eq (nI_toInt (by omega)) (nI_toInt (by omega))).mpr h)
                      refine lv_iload_n hx hb dX7_failure_106 rfl (lv_at hl 1 rfl) ?_
                      refine lv_iconst (v := (nI (4))) hx hb dX7_failure_107 (by decide) ?_
                      refine lv_icmp_ne (tgt := 130) hx hb dX7_failure_108 (by decide) (fun c108 => ?_) (fun c108 => ?_)
                      · skip
                        replace c108 : ¬ ((ac : Nat) : Int) = ((4 : Nat) : Int) := fun h => c108 ((cv_eq (nI_toInt (by omega)) (nI_toInt (by omega))).mpr h)
                        refine lv_iconst (v := (nI (0))) hx hb dX7_failure_130 (by decide) ?_
                        exact RET (nI (0)) (mW cI b I J F G0) _ _ ls _ _ _ (⟨congrArg nI (by unfold flN; split <;> (try split) <;> (try split) <;> (try split) <;> (try split) <;> omega), rfl⟩) G (by first | (simp only []; omega) | decide) (by first | (simp only []; omega) | decide) rfl dX7_failure_131
                      · skip
                        replace c108 : ((ac : Nat) : Int) = ((4 : Nat) : Int) := (cv_eq (nI_toInt (by omega)) (nI_toInt (by omega))).mp c108
                        refine lv_aload_n hx hb dX7_failure_111 rfl (lv_at hl 0 rfl) ?_
                        refine r_get (v := .ref (b 4)) C G hX7 0 rfl rfl 7 (by decide) (by decide +kernel) rfl dX7_failure_112 ?_
                        refine lv_iload_n hx hb dX7_failure_115 rfl (lv_at hl 2 rfl) ?_
                        refine r_iald (v := nI ((F 3) j)) C G 4 0 rfl rfl j rfl (by omega) (by omega) rfl dX7_failure_116 ?_
                        refine lv_iconst (v := (nI (1))) hx hb dX7_failure_117 (by decide) ?_
                        refine lv_icmp_ne (tgt := 130) hx hb dX7_failure_118 (by decide) (fun c118 => ?_) (fun c118 => ?_)
                        · skip
                          replace c118 : ¬ (((F 3) j : Nat) : Int) = ((1 : Nat) : Int) := fun h => c118 ((cv_eq (nI_toInt (by omega)) (nI_toInt (by omega))).mpr h)
                          refine lv_iconst (v := (nI (0))) hx hb dX7_failure_130 (by decide) ?_
                          exact RET (nI (0)) (mW cI b I J F G0) _ _ ls _ _ _ (⟨congrArg nI (by unfold flN; split <;> (try split) <;> (try split) <;> (try split) <;> (try split) <;> omega), rfl⟩) G (by first | (simp only []; omega) | decide) (by first | (simp only []; omega) | decide) rfl dX7_failure_131
                        · skip
                          replace c118 : (((F 3) j : Nat) : Int) = ((1 : Nat) : Int) := (cv_eq (nI_toInt (by omega)) (nI_toInt (by omega))).mp c118
                          refine lv_iload_n hx hb dX7_failure_121 rfl (lv_at hl 3 rfl) ?_
                          refine lv_if_le (tgt := 130) hx hb dX7_failure_122 (by decide) (fun c122 => ?_) (fun c122 => ?_)
                          · skip
                            replace c122 : (v).toInt ≤ (0) := (cv_le rfl (by decide)).mp c122
                            refine lv_iconst (v := (nI (0))) hx hb dX7_failure_130 (by decide) ?_
                            exact RET (nI (0)) (mW cI b I J F G0) _ _ ls _ _ _ (⟨congrArg nI (by unfold flN; split <;> (try split) <;> (try split) <;> (try split) <;> (try split) <;> omega), rfl⟩) G (by first | (simp only []; omega) | decide) (by first | (simp only []; omega) | decide) rfl dX7_failure_131
                          · skip
                            replace c122 : (0) < (v).toInt := Int.not_le.mp (fun h => c122 ((cv_le rfl (by decide)).mpr h))
                            refine lv_bipush (v := (nI (6))) hx hb dX7_failure_125 (by decide) ?_
                            refine lv_goto (tgt := 131) hx hb dX7_failure_127 (by decide) ?_
                            exact RET (nI (6)) (mW cI b I J F G0) _ _ ls _ _ _ (⟨congrArg nI (by unfold flN; split <;> (try split) <;> (try split) <;> (try split) <;> (try split) <;> omega), rfl⟩) G (by first | (simp only []; omega) | decide) (by first | (simp only []; omega) | decide) rfl dX7_failure_131
                    · skip
                      replace c99 : ((ac : Nat) : Int) = ((2 : Nat) : Int) := (cv_eq (nI_toInt (by omega)) (nI_toInt (by omega))).mp c99
                      refine lv_iload_n hx hb dX7_failure_102 rfl (lv_at hl 3 rfl) ?_
                      refine lv_if_eq (tgt := 125) hx hb dX7_failure_103 (by decide) (fun c103 => ?_) (fun c103 => ?_)
                      · skip
                        replace c103 : (v).toInt = (0) := (cv_eq rfl (by decide)).mp c103
                        refine lv_bipush (v := (nI (6))) hx hb dX7_failure_125 (by decide) ?_
                        refine lv_goto (tgt := 131) hx hb dX7_failure_127 (by decide) ?_
                        exact RET (nI (6)) (mW cI b I J F G0) _ _ ls _ _ _ (⟨congrArg nI (by unfold flN; split <;> (try split) <;> (try split) <;> (try split) <;> (try split) <;> omega), rfl⟩) G (by first | (simp only []; omega) | decide) (by first | (simp only []; omega) | decide) rfl dX7_failure_131
                      · skip
                        replace c103 : ¬ (v).toInt = (0) := fun h => c103 ((cv_eq rfl (by decide)).mpr h)
                        refine lv_iload_n hx hb dX7_failure_106 rfl (lv_at hl 1 rfl) ?_
                        refine lv_iconst (v := (nI (4))) hx hb dX7_failure_107 (by decide) ?_
                        refine lv_icmp_ne (tgt := 130) hx hb dX7_failure_108 (by decide) (fun c108 => ?_) (fun c108 => ?_)
                        · skip
                          replace c108 : ¬ ((ac : Nat) : Int) = ((4 : Nat) : Int) := fun h => c108 ((cv_eq (nI_toInt (by omega)) (nI_toInt (by omega))).mpr h)
                          refine lv_iconst (v := (nI (0))) hx hb dX7_failure_130 (by decide) ?_
                          exact RET (nI (0)) (mW cI b I J F G0) _ _ ls _ _ _ (⟨congrArg nI (by unfold flN; split <;> (try split) <;> (try split) <;> (try split) <;> (try split) <;> omega), rfl⟩) G (by first | (simp only []; omega) | decide) (by first | (simp only []; omega) | decide) rfl dX7_failure_131
                        · skip
                          replace c108 : ((ac : Nat) : Int) = ((4 : Nat) : Int) := (cv_eq (nI_toInt (by omega)) (nI_toInt (by omega))).mp c108
                          refine lv_aload_n hx hb dX7_failure_111 rfl (lv_at hl 0 rfl) ?_
                          refine r_get (v := .ref (b 4)) C G hX7 0 rfl rfl 7 (by decide) (by decide +kernel) rfl dX7_failure_112 ?_
                          refine lv_iload_n hx hb dX7_failure_115 rfl (lv_at hl 2 rfl) ?_
                          refine r_iald (v := nI ((F 3) j)) C G 4 0 rfl rfl j rfl (by omega) (by omega) rfl dX7_failure_116 ?_
                          refine lv_iconst (v := (nI (1))) hx hb dX7_failure_117 (by decide) ?_
                          refine lv_icmp_ne (tgt := 130) hx hb dX7_failure_118 (by decide) (fun c118 => ?_) (fun c118 => ?_)
                          · skip
                            replace c118 : ¬ (((F 3) j : Nat) : Int) = ((1 : Nat) : Int) := fun h => c118 ((cv_eq (nI_toInt (by omega)) (nI_toInt (by omega))).mpr h)
                            refine lv_iconst (v := (nI (0))) hx hb dX7_failure_130 (by decide) ?_
                            exact RET (nI (0)) (mW cI b I J F G0) _ _ ls _ _ _ (⟨congrArg nI (by unfold flN; split <;> (try split) <;> (try split) <;> (try split) <;> (try split) <;> omega), rfl⟩) G (by first | (simp only []; omega) | decide) (by first | (simp only []; omega) | decide) rfl dX7_failure_131
                          · skip
                            replace c118 : (((F 3) j : Nat) : Int) = ((1 : Nat) : Int) := (cv_eq (nI_toInt (by omega)) (nI_toInt (by omega))).mp c118
                            refine lv_iload_n hx hb dX7_failure_121 rfl (lv_at hl 3 rfl) ?_
                            refine lv_if_le (tgt := 130) hx hb dX7_failure_122 (by decide) (fun c122 => ?_) (fun c122 => ?_)
                            · skip
                              replace c122 : (v).toInt ≤ (0) := (cv_le rfl (by decide)).mp c122
                              refine lv_iconst (v := (nI (0))) hx hb dX7_failure_130 (by decide) ?_
                              exact RET (nI (0)) (mW cI b I J F G0) _ _ ls _ _ _ (⟨congrArg nI (by unfold flN; split <;> (try split) <;> (try split) <;> (try split) <;> (try split) <;> omega), rfl⟩) G (by first | (simp only []; omega) | decide) (by first | (simp only []; omega) | decide) rfl dX7_failure_131
                            · skip
                              replace c122 : (0) < (v).toInt := Int.not_le.mp (fun h => c122 ((cv_le rfl (by decide)).mpr h))
                              refine lv_bipush (v := (nI (6))) hx hb dX7_failure_125 (by decide) ?_
                              refine lv_goto (tgt := 131) hx hb dX7_failure_127 (by decide) ?_
                              exact RET (nI (6)) (mW cI b I J F G0) _ _ ls _ _ _ (⟨congrArg nI (by unfold flN; split <;> (try split) <;> (try split) <;> (try split) <;> (try split) <;> omega), rfl⟩) G (by first | (simp only []; omega) | decide) (by first | (simp only []; omega) | decide) rfl dX7_failure_131
                  · skip
                    replace c92 : (v).toInt < (0) := Int.not_le.mp (fun h => c92 ((cv_le (by decide) rfl).mpr h))
                    refine lv_iconst (v := (nI (5))) hx hb dX7_failure_95 (by decide) ?_
                    exact RET (nI (5)) (mW cI b I J F G0) _ _ ls _ _ _ (⟨congrArg nI (by unfold flN; split <;> (try split) <;> (try split) <;> (try split) <;> (try split) <;> omega), rfl⟩) G (by first | (simp only []; omega) | decide) (by first | (simp only []; omega) | decide) rfl dX7_failure_96
              · skip
                replace c77 : (((F 3) j : Nat) : Int) = (0) := (cv_eq (nI_toInt (by omega)) (by decide)).mp c77
                refine lv_iload_n hx hb dX7_failure_80 rfl (lv_at hl 3 rfl) ?_
                refine lv_if_le (tgt := 86) hx hb dX7_failure_81 (by decide) (fun c81 => ?_) (fun c81 => ?_)
                · skip
                  replace c81 : (v).toInt ≤ (0) := (cv_le rfl (by decide)).mp c81
                  refine lv_iload_n hx hb dX7_failure_86 rfl (lv_at hl 1 rfl) ?_
                  refine lv_iconst (v := (nI (1))) hx hb dX7_failure_87 (by decide) ?_
                  refine lv_icmp_ne (tgt := 97) hx hb dX7_failure_88 (by decide) (fun c88 => ?_) (fun c88 => ?_)
                  · skip
                    replace c88 : ¬ ((ac : Nat) : Int) = ((1 : Nat) : Int) := fun h => c88 ((cv_eq (nI_toInt (by omega)) (nI_toInt (by omega))).mpr h)
                    refine lv_iload_n hx hb dX7_failure_97 rfl (lv_at hl 1 rfl) ?_
                    refine lv_iconst (v := (nI (2))) hx hb dX7_failure_98 (by decide) ?_
                    refine lv_icmp_ne (tgt := 106) hx hb dX7_failure_99 (by decide) (fun c99 => ?_) (fun c99 => ?_)
                    · skip
                      replace c99 : ¬ ((ac : Nat) : Int) = ((2 : Nat) : Int) := fun h => c99 ((cv_eq (nI_toInt (by omega)) (nI_toInt (by omega))).mpr h)
                      refine lv_iload_n hx hb dX7_failure_106 rfl (lv_at hl 1 rfl) ?_
                      refine lv_iconst (v := (nI (4))) hx hb dX7_failure_107 (by decide) ?_
                      refine lv_icmp_ne (tgt := 130) hx hb dX7_failure_108 (by decide) (fun c108 => ?_) (fun c108 => ?_)
                      · skip
                        replace c108 : ¬ ((ac : Nat) : Int) = ((4 : Nat) : Int) := fun h => c108 ((cv_eq (nI_toInt (by omega)) (nI_toInt (by omega))).mpr h)
                        refine lv_iconst (v := (nI (0))) hx hb dX7_failure_130 (by decide) ?_
                        exact RET (nI (0)) (mW cI b I J F G0) _ _ ls _ _ _ (⟨congrArg nI (by unfold flN; split <;> (try split) <;> (try split) <;> (try split) <;> (try split) <;> omega), rfl⟩) G (by first | (simp only []; omega) | decide) (by first | (simp only []; omega) | decide) rfl dX7_failure_131
                      · skip
                        replace c108 : ((ac : Nat) : Int) = ((4 : Nat) : Int) := (cv_eq (nI_toInt (by omega)) (nI_toInt (by omega))).mp c108
                        refine lv_aload_n hx hb dX7_failure_111 rfl (lv_at hl 0 rfl) ?_
                        refine r_get (v := .ref (b 4)) C G hX7 0 rfl rfl 7 (by decide) (by decide +kernel) rfl dX7_failure_112 ?_
                        refine lv_iload_n hx hb dX7_failure_115 rfl (lv_at hl 2 rfl) ?_
                        refine r_iald (v := nI ((F 3) j)) C G 4 0 rfl rfl j rfl (by omega) (by omega) rfl dX7_failure_116 ?_
                        refine lv_iconst (v := (nI (1))) hx hb dX7_failure_117 (by decide) ?_
                        refine lv_icmp_ne (tgt := 130) hx hb dX7_failure_118 (by decide) (fun c118 => ?_) (fun c118 => ?_)
                        · skip
                          replace c118 : ¬ (((F 3) j : Nat) : Int) = ((1 : Nat) : Int) := fun h => c118 ((cv_eq (nI_toInt (by omega)) (nI_toInt (by omega))).mpr h)
                          refine lv_iconst (v := (nI (0))) hx hb dX7_failure_130 (by decide) ?_
                          exact RET (nI (0)) (mW cI b I J F G0) _ _ ls _ _ _ (⟨congrArg nI (by unfold flN; split <;> (try split) <;> (try split) <;> (try split) <;> (try split) <;> omega), rfl⟩) G (by first | (simp only []; omega) | decide) (by first | (simp only []; omega) | decide) rfl dX7_failure_131
                        · skip
                          replace c118 : (((F 3) j : Nat) : Int) = ((1 : Nat) : Int) := (cv_eq (nI_toInt (by omega)) (nI_toInt (by omega))).mp c118
                          refine lv_iload_n hx hb dX7_failure_121 rfl (lv_at hl 3 rfl) ?_
                          refine lv_if_le (tgt := 130) hx hb dX7_failure_122 (by decide) (fun c122 => ?_) (fun c122 => ?_)
                          · skip
                            replace c122 : (v).toInt ≤ (0) := (cv_le rfl (by decide)).mp c122
                            refine lv_iconst (v := (nI (0))) hx hb dX7_failure_130 (by decide) ?_
                            exact RET (nI (0)) (mW cI b I J F G0) _ _ ls _ _ _ (⟨congrArg nI (by unfold flN; split <;> (try split) <;> (try split) <;> (try split) <;> (try split) <;> omega), rfl⟩) G (by first | (simp only []; omega) | decide) (by first | (simp only []; omega) | decide) rfl dX7_failure_131
                          · skip
                            replace c122 : (0) < (v).toInt := Int.not_le.mp (fun h => c122 ((cv_le rfl (by decide)).mpr h))
                            refine lv_bipush (v := (nI (6))) hx hb dX7_failure_125 (by decide) ?_
                            refine lv_goto (tgt := 131) hx hb dX7_failure_127 (by decide) ?_
                            exact RET (nI (6)) (mW cI b I J F G0) _ _ ls _ _ _ (⟨congrArg nI (by unfold flN; split <;> (try split) <;> (try split) <;> (try split) <;> (try split) <;> omega), rfl⟩) G (by first | (simp only []; omega) | decide) (by first | (simp only []; omega) | decide) rfl dX7_failure_131
                    · skip
                      replace c99 : ((ac : Nat) : Int) = ((2 : Nat) : Int) := (cv_eq (nI_toInt (by omega)) (nI_toInt (by omega))).mp c99
                      refine lv_iload_n hx hb dX7_failure_102 rfl (lv_at hl 3 rfl) ?_
                      refine lv_if_eq (tgt := 125) hx hb dX7_failure_103 (by decide) (fun c103 => ?_) (fun c103 => ?_)
                      · skip
                        replace c103 : (v).toInt = (0) := (cv_eq rfl (by decide)).mp c103
                        refine lv_bipush (v := (nI (6))) hx hb dX7_failure_125 (by decide) ?_
                        refine lv_goto (tgt := 131) hx hb dX7_failure_127 (by decide) ?_
                        exact RET (nI (6)) (mW cI b I J F G0) _ _ ls _ _ _ (⟨congrArg nI (by unfold flN; split <;> (try split) <;> (try split) <;> (try split) <;> (try split) <;> omega), rfl⟩) G (by first | (simp only []; omega) | decide) (by first | (simp only []; omega) | decide) rfl dX7_failure_131
                      · skip
                        replace c103 : ¬ (v).toInt = (0) := fun h => c103 ((cv_eq rfl (by decide)).mpr h)
                        refine lv_iload_n hx hb dX7_failure_106 rfl (lv_at hl 1 rfl) ?_
                        refine lv_iconst (v := (nI (4))) hx hb dX7_failure_107 (by decide) ?_
                        refine lv_icmp_ne (tgt := 130) hx hb dX7_failure_108 (by decide) (fun c108 => ?_) (fun c108 => ?_)
                        · skip
                          replace c108 : ¬ ((ac : Nat) : Int) = ((4 : Nat) : Int) := fun h => c108 ((cv_eq (nI_toInt (by omega)) (nI_toInt (by omega))).mpr h)
                          refine lv_iconst (v := (nI (0))) hx hb dX7_failure_130 (by decide) ?_
                          exact RET (nI (0)) (mW cI b I J F G0) _ _ ls _ _ _ (⟨congrArg nI (by unfold flN; split <;> (try split) <;> (try split) <;> (try split) <;> (try split) <;> omega), rfl⟩) G (by first | (simp only []; omega) | decide) (by first | (simp only []; omega) | decide) rfl dX7_failure_131
                        · skip
                          replace c108 : ((ac : Nat) : Int) = ((4 : Nat) : Int) := (cv_eq (nI_toInt (by omega)) (nI_toInt (by omega))).mp c108
                          refine lv_aload_n hx hb dX7_failure_111 rfl (lv_at hl 0 rfl) ?_
                          refine r_get (v := .ref (b 4)) C G hX7 0 rfl rfl 7 (by decide) (by decide +kernel) rfl dX7_failure_112 ?_
                          refine lv_iload_n hx hb dX7_failure_115 rfl (lv_at hl 2 rfl) ?_
                          refine r_iald (v := nI ((F 3) j)) C G 4 0 rfl rfl j rfl (by omega) (by omega) rfl dX7_failure_116 ?_
                          refine lv_iconst (v := (nI (1))) hx hb dX7_failure_117 (by decide) ?_
                          refine lv_icmp_ne (tgt := 130) hx hb dX7_failure_118 (by decide) (fun c118 => ?_) (fun c118 => ?_)
                          · skip
                            replace c118 : ¬ (((F 3) j : Nat) : Int) = ((1 : Nat) : Int) := fun h => c118 ((cv_eq (nI_toInt (by omega)) (nI_toInt (by omega))).mpr h)
                            refine lv_iconst (v := (nI (0))) hx hb dX7_failure_130 (by decide) ?_
                            exact RET (nI (0)) (mW cI b I J F G0) _ _ ls _ _ _ (⟨congrArg nI (by unfold flN; split <;> (try split) <;> (try split) <;> (try split) <;> (try split) <;> omega), rfl⟩) G (by first | (simp only []; omega) | decide) (by first | (simp only []; omega) | decide) rfl dX7_failure_131
                          · skip
                            replace c118 : (((F 3) j : Nat) : Int) = ((1 : Nat) : Int) := (cv_eq (nI_toInt (by omega)) (nI_toInt (by omega))).mp c118
                            refine lv_iload_n hx hb dX7_failure_121 rfl (lv_at hl 3 rfl) ?_
                            refine lv_if_le (tgt := 130) hx hb dX7_failure_122 (by decide) (fun c122 => ?_) (fun c122 => ?_)
                            · skip
                              replace c122 : (v).toInt ≤ (0) := (cv_le rfl (by decide)).mp c122
                              refine lv_iconst (v := (nI (0))) hx hb dX7_failure_130 (by decide) ?_
                              exact RET (nI (0)) (mW cI b I J F G0) _ _ ls _ _ _ (⟨congrArg nI (by unfold flN; split <;> (try split) <;> (try split) <;> (try split) <;> (try split) <;> omega), rfl⟩) G (by first | (simp only []; omega) | decide) (by first | (simp only []; omega) | decide) rfl dX7_failure_131
                            · skip
                              replace c122 : (0) < (v).toInt := Int.not_le.mp (fun h => c122 ((cv_le rfl (by decide)).mpr h))
                              refine lv_bipush (v := (nI (6))) hx hb dX7_failure_125 (by decide) ?_
                              refine lv_goto (tgt := 131) hx hb dX7_failure_127 (by decide) ?_
                              exact RET (nI (6)) (mW cI b I J F G0) _ _ ls _ _ _ (⟨congrArg nI (by unfold flN; split <;> (try split) <;> (try split) <;> (try split) <;> (try split) <;> omega), rfl⟩) G (by first | (simp only []; omega) | decide) (by first | (simp only []; omega) | decide) rfl dX7_failure_131
                  · skip
                    replace c88 : ((ac : Nat) : Int) = ((1 : Nat) : Int) := (cv_eq (nI_toInt (by omega)) (nI_toInt (by omega))).mp c88
                    refine lv_iload_n hx hb dX7_failure_91 rfl (lv_at hl 3 rfl) ?_
                    refine lv_if_ge (tgt := 97) hx hb dX7_failure_92 (by decide) (fun c92 => ?_) (fun c92 => ?_)
                    · skip
                      replace c92 : (0) ≤ (v).toInt := (cv_le (by decide) rfl).mp c92
                      refine lv_iload_n hx hb dX7_failure_97 rfl (lv_at hl 1 rfl) ?_
                      refine lv_iconst (v := (nI (2))) hx hb dX7_failure_98 (by decide) ?_
                      refine lv_icmp_ne (tgt := 106) hx hb dX7_failure_99 (by decide) (fun c99 => ?_) (fun c99 => ?_)
                      · skip
                        replace c99 : ¬ ((ac : Nat) : Int) = ((2 : Nat) : Int) := fun h => c99 ((cv_eq (nI_toInt (by omega)) (nI_toInt (by omega))).mpr h)
                        refine lv_iload_n hx hb dX7_failure_106 rfl (lv_at hl 1 rfl) ?_
                        refine lv_iconst (v := (nI (4))) hx hb dX7_failure_107 (by decide) ?_
                        refine lv_icmp_ne (tgt := 130) hx hb dX7_failure_108 (by decide) (fun c108 => ?_) (fun c108 => ?_)
                        · skip
                          replace c108 : ¬ ((ac : Nat) : Int) = ((4 : Nat) : Int) := fun h => c108 ((cv_eq (nI_toInt (by omega)) (nI_toInt (by omega))).mpr h)
                          refine lv_iconst (v := (nI (0))) hx hb dX7_failure_130 (by decide) ?_
                          exact RET (nI (0)) (mW cI b I J F G0) _ _ ls _ _ _ (⟨congrArg nI (by unfold flN; split <;> (try split) <;> (try split) <;> (try split) <;> (try split) <;> omega), rfl⟩) G (by first | (simp only []; omega) | decide) (by first | (simp only []; omega) | decide) rfl dX7_failure_131
                        · skip
                          replace c108 : ((ac : Nat) : Int) = ((4 : Nat) : Int) := (cv_eq (nI_toInt (by omega)) (nI_toInt (by omega))).mp c108
                          refine lv_aload_n hx hb dX7_failure_111 rfl (lv_at hl 0 rfl) ?_
                          refine r_get (v := .ref (b 4)) C G hX7 0 rfl rfl 7 (by decide) (by decide +kernel) rfl dX7_failure_112 ?_
                          refine lv_iload_n hx hb dX7_failure_115 rfl (lv_at hl 2 rfl) ?_
                          refine r_iald (v := nI ((F 3) j)) C G 4 0 rfl rfl j rfl (by omega) (by omega) rfl dX7_failure_116 ?_
                          refine lv_iconst (v := (nI (1))) hx hb dX7_failure_117 (by decide) ?_
                          refine lv_icmp_ne (tgt := 130) hx hb dX7_failure_118 (by decide) (fun c118 => ?_) (fun c118 => ?_)
                          · skip
                            replace c118 : ¬ (((F 3) j : Nat) : Int) = ((1 : Nat) : Int) := fun h => c118 ((cv_eq (nI_toInt (by omega)) (nI_toInt (by omega))).mpr h)
                            refine lv_iconst (v := (nI (0))) hx hb dX7_failure_130 (by decide) ?_
                            exact RET (nI (0)) (mW cI b I J F G0) _ _ ls _ _ _ (⟨congrArg nI (by unfold flN; split <;> (try split) <;> (try split) <;> (try split) <;> (try split) <;> omega), rfl⟩) G (by first | (simp only []; omega) | decide) (by first | (simp only []; omega) | decide) rfl dX7_failure_131
                          · skip
                            replace c118 : (((F 3) j : Nat) : Int) = ((1 : Nat) : Int) := (cv_eq (nI_toInt (by omega)) (nI_toInt (by omega))).mp c118
                            refine lv_iload_n hx hb dX7_failure_121 rfl (lv_at hl 3 rfl) ?_
                            refine lv_if_le (tgt := 130) hx hb dX7_failure_122 (by decide) (fun c122 => ?_) (fun c122 => ?_)
                            · skip
                              replace c122 : (v).toInt ≤ (0) := (cv_le rfl (by decide)).mp c122
                              refine lv_iconst (v := (nI (0))) hx hb dX7_failure_130 (by decide) ?_
                              exact RET (nI (0)) (mW cI b I J F G0) _ _ ls _ _ _ (⟨congrArg nI (by unfold flN; split <;> (try split) <;> (try split) <;> (try split) <;> (try split) <;> omega), rfl⟩) G (by first | (simp only []; omega) | decide) (by first | (simp only []; omega) | decide) rfl dX7_failure_131
                            · skip
                              replace c122 : (0) < (v).toInt := Int.not_le.mp (fun h => c122 ((cv_le rfl (by decide)).mpr h))
                              refine lv_bipush (v := (nI (6))) hx hb dX7_failure_125 (by decide) ?_
                              refine lv_goto (tgt := 131) hx hb dX7_failure_127 (by decide) ?_
                              exact RET (nI (6)) (mW cI b I J F G0) _ _ ls _ _ _ (⟨congrArg nI (by unfold flN; split <;> (try split) <;> (try split) <;> (try split) <;> (try split) <;> omega), rfl⟩) G (by first | (simp only []; omega) | decide) (by first | (simp only []; omega) | decide) rfl dX7_failure_131
                      · skip
                        replace c99 : ((ac : Nat) : Int) = ((2 : Nat) : Int) := (cv_eq (nI_toInt (by omega)) (nI_toInt (by omega))).mp c99
                        refine lv_iload_n hx hb dX7_failure_102 rfl (lv_at hl 3 rfl) ?_
                        refine lv_if_eq (tgt := 125) hx hb dX7_failure_103 (by decide) (fun c103 => ?_) (fun c103 => ?_)
                        · skip
                          replace c103 : (v).toInt = (0) := (cv_eq rfl (by decide)).mp c103
                          refine lv_bipush (v := (nI (6))) hx hb dX7_failure_125 (by decide) ?_
                          refine lv_goto (tgt := 131) hx hb dX7_failure_127 (by decide) ?_
                          exact RET (nI (6)) (mW cI b I J F G0) _ _ ls _ _ _ (⟨congrArg nI (by unfold flN; split <;> (try split) <;> (try split) <;> (try split) <;> (try split) <;> omega), rfl⟩) G (by first | (simp only []; omega) | decide) (by first | (simp only []; omega) | decide) rfl dX7_failure_131
                        · skip
                          replace c103 : ¬ (v).toInt = (0) := fun h => c103 ((cv_eq rfl (by decide)).mpr h)
                          refine lv_iload_n hx hb dX7_failure_106 rfl (lv_at hl 1 rfl) ?_
                          refine lv_iconst (v := (nI (4))) hx hb dX7_failure_107 (by decide) ?_
                          refine lv_icmp_ne (tgt := 130) hx hb dX7_failure_108 (by decide) (fun c108 => ?_) (fun c108 => ?_)
                          · skip
                            replace c108 : ¬ ((ac : Nat) : Int) = ((4 : Nat) : Int) := fun h => c108 ((cv_eq (nI_toInt (by omega)) (nI_toInt (by omega))).mpr h)
                            refine lv_iconst (v := (nI (0))) hx hb dX7_failure_130 (by decide) ?_
                            exact RET (nI (0)) (mW cI b I J F G0) _ _ ls _ _ _ (⟨congrArg nI (by unfold flN; split <;> (try split) <;> (try split) <;> (try split) <;> (try split) <;> omega), rfl⟩) G (by first | (simp only []; omega) | decide) (by first | (simp only []; omega) | decide) rfl dX7_failure_131
                          · skip
                            replace c108 : ((ac : Nat) : Int) = ((4 : Nat) : Int) := (cv_eq (nI_toInt (by omega)) (nI_toInt (by omega))).mp c108
                            refine lv_aload_n hx hb dX7_failure_111 rfl (lv_at hl 0 rfl) ?_
                            refine r_get (v := .ref (b 4)) C G hX7 0 rfl rfl 7 (by decide) (by decide +kernel) rfl dX7_failure_112 ?_
                            refine lv_iload_n hx hb dX7_failure_115 rfl (lv_at hl 2 rfl) ?_
                            refine r_iald (v := nI ((F 3) j)) C G 4 0 rfl rfl j rfl (by omega) (by omega) rfl dX7_failure_116 ?_
                            refine lv_iconst (v := (nI (1))) hx hb dX7_failure_117 (by decide) ?_
                            refine lv_icmp_ne (tgt := 130) hx hb dX7_failure_118 (by decide) (fun c118 => ?_) (fun c118 => ?_)
                            · skip
                              replace c118 : ¬ (((F 3) j : Nat) : Int) = ((1 : Nat) : Int) := fun h => c118 ((cv_eq (nI_toInt (by omega)) (nI_toInt (by omega))).mpr h)
                              refine lv_iconst (v := (nI (0))) hx hb dX7_failure_130 (by decide) ?_
                              exact RET (nI (0)) (mW cI b I J F G0) _ _ ls _ _ _ (⟨congrArg nI (by unfold flN; split <;> (try split) <;> (try split) <;> (try split) <;> (try split) <;> omega), rfl⟩) G (by first | (simp only []; omega) | decide) (by first | (simp only []; omega) | decide) rfl dX7_failure_131
                            · skip
                              replace c118 : (((F 3) j : Nat) : Int) = ((1 : Nat) : Int) := (cv_eq (nI_toInt (by omega)) (nI_toInt (by omega))).mp c118
                              refine lv_iload_n hx hb dX7_failure_121 rfl (lv_at hl 3 rfl) ?_
                              refine lv_if_le (tgt := 130) hx hb dX7_failure_122 (by decide) (fun c122 => ?_) (fun c122 => ?_)
                              · skip
                                replace c122 : (v).toInt ≤ (0) := (cv_le rfl (by decide)).mp c122
                                refine lv_iconst (v := (nI (0))) hx hb dX7_failure_130 (by decide) ?_
                                exact RET (nI (0)) (mW cI b I J F G0) _ _ ls _ _ _ (⟨congrArg nI (by unfold flN; split <;> (try split) <;> (try split) <;> (try split) <;> (try split) <;> omega), rfl⟩) G (by first | (simp only []; omega) | decide) (by first | (simp only []; omega) | decide) rfl dX7_failure_131
                              · skip
                                replace c122 : (0) < (v).toInt := Int.not_le.mp (fun h => c122 ((cv_le rfl (by decide)).mpr h))
                                refine lv_bipush (v := (nI (6))) hx hb dX7_failure_125 (by decide) ?_
                                refine lv_goto (tgt := 131) hx hb dX7_failure_127 (by decide) ?_
                                exact RET (nI (6)) (mW cI b I J F G0) _ _ ls _ _ _ (⟨congrArg nI (by unfold flN; split <;> (try split) <;> (try split) <;> (try split) <;> (try split) <;> omega), rfl⟩) G (by first | (simp only []; omega) | decide) (by first | (simp only []; omega) | decide) rfl dX7_failure_131
                    · skip
                      replace c92 : (v).toInt < (0) := Int.not_le.mp (fun h => c92 ((cv_le (by decide) rfl).mpr h))
                      refine lv_iconst (v := (nI (5))) hx hb dX7_failure_95 (by decide) ?_
                      exact RET (nI (5)) (mW cI b I J F G0) _ _ ls _ _ _ (⟨congrArg nI (by unfold flN; split <;> (try split) <;> (try split) <;> (try split) <;> (try split) <;> omega), rfl⟩) G (by first | (simp only []; omega) | decide) (by first | (simp only []; omega) | decide) rfl dX7_failure_96
                · skip
                  replace c81 : (0) < (v).toInt := Int.not_le.mp (fun h => c81 ((cv_le rfl (by decide)).mpr h))
                  refine lv_iconst (v := (nI (3))) hx hb dX7_failure_84 (by decide) ?_
                  exact RET (nI (3)) (mW cI b I J F G0) _ _ ls _ _ _ (⟨congrArg nI (by unfold flN; split <;> (try split) <;> (try split) <;> (try split) <;> (try split) <;> omega), rfl⟩) G (by first | (simp only []; omega) | decide) (by first | (simp only []; omega) | decide) rfl dX7_failure_85
          · skip
            replace c43 : ((ac : Nat) : Int) = ((1 : Nat) : Int) := (cv_eq (nI_toInt (by omega)) (nI_toInt (by omega))).mp c43
            refine lv_iload_n hx hb dX7_failure_46 rfl (lv_at hl 3 rfl) ?_
            refine lv_aload_n hx hb dX7_failure_47 rfl (lv_at hl 0 rfl) ?_
            refine r_get (v := .ref (b 5)) C G hX7 0 rfl rfl 8 (by decide) (by decide +kernel) rfl dX7_failure_48 ?_
            refine lv_iload_n hx hb dX7_failure_51 rfl (lv_at hl 2 rfl) ?_
            refine r_iald (v := nI ((F 4) j)) C G 5 0 rfl rfl j rfl (by omega) (by omega) rfl dX7_failure_52 ?_
            refine lv_icmp_gt (tgt := 84) hx hb dX7_failure_53 (by decide) (fun c53 => ?_) (fun c53 => ?_)
            · skip
              replace c53 : (((F 4) j : Nat) : Int) < (v).toInt := (cv_lt (nI_toInt (by omega)) rfl).mp c53
              refine lv_iconst (v := (nI (3))) hx hb dX7_failure_84 (by decide) ?_
              exact RET (nI (3)) (mW cI b I J F G0) _ _ ls _ _ _ (⟨congrArg nI (by unfold flN; split <;> (try split) <;> (try split) <;> (try split) <;> (try split) <;> omega), rfl⟩) G (by first | (simp only []; omega) | decide) (by first | (simp only []; omega) | decide) rfl dX7_failure_85
            · skip
              replace c53 : (v).toInt ≤ (((F 4) j : Nat) : Int) := Int.not_lt.mp (fun h => c53 ((cv_lt (nI_toInt (by omega)) rfl).mpr h))
              refine lv_iload_n hx hb dX7_failure_56 rfl (lv_at hl 3 rfl) ?_
              refine lv_aload_n hx hb dX7_failure_57 rfl (lv_at hl 0 rfl) ?_
              refine r_get (v := .ref (b 6)) C G hX7 0 rfl rfl 9 (by decide) (by decide +kernel) rfl dX7_failure_58 ?_
              refine lv_iload_n hx hb dX7_failure_61 rfl (lv_at hl 2 rfl) ?_
              refine r_iald (v := nI ((F 5) j)) C G 6 0 rfl rfl j rfl (by omega) (by omega) rfl dX7_failure_62 ?_
              refine lv_icmp_gt (tgt := 84) hx hb dX7_failure_63 (by decide) (fun c63 => ?_) (fun c63 => ?_)
              · skip
                replace c63 : (((F 5) j : Nat) : Int) < (v).toInt := (cv_lt (nI_toInt (by omega)) rfl).mp c63
                refine lv_iconst (v := (nI (3))) hx hb dX7_failure_84 (by decide) ?_
                exact RET (nI (3)) (mW cI b I J F G0) _ _ ls _ _ _ (⟨congrArg nI (by unfold flN; split <;> (try split) <;> (try split) <;> (try split) <;> (try split) <;> omega), rfl⟩) G (by first | (simp only []; omega) | decide) (by first | (simp only []; omega) | decide) rfl dX7_failure_85
              · skip
                replace c63 : (v).toInt ≤ (((F 5) j : Nat) : Int) := Int.not_lt.mp (fun h => c63 ((cv_lt (nI_toInt (by omega)) rfl).mpr h))
                refine lv_iload_n hx hb dX7_failure_66 rfl (lv_at hl 1 rfl) ?_
                refine lv_iconst (v := (nI (4))) hx hb dX7_failure_67 (by decide) ?_
                refine lv_icmp_ne (tgt := 86) hx hb dX7_failure_68 (by decide) (fun c68 => ?_) (fun c68 => ?_)
                · skip
                  replace c68 : ¬ ((ac : Nat) : Int) = ((4 : Nat) : Int) := fun h => c68 ((cv_eq (nI_toInt (by omega)) (nI_toInt (by omega))).mpr h)
                  refine lv_iload_n hx hb dX7_failure_86 rfl (lv_at hl 1 rfl) ?_
                  refine lv_iconst (v := (nI (1))) hx hb dX7_failure_87 (by decide) ?_
                  refine lv_icmp_ne (tgt := 97) hx hb dX7_failure_88 (by decide) (fun c88 => ?_) (fun c88 => ?_)
                  · skip
                    replace c88 : ¬ ((ac : Nat) : Int) = ((1 : Nat) : Int) := fun h => c88 ((cv_eq (nI_toInt (by omega)) (nI_toInt (by omega))).mpr h)
                    refine lv_iload_n hx hb dX7_failure_97 rfl (lv_at hl 1 rfl) ?_
                    refine lv_iconst (v := (nI (2))) hx hb dX7_failure_98 (by decide) ?_
                    refine lv_icmp_ne (tgt := 106) hx hb dX7_failure_99 (by decide) (fun c99 => ?_) (fun c99 => ?_)
                    · skip
                      replace c99 : ¬ ((ac : Nat) : Int) = ((2 : Nat) : Int) := fun h => c99 ((cv_eq (nI_toInt (by omega)) (nI_toInt (by omega))).mpr h)
                      refine lv_iload_n hx hb dX7_failure_106 rfl (lv_at hl 1 rfl) ?_
                      refine lv_iconst (v := (nI (4))) hx hb dX7_failure_107 (by decide) ?_
                      refine lv_icmp_ne (tgt := 130) hx hb dX7_failure_108 (by decide) (fun c108 => ?_) (fun c108 => ?_)
                      · skip
                        replace c108 : ¬ ((ac : Nat) : Int) = ((4 : Nat) : Int) := fun h => c108 ((cv_eq (nI_toInt (by omega)) (nI_toInt (by omega))).mpr h)
                        refine lv_iconst (v := (nI (0))) hx hb dX7_failure_130 (by decide) ?_
                        exact RET (nI (0)) (mW cI b I J F G0) _ _ ls _ _ _ (⟨congrArg nI (by unfold flN; split <;> (try split) <;> (try split) <;> (try split) <;> (try split) <;> omega), rfl⟩) G (by first | (simp only []; omega) | decide) (by first | (simp only []; omega) | decide) rfl dX7_failure_131
                      · skip
                        replace c108 : ((ac : Nat) : Int) = ((4 : Nat) : Int) := (cv_eq (nI_toInt (by omega)) (nI_toInt (by omega))).mp c108
                        refine lv_aload_n hx hb dX7_failure_111 rfl (lv_at hl 0 rfl) ?_
                        refine r_get (v := .ref (b 4)) C G hX7 0 rfl rfl 7 (by decide) (by decide +kernel) rfl dX7_failure_112 ?_
                        refine lv_iload_n hx hb dX7_failure_115 rfl (lv_at hl 2 rfl) ?_
                        refine r_iald (v := nI ((F 3) j)) C G 4 0 rfl rfl j rfl (by omega) (by omega) rfl dX7_failure_116 ?_
                        refine lv_iconst (v := (nI (1))) hx hb dX7_failure_117 (by decide) ?_
                        refine lv_icmp_ne (tgt := 130) hx hb dX7_failure_118 (by decide) (fun c118 => ?_) (fun c118 => ?_)
                        · skip
                          replace c118 : ¬ (((F 3) j : Nat) : Int) = ((1 : Nat) : Int) := fun h => c118 ((cv_eq (nI_toInt (by omega)) (nI_toInt (by omega))).mpr h)
                          refine lv_iconst (v := (nI (0))) hx hb dX7_failure_130 (by decide) ?_
                          exact RET (nI (0)) (mW cI b I J F G0) _ _ ls _ _ _ (⟨congrArg nI (by unfold flN; split <;> (try split) <;> (try split) <;> (try split) <;> (try split) <;> omega), rfl⟩) G (by first | (simp only []; omega) | decide) (by first | (simp only []; omega) | decide) rfl dX7_failure_131
                        · skip
                          replace c118 : (((F 3) j : Nat) : Int) = ((1 : Nat) : Int) := (cv_eq (nI_toInt (by omega)) (nI_toInt (by omega))).mp c118
                          refine lv_iload_n hx hb dX7_failure_121 rfl (lv_at hl 3 rfl) ?_
                          refine lv_if_le (tgt := 130) hx hb dX7_failure_122 (by decide) (fun c122 => ?_) (fun c122 => ?_)
                          · skip
                            replace c122 : (v).toInt ≤ (0) := (cv_le rfl (by decide)).mp c122
                            refine lv_iconst (v := (nI (0))) hx hb dX7_failure_130 (by decide) ?_
                            exact RET (nI (0)) (mW cI b I J F G0) _ _ ls _ _ _ (⟨congrArg nI (by unfold flN; split <;> (try split) <;> (try split) <;> (try split) <;> (try split) <;> omega), rfl⟩) G (by first | (simp only []; omega) | decide) (by first | (simp only []; omega) | decide) rfl dX7_failure_131
                          · skip
                            replace c122 : (0) < (v).toInt := Int.not_le.mp (fun h => c122 ((cv_le rfl (by decide)).mpr h))
                            refine lv_bipush (v := (nI (6))) hx hb dX7_failure_125 (by decide) ?_
                            refine lv_goto (tgt := 131) hx hb dX7_failure_127 (by decide) ?_
                            exact RET (nI (6)) (mW cI b I J F G0) _ _ ls _ _ _ (⟨congrArg nI (by unfold flN; split <;> (try split) <;> (try split) <;> (try split) <;> (try split) <;> omega), rfl⟩) G (by first | (simp only []; omega) | decide) (by first | (simp only []; omega) | decide) rfl dX7_failure_131
                    · skip
                      replace c99 : ((ac : Nat) : Int) = ((2 : Nat) : Int) := (cv_eq (nI_toInt (by omega)) (nI_toInt (by omega))).mp c99
                      refine lv_iload_n hx hb dX7_failure_102 rfl (lv_at hl 3 rfl) ?_
                      refine lv_if_eq (tgt := 125) hx hb dX7_failure_103 (by decide) (fun c103 => ?_) (fun c103 => ?_)
                      · skip
                        replace c103 : (v).toInt = (0) := (cv_eq rfl (by decide)).mp c103
                        refine lv_bipush (v := (nI (6))) hx hb dX7_failure_125 (by decide) ?_
                        refine lv_goto (tgt := 131) hx hb dX7_failure_127 (by decide) ?_
                        exact RET (nI (6)) (mW cI b I J F G0) _ _ ls _ _ _ (⟨congrArg nI (by unfold flN; split <;> (try split) <;> (try split) <;> (try split) <;> (try split) <;> omega), rfl⟩) G (by first | (simp only []; omega) | decide) (by first | (simp only []; omega) | decide) rfl dX7_failure_131
                      · skip
                        replace c103 : ¬ (v).toInt = (0) := fun h => c103 ((cv_eq rfl (by decide)).mpr h)
                        refine lv_iload_n hx hb dX7_failure_106 rfl (lv_at hl 1 rfl) ?_
                        refine lv_iconst (v := (nI (4))) hx hb dX7_failure_107 (by decide) ?_
                        refine lv_icmp_ne (tgt := 130) hx hb dX7_failure_108 (by decide) (fun c108 => ?_) (fun c108 => ?_)
                        · skip
                          replace c108 : ¬ ((ac : Nat) : Int) = ((4 : Nat) : Int) := fun h => c108 ((cv_eq (nI_toInt (by omega)) (nI_toInt (by omega))).mpr h)
                          refine lv_iconst (v := (nI (0))) hx hb dX7_failure_130 (by decide) ?_
                          exact RET (nI (0)) (mW cI b I J F G0) _ _ ls _ _ _ (⟨congrArg nI (by unfold flN; split <;> (try split) <;> (try split) <;> (try split) <;> (try split) <;> omega), rfl⟩) G (by first | (simp only []; omega) | decide) (by first | (simp only []; omega) | decide) rfl dX7_failure_131
                        · skip
                          replace c108 : ((ac : Nat) : Int) = ((4 : Nat) : Int) := (cv_eq (nI_toInt (by omega)) (nI_toInt (by omega))).mp c108
                          refine lv_aload_n hx hb dX7_failure_111 rfl (lv_at hl 0 rfl) ?_
                          refine r_get (v := .ref (b 4)) C G hX7 0 rfl rfl 7 (by decide) (by decide +kernel) rfl dX7_failure_112 ?_
                          refine lv_iload_n hx hb dX7_failure_115 rfl (lv_at hl 2 rfl) ?_
                          refine r_iald (v := nI ((F 3) j)) C G 4 0 rfl rfl j rfl (by omega) (by omega) rfl dX7_failure_116 ?_
                          refine lv_iconst (v := (nI (1))) hx hb dX7_failure_117 (by decide) ?_
                          refine lv_icmp_ne (tgt := 130) hx hb dX7_failure_118 (by decide) (fun c118 => ?_) (fun c118 => ?_)
                          · skip
                            replace c118 : ¬ (((F 3) j : Nat) : Int) = ((1 : Nat) : Int) := fun h => c118 ((cv_eq (nI_toInt (by omega)) (nI_toInt (by omega))).mpr h)
                            refine lv_iconst (v := (nI (0))) hx hb dX7_failure_130 (by decide) ?_
                            exact RET (nI (0)) (mW cI b I J F G0) _ _ ls _ _ _ (⟨congrArg nI (by unfold flN; split <;> (try split) <;> (try split) <;> (try split) <;> (try split) <;> omega), rfl⟩) G (by first | (simp only []; omega) | decide) (by first | (simp only []; omega) | decide) rfl dX7_failure_131
                          · skip
                            replace c118 : (((F 3) j : Nat) : Int) = ((1 : Nat) : Int) := (cv_eq (nI_toInt (by omega)) (nI_toInt (by omega))).mp c118
                            refine lv_iload_n hx hb dX7_failure_121 rfl (lv_at hl 3 rfl) ?_
                            refine lv_if_le (tgt := 130) hx hb dX7_failure_122 (by decide) (fun c122 => ?_) (fun c122 => ?_)
                            · skip
                              replace c122 : (v).toInt ≤ (0) := (cv_le rfl (by decide)).mp c122
                              refine lv_iconst (v := (nI (0))) hx hb dX7_failure_130 (by decide) ?_
                              exact RET (nI (0)) (mW cI b I J F G0) _ _ ls _ _ _ (⟨congrArg nI (by unfold flN; split <;> (try split) <;> (try split) <;> (try split) <;> (try split) <;> omega), rfl⟩) G (by first | (simp only []; omega) | decide) (by first | (simp only []; omega) | decide) rfl dX7_failure_131
                            · skip
                              replace c122 : (0) < (v).toInt := Int.not_le.mp (fun h => c122 ((cv_le rfl (by decide)).mpr h))
                              refine lv_bipush (v := (nI (6))) hx hb dX7_failure_125 (by decide) ?_
                              refine lv_goto (tgt := 131) hx hb dX7_failure_127 (by decide) ?_
                              exact RET (nI (6)) (mW cI b I J F G0) _ _ ls _ _ _ (⟨congrArg nI (by unfold flN; split <;> (try split) <;> (try split) <;> (try split) <;> (try split) <;> omega), rfl⟩) G (by first | (simp only []; omega) | decide) (by first | (simp only []; omega) | decide) rfl dX7_failure_131
                  · skip
                    replace c88 : ((ac : Nat) : Int) = ((1 : Nat) : Int) := (cv_eq (nI_toInt (by omega)) (nI_toInt (by omega))).mp c88
                    refine lv_iload_n hx hb dX7_failure_91 rfl (lv_at hl 3 rfl) ?_
                    refine lv_if_ge (tgt := 97) hx hb dX7_failure_92 (by decide) (fun c92 => ?_) (fun c92 => ?_)
                    · skip
                      replace c92 : (0) ≤ (v).toInt := (cv_le (by decide) rfl).mp c92
                      refine lv_iload_n hx hb dX7_failure_97 rfl (lv_at hl 1 rfl) ?_
                      refine lv_iconst (v := (nI (2))) hx hb dX7_failure_98 (by decide) ?_
                      refine lv_icmp_ne (tgt := 106) hx hb dX7_failure_99 (by decide) (fun c99 => ?_) (fun c99 => ?_)
                      · skip
                        replace c99 : ¬ ((ac : Nat) : Int) = ((2 : Nat) : Int) := fun h => c99 ((cv_eq (nI_toInt (by omega)) (nI_toInt (by omega))).mpr h)
                        refine lv_iload_n hx hb dX7_failure_106 rfl (lv_at hl 1 rfl) ?_
                        refine lv_iconst (v := (nI (4))) hx hb dX7_failure_107 (by decide) ?_
                        refine lv_icmp_ne (tgt := 130) hx hb dX7_failure_108 (by decide) (fun c108 => ?_) (fun c108 => ?_)
                        · skip
                          replace c108 : ¬ ((ac : Nat) : Int) = ((4 : Nat) : Int) := fun h => c108 ((cv_eq (nI_toInt (by omega)) (nI_toInt (by omega))).mpr h)
                          refine lv_iconst (v := (nI (0))) hx hb dX7_failure_130 (by decide) ?_
                          exact RET (nI (0)) (mW cI b I J F G0) _ _ ls _ _ _ (⟨congrArg nI (by unfold flN; split <;> (try split) <;> (try split) <;> (try split) <;> (try split) <;> omega), rfl⟩) G (by first | (simp only []; omega) | decide) (by first | (simp only []; omega) | decide) rfl dX7_failure_131
                        · skip
                          replace c108 : ((ac : Nat) : Int) = ((4 : Nat) : Int) := (cv_eq (nI_toInt (by omega)) (nI_toInt (by omega))).mp c108
                          refine lv_aload_n hx hb dX7_failure_111 rfl (lv_at hl 0 rfl) ?_
                          refine r_get (v := .ref (b 4)) C G hX7 0 rfl rfl 7 (by decide) (by decide +kernel) rfl dX7_failure_112 ?_
                          refine lv_iload_n hx hb dX7_failure_115 rfl (lv_at hl 2 rfl) ?_
                          refine r_iald (v := nI ((F 3) j)) C G 4 0 rfl rfl j rfl (by omega) (by omega) rfl dX7_failure_116 ?_
                          refine lv_iconst (v := (nI (1))) hx hb dX7_failure_117 (by decide) ?_
                          refine lv_icmp_ne (tgt := 130) hx hb dX7_failure_118 (by decide) (fun c118 => ?_) (fun c118 => ?_)
                          · skip
                            replace c118 : ¬ (((F 3) j : Nat) : Int) = ((1 : Nat) : Int) := fun h => c118 ((cv_eq (nI_toInt (by omega)) (nI_toInt (by omega))).mpr h)
                            refine lv_iconst (v := (nI (0))) hx hb dX7_failure_130 (by decide) ?_
                            exact RET (nI (0)) (mW cI b I J F G0) _ _ ls _ _ _ (⟨congrArg nI (by unfold flN; split <;> (try split) <;> (try split) <;> (try split) <;> (try split) <;> omega), rfl⟩) G (by first | (simp only []; omega) | decide) (by first | (simp only []; omega) | decide) rfl dX7_failure_131
                          · skip
                            replace c118 : (((F 3) j : Nat) : Int) = ((1 : Nat) : Int) := (cv_eq (nI_toInt (by omega)) (nI_toInt (by omega))).mp c118
                            refine lv_iload_n hx hb dX7_failure_121 rfl (lv_at hl 3 rfl) ?_
                            refine lv_if_le (tgt := 130) hx hb dX7_failure_122 (by decide) (fun c122 => ?_) (fun c122 => ?_)
                            · skip
                              replace c122 : (v).toInt ≤ (0) := (cv_le rfl (by decide)).mp c122
                              refine lv_iconst (v := (nI (0))) hx hb dX7_failure_130 (by decide) ?_
                              exact RET (nI (0)) (mW cI b I J F G0) _ _ ls _ _ _ (⟨congrArg nI (by unfold flN; split <;> (try split) <;> (try split) <;> (try split) <;> (try split) <;> omega), rfl⟩) G (by first | (simp only []; omega) | decide) (by first | (simp only []; omega) | decide) rfl dX7_failure_131
                            · skip
                              replace c122 : (0) < (v).toInt := Int.not_le.mp (fun h => c122 ((cv_le rfl (by decide)).mpr h))
                              refine lv_bipush (v := (nI (6))) hx hb dX7_failure_125 (by decide) ?_
                              refine lv_goto (tgt := 131) hx hb dX7_failure_127 (by decide) ?_
                              exact RET (nI (6)) (mW cI b I J F G0) _ _ ls _ _ _ (⟨congrArg nI (by unfold flN; split <;> (try split) <;> (try split) <;> (try split) <;> (try split) <;> omega), rfl⟩) G (by first | (simp only []; omega) | decide) (by first | (simp only []; omega) | decide) rfl dX7_failure_131
                      · skip
                        replace c99 : ((ac : Nat) : Int) = ((2 : Nat) : Int) := (cv_eq (nI_toInt (by omega)) (nI_toInt (by omega))).mp c99
                        refine lv_iload_n hx hb dX7_failure_102 rfl (lv_at hl 3 rfl) ?_
                        refine lv_if_eq (tgt := 125) hx hb dX7_failure_103 (by decide) (fun c103 => ?_) (fun c103 => ?_)
                        · skip
                          replace c103 : (v).toInt = (0) := (cv_eq rfl (by decide)).mp c103
                          refine lv_bipush (v := (nI (6))) hx hb dX7_failure_125 (by decide) ?_
                          refine lv_goto (tgt := 131) hx hb dX7_failure_127 (by decide) ?_
                          exact RET (nI (6)) (mW cI b I J F G0) _ _ ls _ _ _ (⟨congrArg nI (by unfold flN; split <;> (try split) <;> (try split) <;> (try split) <;> (try split) <;> omega), rfl⟩) G (by first | (simp only []; omega) | decide) (by first | (simp only []; omega) | decide) rfl dX7_failure_131
                        · skip
                          replace c103 : ¬ (v).toInt = (0) := fun h => c103 ((cv_eq rfl (by decide)).mpr h)
                          refine lv_iload_n hx hb dX7_failure_106 rfl (lv_at hl 1 rfl) ?_
                          refine lv_iconst (v := (nI (4))) hx hb dX7_failure_107 (by decide) ?_
                          refine lv_icmp_ne (tgt := 130) hx hb dX7_failure_108 (by decide) (fun c108 => ?_) (fun c108 => ?_)
                          · skip
                            replace c108 : ¬ ((ac : Nat) : Int) = ((4 : Nat) : Int) := fun h => c108 ((cv_eq (nI_toInt (by omega)) (nI_toInt (by omega))).mpr h)
                            refine lv_iconst (v := (nI (0))) hx hb dX7_failure_130 (by decide) ?_
                            exact RET (nI (0)) (mW cI b I J F G0) _ _ ls _ _ _ (⟨congrArg nI (by unfold flN; split <;> (try split) <;> (try split) <;> (try split) <;> (try split) <;> omega), rfl⟩) G (by first | (simp only []; omega) | decide) (by first | (simp only []; omega) | decide) rfl dX7_failure_131
                          · skip
                            replace c108 : ((ac : Nat) : Int) = ((4 : Nat) : Int) := (cv_eq (nI_toInt (by omega)) (nI_toInt (by omega))).mp c108
                            refine lv_aload_n hx hb dX7_failure_111 rfl (lv_at hl 0 rfl) ?_
                            refine r_get (v := .ref (b 4)) C G hX7 0 rfl rfl 7 (by decide) (by decide +kernel) rfl dX7_failure_112 ?_
                            refine lv_iload_n hx hb dX7_failure_115 rfl (lv_at hl 2 rfl) ?_
                            refine r_iald (v := nI ((F 3) j)) C G 4 0 rfl rfl j rfl (by omega) (by omega) rfl dX7_failure_116 ?_
                            refine lv_iconst (v := (nI (1))) hx hb dX7_failure_117 (by decide) ?_
                            refine lv_icmp_ne (tgt := 130) hx hb dX7_failure_118 (by decide) (fun c118 => ?_) (fun c118 => ?_)
                            · skip
                              replace c118 : ¬ (((F 3) j : Nat) : Int) = ((1 : Nat) : Int) := fun h => c118 ((cv_eq (nI_toInt (by omega)) (nI_toInt (by omega))).mpr h)
                              refine lv_iconst (v := (nI (0))) hx hb dX7_failure_130 (by decide) ?_
                              exact RET (nI (0)) (mW cI b I J F G0) _ _ ls _ _ _ (⟨congrArg nI (by unfold flN; split <;> (try split) <;> (try split) <;> (try split) <;> (try split) <;> omega), rfl⟩) G (by first | (simp only []; omega) | decide) (by first | (simp only []; omega) | decide) rfl dX7_failure_131
                            · skip
                              replace c118 : (((F 3) j : Nat) : Int) = ((1 : Nat) : Int) := (cv_eq (nI_toInt (by omega)) (nI_toInt (by omega))).mp c118
                              refine lv_iload_n hx hb dX7_failure_121 rfl (lv_at hl 3 rfl) ?_
                              refine lv_if_le (tgt := 130) hx hb dX7_failure_122 (by decide) (fun c122 => ?_) (fun c122 => ?_)
                              · skip
                                replace c122 : (v).toInt ≤ (0) := (cv_le rfl (by decide)).mp c122
                                refine lv_iconst (v := (nI (0))) hx hb dX7_failure_130 (by decide) ?_
                                exact RET (nI (0)) (mW cI b I J F G0) _ _ ls _ _ _ (⟨congrArg nI (by unfold flN; split <;> (try split) <;> (try split) <;> (try split) <;> (try split) <;> omega), rfl⟩) G (by first | (simp only []; omega) | decide) (by first | (simp only []; omega) | decide) rfl dX7_failure_131
                              · skip
                                replace c122 : (0) < (v).toInt := Int.not_le.mp (fun h => c122 ((cv_le rfl (by decide)).mpr h))
                                refine lv_bipush (v := (nI (6))) hx hb dX7_failure_125 (by decide) ?_
                                refine lv_goto (tgt := 131) hx hb dX7_failure_127 (by decide) ?_
                                exact RET (nI (6)) (mW cI b I J F G0) _ _ ls _ _ _ (⟨congrArg nI (by unfold flN; split <;> (try split) <;> (try split) <;> (try split) <;> (try split) <;> omega), rfl⟩) G (by first | (simp only []; omega) | decide) (by first | (simp only []; omega) | decide) rfl dX7_failure_131
                    · skip
                      replace c92 : (v).toInt < (0) := Int.not_le.mp (fun h => c92 ((cv_le (by decide) rfl).mpr h))
                      refine lv_iconst (v := (nI (5))) hx hb dX7_failure_95 (by decide) ?_
                      exact RET (nI (5)) (mW cI b I J F G0) _ _ ls _ _ _ (⟨congrArg nI (by unfold flN; split <;> (try split) <;> (try split) <;> (try split) <;> (try split) <;> omega), rfl⟩) G (by first | (simp only []; omega) | decide) (by first | (simp only []; omega) | decide) rfl dX7_failure_96
                · skip
                  replace c68 : ((ac : Nat) : Int) = ((4 : Nat) : Int) := (cv_eq (nI_toInt (by omega)) (nI_toInt (by omega))).mp c68
                  refine lv_aload_n hx hb dX7_failure_71 rfl (lv_at hl 0 rfl) ?_
                  refine r_get (v := .ref (b 4)) C G hX7 0 rfl rfl 7 (by decide) (by decide +kernel) rfl dX7_failure_72 ?_
                  refine lv_iload_n hx hb dX7_failure_75 rfl (lv_at hl 2 rfl) ?_
                  refine r_iald (v := nI ((F 3) j)) C G 4 0 rfl rfl j rfl (by omega) (by omega) rfl dX7_failure_76 ?_
                  refine lv_if_ne (tgt := 86) hx hb dX7_failure_77 (by decide) (fun c77 => ?_) (fun c77 => ?_)
                  · skip
                    replace c77 : ¬ (((F 3) j : Nat) : Int) = (0) := fun h => c77 ((cv_eq (nI_toInt (by omega)) (by decide)).mpr h)
                    refine lv_iload_n hx hb dX7_failure_86 rfl (lv_at hl 1 rfl) ?_
                    refine lv_iconst (v := (nI (1))) hx hb dX7_failure_87 (by decide) ?_
                    refine lv_icmp_ne (tgt := 97) hx hb dX7_failure_88 (by decide) (fun c88 => ?_) (fun c88 => ?_)
                    · skip
                      replace c88 : ¬ ((ac : Nat) : Int) = ((1 : Nat) : Int) := fun h => c88 ((cv_eq (nI_toInt (by omega)) (nI_toInt (by omega))).mpr h)
                      refine lv_iload_n hx hb dX7_failure_97 rfl (lv_at hl 1 rfl) ?_
                      refine lv_iconst (v := (nI (2))) hx hb dX7_failure_98 (by decide) ?_
                      refine lv_icmp_ne (tgt := 106) hx hb dX7_failure_99 (by decide) (fun c99 => ?_) (fun c99 => ?_)
                      · skip
                        replace c99 : ¬ ((ac : Nat) : Int) = ((2 : Nat) : Int) := fun h => c99 ((cv_eq (nI_toInt (by omega)) (nI_toInt (by omega))).mpr h)
                        refine lv_iload_n hx hb dX7_failure_106 rfl (lv_at hl 1 rfl) ?_
                        refine lv_iconst (v := (nI (4))) hx hb dX7_failure_107 (by decide) ?_
                        refine lv_icmp_ne (tgt := 130) hx hb dX7_failure_108 (by decide) (fun c108 => ?_) (fun c108 => ?_)
                        · skip
                          replace c108 : ¬ ((ac : Nat) : Int) = ((4 : Nat) : Int) := fun h => c108 ((cv_eq (nI_toInt (by omega)) (nI_toInt (by omega))).mpr h)
                          refine lv_iconst (v := (nI (0))) hx hb dX7_failure_130 (by decide) ?_
                          exact RET (nI (0)) (mW cI b I J F G0) _ _ ls _ _ _ (⟨congrArg nI (by unfold flN; split <;> (try split) <;> (try split) <;> (try split) <;> (try split) <;> omega), rfl⟩) G (by first | (simp only []; omega) | decide) (by first | (simp only []; omega) | decide) rfl dX7_failure_131
                        · skip
                          replace c108 : ((ac : Nat) : Int) = ((4 : Nat) : Int) := (cv_eq (nI_toInt (by omega)) (nI_toInt (by omega))).mp c108
                          refine lv_aload_n hx hb dX7_failure_111 rfl (lv_at hl 0 rfl) ?_
                          refine r_get (v := .ref (b 4)) C G hX7 0 rfl rfl 7 (by decide) (by decide +kernel) rfl dX7_failure_112 ?_
                          refine lv_iload_n hx hb dX7_failure_115 rfl (lv_at hl 2 rfl) ?_
                          refine r_iald (v := nI ((F 3) j)) C G 4 0 rfl rfl j rfl (by omega) (by omega) rfl dX7_failure_116 ?_
                          refine lv_iconst (v := (nI (1))) hx hb dX7_failure_117 (by decide) ?_
                          refine lv_icmp_ne (tgt := 130) hx hb dX7_failure_118 (by decide) (fun c118 => ?_) (fun c118 => ?_)
                          · skip
                            replace c118 : ¬ (((F 3) j : Nat) : Int) = ((1 : Nat) : Int) := fun h => c118 ((cv_eq (nI_toInt (by omega)) (nI_toInt (by omega))).mpr h)
                            refine lv_iconst (v := (nI (0))) hx hb dX7_failure_130 (by decide) ?_
                            exact RET (nI (0)) (mW cI b I J F G0) _ _ ls _ _ _ (⟨congrArg nI (by unfold flN; split <;> (try split) <;> (try split) <;> (try split) <;> (try split) <;> omega), rfl⟩) G (by first | (simp only []; omega) | decide) (by first | (simp only []; omega) | decide) rfl dX7_failure_131
                          · skip
                            replace c118 : (((F 3) j : Nat) : Int) = ((1 : Nat) : Int) := (cv_eq (nI_toInt (by omega)) (nI_toInt (by omega))).mp c118
                            refine lv_iload_n hx hb dX7_failure_121 rfl (lv_at hl 3 rfl) ?_
                            refine lv_if_le (tgt := 130) hx hb dX7_failure_122 (by decide) (fun c122 => ?_) (fun c122 => ?_)
                            · skip
                              replace c122 : (v).toInt ≤ (0) := (cv_le rfl (by decide)).mp c122
                              refine lv_iconst (v := (nI (0))) hx hb dX7_failure_130 (by decide) ?_
                              exact RET (nI (0)) (mW cI b I J F G0) _ _ ls _ _ _ (⟨congrArg nI (by unfold flN; split <;> (try split) <;> (try split) <;> (try split) <;> (try split) <;> omega), rfl⟩) G (by first | (simp only []; omega) | decide) (by first | (simp only []; omega) | decide) rfl dX7_failure_131
                            · skip
                              replace c122 : (0) < (v).toInt := Int.not_le.mp (fun h => c122 ((cv_le rfl (by decide)).mpr h))
                              refine lv_bipush (v := (nI (6))) hx hb dX7_failure_125 (by decide) ?_
                              refine lv_goto (tgt := 131) hx hb dX7_failure_127 (by decide) ?_
                              exact RET (nI (6)) (mW cI b I J F G0) _ _ ls _ _ _ (⟨congrArg nI (by unfold flN; split <;> (try split) <;> (try split) <;> (try split) <;> (try split) <;> omega), rfl⟩) G (by first | (simp only []; omega) | decide) (by first | (simp only []; omega) | decide) rfl dX7_failure_131
                      · skip
                        replace c99 : ((ac : Nat) : Int) = ((2 : Nat) : Int) := (cv_eq (nI_toInt (by omega)) (nI_toInt (by omega))).mp c99
                        refine lv_iload_n hx hb dX7_failure_102 rfl (lv_at hl 3 rfl) ?_
                        refine lv_if_eq (tgt := 125) hx hb dX7_failure_103 (by decide) (fun c103 => ?_) (fun c103 => ?_)
                        · skip
                          replace c103 : (v).toInt = (0) := (cv_eq rfl (by decide)).mp c103
                          refine lv_bipush (v := (nI (6))) hx hb dX7_failure_125 (by decide) ?_
                          refine lv_goto (tgt := 131) hx hb dX7_failure_127 (by decide) ?_
                          exact RET (nI (6)) (mW cI b I J F G0) _ _ ls _ _ _ (⟨congrArg nI (by unfold flN; split <;> (try split) <;> (try split) <;> (try split) <;> (try split) <;> omega), rfl⟩) G (by first | (simp only []; omega) | decide) (by first | (simp only []; omega) | decide) rfl dX7_failure_131
                        · skip
                          replace c103 : ¬ (v).toInt = (0) := fun h => c103 ((cv_eq rfl (by decide)).mpr h)
                          refine lv_iload_n hx hb dX7_failure_106 rfl (lv_at hl 1 rfl) ?_
                          refine lv_iconst (v := (nI (4))) hx hb dX7_failure_107 (by decide) ?_
                          refine lv_icmp_ne (tgt := 130) hx hb dX7_failure_108 (by decide) (fun c108 => ?_) (fun c108 => ?_)
                          · skip
                            replace c108 : ¬ ((ac : Nat) : Int) = ((4 : Nat) : Int) := fun h => c108 ((cv_eq (nI_toInt (by omega)) (nI_toInt (by omega))).mpr h)
                            refine lv_iconst (v := (nI (0))) hx hb dX7_failure_130 (by decide) ?_
                            exact RET (nI (0)) (mW cI b I J F G0) _ _ ls _ _ _ (⟨congrArg nI (by unfold flN; split <;> (try split) <;> (try split) <;> (try split) <;> (try split) <;> omega), rfl⟩) G (by first | (simp only []; omega) | decide) (by first | (simp only []; omega) | decide) rfl dX7_failure_131
                          · skip
                            replace c108 : ((ac : Nat) : Int) = ((4 : Nat) : Int) := (cv_eq (nI_toInt (by omega)) (nI_toInt (by omega))).mp c108
                            refine lv_aload_n hx hb dX7_failure_111 rfl (lv_at hl 0 rfl) ?_
                            refine r_get (v := .ref (b 4)) C G hX7 0 rfl rfl 7 (by decide) (by decide +kernel) rfl dX7_failure_112 ?_
                            refine lv_iload_n hx hb dX7_failure_115 rfl (lv_at hl 2 rfl) ?_
                            refine r_iald (v := nI ((F 3) j)) C G 4 0 rfl rfl j rfl (by omega) (by omega) rfl dX7_failure_116 ?_
                            refine lv_iconst (v := (nI (1))) hx hb dX7_failure_117 (by decide) ?_
                            refine lv_icmp_ne (tgt := 130) hx hb dX7_failure_118 (by decide) (fun c118 => ?_) (fun c118 => ?_)
                            · skip
                              replace c118 : ¬ (((F 3) j : Nat) : Int) = ((1 : Nat) : Int) := fun h => c118 ((cv_eq (nI_toInt (by omega)) (nI_toInt (by omega))).mpr h)
                              refine lv_iconst (v := (nI (0))) hx hb dX7_failure_130 (by decide) ?_
                              exact RET (nI (0)) (mW cI b I J F G0) _ _ ls _ _ _ (⟨congrArg nI (by unfold flN; split <;> (try split) <;> (try split) <;> (try split) <;> (try split) <;> omega), rfl⟩) G (by first | (simp only []; omega) | decide) (by first | (simp only []; omega) | decide) rfl dX7_failure_131
                            · skip
                              replace c118 : (((F 3) j : Nat) : Int) = ((1 : Nat) : Int) := (cv_eq (nI_toInt (by omega)) (nI_toInt (by omega))).mp c118
                              refine lv_iload_n hx hb dX7_failure_121 rfl (lv_at hl 3 rfl) ?_
                              refine lv_if_le (tgt := 130) hx hb dX7_failure_122 (by decide) (fun c122 => ?_) (fun c122 => ?_)
                              · skip
                                replace c122 : (v).toInt ≤ (0) := (cv_le rfl (by decide)).mp c122
                                refine lv_iconst (v := (nI (0))) hx hb dX7_failure_130 (by decide) ?_
                                exact RET (nI (0)) (mW cI b I J F G0) _ _ ls _ _ _ (⟨congrArg nI (by unfold flN; split <;> (try split) <;> (try split) <;> (try split) <;> (try split) <;> omega), rfl⟩) G (by first | (simp only []; omega) | decide) (by first | (simp only []; omega) | decide) rfl dX7_failure_131
                              · skip
                                replace c122 : (0) < (v).toInt := Int.not_le.mp (fun h => c122 ((cv_le rfl (by decide)).mpr h))
                                refine lv_bipush (v := (nI (6))) hx hb dX7_failure_125 (by decide) ?_
                                refine lv_goto (tgt := 131) hx hb dX7_failure_127 (by decide) ?_
                                exact RET (nI (6)) (mW cI b I J F G0) _ _ ls _ _ _ (⟨congrArg nI (by unfold flN; split <;> (try split) <;> (try split) <;> (try split) <;> (try split) <;> omega), rfl⟩) G (by first | (simp only []; omega) | decide) (by first | (simp only []; omega) | decide) rfl dX7_failure_131
                    · skip
                      replace c88 : ((ac : Nat) : Int) = ((1 : Nat) : Int) := (cv_eq (nI_toInt (by omega)) (nI_toInt (by omega))).mp c88
                      refine lv_iload_n hx hb dX7_failure_91 rfl (lv_at hl 3 rfl) ?_
                      refine lv_if_ge (tgt := 97) hx hb dX7_failure_92 (by decide) (fun c92 => ?_) (fun c92 => ?_)
                      · skip
                        replace c92 : (0) ≤ (v).toInt := (cv_le (by decide) rfl).mp c92
                        refine lv_iload_n hx hb dX7_failure_97 rfl (lv_at hl 1 rfl) ?_
                        refine lv_iconst (v := (nI (2))) hx hb dX7_failure_98 (by decide) ?_
                        refine lv_icmp_ne (tgt := 106) hx hb dX7_failure_99 (by decide) (fun c99 => ?_) (fun c99 => ?_)
                        · skip
                          replace c99 : ¬ ((ac : Nat) : Int) = ((2 : Nat) : Int) := fun h => c99 ((cv_eq (nI_toInt (by omega)) (nI_toInt (by omega))).mpr h)
                          refine lv_iload_n hx hb dX7_failure_106 rfl (lv_at hl 1 rfl) ?_
                          refine lv_iconst (v := (nI (4))) hx hb dX7_failure_107 (by decide) ?_
                          refine lv_icmp_ne (tgt := 130) hx hb dX7_failure_108 (by decide) (fun c108 => ?_) (fun c108 => ?_)
                          · skip
                            replace c108 : ¬ ((ac : Nat) : Int) = ((4 : Nat) : Int) := fun h => c108 ((cv_eq (nI_toInt (by omega)) (nI_toInt (by omega))).mpr h)
                            refine lv_iconst (v := (nI (0))) hx hb dX7_failure_130 (by decide) ?_
                            exact RET (nI (0)) (mW cI b I J F G0) _ _ ls _ _ _ (⟨congrArg nI (by unfold flN; split <;> (try split) <;> (try split) <;> (try split) <;> (try split) <;> omega), rfl⟩) G (by first | (simp only []; omega) | decide) (by first | (simp only []; omega) | decide) rfl dX7_failure_131
                          · skip
                            replace c108 : ((ac : Nat) : Int) = ((4 : Nat) : Int) := (cv_eq (nI_toInt (by omega)) (nI_toInt (by omega))).mp c108
                            refine lv_aload_n hx hb dX7_failure_111 rfl (lv_at hl 0 rfl) ?_
                            refine r_get (v := .ref (b 4)) C G hX7 0 rfl rfl 7 (by decide) (by decide +kernel) rfl dX7_failure_112 ?_
                            refine lv_iload_n hx hb dX7_failure_115 rfl (lv_at hl 2 rfl) ?_
                            refine r_iald (v := nI ((F 3) j)) C G 4 0 rfl rfl j rfl (by omega) (by omega) rfl dX7_failure_116 ?_
                            refine lv_iconst (v := (nI (1))) hx hb dX7_failure_117 (by decide) ?_
                            refine lv_icmp_ne (tgt := 130) hx hb dX7_failure_118 (by decide) (fun c118 => ?_) (fun c118 => ?_)
                            · skip
                              replace c118 : ¬ (((F 3) j : Nat) : Int) = ((1 : Nat) : Int) := fun h => c118 ((cv_eq (nI_toInt (by omega)) (nI_toInt (by omega))).mpr h)
                              refine lv_iconst (v := (nI (0))) hx hb dX7_failure_130 (by decide) ?_
                              exact RET (nI (0)) (mW cI b I J F G0) _ _ ls _ _ _ (⟨congrArg nI (by unfold flN; split <;> (try split) <;> (try split) <;> (try split) <;> (try split) <;> omega), rfl⟩) G (by first | (simp only []; omega) | decide) (by first | (simp only []; omega) | decide) rfl dX7_failure_131
                            · skip
                              replace c118 : (((F 3) j : Nat) : Int) = ((1 : Nat) : Int) := (cv_eq (nI_toInt (by omega)) (nI_toInt (by omega))).mp c118
                              refine lv_iload_n hx hb dX7_failure_121 rfl (lv_at hl 3 rfl) ?_
                              refine lv_if_le (tgt := 130) hx hb dX7_failure_122 (by decide) (fun c122 => ?_) (fun c122 => ?_)
                              · skip
                                replace c122 : (v).toInt ≤ (0) := (cv_le rfl (by decide)).mp c122
                                refine lv_iconst (v := (nI (0))) hx hb dX7_failure_130 (by decide) ?_
                                exact RET (nI (0)) (mW cI b I J F G0) _ _ ls _ _ _ (⟨congrArg nI (by unfold flN; split <;> (try split) <;> (try split) <;> (try split) <;> (try split) <;> omega), rfl⟩) G (by first | (simp only []; omega) | decide) (by first | (simp only []; omega) | decide) rfl dX7_failure_131
                              · skip
                                replace c122 : (0) < (v).toInt := Int.not_le.mp (fun h => c122 ((cv_le rfl (by decide)).mpr h))
                                refine lv_bipush (v := (nI (6))) hx hb dX7_failure_125 (by decide) ?_
                                refine lv_goto (tgt := 131) hx hb dX7_failure_127 (by decide) ?_
                                exact RET (nI (6)) (mW cI b I J F G0) _ _ ls _ _ _ (⟨congrArg nI (by unfold flN; split <;> (try split) <;> (try split) <;> (try split) <;> (try split) <;> omega), rfl⟩) G (by first | (simp only []; omega) | decide) (by first | (simp only []; omega) | decide) rfl dX7_failure_131
                        · skip
                          replace c99 : ((ac : Nat) : Int) = ((2 : Nat) : Int) := (cv_eq (nI_toInt (by omega)) (nI_toInt (by omega))).mp c99
                          refine lv_iload_n hx hb dX7_failure_102 rfl (lv_at hl 3 rfl) ?_
                          refine lv_if_eq (tgt := 125) hx hb dX7_failure_103 (by decide) (fun c103 => ?_) (fun c103 => ?_)
                          · skip
                            replace c103 : (v).toInt = (0) := (cv_eq rfl (by decide)).mp c103
                            refine lv_bipush (v := (nI (6))) hx hb dX7_failure_125 (by decide) ?_
                            refine lv_goto (tgt := 131) hx hb dX7_failure_127 (by decide) ?_
                            exact RET (nI (6)) (mW cI b I J F G0) _ _ ls _ _ _ (⟨congrArg nI (by unfold flN; split <;> (try split) <;> (try split) <;> (try split) <;> (try split) <;> omega), rfl⟩) G (by first | (simp only []; omega) | decide) (by first | (simp only []; omega) | decide) rfl dX7_failure_131
                          · skip
                            replace c103 : ¬ (v).toInt = (0) := fun h => c103 ((cv_eq rfl (by decide)).mpr h)
                            refine lv_iload_n hx hb dX7_failure_106 rfl (lv_at hl 1 rfl) ?_
                            refine lv_iconst (v := (nI (4))) hx hb dX7_failure_107 (by decide) ?_
                            refine lv_icmp_ne (tgt := 130) hx hb dX7_failure_108 (by decide) (fun c108 => ?_) (fun c108 => ?_)
                            · skip
                              replace c108 : ¬ ((ac : Nat) : Int) = ((4 : Nat) : Int) := fun h => c108 ((cv_eq (nI_toInt (by omega)) (nI_toInt (by omega))).mpr h)
                              refine lv_iconst (v := (nI (0))) hx hb dX7_failure_130 (by decide) ?_
                              exact RET (nI (0)) (mW cI b I J F G0) _ _ ls _ _ _ (⟨congrArg nI (by unfold flN; split <;> (try split) <;> (try split) <;> (try split) <;> (try split) <;> omega), rfl⟩) G (by first | (simp only []; omega) | decide) (by first | (simp only []; omega) | decide) rfl dX7_failure_131
                            · skip
                              replace c108 : ((ac : Nat) : Int) = ((4 : Nat) : Int) := (cv_eq (nI_toInt (by omega)) (nI_toInt (by omega))).mp c108
                              refine lv_aload_n hx hb dX7_failure_111 rfl (lv_at hl 0 rfl) ?_
                              refine r_get (v := .ref (b 4)) C G hX7 0 rfl rfl 7 (by decide) (by decide +kernel) rfl dX7_failure_112 ?_
                              refine lv_iload_n hx hb dX7_failure_115 rfl (lv_at hl 2 rfl) ?_
                              refine r_iald (v := nI ((F 3) j)) C G 4 0 rfl rfl j rfl (by omega) (by omega) rfl dX7_failure_116 ?_
                              refine lv_iconst (v := (nI (1))) hx hb dX7_failure_117 (by decide) ?_
                              refine lv_icmp_ne (tgt := 130) hx hb dX7_failure_118 (by decide) (fun c118 => ?_) (fun c118 => ?_)
                              · skip
                                replace c118 : ¬ (((F 3) j : Nat) : Int) = ((1 : Nat) : Int) := fun h => c118 ((cv_eq (nI_toInt (by omega)) (nI_toInt (by omega))).mpr h)
                                refine lv_iconst (v := (nI (0))) hx hb dX7_failure_130 (by decide) ?_
                                exact RET (nI (0)) (mW cI b I J F G0) _ _ ls _ _ _ (⟨congrArg nI (by unfold flN; split <;> (try split) <;> (try split) <;> (try split) <;> (try split) <;> omega), rfl⟩) G (by first | (simp only []; omega) | decide) (by first | (simp only []; omega) | decide) rfl dX7_failure_131
                              · skip
                                replace c118 : (((F 3) j : Nat) : Int) = ((1 : Nat) : Int) := (cv_eq (nI_toInt (by omega)) (nI_toInt (by omega))).mp c118
                                refine lv_iload_n hx hb dX7_failure_121 rfl (lv_at hl 3 rfl) ?_
                                refine lv_if_le (tgt := 130) hx hb dX7_failure_122 (by decide) (fun c122 => ?_) (fun c122 => ?_)
                                · skip
                                  replace c122 : (v).toInt ≤ (0) := (cv_le rfl (by decide)).mp c122
                                  refine lv_iconst (v := (nI (0))) hx hb dX7_failure_130 (by decide) ?_
                                  exact RET (nI (0)) (mW cI b I J F G0) _ _ ls _ _ _ (⟨congrArg nI (by unfold flN; split <;> (try split) <;> (try split) <;> (try split) <;> (try split) <;> omega), rfl⟩) G (by first | (simp only []; omega) | decide) (by first | (simp only []; omega) | decide) rfl dX7_failure_131
                                · skip
                                  replace c122 : (0) < (v).toInt := Int.not_le.mp (fun h => c122 ((cv_le rfl (by decide)).mpr h))
                                  refine lv_bipush (v := (nI (6))) hx hb dX7_failure_125 (by decide) ?_
                                  refine lv_goto (tgt := 131) hx hb dX7_failure_127 (by decide) ?_
                                  exact RET (nI (6)) (mW cI b I J F G0) _ _ ls _ _ _ (⟨congrArg nI (by unfold flN; split <;> (try split) <;> (try split) <;> (try split) <;> (try split) <;> omega), rfl⟩) G (by first | (simp only []; omega) | decide) (by first | (simp only []; omega) | decide) rfl dX7_failure_131
                      · skip
                        replace c92 : (v).toInt < (0) := Int.not_le.mp (fun h => c92 ((cv_le (by decide) rfl).mpr h))
                        refine lv_iconst (v := (nI (5))) hx hb dX7_failure_95 (by decide) ?_
                        exact RET (nI (5)) (mW cI b I J F G0) _ _ ls _ _ _ (⟨congrArg nI (by unfold flN; split <;> (try split) <;> (try split) <;> (try split) <;> (try split) <;> omega), rfl⟩) G (by first | (simp only []; omega) | decide) (by first | (simp only []; omega) | decide) rfl dX7_failure_96
                  · skip
                    replace c77 : (((F 3) j : Nat) : Int) = (0) := (cv_eq (nI_toInt (by omega)) (by decide)).mp c77
                    refine lv_iload_n hx hb dX7_failure_80 rfl (lv_at hl 3 rfl) ?_
                    refine lv_if_le (tgt := 86) hx hb dX7_failure_81 (by decide) (fun c81 => ?_) (fun c81 => ?_)
                    · skip
                      replace c81 : (v).toInt ≤ (0) := (cv_le rfl (by decide)).mp c81
                      refine lv_iload_n hx hb dX7_failure_86 rfl (lv_at hl 1 rfl) ?_
                      refine lv_iconst (v := (nI (1))) hx hb dX7_failure_87 (by decide) ?_
                      refine lv_icmp_ne (tgt := 97) hx hb dX7_failure_88 (by decide) (fun c88 => ?_) (fun c88 => ?_)
                      · skip
                        replace c88 : ¬ ((ac : Nat) : Int) = ((1 : Nat) : Int) := fun h => c88 ((cv_eq (nI_toInt (by omega)) (nI_toInt (by omega))).mpr h)
                        refine lv_iload_n hx hb dX7_failure_97 rfl (lv_at hl 1 rfl) ?_
                        refine lv_iconst (v := (nI (2))) hx hb dX7_failure_98 (by decide) ?_
                        refine lv_icmp_ne (tgt := 106) hx hb dX7_failure_99 (by decide) (fun c99 => ?_) (fun c99 => ?_)
                        · skip
                          replace c99 : ¬ ((ac : Nat) : Int) = ((2 : Nat) : Int) := fun h => c99 ((cv_eq (nI_toInt (by omega)) (nI_toInt (by omega))).mpr h)
                          refine lv_iload_n hx hb dX7_failure_106 rfl (lv_at hl 1 rfl) ?_
                          refine lv_iconst (v := (nI (4))) hx hb dX7_failure_107 (by decide) ?_
                          refine lv_icmp_ne (tgt := 130) hx hb dX7_failure_108 (by decide) (fun c108 => ?_) (fun c108 => ?_)
                          · skip
                            replace c108 : ¬ ((ac : Nat) : Int) = ((4 : Nat) : Int) := fun h => c108 ((cv_eq (nI_toInt (by omega)) (nI_toInt (by omega))).mpr h)
                            refine lv_iconst (v := (nI (0))) hx hb dX7_failure_130 (by decide) ?_
                            exact RET (nI (0)) (mW cI b I J F G0) _ _ ls _ _ _ (⟨congrArg nI (by unfold flN; split <;> (try split) <;> (try split) <;> (try split) <;> (try split) <;> omega), rfl⟩) G (by first | (simp only []; omega) | decide) (by first | (simp only []; omega) | decide) rfl dX7_failure_131
                          · skip
                            replace c108 : ((ac : Nat) : Int) = ((4 : Nat) : Int) := (cv_eq (nI_toInt (by omega)) (nI_toInt (by omega))).mp c108
                            refine lv_aload_n hx hb dX7_failure_111 rfl (lv_at hl 0 rfl) ?_
                            refine r_get (v := .ref (b 4)) C G hX7 0 rfl rfl 7 (by decide) (by decide +kernel) rfl dX7_failure_112 ?_
                            refine lv_iload_n hx hb dX7_failure_115 rfl (lv_at hl 2 rfl) ?_
                            refine r_iald (v := nI ((F 3) j)) C G 4 0 rfl rfl j rfl (by omega) (by omega) rfl dX7_failure_116 ?_
                            refine lv_iconst (v := (nI (1))) hx hb dX7_failure_117 (by decide) ?_
                            refine lv_icmp_ne (tgt := 130) hx hb dX7_failure_118 (by decide) (fun c118 => ?_) (fun c118 => ?_)
                            · skip
                              replace c118 : ¬ (((F 3) j : Nat) : Int) = ((1 : Nat) : Int) := fun h => c118 ((cv_eq (nI_toInt (by omega)) (nI_toInt (by omega))).mpr h)
                              refine lv_iconst (v := (nI (0))) hx hb dX7_failure_130 (by decide) ?_
                              exact RET (nI (0)) (mW cI b I J F G0) _ _ ls _ _ _ (⟨congrArg nI (by unfold flN; split <;> (try split) <;> (try split) <;> (try split) <;> (try split) <;> omega), rfl⟩) G (by first | (simp only []; omega) | decide) (by first | (simp only []; omega) | decide) rfl dX7_failure_131
                            · skip
                              replace c118 : (((F 3) j : Nat) : Int) = ((1 : Nat) : Int) := (cv_eq (nI_toInt (by omega)) (nI_toInt (by omega))).mp c118
                              refine lv_iload_n hx hb dX7_failure_121 rfl (lv_at hl 3 rfl) ?_
                              refine lv_if_le (tgt := 130) hx hb dX7_failure_122 (by decide) (fun c122 => ?_) (fun c122 => ?_)
                              · skip
                                replace c122 : (v).toInt ≤ (0) := (cv_le rfl (by decide)).mp c122
                                refine lv_iconst (v := (nI (0))) hx hb dX7_failure_130 (by decide) ?_
                                exact RET (nI (0)) (mW cI b I J F G0) _ _ ls _ _ _ (⟨congrArg nI (by unfold flN; split <;> (try split) <;> (try split) <;> (try split) <;> (try split) <;> omega), rfl⟩) G (by first | (simp only []; omega) | decide) (by first | (simp only []; omega) | decide) rfl dX7_failure_131
                              · skip
                                replace c122 : (0) < (v).toInt := Int.not_le.mp (fun h => c122 ((cv_le rfl (by decide)).mpr h))
                                refine lv_bipush (v := (nI (6))) hx hb dX7_failure_125 (by decide) ?_
                                refine lv_goto (tgt := 131) hx hb dX7_failure_127 (by decide) ?_
                                exact RET (nI (6)) (mW cI b I J F G0) _ _ ls _ _ _ (⟨congrArg nI (by unfold flN; split <;> (try split) <;> (try split) <;> (try split) <;> (try split) <;> omega), rfl⟩) G (by first | (simp only []; omega) | decide) (by first | (simp only []; omega) | decide) rfl dX7_failure_131
                        · skip
                          replace c99 : ((ac : Nat) : Int) = ((2 : Nat) : Int) := (cv_eq (nI_toInt (by omega)) (nI_toInt (by omega))).mp c99
                          refine lv_iload_n hx hb dX7_failure_102 rfl (lv_at hl 3 rfl) ?_
                          refine lv_if_eq (tgt := 125) hx hb dX7_failure_103 (by decide) (fun c103 => ?_) (fun c103 => ?_)
                          · skip
                            replace c103 : (v).toInt = (0) := (cv_eq rfl (by decide)).mp c103
                            refine lv_bipush (v := (nI (6))) hx hb dX7_failure_125 (by decide) ?_
                            refine lv_goto (tgt := 131) hx hb dX7_failure_127 (by decide) ?_
                            exact RET (nI (6)) (mW cI b I J F G0) _ _ ls _ _ _ (⟨congrArg nI (by unfold flN; split <;> (try split) <;> (try split) <;> (try split) <;> (try split) <;> omega), rfl⟩) G (by first | (simp only []; omega) | decide) (by first | (simp only []; omega) | decide) rfl dX7_failure_131
                          · skip
                            replace c103 : ¬ (v).toInt = (0) := fun h => c103 ((cv_eq rfl (by decide)).mpr h)
                            refine lv_iload_n hx hb dX7_failure_106 rfl (lv_at hl 1 rfl) ?_
                            refine lv_iconst (v := (nI (4))) hx hb dX7_failure_107 (by decide) ?_
                            refine lv_icmp_ne (tgt := 130) hx hb dX7_failure_108 (by decide) (fun c108 => ?_) (fun c108 => ?_)
                            · skip
                              replace c108 : ¬ ((ac : Nat) : Int) = ((4 : Nat) : Int) := fun h => c108 ((cv_eq (nI_toInt (by omega)) (nI_toInt (by omega))).mpr h)
                              refine lv_iconst (v := (nI (0))) hx hb dX7_failure_130 (by decide) ?_
                              exact RET (nI (0)) (mW cI b I J F G0) _ _ ls _ _ _ (⟨congrArg nI (by unfold flN; split <;> (try split) <;> (try split) <;> (try split) <;> (try split) <;> omega), rfl⟩) G (by first | (simp only []; omega) | decide) (by first | (simp only []; omega) | decide) rfl dX7_failure_131
                            · skip
                              replace c108 : ((ac : Nat) : Int) = ((4 : Nat) : Int) := (cv_eq (nI_toInt (by omega)) (nI_toInt (by omega))).mp c108
                              refine lv_aload_n hx hb dX7_failure_111 rfl (lv_at hl 0 rfl) ?_
                              refine r_get (v := .ref (b 4)) C G hX7 0 rfl rfl 7 (by decide) (by decide +kernel) rfl dX7_failure_112 ?_
                              refine lv_iload_n hx hb dX7_failure_115 rfl (lv_at hl 2 rfl) ?_
                              refine r_iald (v := nI ((F 3) j)) C G 4 0 rfl rfl j rfl (by omega) (by omega) rfl dX7_failure_116 ?_
                              refine lv_iconst (v := (nI (1))) hx hb dX7_failure_117 (by decide) ?_
                              refine lv_icmp_ne (tgt := 130) hx hb dX7_failure_118 (by decide) (fun c118 => ?_) (fun c118 => ?_)
                              · skip
                                replace c118 : ¬ (((F 3) j : Nat) : Int) = ((1 : Nat) : Int) := fun h => c118 ((cv_eq (nI_toInt (by omega)) (nI_toInt (by omega))).mpr h)
                                refine lv_iconst (v := (nI (0))) hx hb dX7_failure_130 (by decide) ?_
                                exact RET (nI (0)) (mW cI b I J F G0) _ _ ls _ _ _ (⟨congrArg nI (by unfold flN; split <;> (try split) <;> (try split) <;> (try split) <;> (try split) <;> omega), rfl⟩) G (by first | (simp only []; omega) | decide) (by first | (simp only []; omega) | decide) rfl dX7_failure_131
                              · skip
                                replace c118 : (((F 3) j : Nat) : Int) = ((1 : Nat) : Int) := (cv_eq (nI_toInt (by omega)) (nI_toInt (by omega))).mp c118
                                refine lv_iload_n hx hb dX7_failure_121 rfl (lv_at hl 3 rfl) ?_
                                refine lv_if_le (tgt := 130) hx hb dX7_failure_122 (by decide) (fun c122 => ?_) (fun c122 => ?_)
                                · skip
                                  replace c122 : (v).toInt ≤ (0) := (cv_le rfl (by decide)).mp c122
                                  refine lv_iconst (v := (nI (0))) hx hb dX7_failure_130 (by decide) ?_
                                  exact RET (nI (0)) (mW cI b I J F G0) _ _ ls _ _ _ (⟨congrArg nI (by unfold flN; split <;> (try split) <;> (try split) <;> (try split) <;> (try split) <;> omega), rfl⟩) G (by first | (simp only []; omega) | decide) (by first | (simp only []; omega) | decide) rfl dX7_failure_131
                                · skip
                                  replace c122 : (0) < (v).toInt := Int.not_le.mp (fun h => c122 ((cv_le rfl (by decide)).mpr h))
                                  refine lv_bipush (v := (nI (6))) hx hb dX7_failure_125 (by decide) ?_
                                  refine lv_goto (tgt := 131) hx hb dX7_failure_127 (by decide) ?_
                                  exact RET (nI (6)) (mW cI b I J F G0) _ _ ls _ _ _ (⟨congrArg nI (by unfold flN; split <;> (try split) <;> (try split) <;> (try split) <;> (try split) <;> omega), rfl⟩) G (by first | (simp only []; omega) | decide) (by first | (simp only []; omega) | decide) rfl dX7_failure_131
                      · skip
                        replace c88 : ((ac : Nat) : Int) = ((1 : Nat) : Int) := (cv_eq (nI_toInt (by omega)) (nI_toInt (by omega))).mp c88
                        refine lv_iload_n hx hb dX7_failure_91 rfl (lv_at hl 3 rfl) ?_
                        refine lv_if_ge (tgt := 97) hx hb dX7_failure_92 (by decide) (fun c92 => ?_) (fun c92 => ?_)
                        · skip
                          replace c92 : (0) ≤ (v).toInt := (cv_le (by decide) rfl).mp c92
                          refine lv_iload_n hx hb dX7_failure_97 rfl (lv_at hl 1 rfl) ?_
                          refine lv_iconst (v := (nI (2))) hx hb dX7_failure_98 (by decide) ?_
                          refine lv_icmp_ne (tgt := 106) hx hb dX7_failure_99 (by decide) (fun c99 => ?_) (fun c99 => ?_)
                          · skip
                            replace c99 : ¬ ((ac : Nat) : Int) = ((2 : Nat) : Int) := fun h => c99 ((cv_eq (nI_toInt (by omega)) (nI_toInt (by omega))).mpr h)
                            refine lv_iload_n hx hb dX7_failure_106 rfl (lv_at hl 1 rfl) ?_
                            refine lv_iconst (v := (nI (4))) hx hb dX7_failure_107 (by decide) ?_
                            refine lv_icmp_ne (tgt := 130) hx hb dX7_failure_108 (by decide) (fun c108 => ?_) (fun c108 => ?_)
                            · skip
                              replace c108 : ¬ ((ac : Nat) : Int) = ((4 : Nat) : Int) := fun h => c108 ((cv_eq (nI_toInt (by omega)) (nI_toInt (by omega))).mpr h)
                              refine lv_iconst (v := (nI (0))) hx hb dX7_failure_130 (by decide) ?_
                              exact RET (nI (0)) (mW cI b I J F G0) _ _ ls _ _ _ (⟨congrArg nI (by unfold flN; split <;> (try split) <;> (try split) <;> (try split) <;> (try split) <;> omega), rfl⟩) G (by first | (simp only []; omega) | decide) (by first | (simp only []; omega) | decide) rfl dX7_failure_131
                            · skip
                              replace c108 : ((ac : Nat) : Int) = ((4 : Nat) : Int) := (cv_eq (nI_toInt (by omega)) (nI_toInt (by omega))).mp c108
                              refine lv_aload_n hx hb dX7_failure_111 rfl (lv_at hl 0 rfl) ?_
                              refine r_get (v := .ref (b 4)) C G hX7 0 rfl rfl 7 (by decide) (by decide +kernel) rfl dX7_failure_112 ?_
                              refine lv_iload_n hx hb dX7_failure_115 rfl (lv_at hl 2 rfl) ?_
                              refine r_iald (v := nI ((F 3) j)) C G 4 0 rfl rfl j rfl (by omega) (by omega) rfl dX7_failure_116 ?_
                              refine lv_iconst (v := (nI (1))) hx hb dX7_failure_117 (by decide) ?_
                              refine lv_icmp_ne (tgt := 130) hx hb dX7_failure_118 (by decide) (fun c118 => ?_) (fun c118 => ?_)
                              · skip
                                replace c118 : ¬ (((F 3) j : Nat) : Int) = ((1 : Nat) : Int) := fun h => c118 ((cv_eq (nI_toInt (by omega)) (nI_toInt (by omega))).mpr h)
                                refine lv_iconst (v := (nI (0))) hx hb dX7_failure_130 (by decide) ?_
                                exact RET (nI (0)) (mW cI b I J F G0) _ _ ls _ _ _ (⟨congrArg nI (by unfold flN; split <;> (try split) <;> (try split) <;> (try split) <;> (try split) <;> omega), rfl⟩) G (by first | (simp only []; omega) | decide) (by first | (simp only []; omega) | decide) rfl dX7_failure_131
                              · skip
                                replace c118 : (((F 3) j : Nat) : Int) = ((1 : Nat) : Int) := (cv_eq (nI_toInt (by omega)) (nI_toInt (by omega))).mp c118
                                refine lv_iload_n hx hb dX7_failure_121 rfl (lv_at hl 3 rfl) ?_
                                refine lv_if_le (tgt := 130) hx hb dX7_failure_122 (by decide) (fun c122 => ?_) (fun c122 => ?_)
                                · skip
                                  replace c122 : (v).toInt ≤ (0) := (cv_le rfl (by decide)).mp c122
                                  refine lv_iconst (v := (nI (0))) hx hb dX7_failure_130 (by decide) ?_
                                  exact RET (nI (0)) (mW cI b I J F G0) _ _ ls _ _ _ (⟨congrArg nI (by unfold flN; split <;> (try split) <;> (try split) <;> (try split) <;> (try split) <;> omega), rfl⟩) G (by first | (simp only []; omega) | decide) (by first | (simp only []; omega) | decide) rfl dX7_failure_131
                                · skip
                                  replace c122 : (0) < (v).toInt := Int.not_le.mp (fun h => c122 ((cv_le rfl (by decide)).mpr h))
                                  refine lv_bipush (v := (nI (6))) hx hb dX7_failure_125 (by decide) ?_
                                  refine lv_goto (tgt := 131) hx hb dX7_failure_127 (by decide) ?_
                                  exact RET (nI (6)) (mW cI b I J F G0) _ _ ls _ _ _ (⟨congrArg nI (by unfold flN; split <;> (try split) <;> (try split) <;> (try split) <;> (try split) <;> omega), rfl⟩) G (by first | (simp only []; omega) | decide) (by first | (simp only []; omega) | decide) rfl dX7_failure_131
                          · skip
                            replace c99 : ((ac : Nat) : Int) = ((2 : Nat) : Int) := (cv_eq (nI_toInt (by omega)) (nI_toInt (by omega))).mp c99
                            refine lv_iload_n hx hb dX7_failure_102 rfl (lv_at hl 3 rfl) ?_
                            refine lv_if_eq (tgt := 125) hx hb dX7_failure_103 (by decide) (fun c103 => ?_) (fun c103 => ?_)
                            · skip
                              replace c103 : (v).toInt = (0) := (cv_eq rfl (by decide)).mp c103
                              refine lv_bipush (v := (nI (6))) hx hb dX7_failure_125 (by decide) ?_
                              refine lv_goto (tgt := 131) hx hb dX7_failure_127 (by decide) ?_
                              exact RET (nI (6)) (mW cI b I J F G0) _ _ ls _ _ _ (⟨congrArg nI (by unfold flN; split <;> (try split) <;> (try split) <;> (try split) <;> (try split) <;> omega), rfl⟩) G (by first | (simp only []; omega) | decide) (by first | (simp only []; omega) | decide) rfl dX7_failure_131
                            · skip
                              replace c103 : ¬ (v).toInt = (0) := fun h => c103 ((cv_eq rfl (by decide)).mpr h)
                              refine lv_iload_n hx hb dX7_failure_106 rfl (lv_at hl 1 rfl) ?_
                              refine lv_iconst (v := (nI (4))) hx hb dX7_failure_107 (by decide) ?_
                              refine lv_icmp_ne (tgt := 130) hx hb dX7_failure_108 (by decide) (fun c108 => ?_) (fun c108 => ?_)
                              · skip
                                replace c108 : ¬ ((ac : Nat) : Int) = ((4 : Nat) : Int) := fun h => c108 ((cv_eq (nI_toInt (by omega)) (nI_toInt (by omega))).mpr h)
                                refine lv_iconst (v := (nI (0))) hx hb dX7_failure_130 (by decide) ?_
                                exact RET (nI (0)) (mW cI b I J F G0) _ _ ls _ _ _ (⟨congrArg nI (by unfold flN; split <;> (try split) <;> (try split) <;> (try split) <;> (try split) <;> omega), rfl⟩) G (by first | (simp only []; omega) | decide) (by first | (simp only []; omega) | decide) rfl dX7_failure_131
                              · skip
                                replace c108 : ((ac : Nat) : Int) = ((4 : Nat) : Int) := (cv_eq (nI_toInt (by omega)) (nI_toInt (by omega))).mp c108
                                refine lv_aload_n hx hb dX7_failure_111 rfl (lv_at hl 0 rfl) ?_
                                refine r_get (v := .ref (b 4)) C G hX7 0 rfl rfl 7 (by decide) (by decide +kernel) rfl dX7_failure_112 ?_
                                refine lv_iload_n hx hb dX7_failure_115 rfl (lv_at hl 2 rfl) ?_
                                refine r_iald (v := nI ((F 3) j)) C G 4 0 rfl rfl j rfl (by omega) (by omega) rfl dX7_failure_116 ?_
                                refine lv_iconst (v := (nI (1))) hx hb dX7_failure_117 (by decide) ?_
                                refine lv_icmp_ne (tgt := 130) hx hb dX7_failure_118 (by decide) (fun c118 => ?_) (fun c118 => ?_)
                                · skip
                                  replace c118 : ¬ (((F 3) j : Nat) : Int) = ((1 : Nat) : Int) := fun h => c118 ((cv_eq (nI_toInt (by omega)) (nI_toInt (by omega))).mpr h)
                                  refine lv_iconst (v := (nI (0))) hx hb dX7_failure_130 (by decide) ?_
                                  exact RET (nI (0)) (mW cI b I J F G0) _ _ ls _ _ _ (⟨congrArg nI (by unfold flN; split <;> (try split) <;> (try split) <;> (try split) <;> (try split) <;> omega), rfl⟩) G (by first | (simp only []; omega) | decide) (by first | (simp only []; omega) | decide) rfl dX7_failure_131
                                · skip
                                  replace c118 : (((F 3) j : Nat) : Int) = ((1 : Nat) : Int) := (cv_eq (nI_toInt (by omega)) (nI_toInt (by omega))).mp c118
                                  refine lv_iload_n hx hb dX7_failure_121 rfl (lv_at hl 3 rfl) ?_
                                  refine lv_if_le (tgt := 130) hx hb dX7_failure_122 (by decide) (fun c122 => ?_) (fun c122 => ?_)
                                  · skip
                                    replace c122 : (v).toInt ≤ (0) := (cv_le rfl (by decide)).mp c122
                                    refine lv_iconst (v := (nI (0))) hx hb dX7_failure_130 (by decide) ?_
                                    exact RET (nI (0)) (mW cI b I J F G0) _ _ ls _ _ _ (⟨congrArg nI (by unfold flN; split <;> (try split) <;> (try split) <;> (try split) <;> (try split) <;> omega), rfl⟩) G (by first | (simp only []; omega) | decide) (by first | (simp only []; omega) | decide) rfl dX7_failure_131
                                  · skip
                                    replace c122 : (0) < (v).toInt := Int.not_le.mp (fun h => c122 ((cv_le rfl (by decide)).mpr h))
                                    refine lv_bipush (v := (nI (6))) hx hb dX7_failure_125 (by decide) ?_
                                    refine lv_goto (tgt := 131) hx hb dX7_failure_127 (by decide) ?_
                                    exact RET (nI (6)) (mW cI b I J F G0) _ _ ls _ _ _ (⟨congrArg nI (by unfold flN; split <;> (try split) <;> (try split) <;> (try split) <;> (try split) <;> omega), rfl⟩) G (by first | (simp only []; omega) | decide) (by first | (simp only []; omega) | decide) rfl dX7_failure_131
                        · skip
                          replace c92 : (v).toInt < (0) := Int.not_le.mp (fun h => c92 ((cv_le (by decide) rfl).mpr h))
                          refine lv_iconst (v := (nI (5))) hx hb dX7_failure_95 (by decide) ?_
                          exact RET (nI (5)) (mW cI b I J F G0) _ _ ls _ _ _ (⟨congrArg nI (by unfold flN; split <;> (try split) <;> (try split) <;> (try split) <;> (try split) <;> omega), rfl⟩) G (by first | (simp only []; omega) | decide) (by first | (simp only []; omega) | decide) rfl dX7_failure_96
                    · skip
                      replace c81 : (0) < (v).toInt := Int.not_le.mp (fun h => c81 ((cv_le rfl (by decide)).mpr h))
                      refine lv_iconst (v := (nI (3))) hx hb dX7_failure_84 (by decide) ?_
                      exact RET (nI (3)) (mW cI b I J F G0) _ _ ls _ _ _ (⟨congrArg nI (by unfold flN; split <;> (try split) <;> (try split) <;> (try split) <;> (try split) <;> omega), rfl⟩) G (by first | (simp only []; omega) | decide) (by first | (simp only []; omega) | decide) rfl dX7_failure_85
        · skip
          exact absurd c36 (by decide)
      · skip
        replace c28 : ((2 : Nat) : Int) < ((ac : Nat) : Int) := Int.not_le.mp (fun h => c28 ((cv_le (nI_toInt (by omega)) (nI_toInt (by omega))).mpr h))
        refine lv_iconst (v := (nI (1))) hx hb dX7_failure_31 (by decide) ?_
        refine lv_goto (tgt := 36) hx hb dX7_failure_32 (by decide) ?_
        refine lv_icmp_eq (tgt := 41) hx hb dX7_failure_36 (by decide) (fun c36 => ?_) (fun c36 => ?_)
        · skip
          exact absurd c36 (by decide)
        · skip
          refine lv_iconst (v := (nI (2))) hx hb dX7_failure_39 (by decide) ?_
          exact RET (nI (2)) (mW cI b I J F G0) _ _ ls _ _ _ (⟨congrArg nI (by unfold flN; split <;> (try split) <;> (try split) <;> (try split) <;> (try split) <;> omega), rfl⟩) G (by first | (simp only []; omega) | decide) (by first | (simp only []; omega) | decide) rfl dX7_failure_40
    · skip
      replace c18 : (((F 0) j : Nat) : Int) = (0) := (cv_eq (nI_toInt (by omega)) (by decide)).mp c18
      refine lv_iconst (v := (nI (1))) hx hb dX7_failure_21 (by decide) ?_
      refine lv_goto (tgt := 26) hx hb dX7_failure_22 (by decide) ?_
      refine lv_iload_n hx hb dX7_failure_26 rfl (lv_at hl 1 rfl) ?_
      refine lv_iconst (v := (nI (2))) hx hb dX7_failure_27 (by decide) ?_
      refine lv_icmp_le (tgt := 35) hx hb dX7_failure_28 (by decide) (fun c28 => ?_) (fun c28 => ?_)
      · skip
        replace c28 : ((ac : Nat) : Int) ≤ ((2 : Nat) : Int) := (cv_le (nI_toInt (by omega)) (nI_toInt (by omega))).mp c28
        refine lv_iconst (v := (nI (0))) hx hb dX7_failure_35 (by decide) ?_
        refine lv_icmp_eq (tgt := 41) hx hb dX7_failure_36 (by decide) (fun c36 => ?_) (fun c36 => ?_)
        · skip
          exact absurd c36 (by decide)
        · skip
          refine lv_iconst (v := (nI (2))) hx hb dX7_failure_39 (by decide) ?_
          exact RET (nI (2)) (mW cI b I J F G0) _ _ ls _ _ _ (⟨congrArg nI (by unfold flN; split <;> (try split) <;> (try split) <;> (try split) <;> (try split) <;> omega), rfl⟩) G (by first | (simp only []; omega) | decide) (by first | (simp only []; omega) | decide) rfl dX7_failure_40
      · skip
        replace c28 : ((2 : Nat) : Int) < ((ac : Nat) : Int) := Int.not_le.mp (fun h => c28 ((cv_le (nI_toInt (by omega)) (nI_toInt (by omega))).mpr h))
        refine lv_iconst (v := (nI (1))) hx hb dX7_failure_31 (by decide) ?_
        refine lv_goto (tgt := 36) hx hb dX7_failure_32 (by decide) ?_
        refine lv_icmp_eq (tgt := 41) hx hb dX7_failure_36 (by decide) (fun c36 => ?_) (fun c36 => ?_)
        · skip
          refine lv_iload_n hx hb dX7_failure_41 rfl (lv_at hl 1 rfl) ?_
          refine lv_iconst (v := (nI (1))) hx hb dX7_failure_42 (by decide) ?_
          refine lv_icmp_ne (tgt := 66) hx hb dX7_failure_43 (by decide) (fun c43 => ?_) (fun c43 => ?_)
          · skip
            replace c43 : ¬ ((ac : Nat) : Int) = ((1 : Nat) : Int) := fun h => c43 ((cv_eq (nI_toInt (by omega)) (nI_toInt (by omega))).mpr h)
            refine lv_iload_n hx hb dX7_failure_66 rfl (lv_at hl 1 rfl) ?_
            refine lv_iconst (v := (nI (4))) hx hb dX7_failure_67 (by decide) ?_
            refine lv_icmp_ne (tgt := 86) hx hb dX7_failure_68 (by decide) (fun c68 => ?_) (fun c68 => ?_)
            · skip
              replace c68 : ¬ ((ac : Nat) : Int) = ((4 : Nat) : Int) := fun h => c68 ((cv_eq (nI_toInt (by omega)) (nI_toInt (by omega))).mpr h)
              refine lv_iload_n hx hb dX7_failure_86 rfl (lv_at hl 1 rfl) ?_
              refine lv_iconst (v := (nI (1))) hx hb dX7_failure_87 (by decide) ?_
              refine lv_icmp_ne (tgt := 97) hx hb dX7_failure_88 (by decide) (fun c88 => ?_) (fun c88 => ?_)
              · skip
                replace c88 : ¬ ((ac : Nat) : Int) = ((1 : Nat) : Int) := fun h => c88 ((cv_eq (nI_toInt (by omega)) (nI_toInt (by omega))).mpr h)
                refine lv_iload_n hx hb dX7_failure_97 rfl (lv_at hl 1 rfl) ?_
                refine lv_iconst (v := (nI (2))) hx hb dX7_failure_98 (by decide) ?_
                refine lv_icmp_ne (tgt := 106) hx hb dX7_failure_99 (by decide) (fun c99 => ?_) (fun c99 => ?_)
                · skip
                  replace c99 : ¬ ((ac : Nat) : Int) = ((2 : Nat) : Int) := fun h => c99 ((cv_eq (nI_toInt (by omega)) (nI_toInt (by omega))).mpr h)
                  refine lv_iload_n hx hb dX7_failure_106 rfl (lv_at hl 1 rfl) ?_
                  refine lv_iconst (v := (nI (4))) hx hb dX7_failure_107 (by decide) ?_
                  refine lv_icmp_ne (tgt := 130) hx hb dX7_failure_108 (by decide) (fun c108 => ?_) (fun c108 => ?_)
                  · skip
                    replace c108 : ¬ ((ac : Nat) : Int) = ((4 : Nat) : Int) := fun h => c108 ((cv_eq (nI_toInt (by omega)) (nI_toInt (by omega))).mpr h)
                    refine lv_iconst (v := (nI (0))) hx hb dX7_failure_130 (by decide) ?_
                    exact RET (nI (0)) (mW cI b I J F G0) _ _ ls _ _ _ (⟨congrArg nI (by unfold flN; split <;> (try split) <;> (try split) <;> (try split) <;> (try split) <;> omega), rfl⟩) G (by first | (simp only []; omega) | decide) (by first | (simp only []; omega) | decide) rfl dX7_failure_131
                  · skip
                    replace c108 : ((ac : Nat) : Int) = ((4 : Nat) : Int) := (cv_eq (nI_toInt (by omega)) (nI_toInt (by omega))).mp c108
                    refine lv_aload_n hx hb dX7_failure_111 rfl (lv_at hl 0 rfl) ?_
                    refine r_get (v := .ref (b 4)) C G hX7 0 rfl rfl 7 (by decide) (by decide +kernel) rfl dX7_failure_112 ?_
                    refine lv_iload_n hx hb dX7_failure_115 rfl (lv_at hl 2 rfl) ?_
                    refine r_iald (v := nI ((F 3) j)) C G 4 0 rfl rfl j rfl (by omega) (by omega) rfl dX7_failure_116 ?_
                    refine lv_iconst (v := (nI (1))) hx hb dX7_failure_117 (by decide) ?_
                    refine lv_icmp_ne (tgt := 130) hx hb dX7_failure_118 (by decide) (fun c118 => ?_) (fun c118 => ?_)
                    · skip
                      replace c118 : ¬ (((F 3) j : Nat) : Int) = ((1 : Nat) : Int) := fun h => c118 ((cv_eq (nI_toInt (by omega)) (nI_toInt (by omega))).mpr h)
                      refine lv_iconst (v := (nI (0))) hx hb dX7_failure_130 (by decide) ?_
                      exact RET (nI (0)) (mW cI b I J F G0) _ _ ls _ _ _ (⟨congrArg nI (by unfold flN; split <;> (try split) <;> (try split) <;> (try split) <;> (try split) <;> omega), rfl⟩) G (by first | (simp only []; omega) | decide) (by first | (simp only []; omega) | decide) rfl dX7_failure_131
                    · skip
                      replace c118 : (((F 3) j : Nat) : Int) = ((1 : Nat) : Int) := (cv_eq (nI_toInt (by omega)) (nI_toInt (by omega))).mp c118
                      refine lv_iload_n hx hb dX7_failure_121 rfl (lv_at hl 3 rfl) ?_
                      refine lv_if_le (tgt := 130) hx hb dX7_failure_122 (by decide) (fun c122 => ?_) (fun c122 => ?_)
                      · skip
                        replace c122 : (v).toInt ≤ (0) := (cv_le rfl (by decide)).mp c122
                        refine lv_iconst (v := (nI (0))) hx hb dX7_failure_130 (by decide) ?_
                        exact RET (nI (0)) (mW cI b I J F G0) _ _ ls _ _ _ (⟨congrArg nI (by unfold flN; split <;> (try split) <;> (try split) <;> (try split) <;> (try split) <;> omega), rfl⟩) G (by first | (simp only []; omega) | decide) (by first | (simp only []; omega) | decide) rfl dX7_failure_131
                      · skip
                        replace c122 : (0) < (v).toInt := Int.not_le.mp (fun h => c122 ((cv_le rfl (by decide)).mpr h))
                        refine lv_bipush (v := (nI (6))) hx hb dX7_failure_125 (by decide) ?_
                        refine lv_goto (tgt := 131) hx hb dX7_failure_127 (by decide) ?_
                        exact RET (nI (6)) (mW cI b I J F G0) _ _ ls _ _ _ (⟨congrArg nI (by unfold flN; split <;> (try split) <;> (try split) <;> (try split) <;> (try split) <;> omega), rfl⟩) G (by first | (simp only []; omega) | decide) (by first | (simp only []; omega) | decide) rfl dX7_failure_131
                · skip
                  replace c99 : ((ac : Nat) : Int) = ((2 : Nat) : Int) := (cv_eq (nI_toInt (by omega)) (nI_toInt (by omega))).mp c99
                  refine lv_iload_n hx hb dX7_failure_102 rfl (lv_at hl 3 rfl) ?_
                  refine lv_if_eq (tgt := 125) hx hb dX7_failure_103 (by decide) (fun c103 => ?_) (fun c103 => ?_)
                  · skip
                    replace c103 : (v).toInt = (0) := (cv_eq rfl (by decide)).mp c103
                    refine lv_bipush (v := (nI (6))) hx hb dX7_failure_125 (by decide) ?_
                    refine lv_goto (tgt := 131) hx hb dX7_failure_127 (by decide) ?_
                    exact RET (nI (6)) (mW cI b I J F G0) _ _ ls _ _ _ (⟨congrArg nI (by unfold flN; split <;> (try split) <;> (try split) <;> (try split) <;> (try split) <;> omega), rfl⟩) G (by first | (simp only []; omega) | decide) (by first | (simp only []; omega) | decide) rfl dX7_failure_131
                  · skip
                    replace c103 : ¬ (v).toInt = (0) := fun h => c103 ((cv_eq rfl (by decide)).mpr h)
                    refine lv_iload_n hx hb dX7_failure_106 rfl (lv_at hl 1 rfl) ?_
                    refine lv_iconst (v := (nI (4))) hx hb dX7_failure_107 (by decide) ?_
                    refine lv_icmp_ne (tgt := 130) hx hb dX7_failure_108 (by decide) (fun c108 => ?_) (fun c108 => ?_)
                    · skip
                      replace c108 : ¬ ((ac : Nat) : Int) = ((4 : Nat) : Int) := fun h => c108 ((cv_eq (nI_toInt (by omega)) (nI_toInt (by omega))).mpr h)
                      refine lv_iconst (v := (nI (0))) hx hb dX7_failure_130 (by decide) ?_
                      exact RET (nI (0)) (mW cI b I J F G0) _ _ ls _ _ _ (⟨congrArg nI (by unfold flN; split <;> (try split) <;> (try split) <;> (try split) <;> (try split) <;> omega), rfl⟩) G (by first | (simp only []; omega) | decide) (by first | (simp only []; omega) | decide) rfl dX7_failure_131
                    · skip
                      replace c108 : ((ac : Nat) : Int) = ((4 : Nat) : Int) := (cv_eq (nI_toInt (by omega)) (nI_toInt (by omega))).mp c108
                      refine lv_aload_n hx hb dX7_failure_111 rfl (lv_at hl 0 rfl) ?_
                      refine r_get (v := .ref (b 4)) C G hX7 0 rfl rfl 7 (by decide) (by decide +kernel) rfl dX7_failure_112 ?_
                      refine lv_iload_n hx hb dX7_failure_115 rfl (lv_at hl 2 rfl) ?_
                      refine r_iald (v := nI ((F 3) j)) C G 4 0 rfl rfl j rfl (by omega) (by omega) rfl dX7_failure_116 ?_
                      refine lv_iconst (v := (nI (1))) hx hb dX7_failure_117 (by decide) ?_
                      refine lv_icmp_ne (tgt := 130) hx hb dX7_failure_118 (by decide) (fun c118 => ?_) (fun c118 => ?_)
                      · skip
                        replace c118 : ¬ (((F 3) j : Nat) : Int) = ((1 : Nat) : Int) := fun h => c118 ((cv_eq (nI_toInt (by omega)) (nI_toInt (by omega))).mpr h)
                        refine lv_iconst (v := (nI (0))) hx hb dX7_failure_130 (by decide) ?_
                        exact RET (nI (0)) (mW cI b I J F G0) _ _ ls _ _ _ (⟨congrArg nI (by unfold flN; split <;> (try split) <;> (try split) <;> (try split) <;> (try split) <;> omega), rfl⟩) G (by first | (simp only []; omega) | decide) (by first | (simp only []; omega) | decide) rfl dX7_failure_131
                      · skip
                        replace c118 : (((F 3) j : Nat) : Int) = ((1 : Nat) : Int) := (cv_eq (nI_toInt (by omega)) (nI_toInt (by omega))).mp c118
                        refine lv_iload_n hx hb dX7_failure_121 rfl (lv_at hl 3 rfl) ?_
                        refine lv_if_le (tgt := 130) hx hb dX7_failure_122 (by decide) (fun c122 => ?_) (fun c122 => ?_)
                        · skip
                          replace c122 : (v).toInt ≤ (0) := (cv_le rfl (by decide)).mp c122
                          refine lv_iconst (v := (nI (0))) hx hb dX7_failure_130 (by decide) ?_
                          exact RET (nI (0)) (mW cI b I J F G0) _ _ ls _ _ _ (⟨congrArg nI (by unfold flN; split <;> (try split) <;> (try split) <;> (try split) <;> (try split) <;> omega), rfl⟩) G (by first | (simp only []; omega) | decide) (by first | (simp only []; omega) | decide) rfl dX7_failure_131
                        · skip
                          replace c122 : (0) < (v).toInt := Int.not_le.mp (fun h => c122 ((cv_le rfl (by decide)).mpr h))
                          refine lv_bipush (v := (nI (6))) hx hb dX7_failure_125 (by decide) ?_
                          refine lv_goto (tgt := 131) hx hb dX7_failure_127 (by decide) ?_
                          exact RET (nI (6)) (mW cI b I J F G0) _ _ ls _ _ _ (⟨congrArg nI (by unfold flN; split <;> (try split) <;> (try split) <;> (try split) <;> (try split) <;> omega), rfl⟩) G (by first | (simp only []; omega) | decide) (by first | (simp only []; omega) | decide) rfl dX7_failure_131
              · skip
                replace c88 : ((ac : Nat) : Int) = ((1 : Nat) : Int) := (cv_eq (nI_toInt (by omega)) (nI_toInt (by omega))).mp c88
                refine lv_iload_n hx hb dX7_failure_91 rfl (lv_at hl 3 rfl) ?_
                refine lv_if_ge (tgt := 97) hx hb dX7_failure_92 (by decide) (fun c92 => ?_) (fun c92 => ?_)
                · skip
                  replace c92 : (0) ≤ (v).toInt := (cv_le (by decide) rfl).mp c92
                  refine lv_iload_n hx hb dX7_failure_97 rfl (lv_at hl 1 rfl) ?_
                  refine lv_iconst (v := (nI (2))) hx hb dX7_failure_98 (by decide) ?_
                  refine lv_icmp_ne (tgt := 106) hx hb dX7_failure_99 (by decide) (fun c99 => ?_) (fun c99 => ?_)
                  · skip
                    replace c99 : ¬ ((ac : Nat) : Int) = ((2 : Nat) : Int) := fun h => c99 ((cv_eq (nI_toInt (by omega)) (nI_toInt (by omega))).mpr h)
                    refine lv_iload_n hx hb dX7_failure_106 rfl (lv_at hl 1 rfl) ?_
                    refine lv_iconst (v := (nI (4))) hx hb dX7_failure_107 (by decide) ?_
                    refine lv_icmp_ne (tgt := 130) hx hb dX7_failure_108 (by decide) (fun c108 => ?_) (fun c108 => ?_)
                    · skip
                      replace c108 : ¬ ((ac : Nat) : Int) = ((4 : Nat) : Int) := fun h => c108 ((cv_eq (nI_toInt (by omega)) (nI_toInt (by omega))).mpr h)
                      refine lv_iconst (v := (nI (0))) hx hb dX7_failure_130 (by decide) ?_
                      exact RET (nI (0)) (mW cI b I J F G0) _ _ ls _ _ _ (⟨congrArg nI (by unfold flN; split <;> (try split) <;> (try split) <;> (try split) <;> (try split) <;> omega), rfl⟩) G (by first | (simp only []; omega) | decide) (by first | (simp only []; omega) | decide) rfl dX7_failure_131
                    · skip
                      replace c108 : ((ac : Nat) : Int) = ((4 : Nat) : Int) := (cv_eq (nI_toInt (by omega)) (nI_toInt (by omega))).mp c108
                      refine lv_aload_n hx hb dX7_failure_111 rfl (lv_at hl 0 rfl) ?_
                      refine r_get (v := .ref (b 4)) C G hX7 0 rfl rfl 7 (by decide) (by decide +kernel) rfl dX7_failure_112 ?_
                      refine lv_iload_n hx hb dX7_failure_115 rfl (lv_at hl 2 rfl) ?_
                      refine r_iald (v := nI ((F 3) j)) C G 4 0 rfl rfl j rfl (by omega) (by omega) rfl dX7_failure_116 ?_
                      refine lv_iconst (v := (nI (1))) hx hb dX7_failure_117 (by decide) ?_
                      refine lv_icmp_ne (tgt := 130) hx hb dX7_failure_118 (by decide) (fun c118 => ?_) (fun c118 => ?_)
                      · skip
                        replace c118 : ¬ (((F 3) j : Nat) : Int) = ((1 : Nat) : Int) := fun h => c118 ((cv_eq (nI_toInt (by omega)) (nI_toInt (by omega))).mpr h)
                        refine lv_iconst (v := (nI (0))) hx hb dX7_failure_130 (by decide) ?_
                        exact RET (nI (0)) (mW cI b I J F G0) _ _ ls _ _ _ (⟨congrArg nI (by unfold flN; split <;> (try split) <;> (try split) <;> (try split) <;> (try split) <;> omega), rfl⟩) G (by first | (simp only []; omega) | decide) (by first | (simp only []; omega) | decide) rfl dX7_failure_131
                      · skip
                        replace c118 : (((F 3) j : Nat) : Int) = ((1 : Nat) : Int) := (cv_eq (nI_toInt (by omega)) (nI_toInt (by omega))).mp c118
                        refine lv_iload_n hx hb dX7_failure_121 rfl (lv_at hl 3 rfl) ?_
                        refine lv_if_le (tgt := 130) hx hb dX7_failure_122 (by decide) (fun c122 => ?_) (fun c122 => ?_)
                        · skip
                          replace c122 : (v).toInt ≤ (0) := (cv_le rfl (by decide)).mp c122
                          refine lv_iconst (v := (nI (0))) hx hb dX7_failure_130 (by decide) ?_
                          exact RET (nI (0)) (mW cI b I J F G0) _ _ ls _ _ _ (⟨congrArg nI (by unfold flN; split <;> (try split) <;> (try split) <;> (try split) <;> (try split) <;> omega), rfl⟩) G (by first | (simp only []; omega) | decide) (by first | (simp only []; omega) | decide) rfl dX7_failure_131
                        · skip
                          replace c122 : (0) < (v).toInt := Int.not_le.mp (fun h => c122 ((cv_le rfl (by decide)).mpr h))
                          refine lv_bipush (v := (nI (6))) hx hb dX7_failure_125 (by decide) ?_
                          refine lv_goto (tgt := 131) hx hb dX7_failure_127 (by decide) ?_
                          exact RET (nI (6)) (mW cI b I J F G0) _ _ ls _ _ _ (⟨congrArg nI (by unfold flN; split <;> (try split) <;> (try split) <;> (try split) <;> (try split) <;> omega), rfl⟩) G (by first | (simp only []; omega) | decide) (by first | (simp only []; omega) | decide) rfl dX7_failure_131
                  · skip
                    replace c99 : ((ac : Nat) : Int) = ((2 : Nat) : Int) := (cv_eq (nI_toInt (by omega)) (nI_toInt (by omega))).mp c99
                    refine lv_iload_n hx hb dX7_failure_102 rfl (lv_at hl 3 rfl) ?_
                    refine lv_if_eq (tgt := 125) hx hb dX7_failure_103 (by decide) (fun c103 => ?_) (fun c103 => ?_)
                    · skip
                      replace c103 : (v).toInt = (0) := (cv_eq rfl (by decide)).mp c103
                      refine lv_bipush (v := (nI (6))) hx hb dX7_failure_125 (by decide) ?_
                      refine lv_goto (tgt := 131) hx hb dX7_failure_127 (by decide) ?_
                      exact RET (nI (6)) (mW cI b I J F G0) _ _ ls _ _ _ (⟨congrArg nI (by unfold flN; split <;> (try split) <;> (try split) <;> (try split) <;> (try split) <;> omega), rfl⟩) G (by first | (simp only []; omega) | decide) (by first | (simp only []; omega) | decide) rfl dX7_failure_131
                    · skip
                      replace c103 : ¬ (v).toInt = (0) := fun h => c103 ((cv_eq rfl (by decide)).mpr h)
                      refine lv_iload_n hx hb dX7_failure_106 rfl (lv_at hl 1 rfl) ?_
                      refine lv_iconst (v := (nI (4))) hx hb dX7_failure_107 (by decide) ?_
                      refine lv_icmp_ne (tgt := 130) hx hb dX7_failure_108 (by decide) (fun c108 => ?_) (fun c108 => ?_)
                      · skip
                        replace c108 : ¬ ((ac : Nat) : Int) = ((4 : Nat) : Int) := fun h => c108 ((cv_eq (nI_toInt (by omega)) (nI_toInt (by omega))).mpr h)
                        refine lv_iconst (v := (nI (0))) hx hb dX7_failure_130 (by decide) ?_
                        exact RET (nI (0)) (mW cI b I J F G0) _ _ ls _ _ _ (⟨congrArg nI (by unfold flN; split <;> (try split) <;> (try split) <;> (try split) <;> (try split) <;> omega), rfl⟩) G (by first | (simp only []; omega) | decide) (by first | (simp only []; omega) | decide) rfl dX7_failure_131
                      · skip
                        replace c108 : ((ac : Nat) : Int) = ((4 : Nat) : Int) := (cv_eq (nI_toInt (by omega)) (nI_toInt (by omega))).mp c108
                        refine lv_aload_n hx hb dX7_failure_111 rfl (lv_at hl 0 rfl) ?_
                        refine r_get (v := .ref (b 4)) C G hX7 0 rfl rfl 7 (by decide) (by decide +kernel) rfl dX7_failure_112 ?_
                        refine lv_iload_n hx hb dX7_failure_115 rfl (lv_at hl 2 rfl) ?_
                        refine r_iald (v := nI ((F 3) j)) C G 4 0 rfl rfl j rfl (by omega) (by omega) rfl dX7_failure_116 ?_
                        refine lv_iconst (v := (nI (1))) hx hb dX7_failure_117 (by decide) ?_
                        refine lv_icmp_ne (tgt := 130) hx hb dX7_failure_118 (by decide) (fun c118 => ?_) (fun c118 => ?_)
                        · skip
                          replace c118 : ¬ (((F 3) j : Nat) : Int) = ((1 : Nat) : Int) := fun h => c118 ((cv_eq (nI_toInt (by omega)) (nI_toInt (by omega))).mpr h)
                          refine lv_iconst (v := (nI (0))) hx hb dX7_failure_130 (by decide) ?_
                          exact RET (nI (0)) (mW cI b I J F G0) _ _ ls _ _ _ (⟨congrArg nI (by unfold flN; split <;> (try split) <;> (try split) <;> (try split) <;> (try split) <;> omega), rfl⟩) G (by first | (simp only []; omega) | decide) (by first | (simp only []; omega) | decide) rfl dX7_failure_131
                        · skip
                          replace c118 : (((F 3) j : Nat) : Int) = ((1 : Nat) : Int) := (cv_eq (nI_toInt (by omega)) (nI_toInt (by omega))).mp c118
                          refine lv_iload_n hx hb dX7_failure_121 rfl (lv_at hl 3 rfl) ?_
                          refine lv_if_le (tgt := 130) hx hb dX7_failure_122 (by decide) (fun c122 => ?_) (fun c122 => ?_)
                          · skip
                            replace c122 : (v).toInt ≤ (0) := (cv_le rfl (by decide)).mp c122
                            refine lv_iconst (v := (nI (0))) hx hb dX7_failure_130 (by decide) ?_
                            exact RET (nI (0)) (mW cI b I J F G0) _ _ ls _ _ _ (⟨congrArg nI (by unfold flN; split <;> (try split) <;> (try split) <;> (try split) <;> (try split) <;> omega), rfl⟩) G (by first | (simp only []; omega) | decide) (by first | (simp only []; omega) | decide) rfl dX7_failure_131
                          · skip
                            replace c122 : (0) < (v).toInt := Int.not_le.mp (fun h => c122 ((cv_le rfl (by decide)).mpr h))
                            refine lv_bipush (v := (nI (6))) hx hb dX7_failure_125 (by decide) ?_
                            refine lv_goto (tgt := 131) hx hb dX7_failure_127 (by decide) ?_
                            exact RET (nI (6)) (mW cI b I J F G0) _ _ ls _ _ _ (⟨congrArg nI (by unfold flN; split <;> (try split) <;> (try split) <;> (try split) <;> (try split) <;> omega), rfl⟩) G (by first | (simp only []; omega) | decide) (by first | (simp only []; omega) | decide) rfl dX7_failure_131
                · skip
                  replace c92 : (v).toInt < (0) := Int.not_le.mp (fun h => c92 ((cv_le (by decide) rfl).mpr h))
                  refine lv_iconst (v := (nI (5))) hx hb dX7_failure_95 (by decide) ?_
                  exact RET (nI (5)) (mW cI b I J F G0) _ _ ls _ _ _ (⟨congrArg nI (by unfold flN; split <;> (try split) <;> (try split) <;> (try split) <;> (try split) <;> omega), rfl⟩) G (by first | (simp only []; omega) | decide) (by first | (simp only []; omega) | decide) rfl dX7_failure_96
            · skip
              replace c68 : ((ac : Nat) : Int) = ((4 : Nat) : Int) := (cv_eq (nI_toInt (by omega)) (nI_toInt (by omega))).mp c68
              refine lv_aload_n hx hb dX7_failure_71 rfl (lv_at hl 0 rfl) ?_
              refine r_get (v := .ref (b 4)) C G hX7 0 rfl rfl 7 (by decide) (by decide +kernel) rfl dX7_failure_72 ?_
              refine lv_iload_n hx hb dX7_failure_75 rfl (lv_at hl 2 rfl) ?_
              refine r_iald (v := nI ((F 3) j)) C G 4 0 rfl rfl j rfl (by omega) (by omega) rfl dX7_failure_76 ?_
              refine lv_if_ne (tgt := 86) hx hb dX7_failure_77 (by decide) (fun c77 => ?_) (fun c77 => ?_)
              · skip
                replace c77 : ¬ (((F 3) j : Nat) : Int) = (0) := fun h => c77 ((cv_eq (nI_toInt (by omega)) (by decide)).mpr h)
                refine lv_iload_n hx hb dX7_failure_86 rfl (lv_at hl 1 rfl) ?_
                refine lv_iconst (v := (nI (1))) hx hb dX7_failure_87 (by decide) ?_
                refine lv_icmp_ne (tgt := 97) hx hb dX7_failure_88 (by decide) (fun c88 => ?_) (fun c88 => ?_)
                · skip
                  replace c88 : ¬ ((ac : Nat) : Int) = ((1 : Nat) : Int) := fun h => c88 ((cv_eq (nI_toInt (by omega)) (nI_toInt (by omega))).mpr h)
                  refine lv_iload_n hx hb dX7_failure_97 rfl (lv_at hl 1 rfl) ?_
                  refine lv_iconst (v := (nI (2))) hx hb dX7_failure_98 (by decide) ?_
                  refine lv_icmp_ne (tgt := 106) hx hb dX7_failure_99 (by decide) (fun c99 => ?_) (fun c99 => ?_)
                  · skip
                    replace c99 : ¬ ((ac : Nat) : Int) = ((2 : Nat) : Int) := fun h => c99 ((cv_eq (nI_toInt (by omega)) (nI_toInt (by omega))).mpr h)
                    refine lv_iload_n hx hb dX7_failure_106 rfl (lv_at hl 1 rfl) ?_
                    refine lv_iconst (v := (nI (4))) hx hb dX7_failure_107 (by decide) ?_
                    refine lv_icmp_ne (tgt := 130) hx hb dX7_failure_108 (by decide) (fun c108 => ?_) (fun c108 => ?_)
                    · skip
                      replace c108 : ¬ ((ac : Nat) : Int) = ((4 : Nat) : Int) := fun h => c108 ((cv_eq (nI_toInt (by omega)) (nI_toInt (by omega))).mpr h)
                      refine lv_iconst (v := (nI (0))) hx hb dX7_failure_130 (by decide) ?_
                      exact RET (nI (0)) (mW cI b I J F G0) _ _ ls _ _ _ (⟨congrArg nI (by unfold flN; split <;> (try split) <;> (try split) <;> (try split) <;> (try split) <;> omega), rfl⟩) G (by first | (simp only []; omega) | decide) (by first | (simp only []; omega) | decide) rfl dX7_failure_131
                    · skip
                      replace c108 : ((ac : Nat) : Int) = ((4 : Nat) : Int) := (cv_eq (nI_toInt (by omega)) (nI_toInt (by omega))).mp c108
                      refine lv_aload_n hx hb dX7_failure_111 rfl (lv_at hl 0 rfl) ?_
                      refine r_get (v := .ref (b 4)) C G hX7 0 rfl rfl 7 (by decide) (by decide +kernel) rfl dX7_failure_112 ?_
                      refine lv_iload_n hx hb dX7_failure_115 rfl (lv_at hl 2 rfl) ?_
                      refine r_iald (v := nI ((F 3) j)) C G 4 0 rfl rfl j rfl (by omega) (by omega) rfl dX7_failure_116 ?_
                      refine lv_iconst (v := (nI (1))) hx hb dX7_failure_117 (by decide) ?_
                      refine lv_icmp_ne (tgt := 130) hx hb dX7_failure_118 (by decide) (fun c118 => ?_) (fun c118 => ?_)
                      · skip
                        replace c118 : ¬ (((F 3) j : Nat) : Int) = ((1 : Nat) : Int) := fun h => c118 ((cv_eq (nI_toInt (by omega)) (nI_toInt (by omega))).mpr h)
                        refine lv_iconst (v := (nI (0))) hx hb dX7_failure_130 (by decide) ?_
                        exact RET (nI (0)) (mW cI b I J F G0) _ _ ls _ _ _ (⟨congrArg nI (by unfold flN; split <;> (try split) <;> (try split) <;> (try split) <;> (try split) <;> omega), rfl⟩) G (by first | (simp only []; omega) | decide) (by first | (simp only []; omega) | decide) rfl dX7_failure_131
                      · skip
                        replace c118 : (((F 3) j : Nat) : Int) = ((1 : Nat) : Int) := (cv_eq (nI_toInt (by omega)) (nI_toInt (by omega))).mp c118
                        refine lv_iload_n hx hb dX7_failure_121 rfl (lv_at hl 3 rfl) ?_
                        refine lv_if_le (tgt := 130) hx hb dX7_failure_122 (by decide) (fun c122 => ?_) (fun c122 => ?_)
                        · skip
                          replace c122 : (v).toInt ≤ (0) := (cv_le rfl (by decide)).mp c122
                          refine lv_iconst (v := (nI (0))) hx hb dX7_failure_130 (by decide) ?_
                          exact RET (nI (0)) (mW cI b I J F G0) _ _ ls _ _ _ (⟨congrArg nI (by unfold flN; split <;> (try split) <;> (try split) <;> (try split) <;> (try split) <;> omega), rfl⟩) G (by first | (simp only []; omega) | decide) (by first | (simp only []; omega) | decide) rfl dX7_failure_131
                        · skip
                          replace c122 : (0) < (v).toInt := Int.not_le.mp (fun h => c122 ((cv_le rfl (by decide)).mpr h))
                          refine lv_bipush (v := (nI (6))) hx hb dX7_failure_125 (by decide) ?_
                          refine lv_goto (tgt := 131) hx hb dX7_failure_127 (by decide) ?_
                          exact RET (nI (6)) (mW cI b I J F G0) _ _ ls _ _ _ (⟨congrArg nI (by unfold flN; split <;> (try split) <;> (try split) <;> (try split) <;> (try split) <;> omega), rfl⟩) G (by first | (simp only []; omega) | decide) (by first | (simp only []; omega) | decide) rfl dX7_failure_131
                  · skip
                    replace c99 : ((ac : Nat) : Int) = ((2 : Nat) : Int) := (cv_eq (nI_toInt (by omega)) (nI_toInt (by omega))).mp c99
                    refine lv_iload_n hx hb dX7_failure_102 rfl (lv_at hl 3 rfl) ?_
                    refine lv_if_eq (tgt := 125) hx hb dX7_failure_103 (by decide) (fun c103 => ?_) (fun c103 => ?_)
                    · skip
                      replace c103 : (v).toInt = (0) := (cv_eq rfl (by decide)).mp c103
                      refine lv_bipush (v := (nI (6))) hx hb dX7_failure_125 (by decide) ?_
                      refine lv_goto (tgt := 131) hx hb dX7_failure_127 (by decide) ?_
                      exact RET (nI (6)) (mW cI b I J F G0) _ _ ls _ _ _ (⟨congrArg nI (by unfold flN; split <;> (try split) <;> (try split) <;> (try split) <;> (try split) <;> omega), rfl⟩) G (by first | (simp only []; omega) | decide) (by first | (simp only []; omega) | decide) rfl dX7_failure_131
                    · skip
                      replace c103 : ¬ (v).toInt = (0) := fun h => c103 ((cv_eq rfl (by decide)).mpr h)
                      refine lv_iload_n hx hb dX7_failure_106 rfl (lv_at hl 1 rfl) ?_
                      refine lv_iconst (v := (nI (4))) hx hb dX7_failure_107 (by decide) ?_
                      refine lv_icmp_ne (tgt := 130) hx hb dX7_failure_108 (by decide) (fun c108 => ?_) (fun c108 => ?_)
                      · skip
                        replace c108 : ¬ ((ac : Nat) : Int) = ((4 : Nat) : Int) := fun h => c108 ((cv_eq (nI_toInt (by omega)) (nI_toInt (by omega))).mpr h)
                        refine lv_iconst (v := (nI (0))) hx hb dX7_failure_130 (by decide) ?_
                        exact RET (nI (0)) (mW cI b I J F G0) _ _ ls _ _ _ (⟨congrArg nI (by unfold flN; split <;> (try split) <;> (try split) <;> (try split) <;> (try split) <;> omega), rfl⟩) G (by first | (simp only []; omega) | decide) (by first | (simp only []; omega) | decide) rfl dX7_failure_131
                      · skip
                        replace c108 : ((ac : Nat) : Int) = ((4 : Nat) : Int) := (cv_eq (nI_toInt (by omega)) (nI_toInt (by omega))).mp c108
                        refine lv_aload_n hx hb dX7_failure_111 rfl (lv_at hl 0 rfl) ?_
                        refine r_get (v := .ref (b 4)) C G hX7 0 rfl rfl 7 (by decide) (by decide +kernel) rfl dX7_failure_112 ?_
                        refine lv_iload_n hx hb dX7_failure_115 rfl (lv_at hl 2 rfl) ?_
                        refine r_iald (v := nI ((F 3) j)) C G 4 0 rfl rfl j rfl (by omega) (by omega) rfl dX7_failure_116 ?_
                        refine lv_iconst (v := (nI (1))) hx hb dX7_failure_117 (by decide) ?_
                        refine lv_icmp_ne (tgt := 130) hx hb dX7_failure_118 (by decide) (fun c118 => ?_) (fun c118 => ?_)
                        · skip
                          replace c118 : ¬ (((F 3) j : Nat) : Int) = ((1 : Nat) : Int) := fun h => c118 ((cv_eq (nI_toInt (by omega)) (nI_toInt (by omega))).mpr h)
                          refine lv_iconst (v := (nI (0))) hx hb dX7_failure_130 (by decide) ?_
                          exact RET (nI (0)) (mW cI b I J F G0) _ _ ls _ _ _ (⟨congrArg nI (by unfold flN; split <;> (try split) <;> (try split) <;> (try split) <;> (try split) <;> omega), rfl⟩) G (by first | (simp only []; omega) | decide) (by first | (simp only []; omega) | decide) rfl dX7_failure_131
                        · skip
                          replace c118 : (((F 3) j : Nat) : Int) = ((1 : Nat) : Int) := (cv_eq (nI_toInt (by omega)) (nI_toInt (by omega))).mp c118
                          refine lv_iload_n hx hb dX7_failure_121 rfl (lv_at hl 3 rfl) ?_
                          refine lv_if_le (tgt := 130) hx hb dX7_failure_122 (by decide) (fun c122 => ?_) (fun c122 => ?_)
                          · skip
                            replace c122 : (v).toInt ≤ (0) := (cv_le rfl (by decide)).mp c122
                            refine lv_iconst (v := (nI (0))) hx hb dX7_failure_130 (by decide) ?_
                            exact RET (nI (0)) (mW cI b I J F G0) _ _ ls _ _ _ (⟨congrArg nI (by unfold flN; split <;> (try split) <;> (try split) <;> (try split) <;> (try split) <;> omega), rfl⟩) G (by first | (simp only []; omega) | decide) (by first | (simp only []; omega) | decide) rfl dX7_failure_131
                          · skip
                            replace c122 : (0) < (v).toInt := Int.not_le.mp (fun h => c122 ((cv_le rfl (by decide)).mpr h))
                            refine lv_bipush (v := (nI (6))) hx hb dX7_failure_125 (by decide) ?_
                            refine lv_goto (tgt := 131) hx hb dX7_failure_127 (by decide) ?_
                            exact RET (nI (6)) (mW cI b I J F G0) _ _ ls _ _ _ (⟨congrArg nI (by unfold flN; split <;> (try split) <;> (try split) <;> (try split) <;> (try split) <;> omega), rfl⟩) G (by first | (simp only []; omega) | decide) (by first | (simp only []; omega) | decide) rfl dX7_failure_131
                · skip
                  replace c88 : ((ac : Nat) : Int) = ((1 : Nat) : Int) := (cv_eq (nI_toInt (by omega)) (nI_toInt (by omega))).mp c88
                  refine lv_iload_n hx hb dX7_failure_91 rfl (lv_at hl 3 rfl) ?_
                  refine lv_if_ge (tgt := 97) hx hb dX7_failure_92 (by decide) (fun c92 => ?_) (fun c92 => ?_)
                  · skip
                    replace c92 : (0) ≤ (v).toInt := (cv_le (by decide) rfl).mp c92
                    refine lv_iload_n hx hb dX7_failure_97 rfl (lv_at hl 1 rfl) ?_
                    refine lv_iconst (v := (nI (2))) hx hb dX7_failure_98 (by decide) ?_
                    refine lv_icmp_ne (tgt := 106) hx hb dX7_failure_99 (by decide) (fun c99 => ?_) (fun c99 => ?_)
                    · skip
                      replace c99 : ¬ ((ac : Nat) : Int) = ((2 : Nat) : Int) := fun h => c99 ((cv_eq (nI_toInt (by omega)) (nI_toInt (by omega))).mpr h)
                      refine lv_iload_n hx hb dX7_failure_106 rfl (lv_at hl 1 rfl) ?_
                      refine lv_iconst (v := (nI (4))) hx hb dX7_failure_107 (by decide) ?_
                      refine lv_icmp_ne (tgt := 130) hx hb dX7_failure_108 (by decide) (fun c108 => ?_) (fun c108 => ?_)
                      · skip
                        replace c108 : ¬ ((ac : Nat) : Int) = ((4 : Nat) : Int) := fun h => c108 ((cv_eq (nI_toInt (by omega)) (nI_toInt (by omega))).mpr h)
                        refine lv_iconst (v := (nI (0))) hx hb dX7_failure_130 (by decide) ?_
                        exact RET (nI (0)) (mW cI b I J F G0) _ _ ls _ _ _ (⟨congrArg nI (by unfold flN; split <;> (try split) <;> (try split) <;> (try split) <;> (try split) <;> omega), rfl⟩) G (by first | (simp only []; omega) | decide) (by first | (simp only []; omega) | decide) rfl dX7_failure_131
                      · skip
                        replace c108 : ((ac : Nat) : Int) = ((4 : Nat) : Int) := (cv_eq (nI_toInt (by omega)) (nI_toInt (by omega))).mp c108
                        refine lv_aload_n hx hb dX7_failure_111 rfl (lv_at hl 0 rfl) ?_
                        refine r_get (v := .ref (b 4)) C G hX7 0 rfl rfl 7 (by decide) (by decide +kernel) rfl dX7_failure_112 ?_
                        refine lv_iload_n hx hb dX7_failure_115 rfl (lv_at hl 2 rfl) ?_
                        refine r_iald (v := nI ((F 3) j)) C G 4 0 rfl rfl j rfl (by omega) (by omega) rfl dX7_failure_116 ?_
                        refine lv_iconst (v := (nI (1))) hx hb dX7_failure_117 (by decide) ?_
                        refine lv_icmp_ne (tgt := 130) hx hb dX7_failure_118 (by decide) (fun c118 => ?_) (fun c118 => ?_)
                        · skip
                          replace c118 : ¬ (((F 3) j : Nat) : Int) = ((1 : Nat) : Int) := fun h => c118 ((cv_eq (nI_toInt (by omega)) (nI_toInt (by omega))).mpr h)
                          refine lv_iconst (v := (nI (0))) hx hb dX7_failure_130 (by decide) ?_
                          exact RET (nI (0)) (mW cI b I J F G0) _ _ ls _ _ _ (⟨congrArg nI (by unfold flN; split <;> (try split) <;> (try split) <;> (try split) <;> (try split) <;> omega), rfl⟩) G (by first | (simp only []; omega) | decide) (by first | (simp only []; omega) | decide) rfl dX7_failure_131
                        · skip
                          replace c118 : (((F 3) j : Nat) : Int) = ((1 : Nat) : Int) := (cv_eq (nI_toInt (by omega)) (nI_toInt (by omega))).mp c118
                          refine lv_iload_n hx hb dX7_failure_121 rfl (lv_at hl 3 rfl) ?_
                          refine lv_if_le (tgt := 130) hx hb dX7_failure_122 (by decide) (fun c122 => ?_) (fun c122 => ?_)
                          · skip
                            replace c122 : (v).toInt ≤ (0) := (cv_le rfl (by decide)).mp c122
                            refine lv_iconst (v := (nI (0))) hx hb dX7_failure_130 (by decide) ?_
                            exact RET (nI (0)) (mW cI b I J F G0) _ _ ls _ _ _ (⟨congrArg nI (by unfold flN; split <;> (try split) <;> (try split) <;> (try split) <;> (try split) <;> omega), rfl⟩) G (by first | (simp only []; omega) | decide) (by first | (simp only []; omega) | decide) rfl dX7_failure_131
                          · skip
                            replace c122 : (0) < (v).toInt := Int.not_le.mp (fun h => c122 ((cv_le rfl (by decide)).mpr h))
                            refine lv_bipush (v := (nI (6))) hx hb dX7_failure_125 (by decide) ?_
                            refine lv_goto (tgt := 131) hx hb dX7_failure_127 (by decide) ?_
                            exact RET (nI (6)) (mW cI b I J F G0) _ _ ls _ _ _ (⟨congrArg nI (by unfold flN; split <;> (try split) <;> (try split) <;> (try split) <;> (try split) <;> omega), rfl⟩) G (by first | (simp only []; omega) | decide) (by first | (simp only []; omega) | decide) rfl dX7_failure_131
                    · skip
                      replace c99 : ((ac : Nat) : Int) = ((2 : Nat) : Int) := (cv_eq (nI_toInt (by omega)) (nI_toInt (by omega))).mp c99
                      refine lv_iload_n hx hb dX7_failure_102 rfl (lv_at hl 3 rfl) ?_
                      refine lv_if_eq (tgt := 125) hx hb dX7_failure_103 (by decide) (fun c103 => ?_) (fun c103 => ?_)
                      · skip
                        replace c103 : (v).toInt = (0) := (cv_eq rfl (by decide)).mp c103
                        refine lv_bipush (v := (nI (6))) hx hb dX7_failure_125 (by decide) ?_
                        refine lv_goto (tgt := 131) hx hb dX7_failure_127 (by decide) ?_
                        exact RET (nI (6)) (mW cI b I J F G0) _ _ ls _ _ _ (⟨congrArg nI (by unfold flN; split <;> (try split) <;> (try split) <;> (try split) <;> (try split) <;> omega), rfl⟩) G (by first | (simp only []; omega) | decide) (by first | (simp only []; omega) | decide) rfl dX7_failure_131
                      · skip
                        replace c103 : ¬ (v).toInt = (0) := fun h => c103 ((cv_eq rfl (by decide)).mpr h)
                        refine lv_iload_n hx hb dX7_failure_106 rfl (lv_at hl 1 rfl) ?_
                        refine lv_iconst (v := (nI (4))) hx hb dX7_failure_107 (by decide) ?_
                        refine lv_icmp_ne (tgt := 130) hx hb dX7_failure_108 (by decide) (fun c108 => ?_) (fun c108 => ?_)
                        · skip
                          replace c108 : ¬ ((ac : Nat) : Int) = ((4 : Nat) : Int) := fun h => c108 ((cv_eq (nI_toInt (by omega)) (nI_toInt (by omega))).mpr h)
                          refine lv_iconst (v := (nI (0))) hx hb dX7_failure_130 (by decide) ?_
                          exact RET (nI (0)) (mW cI b I J F G0) _ _ ls _ _ _ (⟨congrArg nI (by unfold flN; split <;> (try split) <;> (try split) <;> (try split) <;> (try split) <;> omega), rfl⟩) G (by first | (simp only []; omega) | decide) (by first | (simp only []; omega) | decide) rfl dX7_failure_131
                        · skip
                          replace c108 : ((ac : Nat) : Int) = ((4 : Nat) : Int) := (cv_eq (nI_toInt (by omega)) (nI_toInt (by omega))).mp c108
                          refine lv_aload_n hx hb dX7_failure_111 rfl (lv_at hl 0 rfl) ?_
                          refine r_get (v := .ref (b 4)) C G hX7 0 rfl rfl 7 (by decide) (by decide +kernel) rfl dX7_failure_112 ?_
                          refine lv_iload_n hx hb dX7_failure_115 rfl (lv_at hl 2 rfl) ?_
                          refine r_iald (v := nI ((F 3) j)) C G 4 0 rfl rfl j rfl (by omega) (by omega) rfl dX7_failure_116 ?_
                          refine lv_iconst (v := (nI (1))) hx hb dX7_failure_117 (by decide) ?_
                          refine lv_icmp_ne (tgt := 130) hx hb dX7_failure_118 (by decide) (fun c118 => ?_) (fun c118 => ?_)
                          · skip
                            replace c118 : ¬ (((F 3) j : Nat) : Int) = ((1 : Nat) : Int) := fun h => c118 ((cv_eq (nI_toInt (by omega)) (nI_toInt (by omega))).mpr h)
                            refine lv_iconst (v := (nI (0))) hx hb dX7_failure_130 (by decide) ?_
                            exact RET (nI (0)) (mW cI b I J F G0) _ _ ls _ _ _ (⟨congrArg nI (by unfold flN; split <;> (try split) <;> (try split) <;> (try split) <;> (try split) <;> omega), rfl⟩) G (by first | (simp only []; omega) | decide) (by first | (simp only []; omega) | decide) rfl dX7_failure_131
                          · skip
                            replace c118 : (((F 3) j : Nat) : Int) = ((1 : Nat) : Int) := (cv_eq (nI_toInt (by omega)) (nI_toInt (by omega))).mp c118
                            refine lv_iload_n hx hb dX7_failure_121 rfl (lv_at hl 3 rfl) ?_
                            refine lv_if_le (tgt := 130) hx hb dX7_failure_122 (by decide) (fun c122 => ?_) (fun c122 => ?_)
                            · skip
                              replace c122 : (v).toInt ≤ (0) := (cv_le rfl (by decide)).mp c122
                              refine lv_iconst (v := (nI (0))) hx hb dX7_failure_130 (by decide) ?_
                              exact RET (nI (0)) (mW cI b I J F G0) _ _ ls _ _ _ (⟨congrArg nI (by unfold flN; split <;> (try split) <;> (try split) <;> (try split) <;> (try split) <;> omega), rfl⟩) G (by first | (simp only []; omega) | decide) (by first | (simp only []; omega) | decide) rfl dX7_failure_131
                            · skip
                              replace c122 : (0) < (v).toInt := Int.not_le.mp (fun h => c122 ((cv_le rfl (by decide)).mpr h))
                              refine lv_bipush (v := (nI (6))) hx hb dX7_failure_125 (by decide) ?_
                              refine lv_goto (tgt := 131) hx hb dX7_failure_127 (by decide) ?_
                              exact RET (nI (6)) (mW cI b I J F G0) _ _ ls _ _ _ (⟨congrArg nI (by unfold flN; split <;> (try split) <;> (try split) <;> (try split) <;> (try split) <;> omega), rfl⟩) G (by first | (simp only []; omega) | decide) (by first | (simp only []; omega) | decide) rfl dX7_failure_131
                  · skip
                    replace c92 : (v).toInt < (0) := Int.not_le.mp (fun h => c92 ((cv_le (by decide) rfl).mpr h))
                    refine lv_iconst (v := (nI (5))) hx hb dX7_failure_95 (by decide) ?_
                    exact RET (nI (5)) (mW cI b I J F G0) _ _ ls _ _ _ (⟨congrArg nI (by unfold flN; split <;> (try split) <;> (try split) <;> (try split) <;> (try split) <;> omega), rfl⟩) G (by first | (simp only []; omega) | decide) (by first | (simp only []; omega) | decide) rfl dX7_failure_96
              · skip
                replace c77 : (((F 3) j : Nat) : Int) = (0) := (cv_eq (nI_toInt (by omega)) (by decide)).mp c77
                refine lv_iload_n hx hb dX7_failure_80 rfl (lv_at hl 3 rfl) ?_
                refine lv_if_le (tgt := 86) hx hb dX7_failure_81 (by decide) (fun c81 => ?_) (fun c81 => ?_)
                · skip
                  replace c81 : (v).toInt ≤ (0) := (cv_le rfl (by decide)).mp c81
                  refine lv_iload_n hx hb dX7_failure_86 rfl (lv_at hl 1 rfl) ?_
                  refine lv_iconst (v := (nI (1))) hx hb dX7_failure_87 (by decide) ?_
                  refine lv_icmp_ne (tgt := 97) hx hb dX7_failure_88 (by decide) (fun c88 => ?_) (fun c88 => ?_)
                  · skip
                    replace c88 : ¬ ((ac : Nat) : Int) = ((1 : Nat) : Int) := fun h => c88 ((cv_eq (nI_toInt (by omega)) (nI_toInt (by omega))).mpr h)
                    refine lv_iload_n hx hb dX7_failure_97 rfl (lv_at hl 1 rfl) ?_
                    refine lv_iconst (v := (nI (2))) hx hb dX7_failure_98 (by decide) ?_
                    refine lv_icmp_ne (tgt := 106) hx hb dX7_failure_99 (by decide) (fun c99 => ?_) (fun c99 => ?_)
                    · skip
                      replace c99 : ¬ ((ac : Nat) : Int) = ((2 : Nat) : Int) := fun h => c99 ((cv_eq (nI_toInt (by omega)) (nI_toInt (by omega))).mpr h)
                      refine lv_iload_n hx hb dX7_failure_106 rfl (lv_at hl 1 rfl) ?_
                      refine lv_iconst (v := (nI (4))) hx hb dX7_failure_107 (by decide) ?_
                      refine lv_icmp_ne (tgt := 130) hx hb dX7_failure_108 (by decide) (fun c108 => ?_) (fun c108 => ?_)
                      · skip
                        replace c108 : ¬ ((ac : Nat) : Int) = ((4 : Nat) : Int) := fun h => c108 ((cv_eq (nI_toInt (by omega)) (nI_toInt (by omega))).mpr h)
                        refine lv_iconst (v := (nI (0))) hx hb dX7_failure_130 (by decide) ?_
                        exact RET (nI (0)) (mW cI b I J F G0) _ _ ls _ _ _ (⟨congrArg nI (by unfold flN; split <;> (try split) <;> (try split) <;> (try split) <;> (try split) <;> omega), rfl⟩) G (by first | (simp only []; omega) | decide) (by first | (simp only []; omega) | decide) rfl dX7_failure_131
                      · skip
                        replace c108 : ((ac : Nat) : Int) = ((4 : Nat) : Int) := (cv_eq (nI_toInt (by omega)) (nI_toInt (by omega))).mp c108
                        refine lv_aload_n hx hb dX7_failure_111 rfl (lv_at hl 0 rfl) ?_
                        refine r_get (v := .ref (b 4)) C G hX7 0 rfl rfl 7 (by decide) (by decide +kernel) rfl dX7_failure_112 ?_
                        refine lv_iload_n hx hb dX7_failure_115 rfl (lv_at hl 2 rfl) ?_
                        refine r_iald (v := nI ((F 3) j)) C G 4 0 rfl rfl j rfl (by omega) (by omega) rfl dX7_failure_116 ?_
                        refine lv_iconst (v := (nI (1))) hx hb dX7_failure_117 (by decide) ?_
                        refine lv_icmp_ne (tgt := 130) hx hb dX7_failure_118 (by decide) (fun c118 => ?_) (fun c118 => ?_)
                        · skip
                          replace c118 : ¬ (((F 3) j : Nat) : Int) = ((1 : Nat) : Int) := fun h => c118 ((cv_eq (nI_toInt (by omega)) (nI_toInt (by omega))).mpr h)
                          refine lv_iconst (v := (nI (0))) hx hb dX7_failure_130 (by decide) ?_
                          exact RET (nI (0)) (mW cI b I J F G0) _ _ ls _ _ _ (⟨congrArg nI (by unfold flN; split <;> (try split) <;> (try split) <;> (try split) <;> (try split) <;> omega), rfl⟩) G (by first | (simp only []; omega) | decide) (by first | (simp only []; omega) | decide) rfl dX7_failure_131
                        · skip
                          replace c118 : (((F 3) j : Nat) : Int) = ((1 : Nat) : Int) := (cv_eq (nI_toInt (by omega)) (nI_toInt (by omega))).mp c118
                          refine lv_iload_n hx hb dX7_failure_121 rfl (lv_at hl 3 rfl) ?_
                          refine lv_if_le (tgt := 130) hx hb dX7_failure_122 (by decide) (fun c122 => ?_) (fun c122 => ?_)
                          · skip
                            replace c122 : (v).toInt ≤ (0) := (cv_le rfl (by decide)).mp c122
                            refine lv_iconst (v := (nI (0))) hx hb dX7_failure_130 (by decide) ?_
                            exact RET (nI (0)) (mW cI b I J F G0) _ _ ls _ _ _ (⟨congrArg nI (by unfold flN; split <;> (try split) <;> (try split) <;> (try split) <;> (try split) <;> omega), rfl⟩) G (by first | (simp only []; omega) | decide) (by first | (simp only []; omega) | decide) rfl dX7_failure_131
                          · skip
                            replace c122 : (0) < (v).toInt := Int.not_le.mp (fun h => c122 ((cv_le rfl (by decide)).mpr h))
                            refine lv_bipush (v := (nI (6))) hx hb dX7_failure_125 (by decide) ?_
                            refine lv_goto (tgt := 131) hx hb dX7_failure_127 (by decide) ?_
                            exact RET (nI (6)) (mW cI b I J F G0) _ _ ls _ _ _ (⟨congrArg nI (by unfold flN; split <;> (try split) <;> (try split) <;> (try split) <;> (try split) <;> omega), rfl⟩) G (by first | (simp only []; omega) | decide) (by first | (simp only []; omega) | decide) rfl dX7_failure_131
                    · skip
                      replace c99 : ((ac : Nat) : Int) = ((2 : Nat) : Int) := (cv_eq (nI_toInt (by omega)) (nI_toInt (by omega))).mp c99
                      refine lv_iload_n hx hb dX7_failure_102 rfl (lv_at hl 3 rfl) ?_
                      refine lv_if_eq (tgt := 125) hx hb dX7_failure_103 (by decide) (fun c103 => ?_) (fun c103 => ?_)
                      · skip
                        replace c103 : (v).toInt = (0) := (cv_eq rfl (by decide)).mp c103
                        refine lv_bipush (v := (nI (6))) hx hb dX7_failure_125 (by decide) ?_
                        refine lv_goto (tgt := 131) hx hb dX7_failure_127 (by decide) ?_
                        exact RET (nI (6)) (mW cI b I J F G0) _ _ ls _ _ _ (⟨congrArg nI (by unfold flN; split <;> (try split) <;> (try split) <;> (try split) <;> (try split) <;> omega), rfl⟩) G (by first | (simp only []; omega) | decide) (by first | (simp only []; omega) | decide) rfl dX7_failure_131
                      · skip
                        replace c103 : ¬ (v).toInt = (0) := fun h => c103 ((cv_eq rfl (by decide)).mpr h)
                        refine lv_iload_n hx hb dX7_failure_106 rfl (lv_at hl 1 rfl) ?_
                        refine lv_iconst (v := (nI (4))) hx hb dX7_failure_107 (by decide) ?_
                        refine lv_icmp_ne (tgt := 130) hx hb dX7_failure_108 (by decide) (fun c108 => ?_) (fun c108 => ?_)
                        · skip
                          replace c108 : ¬ ((ac : Nat) : Int) = ((4 : Nat) : Int) := fun h => c108 ((cv_eq (nI_toInt (by omega)) (nI_toInt (by omega))).mpr h)
                          refine lv_iconst (v := (nI (0))) hx hb dX7_failure_130 (by decide) ?_
                          exact RET (nI (0)) (mW cI b I J F G0) _ _ ls _ _ _ (⟨congrArg nI (by unfold flN; split <;> (try split) <;> (try split) <;> (try split) <;> (try split) <;> omega), rfl⟩) G (by first | (simp only []; omega) | decide) (by first | (simp only []; omega) | decide) rfl dX7_failure_131
                        · skip
                          replace c108 : ((ac : Nat) : Int) = ((4 : Nat) : Int) := (cv_eq (nI_toInt (by omega)) (nI_toInt (by omega))).mp c108
                          refine lv_aload_n hx hb dX7_failure_111 rfl (lv_at hl 0 rfl) ?_
                          refine r_get (v := .ref (b 4)) C G hX7 0 rfl rfl 7 (by decide) (by decide +kernel) rfl dX7_failure_112 ?_
                          refine lv_iload_n hx hb dX7_failure_115 rfl (lv_at hl 2 rfl) ?_
                          refine r_iald (v := nI ((F 3) j)) C G 4 0 rfl rfl j rfl (by omega) (by omega) rfl dX7_failure_116 ?_
                          refine lv_iconst (v := (nI (1))) hx hb dX7_failure_117 (by decide) ?_
                          refine lv_icmp_ne (tgt := 130) hx hb dX7_failure_118 (by decide) (fun c118 => ?_) (fun c118 => ?_)
                          · skip
                            replace c118 : ¬ (((F 3) j : Nat) : Int) = ((1 : Nat) : Int) := fun h => c118 ((cv_eq (nI_toInt (by omega)) (nI_toInt (by omega))).mpr h)
                            refine lv_iconst (v := (nI (0))) hx hb dX7_failure_130 (by decide) ?_
                            exact RET (nI (0)) (mW cI b I J F G0) _ _ ls _ _ _ (⟨congrArg nI (by unfold flN; split <;> (try split) <;> (try split) <;> (try split) <;> (try split) <;> omega), rfl⟩) G (by first | (simp only []; omega) | decide) (by first | (simp only []; omega) | decide) rfl dX7_failure_131
                          · skip
                            replace c118 : (((F 3) j : Nat) : Int) = ((1 : Nat) : Int) := (cv_eq (nI_toInt (by omega)) (nI_toInt (by omega))).mp c118
                            refine lv_iload_n hx hb dX7_failure_121 rfl (lv_at hl 3 rfl) ?_
                            refine lv_if_le (tgt := 130) hx hb dX7_failure_122 (by decide) (fun c122 => ?_) (fun c122 => ?_)
                            · skip
                              replace c122 : (v).toInt ≤ (0) := (cv_le rfl (by decide)).mp c122
                              refine lv_iconst (v := (nI (0))) hx hb dX7_failure_130 (by decide) ?_
                              exact RET (nI (0)) (mW cI b I J F G0) _ _ ls _ _ _ (⟨congrArg nI (by unfold flN; split <;> (try split) <;> (try split) <;> (try split) <;> (try split) <;> omega), rfl⟩) G (by first | (simp only []; omega) | decide) (by first | (simp only []; omega) | decide) rfl dX7_failure_131
                            · skip
                              replace c122 : (0) < (v).toInt := Int.not_le.mp (fun h => c122 ((cv_le rfl (by decide)).mpr h))
                              refine lv_bipush (v := (nI (6))) hx hb dX7_failure_125 (by decide) ?_
                              refine lv_goto (tgt := 131) hx hb dX7_failure_127 (by decide) ?_
                              exact RET (nI (6)) (mW cI b I J F G0) _ _ ls _ _ _ (⟨congrArg nI (by unfold flN; split <;> (try split) <;> (try split) <;> (try split) <;> (try split) <;> omega), rfl⟩) G (by first | (simp only []; omega) | decide) (by first | (simp only []; omega) | decide) rfl dX7_failure_131
                  · skip
                    replace c88 : ((ac : Nat) : Int) = ((1 : Nat) : Int) := (cv_eq (nI_toInt (by omega)) (nI_toInt (by omega))).mp c88
                    refine lv_iload_n hx hb dX7_failure_91 rfl (lv_at hl 3 rfl) ?_
                    refine lv_if_ge (tgt := 97) hx hb dX7_failure_92 (by decide) (fun c92 => ?_) (fun c92 => ?_)
                    · skip
                      replace c92 : (0) ≤ (v).toInt := (cv_le (by decide) rfl).mp c92
                      refine lv_iload_n hx hb dX7_failure_97 rfl (lv_at hl 1 rfl) ?_
                      refine lv_iconst (v := (nI (2))) hx hb dX7_failure_98 (by decide) ?_
                      refine lv_icmp_ne (tgt := 106) hx hb dX7_failure_99 (by decide) (fun c99 => ?_) (fun c99 => ?_)
                      · skip
                        replace c99 : ¬ ((ac : Nat) : Int) = ((2 : Nat) : Int) := fun h => c99 ((cv_eq (nI_toInt (by omega)) (nI_toInt (by omega))).mpr h)
                        refine lv_iload_n hx hb dX7_failure_106 rfl (lv_at hl 1 rfl) ?_
                        refine lv_iconst (v := (nI (4))) hx hb dX7_failure_107 (by decide) ?_
                        refine lv_icmp_ne (tgt := 130) hx hb dX7_failure_108 (by decide) (fun c108 => ?_) (fun c108 => ?_)
                        · skip
                          replace c108 : ¬ ((ac : Nat) : Int) = ((4 : Nat) : Int) := fun h => c108 ((cv_eq (nI_toInt (by omega)) (nI_toInt (by omega))).mpr h)
                          refine lv_iconst (v := (nI (0))) hx hb dX7_failure_130 (by decide) ?_
                          exact RET (nI (0)) (mW cI b I J F G0) _ _ ls _ _ _ (⟨congrArg nI (by unfold flN; split <;> (try split) <;> (try split) <;> (try split) <;> (try split) <;> omega), rfl⟩) G (by first | (simp only []; omega) | decide) (by first | (simp only []; omega) | decide) rfl dX7_failure_131
                        · skip
                          replace c108 : ((ac : Nat) : Int) = ((4 : Nat) : Int) := (cv_eq (nI_toInt (by omega)) (nI_toInt (by omega))).mp c108
                          refine lv_aload_n hx hb dX7_failure_111 rfl (lv_at hl 0 rfl) ?_
                          refine r_get (v := .ref (b 4)) C G hX7 0 rfl rfl 7 (by decide) (by decide +kernel) rfl dX7_failure_112 ?_
                          refine lv_iload_n hx hb dX7_failure_115 rfl (lv_at hl 2 rfl) ?_
                          refine r_iald (v := nI ((F 3) j)) C G 4 0 rfl rfl j rfl (by omega) (by omega) rfl dX7_failure_116 ?_
                          refine lv_iconst (v := (nI (1))) hx hb dX7_failure_117 (by decide) ?_
                          refine lv_icmp_ne (tgt := 130) hx hb dX7_failure_118 (by decide) (fun c118 => ?_) (fun c118 => ?_)
                          · skip
                            replace c118 : ¬ (((F 3) j : Nat) : Int) = ((1 : Nat) : Int) := fun h => c118 ((cv_eq (nI_toInt (by omega)) (nI_toInt (by omega))).mpr h)
                            refine lv_iconst (v := (nI (0))) hx hb dX7_failure_130 (by decide) ?_
                            exact RET (nI (0)) (mW cI b I J F G0) _ _ ls _ _ _ (⟨congrArg nI (by unfold flN; split <;> (try split) <;> (try split) <;> (try split) <;> (try split) <;> omega), rfl⟩) G (by first | (simp only []; omega) | decide) (by first | (simp only []; omega) | decide) rfl dX7_failure_131
                          · skip
                            replace c118 : (((F 3) j : Nat) : Int) = ((1 : Nat) : Int) := (cv_eq (nI_toInt (by omega)) (nI_toInt (by omega))).mp c118
                            refine lv_iload_n hx hb dX7_failure_121 rfl (lv_at hl 3 rfl) ?_
                            refine lv_if_le (tgt := 130) hx hb dX7_failure_122 (by decide) (fun c122 => ?_) (fun c122 => ?_)
                            · skip
                              replace c122 : (v).toInt ≤ (0) := (cv_le rfl (by decide)).mp c122
                              refine lv_iconst (v := (nI (0))) hx hb dX7_failure_130 (by decide) ?_
                              exact RET (nI (0)) (mW cI b I J F G0) _ _ ls _ _ _ (⟨congrArg nI (by unfold flN; split <;> (try split) <;> (try split) <;> (try split) <;> (try split) <;> omega), rfl⟩) G (by first | (simp only []; omega) | decide) (by first | (simp only []; omega) | decide) rfl dX7_failure_131
                            · skip
                              replace c122 : (0) < (v).toInt := Int.not_le.mp (fun h => c122 ((cv_le rfl (by decide)).mpr h))
                              refine lv_bipush (v := (nI (6))) hx hb dX7_failure_125 (by decide) ?_
                              refine lv_goto (tgt := 131) hx hb dX7_failure_127 (by decide) ?_
                              exact RET (nI (6)) (mW cI b I J F G0) _ _ ls _ _ _ (⟨congrArg nI (by unfold flN; split <;> (try split) <;> (try split) <;> (try split) <;> (try split) <;> omega), rfl⟩) G (by first | (simp only []; omega) | decide) (by first | (simp only []; omega) | decide) rfl dX7_failure_131
                      · skip
                        replace c99 : ((ac : Nat) : Int) = ((2 : Nat) : Int) := (cv_eq (nI_toInt (by omega)) (nI_toInt (by omega))).mp c99
                        refine lv_iload_n hx hb dX7_failure_102 rfl (lv_at hl 3 rfl) ?_
                        refine lv_if_eq (tgt := 125) hx hb dX7_failure_103 (by decide) (fun c103 => ?_) (fun c103 => ?_)
                        · skip
                          replace c103 : (v).toInt = (0) := (cv_eq rfl (by decide)).mp c103
                          refine lv_bipush (v := (nI (6))) hx hb dX7_failure_125 (by decide) ?_
                          refine lv_goto (tgt := 131) hx hb dX7_failure_127 (by decide) ?_
                          exact RET (nI (6)) (mW cI b I J F G0) _ _ ls _ _ _ (⟨congrArg nI (by unfold flN; split <;> (try split) <;> (try split) <;> (try split) <;> (try split) <;> omega), rfl⟩) G (by first | (simp only []; omega) | decide) (by first | (simp only []; omega) | decide) rfl dX7_failure_131
                        · skip
                          replace c103 : ¬ (v).toInt = (0) := fun h => c103 ((cv_eq rfl (by decide)).mpr h)
                          refine lv_iload_n hx hb dX7_failure_106 rfl (lv_at hl 1 rfl) ?_
                          refine lv_iconst (v := (nI (4))) hx hb dX7_failure_107 (by decide) ?_
                          refine lv_icmp_ne (tgt := 130) hx hb dX7_failure_108 (by decide) (fun c108 => ?_) (fun c108 => ?_)
                          · skip
                            replace c108 : ¬ ((ac : Nat) : Int) = ((4 : Nat) : Int) := fun h => c108 ((cv_eq (nI_toInt (by omega)) (nI_toInt (by omega))).mpr h)
                            refine lv_iconst (v := (nI (0))) hx hb dX7_failure_130 (by decide) ?_
                            exact RET (nI (0)) (mW cI b I J F G0) _ _ ls _ _ _ (⟨congrArg nI (by unfold flN; split <;> (try split) <;> (try split) <;> (try split) <;> (try split) <;> omega), rfl⟩) G (by first | (simp only []; omega) | decide) (by first | (simp only []; omega) | decide) rfl dX7_failure_131
                          · skip
                            replace c108 : ((ac : Nat) : Int) = ((4 : Nat) : Int) := (cv_eq (nI_toInt (by omega)) (nI_toInt (by omega))).mp c108
                            refine lv_aload_n hx hb dX7_failure_111 rfl (lv_at hl 0 rfl) ?_
                            refine r_get (v := .ref (b 4)) C G hX7 0 rfl rfl 7 (by decide) (by decide +kernel) rfl dX7_failure_112 ?_
                            refine lv_iload_n hx hb dX7_failure_115 rfl (lv_at hl 2 rfl) ?_
                            refine r_iald (v := nI ((F 3) j)) C G 4 0 rfl rfl j rfl (by omega) (by omega) rfl dX7_failure_116 ?_
                            refine lv_iconst (v := (nI (1))) hx hb dX7_failure_117 (by decide) ?_
                            refine lv_icmp_ne (tgt := 130) hx hb dX7_failure_118 (by decide) (fun c118 => ?_) (fun c118 => ?_)
                            · skip
                              replace c118 : ¬ (((F 3) j : Nat) : Int) = ((1 : Nat) : Int) := fun h => c118 ((cv_eq (nI_toInt (by omega)) (nI_toInt (by omega))).mpr h)
                              refine lv_iconst (v := (nI (0))) hx hb dX7_failure_130 (by decide) ?_
                              exact RET (nI (0)) (mW cI b I J F G0) _ _ ls _ _ _ (⟨congrArg nI (by unfold flN; split <;> (try split) <;> (try split) <;> (try split) <;> (try split) <;> omega), rfl⟩) G (by first | (simp only []; omega) | decide) (by first | (simp only []; omega) | decide) rfl dX7_failure_131
                            · skip
                              replace c118 : (((F 3) j : Nat) : Int) = ((1 : Nat) : Int) := (cv_eq (nI_toInt (by omega)) (nI_toInt (by omega))).mp c118
                              refine lv_iload_n hx hb dX7_failure_121 rfl (lv_at hl 3 rfl) ?_
                              refine lv_if_le (tgt := 130) hx hb dX7_failure_122 (by decide) (fun c122 => ?_) (fun c122 => ?_)
                              · skip
                                replace c122 : (v).toInt ≤ (0) := (cv_le rfl (by decide)).mp c122
                                refine lv_iconst (v := (nI (0))) hx hb dX7_failure_130 (by decide) ?_
                                exact RET (nI (0)) (mW cI b I J F G0) _ _ ls _ _ _ (⟨congrArg nI (by unfold flN; split <;> (try split) <;> (try split) <;> (try split) <;> (try split) <;> omega), rfl⟩) G (by first | (simp only []; omega) | decide) (by first | (simp only []; omega) | decide) rfl dX7_failure_131
                              · skip
                                replace c122 : (0) < (v).toInt := Int.not_le.mp (fun h => c122 ((cv_le rfl (by decide)).mpr h))
                                refine lv_bipush (v := (nI (6))) hx hb dX7_failure_125 (by decide) ?_
                                refine lv_goto (tgt := 131) hx hb dX7_failure_127 (by decide) ?_
                                exact RET (nI (6)) (mW cI b I J F G0) _ _ ls _ _ _ (⟨congrArg nI (by unfold flN; split <;> (try split) <;> (try split) <;> (try split) <;> (try split) <;> omega), rfl⟩) G (by first | (simp only []; omega) | decide) (by first | (simp only []; omega) | decide) rfl dX7_failure_131
                    · skip
                      replace c92 : (v).toInt < (0) := Int.not_le.mp (fun h => c92 ((cv_le (by decide) rfl).mpr h))
                      refine lv_iconst (v := (nI (5))) hx hb dX7_failure_95 (by decide) ?_
                      exact RET (nI (5)) (mW cI b I J F G0) _ _ ls _ _ _ (⟨congrArg nI (by unfold flN; split <;> (try split) <;> (try split) <;> (try split) <;> (try split) <;> omega), rfl⟩) G (by first | (simp only []; omega) | decide) (by first | (simp only []; omega) | decide) rfl dX7_failure_96
                · skip
                  replace c81 : (0) < (v).toInt := Int.not_le.mp (fun h => c81 ((cv_le rfl (by decide)).mpr h))
                  refine lv_iconst (v := (nI (3))) hx hb dX7_failure_84 (by decide) ?_
                  exact RET (nI (3)) (mW cI b I J F G0) _ _ ls _ _ _ (⟨congrArg nI (by unfold flN; split <;> (try split) <;> (try split) <;> (try split) <;> (try split) <;> omega), rfl⟩) G (by first | (simp only []; omega) | decide) (by first | (simp only []; omega) | decide) rfl dX7_failure_85
          · skip
            replace c43 : ((ac : Nat) : Int) = ((1 : Nat) : Int) := (cv_eq (nI_toInt (by omega)) (nI_toInt (by omega))).mp c43
            refine lv_iload_n hx hb dX7_failure_46 rfl (lv_at hl 3 rfl) ?_
            refine lv_aload_n hx hb dX7_failure_47 rfl (lv_at hl 0 rfl) ?_
            refine r_get (v := .ref (b 5)) C G hX7 0 rfl rfl 8 (by decide) (by decide +kernel) rfl dX7_failure_48 ?_
            refine lv_iload_n hx hb dX7_failure_51 rfl (lv_at hl 2 rfl) ?_
            refine r_iald (v := nI ((F 4) j)) C G 5 0 rfl rfl j rfl (by omega) (by omega) rfl dX7_failure_52 ?_
            refine lv_icmp_gt (tgt := 84) hx hb dX7_failure_53 (by decide) (fun c53 => ?_) (fun c53 => ?_)
            · skip
              replace c53 : (((F 4) j : Nat) : Int) < (v).toInt := (cv_lt (nI_toInt (by omega)) rfl).mp c53
              refine lv_iconst (v := (nI (3))) hx hb dX7_failure_84 (by decide) ?_
              exact RET (nI (3)) (mW cI b I J F G0) _ _ ls _ _ _ (⟨congrArg nI (by unfold flN; split <;> (try split) <;> (try split) <;> (try split) <;> (try split) <;> omega), rfl⟩) G (by first | (simp only []; omega) | decide) (by first | (simp only []; omega) | decide) rfl dX7_failure_85
            · skip
              replace c53 : (v).toInt ≤ (((F 4) j : Nat) : Int) := Int.not_lt.mp (fun h => c53 ((cv_lt (nI_toInt (by omega)) rfl).mpr h))
              refine lv_iload_n hx hb dX7_failure_56 rfl (lv_at hl 3 rfl) ?_
              refine lv_aload_n hx hb dX7_failure_57 rfl (lv_at hl 0 rfl) ?_
              refine r_get (v := .ref (b 6)) C G hX7 0 rfl rfl 9 (by decide) (by decide +kernel) rfl dX7_failure_58 ?_
              refine lv_iload_n hx hb dX7_failure_61 rfl (lv_at hl 2 rfl) ?_
              refine r_iald (v := nI ((F 5) j)) C G 6 0 rfl rfl j rfl (by omega) (by omega) rfl dX7_failure_62 ?_
              refine lv_icmp_gt (tgt := 84) hx hb dX7_failure_63 (by decide) (fun c63 => ?_) (fun c63 => ?_)
              · skip
                replace c63 : (((F 5) j : Nat) : Int) < (v).toInt := (cv_lt (nI_toInt (by omega)) rfl).mp c63
                refine lv_iconst (v := (nI (3))) hx hb dX7_failure_84 (by decide) ?_
                exact RET (nI (3)) (mW cI b I J F G0) _ _ ls _ _ _ (⟨congrArg nI (by unfold flN; split <;> (try split) <;> (try split) <;> (try split) <;> (try split) <;> omega), rfl⟩) G (by first | (simp only []; omega) | decide) (by first | (simp only []; omega) | decide) rfl dX7_failure_85
              · skip
                replace c63 : (v).toInt ≤ (((F 5) j : Nat) : Int) := Int.not_lt.mp (fun h => c63 ((cv_lt (nI_toInt (by omega)) rfl).mpr h))
                refine lv_iload_n hx hb dX7_failure_66 rfl (lv_at hl 1 rfl) ?_
                refine lv_iconst (v := (nI (4))) hx hb dX7_failure_67 (by decide) ?_
                refine lv_icmp_ne (tgt := 86) hx hb dX7_failure_68 (by decide) (fun c68 => ?_) (fun c68 => ?_)
                · skip
                  replace c68 : ¬ ((ac : Nat) : Int) = ((4 : Nat) : Int) := fun h => c68 ((cv_eq (nI_toInt (by omega)) (nI_toInt (by omega))).mpr h)
                  refine lv_iload_n hx hb dX7_failure_86 rfl (lv_at hl 1 rfl) ?_
                  refine lv_iconst (v := (nI (1))) hx hb dX7_failure_87 (by decide) ?_
                  refine lv_icmp_ne (tgt := 97) hx hb dX7_failure_88 (by decide) (fun c88 => ?_) (fun c88 => ?_)
                  · skip
                    replace c88 : ¬ ((ac : Nat) : Int) = ((1 : Nat) : Int) := fun h => c88 ((cv_eq (nI_toInt (by omega)) (nI_toInt (by omega))).mpr h)
                    refine lv_iload_n hx hb dX7_failure_97 rfl (lv_at hl 1 rfl) ?_
                    refine lv_iconst (v := (nI (2))) hx hb dX7_failure_98 (by decide) ?_
                    refine lv_icmp_ne (tgt := 106) hx hb dX7_failure_99 (by decide) (fun c99 => ?_) (fun c99 => ?_)
                    · skip
                      replace c99 : ¬ ((ac : Nat) : Int) = ((2 : Nat) : Int) := fun h => c99 ((cv_eq (nI_toInt (by omega)) (nI_toInt (by omega))).mpr h)
                      refine lv_iload_n hx hb dX7_failure_106 rfl (lv_at hl 1 rfl) ?_
                      refine lv_iconst (v := (nI (4))) hx hb dX7_failure_107 (by decide) ?_
                      refine lv_icmp_ne (tgt := 130) hx hb dX7_failure_108 (by decide) (fun c108 => ?_) (fun c108 => ?_)
                      · skip
                        replace c108 : ¬ ((ac : Nat) : Int) = ((4 : Nat) : Int) := fun h => c108 ((cv_eq (nI_toInt (by omega)) (nI_toInt (by omega))).mpr h)
                        refine lv_iconst (v := (nI (0))) hx hb dX7_failure_130 (by decide) ?_
                        exact RET (nI (0)) (mW cI b I J F G0) _ _ ls _ _ _ (⟨congrArg nI (by unfold flN; split <;> (try split) <;> (try split) <;> (try split) <;> (try split) <;> omega), rfl⟩) G (by first | (simp only []; omega) | decide) (by first | (simp only []; omega) | decide) rfl dX7_failure_131
                      · skip
                        replace c108 : ((ac : Nat) : Int) = ((4 : Nat) : Int) := (cv_eq (nI_toInt (by omega)) (nI_toInt (by omega))).mp c108
                        refine lv_aload_n hx hb dX7_failure_111 rfl (lv_at hl 0 rfl) ?_
                        refine r_get (v := .ref (b 4)) C G hX7 0 rfl rfl 7 (by decide) (by decide +kernel) rfl dX7_failure_112 ?_
                        refine lv_iload_n hx hb dX7_failure_115 rfl (lv_at hl 2 rfl) ?_
                        refine r_iald (v := nI ((F 3) j)) C G 4 0 rfl rfl j rfl (by omega) (by omega) rfl dX7_failure_116 ?_
                        refine lv_iconst (v := (nI (1))) hx hb dX7_failure_117 (by decide) ?_
                        refine lv_icmp_ne (tgt := 130) hx hb dX7_failure_118 (by decide) (fun c118 => ?_) (fun c118 => ?_)
                        · skip
                          replace c118 : ¬ (((F 3) j : Nat) : Int) = ((1 : Nat) : Int) := fun h => c118 ((cv_eq (nI_toInt (by omega)) (nI_toInt (by omega))).mpr h)
                          refine lv_iconst (v := (nI (0))) hx hb dX7_failure_130 (by decide) ?_
                          exact RET (nI (0)) (mW cI b I J F G0) _ _ ls _ _ _ (⟨congrArg nI (by unfold flN; split <;> (try split) <;> (try split) <;> (try split) <;> (try split) <;> omega), rfl⟩) G (by first | (simp only []; omega) | decide) (by first | (simp only []; omega) | decide) rfl dX7_failure_131
                        · skip
                          replace c118 : (((F 3) j : Nat) : Int) = ((1 : Nat) : Int) := (cv_eq (nI_toInt (by omega)) (nI_toInt (by omega))).mp c118
                          refine lv_iload_n hx hb dX7_failure_121 rfl (lv_at hl 3 rfl) ?_
                          refine lv_if_le (tgt := 130) hx hb dX7_failure_122 (by decide) (fun c122 => ?_) (fun c122 => ?_)
                          · skip
                            replace c122 : (v).toInt ≤ (0) := (cv_le rfl (by decide)).mp c122
                            refine lv_iconst (v := (nI (0))) hx hb dX7_failure_130 (by decide) ?_
                            exact RET (nI (0)) (mW cI b I J F G0) _ _ ls _ _ _ (⟨congrArg nI (by unfold flN; split <;> (try split) <;> (try split) <;> (try split) <;> (try split) <;> omega), rfl⟩) G (by first | (simp only []; omega) | decide) (by first | (simp only []; omega) | decide) rfl dX7_failure_131
                          · skip
                            replace c122 : (0) < (v).toInt := Int.not_le.mp (fun h => c122 ((cv_le rfl (by decide)).mpr h))
                            refine lv_bipush (v := (nI (6))) hx hb dX7_failure_125 (by decide) ?_
                            refine lv_goto (tgt := 131) hx hb dX7_failure_127 (by decide) ?_
                            exact RET (nI (6)) (mW cI b I J F G0) _ _ ls _ _ _ (⟨congrArg nI (by unfold flN; split <;> (try split) <;> (try split) <;> (try split) <;> (try split) <;> omega), rfl⟩) G (by first | (simp only []; omega) | decide) (by first | (simp only []; omega) | decide) rfl dX7_failure_131
                    · skip
                      replace c99 : ((ac : Nat) : Int) = ((2 : Nat) : Int) := (cv_eq (nI_toInt (by omega)) (nI_toInt (by omega))).mp c99
                      refine lv_iload_n hx hb dX7_failure_102 rfl (lv_at hl 3 rfl) ?_
                      refine lv_if_eq (tgt := 125) hx hb dX7_failure_103 (by decide) (fun c103 => ?_) (fun c103 => ?_)
                      · skip
                        replace c103 : (v).toInt = (0) := (cv_eq rfl (by decide)).mp c103
                        refine lv_bipush (v := (nI (6))) hx hb dX7_failure_125 (by decide) ?_
                        refine lv_goto (tgt := 131) hx hb dX7_failure_127 (by decide) ?_
                        exact RET (nI (6)) (mW cI b I J F G0) _ _ ls _ _ _ (⟨congrArg nI (by unfold flN; split <;> (try split) <;> (try split) <;> (try split) <;> (try split) <;> omega), rfl⟩) G (by first | (simp only []; omega) | decide) (by first | (simp only []; omega) | decide) rfl dX7_failure_131
                      · skip
                        replace c103 : ¬ (v).toInt = (0) := fun h => c103 ((cv_eq rfl (by decide)).mpr h)
                        refine lv_iload_n hx hb dX7_failure_106 rfl (lv_at hl 1 rfl) ?_
                        refine lv_iconst (v := (nI (4))) hx hb dX7_failure_107 (by decide) ?_
                        refine lv_icmp_ne (tgt := 130) hx hb dX7_failure_108 (by decide) (fun c108 => ?_) (fun c108 => ?_)
                        · skip
                          replace c108 : ¬ ((ac : Nat) : Int) = ((4 : Nat) : Int) := fun h => c108 ((cv_eq (nI_toInt (by omega)) (nI_toInt (by omega))).mpr h)
                          refine lv_iconst (v := (nI (0))) hx hb dX7_failure_130 (by decide) ?_
                          exact RET (nI (0)) (mW cI b I J F G0) _ _ ls _ _ _ (⟨congrArg nI (by unfold flN; split <;> (try split) <;> (try split) <;> (try split) <;> (try split) <;> omega), rfl⟩) G (by first | (simp only []; omega) | decide) (by first | (simp only []; omega) | decide) rfl dX7_failure_131
                        · skip
                          replace c108 : ((ac : Nat) : Int) = ((4 : Nat) : Int) := (cv_eq (nI_toInt (by omega)) (nI_toInt (by omega))).mp c108
                          refine lv_aload_n hx hb dX7_failure_111 rfl (lv_at hl 0 rfl) ?_
                          refine r_get (v := .ref (b 4)) C G hX7 0 rfl rfl 7 (by decide) (by decide +kernel) rfl dX7_failure_112 ?_
                          refine lv_iload_n hx hb dX7_failure_115 rfl (lv_at hl 2 rfl) ?_
                          refine r_iald (v := nI ((F 3) j)) C G 4 0 rfl rfl j rfl (by omega) (by omega) rfl dX7_failure_116 ?_
                          refine lv_iconst (v := (nI (1))) hx hb dX7_failure_117 (by decide) ?_
                          refine lv_icmp_ne (tgt := 130) hx hb dX7_failure_118 (by decide) (fun c118 => ?_) (fun c118 => ?_)
                          · skip
                            replace c118 : ¬ (((F 3) j : Nat) : Int) = ((1 : Nat) : Int) := fun h => c118 ((cv_eq (nI_toInt (by omega)) (nI_toInt (by omega))).mpr h)
                            refine lv_iconst (v := (nI (0))) hx hb dX7_failure_130 (by decide) ?_
                            exact RET (nI (0)) (mW cI b I J F G0) _ _ ls _ _ _ (⟨congrArg nI (by unfold flN; split <;> (try split) <;> (try split) <;> (try split) <;> (try split) <;> omega), rfl⟩) G (by first | (simp only []; omega) | decide) (by first | (simp only []; omega) | decide) rfl dX7_failure_131
                          · skip
                            replace c118 : (((F 3) j : Nat) : Int) = ((1 : Nat) : Int) := (cv_eq (nI_toInt (by omega)) (nI_toInt (by omega))).mp c118
                            refine lv_iload_n hx hb dX7_failure_121 rfl (lv_at hl 3 rfl) ?_
                            refine lv_if_le (tgt := 130) hx hb dX7_failure_122 (by decide) (fun c122 => ?_) (fun c122 => ?_)
                            · skip
                              replace c122 : (v).toInt ≤ (0) := (cv_le rfl (by decide)).mp c122
                              refine lv_iconst (v := (nI (0))) hx hb dX7_failure_130 (by decide) ?_
                              exact RET (nI (0)) (mW cI b I J F G0) _ _ ls _ _ _ (⟨congrArg nI (by unfold flN; split <;> (try split) <;> (try split) <;> (try split) <;> (try split) <;> omega), rfl⟩) G (by first | (simp only []; omega) | decide) (by first | (simp only []; omega) | decide) rfl dX7_failure_131
                            · skip
                              replace c122 : (0) < (v).toInt := Int.not_le.mp (fun h => c122 ((cv_le rfl (by decide)).mpr h))
                              refine lv_bipush (v := (nI (6))) hx hb dX7_failure_125 (by decide) ?_
                              refine lv_goto (tgt := 131) hx hb dX7_failure_127 (by decide) ?_
                              exact RET (nI (6)) (mW cI b I J F G0) _ _ ls _ _ _ (⟨congrArg nI (by unfold flN; split <;> (try split) <;> (try split) <;> (try split) <;> (try split) <;> omega), rfl⟩) G (by first | (simp only []; omega) | decide) (by first | (simp only []; omega) | decide) rfl dX7_failure_131
                  · skip
                    replace c88 : ((ac : Nat) : Int) = ((1 : Nat) : Int) := (cv_eq (nI_toInt (by omega)) (nI_toInt (by omega))).mp c88
                    refine lv_iload_n hx hb dX7_failure_91 rfl (lv_at hl 3 rfl) ?_
                    refine lv_if_ge (tgt := 97) hx hb dX7_failure_92 (by decide) (fun c92 => ?_) (fun c92 => ?_)
                    · skip
                      replace c92 : (0) ≤ (v).toInt := (cv_le (by decide) rfl).mp c92
                      refine lv_iload_n hx hb dX7_failure_97 rfl (lv_at hl 1 rfl) ?_
                      refine lv_iconst (v := (nI (2))) hx hb dX7_failure_98 (by decide) ?_
                      refine lv_icmp_ne (tgt := 106) hx hb dX7_failure_99 (by decide) (fun c99 => ?_) (fun c99 => ?_)
                      · skip
                        replace c99 : ¬ ((ac : Nat) : Int) = ((2 : Nat) : Int) := fun h => c99 ((cv_eq (nI_toInt (by omega)) (nI_toInt (by omega))).mpr h)
                        refine lv_iload_n hx hb dX7_failure_106 rfl (lv_at hl 1 rfl) ?_
                        refine lv_iconst (v := (nI (4))) hx hb dX7_failure_107 (by decide) ?_
                        refine lv_icmp_ne (tgt := 130) hx hb dX7_failure_108 (by decide) (fun c108 => ?_) (fun c108 => ?_)
                        · skip
                          replace c108 : ¬ ((ac : Nat) : Int) = ((4 : Nat) : Int) := fun h => c108 ((cv_eq (nI_toInt (by omega)) (nI_toInt (by omega))).mpr h)
                          refine lv_iconst (v := (nI (0))) hx hb dX7_failure_130 (by decide) ?_
                          exact RET (nI (0)) (mW cI b I J F G0) _ _ ls _ _ _ (⟨congrArg nI (by unfold flN; split <;> (try split) <;> (try split) <;> (try split) <;> (try split) <;> omega), rfl⟩) G (by first | (simp only []; omega) | decide) (by first | (simp only []; omega) | decide) rfl dX7_failure_131
                        · skip
                          replace c108 : ((ac : Nat) : Int) = ((4 : Nat) : Int) := (cv_eq (nI_toInt (by omega)) (nI_toInt (by omega))).mp c108
                          refine lv_aload_n hx hb dX7_failure_111 rfl (lv_at hl 0 rfl) ?_
                          refine r_get (v := .ref (b 4)) C G hX7 0 rfl rfl 7 (by decide) (by decide +kernel) rfl dX7_failure_112 ?_
                          refine lv_iload_n hx hb dX7_failure_115 rfl (lv_at hl 2 rfl) ?_
                          refine r_iald (v := nI ((F 3) j)) C G 4 0 rfl rfl j rfl (by omega) (by omega) rfl dX7_failure_116 ?_
                          refine lv_iconst (v := (nI (1))) hx hb dX7_failure_117 (by decide) ?_
                          refine lv_icmp_ne (tgt := 130) hx hb dX7_failure_118 (by decide) (fun c118 => ?_) (fun c118 => ?_)
                          · skip
                            replace c118 : ¬ (((F 3) j : Nat) : Int) = ((1 : Nat) : Int) := fun h => c118 ((cv_eq (nI_toInt (by omega)) (nI_toInt (by omega))).mpr h)
                            refine lv_iconst (v := (nI (0))) hx hb dX7_failure_130 (by decide) ?_
                            exact RET (nI (0)) (mW cI b I J F G0) _ _ ls _ _ _ (⟨congrArg nI (by unfold flN; split <;> (try split) <;> (try split) <;> (try split) <;> (try split) <;> omega), rfl⟩) G (by first | (simp only []; omega) | decide) (by first | (simp only []; omega) | decide) rfl dX7_failure_131
                          · skip
                            replace c118 : (((F 3) j : Nat) : Int) = ((1 : Nat) : Int) := (cv_eq (nI_toInt (by omega)) (nI_toInt (by omega))).mp c118
                            refine lv_iload_n hx hb dX7_failure_121 rfl (lv_at hl 3 rfl) ?_
                            refine lv_if_le (tgt := 130) hx hb dX7_failure_122 (by decide) (fun c122 => ?_) (fun c122 => ?_)
                            · skip
                              replace c122 : (v).toInt ≤ (0) := (cv_le rfl (by decide)).mp c122
                              refine lv_iconst (v := (nI (0))) hx hb dX7_failure_130 (by decide) ?_
                              exact RET (nI (0)) (mW cI b I J F G0) _ _ ls _ _ _ (⟨congrArg nI (by unfold flN; split <;> (try split) <;> (try split) <;> (try split) <;> (try split) <;> omega), rfl⟩) G (by first | (simp only []; omega) | decide) (by first | (simp only []; omega) | decide) rfl dX7_failure_131
                            · skip
                              replace c122 : (0) < (v).toInt := Int.not_le.mp (fun h => c122 ((cv_le rfl (by decide)).mpr h))
                              refine lv_bipush (v := (nI (6))) hx hb dX7_failure_125 (by decide) ?_
                              refine lv_goto (tgt := 131) hx hb dX7_failure_127 (by decide) ?_
                              exact RET (nI (6)) (mW cI b I J F G0) _ _ ls _ _ _ (⟨congrArg nI (by unfold flN; split <;> (try split) <;> (try split) <;> (try split) <;> (try split) <;> omega), rfl⟩) G (by first | (simp only []; omega) | decide) (by first | (simp only []; omega) | decide) rfl dX7_failure_131
                      · skip
                        replace c99 : ((ac : Nat) : Int) = ((2 : Nat) : Int) := (cv_eq (nI_toInt (by omega)) (nI_toInt (by omega))).mp c99
                        refine lv_iload_n hx hb dX7_failure_102 rfl (lv_at hl 3 rfl) ?_
                        refine lv_if_eq (tgt := 125) hx hb dX7_failure_103 (by decide) (fun c103 => ?_) (fun c103 => ?_)
                        · skip
                          replace c103 : (v).toInt = (0) := (cv_eq rfl (by decide)).mp c103
                          refine lv_bipush (v := (nI (6))) hx hb dX7_failure_125 (by decide) ?_
                          refine lv_goto (tgt := 131) hx hb dX7_failure_127 (by decide) ?_
                          exact RET (nI (6)) (mW cI b I J F G0) _ _ ls _ _ _ (⟨congrArg nI (by unfold flN; split <;> (try split) <;> (try split) <;> (try split) <;> (try split) <;> omega), rfl⟩) G (by first | (simp only []; omega) | decide) (by first | (simp only []; omega) | decide) rfl dX7_failure_131
                        · skip
                          replace c103 : ¬ (v).toInt = (0) := fun h => c103 ((cv_eq rfl (by decide)).mpr h)
                          refine lv_iload_n hx hb dX7_failure_106 rfl (lv_at hl 1 rfl) ?_
                          refine lv_iconst (v := (nI (4))) hx hb dX7_failure_107 (by decide) ?_
                          refine lv_icmp_ne (tgt := 130) hx hb dX7_failure_108 (by decide) (fun c108 => ?_) (fun c108 => ?_)
                          · skip
                            replace c108 : ¬ ((ac : Nat) : Int) = ((4 : Nat) : Int) := fun h => c108 ((cv_eq (nI_toInt (by omega)) (nI_toInt (by omega))).mpr h)
                            refine lv_iconst (v := (nI (0))) hx hb dX7_failure_130 (by decide) ?_
                            exact RET (nI (0)) (mW cI b I J F G0) _ _ ls _ _ _ (⟨congrArg nI (by unfold flN; split <;> (try split) <;> (try split) <;> (try split) <;> (try split) <;> omega), rfl⟩) G (by first | (simp only []; omega) | decide) (by first | (simp only []; omega) | decide) rfl dX7_failure_131
                          · skip
                            replace c108 : ((ac : Nat) : Int) = ((4 : Nat) : Int) := (cv_eq (nI_toInt (by omega)) (nI_toInt (by omega))).mp c108
                            refine lv_aload_n hx hb dX7_failure_111 rfl (lv_at hl 0 rfl) ?_
                            refine r_get (v := .ref (b 4)) C G hX7 0 rfl rfl 7 (by decide) (by decide +kernel) rfl dX7_failure_112 ?_
                            refine lv_iload_n hx hb dX7_failure_115 rfl (lv_at hl 2 rfl) ?_
                            refine r_iald (v := nI ((F 3) j)) C G 4 0 rfl rfl j rfl (by omega) (by omega) rfl dX7_failure_116 ?_
                            refine lv_iconst (v := (nI (1))) hx hb dX7_failure_117 (by decide) ?_
                            refine lv_icmp_ne (tgt := 130) hx hb dX7_failure_118 (by decide) (fun c118 => ?_) (fun c118 => ?_)
                            · skip
                              replace c118 : ¬ (((F 3) j : Nat) : Int) = ((1 : Nat) : Int) := fun h => c118 ((cv_eq (nI_toInt (by omega)) (nI_toInt (by omega))).mpr h)
                              refine lv_iconst (v := (nI (0))) hx hb dX7_failure_130 (by decide) ?_
                              exact RET (nI (0)) (mW cI b I J F G0) _ _ ls _ _ _ (⟨congrArg nI (by unfold flN; split <;> (try split) <;> (try split) <;> (try split) <;> (try split) <;> omega), rfl⟩) G (by first | (simp only []; omega) | decide) (by first | (simp only []; omega) | decide) rfl dX7_failure_131
                            · skip
                              replace c118 : (((F 3) j : Nat) : Int) = ((1 : Nat) : Int) := (cv_eq (nI_toInt (by omega)) (nI_toInt (by omega))).mp c118
                              refine lv_iload_n hx hb dX7_failure_121 rfl (lv_at hl 3 rfl) ?_
                              refine lv_if_le (tgt := 130) hx hb dX7_failure_122 (by decide) (fun c122 => ?_) (fun c122 => ?_)
                              · skip
                                replace c122 : (v).toInt ≤ (0) := (cv_le rfl (by decide)).mp c122
                                refine lv_iconst (v := (nI (0))) hx hb dX7_failure_130 (by decide) ?_
                                exact RET (nI (0)) (mW cI b I J F G0) _ _ ls _ _ _ (⟨congrArg nI (by unfold flN; split <;> (try split) <;> (try split) <;> (try split) <;> (try split) <;> omega), rfl⟩) G (by first | (simp only []; omega) | decide) (by first | (simp only []; omega) | decide) rfl dX7_failure_131
                              · skip
                                replace c122 : (0) < (v).toInt := Int.not_le.mp (fun h => c122 ((cv_le rfl (by decide)).mpr h))
                                refine lv_bipush (v := (nI (6))) hx hb dX7_failure_125 (by decide) ?_
                                refine lv_goto (tgt := 131) hx hb dX7_failure_127 (by decide) ?_
                                exact RET (nI (6)) (mW cI b I J F G0) _ _ ls _ _ _ (⟨congrArg nI (by unfold flN; split <;> (try split) <;> (try split) <;> (try split) <;> (try split) <;> omega), rfl⟩) G (by first | (simp only []; omega) | decide) (by first | (simp only []; omega) | decide) rfl dX7_failure_131
                    · skip
                      replace c92 : (v).toInt < (0) := Int.not_le.mp (fun h => c92 ((cv_le (by decide) rfl).mpr h))
                      refine lv_iconst (v := (nI (5))) hx hb dX7_failure_95 (by decide) ?_
                      exact RET (nI (5)) (mW cI b I J F G0) _ _ ls _ _ _ (⟨congrArg nI (by unfold flN; split <;> (try split) <;> (try split) <;> (try split) <;> (try split) <;> omega), rfl⟩) G (by first | (simp only []; omega) | decide) (by first | (simp only []; omega) | decide) rfl dX7_failure_96
                · skip
                  replace c68 : ((ac : Nat) : Int) = ((4 : Nat) : Int) := (cv_eq (nI_toInt (by omega)) (nI_toInt (by omega))).mp c68
                  refine lv_aload_n hx hb dX7_failure_71 rfl (lv_at hl 0 rfl) ?_
                  refine r_get (v := .ref (b 4)) C G hX7 0 rfl rfl 7 (by decide) (by decide +kernel) rfl dX7_failure_72 ?_
                  refine lv_iload_n hx hb dX7_failure_75 rfl (lv_at hl 2 rfl) ?_
                  refine r_iald (v := nI ((F 3) j)) C G 4 0 rfl rfl j rfl (by omega) (by omega) rfl dX7_failure_76 ?_
                  refine lv_if_ne (tgt := 86) hx hb dX7_failure_77 (by decide) (fun c77 => ?_) (fun c77 => ?_)
                  · skip
                    replace c77 : ¬ (((F 3) j : Nat) : Int) = (0) := fun h => c77 ((cv_eq (nI_toInt (by omega)) (by decide)).mpr h)
                    refine lv_iload_n hx hb dX7_failure_86 rfl (lv_at hl 1 rfl) ?_
                    refine lv_iconst (v := (nI (1))) hx hb dX7_failure_87 (by decide) ?_
                    refine lv_icmp_ne (tgt := 97) hx hb dX7_failure_88 (by decide) (fun c88 => ?_) (fun c88 => ?_)
                    · skip
                      replace c88 : ¬ ((ac : Nat) : Int) = ((1 : Nat) : Int) := fun h => c88 ((cv_eq (nI_toInt (by omega)) (nI_toInt (by omega))).mpr h)
                      refine lv_iload_n hx hb dX7_failure_97 rfl (lv_at hl 1 rfl) ?_
                      refine lv_iconst (v := (nI (2))) hx hb dX7_failure_98 (by decide) ?_
                      refine lv_icmp_ne (tgt := 106) hx hb dX7_failure_99 (by decide) (fun c99 => ?_) (fun c99 => ?_)
                      · skip
                        replace c99 : ¬ ((ac : Nat) : Int) = ((2 : Nat) : Int) := fun h => c99 ((cv_eq (nI_toInt (by omega)) (nI_toInt (by omega))).mpr h)
                        refine lv_iload_n hx hb dX7_failure_106 rfl (lv_at hl 1 rfl) ?_
                        refine lv_iconst (v := (nI (4))) hx hb dX7_failure_107 (by decide) ?_
                        refine lv_icmp_ne (tgt := 130) hx hb dX7_failure_108 (by decide) (fun c108 => ?_) (fun c108 => ?_)
                        · skip
                          replace c108 : ¬ ((ac : Nat) : Int) = ((4 : Nat) : Int) := fun h => c108 ((cv_eq (nI_toInt (by omega)) (nI_toInt (by omega))).mpr h)
                          refine lv_iconst (v := (nI (0))) hx hb dX7_failure_130 (by decide) ?_
                          exact RET (nI (0)) (mW cI b I J F G0) _ _ ls _ _ _ (⟨congrArg nI (by unfold flN; split <;> (try split) <;> (try split) <;> (try split) <;> (try split) <;> omega), rfl⟩) G (by first | (simp only []; omega) | decide) (by first | (simp only []; omega) | decide) rfl dX7_failure_131
                        · skip
                          replace c108 : ((ac : Nat) : Int) = ((4 : Nat) : Int) := (cv_eq (nI_toInt (by omega)) (nI_toInt (by omega))).mp c108
                          refine lv_aload_n hx hb dX7_failure_111 rfl (lv_at hl 0 rfl) ?_
                          refine r_get (v := .ref (b 4)) C G hX7 0 rfl rfl 7 (by decide) (by decide +kernel) rfl dX7_failure_112 ?_
                          refine lv_iload_n hx hb dX7_failure_115 rfl (lv_at hl 2 rfl) ?_
                          refine r_iald (v := nI ((F 3) j)) C G 4 0 rfl rfl j rfl (by omega) (by omega) rfl dX7_failure_116 ?_
                          refine lv_iconst (v := (nI (1))) hx hb dX7_failure_117 (by decide) ?_
                          refine lv_icmp_ne (tgt := 130) hx hb dX7_failure_118 (by decide) (fun c118 => ?_) (fun c118 => ?_)
                          · skip
                            replace c118 : ¬ (((F 3) j : Nat) : Int) = ((1 : Nat) : Int) := fun h => c118 ((cv_eq (nI_toInt (by omega)) (nI_toInt (by omega))).mpr h)
                            refine lv_iconst (v := (nI (0))) hx hb dX7_failure_130 (by decide) ?_
                            exact RET (nI (0)) (mW cI b I J F G0) _ _ ls _ _ _ (⟨congrArg nI (by unfold flN; split <;> (try split) <;> (try split) <;> (try split) <;> (try split) <;> omega), rfl⟩) G (by first | (simp only []; omega) | decide) (by first | (simp only []; omega) | decide) rfl dX7_failure_131
                          · skip
                            replace c118 : (((F 3) j : Nat) : Int) = ((1 : Nat) : Int) := (cv_eq (nI_toInt (by omega)) (nI_toInt (by omega))).mp c118
                            refine lv_iload_n hx hb dX7_failure_121 rfl (lv_at hl 3 rfl) ?_
                            refine lv_if_le (tgt := 130) hx hb dX7_failure_122 (by decide) (fun c122 => ?_) (fun c122 => ?_)
                            · skip
                              replace c122 : (v).toInt ≤ (0) := (cv_le rfl (by decide)).mp c122
                              refine lv_iconst (v := (nI (0))) hx hb dX7_failure_130 (by decide) ?_
                              exact RET (nI (0)) (mW cI b I J F G0) _ _ ls _ _ _ (⟨congrArg nI (by unfold flN; split <;> (try split) <;> (try split) <;> (try split) <;> (try split) <;> omega), rfl⟩) G (by first | (simp only []; omega) | decide) (by first | (simp only []; omega) | decide) rfl dX7_failure_131
                            · skip
                              replace c122 : (0) < (v).toInt := Int.not_le.mp (fun h => c122 ((cv_le rfl (by decide)).mpr h))
                              refine lv_bipush (v := (nI (6))) hx hb dX7_failure_125 (by decide) ?_
                              refine lv_goto (tgt := 131) hx hb dX7_failure_127 (by decide) ?_
                              exact RET (nI (6)) (mW cI b I J F G0) _ _ ls _ _ _ (⟨congrArg nI (by unfold flN; split <;> (try split) <;> (try split) <;> (try split) <;> (try split) <;> omega), rfl⟩) G (by first | (simp only []; omega) | decide) (by first | (simp only []; omega) | decide) rfl dX7_failure_131
                      · skip
                        replace c99 : ((ac : Nat) : Int) = ((2 : Nat) : Int) := (cv_eq (nI_toInt (by omega)) (nI_toInt (by omega))).mp c99
                        refine lv_iload_n hx hb dX7_failure_102 rfl (lv_at hl 3 rfl) ?_
                        refine lv_if_eq (tgt := 125) hx hb dX7_failure_103 (by decide) (fun c103 => ?_) (fun c103 => ?_)
                        · skip
                          replace c103 : (v).toInt = (0) := (cv_eq rfl (by decide)).mp c103
                          refine lv_bipush (v := (nI (6))) hx hb dX7_failure_125 (by decide) ?_
                          refine lv_goto (tgt := 131) hx hb dX7_failure_127 (by decide) ?_
                          exact RET (nI (6)) (mW cI b I J F G0) _ _ ls _ _ _ (⟨congrArg nI (by unfold flN; split <;> (try split) <;> (try split) <;> (try split) <;> (try split) <;> omega), rfl⟩) G (by first | (simp only []; omega) | decide) (by first | (simp only []; omega) | decide) rfl dX7_failure_131
                        · skip
                          replace c103 : ¬ (v).toInt = (0) := fun h => c103 ((cv_eq rfl (by decide)).mpr h)
                          refine lv_iload_n hx hb dX7_failure_106 rfl (lv_at hl 1 rfl) ?_
                          refine lv_iconst (v := (nI (4))) hx hb dX7_failure_107 (by decide) ?_
                          refine lv_icmp_ne (tgt := 130) hx hb dX7_failure_108 (by decide) (fun c108 => ?_) (fun c108 => ?_)
                          · skip
                            replace c108 : ¬ ((ac : Nat) : Int) = ((4 : Nat) : Int) := fun h => c108 ((cv_eq (nI_toInt (by omega)) (nI_toInt (by omega))).mpr h)
                            refine lv_iconst (v := (nI (0))) hx hb dX7_failure_130 (by decide) ?_
                            exact RET (nI (0)) (mW cI b I J F G0) _ _ ls _ _ _ (⟨congrArg nI (by unfold flN; split <;> (try split) <;> (try split) <;> (try split) <;> (try split) <;> omega), rfl⟩) G (by first | (simp only []; omega) | decide) (by first | (simp only []; omega) | decide) rfl dX7_failure_131
                          · skip
                            replace c108 : ((ac : Nat) : Int) = ((4 : Nat) : Int) := (cv_eq (nI_toInt (by omega)) (nI_toInt (by omega))).mp c108
                            refine lv_aload_n hx hb dX7_failure_111 rfl (lv_at hl 0 rfl) ?_
                            refine r_get (v := .ref (b 4)) C G hX7 0 rfl rfl 7 (by decide) (by decide +kernel) rfl dX7_failure_112 ?_
                            refine lv_iload_n hx hb dX7_failure_115 rfl (lv_at hl 2 rfl) ?_
                            refine r_iald (v := nI ((F 3) j)) C G 4 0 rfl rfl j rfl (by omega) (by omega) rfl dX7_failure_116 ?_
                            refine lv_iconst (v := (nI (1))) hx hb dX7_failure_117 (by decide) ?_
                            refine lv_icmp_ne (tgt := 130) hx hb dX7_failure_118 (by decide) (fun c118 => ?_) (fun c118 => ?_)
                            · skip
                              replace c118 : ¬ (((F 3) j : Nat) : Int) = ((1 : Nat) : Int) := fun h => c118 ((cv_eq (nI_toInt (by omega)) (nI_toInt (by omega))).mpr h)
                              refine lv_iconst (v := (nI (0))) hx hb dX7_failure_130 (by decide) ?_
                              exact RET (nI (0)) (mW cI b I J F G0) _ _ ls _ _ _ (⟨congrArg nI (by unfold flN; split <;> (try split) <;> (try split) <;> (try split) <;> (try split) <;> omega), rfl⟩) G (by first | (simp only []; omega) | decide) (by first | (simp only []; omega) | decide) rfl dX7_failure_131
                            · skip
                              replace c118 : (((F 3) j : Nat) : Int) = ((1 : Nat) : Int) := (cv_eq (nI_toInt (by omega)) (nI_toInt (by omega))).mp c118
                              refine lv_iload_n hx hb dX7_failure_121 rfl (lv_at hl 3 rfl) ?_
                              refine lv_if_le (tgt := 130) hx hb dX7_failure_122 (by decide) (fun c122 => ?_) (fun c122 => ?_)
                              · skip
                                replace c122 : (v).toInt ≤ (0) := (cv_le rfl (by decide)).mp c122
                                refine lv_iconst (v := (nI (0))) hx hb dX7_failure_130 (by decide) ?_
                                exact RET (nI (0)) (mW cI b I J F G0) _ _ ls _ _ _ (⟨congrArg nI (by unfold flN; split <;> (try split) <;> (try split) <;> (try split) <;> (try split) <;> omega), rfl⟩) G (by first | (simp only []; omega) | decide) (by first | (simp only []; omega) | decide) rfl dX7_failure_131
                              · skip
                                replace c122 : (0) < (v).toInt := Int.not_le.mp (fun h => c122 ((cv_le rfl (by decide)).mpr h))
                                refine lv_bipush (v := (nI (6))) hx hb dX7_failure_125 (by decide) ?_
                                refine lv_goto (tgt := 131) hx hb dX7_failure_127 (by decide) ?_
                                exact RET (nI (6)) (mW cI b I J F G0) _ _ ls _ _ _ (⟨congrArg nI (by unfold flN; split <;> (try split) <;> (try split) <;> (try split) <;> (try split) <;> omega), rfl⟩) G (by first | (simp only []; omega) | decide) (by first | (simp only []; omega) | decide) rfl dX7_failure_131
                    · skip
                      replace c88 : ((ac : Nat) : Int) = ((1 : Nat) : Int) := (cv_eq (nI_toInt (by omega)) (nI_toInt (by omega))).mp c88
                      refine lv_iload_n hx hb dX7_failure_91 rfl (lv_at hl 3 rfl) ?_
                      refine lv_if_ge (tgt := 97) hx hb dX7_failure_92 (by decide) (fun c92 => ?_) (fun c92 => ?_)
                      · skip
                        replace c92 : (0) ≤ (v).toInt := (cv_le (by decide) rfl).mp c92
                        refine lv_iload_n hx hb dX7_failure_97 rfl (lv_at hl 1 rfl) ?_
                        refine lv_iconst (v := (nI (2))) hx hb dX7_failure_98 (by decide) ?_
                        refine lv_icmp_ne (tgt := 106) hx hb dX7_failure_99 (by decide) (fun c99 => ?_) (fun c99 => ?_)
                        · skip
                          replace c99 : ¬ ((ac : Nat) : Int) = ((2 : Nat) : Int) := fun h => c99 ((cv_eq (nI_toInt (by omega)) (nI_toInt (by omega))).mpr h)
                          refine lv_iload_n hx hb dX7_failure_106 rfl (lv_at hl 1 rfl) ?_
                          refine lv_iconst (v := (nI (4))) hx hb dX7_failure_107 (by decide) ?_
                          refine lv_icmp_ne (tgt := 130) hx hb dX7_failure_108 (by decide) (fun c108 => ?_) (fun c108 => ?_)
                          · skip
                            replace c108 : ¬ ((ac : Nat) : Int) = ((4 : Nat) : Int) := fun h => c108 ((cv_eq (nI_toInt (by omega)) (nI_toInt (by omega))).mpr h)
                            refine lv_iconst (v := (nI (0))) hx hb dX7_failure_130 (by decide) ?_
                            exact RET (nI (0)) (mW cI b I J F G0) _ _ ls _ _ _ (⟨congrArg nI (by unfold flN; split <;> (try split) <;> (try split) <;> (try split) <;> (try split) <;> omega), rfl⟩) G (by first | (simp only []; omega) | decide) (by first | (simp only []; omega) | decide) rfl dX7_failure_131
                          · skip
                            replace c108 : ((ac : Nat) : Int) = ((4 : Nat) : Int) := (cv_eq (nI_toInt (by omega)) (nI_toInt (by omega))).mp c108
                            refine lv_aload_n hx hb dX7_failure_111 rfl (lv_at hl 0 rfl) ?_
                            refine r_get (v := .ref (b 4)) C G hX7 0 rfl rfl 7 (by decide) (by decide +kernel) rfl dX7_failure_112 ?_
                            refine lv_iload_n hx hb dX7_failure_115 rfl (lv_at hl 2 rfl) ?_
                            refine r_iald (v := nI ((F 3) j)) C G 4 0 rfl rfl j rfl (by omega) (by omega) rfl dX7_failure_116 ?_
                            refine lv_iconst (v := (nI (1))) hx hb dX7_failure_117 (by decide) ?_
                            refine lv_icmp_ne (tgt := 130) hx hb dX7_failure_118 (by decide) (fun c118 => ?_) (fun c118 => ?_)
                            · skip
                              replace c118 : ¬ (((F 3) j : Nat) : Int) = ((1 : Nat) : Int) := fun h => c118 ((cv_eq (nI_toInt (by omega)) (nI_toInt (by omega))).mpr h)
                              refine lv_iconst (v := (nI (0))) hx hb dX7_failure_130 (by decide) ?_
                              exact RET (nI (0)) (mW cI b I J F G0) _ _ ls _ _ _ (⟨congrArg nI (by unfold flN; split <;> (try split) <;> (try split) <;> (try split) <;> (try split) <;> omega), rfl⟩) G (by first | (simp only []; omega) | decide) (by first | (simp only []; omega) | decide) rfl dX7_failure_131
                            · skip
                              replace c118 : (((F 3) j : Nat) : Int) = ((1 : Nat) : Int) := (cv_eq (nI_toInt (by omega)) (nI_toInt (by omega))).mp c118
                              refine lv_iload_n hx hb dX7_failure_121 rfl (lv_at hl 3 rfl) ?_
                              refine lv_if_le (tgt := 130) hx hb dX7_failure_122 (by decide) (fun c122 => ?_) (fun c122 => ?_)
                              · skip
                                replace c122 : (v).toInt ≤ (0) := (cv_le rfl (by decide)).mp c122
                                refine lv_iconst (v := (nI (0))) hx hb dX7_failure_130 (by decide) ?_
                                exact RET (nI (0)) (mW cI b I J F G0) _ _ ls _ _ _ (⟨congrArg nI (by unfold flN; split <;> (try split) <;> (try split) <;> (try split) <;> (try split) <;> omega), rfl⟩) G (by first | (simp only []; omega) | decide) (by first | (simp only []; omega) | decide) rfl dX7_failure_131
                              · skip
                                replace c122 : (0) < (v).toInt := Int.not_le.mp (fun h => c122 ((cv_le rfl (by decide)).mpr h))
                                refine lv_bipush (v := (nI (6))) hx hb dX7_failure_125 (by decide) ?_
                                refine lv_goto (tgt := 131) hx hb dX7_failure_127 (by decide) ?_
                                exact RET (nI (6)) (mW cI b I J F G0) _ _ ls _ _ _ (⟨congrArg nI (by unfold flN; split <;> (try split) <;> (try split) <;> (try split) <;> (try split) <;> omega), rfl⟩) G (by first | (simp only []; omega) | decide) (by first | (simp only []; omega) | decide) rfl dX7_failure_131
                        · skip
                          replace c99 : ((ac : Nat) : Int) = ((2 : Nat) : Int) := (cv_eq (nI_toInt (by omega)) (nI_toInt (by omega))).mp c99
                          refine lv_iload_n hx hb dX7_failure_102 rfl (lv_at hl 3 rfl) ?_
                          refine lv_if_eq (tgt := 125) hx hb dX7_failure_103 (by decide) (fun c103 => ?_) (fun c103 => ?_)
                          · skip
                            replace c103 : (v).toInt = (0) := (cv_eq rfl (by decide)).mp c103
                            refine lv_bipush (v := (nI (6))) hx hb dX7_failure_125 (by decide) ?_
                            refine lv_goto (tgt := 131) hx hb dX7_failure_127 (by decide) ?_
                            exact RET (nI (6)) (mW cI b I J F G0) _ _ ls _ _ _ (⟨congrArg nI (by unfold flN; split <;> (try split) <;> (try split) <;> (try split) <;> (try split) <;> omega), rfl⟩) G (by first | (simp only []; omega) | decide) (by first | (simp only []; omega) | decide) rfl dX7_failure_131
                          · skip
                            replace c103 : ¬ (v).toInt = (0) := fun h => c103 ((cv_eq rfl (by decide)).mpr h)
                            refine lv_iload_n hx hb dX7_failure_106 rfl (lv_at hl 1 rfl) ?_
                            refine lv_iconst (v := (nI (4))) hx hb dX7_failure_107 (by decide) ?_
                            refine lv_icmp_ne (tgt := 130) hx hb dX7_failure_108 (by decide) (fun c108 => ?_) (fun c108 => ?_)
                            · skip
                              replace c108 : ¬ ((ac : Nat) : Int) = ((4 : Nat) : Int) := fun h => c108 ((cv_eq (nI_toInt (by omega)) (nI_toInt (by omega))).mpr h)
                              refine lv_iconst (v := (nI (0))) hx hb dX7_failure_130 (by decide) ?_
                              exact RET (nI (0)) (mW cI b I J F G0) _ _ ls _ _ _ (⟨congrArg nI (by unfold flN; split <;> (try split) <;> (try split) <;> (try split) <;> (try split) <;> omega), rfl⟩) G (by first | (simp only []; omega) | decide) (by first | (simp only []; omega) | decide) rfl dX7_failure_131
                            · skip
                              replace c108 : ((ac : Nat) : Int) = ((4 : Nat) : Int) := (cv_eq (nI_toInt (by omega)) (nI_toInt (by omega))).mp c108
                              refine lv_aload_n hx hb dX7_failure_111 rfl (lv_at hl 0 rfl) ?_
                              refine r_get (v := .ref (b 4)) C G hX7 0 rfl rfl 7 (by decide) (by decide +kernel) rfl dX7_failure_112 ?_
                              refine lv_iload_n hx hb dX7_failure_115 rfl (lv_at hl 2 rfl) ?_
                              refine r_iald (v := nI ((F 3) j)) C G 4 0 rfl rfl j rfl (by omega) (by omega) rfl dX7_failure_116 ?_
                              refine lv_iconst (v := (nI (1))) hx hb dX7_failure_117 (by decide) ?_
                              refine lv_icmp_ne (tgt := 130) hx hb dX7_failure_118 (by decide) (fun c118 => ?_) (fun c118 => ?_)
                              · skip
                                replace c118 : ¬ (((F 3) j : Nat) : Int) = ((1 : Nat) : Int) := fun h => c118 ((cv_eq (nI_toInt (by omega)) (nI_toInt (by omega))).mpr h)
                                refine lv_iconst (v := (nI (0))) hx hb dX7_failure_130 (by decide) ?_
                                exact RET (nI (0)) (mW cI b I J F G0) _ _ ls _ _ _ (⟨congrArg nI (by unfold flN; split <;> (try split) <;> (try split) <;> (try split) <;> (try split) <;> omega), rfl⟩) G (by first | (simp only []; omega) | decide) (by first | (simp only []; omega) | decide) rfl dX7_failure_131
                              · skip
                                replace c118 : (((F 3) j : Nat) : Int) = ((1 : Nat) : Int) := (cv_eq (nI_toInt (by omega)) (nI_toInt (by omega))).mp c118
                                refine lv_iload_n hx hb dX7_failure_121 rfl (lv_at hl 3 rfl) ?_
                                refine lv_if_le (tgt := 130) hx hb dX7_failure_122 (by decide) (fun c122 => ?_) (fun c122 => ?_)
                                · skip
                                  replace c122 : (v).toInt ≤ (0) := (cv_le rfl (by decide)).mp c122
                                  refine lv_iconst (v := (nI (0))) hx hb dX7_failure_130 (by decide) ?_
                                  exact RET (nI (0)) (mW cI b I J F G0) _ _ ls _ _ _ (⟨congrArg nI (by unfold flN; split <;> (try split) <;> (try split) <;> (try split) <;> (try split) <;> omega), rfl⟩) G (by first | (simp only []; omega) | decide) (by first | (simp only []; omega) | decide) rfl dX7_failure_131
                                · skip
                                  replace c122 : (0) < (v).toInt := Int.not_le.mp (fun h => c122 ((cv_le rfl (by decide)).mpr h))
                                  refine lv_bipush (v := (nI (6))) hx hb dX7_failure_125 (by decide) ?_
                                  refine lv_goto (tgt := 131) hx hb dX7_failure_127 (by decide) ?_
                                  exact RET (nI (6)) (mW cI b I J F G0) _ _ ls _ _ _ (⟨congrArg nI (by unfold flN; split <;> (try split) <;> (try split) <;> (try split) <;> (try split) <;> omega), rfl⟩) G (by first | (simp only []; omega) | decide) (by first | (simp only []; omega) | decide) rfl dX7_failure_131
                      · skip
                        replace c92 : (v).toInt < (0) := Int.not_le.mp (fun h => c92 ((cv_le (by decide) rfl).mpr h))
                        refine lv_iconst (v := (nI (5))) hx hb dX7_failure_95 (by decide) ?_
                        exact RET (nI (5)) (mW cI b I J F G0) _ _ ls _ _ _ (⟨congrArg nI (by unfold flN; split <;> (try split) <;> (try split) <;> (try split) <;> (try split) <;> omega), rfl⟩) G (by first | (simp only []; omega) | decide) (by first | (simp only []; omega) | decide) rfl dX7_failure_96
                  · skip
                    replace c77 : (((F 3) j : Nat) : Int) = (0) := (cv_eq (nI_toInt (by omega)) (by decide)).mp c77
                    refine lv_iload_n hx hb dX7_failure_80 rfl (lv_at hl 3 rfl) ?_
                    refine lv_if_le (tgt := 86) hx hb dX7_failure_81 (by decide) (fun c81 => ?_) (fun c81 => ?_)
                    · skip
                      replace c81 : (v).toInt ≤ (0) := (cv_le rfl (by decide)).mp c81
                      refine lv_iload_n hx hb dX7_failure_86 rfl (lv_at hl 1 rfl) ?_
                      refine lv_iconst (v := (nI (1))) hx hb dX7_failure_87 (by decide) ?_
                      refine lv_icmp_ne (tgt := 97) hx hb dX7_failure_88 (by decide) (fun c88 => ?_) (fun c88 => ?_)
                      · skip
                        replace c88 : ¬ ((ac : Nat) : Int) = ((1 : Nat) : Int) := fun h => c88 ((cv_eq (nI_toInt (by omega)) (nI_toInt (by omega))).mpr h)
                        refine lv_iload_n hx hb dX7_failure_97 rfl (lv_at hl 1 rfl) ?_
                        refine lv_iconst (v := (nI (2))) hx hb dX7_failure_98 (by decide) ?_
                        refine lv_icmp_ne (tgt := 106) hx hb dX7_failure_99 (by decide) (fun c99 => ?_) (fun c99 => ?_)
                        · skip
                          replace c99 : ¬ ((ac : Nat) : Int) = ((2 : Nat) : Int) := fun h => c99 ((cv_eq (nI_toInt (by omega)) (nI_toInt (by omega))).mpr h)
                          refine lv_iload_n hx hb dX7_failure_106 rfl (lv_at hl 1 rfl) ?_
                          refine lv_iconst (v := (nI (4))) hx hb dX7_failure_107 (by decide) ?_
                          refine lv_icmp_ne (tgt := 130) hx hb dX7_failure_108 (by decide) (fun c108 => ?_) (fun c108 => ?_)
                          · skip
                            replace c108 : ¬ ((ac : Nat) : Int) = ((4 : Nat) : Int) := fun h => c108 ((cv_eq (nI_toInt (by omega)) (nI_toInt (by omega))).mpr h)
                            refine lv_iconst (v := (nI (0))) hx hb dX7_failure_130 (by decide) ?_
                            exact RET (nI (0)) (mW cI b I J F G0) _ _ ls _ _ _ (⟨congrArg nI (by unfold flN; split <;> (try split) <;> (try split) <;> (try split) <;> (try split) <;> omega), rfl⟩) G (by first | (simp only []; omega) | decide) (by first | (simp only []; omega) | decide) rfl dX7_failure_131
                          · skip
                            replace c108 : ((ac : Nat) : Int) = ((4 : Nat) : Int) := (cv_eq (nI_toInt (by omega)) (nI_toInt (by omega))).mp c108
                            refine lv_aload_n hx hb dX7_failure_111 rfl (lv_at hl 0 rfl) ?_
                            refine r_get (v := .ref (b 4)) C G hX7 0 rfl rfl 7 (by decide) (by decide +kernel) rfl dX7_failure_112 ?_
                            refine lv_iload_n hx hb dX7_failure_115 rfl (lv_at hl 2 rfl) ?_
                            refine r_iald (v := nI ((F 3) j)) C G 4 0 rfl rfl j rfl (by omega) (by omega) rfl dX7_failure_116 ?_
                            refine lv_iconst (v := (nI (1))) hx hb dX7_failure_117 (by decide) ?_
                            refine lv_icmp_ne (tgt := 130) hx hb dX7_failure_118 (by decide) (fun c118 => ?_) (fun c118 => ?_)
                            · skip
                              replace c118 : ¬ (((F 3) j : Nat) : Int) = ((1 : Nat) : Int) := fun h => c118 ((cv_eq (nI_toInt (by omega)) (nI_toInt (by omega))).mpr h)
                              refine lv_iconst (v := (nI (0))) hx hb dX7_failure_130 (by decide) ?_
                              exact RET (nI (0)) (mW cI b I J F G0) _ _ ls _ _ _ (⟨congrArg nI (by unfold flN; split <;> (try split) <;> (try split) <;> (try split) <;> (try split) <;> omega), rfl⟩) G (by first | (simp only []; omega) | decide) (by first | (simp only []; omega) | decide) rfl dX7_failure_131
                            · skip
                              replace c118 : (((F 3) j : Nat) : Int) = ((1 : Nat) : Int) := (cv_eq (nI_toInt (by omega)) (nI_toInt (by omega))).mp c118
                              refine lv_iload_n hx hb dX7_failure_121 rfl (lv_at hl 3 rfl) ?_
                              refine lv_if_le (tgt := 130) hx hb dX7_failure_122 (by decide) (fun c122 => ?_) (fun c122 => ?_)
                              · skip
                                replace c122 : (v).toInt ≤ (0) := (cv_le rfl (by decide)).mp c122
                                refine lv_iconst (v := (nI (0))) hx hb dX7_failure_130 (by decide) ?_
                                exact RET (nI (0)) (mW cI b I J F G0) _ _ ls _ _ _ (⟨congrArg nI (by unfold flN; split <;> (try split) <;> (try split) <;> (try split) <;> (try split) <;> omega), rfl⟩) G (by first | (simp only []; omega) | decide) (by first | (simp only []; omega) | decide) rfl dX7_failure_131
                              · skip
                                replace c122 : (0) < (v).toInt := Int.not_le.mp (fun h => c122 ((cv_le rfl (by decide)).mpr h))
                                refine lv_bipush (v := (nI (6))) hx hb dX7_failure_125 (by decide) ?_
                                refine lv_goto (tgt := 131) hx hb dX7_failure_127 (by decide) ?_
                                exact RET (nI (6)) (mW cI b I J F G0) _ _ ls _ _ _ (⟨congrArg nI (by unfold flN; split <;> (try split) <;> (try split) <;> (try split) <;> (try split) <;> omega), rfl⟩) G (by first | (simp only []; omega) | decide) (by first | (simp only []; omega) | decide) rfl dX7_failure_131
                        · skip
                          replace c99 : ((ac : Nat) : Int) = ((2 : Nat) : Int) := (cv_eq (nI_toInt (by omega)) (nI_toInt (by omega))).mp c99
                          refine lv_iload_n hx hb dX7_failure_102 rfl (lv_at hl 3 rfl) ?_
                          refine lv_if_eq (tgt := 125) hx hb dX7_failure_103 (by decide) (fun c103 => ?_) (fun c103 => ?_)
                          · skip
                            replace c103 : (v).toInt = (0) := (cv_eq rfl (by decide)).mp c103
                            refine lv_bipush (v := (nI (6))) hx hb dX7_failure_125 (by decide) ?_
                            refine lv_goto (tgt := 131) hx hb dX7_failure_127 (by decide) ?_
                            exact RET (nI (6)) (mW cI b I J F G0) _ _ ls _ _ _ (⟨congrArg nI (by unfold flN; split <;> (try split) <;> (try split) <;> (try split) <;> (try split) <;> omega), rfl⟩) G (by first | (simp only []; omega) | decide) (by first | (simp only []; omega) | decide) rfl dX7_failure_131
                          · skip
                            replace c103 : ¬ (v).toInt = (0) := fun h => c103 ((cv_eq rfl (by decide)).mpr h)
                            refine lv_iload_n hx hb dX7_failure_106 rfl (lv_at hl 1 rfl) ?_
                            refine lv_iconst (v := (nI (4))) hx hb dX7_failure_107 (by decide) ?_
                            refine lv_icmp_ne (tgt := 130) hx hb dX7_failure_108 (by decide) (fun c108 => ?_) (fun c108 => ?_)
                            · skip
                              replace c108 : ¬ ((ac : Nat) : Int) = ((4 : Nat) : Int) := fun h => c108 ((cv_eq (nI_toInt (by omega)) (nI_toInt (by omega))).mpr h)
                              refine lv_iconst (v := (nI (0))) hx hb dX7_failure_130 (by decide) ?_
                              exact RET (nI (0)) (mW cI b I J F G0) _ _ ls _ _ _ (⟨congrArg nI (by unfold flN; split <;> (try split) <;> (try split) <;> (try split) <;> (try split) <;> omega), rfl⟩) G (by first | (simp only []; omega) | decide) (by first | (simp only []; omega) | decide) rfl dX7_failure_131
                            · skip
                              replace c108 : ((ac : Nat) : Int) = ((4 : Nat) : Int) := (cv_eq (nI_toInt (by omega)) (nI_toInt (by omega))).mp c108
                              refine lv_aload_n hx hb dX7_failure_111 rfl (lv_at hl 0 rfl) ?_
                              refine r_get (v := .ref (b 4)) C G hX7 0 rfl rfl 7 (by decide) (by decide +kernel) rfl dX7_failure_112 ?_
                              refine lv_iload_n hx hb dX7_failure_115 rfl (lv_at hl 2 rfl) ?_
                              refine r_iald (v := nI ((F 3) j)) C G 4 0 rfl rfl j rfl (by omega) (by omega) rfl dX7_failure_116 ?_
                              refine lv_iconst (v := (nI (1))) hx hb dX7_failure_117 (by decide) ?_
                              refine lv_icmp_ne (tgt := 130) hx hb dX7_failure_118 (by decide) (fun c118 => ?_) (fun c118 => ?_)
                              · skip
                                replace c118 : ¬ (((F 3) j : Nat) : Int) = ((1 : Nat) : Int) := fun h => c118 ((cv_eq (nI_toInt (by omega)) (nI_toInt (by omega))).mpr h)
                                refine lv_iconst (v := (nI (0))) hx hb dX7_failure_130 (by decide) ?_
                                exact RET (nI (0)) (mW cI b I J F G0) _ _ ls _ _ _ (⟨congrArg nI (by unfold flN; split <;> (try split) <;> (try split) <;> (try split) <;> (try split) <;> omega), rfl⟩) G (by first | (simp only []; omega) | decide) (by first | (simp only []; omega) | decide) rfl dX7_failure_131
                              · skip
                                replace c118 : (((F 3) j : Nat) : Int) = ((1 : Nat) : Int) := (cv_eq (nI_toInt (by omega)) (nI_toInt (by omega))).mp c118
                                refine lv_iload_n hx hb dX7_failure_121 rfl (lv_at hl 3 rfl) ?_
                                refine lv_if_le (tgt := 130) hx hb dX7_failure_122 (by decide) (fun c122 => ?_) (fun c122 => ?_)
                                · skip
                                  replace c122 : (v).toInt ≤ (0) := (cv_le rfl (by decide)).mp c122
                                  refine lv_iconst (v := (nI (0))) hx hb dX7_failure_130 (by decide) ?_
                                  exact RET (nI (0)) (mW cI b I J F G0) _ _ ls _ _ _ (⟨congrArg nI (by unfold flN; split <;> (try split) <;> (try split) <;> (try split) <;> (try split) <;> omega), rfl⟩) G (by first | (simp only []; omega) | decide) (by first | (simp only []; omega) | decide) rfl dX7_failure_131
                                · skip
                                  replace c122 : (0) < (v).toInt := Int.not_le.mp (fun h => c122 ((cv_le rfl (by decide)).mpr h))
                                  refine lv_bipush (v := (nI (6))) hx hb dX7_failure_125 (by decide) ?_
                                  refine lv_goto (tgt := 131) hx hb dX7_failure_127 (by decide) ?_
                                  exact RET (nI (6)) (mW cI b I J F G0) _ _ ls _ _ _ (⟨congrArg nI (by unfold flN; split <;> (try split) <;> (try split) <;> (try split) <;> (try split) <;> omega), rfl⟩) G (by first | (simp only []; omega) | decide) (by first | (simp only []; omega) | decide) rfl dX7_failure_131
                      · skip
                        replace c88 : ((ac : Nat) : Int) = ((1 : Nat) : Int) := (cv_eq (nI_toInt (by omega)) (nI_toInt (by omega))).mp c88
                        refine lv_iload_n hx hb dX7_failure_91 rfl (lv_at hl 3 rfl) ?_
                        refine lv_if_ge (tgt := 97) hx hb dX7_failure_92 (by decide) (fun c92 => ?_) (fun c92 => ?_)
                        · skip
                          replace c92 : (0) ≤ (v).toInt := (cv_le (by decide) rfl).mp c92
                          refine lv_iload_n hx hb dX7_failure_97 rfl (lv_at hl 1 rfl) ?_
                          refine lv_iconst (v := (nI (2))) hx hb dX7_failure_98 (by decide) ?_
                          refine lv_icmp_ne (tgt := 106) hx hb dX7_failure_99 (by decide) (fun c99 => ?_) (fun c99 => ?_)
                          · skip
                            replace c99 : ¬ ((ac : Nat) : Int) = ((2 : Nat) : Int) := fun h => c99 ((cv_eq (nI_toInt (by omega)) (nI_toInt (by omega))).mpr h)
                            refine lv_iload_n hx hb dX7_failure_106 rfl (lv_at hl 1 rfl) ?_
                            refine lv_iconst (v := (nI (4))) hx hb dX7_failure_107 (by decide) ?_
                            refine lv_icmp_ne (tgt := 130) hx hb dX7_failure_108 (by decide) (fun c108 => ?_) (fun c108 => ?_)
                            · skip
                              replace c108 : ¬ ((ac : Nat) : Int) = ((4 : Nat) : Int) := fun h => c108 ((cv_eq (nI_toInt (by omega)) (nI_toInt (by omega))).mpr h)
                              refine lv_iconst (v := (nI (0))) hx hb dX7_failure_130 (by decide) ?_
                              exact RET (nI (0)) (mW cI b I J F G0) _ _ ls _ _ _ (⟨congrArg nI (by unfold flN; split <;> (try split) <;> (try split) <;> (try split) <;> (try split) <;> omega), rfl⟩) G (by first | (simp only []; omega) | decide) (by first | (simp only []; omega) | decide) rfl dX7_failure_131
                            · skip
                              replace c108 : ((ac : Nat) : Int) = ((4 : Nat) : Int) := (cv_eq (nI_toInt (by omega)) (nI_toInt (by omega))).mp c108
                              refine lv_aload_n hx hb dX7_failure_111 rfl (lv_at hl 0 rfl) ?_
                              refine r_get (v := .ref (b 4)) C G hX7 0 rfl rfl 7 (by decide) (by decide +kernel) rfl dX7_failure_112 ?_
                              refine lv_iload_n hx hb dX7_failure_115 rfl (lv_at hl 2 rfl) ?_
                              refine r_iald (v := nI ((F 3) j)) C G 4 0 rfl rfl j rfl (by omega) (by omega) rfl dX7_failure_116 ?_
                              refine lv_iconst (v := (nI (1))) hx hb dX7_failure_117 (by decide) ?_
                              refine lv_icmp_ne (tgt := 130) hx hb dX7_failure_118 (by decide) (fun c118 => ?_) (fun c118 => ?_)
                              · skip
                                replace c118 : ¬ (((F 3) j : Nat) : Int) = ((1 : Nat) : Int) := fun h => c118 ((cv_eq (nI_toInt (by omega)) (nI_toInt (by omega))).mpr h)
                                refine lv_iconst (v := (nI (0))) hx hb dX7_failure_130 (by decide) ?_
                                exact RET (nI (0)) (mW cI b I J F G0) _ _ ls _ _ _ (⟨congrArg nI (by unfold flN; split <;> (try split) <;> (try split) <;> (try split) <;> (try split) <;> omega), rfl⟩) G (by first | (simp only []; omega) | decide) (by first | (simp only []; omega) | decide) rfl dX7_failure_131
                              · skip
                                replace c118 : (((F 3) j : Nat) : Int) = ((1 : Nat) : Int) := (cv_eq (nI_toInt (by omega)) (nI_toInt (by omega))).mp c118
                                refine lv_iload_n hx hb dX7_failure_121 rfl (lv_at hl 3 rfl) ?_
                                refine lv_if_le (tgt := 130) hx hb dX7_failure_122 (by decide) (fun c122 => ?_) (fun c122 => ?_)
                                · skip
                                  replace c122 : (v).toInt ≤ (0) := (cv_le rfl (by decide)).mp c122
                                  refine lv_iconst (v := (nI (0))) hx hb dX7_failure_130 (by decide) ?_
                                  exact RET (nI (0)) (mW cI b I J F G0) _ _ ls _ _ _ (⟨congrArg nI (by unfold flN; split <;> (try split) <;> (try split) <;> (try split) <;> (try split) <;> omega), rfl⟩) G (by first | (simp only []; omega) | decide) (by first | (simp only []; omega) | decide) rfl dX7_failure_131
                                · skip
                                  replace c122 : (0) < (v).toInt := Int.not_le.mp (fun h => c122 ((cv_le rfl (by decide)).mpr h))
                                  refine lv_bipush (v := (nI (6))) hx hb dX7_failure_125 (by decide) ?_
                                  refine lv_goto (tgt := 131) hx hb dX7_failure_127 (by decide) ?_
                                  exact RET (nI (6)) (mW cI b I J F G0) _ _ ls _ _ _ (⟨congrArg nI (by unfold flN; split <;> (try split) <;> (try split) <;> (try split) <;> (try split) <;> omega), rfl⟩) G (by first | (simp only []; omega) | decide) (by first | (simp only []; omega) | decide) rfl dX7_failure_131
                          · skip
                            replace c99 : ((ac : Nat) : Int) = ((2 : Nat) : Int) := (cv_eq (nI_toInt (by omega)) (nI_toInt (by omega))).mp c99
                            refine lv_iload_n hx hb dX7_failure_102 rfl (lv_at hl 3 rfl) ?_
                            refine lv_if_eq (tgt := 125) hx hb dX7_failure_103 (by decide) (fun c103 => ?_) (fun c103 => ?_)
                            · skip
                              replace c103 : (v).toInt = (0) := (cv_eq rfl (by decide)).mp c103
                              refine lv_bipush (v := (nI (6))) hx hb dX7_failure_125 (by decide) ?_
                              refine lv_goto (tgt := 131) hx hb dX7_failure_127 (by decide) ?_
                              exact RET (nI (6)) (mW cI b I J F G0) _ _ ls _ _ _ (⟨congrArg nI (by unfold flN; split <;> (try split) <;> (try split) <;> (try split) <;> (try split) <;> omega), rfl⟩) G (by first | (simp only []; omega) | decide) (by first | (simp only []; omega) | decide) rfl dX7_failure_131
                            · skip
                              replace c103 : ¬ (v).toInt = (0) := fun h => c103 ((cv_eq rfl (by decide)).mpr h)
                              refine lv_iload_n hx hb dX7_failure_106 rfl (lv_at hl 1 rfl) ?_
                              refine lv_iconst (v := (nI (4))) hx hb dX7_failure_107 (by decide) ?_
                              refine lv_icmp_ne (tgt := 130) hx hb dX7_failure_108 (by decide) (fun c108 => ?_) (fun c108 => ?_)
                              · skip
                                replace c108 : ¬ ((ac : Nat) : Int) = ((4 : Nat) : Int) := fun h => c108 ((cv_eq (nI_toInt (by omega)) (nI_toInt (by omega))).mpr h)
                                refine lv_iconst (v := (nI (0))) hx hb dX7_failure_130 (by decide) ?_
                                exact RET (nI (0)) (mW cI b I J F G0) _ _ ls _ _ _ (⟨congrArg nI (by unfold flN; split <;> (try split) <;> (try split) <;> (try split) <;> (try split) <;> omega), rfl⟩) G (by first | (simp only []; omega) | decide) (by first | (simp only []; omega) | decide) rfl dX7_failure_131
                              · skip
                                replace c108 : ((ac : Nat) : Int) = ((4 : Nat) : Int) := (cv_eq (nI_toInt (by omega)) (nI_toInt (by omega))).mp c108
                                refine lv_aload_n hx hb dX7_failure_111 rfl (lv_at hl 0 rfl) ?_
                                refine r_get (v := .ref (b 4)) C G hX7 0 rfl rfl 7 (by decide) (by decide +kernel) rfl dX7_failure_112 ?_
                                refine lv_iload_n hx hb dX7_failure_115 rfl (lv_at hl 2 rfl) ?_
                                refine r_iald (v := nI ((F 3) j)) C G 4 0 rfl rfl j rfl (by omega) (by omega) rfl dX7_failure_116 ?_
                                refine lv_iconst (v := (nI (1))) hx hb dX7_failure_117 (by decide) ?_
                                refine lv_icmp_ne (tgt := 130) hx hb dX7_failure_118 (by decide) (fun c118 => ?_) (fun c118 => ?_)
                                · skip
                                  replace c118 : ¬ (((F 3) j : Nat) : Int) = ((1 : Nat) : Int) := fun h => c118 ((cv_eq (nI_toInt (by omega)) (nI_toInt (by omega))).mpr h)
                                  refine lv_iconst (v := (nI (0))) hx hb dX7_failure_130 (by decide) ?_
                                  exact RET (nI (0)) (mW cI b I J F G0) _ _ ls _ _ _ (⟨congrArg nI (by unfold flN; split <;> (try split) <;> (try split) <;> (try split) <;> (try split) <;> omega), rfl⟩) G (by first | (simp only []; omega) | decide) (by first | (simp only []; omega) | decide) rfl dX7_failure_131
                                · skip
                                  replace c118 : (((F 3) j : Nat) : Int) = ((1 : Nat) : Int) := (cv_eq (nI_toInt (by omega)) (nI_toInt (by omega))).mp c118
                                  refine lv_iload_n hx hb dX7_failure_121 rfl (lv_at hl 3 rfl) ?_
                                  refine lv_if_le (tgt := 130) hx hb dX7_failure_122 (by decide) (fun c122 => ?_) (fun c122 => ?_)
                                  · skip
                                    replace c122 : (v).toInt ≤ (0) := (cv_le rfl (by decide)).mp c122
                                    refine lv_iconst (v := (nI (0))) hx hb dX7_failure_130 (by decide) ?_
                                    exact RET (nI (0)) (mW cI b I J F G0) _ _ ls _ _ _ (⟨congrArg nI (by unfold flN; split <;> (try split) <;> (try split) <;> (try split) <;> (try split) <;> omega), rfl⟩) G (by first | (simp only []; omega) | decide) (by first | (simp only []; omega) | decide) rfl dX7_failure_131
                                  · skip
                                    replace c122 : (0) < (v).toInt := Int.not_le.mp (fun h => c122 ((cv_le rfl (by decide)).mpr h))
                                    refine lv_bipush (v := (nI (6))) hx hb dX7_failure_125 (by decide) ?_
                                    refine lv_goto (tgt := 131) hx hb dX7_failure_127 (by decide) ?_
                                    exact RET (nI (6)) (mW cI b I J F G0) _ _ ls _ _ _ (⟨congrArg nI (by unfold flN; split <;> (try split) <;> (try split) <;> (try split) <;> (try split) <;> omega), rfl⟩) G (by first | (simp only []; omega) | decide) (by first | (simp only []; omega) | decide) rfl dX7_failure_131
                        · skip
                          replace c92 : (v).toInt < (0) := Int.not_le.mp (fun h => c92 ((cv_le (by decide) rfl).mpr h))
                          refine lv_iconst (v := (nI (5))) hx hb dX7_failure_95 (by decide) ?_
                          exact RET (nI (5)) (mW cI b I J F G0) _ _ ls _ _ _ (⟨congrArg nI (by unfold flN; split <;> (try split) <;> (try split) <;> (try split) <;> (try split) <;> omega), rfl⟩) G (by first | (simp only []; omega) | decide) (by first | (simp only []; omega) | decide) rfl dX7_failure_96
                    · skip
                      replace c81 : (0) < (v).toInt := Int.not_le.mp (fun h => c81 ((cv_le rfl (by decide)).mpr h))
                      refine lv_iconst (v := (nI (3))) hx hb dX7_failure_84 (by decide) ?_
                      exact RET (nI (3)) (mW cI b I J F G0) _ _ ls _ _ _ (⟨congrArg nI (by unfold flN; split <;> (try split) <;> (try split) <;> (try split) <;> (try split) <;> omega), rfl⟩) G (by first | (simp only []; omega) | decide) (by first | (simp only []; omega) | decide) rfl dX7_failure_85
        · skip
          exact absurd c36 (by decide)
  · skip
    replace c7 : (((F 0) j : Nat) : Int) = ((2 : Nat) : Int) := (cv_eq (nI_toInt (by omega)) (nI_toInt (by omega))).mp c7
    refine lv_iconst (v := (nI (1))) hx hb dX7_failure_10 (by decide) ?_
    exact RET (nI (1)) (mW cI b I J F G0) _ _ ls _ _ _ (⟨congrArg nI (by unfold flN; split <;> (try split) <;> (try split) <;> (try split) <;> (try split) <;> omega), rfl⟩) G (by first | (simp only []; omega) | decide) (by first | (simp only []; omega) | decide) rfl dX7_failure_11
set_option maxHeartbeats 4000000 in
set_option maxRecDepth 100000 in
theorem c_X7_turn (l : Launch) (D : va_G) (cI cO cL : ClassId) (b : Nat → Nat) (I : Nat → Nat) (J : Nat → Int64) (F : Nat → Nat → Nat) (G0 : Nat → Nat → Int32) (h10 : I 10 = I 11 * I 12) (h11 : I 11 ≤ 40) (h12 : I 12 ≤ 40) : Kv l yX7_turn wsX7_turn { frames := 0, cells := 0, slots := 0, locals := 0 } D (TY cI cO cL) [.ref (b 0)] (mW cI b I J F G0) (fun w => ∃ o g2, (∀ r c1, r < I 12 → c1 < I 11 → o (r * I 11 + c1) = G0 1 ((I 11 - 1 - c1) * I 12 + r)) ∧ w = mW cI b (va_up (va_up I 11 (I 12)) 12 (I 11)) J F (va_up (va_up G0 1 o) 2 g2)) := by
  refine Kv.mk (cc := cX7_turn) (maxL := 3) (own := RX7) (by decide) rfl rfl (Nat.le_of_ble_eq_true rfl) ?_
  intro p e s m below meth c A Q ls C hname hA G hl RET
  obtain ⟨⟨hx, hb, hml, hown, hts⟩, hK, hN⟩ := id C
  have hl : lv_has ls 3 [(0, .ref (b 0))] := hl
  have hX7 : ∀ w ∈ u_ws RX7 TX7 30, w ∈ wsX7_turn := by decide +kernel
  have hp0 := prod_le h11 h12
  refine lv_iconst (v := (nI (0))) hx hb dX7_turn_0 (by decide) ?_
  refine lv_istore_n (lv' := [(1, .int (nI (0))), (0, .ref (b 0))]) hx hb dX7_turn_1 rfl hl (by decide) rfl (fun ls hl => ?_)
  have lp2 : ∀ (fuel2 : Nat) (k : Nat) (g2 : Nat → Int32) (hm : I 10 - k < fuel2) (hk : k ≤ I 10) (hg2 : ∀ j, j < k → g2 j = G0 1 j) (H : Heap) (locs : List Loc) (ls : Array Slot), Wd A s.heap D (mW cI b I J F (va_up G0 2 g2)) H locs → lv_has ls 3 [(0, .ref (b 0)), (1, .int (nI (k)))] → W p l e ({ frames := 0, cells := 0, slots := 0, locals := 0 } : Room) s m ([.ref (b 0)] : List Value).toArray below meth c H locs 0 0 Q (F0 m 2 ls []) := by
    intro fuel2
    induction fuel2 with
    | zero => intro k g2 hm hk hg2; exact absurd hm (by omega)
    | succ fuel2 ih2 =>
      intro k g2 hm hk hg2 H locs ls G hl
      refine lv_iload_n hx hb dX7_turn_2 rfl (lv_at hl 1 rfl) ?_
      refine lv_aload_n hx hb dX7_turn_3 rfl (lv_at hl 0 rfl) ?_
      refine r_get (v := .int (nI (I 10))) C G hX7 0 rfl rfl 25 (by decide) (by decide +kernel) rfl dX7_turn_4 ?_
      refine lv_icmp_ge (tgt := 28) hx hb dX7_turn_7 (by decide) (fun c7 => ?_) (fun c7 => ?_)
      · skip
        replace c7 : ((I 10 : Nat) : Int) ≤ ((k : Nat) : Int) := (cv_le (nI_toInt (by omega)) (nI_toInt (by omega))).mp c7
        obtain rfl : k = I 10 := by omega
        refine lv_iconst (v := (nI (0))) hx hb dX7_turn_28 (by decide) ?_
        refine lv_istore_n (lv' := [(1, .int (nI (0))), (0, .ref (b 0))]) hx hb dX7_turn_29 rfl hl (by decide) rfl (fun ls hl => ?_)
        have lp30 : ∀ (fuel30 : Nat) (y : Nat) (o : Nat → Int32) (hm2 : I 12 - y < fuel30) (hy : y ≤ I 12) (ho : ∀ r c1, r < y → c1 < I 11 → o (r * I 11 + c1) = G0 1 ((I 11 - 1 - c1) * I 12 + r)) (H : Heap) (locs : List Loc) (ls : Array Slot), Wd A s.heap D (mW cI b I J F (va_up (va_up G0 1 o) 2 g2)) H locs → lv_has ls 3 [(0, .ref (b 0)), (1, .int (nI (y)))] → W p l e ({ frames := 0, cells := 0, slots := 0, locals := 0 } : Room) s m ([.ref (b 0)] : List Value).toArray below meth c H locs 0 0 Q (F0 m 30 ls []) := by
          intro fuel30
          induction fuel30 with
          | zero => intro y o hm2 hy ho; exact absurd hm2 (by omega)
          | succ fuel30 ih30 =>
            intro y o hm2 hy ho H locs ls G hl
            refine lv_iload_n hx hb dX7_turn_30 rfl (lv_at hl 1 rfl) ?_
            refine lv_aload_n hx hb dX7_turn_31 rfl (lv_at hl 0 rfl) ?_
            refine r_get (v := .int (nI (I 12))) C G hX7 0 rfl rfl 27 (by decide) (by decide +kernel) rfl dX7_turn_32 ?_
            refine lv_icmp_ge (tgt := 93) hx hb dX7_turn_35 (by decide) (fun c35 => ?_) (fun c35 => ?_)
            · skip
              replace c35 : ((I 12 : Nat) : Int) ≤ ((y : Nat) : Int) := (cv_le (nI_toInt (by omega)) (nI_toInt (by omega))).mp c35
              refine lv_aload_n hx hb dX7_turn_93 rfl (lv_at hl 0 rfl) ?_
              refine r_get (v := .int (nI (I 11))) C G hX7 0 rfl rfl 26 (by decide) (by decide +kernel) rfl dX7_turn_94 ?_
              refine lv_istore_n (lv' := [(1, .int (nI (I 11))), (0, .ref (b 0))]) hx hb dX7_turn_97 rfl hl (by decide) rfl (fun ls hl => ?_)
              refine lv_aload_n hx hb dX7_turn_98 rfl (lv_at hl 1 rfl) ?_
              refine lv_aload_n hx hb dX7_turn_99 rfl (lv_at hl 1 rfl) ?_
              refine r_get (v := .int (nI (I 12))) C G hX7 0 rfl rfl 27 (by decide) (by decide +kernel) rfl dX7_turn_100 ?_
              refine r_put (ws' := mW cI b (va_up I 11 (I 12)) J F (va_up (va_up G0 1 o) 2 g2)) C G hX7 tyX7_ok nmX7 0 rfl rfl 26 (by decide) (by decide +kernel) rfl rfl rfl (Nat.le_of_ble_eq_true rfl) dX7_turn_103 rfl (fun H locs G => ?_)
              refine lv_aload_n hx hb dX7_turn_106 rfl (lv_at hl 1 rfl) ?_
              refine lv_iload_n hx hb dX7_turn_107 rfl (lv_at hl 0 rfl) ?_
              refine r_put (ws' := mW cI b (va_up (va_up I 11 (I 12)) 12 (I 11)) J F (va_up (va_up G0 1 o) 2 g2)) C G hX7 tyX7_ok nmX7 0 rfl rfl 27 (by decide) (by decide +kernel) rfl rfl rfl (Nat.le_of_ble_eq_true rfl) dX7_turn_108 rfl (fun H locs G => ?_)
              exact RET (mW cI b (va_up (va_up I 11 (I 12)) 12 (I 11)) J F (va_up (va_up G0 1 o) 2 g2)) _ _ ls _ _ _ (⟨o, g2, fun r c1 h1 h2 => ho r c1 (by omega) h2, rfl⟩) G (by first | (simp only []; omega) | decide) (by first | (simp only []; omega) | decide) dX7_turn_111
            · skip
              replace c35 : ((y : Nat) : Int) < ((I 12 : Nat) : Int) := Int.not_le.mp (fun h => c35 ((cv_le (nI_toInt (by omega)) (nI_toInt (by omega))).mpr h))
              refine lv_iconst (v := (nI (0))) hx hb dX7_turn_38 (by decide) ?_
              refine lv_istore_n (lv' := [(2, .int (nI (0))), (0, .ref (b 0)), (1, .int (nI (y)))]) hx hb dX7_turn_39 rfl hl (by decide) rfl (fun ls hl => ?_)
              have lp40 : ∀ (fuel40 : Nat) (x : Nat) (o2 : Nat → Int32) (hm3 : I 11 - x < fuel40) (hx2 : x ≤ I 11) (ho2 : ∀ r c1, (r < y ∨ (r = y ∧ c1 < x)) → c1 < I 11 → o2 (r * I 11 + c1) = G0 1 ((I 11 - 1 - c1) * I 12 + r)) (H : Heap) (locs : List Loc) (ls : Array Slot), Wd A s.heap D (mW cI b I J F (va_up (va_up G0 1 o2) 2 g2)) H locs → lv_has ls 3 [(0, .ref (b 0)), (1, .int (nI (y))), (2, .int (nI (x)))] → W p l e ({ frames := 0, cells := 0, slots := 0, locals := 0 } : Room) s m ([.ref (b 0)] : List Value).toArray below meth c H locs 0 0 Q (F0 m 40 ls []) := by
                intro fuel40
                induction fuel40 with
                | zero => intro x o2 hm3 hx2 ho2; exact absurd hm3 (by omega)
                | succ fuel40 ih40 =>
                  intro x o2 hm3 hx2 ho2 H locs ls G hl
                  refine lv_iload_n hx hb dX7_turn_40 rfl (lv_at hl 2 rfl) ?_
                  refine lv_aload_n hx hb dX7_turn_41 rfl (lv_at hl 0 rfl) ?_
                  refine r_get (v := .int (nI (I 11))) C G hX7 0 rfl rfl 26 (by decide) (by decide +kernel) rfl dX7_turn_42 ?_
                  refine lv_icmp_ge (tgt := 87) hx hb dX7_turn_45 (by decide) (fun c45 => ?_) (fun c45 => ?_)
                  · skip
                    replace c45 : ((I 11 : Nat) : Int) ≤ ((x : Nat) : Int) := (cv_le (nI_toInt (by omega)) (nI_toInt (by omega))).mp c45
                    refine lv_iinc (v := nI (y + 1)) (lv' := [(1, .int (nI (y + 1))), (0, .ref (b 0)), (2, .int (nI (x)))]) hx hb dX7_turn_87 hl (k := 1) rfl (inc_n _ 1) (by decide) rfl (fun ls hl => ?_)
                    refine lv_goto (tgt := 30) hx hb dX7_turn_90 (by decide) ?_
                    exact ih30 (y + 1) o2 (by omega) (by omega) (fun r c1 h1 h2 => ho2 r c1 (by omega) h2) _ _ _ (G.eq (rfl)) (lv_sub hl [1, 0] rfl)
                  · skip
                    replace c45 : ((x : Nat) : Int) < ((I 11 : Nat) : Int) := Int.not_le.mp (fun h => c45 ((cv_le (nI_toInt (by omega)) (nI_toInt (by omega))).mpr h))
                    have hwl := yx_lt (H := I 12) (W := I 11) (y := y) (x := x) (by omega) (by omega)
                    have hcm := Nat.mul_comm (I 12) (I 11)
                    have hsl := yx_lt (H := I 11) (W := I 12) (y := I 11 - 1 - x) (x := y) (by omega) (by omega)
                    have hp16 := prod_le h11 h12
                    refine lv_aload_n hx hb dX7_turn_48 rfl (lv_at hl 0 rfl) ?_
                    refine r_get (v := .ref (b 14)) C G hX7 0 rfl rfl 28 (by decide) (by decide +kernel) rfl dX7_turn_49 ?_
                    refine lv_iload_n hx hb dX7_turn_52 rfl (lv_at hl 1 rfl) ?_
                    refine lv_aload_n hx hb dX7_turn_53 rfl (lv_at hl 0 rfl) ?_
                    refine r_get (v := .int (nI (I 11))) C G hX7 0 rfl rfl 26 (by decide) (by decide +kernel) rfl dX7_turn_54 ?_
                    refine r_imul hx hb dX7_turn_57 ?_
                    refine lv_iload_n hx hb dX7_turn_58 rfl (lv_at hl 2 rfl) ?_
                    refine r_iadd hx hb dX7_turn_59 ?_
                    refine lv_aload_n hx hb dX7_turn_60 rfl (lv_at hl 0 rfl) ?_
                    refine r_get (v := .ref (b 15)) C G hX7 0 rfl rfl 29 (by decide) (by decide +kernel) rfl dX7_turn_61 ?_
                    refine lv_aload_n hx hb dX7_turn_64 rfl (lv_at hl 0 rfl) ?_
                    refine r_get (v := .int (nI (I 11))) C G hX7 0 rfl rfl 26 (by decide) (by decide +kernel) rfl dX7_turn_65 ?_
                    refine lv_iconst (v := (nI (1))) hx hb dX7_turn_68 (by decide) ?_
                    refine r_isub hx hb (by omega) dX7_turn_69 ?_
                    refine lv_iload_n hx hb dX7_turn_70 rfl (lv_at hl 2 rfl) ?_
                    refine r_isub hx hb (by omega) dX7_turn_71 ?_
                    refine lv_aload_n hx hb dX7_turn_72 rfl (lv_at hl 0 rfl) ?_
                    refine r_get (v := .int (nI (I 12))) C G hX7 0 rfl rfl 27 (by decide) (by decide +kernel) rfl dX7_turn_73 ?_
                    refine r_imul hx hb dX7_turn_76 ?_
                    refine lv_iload_n hx hb dX7_turn_77 rfl (lv_at hl 1 rfl) ?_
                    refine r_iadd hx hb dX7_turn_78 ?_
                    refine r_iald (v := g2 (((((I 11) - 1) - x) * (I 12)) + y)) C G 15 0 rfl rfl (((((I 11) - 1) - x) * (I 12)) + y) rfl (by omega) (by omega) rfl dX7_turn_79 ?_
                    refine r_iast (ws' := mW cI b I J F (va_up (va_up G0 2 g2) 1 (upd o2 ((y * (I 11)) + x) (g2 (((((I 11) - 1) - x) * (I 12)) + y))))) C G 14 0 rfl rfl ((y * (I 11)) + x) rfl (by omega) (by omega) rfl dX7_turn_80 rfl (fun H locs G => ?_)
                    refine lv_iinc (v := nI (x + 1)) (lv' := [(2, .int (nI (x + 1))), (0, .ref (b 0)), (1, .int (nI (y)))]) hx hb dX7_turn_81 hl (k := 2) rfl (inc_n _ 1) (by decide) rfl (fun ls hl => ?_)
                    refine lv_goto (tgt := 40) hx hb dX7_turn_84 (by decide) ?_
                    exact ih40 (x + 1) (upd o2 ((y * (I 11)) + x) (g2 (((((I 11) - 1) - x) * (I 12)) + y))) (by omega) (by omega) (fun r c1 h1 h2 => by by_cases q : r = y ∧ c1 = x; (obtain ⟨rfl, rfl⟩ := q; rw [pk_us]; exact hg2 _ (by omega)); (rw [pk_un (fun z => q (yx_inj h2 (by omega) z))]; exact ho2 r c1 (by omega) h2)) _ _ _ (G.eq (rfl)) (lv_sub hl [1, 2, 0] rfl)
              exact lp40 (I 11 + 1) 0 o (by omega) (by omega) (fun r c1 h1 h2 => ho r c1 (by omega) h2) _ _ _ (G.eq (rfl)) (lv_sub hl [1, 2, 0] rfl)
        exact lp30 (I 12 + 1) 0 (G0 1) (by omega) (by omega) (fun r c1 h => by omega) _ _ _ (G.eq (rfl)) (lv_sub hl [1, 0] rfl)
      · skip
        replace c7 : ((k : Nat) : Int) < ((I 10 : Nat) : Int) := Int.not_le.mp (fun h => c7 ((cv_le (nI_toInt (by omega)) (nI_toInt (by omega))).mpr h))
        refine lv_aload_n hx hb dX7_turn_10 rfl (lv_at hl 0 rfl) ?_
        refine r_get (v := .ref (b 15)) C G hX7 0 rfl rfl 29 (by decide) (by decide +kernel) rfl dX7_turn_11 ?_
        refine lv_iload_n hx hb dX7_turn_14 rfl (lv_at hl 1 rfl) ?_
        refine lv_aload_n hx hb dX7_turn_15 rfl (lv_at hl 0 rfl) ?_
        refine r_get (v := .ref (b 14)) C G hX7 0 rfl rfl 28 (by decide) (by decide +kernel) rfl dX7_turn_16 ?_
        refine lv_iload_n hx hb dX7_turn_19 rfl (lv_at hl 1 rfl) ?_
        refine r_iald (v := (G0 1) k) C G 14 0 rfl rfl k rfl (by omega) (by omega) rfl dX7_turn_20 ?_
        refine r_iast (ws' := mW cI b I J F (va_up G0 2 (upd g2 k ((G0 1) k)))) C G 15 0 rfl rfl k rfl (by omega) (by omega) rfl dX7_turn_21 rfl (fun H locs G => ?_)
        refine lv_iinc (v := nI (k + 1)) (lv' := [(1, .int (nI (k + 1))), (0, .ref (b 0))]) hx hb dX7_turn_22 hl (k := 1) rfl (inc_n _ 1) (by decide) rfl (fun ls hl => ?_)
        refine lv_goto (tgt := 2) hx hb dX7_turn_25 (by decide) ?_
        exact ih2 (k + 1) (upd g2 k ((G0 1) k)) (by omega) (by omega) (fun j hj => by by_cases q : j = k; (rw [q, pk_us]); (rw [pk_un q]; exact hg2 j (by omega))) _ _ _ (G.eq (rfl)) (lv_sub hl [1, 0] rfl)
  exact lp2 (I 10 + 1) 0 (G0 2) (by omega) (by omega) (fun j hj => by omega) _ _ _ (G.eq (rfl)) (lv_sub hl [1, 0] rfl)
set_option maxHeartbeats 4000000 in
set_option maxRecDepth 100000 in
theorem c_X7_crop (l : Launch) (D : va_G) (cI cO cL : ClassId) (b : Nat → Nat) (I : Nat → Nat) (J : Nat → Int64) (F : Nat → Nat → Nat) (G0 : Nat → Nat → Int32) (n1 : Nat) (h10 : I 10 = I 11 * I 12) (h11 : I 11 ≤ 40) (h12 : I 12 ≤ 40) (hn1 : n1 ≤ I 11) (hn2 : n1 ≤ I 12) : Kv l yX7_crop wsX7_crop { frames := 2, cells := 0, slots := 0, locals := 45 } D (TY cI cO cL) [.ref (b 0), .int (nI (n1))] (mW cI b I J F G0) (fun w => ∃ o σ, (∀ y x, y < n1 → x < n1 → o (y * n1 + x) = G0 1 ((dr (nxg (J 1)) (I 11 - n1 + 1) + y) * I 12 + dr (nxg (nxg (J 1))) (I 12 - n1 + 1) + x)) ∧ w = mW cI b (va_up (va_up (va_up I 10 (n1 * n1)) 11 n1) 12 n1) (va_up J 1 (σ)) F (va_up G0 1 o)) := by
  refine Kv.mk (cc := cX7_crop) (maxL := 6) (own := RX7) (by decide) rfl rfl (Nat.le_of_ble_eq_true rfl) ?_
  intro p e s m below meth c A Q ls C hname hA G hl RET
  obtain ⟨⟨hx, hb, hml, hown, hts⟩, hK, hN⟩ := id C
  have hl : lv_has ls 6 [(0, .ref (b 0)), (1, .int (nI (n1)))] := hl
  have hX7 : ∀ w ∈ u_ws RX7 TX7 30, w ∈ wsX7_crop := by decide +kernel
  have hp0 := prod_le h11 h12
  refine lv_aload_n hx hb dX7_crop_0 rfl (lv_at hl 0 rfl) ?_
  refine lv_aload_n hx hb dX7_crop_1 rfl (lv_at hl 0 rfl) ?_
  refine r_get (v := .int (nI (I 11))) C G hX7 0 rfl rfl 26 (by decide) (by decide +kernel) rfl dX7_crop_2 ?_
  refine lv_iload_n hx hb dX7_crop_5 rfl (lv_at hl 1 rfl) ?_
  refine r_isub hx hb (by omega) dX7_crop_6 ?_
  refine lv_iconst (v := (nI (1))) hx hb dX7_crop_7 (by decide) ?_
  refine r_iadd hx hb dX7_crop_8 ?_
  refine lv_i2l (v := lN (((I 11) - n1) + 1)) hx hb dX7_crop_9 (nI_l (by omega)) ?_
  refine r_ai G hA (r_rV (na := 1) (As := [.long (lN (((I 11) - n1) + 1))]) (rest := []) C G (c_X7_draw l D cI cO cL b I J F G0 (((I 11) - n1) + 1) (by omega) (by omega)) gX7_crop_X7_draw rfl (by decide +kernel) ⟨Nat.le_of_ble_eq_true rfl, Nat.le_of_ble_eq_true rfl⟩ 0 rfl rfl rfl hl.1 rfl (Nat.le_of_ble_eq_true rfl) dX7_crop_10 ⟨by first | (simp only []; omega) | decide, by first | (simp only []; omega) | decide⟩) (fun r10 w10 H locs hp10 G => ?_)
  obtain ⟨d10, σ10, eσ10, ed10, hd10, rfl, rfl⟩ := hp10
  replace eσ10 : σ10 = nxg (J 1) := eσ10
  refine r_top (y := nI (d10)) rfl ?_
  refine lv_istore_n (lv' := [(2, .int (nI (d10))), (0, .ref (b 0)), (1, .int (nI (n1)))]) hx hb dX7_crop_13 rfl hl (by decide) rfl (fun ls hl => ?_)
  refine lv_aload_n hx hb dX7_crop_14 rfl (lv_at hl 1 rfl) ?_
  refine lv_aload_n hx hb dX7_crop_15 rfl (lv_at hl 1 rfl) ?_
  refine r_get (v := .int (nI (I 12))) C G hX7 0 rfl rfl 27 (by decide) (by decide +kernel) rfl dX7_crop_16 ?_
  refine lv_iload_n hx hb dX7_crop_19 rfl (lv_at hl 2 rfl) ?_
  refine r_isub hx hb (by omega) dX7_crop_20 ?_
  refine lv_iconst (v := (nI (1))) hx hb dX7_crop_21 (by decide) ?_
  refine r_iadd hx hb dX7_crop_22 ?_
  refine lv_i2l (v := lN (((I 12) - n1) + 1)) hx hb dX7_crop_23 (nI_l (by omega)) ?_
  refine r_ai G hA (r_rV (na := 1) (As := [.long (lN (((I 12) - n1) + 1))]) (rest := []) C G (c_X7_draw l D cI cO cL b I (va_up J 1 (σ10)) F G0 (((I 12) - n1) + 1) (by omega) (by omega)) gX7_crop_X7_draw rfl (by decide +kernel) ⟨Nat.le_of_ble_eq_true rfl, Nat.le_of_ble_eq_true rfl⟩ 0 rfl rfl rfl hl.1 rfl (Nat.le_of_ble_eq_true rfl) dX7_crop_24 ⟨by first | (simp only []; omega) | decide, by first | (simp only []; omega) | decide⟩) (fun r24 w24 H locs hp24 G => ?_)
  obtain ⟨d24, σ24, eσ24, ed24, hd24, rfl, rfl⟩ := hp24
  replace eσ24 : σ24 = nxg (σ10) := eσ24
  refine r_top (y := nI (d24)) rfl ?_
  refine lv_istore_n (lv' := [(3, .int (nI (d24))), (2, .int (nI (d10))), (0, .ref (b 0)), (1, .int (nI (n1)))]) hx hb dX7_crop_27 rfl hl (by decide) rfl (fun ls hl => ?_)
  refine lv_iconst (v := (nI (0))) hx hb dX7_crop_28 (by decide) ?_
  refine lv_istore (lv' := [(4, .int (nI (0))), (3, .int (nI (d24))), (2, .int (nI (d10))), (0, .ref (b 0)), (1, .int (nI (n1)))]) hx hb dX7_crop_29 hl (by decide) rfl (fun ls hl => ?_)
  have lp31 : ∀ (fuel31 : Nat) (y : Nat) (o : Nat → Int32) (hm : n1 - y < fuel31) (hy : y ≤ n1) (ho : ∀ y1 x1, y1 < y → x1 < n1 → o (y1 * n1 + x1) = G0 1 ((d10 + y1) * I 12 + d24 + x1)) (hu : ∀ i, y * n1 ≤ i → i < I 10 → o i = G0 1 i) (H : Heap) (locs : List Loc) (ls : Array Slot), Wd A s.heap D (mW cI b I (va_up J 1 (σ24)) F (va_up G0 1 o)) H locs → lv_has ls 6 [(0, .ref (b 0)), (1, .int (nI (n1))), (2, .int (nI (d10))), (3, .int (nI (d24))), (4, .int (nI (y)))] → W p l e ({ frames := 2, cells := 0, slots := 0, locals := 45 } : Room) s m ([.ref (b 0), .int (nI (n1))] : List Value).toArray below meth c H locs 0 0 Q (F0 m 31 ls []) := by
    intro fuel31
    induction fuel31 with
    | zero => intro y o hm hy ho hu; exact absurd hm (by omega)
    | succ fuel31 ih31 =>
      intro y o hm hy ho hu H locs ls G hl
      refine lv_iload hx hb dX7_crop_31 (lv_at hl 4 rfl) ?_
      refine lv_iload_n hx hb dX7_crop_33 rfl (lv_at hl 1 rfl) ?_
      refine lv_icmp_ge (tgt := 89) hx hb dX7_crop_34 (by decide) (fun c34 => ?_) (fun c34 => ?_)
      · skip
        replace c34 : ((n1 : Nat) : Int) ≤ ((y : Nat) : Int) := (cv_le (nI_toInt (by omega)) (nI_toInt (by omega))).mp c34
        refine lv_aload_n hx hb dX7_crop_89 rfl (lv_at hl 0 rfl) ?_
        refine lv_iload_n hx hb dX7_crop_90 rfl (lv_at hl 1 rfl) ?_
        refine r_put (ws' := mW cI b (va_up I 11 n1) (va_up J 1 (σ24)) F (va_up G0 1 o)) C G hX7 tyX7_ok nmX7 0 rfl rfl 26 (by decide) (by decide +kernel) rfl rfl rfl (Nat.le_of_ble_eq_true rfl) dX7_crop_91 rfl (fun H locs G => ?_)
        refine lv_aload_n hx hb dX7_crop_94 rfl (lv_at hl 0 rfl) ?_
        refine lv_iload_n hx hb dX7_crop_95 rfl (lv_at hl 1 rfl) ?_
        refine r_put (ws' := mW cI b (va_up (va_up I 11 n1) 12 n1) (va_up J 1 (σ24)) F (va_up G0 1 o)) C G hX7 tyX7_ok nmX7 0 rfl rfl 27 (by decide) (by decide +kernel) rfl rfl rfl (Nat.le_of_ble_eq_true rfl) dX7_crop_96 rfl (fun H locs G => ?_)
        refine lv_aload_n hx hb dX7_crop_99 rfl (lv_at hl 0 rfl) ?_
        refine lv_iload_n hx hb dX7_crop_100 rfl (lv_at hl 1 rfl) ?_
        refine lv_iload_n hx hb dX7_crop_101 rfl (lv_at hl 1 rfl) ?_
        refine r_imul hx hb dX7_crop_102 ?_
        refine r_put (ws' := mW cI b (va_up (va_up (va_up I 11 n1) 12 n1) 10 (n1 * n1)) (va_up J 1 (σ24)) F (va_up G0 1 o)) C G hX7 tyX7_ok nmX7 0 rfl rfl 25 (by decide) (by decide +kernel) rfl rfl rfl (Nat.le_of_ble_eq_true rfl) dX7_crop_103 rfl (fun H locs G => ?_)
        exact RET (mW cI b (va_up (va_up (va_up I 11 n1) 12 n1) 10 (n1 * n1)) (va_up J 1 (σ24)) F (va_up G0 1 o)) _ _ ls _ _ _ (⟨o, σ24, fun y1 x1 h1 h2 => by rw [← eσ10, ← eσ24, ← ed10, ← ed24]; exact ho y1 x1 (by omega) h2, rfl⟩) G (by first | (simp only []; omega) | decide) (by first | (simp only []; omega) | decide) dX7_crop_106
      · skip
        replace c34 : ((y : Nat) : Int) < ((n1 : Nat) : Int) := Int.not_le.mp (fun h => c34 ((cv_le (nI_toInt (by omega)) (nI_toInt (by omega))).mpr h))
        refine lv_iconst (v := (nI (0))) hx hb dX7_crop_37 (by decide) ?_
        refine lv_istore (lv' := [(5, .int (nI (0))), (0, .ref (b 0)), (1, .int (nI (n1))), (2, .int (nI (d10))), (3, .int (nI (d24))), (4, .int (nI (y)))]) hx hb dX7_crop_38 hl (by decide) rfl (fun ls hl => ?_)
        have lp40 : ∀ (fuel40 : Nat) (x : Nat) (o2 : Nat → Int32) (hm2 : n1 - x < fuel40) (hx2 : x ≤ n1) (ho2 : ∀ y1 x1, (y1 < y ∨ (y1 = y ∧ x1 < x)) → x1 < n1 → o2 (y1 * n1 + x1) = G0 1 ((d10 + y1) * I 12 + d24 + x1)) (hu2 : ∀ i, y * n1 + x ≤ i → i < I 10 → o2 i = G0 1 i) (H : Heap) (locs : List Loc) (ls : Array Slot), Wd A s.heap D (mW cI b I (va_up J 1 (σ24)) F (va_up G0 1 o2)) H locs → lv_has ls 6 [(0, .ref (b 0)), (1, .int (nI (n1))), (2, .int (nI (d10))), (3, .int (nI (d24))), (4, .int (nI (y))), (5, .int (nI (x)))] → W p l e ({ frames := 2, cells := 0, slots := 0, locals := 45 } : Room) s m ([.ref (b 0), .int (nI (n1))] : List Value).toArray below meth c H locs 0 0 Q (F0 m 40 ls []) := by
          intro fuel40
          induction fuel40 with
          | zero => intro x o2 hm2 hx2 ho2 hu2; exact absurd hm2 (by omega)
          | succ fuel40 ih40 =>
            intro x o2 hm2 hx2 ho2 hu2 H locs ls G hl
            refine lv_iload hx hb dX7_crop_40 (lv_at hl 5 rfl) ?_
            refine lv_iload_n hx hb dX7_crop_42 rfl (lv_at hl 1 rfl) ?_
            refine lv_icmp_ge (tgt := 83) hx hb dX7_crop_43 (by decide) (fun c43 => ?_) (fun c43 => ?_)
            · skip
              replace c43 : ((n1 : Nat) : Int) ≤ ((x : Nat) : Int) := (cv_le (nI_toInt (by omega)) (nI_toInt (by omega))).mp c43
              refine lv_iinc (v := nI (y + 1)) (lv' := [(4, .int (nI (y + 1))), (0, .ref (b 0)), (1, .int (nI (n1))), (2, .int (nI (d10))), (3, .int (nI (d24))), (5, .int (nI (x)))]) hx hb dX7_crop_83 hl (k := 4) rfl (inc_n _ 1) (by decide) rfl (fun ls hl => ?_)
              refine lv_goto (tgt := 31) hx hb dX7_crop_86 (by decide) ?_
              exact ih31 (y + 1) o2 (by omega) (by omega) (fun y1 x1 h1 h2 => ho2 y1 x1 (by omega) h2) (fun i h1 h2 => hu2 i (by rw [Nat.succ_mul] at h1; omega) h2) _ _ _ (G.eq (rfl)) (lv_sub hl [1, 2, 3, 4, 0] rfl)
            · skip
              replace c43 : ((x : Nat) : Int) < ((n1 : Nat) : Int) := Int.not_le.mp (fun h => c43 ((cv_le (nI_toInt (by omega)) (nI_toInt (by omega))).mpr h))
              have hwl := yx_lt (H := n1) (W := n1) (y := y) (x := x) (by omega) (by omega)
              have hsl := yx_lt (H := I 11) (W := I 12) (y := d10 + y) (x := d24 + x) (by omega) (by omega)
              have hn16 := prod_le (a := n1) (b := n1) (by omega) (by omega)
              have hv1 : y * n1 ≤ y * I 12 := Nat.mul_le_mul_left _ (by omega)
              have hv2 : y * I 12 ≤ (d10 + y) * I 12 := Nat.mul_le_mul_right _ (by omega)
              refine lv_aload_n hx hb dX7_crop_46 rfl (lv_at hl 0 rfl) ?_
              refine r_get (v := .ref (b 14)) C G hX7 0 rfl rfl 28 (by decide) (by decide +kernel) rfl dX7_crop_47 ?_
              refine lv_iload hx hb dX7_crop_50 (lv_at hl 4 rfl) ?_
              refine lv_iload_n hx hb dX7_crop_52 rfl (lv_at hl 1 rfl) ?_
              refine r_imul hx hb dX7_crop_53 ?_
              refine lv_iload hx hb dX7_crop_54 (lv_at hl 5 rfl) ?_
              refine r_iadd hx hb dX7_crop_56 ?_
              refine lv_aload_n hx hb dX7_crop_57 rfl (lv_at hl 0 rfl) ?_
              refine r_get (v := .ref (b 14)) C G hX7 0 rfl rfl 28 (by decide) (by decide +kernel) rfl dX7_crop_58 ?_
              refine lv_iload_n hx hb dX7_crop_61 rfl (lv_at hl 2 rfl) ?_
              refine lv_iload hx hb dX7_crop_62 (lv_at hl 4 rfl) ?_
              refine r_iadd hx hb dX7_crop_64 ?_
              refine lv_aload_n hx hb dX7_crop_65 rfl (lv_at hl 0 rfl) ?_
              refine r_get (v := .int (nI (I 12))) C G hX7 0 rfl rfl 27 (by decide) (by decide +kernel) rfl dX7_crop_66 ?_
              refine r_imul hx hb dX7_crop_69 ?_
              refine lv_iload_n hx hb dX7_crop_70 rfl (lv_at hl 3 rfl) ?_
              refine r_iadd hx hb dX7_crop_71 ?_
              refine lv_iload hx hb dX7_crop_72 (lv_at hl 5 rfl) ?_
              refine r_iadd hx hb dX7_crop_74 ?_
              refine r_iald (v := o2 ((((d10 + y) * (I 12)) + d24) + x)) C G 14 0 rfl rfl ((((d10 + y) * (I 12)) + d24) + x) rfl (by omega) (by omega) rfl dX7_crop_75 ?_
              refine r_iast (ws' := mW cI b I (va_up J 1 (σ24)) F (va_up G0 1 (upd o2 ((y * n1) + x) (o2 ((((d10 + y) * (I 12)) + d24) + x))))) C G 14 0 rfl rfl ((y * n1) + x) rfl (by omega) (by omega) rfl dX7_crop_76 rfl (fun H locs G => ?_)
              refine lv_iinc (v := nI (x + 1)) (lv' := [(5, .int (nI (x + 1))), (0, .ref (b 0)), (1, .int (nI (n1))), (2, .int (nI (d10))), (3, .int (nI (d24))), (4, .int (nI (y)))]) hx hb dX7_crop_77 hl (k := 5) rfl (inc_n _ 1) (by decide) rfl (fun ls hl => ?_)
              refine lv_goto (tgt := 40) hx hb dX7_crop_80 (by decide) ?_
              exact ih40 (x + 1) (upd o2 ((y * n1) + x) (o2 ((((d10 + y) * (I 12)) + d24) + x))) (by omega) (by omega) (fun y1 x1 h1 h2 => by by_cases q : y1 = y ∧ x1 = x; (obtain ⟨rfl, rfl⟩ := q; rw [pk_us]; exact hu2 _ (by omega) (by omega)); (rw [pk_un (fun z => q (yx_inj h2 (by omega) z))]; exact ho2 y1 x1 (by omega) h2)) (fun i h1 h2 => by rw [pk_un (by omega)]; exact hu2 i (by omega) h2) _ _ _ (G.eq (rfl)) (lv_sub hl [1, 2, 3, 4, 5, 0] rfl)
        exact lp40 (n1 + 1) 0 o (by omega) (by omega) (fun y1 x1 h1 h2 => ho y1 x1 (by omega) h2) (fun i h1 h2 => hu i (by omega) h2) _ _ _ (G.eq (rfl)) (lv_sub hl [1, 2, 3, 4, 5, 0] rfl)
  exact lp31 (n1 + 1) 0 (G0 1) (by omega) (by omega) (fun y1 x1 h => by omega) (fun i _ _ => rfl) _ _ _ (G.eq (rfl)) (lv_sub hl [3, 4, 2, 1, 0] rfl)
