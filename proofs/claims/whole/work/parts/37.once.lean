/-! each once; batches -/
def onceP (n : Nat) (g : Nat → Nat) : Prop := ∀ i j, i < n → j < n → g i = g j → i = j
theorem cl_ex {g : Nat → Nat} {y : Nat} : ∀ r, 0 < cl g y r → ∃ q, q < r ∧ g q = y := by
  intro r
  induction r with
  | zero => intro h; exact absurd h (Nat.lt_irrefl 0)
  | succ r ih =>
    intro h
    by_cases e : g r = y
    · exact ⟨r, by omega, e⟩
    · rw [cl_n e] at h
      obtain ⟨q, a, b⟩ := ih h
      exact ⟨q, by omega, b⟩
theorem cl_two {g : Nat → Nat} {i j : Nat} (hij : i < j) (e : g i = g j) : ∀ r, j < r → 2 ≤ cl g (g i) r := by
  intro r
  induction r with
  | zero => intro h; omega
  | succ r ih =>
    intro h
    by_cases q : r = j
    · rw [q, cl_y e.symm]; have := cl_pos (lb := g) (j := i) j hij; omega
    · have := ih (by omega)
      by_cases z : g r = g i
      · rw [cl_y z]; omega
      · rw [cl_n z]; exact this
theorem cl_one {n : Nat} {g : Nat → Nat} (h : onceP n g) (y : Nat) : ∀ r, r ≤ n → cl g y r ≤ 1 := by
  intro r
  induction r with
  | zero => intro _; exact Nat.zero_le _
  | succ r ih =>
    intro hr
    have h1 := ih (by omega)
    by_cases e : g r = y
    · rw [cl_y e]
      rcases Nat.eq_zero_or_pos (cl g y r) with z | z
      · omega
      · obtain ⟨q, a, b⟩ := cl_ex r z
        have := h q r (by omega) (by omega) (b.trans e.symm)
        omega
    · rw [cl_n e]; exact h1
theorem fo_all {lb : Nat → Nat} {X : Nat} : ∀ r, (∀ j, j < r → lb j < X) → fo lb r X = r := by
  intro r
  induction r with
  | zero => intro _; have := fo_le (lb := lb) 0 X; omega
  | succ r ih => intro h; rw [fo_s, ih (fun j hj => h j (by omega)), if_pos (h r (by omega))]
theorem fo_few {lb : Nat → Nat} {n : Nat} : ∀ X, (∀ y, y < X → cl lb y n ≤ 1) → fo lb n X ≤ X ∧ ((∃ y, y < X ∧ cl lb y n = 0) → fo lb n X < X) := by
  intro X
  induction X with
  | zero => intro _; exact ⟨Nat.le_refl _, fun ⟨y, h, _⟩ => by omega⟩
  | succ X ih =>
    intro h
    obtain ⟨a, b⟩ := ih (fun y hy => h y (by omega))
    have hX := h X (by omega)
    refine ⟨by show fo lb n X + cl lb X n ≤ X + 1; omega, fun ⟨y, hy, e⟩ => ?_⟩
    show fo lb n X + cl lb X n < X + 1
    by_cases q : y = X
    · rw [q] at e; omega
    · have := b ⟨y, by omega, e⟩; omega
theorem once_iff {n : Nat} {g : Nat → Nat} (hg : ∀ i, i < n → g i < n) : onceP n g ↔ ∀ y, y < n → cl g y n = 1 := by
  constructor
  · intro h y hy
    have h1 := cl_one h y n (Nat.le_refl n)
    rcases Nat.eq_zero_or_pos (cl g y n) with z | z
    · have := (fo_few (lb := g) (n := n) n (fun y _ => cl_one h y n (Nat.le_refl n))).2 ⟨y, hy, z⟩
      rw [fo_all n hg] at this
      omega
    · omega
  · intro h i j hi hj e
    rcases Nat.lt_trichotomy i j with q | q | q
    · have := cl_two q e n hj; have := h (g i) (hg i hi); omega
    · exact q
    · have := cl_two q e.symm n hi; have := h (g j) (hg j hj); omega
theorem once_congr {n : Nat} {g h : Nat → Nat} (e : ∀ i, i < n → g i = h i) : onceP n g ↔ onceP n h := by
  constructor
  · intro a i j hi hj q; exact a i j hi hj (by rw [e i hi, e j hj]; exact q)
  · intro a i j hi hj q; exact a i j hi hj (by rw [← e i hi, ← e j hj]; exact q)
theorem cnt_lt {n sz dp k : Nat} (h0 : 1 ≤ sz) (h : k < cnt n sz dp) : k * sz < n := by
  unfold cnt at h
  split at h
  · have h1 : (k + 1) * sz ≤ n := (Nat.le_div_iff_mul_le (by omega)).mp h
    rw [Nat.succ_mul] at h1; omega
  · have h1 : (k + 1) * sz ≤ n + sz - 1 := (Nat.le_div_iff_mul_le (by omega)).mp h
    rw [Nat.succ_mul] at h1; omega
theorem cnt_le {n sz dp : Nat} (h0 : 1 ≤ sz) (hn : n ≤ 60) : cnt n sz dp ≤ 60 := by
  rcases Nat.lt_or_ge 60 (cnt n sz dp) with q | q
  · have h1 := cnt_lt h0 q
    have : 60 * 1 ≤ 60 * sz := Nat.mul_le_mul_left _ h0
    omega
  · exact q
theorem mof_iff {n sz dp k t : Nat} (h0 : 1 ≤ sz) (hd : dp ≤ 1) : t < mof n sz dp k ↔ (k < cnt n sz dp ∧ t < sz ∧ k * sz + t < n) := by
  unfold mof cnt
  by_cases d : dp = 1
  · rw [if_pos d, if_pos d]
    have key : k < n / sz ↔ (k + 1) * sz ≤ n := Nat.le_div_iff_mul_le (by omega)
    rw [key, Nat.succ_mul]
    split <;> omega
  · rw [if_neg d, if_neg d]
    have key : k < (n + sz - 1) / sz ↔ (k + 1) * sz ≤ n + sz - 1 := Nat.le_div_iff_mul_le (by omega)
    rw [key, Nat.succ_mul]
    split <;> omega
def nxR (n rd pl : Nat) : Nat := if pl < n then rd else (if rd < 1000 then rd + 1 else 0)
def nxP (n pl : Nat) : Nat := if pl < n then pl else 0
def zN (r : Nat) (f : Nat → Nat) : Nat → Nat := fun i => if i < r then 0 else f i
theorem zN_0 (f : Nat → Nat) : zN 0 f = f := by funext i; unfold zN; rw [if_neg (by omega)]
theorem zN_s (r : Nat) (f : Nat → Nat) : va_up (zN r f) r 0 = zN (r + 1) f := by
  funext i; unfold va_up zN
  by_cases h : i = r
  · rw [if_pos h, if_pos (by omega)]
  · rw [if_neg h]
    by_cases h2 : i < r
    · rw [if_pos h2, if_pos (by omega)]
    · rw [if_neg h2, if_neg (by omega)]
theorem zN_in {r i : Nat} {f : Nat → Nat} (h : i < r) : zN r f i = 0 := by unfold zN; rw [if_pos h]
set_option maxHeartbeats 4000000 in
set_option maxRecDepth 100000 in
theorem c_X3_hasEachOnce (l : Launch) (D : va_G) (cI cO cL : ClassId) (a ca ia : Nat → Nat) (n : Nat) (O : Nat → Option Nat) (I : Nat → Nat) (J : Nat → Int64) (F : Nat → Nat → Nat) (E : Nat → Nat → Int32) (K : Nat → Nat → Nat) (G0 : Nat → Nat → Int32) (h8 : I 8 ≤ 60) (hbd : ∀ i, i < I 8 → F 2 i < I 8) : Ki l yX3_hasEachOnce wsX3_hasEachOnce { frames := 0, cells := 0, slots := 0, locals := 0 } D (TY cI cO cL) [.ref (a 4)] (bW cI cO a ca ia n O I J F E K G0) (fun r w => (r = 1 ∧ onceP (I 8) (F 2) ∧ ∃ h, w = bW cI cO a ca ia n O I J (va_up F 3 h) E K G0) ∨ (r = 0 ∧ ¬ onceP (I 8) (F 2) ∧ ∃ h, w = bW cI cO a ca ia n O I J (va_up F 3 h) E K G0)) := by
  refine Ki.mk (cc := cX3_hasEachOnce) (maxL := 3) (rt := .boolean) (own := RX3) (by decide) rfl rfl (Nat.le_of_ble_eq_true rfl) ?_
  intro p e s m below meth c A Q ls C hname hA G hl RET
  obtain ⟨⟨hx, hb, hml, hown, hts⟩, hK, hN⟩ := id C
  have hl : lv_has ls 3 [(0, .ref (a 4))] := hl
  have hX3 : ∀ w ∈ u_ws RX3 TX3 10, w ∈ wsX3_hasEachOnce := by decide +kernel
  refine lv_iconst (v := (nI (0))) hx hb dX3_hasEachOnce_0 (by decide) ?_
  refine lv_istore_n (lv' := [(1, .int (nI (0))), (0, .ref (a 4))]) hx hb dX3_hasEachOnce_1 rfl hl (by decide) rfl (fun ls hl => ?_)
  have lp2 : ∀ (fuel2 : Nat) (k : Nat) (hm : I 8 - k < fuel2) (hk : k ≤ I 8) (H : Heap) (locs : List Loc) (ls : Array Slot), Wd A s.heap D (bW cI cO a ca ia n O I J (va_up F 3 (zN k (F 3))) E K G0) H locs → lv_has ls 3 [(0, .ref (a 4)), (1, .int (nI (k)))] → W p l e ({ frames := 0, cells := 0, slots := 0, locals := 0 } : Room) s m ([.ref (a 4)] : List Value).toArray below meth c H locs 0 0 Q (F0 m 2 ls []) := by
    intro fuel2
    induction fuel2 with
    | zero => intro k hm hk; exact absurd hm (by omega)
    | succ fuel2 ih2 =>
      intro k hm hk H locs ls G hl
      refine lv_iload_n hx hb dX3_hasEachOnce_2 rfl (lv_at hl 1 rfl) ?_
      refine lv_aload_n hx hb dX3_hasEachOnce_3 rfl (lv_at hl 0 rfl) ?_
      refine r_get (v := .int (nI (I 8))) C G hX3 4 rfl rfl 4 (by decide) (by decide +kernel) rfl dX3_hasEachOnce_4 ?_
      refine lv_icmp_ge (tgt := 23) hx hb dX3_hasEachOnce_7 (by decide) (fun c7 => ?_) (fun c7 => ?_)
      · skip
        replace c7 : ((I 8 : Nat) : Int) ≤ ((k : Nat) : Int) := (cv_le (nI_toInt (by omega)) (nI_toInt (by omega))).mp c7
        obtain rfl : k = I 8 := by omega
        refine lv_iconst (v := (nI (0))) hx hb dX3_hasEachOnce_23 (by decide) ?_
        refine lv_istore_n (lv' := [(1, .int (nI (0))), (0, .ref (a 4))]) hx hb dX3_hasEachOnce_24 rfl hl (by decide) rfl (fun ls hl => ?_)
        have lp25 : ∀ (fuel25 : Nat) (p1 : Nat) (sc : Nat → Nat) (hm2 : I 8 - p1 < fuel25) (hp : p1 ≤ I 8) (hsc : ∀ y, y < I 8 → sc y ≤ 1 ∧ (0 < sc y → ∃ q, q < p1 ∧ F 2 q = y) ∧ ((∃ q, q < p1 ∧ F 2 q = y) → 0 < sc y)) (hinj : ∀ i j, i < p1 → j < p1 → F 2 i = F 2 j → i = j) (H : Heap) (locs : List Loc) (ls : Array Slot), Wd A s.heap D (bW cI cO a ca ia n O I J (va_up F 3 sc) E K G0) H locs → lv_has ls 3 [(0, .ref (a 4)), (1, .int (nI (p1)))] → W p l e ({ frames := 0, cells := 0, slots := 0, locals := 0 } : Room) s m ([.ref (a 4)] : List Value).toArray below meth c H locs 0 0 Q (F0 m 25 ls []) := by
          intro fuel25
          induction fuel25 with
          | zero => intro p1 sc hm2 hp hsc hinj; exact absurd hm2 (by omega)
          | succ fuel25 ih25 =>
            intro p1 sc hm2 hp hsc hinj H locs ls G hl
            refine lv_iload_n hx hb dX3_hasEachOnce_25 rfl (lv_at hl 1 rfl) ?_
            refine lv_aload_n hx hb dX3_hasEachOnce_26 rfl (lv_at hl 0 rfl) ?_
            refine r_get (v := .int (nI (I 8))) C G hX3 4 rfl rfl 4 (by decide) (by decide +kernel) rfl dX3_hasEachOnce_27 ?_
            refine lv_icmp_ge (tgt := 76) hx hb dX3_hasEachOnce_30 (by decide) (fun c30 => ?_) (fun c30 => ?_)
            · skip
              replace c30 : ((I 8 : Nat) : Int) ≤ ((p1 : Nat) : Int) := (cv_le (nI_toInt (by omega)) (nI_toInt (by omega))).mp c30
              refine lv_iconst (v := (nI (1))) hx hb dX3_hasEachOnce_76 (by decide) ?_
              exact RET (nI (1)) (bW cI cO a ca ia n O I J (va_up F 3 sc) E K G0) _ _ ls _ _ _ (Or.inl ⟨rfl, fun i j hi hj => hinj i j (by omega) (by omega), _, rfl⟩) G (by first | (simp only []; omega) | decide) (by first | (simp only []; omega) | decide) rfl dX3_hasEachOnce_77
            · skip
              replace c30 : ((p1 : Nat) : Int) < ((I 8 : Nat) : Int) := Int.not_le.mp (fun h => c30 ((cv_le (nI_toInt (by omega)) (nI_toInt (by omega))).mpr h))
              refine lv_aload_n hx hb dX3_hasEachOnce_33 rfl (lv_at hl 0 rfl) ?_
              refine r_get (v := .ref (a 8)) C G hX3 4 rfl rfl 3 (by decide) (by decide +kernel) rfl dX3_hasEachOnce_34 ?_
              refine lv_iload_n hx hb dX3_hasEachOnce_37 rfl (lv_at hl 1 rfl) ?_
              refine r_iald (v := nI ((F 2) p1)) C G 8 0 rfl rfl p1 rfl (by omega) (by omega) rfl dX3_hasEachOnce_38 ?_
              have hgp := hbd p1 (by omega)
              obtain ⟨y, ey⟩ : ∃ y, y = F 2 p1 := ⟨_, rfl⟩
              rw [← ey] at hgp
              refine r_top (y := nI y) (by rw [ey]) ?_
              have hsy := hsc y (by omega)
              refine lv_istore_n (lv' := [(2, .int (nI (y))), (0, .ref (a 4)), (1, .int (nI (p1)))]) hx hb dX3_hasEachOnce_39 rfl hl (by decide) rfl (fun ls hl => ?_)
              refine lv_iload_n hx hb dX3_hasEachOnce_40 rfl (lv_at hl 0 rfl) ?_
              refine lv_if_lt (tgt := 61) hx hb dX3_hasEachOnce_41 (by decide) (fun c41 => ?_) (fun c41 => ?_)
              · skip
                replace c41 : ((y : Nat) : Int) < (0) := (cv_lt (nI_toInt (by omega)) (by decide)).mp c41
                exact absurd c41 (by omega)
              · skip
                replace c41 : (0) ≤ ((y : Nat) : Int) := Int.not_lt.mp (fun h => c41 ((cv_lt (nI_toInt (by omega)) (by decide)).mpr h))
                refine lv_iload_n hx hb dX3_hasEachOnce_44 rfl (lv_at hl 0 rfl) ?_
                refine lv_aload_n hx hb dX3_hasEachOnce_45 rfl (lv_at hl 1 rfl) ?_
                refine r_get (v := .int (nI (I 8))) C G hX3 4 rfl rfl 4 (by decide) (by decide +kernel) rfl dX3_hasEachOnce_46 ?_
                refine lv_icmp_ge (tgt := 61) hx hb dX3_hasEachOnce_49 (by decide) (fun c49 => ?_) (fun c49 => ?_)
                · skip
                  replace c49 : ((I 8 : Nat) : Int) ≤ ((y : Nat) : Int) := (cv_le (nI_toInt (by omega)) (nI_toInt (by omega))).mp c49
                  exact absurd c49 (by omega)
                · skip
                  replace c49 : ((y : Nat) : Int) < ((I 8 : Nat) : Int) := Int.not_le.mp (fun h => c49 ((cv_le (nI_toInt (by omega)) (nI_toInt (by omega))).mpr h))
                  refine lv_aload_n hx hb dX3_hasEachOnce_52 rfl (lv_at hl 1 rfl) ?_
                  refine r_get (v := .ref (a 9)) C G hX3 4 rfl rfl 5 (by decide) (by decide +kernel) rfl dX3_hasEachOnce_53 ?_
                  refine lv_iload_n hx hb dX3_hasEachOnce_56 rfl (lv_at hl 0 rfl) ?_
                  refine r_iald (v := nI (sc y)) C G 9 0 rfl rfl y rfl (by omega) (by omega) rfl dX3_hasEachOnce_57 ?_
                  refine lv_if_le (tgt := 63) hx hb dX3_hasEachOnce_58 (by decide) (fun c58 => ?_) (fun c58 => ?_)
                  · skip
                    replace c58 : ((sc y : Nat) : Int) ≤ (0) := (cv_le (nI_toInt (by omega)) (by decide)).mp c58
                    refine lv_aload_n hx hb dX3_hasEachOnce_63 rfl (lv_at hl 1 rfl) ?_
                    refine r_get (v := .ref (a 9)) C G hX3 4 rfl rfl 5 (by decide) (by decide +kernel) rfl dX3_hasEachOnce_64 ?_
                    refine lv_iload_n hx hb dX3_hasEachOnce_67 rfl (lv_at hl 0 rfl) ?_
                    refine lv_iconst (v := (nI (1))) hx hb dX3_hasEachOnce_68 (by decide) ?_
                    refine r_iast (ws' := bW cI cO a ca ia n O I J (va_up F 3 (va_up sc y 1)) E K G0) C G 9 0 rfl rfl y rfl (by omega) (by omega) (nI_upd _ _ _) dX3_hasEachOnce_69 rfl (fun H locs G => ?_)
                    refine lv_iinc (v := nI (p1 + 1)) (lv' := [(1, .int (nI (p1 + 1))), (2, .int (nI (y))), (0, .ref (a 4))]) hx hb dX3_hasEachOnce_70 hl (k := 2) rfl (inc_n _ 1) (by decide) rfl (fun ls hl => ?_)
                    refine lv_goto (tgt := 25) hx hb dX3_hasEachOnce_73 (by decide) ?_
                    exact ih25 (p1 + 1) (va_up sc y 1) (by omega) (by omega) (fun z hz => by by_cases q : z = y; (rw [q, up_same]; exact ⟨by omega, fun _ => ⟨p1, by omega, by rw [ey]⟩, fun _ => by omega⟩); (rw [up_ne _ _ q]; obtain ⟨q1, q2, q3⟩ := hsc z hz; exact ⟨q1, fun w9 => by obtain ⟨r9, r1, r2⟩ := q2 w9; exact ⟨r9, by omega, r2⟩, fun ⟨r9, r1, r2⟩ => by rcases Nat.lt_or_ge r9 p1 with t9 | t9; exact q3 ⟨r9, t9, r2⟩; (obtain rfl : r9 = p1 := (by omega); exact absurd (r2.symm.trans ey.symm) q)⟩)) (fun i j hi hj e9 => by rcases Nat.lt_or_ge i p1 with u9 | u9; (rcases Nat.lt_or_ge j p1 with v9 | v9; exact hinj i j u9 v9 e9; (obtain rfl : j = p1 := (by omega); have := hsy.2.2 ⟨i, u9, by rw [e9, ey]⟩; omega)); (obtain rfl : i = p1 := (by omega); rcases Nat.lt_or_ge j i with v9 | v9; (have := hsy.2.2 ⟨j, v9, by rw [← e9, ey]⟩; omega); omega)) _ _ _ (G.eq (rfl)) (lv_sub hl [2, 0] rfl)
                  · skip
                    replace c58 : (0) < ((sc y : Nat) : Int) := Int.not_le.mp (fun h => c58 ((cv_le (nI_toInt (by omega)) (by decide)).mpr h))
                    refine lv_iconst (v := (nI (0))) hx hb dX3_hasEachOnce_61 (by decide) ?_
                    exact RET (nI (0)) (bW cI cO a ca ia n O I J (va_up F 3 sc) E K G0) _ _ ls _ _ _ (Or.inr ⟨rfl, fun h => by obtain ⟨q, hq, eq⟩ := hsy.2.1 (by omega); have := h q p1 (by omega) (by omega) (by rw [eq, ey]); omega, _, rfl⟩) G (by first | (simp only []; omega) | decide) (by first | (simp only []; omega) | decide) rfl dX3_hasEachOnce_62
        exact lp25 (I 8 + 1) 0 (zN (I 8) (F 3)) (by omega) (by omega) (fun y hy => by rw [zN_in hy]; exact ⟨by omega, fun q => absurd q (Nat.lt_irrefl 0), fun ⟨q, a9, _⟩ => by omega⟩) (fun i j hi => by omega) _ _ _ (G.eq (rfl)) (lv_sub hl [1, 0] rfl)
      · skip
        replace c7 : ((k : Nat) : Int) < ((I 8 : Nat) : Int) := Int.not_le.mp (fun h => c7 ((cv_le (nI_toInt (by omega)) (nI_toInt (by omega))).mpr h))
        refine lv_aload_n hx hb dX3_hasEachOnce_10 rfl (lv_at hl 0 rfl) ?_
        refine r_get (v := .ref (a 9)) C G hX3 4 rfl rfl 5 (by decide) (by decide +kernel) rfl dX3_hasEachOnce_11 ?_
        refine lv_iload_n hx hb dX3_hasEachOnce_14 rfl (lv_at hl 1 rfl) ?_
        refine lv_iconst (v := (nI (0))) hx hb dX3_hasEachOnce_15 (by decide) ?_
        refine r_iast (ws' := bW cI cO a ca ia n O I J (va_up F 3 (zN (k + 1) (F 3))) E K G0) C G 9 0 rfl rfl k rfl (by omega) (by omega) (by rw [nI_upd]; exact congrArg (fun (g : Nat → Nat) => fun i => nI (g i)) (zN_s _ _)) dX3_hasEachOnce_16 rfl (fun H locs G => ?_)
        refine lv_iinc (v := nI (k + 1)) (lv' := [(1, .int (nI (k + 1))), (0, .ref (a 4))]) hx hb dX3_hasEachOnce_17 hl (k := 1) rfl (inc_n _ 1) (by decide) rfl (fun ls hl => ?_)
        refine lv_goto (tgt := 2) hx hb dX3_hasEachOnce_20 (by decide) ?_
        exact ih2 (k + 1) (by omega) (by omega) _ _ _ (G.eq (rfl)) (lv_sub hl [1, 0] rfl)
  exact lp2 (I 8 + 1) 0 (by omega) (by omega) _ _ _ (G.eq (by rw [zN_0]; rfl)) (lv_sub hl [1, 0] rfl)
set_option maxHeartbeats 4000000 in
set_option maxRecDepth 100000 in
theorem c_X6_rowInBatch (l : Launch) (D : va_G) (cI cO cL : ClassId) (a ca ia : Nat → Nat) (n : Nat) (O : Nat → Option Nat) (I : Nat → Nat) (J : Nat → Int64) (F : Nat → Nat → Nat) (E : Nat → Nat → Int32) (K : Nat → Nat → Nat) (G0 : Nat → Nat → Int32) (k t : Nat) (hn : I 3 ≤ 60) (h83 : I 8 = I 3) (h4 : I 4 ≤ 20) (h41 : 1 ≤ I 4) (h7 : I 7 ≤ 1) (hk : k < 2 ^ 31) (ht : t < 2 ^ 40) : Ki l yX6_rowInBatch wsX6_rowInBatch { frames := 1, cells := 0, slots := 0, locals := 21 } D (TY cI cO cL) [.ref (a 0), .int (nI (k)), .long (lN t)] (bW cI cO a ca ia n O I J F E K G0) (fun r w => (t < mof (I 3) (I 4) (I 7) k ∧ r = nI (F 2 (k * I 4 + t)) ∧ w = bW cI cO a ca ia n O I J F E K G0) ∨ (¬ t < mof (I 3) (I 4) (I 7) k ∧ r = -3 ∧ w = bW cI cO a ca ia n O I J F E K G0)) := by
  refine Ki.mk (cc := cX6_rowInBatch) (maxL := 4) (rt := .int) (own := RX6) (by decide) rfl rfl (Nat.le_of_ble_eq_true rfl) ?_
  intro p e s m below meth c A Q ls C hname hA G hl RET
  obtain ⟨⟨hx, hb, hml, hown, hts⟩, hK, hN⟩ := id C
  have hl : lv_has ls 4 [(0, .ref (a 0)), (1, .int (nI (k))), (2, .long (lN t))] := hl
  have hX4 : ∀ w ∈ u_ws RX4 TX4 4, w ∈ wsX6_rowInBatch := by decide +kernel
  have hX5 : ∀ w ∈ u_ws RX5 TX5 5, w ∈ wsX6_rowInBatch := by decide +kernel
  have hX6 : ∀ w ∈ u_ws RX6 TX6 8, w ∈ wsX6_rowInBatch := by decide +kernel
  refine lv_iload_n hx hb dX6_rowInBatch_0 rfl (lv_at hl 1 rfl) ?_
  refine lv_aload_n hx hb dX6_rowInBatch_1 rfl (lv_at hl 0 rfl) ?_
  refine r_get (v := .ref (a 2)) C G hX6 0 rfl rfl 1 (by decide) (by decide +kernel) rfl dX6_rowInBatch_2 ?_
  refine lv_aload_n hx hb dX6_rowInBatch_5 rfl (lv_at hl 0 rfl) ?_
  refine r_get (v := .ref (a 1)) C G hX6 0 rfl rfl 0 (by decide) (by decide +kernel) rfl dX6_rowInBatch_6 ?_
  refine r_getN (v := .int (nI (I 3))) C G hX4 1 rfl rfl 3 (by decide) (by decide +kernel) rfl dX6_rowInBatch_9 ?_
  refine r_ai G hA (r_rV (na := 1) (As := [.int (nI (I 3))]) (rest := [.int (nI (k))]) C G (c_X5_batchesOf l D cI cO cL a ca ia n O I J F E K G0 (I 3) (by omega) h4 h7) gX6_rowInBatch_X5_batchesOf rfl (by decide +kernel) ⟨Nat.le_of_ble_eq_true rfl, Nat.le_of_ble_eq_true rfl⟩ 2 rfl rfl rfl hl.1 rfl (Nat.le_of_ble_eq_true rfl) dX6_rowInBatch_12 ⟨by first | (simp only []; omega) | decide, by first | (simp only []; omega) | decide⟩) (fun r12 w12 H locs hp12 G => ?_)
  obtain ⟨er12, rfl⟩ := hp12
  rw [if_neg (show ¬ I 4 = 0 by omega)] at er12; subst er12
  refine r_top (y := nI (cnt (I 3) (I 4) (I 7))) rfl ?_
  have hcb := cnt_le (n := I 3) (sz := I 4) (dp := I 7) (by omega) (by omega)
  refine lv_icmp_ge (tgt := 31) hx hb dX6_rowInBatch_15 (by decide) (fun c15 => ?_) (fun c15 => ?_)
  · skip
    replace c15 : ((cnt (I 3) (I 4) (I 7) : Nat) : Int) ≤ ((k : Nat) : Int) := (cv_le (nI_toInt (by omega)) (nI_toInt (by omega))).mp c15
    refine lv_bipush (v := ((-3))) hx hb dX6_rowInBatch_31 (by decide) ?_
    exact RET ((-3)) (bW cI cO a ca ia n O I J F E K G0) _ _ ls _ _ _ (Or.inr ⟨fun h => by have := (mof_iff (by omega) (by omega)).mp h; omega, rfl, rfl⟩) G (by first | (simp only []; omega) | decide) (by first | (simp only []; omega) | decide) rfl dX6_rowInBatch_33
  · skip
    replace c15 : ((k : Nat) : Int) < ((cnt (I 3) (I 4) (I 7) : Nat) : Int) := Int.not_le.mp (fun h => c15 ((cv_le (nI_toInt (by omega)) (nI_toInt (by omega))).mpr h))
    have hkz := cnt_lt (n := I 3) (sz := I 4) (dp := I 7) (k := k) (by omega) (by omega)
    refine lv_lload_n hx hb dX6_rowInBatch_18 rfl (lv_at hl 2 rfl) ?_
    refine lv_aload_n hx hb dX6_rowInBatch_19 rfl (lv_at hl 0 rfl) ?_
    refine r_get (v := .ref (a 2)) C G hX6 0 rfl rfl 1 (by decide) (by decide +kernel) rfl dX6_rowInBatch_20 ?_
    refine r_getN (v := .int (nI (I 4))) C G hX5 2 rfl rfl 1 (by decide) (by decide +kernel) rfl dX6_rowInBatch_23 ?_
    refine lv_i2l (v := lN (I 4)) hx hb dX6_rowInBatch_26 (nI_l (by omega)) ?_
    refine W.lcmp hx hb dX6_rowInBatch_27 ?_
    refine lv_if_lt (tgt := 34) hx hb dX6_rowInBatch_28 (by decide) (fun c28 => ?_) (fun c28 => ?_)
    · skip
      replace c28 : ((t : Nat) : Int) < (((I 4) : Nat) : Int) := ((lg_cmp_lt _ _).trans (cw_lt (pk_lT (by omega)) (pk_lT (by omega)))).mp c28
      refine lv_aload_n hx hb dX6_rowInBatch_34 rfl (lv_at hl 0 rfl) ?_
      refine r_get (v := .ref (a 4)) C G hX6 0 rfl rfl 3 (by decide) (by decide +kernel) rfl dX6_rowInBatch_35 ?_
      refine lv_iload_n hx hb dX6_rowInBatch_38 rfl (lv_at hl 1 rfl) ?_
      refine lv_aload_n hx hb dX6_rowInBatch_39 rfl (lv_at hl 0 rfl) ?_
      refine r_get (v := .ref (a 2)) C G hX6 0 rfl rfl 1 (by decide) (by decide +kernel) rfl dX6_rowInBatch_40 ?_
      refine r_getN (v := .int (nI (I 4))) C G hX5 2 rfl rfl 1 (by decide) (by decide +kernel) rfl dX6_rowInBatch_43 ?_
      refine r_imul hx hb dX6_rowInBatch_46 ?_
      refine lv_lload_n hx hb dX6_rowInBatch_47 rfl (lv_at hl 2 rfl) ?_
      refine lv_l2i (v := nI (t)) hx hb dX6_rowInBatch_48 (lN_i _) ?_
      refine r_iadd hx hb dX6_rowInBatch_49 ?_
      refine r_ai G hA (r_rV (na := 1) (As := [.int (nI ((k * (I 4)) + t))]) (rest := []) C G (c_X3_rowAt l D cI cO cL a ca ia n O I J F E K G0 ((k * (I 4)) + t) (by omega) (by show I 8 ≤ 60; omega)) gX6_rowInBatch_X3_rowAt rfl (by decide +kernel) ⟨Nat.le_of_ble_eq_true rfl, Nat.le_of_ble_eq_true rfl⟩ 4 rfl rfl rfl hl.1 rfl (Nat.le_of_ble_eq_true rfl) dX6_rowInBatch_50 ⟨by first | (simp only []; omega) | decide, by first | (simp only []; omega) | decide⟩) (fun r50 w50 H locs hp50 G => ?_)
      rcases hp50 with ⟨hra50, rfl, rfl⟩ | ⟨hra50, rfl, rfl⟩
      · skip
        replace hra50 : ((k * (I 4)) + t) < I 8 := hra50
        refine r_top (y := nI ((F 2) ((k * (I 4)) + t))) rfl ?_
        exact RET (nI ((F 2) ((k * (I 4)) + t))) (bW cI cO a ca ia n O I J F E K G0) _ _ ls _ _ _ (Or.inl ⟨(mof_iff (by omega) (by omega)).mpr ⟨by omega, by omega, by omega⟩, rfl, rfl⟩) G (by first | (simp only []; omega) | decide) (by first | (simp only []; omega) | decide) rfl dX6_rowInBatch_53
      · skip
        replace hra50 : I 8 ≤ ((k * (I 4)) + t) := hra50
        exact RET ((-3)) (bW cI cO a ca ia n O I J F E K G0) _ _ ls _ _ _ (Or.inr ⟨fun h => by have := (mof_iff (by omega) (by omega)).mp h; omega, rfl, rfl⟩) G (by first | (simp only []; omega) | decide) (by first | (simp only []; omega) | decide) rfl dX6_rowInBatch_53
    · skip
      replace c28 : (((I 4) : Nat) : Int) ≤ ((t : Nat) : Int) := Int.not_lt.mp (fun h => c28 (((lg_cmp_lt _ _).trans (cw_lt (pk_lT (by omega)) (pk_lT (by omega)))).mpr h))
      refine lv_bipush (v := ((-3))) hx hb dX6_rowInBatch_31 (by decide) ?_
      exact RET ((-3)) (bW cI cO a ca ia n O I J F E K G0) _ _ ls _ _ _ (Or.inr ⟨fun h => by have := (mof_iff (by omega) (by omega)).mp h; omega, rfl, rfl⟩) G (by first | (simp only []; omega) | decide) (by first | (simp only []; omega) | decide) rfl dX6_rowInBatch_33
