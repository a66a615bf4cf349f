section
variable {ca : Nat → Nat} {n : Nat} {O : Nat → Option Nat} {I : Nat → Nat} {J : Nat → Int64} {F : Nat → Nat → Nat} {E : Nat → Nat → Int32} {K : Nat → Nat → Nat} {G : Nat → Nat → Int32} {I' : Nat → Nat} {J' : Nat → Int64} {F' : Nat → Nat → Nat} {G' : Nat → Nat → Int32}
theorem Rel.hin (h : Rel ca n O I J F E K G I' J' F' G') : I 3 ≤ n := Nat.le_of_eq h.en.symm
theorem Rel.hK3 (h : Rel ca n O I J F E K G I' J' F' G') : ∀ j, j < I 3 → K 3 j ≤ 1600 := fun j hj => Nat.le_trans (h.hRm j hj).1 (h.hRm j hj).2
theorem Rel.m1 (h : Rel ca n O I J F E K G I' J' F' G') : I' 1 ≤ 60 := by rw [h.e1]; exact h.b3
theorem Rel.m2 (h : Rel ca n O I J F E K G I' J' F' G') : I' 2 ≤ 20 := by rw [h.e2]; exact h.b4
theorem Rel.m3 (h : Rel ca n O I J F E K G I' J' F' G') : 1 ≤ I' 3 ∧ I' 3 ≤ 60 := by rw [h.e3]; exact h.b5
theorem Rel.m4 (h : Rel ca n O I J F E K G I' J' F' G') : 1 ≤ I' 4 ∧ I' 4 ≤ 60 := by rw [h.e4]; exact h.b6
theorem Rel.m5 (h : Rel ca n O I J F E K G I' J' F' G') : I' 5 ≤ 1 := by rw [h.e5]; exact h.b7
theorem Rel.m6 (h : Rel ca n O I J F E K G I' J' F' G') : I' 6 ≤ 4 := by rw [h.e6]; exact h.b0
theorem Rel.m7 (h : Rel ca n O I J F E K G I' J' F' G') : I' 7 ≤ 1000 := by rw [h.e7]; exact h.b1
theorem Rel.m8 (h : Rel ca n O I J F E K G I' J' F' G') : I' 8 ≤ 60 := by rw [h.e8]; exact h.b2
theorem Rel.m9 (h : Rel ca n O I J F E K G I' J' F' G') : I' 9 ≤ 2 := by rw [h.e9]; exact h.b9
theorem Rel.m10 (h : Rel ca n O I J F E K G I' J' F' G') : I' 10 ≤ 1600 := by rw [h.e10]; exact h.b12
theorem Rel.m11 (h : Rel ca n O I J F E K G I' J' F' G') : I' 11 ≤ 40 := by rw [h.e11]; exact h.b10
theorem Rel.m12 (h : Rel ca n O I J F E K G I' J' F' G') : I' 12 ≤ 40 := by rw [h.e12]; exact h.b11
theorem Rel.mL (h : Rel ca n O I J F E K G I' J' F' G') : ∀ j, j < I' 1 → F' 3 j ≤ 1600 := by rw [h.e1, h.f3]; exact h.hK3
theorem Rel.mKd (h : Rel ca n O I J F E K G I' J' F' G') : ∀ j, j < I' 1 → F' 0 j ≤ 2 := by rw [h.e1, h.f0]; exact fun j hj => (h.hK0 j hj).1
theorem Rel.mHi (h : Rel ca n O I J F E K G I' J' F' G') : ∀ j, j < I' 1 → F' 4 j ≤ 40 := by rw [h.e1, h.f4]; exact fun j hj => (h.hK0 j hj).2.1
theorem Rel.mWi (h : Rel ca n O I J F E K G I' J' F' G') : ∀ j, j < I' 1 → F' 5 j ≤ 40 := by rw [h.e1, h.f5]; exact fun j hj => (h.hK0 j hj).2.2
theorem Rel.mPc (h : Rel ca n O I J F E K G I' J' F' G') : ∀ j, j < I' 1 → F' 0 j = 1 → 1 ≤ F' 4 j ∧ 1 ≤ F' 5 j ∧ F' 3 j = F' 4 j * F' 5 j := by rw [h.e1, h.f0, h.f3, h.f4, h.f5]; exact h.hPc
theorem Rel.mWd (h : Rel ca n O I J F E K G I' J' F' G') : ∀ j, j < I' 1 → F' 0 j = 0 → F' 4 j = 0 ∧ F' 5 j = 0 ∧ F' 3 j ≤ 40 := by rw [h.e1, h.f0, h.f3, h.f4, h.f5]; exact h.hWd
theorem Rel.mWw (h : Rel ca n O I J F E K G I' J' F' G') : ∀ j, j < I' 1 → F' 0 j = 0 → F' 3 j ≤ 40 := fun j hj e => (h.mWd j hj e).2.2
theorem Rel.mLb (h : Rel ca n O I J F E K G I' J' F' G') : ∀ j, j < I' 1 → F' 1 j < 8 := by rw [h.e1, h.f1]; exact h.hLb
theorem Rel.mWt (h : Rel ca n O I J F E K G I' J' F' G') : ∀ j, j < I' 1 → F' 2 j ≤ 1000 := by rw [h.e1, h.f2]; exact h.hWt
end
section
variable {p : Program} {l : Launch} {e : Env} {R : Room} {s : State} {m : MethodId} {args : Array Value} {below : List Frame} {meth : Method} {c : Code} {H : Heap} {locs : List Loc} {cells slots : Nat} {Q : State → Prop}
variable {cc : ByteArray} {nL : Nat} {Ts : List Cond} {own : String} {pc : Nat} {ls : Array Slot} {rest : List Value} {D : va_G} {A : Nat → Prop} {tys : List (ClassId × FieldType)} {ws : va_W} {H0 : Heap}
theorem r_sld (C : Cx p s m c args cc nL Ts own D tys) {bs L : Nat} {xs : Nat → Int32} (hX : va_X bs L xs s H0) (hbl : bs < H0.size) (hbA : ¬ A bs) (G : Wd A H0 D ws H locs) {j : Nat} {i : Int32} (hi : i = nI j) (hj : j < L) (hL : L < 2 ^ 31) (hdg : decode cc pc = .ok (.iaload, 1))
    (kk : W p l e R s m args below meth c H locs cells slots Q (F0 m (pc + 1) ls (.int (xs j) :: rest))) : W p l e R s m args below meth c H locs cells slots Q (F0 m pc ls (.int i :: .ref bs :: rest)) := by
  subst hi
  refine va_sld C.1.1 C.1.2.1 hX hbl hbA G.2.2 (vp_in_nI hj hL) hdg ?_
  rw [nI_clamp (by omega)]
  exact kk
end
set_option maxHeartbeats 4000000 in
set_option maxRecDepth 100000 in
theorem law_row {p : Program} (l : Launch) {e : Env} {s : State} {m : MethodId} {below : List Frame} {meth : Method} {c : Code} {H : Heap} {locs : List Loc} {cells slots : Nat} {Q : State → Prop} {ls : Array Slot} {bs L lo : Nat} {xs : Nat → Int32} {D : va_G} {cI cO cL : ClassId} {A : Nat → Prop} {a b : Nat → Nat} {g : Nat → Int64} {w w' : va_W} (C : Cx p s m c #[Value.ref bs] cL_law 7 wsL_law RL D (TY cI cO cL)) (hA : ∀ q : Nat, s.heap.size ≤ q → A q) (hX : va_X bs L xs s s.heap) (hbl : bs < s.heap.size) (hbA : ¬ A bs) (hL : L ≤ 3584) (i : Nat) (hi : i + 7 ≤ L) (hcs : cells + 3 ≤ 601024) (hss : slots + 1700 ≤ 7293034) (hR : RelW cI cO a b w w') (G : Wd A s.heap D (w ++ (w' ++ lgW cL lo g)) H locs) (hl : lv_has ls 7 [(0, .ref bs), (1, .ref (a 0)), (2, .ref (b 0)), (3, .ref lo), (4, .int (nI i))])
    (NEXT : ∀ (w1 w2 : va_W) (g' : Nat → Int64) (H1 : Heap) (locs1 : List Loc) (ls1 : Array Slot), RelW cI cO a b w1 w2 → Wd A s.heap D (w1 ++ (w2 ++ lgW cL lo g')) H1 locs1 → lv_has ls1 7 [(0, .ref bs), (1, .ref (a 0)), (2, .ref (b 0)), (3, .ref lo), (4, .int (nI i))] → W p l e room_1 s m #[Value.ref bs] below meth c H1 locs1 (cells + 3) (slots + 1700) Q (F0 m 964 ls1 [])) : W p l e room_1 s m #[Value.ref bs] below meth c H locs cells slots Q (F0 m 128 ls []) := by
  obtain ⟨ca, ia, n, O, I, J, F, E, K, G0, I', J', F', G', rfl, rfl, h⟩ := hR
  obtain ⟨⟨hx, hb, hml, hown, hts⟩, hK, hN⟩ := id C
  refine lv_aload_n hx hb dL_law_128 rfl (lv_at hl 1 rfl) ?_
  refine lv_aload_n hx hb dL_law_129 rfl (lv_at hl 0 rfl) ?_
  refine lv_iload hx hb dL_law_130 (lv_at hl 4 rfl) ?_
  refine lv_iconst (v := (nI (1))) hx hb dL_law_132 (by decide) ?_
  refine r_iadd hx hb dL_law_133 ?_
  refine r_sld C hX hbl hbA G (j := i + 1) rfl (by omega) (by omega) dL_law_134 ?_
  refine lv_aload_n hx hb dL_law_135 rfl (lv_at hl 0 rfl) ?_
  refine lv_iload hx hb dL_law_136 (lv_at hl 4 rfl) ?_
  refine lv_iconst (v := (nI (2))) hx hb dL_law_138 (by decide) ?_
  refine r_iadd hx hb dL_law_139 ?_
  refine r_sld C hX hbl hbA G (j := i + 2) rfl (by omega) (by omega) dL_law_140 ?_
  refine lv_aload_n hx hb dL_law_141 rfl (lv_at hl 0 rfl) ?_
  refine lv_iload hx hb dL_law_142 (lv_at hl 4 rfl) ?_
  refine lv_iconst (v := (nI (3))) hx hb dL_law_144 (by decide) ?_
  refine r_iadd hx hb dL_law_145 ?_
  refine r_sld C hX hbl hbA G (j := i + 3) rfl (by omega) (by omega) dL_law_146 ?_
  refine r_aiL G hA (r_rV (na := 3) (As := [.int (xs (i + 1)), .int (xs (i + 2)), .int (xs (i + 3))]) (rest := []) C G.left (c_X6_row l D cI cO cL a ca ia n O I J F E K G0 (xs (i + 1)) (xs (i + 2)) (xs (i + 3)) h.b3 h.en) gL_law_X6_row rfl (by decide +kernel) ⟨Nat.le_of_ble_eq_true rfl, Nat.le_of_ble_eq_true rfl⟩ 0 rfl rfl rfl hl.1 rfl (Nat.le_of_ble_eq_true rfl) dL_law_147 ⟨by show cells + 2 ≤ 601024; omega, by show slots + 1605 ≤ 7293034; omega⟩) (fun r1 w1 H locs hp1 G => ?_)
  have G := G.swap
  refine lv_aload_n hx hb dL_law_150 rfl (lv_at hl 2 rfl) ?_
  refine lv_aload_n hx hb dL_law_151 rfl (lv_at hl 0 rfl) ?_
  refine lv_iload hx hb dL_law_152 (lv_at hl 4 rfl) ?_
  refine lv_iconst (v := (nI (1))) hx hb dL_law_154 (by decide) ?_
  refine r_iadd hx hb dL_law_155 ?_
  refine r_sld C hX hbl hbA G (j := i + 1) rfl (by omega) (by omega) dL_law_156 ?_
  refine lv_aload_n hx hb dL_law_157 rfl (lv_at hl 0 rfl) ?_
  refine lv_iload hx hb dL_law_158 (lv_at hl 4 rfl) ?_
  refine lv_iconst (v := (nI (2))) hx hb dL_law_160 (by decide) ?_
  refine r_iadd hx hb dL_law_161 ?_
  refine r_sld C hX hbl hbA G (j := i + 2) rfl (by omega) (by omega) dL_law_162 ?_
  refine lv_aload_n hx hb dL_law_163 rfl (lv_at hl 0 rfl) ?_
  refine lv_iload hx hb dL_law_164 (lv_at hl 4 rfl) ?_
  refine lv_iconst (v := (nI (3))) hx hb dL_law_166 (by decide) ?_
  refine r_iadd hx hb dL_law_167 ?_
  refine r_sld C hX hbl hbA G (j := i + 3) rfl (by omega) (by omega) dL_law_168 ?_
  refine r_aiL G hA (r_rV (na := 3) (As := [.int (xs (i + 1)), .int (xs (i + 2)), .int (xs (i + 3))]) (rest := [.int (r1)]) C G.left (c_X7_row l D cI cO cL b I' J' F' G' (xs (i + 1)) (xs (i + 2)) (xs (i + 3)) h.m1) gL_law_X7_row rfl (by decide +kernel) ⟨Nat.le_of_ble_eq_true rfl, Nat.le_of_ble_eq_true rfl⟩ 0 rfl rfl rfl hl.1 rfl (Nat.le_of_ble_eq_true rfl) dL_law_169 ⟨by show cells + 2 + 0 ≤ 601024; omega, by show slots + 1605 + 0 ≤ 7293034; omega⟩) (fun r2 w2 H locs hp2 G => ?_)
  have G := G.swap
  obtain ⟨er, hR2⟩ := sim_row h hp1 hp2
  refine lv_icmp_eq (tgt := 964) hx hb dL_law_172 (by decide) (fun _ => ?_) (fun cq => absurd er cq)
  refine W.widen (k := cells + 3) (n := slots + 1700) (by show cells + 2 + 0 + 0 ≤ cells + 3; omega) (by show slots + 1605 + 0 + 0 ≤ slots + 1700; omega) ?_
  exact NEXT _ _ _ _ _ _ hR2 G hl
set_option maxHeartbeats 4000000 in
set_option maxRecDepth 100000 in
theorem law_picture {p : Program} (l : Launch) {e : Env} {s : State} {m : MethodId} {below : List Frame} {meth : Method} {c : Code} {H : Heap} {locs : List Loc} {cells slots : Nat} {Q : State → Prop} {ls : Array Slot} {bs L lo : Nat} {xs : Nat → Int32} {D : va_G} {cI cO cL : ClassId} {A : Nat → Prop} {a b : Nat → Nat} {g : Nat → Int64} {w w' : va_W} (C : Cx p s m c #[Value.ref bs] cL_law 7 wsL_law RL D (TY cI cO cL)) (hA : ∀ q : Nat, s.heap.size ≤ q → A q) (hX : va_X bs L xs s s.heap) (hbl : bs < s.heap.size) (hbA : ¬ A bs) (hL : L ≤ 3584) (i : Nat) (hi : i + 7 ≤ L) (hcs : cells + 3 ≤ 601024) (hss : slots + 1700 ≤ 7293034) (hR : RelW cI cO a b w w') (G : Wd A s.heap D (w ++ (w' ++ lgW cL lo g)) H locs) (hl : lv_has ls 7 [(0, .ref bs), (1, .ref (a 0)), (2, .ref (b 0)), (3, .ref lo), (4, .int (nI i))])
    (NEXT : ∀ (w1 w2 : va_W) (g' : Nat → Int64) (H1 : Heap) (locs1 : List Loc) (ls1 : Array Slot), RelW cI cO a b w1 w2 → Wd A s.heap D (w1 ++ (w2 ++ lgW cL lo g')) H1 locs1 → lv_has ls1 7 [(0, .ref bs), (1, .ref (a 0)), (2, .ref (b 0)), (3, .ref lo), (4, .int (nI i))] → W p l e room_1 s m #[Value.ref bs] below meth c H1 locs1 (cells + 3) (slots + 1700) Q (F0 m 964 ls1 [])) : W p l e room_1 s m #[Value.ref bs] below meth c H locs cells slots Q (F0 m 177 ls []) := by
  obtain ⟨ca, ia, n, O, I, J, F, E, K, G0, I', J', F', G', rfl, rfl, h⟩ := hR
  obtain ⟨⟨hx, hb, hml, hown, hts⟩, hK, hN⟩ := id C
  refine lv_aload_n hx hb dL_law_177 rfl (lv_at hl 1 rfl) ?_
  refine lv_aload_n hx hb dL_law_178 rfl (lv_at hl 0 rfl) ?_
  refine lv_iload hx hb dL_law_179 (lv_at hl 4 rfl) ?_
  refine lv_iconst (v := (nI (1))) hx hb dL_law_181 (by decide) ?_
  refine r_iadd hx hb dL_law_182 ?_
  refine r_sld C hX hbl hbA G (j := i + 1) rfl (by omega) (by omega) dL_law_183 ?_
  refine lv_aload_n hx hb dL_law_184 rfl (lv_at hl 0 rfl) ?_
  refine lv_iload hx hb dL_law_185 (lv_at hl 4 rfl) ?_
  refine lv_iconst (v := (nI (2))) hx hb dL_law_187 (by decide) ?_
  refine r_iadd hx hb dL_law_188 ?_
  refine r_sld C hX hbl hbA G (j := i + 2) rfl (by omega) (by omega) dL_law_189 ?_
  refine lv_aload_n hx hb dL_law_190 rfl (lv_at hl 0 rfl) ?_
  refine lv_iload hx hb dL_law_191 (lv_at hl 4 rfl) ?_
  refine lv_iconst (v := (nI (3))) hx hb dL_law_193 (by decide) ?_
  refine r_iadd hx hb dL_law_194 ?_
  refine r_sld C hX hbl hbA G (j := i + 3) rfl (by omega) (by omega) dL_law_195 ?_
  refine lv_aload_n hx hb dL_law_196 rfl (lv_at hl 0 rfl) ?_
  refine lv_iload hx hb dL_law_197 (lv_at hl 4 rfl) ?_
  refine lv_iconst (v := (nI (4))) hx hb dL_law_199 (by decide) ?_
  refine r_iadd hx hb dL_law_200 ?_
  refine r_sld C hX hbl hbA G (j := i + 4) rfl (by omega) (by omega) dL_law_201 ?_
  refine r_aiL G hA (r_rV (na := 4) (As := [.int (xs (i + 1)), .int (xs (i + 2)), .int (xs (i + 3)), .int (xs (i + 4))]) (rest := []) C G.left (c_X6_picture l D cI cO cL a ca ia n O I J F E K G0 (xs (i + 1)) (xs (i + 2)) (xs (i + 3)) (xs (i + 4)) h.b3 h.en) gL_law_X6_picture rfl (by decide +kernel) ⟨Nat.le_of_ble_eq_true rfl, Nat.le_of_ble_eq_true rfl⟩ 0 rfl rfl rfl hl.1 rfl (Nat.le_of_ble_eq_true rfl) dL_law_202 ⟨by show cells + 2 ≤ 601024; omega, by show slots + 1605 ≤ 7293034; omega⟩) (fun r1 w1 H locs hp1 G => ?_)
  have G := G.swap
  refine lv_aload_n hx hb dL_law_205 rfl (lv_at hl 2 rfl) ?_
  refine lv_aload_n hx hb dL_law_206 rfl (lv_at hl 0 rfl) ?_
  refine lv_iload hx hb dL_law_207 (lv_at hl 4 rfl) ?_
  refine lv_iconst (v := (nI (1))) hx hb dL_law_209 (by decide) ?_
  refine r_iadd hx hb dL_law_210 ?_
  refine r_sld C hX hbl hbA G (j := i + 1) rfl (by omega) (by omega) dL_law_211 ?_
  refine lv_aload_n hx hb dL_law_212 rfl (lv_at hl 0 rfl) ?_
  refine lv_iload hx hb dL_law_213 (lv_at hl 4 rfl) ?_
  refine lv_iconst (v := (nI (2))) hx hb dL_law_215 (by decide) ?_
  refine r_iadd hx hb dL_law_216 ?_
  refine r_sld C hX hbl hbA G (j := i + 2) rfl (by omega) (by omega) dL_law_217 ?_
  refine lv_aload_n hx hb dL_law_218 rfl (lv_at hl 0 rfl) ?_
  refine lv_iload hx hb dL_law_219 (lv_at hl 4 rfl) ?_
  refine lv_iconst (v := (nI (3))) hx hb dL_law_221 (by decide) ?_
  refine r_iadd hx hb dL_law_222 ?_
  refine r_sld C hX hbl hbA G (j := i + 3) rfl (by omega) (by omega) dL_law_223 ?_
  refine lv_aload_n hx hb dL_law_224 rfl (lv_at hl 0 rfl) ?_
  refine lv_iload hx hb dL_law_225 (lv_at hl 4 rfl) ?_
  refine lv_iconst (v := (nI (4))) hx hb dL_law_227 (by decide) ?_
  refine r_iadd hx hb dL_law_228 ?_
  refine r_sld C hX hbl hbA G (j := i + 4) rfl (by omega) (by omega) dL_law_229 ?_
  refine r_aiL G hA (r_rV (na := 4) (As := [.int (xs (i + 1)), .int (xs (i + 2)), .int (xs (i + 3)), .int (xs (i + 4))]) (rest := [.int (r1)]) C G.left (c_X7_picture l D cI cO cL b I' J' F' G' (xs (i + 1)) (xs (i + 2)) (xs (i + 3)) (xs (i + 4)) h.m1) gL_law_X7_picture rfl (by decide +kernel) ⟨Nat.le_of_ble_eq_true rfl, Nat.le_of_ble_eq_true rfl⟩ 0 rfl rfl rfl hl.1 rfl (Nat.le_of_ble_eq_true rfl) dL_law_230 ⟨by show cells + 2 + 0 ≤ 601024; omega, by show slots + 1605 + 0 ≤ 7293034; omega⟩) (fun r2 w2 H locs hp2 G => ?_)
  have G := G.swap
  obtain ⟨er, hR2⟩ := sim_picture h hp1 hp2
  refine lv_icmp_eq (tgt := 964) hx hb dL_law_233 (by decide) (fun _ => ?_) (fun cq => absurd er cq)
  refine W.widen (k := cells + 3) (n := slots + 1700) (by show cells + 2 + 0 + 0 ≤ cells + 3; omega) (by show slots + 1605 + 0 + 0 ≤ slots + 1700; omega) ?_
  exact NEXT _ _ _ _ _ _ hR2 G hl
