/-! what a state of the two systems is -/
def bPool (cI : ClassId) (n : Nat) (ca ia : Nat → Nat) (K : Nat → Nat → Nat) (G : Nat → Nat → Int32) : va_W :=
  (List.range n).flatMap (fun r => [(ca r, .inr (0, [.ref (ia r), .int (nI (K 0 r)), .int (nI (K 1 r)), .int (nI (K 2 r)), .int (nI (K 3 r))])), (ia r, .inl (cI, K 4 r, .inl (G r)))])
def bW (cI cO : ClassId) (a ca ia : Nat → Nat) (n : Nat) (O : Nat → Option Nat) (I : Nat → Nat) (J : Nat → Int64) (F : Nat → Nat → Nat) (E : Nat → Nat → Int32) (K : Nat → Nat → Nat) (G : Nat → Nat → Int32) : va_W :=
  [(a 0, .inr (5, [.ref (a 1), .ref (a 2), .ref (a 3), .ref (a 4), .ref (a 14), .int (nI (I 0)), .int (nI (I 1)), .int (nI (I 2))])),
   (a 1, .inr (3, [.ref (a 5), .ref (a 6), .ref (a 7), .int (nI (I 3))])),
   (a 2, .inr (4, [.long (J 0), .int (nI (I 4)), .int (nI (I 5)), .int (nI (I 6)), .int (nI (I 7))])),
   (a 3, .inr (1, [.long (J 1)])),
   (a 4, .inr (2, [.ref (a 1), .ref (a 2), .ref (a 3), .ref (a 8), .int (nI (I 8)), .ref (a 9), .ref (a 10), .ref (a 11), .ref (a 12), .ref (a 13)])),
   (a 5, .inl (cO, 60, .inr (.inr (.inr (.inr O))))),
   (a 6, .inl (cI, 60, .inl (fun i => nI (F 0 i)))), (a 7, .inl (cI, 60, .inl (fun i => nI (F 1 i)))), (a 8, .inl (cI, 60, .inl (fun i => nI (F 2 i)))), (a 9, .inl (cI, 60, .inl (fun i => nI (F 3 i)))),
   (a 10, .inl (cI, 8, .inl (fun i => nI (F 4 i)))), (a 11, .inl (cI, 8, .inl (fun i => nI (F 5 i)))), (a 12, .inl (cI, 8, .inl (fun i => nI (F 6 i)))), (a 13, .inl (cI, 8, .inl (fun i => nI (F 7 i)))),
   (a 14, .inr (0, [.ref (a 15), .int (nI (I 9)), .int (nI (I 10)), .int (nI (I 11)), .int (nI (I 12))])),
   (a 15, .inl (cI, 1600, .inl (E 0)))] ++ bPool cI n ca ia K G
def mW (cI : ClassId) (b : Nat → Nat) (I : Nat → Nat) (J : Nat → Int64) (F : Nat → Nat → Nat) (G : Nat → Nat → Int32) : va_W :=
  [(b 0, .inr (6, [.int (nI (I 0)), .long (J 0), .long (J 1), .int (nI (I 1)), .ref (b 1), .ref (b 2), .ref (b 3), .ref (b 4), .ref (b 5), .ref (b 6), .ref (b 7), .int (nI (I 2)), .int (nI (I 3)), .int (nI (I 4)), .int (nI (I 5)), .ref (b 8), .ref (b 9), .ref (b 10), .ref (b 11), .ref (b 12), .ref (b 13), .int (nI (I 6)), .int (nI (I 7)), .int (nI (I 8)), .int (nI (I 9)), .int (nI (I 10)), .int (nI (I 11)), .int (nI (I 12)), .ref (b 14), .ref (b 15)])),
   (b 1, .inl (cI, 60, .inl (fun i => nI (F 0 i)))), (b 2, .inl (cI, 60, .inl (fun i => nI (F 1 i)))), (b 3, .inl (cI, 60, .inl (fun i => nI (F 2 i)))), (b 4, .inl (cI, 60, .inl (fun i => nI (F 3 i)))), (b 5, .inl (cI, 60, .inl (fun i => nI (F 4 i)))), (b 6, .inl (cI, 60, .inl (fun i => nI (F 5 i)))),
   (b 7, .inl (cI, 96000, .inl (G 0))),
   (b 8, .inl (cI, 60, .inl (fun i => nI (F 6 i)))), (b 9, .inl (cI, 60, .inl (fun i => nI (F 7 i)))),
   (b 10, .inl (cI, 8, .inl (fun i => nI (F 8 i)))), (b 11, .inl (cI, 8, .inl (fun i => nI (F 9 i)))), (b 12, .inl (cI, 8, .inl (fun i => nI (F 10 i)))), (b 13, .inl (cI, 8, .inl (fun i => nI (F 11 i)))),
   (b 14, .inl (cI, 1600, .inl (G 1))), (b 15, .inl (cI, 1600, .inl (G 2)))]
theorem pair_len {α : Type} (f g : Nat → α) (n : Nat) : ((List.range n).flatMap (fun r => [f r, g r])).length = 2 * n := by
  induction n with
  | zero => rfl
  | succ n ih => rw [List.range_succ, List.flatMap_append, List.length_append, ih]; simp; omega
theorem pair_get {α : Type} (f g : Nat → α) (n r : Nat) (h : r < n) : ((List.range n).flatMap (fun r => [f r, g r]))[2 * r]? = some (f r) ∧ ((List.range n).flatMap (fun r => [f r, g r]))[2 * r + 1]? = some (g r) := by
  induction n with
  | zero => omega
  | succ n ih =>
    rw [List.range_succ, List.flatMap_append]
    have hl := pair_len f g n
    by_cases e : r = n
    · subst e
      rw [List.getElem?_append_right (by omega), List.getElem?_append_right (by omega), hl]
      simp
    · obtain ⟨h1, h2⟩ := ih (by omega)
      rw [List.getElem?_append_left (by omega), List.getElem?_append_left (by omega)]
      exact ⟨h1, h2⟩
theorem pair_cases {α : Type} (f g : Nat → α) (n k : Nat) : (∃ r, r < n ∧ k = 2 * r ∧ ((List.range n).flatMap (fun r => [f r, g r]))[k]? = some (f r)) ∨ (∃ r, r < n ∧ k = 2 * r + 1 ∧ ((List.range n).flatMap (fun r => [f r, g r]))[k]? = some (g r)) ∨ (2 * n ≤ k ∧ ((List.range n).flatMap (fun r => [f r, g r]))[k]? = none) := by
  by_cases h : k < 2 * n
  · rcases Nat.mod_two_eq_zero_or_one k with e | e
    · exact Or.inl ⟨k / 2, by omega, by omega, by have := (pair_get f g n (k / 2) (by omega)).1; rwa [show 2 * (k / 2) = k by omega] at this⟩
    · exact Or.inr (Or.inl ⟨k / 2, by omega, by omega, by have := (pair_get f g n (k / 2) (by omega)).2; rwa [show 2 * (k / 2) + 1 = k by omega] at this⟩)
  · exact Or.inr (Or.inr ⟨by omega, List.getElem?_eq_none (by rw [pair_len]; omega)⟩)
theorem pair_set0 {α : Type} (f g : Nat → α) (n r : Nat) (h : r < n) (v : α) : ((List.range n).flatMap (fun r => [f r, g r])).set (2 * r) v = (List.range n).flatMap (fun i => [va_up f r v i, g i]) := by
  apply List.ext_getElem?
  intro k
  rw [List.getElem?_set]
  rcases pair_cases f g n k with ⟨i, hi, rfl, e⟩ | ⟨i, hi, rfl, e⟩ | ⟨hk, e⟩
  · rw [(pair_get (va_up f r v) g n i hi).1]
    by_cases c : i = r
    · subst c; rw [if_pos rfl, if_pos (by rw [pair_len]; omega)]; simp [va_up]
    · rw [if_neg (by omega), e]; simp [va_up, c]
  · rw [(pair_get (va_up f r v) g n i hi).2, if_neg (by omega), e]
  · rw [if_neg (by omega), e]
    exact (List.getElem?_eq_none (by rw [pair_len]; omega)).symm
theorem pair_set1 {α : Type} (f g : Nat → α) (n r : Nat) (h : r < n) (v : α) : ((List.range n).flatMap (fun r => [f r, g r])).set (2 * r + 1) v = (List.range n).flatMap (fun i => [f i, va_up g r v i]) := by
  apply List.ext_getElem?
  intro k
  rw [List.getElem?_set]
  rcases pair_cases f g n k with ⟨i, hi, rfl, e⟩ | ⟨i, hi, rfl, e⟩ | ⟨hk, e⟩
  · rw [(pair_get f (va_up g r v) n i hi).1, if_neg (by omega), e]
  · rw [(pair_get f (va_up g r v) n i hi).2]
    by_cases c : i = r
    · subst c; rw [if_pos rfl, if_pos (by rw [pair_len]; omega)]; simp [va_up]
    · rw [if_neg (by omega), e]; simp [va_up, c]
  · rw [if_neg (by omega), e]
    exact (List.getElem?_eq_none (by rw [pair_len]; omega)).symm
theorem pair_congr {α : Type} {f g f' g' : Nat → α} {n : Nat} (h : ∀ r, r < n → f r = f' r ∧ g r = g' r) : (List.range n).flatMap (fun r => [f r, g r]) = (List.range n).flatMap (fun r => [f' r, g' r]) := by
  induction n with
  | zero => rfl
  | succ n ih =>
    rw [List.range_succ, List.flatMap_append, List.flatMap_append, ih (fun r hr => h r (by omega))]
    obtain ⟨h1, h2⟩ := h n (by omega)
    simp [h1, h2]
section
variable {cI cO : ClassId} {a ca ia : Nat → Nat} {n : Nat} {O : Nat → Option Nat} {I : Nat → Nat} {J : Nat → Int64} {F : Nat → Nat → Nat} {E : Nat → Nat → Int32} {K : Nat → Nat → Nat} {G : Nat → Nat → Int32}
theorem bW_c {r : Nat} (h : r < n) : (bW cI cO a ca ia n O I J F E K G)[16 + 2 * r]? = some (ca r, .inr (0, [.ref (ia r), .int (nI (K 0 r)), .int (nI (K 1 r)), .int (nI (K 2 r)), .int (nI (K 3 r))])) := by
  unfold bW bPool
  rw [List.getElem?_append_right (by simp), show 16 + 2 * r - _ = 2 * r by simp]
  exact (pair_get _ _ n r h).1
theorem bW_i {r : Nat} (h : r < n) : (bW cI cO a ca ia n O I J F E K G)[16 + (2 * r + 1)]? = some (ia r, .inl (cI, K 4 r, .inl (G r))) := by
  unfold bW bPool
  rw [List.getElem?_append_right (by simp), show 16 + (2 * r + 1) - _ = 2 * r + 1 by simp]
  exact (pair_get _ _ n r h).2
theorem bW_setlen {r v : Nat} (h : r < n) : (bW cI cO a ca ia n O I J F E K G).set (16 + 2 * r) (ca r, .inr (0, [.ref (ia r), .int (nI (K 0 r)), .int (nI (K 1 r)), .int (nI (K 2 r)), .int (nI v)])) = bW cI cO a ca ia n O I J F E (va_up K 3 (va_up (K 3) r v)) G := by
  unfold bW bPool
  rw [List.set_append_right _ _ (by simp), show 16 + 2 * r - _ = 2 * r by simp, pair_set0 _ _ n r h]
  congr 1
  apply pair_congr
  intro i _
  refine ⟨?_, rfl⟩
  by_cases c : i = r
  · subst c; simp [va_up]
  · simp [va_up, c]
theorem bW_setitems {r : Nat} {g : Nat → Int32} (h : r < n) : (bW cI cO a ca ia n O I J F E K G).set (16 + (2 * r + 1)) (ia r, .inl (cI, K 4 r, .inl g)) = bW cI cO a ca ia n O I J F E K (va_up G r g) := by
  unfold bW bPool
  rw [List.set_append_right _ _ (by simp), show 16 + (2 * r + 1) - _ = 2 * r + 1 by simp, pair_set1 _ _ n r h]
  congr 1
  apply pair_congr
  intro i _
  refine ⟨rfl, ?_⟩
  by_cases c : i = r
  · subst c; simp [va_up]
  · simp [va_up, c]
end
theorem nI_max {a b : Nat} (ha : a < 2 ^ 31) (hb : b < 2 ^ 31) : (if nI a < nI b then nI b else nI a) = nI (max a b) := by
  by_cases h : a < b
  · rw [if_pos ((nI_ltI ha hb).mpr h), Nat.max_eq_right (by omega)]
  · rw [if_neg (fun q => h ((nI_ltI ha hb).mp q)), Nat.max_eq_left (by omega)]
theorem nI_min {a b : Nat} (ha : a < 2 ^ 31) (hb : b < 2 ^ 31) : (if nI b < nI a then nI b else nI a) = nI (min a b) := by
  by_cases h : b < a
  · rw [if_pos ((nI_ltI hb ha).mpr h), Nat.min_eq_right (by omega)]
  · rw [if_neg (fun q => h ((nI_ltI hb ha).mp q)), Nat.min_eq_left (by omega)]
/-! the draws -/
def gold : Int64 := (-7046029254386353131)
def ush (z : Int64) (k : Nat) : Int64 := (z.toUInt64 >>> ((nI k).toInt64.toUInt64 &&& Int64.toUInt64 63)).toInt64
def mixv (z : Int64) : Int64 :=
  let z1 := (z ^^^ ush z 30) * (-4658895280553007687)
  let z2 := (z1 ^^^ ush z1 27) * (-7723592293110705685)
  z2 ^^^ ush z2 31
def keyv (s k : Int64) : Int64 := mixv (s ^^^ (k * gold))
def dr (s : Int64) (n : Nat) : Nat := ((mixv s).toUInt64.toNat / 2) % n
theorem ush1 (x : Int64) : ush x 1 = lN (x.toUInt64.toNat / 2) ∧ x.toUInt64.toNat / 2 < 2 ^ 63 := by
  have h : x.toUInt64.toNat < 2 ^ 64 := UInt64.toNat_lt _
  refine ⟨?_, by omega⟩
  unfold ush lN
  have e : ((nI 1).toInt64.toUInt64 &&& Int64.toUInt64 63) = 1 := by decide
  rw [e]
  apply Int64.toBitVec_inj.mp
  apply BitVec.eq_of_toNat_eq
  have h1 : ((x.toUInt64 >>> (1 : UInt64)).toInt64).toBitVec.toNat = x.toUInt64.toNat / 2 := by
    show (x.toUInt64 >>> (1 : UInt64)).toNat = _
    rw [UInt64.toNat_shiftRight]
    simp [Nat.shiftRight_eq_div_pow]
  rw [h1]
  show _ = (Int64.ofNat _).toBitVec.toNat
  rw [show (Int64.ofNat (x.toUInt64.toNat / 2)).toBitVec = BitVec.ofNat 64 (x.toUInt64.toNat / 2) from rfl, BitVec.toNat_ofNat, Nat.mod_eq_of_lt (by omega)]
theorem dr_val (s : Int64) {n : Nat} (h0 : 0 < n) (hn : n < 2 ^ 31) : (ush (mixv s) 1 - ush (mixv s) 1 / lN n * lN n).toInt32 = nI (dr s n) := by
  obtain ⟨h1, h2⟩ := ush1 (mixv s)
  rw [h1, pk_lRem h2 h0 (by omega), lN_i]
  rfl
theorem dr_lt (s : Int64) {n : Nat} (h0 : 0 < n) : dr s n < n := Nat.mod_lt _ h0
def nxg (s : Int64) : Int64 := s + gold
/-- a row's mixing: k more places from the last one down, the row begins at o; the draws as variables, so that no check ever opens them -/
def shf (dd : Int64 → Nat → Nat) (nx : Int64 → Int64) (o : Nat) : Nat → (Nat → Nat) → Int64 → (Nat → Nat) × Int64
  | 0, f, s => (f, s)
  | k + 1, f, s => shf dd nx o k (va_up (va_up f (o + (k + 1)) (f (o + dd (nx s) (k + 1 + 1)))) (o + dd (nx s) (k + 1 + 1)) (f (o + (k + 1)))) (nx s)
theorem shf_step {dd : Int64 → Nat → Nat} {nx : Int64 → Int64} {o k d : Nat} {f : Nat → Nat} {s s1 : Int64} (e1 : s1 = nx s) (e2 : d = dd s1 (k + 1 + 1)) : shf dd nx o (k + 1) f s = shf dd nx o k (va_up (va_up f (o + (k + 1)) (f (o + d))) (o + d) (f (o + (k + 1)))) s1 := by
  subst e1; subst e2; rfl
