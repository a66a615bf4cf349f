/-! the mathematics of the acts -/
def flN (ac kd H W L : Nat) (n : Int) : Nat := if kd = 2 then 1 else if ¬ (kd = 0 ↔ 2 < ac) then 2 else if (ac = 1 ∧ ((H : Int) < n ∨ (W : Int) < n)) ∨ (ac = 4 ∧ L = 0 ∧ 0 < n) then 3 else if ac = 1 ∧ n < 0 then 5 else if (ac = 2 ∧ n = 0) ∨ (ac = 4 ∧ L = 1 ∧ 0 < n) then 6 else 0
theorem fl0 {ac kd H W L : Nat} {n : Int} (h : flN ac kd H W L n = 0) : kd ≠ 2 ∧ (kd = 0 ↔ 2 < ac) ∧ ¬ ((ac = 1 ∧ ((H : Int) < n ∨ (W : Int) < n)) ∨ (ac = 4 ∧ L = 0 ∧ 0 < n)) ∧ ¬ (ac = 1 ∧ n < 0) ∧ ¬ ((ac = 2 ∧ n = 0) ∨ (ac = 4 ∧ L = 1 ∧ 0 < n)) := by
  unfold flN at h
  split at h
  · omega
  · split at h
    · omega
    · split at h
      · omega
      · split at h
        · omega
        · split at h
          · omega
          · omega
theorem yx_lt {y x H W : Nat} (hy : y < H) (hx : x < W) : y * W + x < H * W := by
  have h1 : (y + 1) * W ≤ H * W := Nat.mul_le_mul_right _ hy
  rw [Nat.succ_mul] at h1
  omega
theorem yx_inj {a b a' b' n : Nat} (hb : b < n) (hb' : b' < n) (h : a * n + b = a' * n + b') : a = a' ∧ b = b' := by
  have h1 : (a * n + b) / n = (a' * n + b') / n := by rw [h]
  rw [Nat.mul_comm a n, Nat.mul_comm a' n, Nat.mul_add_div (by omega), Nat.mul_add_div (by omega), Nat.div_eq_of_lt hb, Nat.div_eq_of_lt hb'] at h1
  have e : a = a' := by omega
  subst e
  exact ⟨rfl, by omega⟩
theorem yx_ex {i H W : Nat} (h : i < H * W) : ∃ y x, y < H ∧ x < W ∧ i = y * W + x := by
  have hW : 0 < W := by rcases Nat.eq_zero_or_pos W with z | z; (subst z; omega); exact z
  refine ⟨i / W, i % W, ?_, Nat.mod_lt _ hW, ?_⟩
  · exact (Nat.div_lt_iff_lt_mul hW).mpr h
  · have := Nat.div_add_mod i W; rw [Nat.mul_comm] at this; omega
/-- where the byte of line y, place x lies behind d quarters -/
def tpl (d H W y x : Nat) : Nat := if d = 1 then x * H + (H - 1 - y) else if d = 2 then (H - 1 - y) * W + (W - 1 - x) else if d = 3 then (W - 1 - x) * H + y else y * W + x
def tH (d H W : Nat) : Nat := if d % 2 = 0 then H else W
def tW (d H W : Nat) : Nat := if d % 2 = 0 then W else H
theorem tpl_lt {d H W y x : Nat} (hy : y < H) (hx : x < W) : tpl d H W y x < H * W := by
  unfold tpl
  split
  · rw [Nat.mul_comm H W]; exact yx_lt hx (by omega)
  · split
    · exact yx_lt (by omega) (by omega)
    · split
      · rw [Nat.mul_comm H W]; exact yx_lt (by omega) hy
      · exact yx_lt hy hx
theorem tpl_inj {d H W y x y' x' : Nat} (hy : y < H) (hx : x < W) (hy' : y' < H) (hx' : x' < W) (h : tpl d H W y x = tpl d H W y' x') : y = y' ∧ x = x' := by
  unfold tpl at h
  split at h
  · have := yx_inj (by omega) (by omega) h; omega
  · split at h
    · have := yx_inj (by omega) (by omega) h; omega
    · split at h
      · have := yx_inj hy hy' h; omega
      · exact yx_inj hx hx' h
theorem tpl_ex {d H W i : Nat} (h : i < H * W) : ∃ y x, y < H ∧ x < W ∧ i = tpl d H W y x := by
  unfold tpl
  split
  · rw [Nat.mul_comm] at h
    obtain ⟨a, b, ha, hb, e⟩ := yx_ex h
    exact ⟨H - 1 - b, a, by omega, ha, by rw [e, show H - 1 - (H - 1 - b) = b by omega]⟩
  · split
    · obtain ⟨a, b, ha, hb, e⟩ := yx_ex h
      exact ⟨H - 1 - a, W - 1 - b, by omega, by omega, by rw [e, show H - 1 - (H - 1 - a) = a by omega, show W - 1 - (W - 1 - b) = b by omega]⟩
    · split
      · rw [Nat.mul_comm] at h
        obtain ⟨a, b, ha, hb, e⟩ := yx_ex h
        exact ⟨b, W - 1 - a, hb, by omega, by rw [e, show W - 1 - (W - 1 - a) = a by omega]⟩
      · exact yx_ex h
def isT (d H W : Nat) (s o : Nat → Int32) : Prop := ∀ y x, y < H → x < W → o (tpl d H W y x) = s (y * W + x)
theorem isT_0 {H W : Nat} {s o : Nat → Int32} (h : ∀ k, k < H * W → o k = s k) : isT 0 H W s o := fun y x hy hx => by
  show o (y * W + x) = _
  exact h _ (yx_lt hy hx)
/-- one more quarter -/
theorem isT_s {t H W : Nat} {s o o' : Nat → Int32} (ht : t < 3) (h : isT t H W s o) (hq : ∀ r c, r < tW t H W → c < tH t H W → o' (r * tH t H W + c) = o ((tH t H W - 1 - c) * tW t H W + r)) : isT (t + 1) H W s o' := by
  intro y x hy hx
  rw [← h y x hy hx]
  rcases (show t = 0 ∨ t = 1 ∨ t = 2 by omega) with rfl | rfl | rfl
  · have q := hq x (H - 1 - y) hx (by show H - 1 - y < H; omega)
    show o' (x * H + (H - 1 - y)) = o (y * W + x)
    refine q.trans ?_
    show o ((H - 1 - (H - 1 - y)) * W + x) = _
    rw [show H - 1 - (H - 1 - y) = y by omega]
  · have q := hq (H - 1 - y) (W - 1 - x) (by show H - 1 - y < H; omega) (by show W - 1 - x < W; omega)
    show o' ((H - 1 - y) * W + (W - 1 - x)) = o (x * H + (H - 1 - y))
    refine q.trans ?_
    show o ((W - 1 - (W - 1 - x)) * H + (H - 1 - y)) = _
    rw [show W - 1 - (W - 1 - x) = x by omega]
  · have q := hq (W - 1 - x) y (by show W - 1 - x < W; omega) hy
    show o' ((W - 1 - x) * H + y) = o ((H - 1 - y) * W + (W - 1 - x))
    exact q
/-- words that stay -/
def kp (n : Nat) (s : Int64) : Nat → Nat := fun j => if n ≤ dr (sIt nxg s (j + 1)) 100 then 1 else 0
theorem cl_at {lb : Nat → Nat} {x : Nat} : ∀ r i, i < cl lb x r → ∃ j, j < r ∧ lb j = x ∧ cl lb x j = i := by
  intro r
  induction r with
  | zero => intro i h; exact absurd h (Nat.not_lt_zero _)
  | succ r ih =>
    intro i h
    by_cases e : lb r = x
    · rw [cl_y e] at h
      by_cases q : i = cl lb x r
      · exact ⟨r, by omega, e, q.symm⟩
      · obtain ⟨j, a, b, c⟩ := ih i (by omega)
        exact ⟨j, by omega, b, c⟩
    · rw [cl_n e] at h
      obtain ⟨j, a, b, c⟩ := ih i h
      exact ⟨j, by omega, b, c⟩
theorem cl_st {lb : Nat → Nat} {x j r : Nat} (hj : j < r) (e : lb j = x) : cl lb x j < cl lb x r := by
  have h1 := cl_mono (lb := lb) (x := x) r (j + 1) hj
  rw [cl_y e] at h1
  omega
/-- words that change places -/
def swI (dd : Int64 → Nat → Nat) (nx : Int64 → Int64) (L : Nat) (s : Int64) (f : Nat → Int32) : Nat → (Nat → Int32)
  | 0 => f
  | t + 1 => upd (upd (swI dd nx L s f t) (dd (sIt nx s (t + 1)) (L - 1)) (swI dd nx L s f t (dd (sIt nx s (t + 1)) (L - 1) + 1))) (dd (sIt nx s (t + 1)) (L - 1) + 1) (swI dd nx L s f t (dd (sIt nx s (t + 1)) (L - 1)))
theorem swI_s {dd : Int64 → Nat → Nat} {nx : Int64 → Int64} {L t k : Nat} {s : Int64} {f o : Nat → Int32} (hk : k = dd (sIt nx s (t + 1)) (L - 1)) (hk2 : k + 1 < L) (h : ∀ i, i < L → o i = swI dd nx L s f t i) : ∀ i, i < L → upd (upd o k (o (k + 1))) (k + 1) (o k) i = swI dd nx L s f (t + 1) i := by
  intro i hi
  show _ = upd (upd (swI dd nx L s f t) (dd (sIt nx s (t + 1)) (L - 1)) (swI dd nx L s f t (dd (sIt nx s (t + 1)) (L - 1) + 1))) (dd (sIt nx s (t + 1)) (L - 1) + 1) (swI dd nx L s f t (dd (sIt nx s (t + 1)) (L - 1))) i
  rw [← hk]
  by_cases e : i = k + 1
  · subst e; rw [pk_us, pk_us]; exact h k (by omega)
  · rw [pk_un e, pk_un e]
    by_cases q : i = k
    · subst q; rw [pk_us, pk_us]; exact h _ hk2
    · rw [pk_un q, pk_un q]; exact h i hi
/-- what an ACT makes: n is its number, s the ROW's items, sg the stream -/
def ActIs (ac n H W L : Nat) (sg : Int64) (s : Nat → Int32) (kd Ho Wo Lo : Nat) (o : Nat → Int32) : Prop :=
  (ac = 0 → kd = 1 ∧ Ho = tH (dr (nxg sg) 4) H W ∧ Wo = tW (dr (nxg sg) 4) H W ∧ Lo = H * W ∧ isT (dr (nxg sg) 4) H W s o) ∧
  (ac = 1 → kd = 1 ∧ Ho = n ∧ Wo = n ∧ Lo = n * n ∧ ∀ y x, y < n → x < n → o (y * n + x) = s ((dr (nxg sg) (H - n + 1) + y) * W + dr (nxg (nxg sg)) (W - n + 1) + x)) ∧
  (ac = 2 → kd = 1 ∧ Ho = H ∧ Wo = W ∧ Lo = L ∧ ∀ k, k < L → o k = s k ^^^ nI (dr (sIt nxg sg (k + 1)) n)) ∧
  (ac = 3 → kd = 0 ∧ Ho = 0 ∧ Wo = 0 ∧ Lo = cl (kp n sg) 1 L ∧ ∀ j, j < L → kp n sg j = 1 → o (cl (kp n sg) 1 j) = s j) ∧
  (ac = 4 → kd = 0 ∧ Ho = 0 ∧ Wo = 0 ∧ Lo = L ∧ ∀ k, k < L → o k = swI dr nxg L sg s n k)
theorem ActIs.uniq {ac n H W L : Nat} {sg : Int64} {s s' : Nat → Int32} {kd Ho Wo Lo kd' Ho' Wo' Lo' : Nat} {o o' : Nat → Int32} (hac : ac ≤ 4) (hcr : ac = 1 → n ≤ H ∧ n ≤ W) (hL : ac ≤ 2 → L = H * W) (hsw : ac = 4 → n = 0 ∨ 2 ≤ L) (hs : ∀ k, k < L → s k = s' k) (a : ActIs ac n H W L sg s kd Ho Wo Lo o) (b : ActIs ac n H W L sg s' kd' Ho' Wo' Lo' o') : kd = kd' ∧ Ho = Ho' ∧ Wo = Wo' ∧ Lo = Lo' ∧ ∀ k, k < Lo → o k = o' k := by
  obtain ⟨a0, a1, a2, a3, a4⟩ := a
  obtain ⟨b0, b1, b2, b3, b4⟩ := b
  rcases (show ac = 0 ∨ ac = 1 ∨ ac = 2 ∨ ac = 3 ∨ ac = 4 by omega) with z | z | z | z | z
  · obtain ⟨p1, p2, p3, p4, p5⟩ := a0 z
    obtain ⟨q1, q2, q3, q4, q5⟩ := b0 z
    refine ⟨by omega, by rw [p2, q2], by rw [p3, q3], by omega, fun k hk => ?_⟩
    rw [p4] at hk
    obtain ⟨y, x, hy, hx, e⟩ := tpl_ex (d := dr (nxg sg) 4) hk
    rw [e, p5 y x hy hx, q5 y x hy hx]
    exact hs _ (by rw [hL (by omega)]; exact yx_lt hy hx)
  · obtain ⟨p1, p2, p3, p4, p5⟩ := a1 z
    obtain ⟨q1, q2, q3, q4, q5⟩ := b1 z
    refine ⟨by omega, by omega, by omega, by omega, fun k hk => ?_⟩
    rw [p4] at hk
    obtain ⟨y, x, hy, hx, e⟩ := yx_ex hk
    rw [e, p5 y x hy hx, q5 y x hy hx]
    obtain ⟨h1, h2⟩ := hcr z
    refine hs _ ?_
    rw [hL (by omega), Nat.add_assoc]
    have d1 := dr_lt (nxg sg) (n := H - n + 1) (by omega)
    have d2 := dr_lt (nxg (nxg sg)) (n := W - n + 1) (by omega)
    exact yx_lt (by omega) (by omega)
  · obtain ⟨p1, p2, p3, p4, p5⟩ := a2 z
    obtain ⟨q1, q2, q3, q4, q5⟩ := b2 z
    exact ⟨by omega, by omega, by omega, by omega, fun k hk => by rw [p5 k (by omega), q5 k (by omega), hs k (by omega)]⟩
  · obtain ⟨p1, p2, p3, p4, p5⟩ := a3 z
    obtain ⟨q1, q2, q3, q4, q5⟩ := b3 z
    refine ⟨by omega, by omega, by omega, by omega, fun k hk => ?_⟩
    rw [p4] at hk
    obtain ⟨j, hj, e, f⟩ := cl_at L k hk
    rw [← f, p5 j hj e, q5 j hj e, hs j hj]
  · obtain ⟨p1, p2, p3, p4, p5⟩ := a4 z
    obtain ⟨q1, q2, q3, q4, q5⟩ := b4 z
    refine ⟨by omega, by omega, by omega, by omega, fun k hk => ?_⟩
    rw [p5 k (by omega), q5 k (by omega)]
    have key : ∀ t, t ≤ n → ∀ i, i < L → swI dr nxg L sg s t i = swI dr nxg L sg s' t i := by
      intro t
      induction t with
      | zero => intro _; exact hs
      | succ t ih =>
        intro ht i hi
        have h2 : 2 ≤ L := by rcases hsw z with q | q; omega; exact q
        have d1 := dr_lt (sIt nxg sg (t + 1)) (n := L - 1) (by omega)
        exact swI_s rfl (by omega) (ih (by omega)) i hi
    exact key n (Nat.le_refl n) k (by omega)
