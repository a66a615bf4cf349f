/-! BALANCED -/
def cl (lb : Nat → Nat) (x : Nat) : Nat → Nat
  | 0 => 0
  | r + 1 => cl lb x r + (if lb r = x then 1 else 0)
def fil (lb : Nat → Nat) (x o : Nat) : Nat → (Nat → Nat) → (Nat → Nat)
  | 0, f => f
  | r + 1, f => if lb r = x then va_up (fil lb x o r f) (o + cl lb x r) r else fil lb x o r f
def fo (lb : Nat → Nat) (n : Nat) : Nat → Nat
  | 0 => 0
  | x + 1 => fo lb n x + cl lb x n
theorem cl_y {lb : Nat → Nat} {x r : Nat} (h : lb r = x) : cl lb x (r + 1) = cl lb x r + 1 := by show cl lb x r + (if lb r = x then 1 else 0) = _; rw [if_pos h]
theorem cl_n {lb : Nat → Nat} {x r : Nat} (h : ¬ lb r = x) : cl lb x (r + 1) = cl lb x r := by show cl lb x r + (if lb r = x then 1 else 0) = _; rw [if_neg h]; rfl
theorem cl_le {lb : Nat → Nat} {x : Nat} : ∀ r, cl lb x r ≤ r := by
  intro r
  induction r with
  | zero => exact Nat.le_refl _
  | succ r ih => by_cases h : lb r = x; (rw [cl_y h]; omega); (rw [cl_n h]; omega)
theorem cl_mono {lb : Nat → Nat} {x : Nat} : ∀ b a, a ≤ b → cl lb x a ≤ cl lb x b := by
  intro b
  induction b with
  | zero => intro a h; rw [show a = 0 by omega]; exact Nat.le_refl _
  | succ b ih =>
    intro a h
    by_cases e : a = b + 1
    · rw [e]; exact Nat.le_refl _
    · have h1 := ih a (by omega)
      by_cases q : lb b = x
      · rw [cl_y q]; omega
      · rw [cl_n q]; exact h1
theorem cl_pos {lb : Nat → Nat} {j : Nat} : ∀ n, j < n → 0 < cl lb (lb j) n := by
  intro n
  induction n with
  | zero => intro h; omega
  | succ n ih =>
    intro h
    by_cases e : lb n = lb j
    · rw [cl_y e]; omega
    · rw [cl_n e]; exact ih (by rcases Nat.lt_or_ge j n with q | q; exact q; (obtain rfl : j = n := (by omega); exact absurd rfl e))
theorem fo_s (lb : Nat → Nat) (r : Nat) : ∀ X, fo lb (r + 1) X = fo lb r X + (if lb r < X then 1 else 0) := by
  intro X
  induction X with
  | zero => rw [if_neg (by omega)]; rfl
  | succ X ih =>
    show fo lb (r + 1) X + cl lb X (r + 1) = fo lb r X + cl lb X r + _
    rw [ih]
    by_cases h : lb r = X
    · rw [cl_y h, if_neg (by omega), if_pos (by omega)]; omega
    · rw [cl_n h]
      by_cases h2 : lb r < X
      · rw [if_pos h2, if_pos (by omega)]; omega
      · rw [if_neg h2, if_neg (by omega)]; omega
theorem fo_le {lb : Nat → Nat} : ∀ r X, fo lb r X ≤ r := by
  intro r
  induction r with
  | zero =>
    intro X
    induction X with
    | zero => exact Nat.le_refl _
    | succ X ih => show fo lb 0 X + 0 ≤ 0; omega
  | succ r ih => intro X; rw [fo_s]; have := ih X; split <;> omega
theorem fo_up {lb : Nat → Nat} {n : Nat} : ∀ Y X, X < Y → fo lb n X + cl lb X n ≤ fo lb n Y := by
  intro Y
  induction Y with
  | zero => intro X h; omega
  | succ Y ih =>
    intro X h
    show _ ≤ fo lb n Y + cl lb Y n
    by_cases e : X = Y
    · rw [e]; exact Nat.le_refl _
    · have := ih X (by omega); omega
theorem fo_cl {lb : Nat → Nat} {n x : Nat} : fo lb n x + cl lb x n ≤ n := fo_le (lb := lb) n (x + 1)
theorem fo_apart {lb : Nat → Nat} {n x y i : Nat} (h : y ≠ x) (hi : i < cl lb y n) : fo lb n y + i < fo lb n x ∨ fo lb n x + cl lb x n ≤ fo lb n y + i := by
  rcases Nat.lt_or_ge y x with q | q
  · have := fo_up (lb := lb) (n := n) x y q; omega
  · have := fo_up (lb := lb) (n := n) y x (by omega); omega
theorem fil_y {lb : Nat → Nat} {x o r : Nat} {f : Nat → Nat} (h : lb r = x) : fil lb x o (r + 1) f = va_up (fil lb x o r f) (o + cl lb x r) r := by show (if lb r = x then _ else _) = _; rw [if_pos h]
theorem fil_n {lb : Nat → Nat} {x o r : Nat} {f : Nat → Nat} (h : ¬ lb r = x) : fil lb x o (r + 1) f = fil lb x o r f := by show (if lb r = x then _ else _) = _; rw [if_neg h]
theorem fil_in {lb : Nat → Nat} {x o : Nat} {f g : Nat → Nat} : ∀ r i, i < cl lb x r → fil lb x o r f (o + i) = fil lb x o r g (o + i) := by
  intro r
  induction r with
  | zero => intro i h; exact absurd h (Nat.not_lt_zero _)
  | succ r ih =>
    intro i h
    by_cases e : lb r = x
    · rw [cl_y e] at h
      rw [fil_y e, fil_y e]
      by_cases q : o + i = o + cl lb x r
      · rw [q, up_same, up_same]
      · rw [up_ne _ _ q, up_ne _ _ q]; exact ih i (by omega)
    · rw [cl_n e] at h
      rw [fil_n e, fil_n e]; exact ih i h
theorem fil_lt {lb : Nat → Nat} {x o : Nat} {f : Nat → Nat} : ∀ r i, i < cl lb x r → fil lb x o r f (o + i) < r := by
  intro r
  induction r with
  | zero => intro i h; exact absurd h (Nat.not_lt_zero _)
  | succ r ih =>
    intro i h
    by_cases e : lb r = x
    · rw [cl_y e] at h
      rw [fil_y e]
      by_cases q : o + i = o + cl lb x r
      · rw [q, up_same]; omega
      · rw [up_ne _ _ q]; have := ih i (by omega); omega
    · rw [cl_n e] at h
      rw [fil_n e]; have := ih i h; omega
theorem fil_out {lb : Nat → Nat} {x o y : Nat} {f : Nat → Nat} : ∀ r, (y < o ∨ o + cl lb x r ≤ y) → fil lb x o r f y = f y := by
  intro r
  induction r with
  | zero => intro _; rfl
  | succ r ih =>
    intro h
    by_cases e : lb r = x
    · rw [cl_y e] at h
      rw [fil_y e, up_ne _ _ (by omega)]; exact ih (by omega)
    · rw [cl_n e] at h
      rw [fil_n e]; exact ih h
/-- the rows of LABEL x, as its j-th mixing leaves them -/
def mixR (sd : Int64) (rd : Nat) (lb : Nat → Nat) (n x j : Nat) : Nat → Nat := fun i =>
  (shf dr nxg (fo lb n x) (cl lb x n - 1) (fil lb x (fo lb n x) n (fun _ => 0)) (keyv (keyv (strm sd 3 rd) (lN x)) (lN j))).1 (fo lb n x + i)
theorem mixR_of {sd s t : Int64} {rd n x j : Nat} {lb f g : Nat → Nat} (h0 : 0 < cl lb x n) (hs : s = keyv (keyv (strm sd 3 rd) (lN x)) (lN j)) (e : (g, t) = shf dr nxg (fo lb n x) (cl lb x n - 1) (fil lb x (fo lb n x) n f) s) :
    (∀ i, i < cl lb x n → g (fo lb n x + i) = mixR sd rd lb n x j i) ∧ (∀ y, (y < fo lb n x ∨ fo lb n x + cl lb x n ≤ y) → g y = f y) := by
  have h1 : g = (shf dr nxg (fo lb n x) (cl lb x n - 1) (fil lb x (fo lb n x) n f) s).1 := congrArg Prod.fst e
  refine ⟨fun i hi => ?_, fun y hy => ?_⟩
  · rw [h1, (shf_congr (nx := nxg) dr_ok (o := fo lb n x) (N := cl lb x n) (cl lb x n - 1) _ (fil lb x (fo lb n x) n (fun _ => 0)) s (by omega) (fun j hj => fil_in n j hj)).1 i hi, hs]
    rfl
  · rw [h1, shf_out (nx := nxg) dr_ok (o := fo lb n x) (N := cl lb x n) hy (cl lb x n - 1) _ _ (by omega)]
    exact fil_out n hy
theorem mixR_lt {sd : Int64} {rd n x j : Nat} {lb : Nat → Nat} (h0 : 0 < cl lb x n) : ∀ i, i < cl lb x n → mixR sd rd lb n x j i < n := by
  intro i hi
  exact shf_P (nx := nxg) dr_ok (P := fun z => z < n) (o := fo lb n x) (N := cl lb x n) (cl lb x n - 1) _ _ (by omega) (fun k hk => fil_lt n k hk) i hi
/-- the steps through the LABELS: how many came, how often each LABEL, the order -/
def balI (m : Nat → Nat) (it : Nat → Nat → Nat) : Nat → Nat × (Nat → Nat) × (Nat → Nat)
  | 0 => (0, fun _ => 0, fun _ => 0)
  | s + 1 =>
    match balI m it s with
    | (k, ct, g) => if m (s % 8) = 0 then (k, ct, g) else (k + 1, va_up ct (s % 8) (ct (s % 8) + 1), va_up g k (it (s % 8) (ct (s % 8))))
theorem bal_0 {m : Nat → Nat} {it : Nat → Nat → Nat} {s x k : Nat} {ct g : Nat → Nat} (e : balI m it s = (k, ct, g)) (ex : x = s % 8) (h : m x = 0) : balI m it (s + 1) = (k, ct, g) := by
  subst ex
  rw [balI, e]
  exact if_pos h
theorem bal_1 {m : Nat → Nat} {it : Nat → Nat → Nat} {s x k : Nat} {ct g : Nat → Nat} (e : balI m it s = (k, ct, g)) (ex : x = s % 8) (h : ¬ m x = 0) : balI m it (s + 1) = (k + 1, va_up ct x (ct x + 1), va_up g k (it x (ct x))) := by
  subst ex
  rw [balI, e]
  exact if_neg h
theorem bal_stable {m : Nat → Nat} {it : Nat → Nat → Nat} {s : Nat} {k : Nat} {ct g : Nat → Nat} (e : balI m it s = (k, ct, g)) : ∀ t, ∃ k' ct' g', balI m it (s + t) = (k', ct', g') ∧ k ≤ k' ∧ ∀ i, i < k → g' i = g i := by
  intro t
  induction t with
  | zero => exact ⟨k, ct, g, e, Nat.le_refl _, fun _ _ => rfl⟩
  | succ t ih =>
    obtain ⟨k', ct', g', e', h1, h2⟩ := ih
    by_cases h : m ((s + t) % 8) = 0
    · exact ⟨k', ct', g', bal_0 e' rfl h, h1, h2⟩
    · refine ⟨_, _, _, bal_1 e' rfl h, by omega, fun i hi => ?_⟩
      rw [up_ne _ _ (by omega)]; exact h2 i hi
def itm (R : Nat → Nat → Nat → Nat) (m : Nat → Nat) : Nat → Nat → Nat := fun x t => R x (t / m x) (t % m x)
def isB (sd : Int64) (rd n : Nat) (lb g : Nat → Nat) : Prop := ∃ s ct gg, balI (fun x => cl lb x n) (itm (mixR sd rd lb n) (fun x => cl lb x n)) s = (n, ct, gg) ∧ ∀ i, i < n → g i = gg i
theorem isB_uniq {sd : Int64} {rd n : Nat} {lb g h : Nat → Nat} (hg : isB sd rd n lb g) (hh : isB sd rd n lb h) : ∀ i, i < n → g i = h i := by
  obtain ⟨s, ct, a, e1, a1⟩ := hg
  obtain ⟨t, cu, b, e2, b1⟩ := hh
  intro i hi
  rw [a1 i hi, b1 i hi]
  rcases Nat.le_total s t with q | q
  · obtain ⟨k', ct', g', e3, -, h2⟩ := bal_stable e1 (t - s)
    rw [show s + (t - s) = t by omega] at e3
    have e4 := e3.symm.trans e2
    simp only [Prod.mk.injEq] at e4
    rw [← e4.2.2]; exact (h2 i hi).symm
  · obtain ⟨k', ct', g', e3, -, h2⟩ := bal_stable e2 (s - t)
    rw [show t + (s - t) = s by omega] at e3
    have e4 := e3.symm.trans e1
    simp only [Prod.mk.injEq] at e4
    rw [← e4.2.2]; exact h2 i hi
theorem dm_end {c m : Nat} (h0 : 0 < m) (hc : 0 < c) (h : (c - 1) % m + 1 = m) : c / m = (c - 1) / m + 1 ∧ c % m = 0 := by
  have e := Nat.div_add_mod (c - 1) m
  have e2 : c = m * ((c - 1) / m + 1) := by rw [Nat.mul_add, Nat.mul_one]; omega
  exact ⟨by rw [e2, Nat.mul_div_cancel_left _ h0, ← e2], by rw [e2]; exact Nat.mul_mod_right _ _⟩
theorem dm_in {c m : Nat} (h0 : 0 < m) (hc : 0 < c) (h : (c - 1) % m + 1 < m) : c / m = (c - 1) / m ∧ c % m = (c - 1) % m + 1 := by
  have e := Nat.div_add_mod (c - 1) m
  have e2 : c = m * ((c - 1) / m) + ((c - 1) % m + 1) := by omega
  refine ⟨?_, ?_⟩
  · rw [show c / m = (m * ((c - 1) / m) + ((c - 1) % m + 1)) / m by rw [← e2], Nat.mul_add_div h0, Nat.div_eq_of_lt h, Nat.add_zero]
  · rw [show c % m = (m * ((c - 1) / m) + ((c - 1) % m + 1)) % m by rw [← e2], Nat.mul_add_mod, Nat.mod_eq_of_lt h]
/-- what is known of a LABEL's rows behind c of them: taken, how often mixed, the rows; z: at first (class: nothing is mixed yet; model: once) -/
def labI (z : Bool) (m c tk mx : Nat) (sg : Nat → Nat) (R : Nat → Nat → Nat) : Prop :=
  (c = 0 → if z then (tk = m ∧ mx = 0) else (tk = 0 ∧ mx = 1 ∧ ∀ i, i < m → sg i = R 0 i)) ∧ (0 < c → tk = (c - 1) % m + 1 ∧ mx = (c - 1) / m + 1 ∧ ∀ i, i < m → sg i = R ((c - 1) / m) i)
theorem lab_end {z : Bool} {m c tk mx : Nat} {sg : Nat → Nat} {R : Nat → Nat → Nat} (h : labI z m c tk mx sg R) (h0 : 0 < m) (ht : m ≤ tk) : mx = c / m ∧ c % m = 0 := by
  rcases Nat.eq_zero_or_pos c with rfl | hc
  · cases z with
    | true => obtain ⟨-, h2⟩ := h.1 rfl; exact ⟨by rw [h2]; simp, by simp⟩
    | false => obtain ⟨h2, -⟩ := h.1 rfl; omega
  · obtain ⟨h1, h2, -⟩ := h.2 hc
    have hl := Nat.mod_lt (c - 1) h0
    obtain ⟨a, b⟩ := dm_end h0 hc (by omega)
    exact ⟨by omega, b⟩
theorem lab_in {z : Bool} {m c tk mx : Nat} {sg : Nat → Nat} {R : Nat → Nat → Nat} (h : labI z m c tk mx sg R) (h0 : 0 < m) (ht : tk < m) : tk = c % m ∧ mx = c / m + 1 ∧ ∀ i, i < m → sg i = R (c / m) i := by
  rcases Nat.eq_zero_or_pos c with rfl | hc
  · cases z with
    | true => obtain ⟨h2, -⟩ := h.1 rfl; omega
    | false => obtain ⟨h1, h2, h3⟩ := h.1 rfl; exact ⟨by rw [h1]; simp, by rw [h2]; simp, by simpa using h3⟩
  · obtain ⟨h1, h2, h3⟩ := h.2 hc
    obtain ⟨a, b⟩ := dm_in h0 hc (by omega)
    exact ⟨by omega, by omega, by rw [a]; exact h3⟩
theorem lab_next {z : Bool} {m c tk mx : Nat} {sg : Nat → Nat} {R : Nat → Nat → Nat} (h1 : tk = c % m) (h2 : mx = c / m + 1) (h3 : ∀ i, i < m → sg i = R (c / m) i) : labI z m (c + 1) (tk + 1) mx sg R :=
  ⟨fun h => by omega, fun _ => ⟨by rw [Nat.add_sub_cancel, h1], by rw [Nat.add_sub_cancel, h2], by rw [Nat.add_sub_cancel]; exact h3⟩⟩
/-- of all LABELS -/
def labs (z : Bool) (R : Nat → Nat → Nat → Nat) (m fs ct tk mx sc : Nat → Nat) : Prop := ∀ y, y < 8 → 0 < m y → labI z (m y) (ct y) (tk y) (mx y) (fun i => sc (fs y + i)) (R y)
theorem labs_next {z : Bool} {R : Nat → Nat → Nat → Nat} {m fs ct tk mx sc tk1 mx1 sc1 : Nat → Nat} {x : Nat} (h : labs z R m fs ct tk mx sc) (hx : x < 8) (h0 : 0 < m x)
    (ho : ∀ y, y < 8 → y ≠ x → tk1 y = tk y ∧ mx1 y = mx y ∧ ∀ i, i < m y → sc1 (fs y + i) = sc (fs y + i)) (h1 : tk1 x = ct x % m x) (h2 : mx1 x = ct x / m x + 1) (h3 : ∀ i, i < m x → sc1 (fs x + i) = R x (ct x / m x) i) :
    labs z R m fs (va_up ct x (ct x + 1)) (va_up tk1 x (tk1 x + 1)) mx1 sc1 := by
  intro y hy hm
  by_cases e : y = x
  · subst e
    rw [up_same, up_same]
    exact lab_next h1 h2 h3
  · obtain ⟨o1, o2, o3⟩ := ho y hy e
    rw [up_ne _ _ e, up_ne _ _ e, o1, o2]
    have q := h y hy hm
    refine ⟨fun c => ?_, fun c => ?_⟩
    · have q1 := q.1 c
      cases z with
      | true => exact q1
      | false => exact ⟨q1.1, q1.2.1, fun i hi => by show sc1 (fs y + i) = _; rw [o3 i hi]; exact q1.2.2 i hi⟩
    · have q1 := q.2 c
      exact ⟨q1.1, q1.2.1, fun i hi => by show sc1 (fs y + i) = _; rw [o3 i hi]; exact q1.2.2 i hi⟩
