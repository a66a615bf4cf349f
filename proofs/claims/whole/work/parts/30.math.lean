/-! the mathematics of the orders: draws are variables (dd, nx) throughout -/
def idn (r : Nat) (f : Nat → Nat) : Nat → Nat := fun i => if i < r then i else f i
theorem idn_0 (f : Nat → Nat) : idn 0 f = f := by funext i; unfold idn; rw [if_neg (by omega)]
theorem idn_s (r : Nat) (f : Nat → Nat) : va_up (idn r f) r r = idn (r + 1) f := by
  funext i; unfold va_up idn
  by_cases h : i = r
  · rw [if_pos h, if_pos (by omega), h]
  · rw [if_neg h]
    by_cases h2 : i < r
    · rw [if_pos h2, if_pos (by omega)]
    · rw [if_neg h2, if_neg (by omega)]
def strm (s : Int64) (a b : Nat) : Int64 := keyv (keyv s (lN a)) (lN b)
section
variable {dd : Int64 → Nat → Nat} {nx : Int64 → Int64}
theorem swp_at {f g : Nat → Nat} {o N x y : Nat} (hx : x < N) (hy : y < N) (h : ∀ i, i < N → f (o + i) = g (o + i)) (i : Nat) (hi : i < N) :
    va_up (va_up f (o + x) (f (o + y))) (o + y) (f (o + x)) (o + i) = va_up (va_up g (o + x) (g (o + y))) (o + y) (g (o + x)) (o + i) := by
  by_cases h1 : o + i = o + y
  · rw [h1, up_same, up_same, h x hx]
  · rw [up_ne _ _ h1, up_ne _ _ h1]
    by_cases h2 : o + i = o + x
    · rw [h2, up_same, up_same, h y hy]
    · rw [up_ne _ _ h2, up_ne _ _ h2, h i hi]
theorem shf_congr (hdd : ∀ s m, 0 < m → dd s m < m) {o N : Nat} : ∀ (k : Nat) (f g : Nat → Nat) (s : Int64), k < N → (∀ i, i < N → f (o + i) = g (o + i)) →
    (∀ i, i < N → (shf dd nx o k f s).1 (o + i) = (shf dd nx o k g s).1 (o + i)) ∧ (shf dd nx o k f s).2 = (shf dd nx o k g s).2 := by
  intro k
  induction k with
  | zero => intro f g s _ h; exact ⟨h, rfl⟩
  | succ k ih =>
    intro f g s hk h
    have hd := hdd (nx s) (k + 1 + 1) (by omega)
    rw [shf_step (f := f) rfl rfl, shf_step (f := g) rfl rfl]
    exact ih _ _ _ (by omega) (swp_at hk (by omega) h)
theorem shf_out (hdd : ∀ s m, 0 < m → dd s m < m) {o N x : Nat} (hx : x < o ∨ o + N ≤ x) : ∀ (k : Nat) (f : Nat → Nat) (s : Int64), k < N → (shf dd nx o k f s).1 x = f x := by
  intro k
  induction k with
  | zero => intro f s _; rfl
  | succ k ih =>
    intro f s hk
    have hd := hdd (nx s) (k + 1 + 1) (by omega)
    rw [shf_step (f := f) rfl rfl, ih _ _ (by omega), up_ne _ _ (by omega), up_ne _ _ (by omega)]
theorem shf_P (hdd : ∀ s m, 0 < m → dd s m < m) {P : Nat → Prop} {o N : Nat} : ∀ (k : Nat) (f : Nat → Nat) (s : Int64), k < N → (∀ i, i < N → P (f (o + i))) → ∀ i, i < N → P ((shf dd nx o k f s).1 (o + i)) := by
  intro k
  induction k with
  | zero => intro f s _ h; exact h
  | succ k ih =>
    intro f s hk h
    have hd := hdd (nx s) (k + 1 + 1) (by omega)
    rw [shf_step (f := f) rfl rfl]
    refine ih _ _ (by omega) (fun i hi => ?_)
    by_cases h1 : o + i = o + dd (nx s) (k + 1 + 1)
    · rw [h1, up_same]; exact h (k + 1) hk
    · rw [up_ne _ _ h1]
      by_cases h2 : o + i = o + (k + 1)
      · rw [h2, up_same]; exact h _ (by omega)
      · rw [up_ne _ _ h2]; exact h i hi
end
theorem dr_ok : ∀ s m, 0 < m → dr s m < m := fun s m h => dr_lt s h
/-- PLAIN: of n rows, from the stream's state s -/
def plO (s : Int64) (n : Nat) : Nat → Nat := (shf dr nxg 0 (n - 1) (fun i => i) s).1
theorem plO_of {n : Nat} {f g : Nat → Nat} {s t : Int64} (h : (g, t) = shf dr nxg 0 (n - 1) (idn n f) s) : ∀ i, i < n → g i = plO s n i := by
  intro i hi
  have h1 : g = (shf dr nxg 0 (n - 1) (idn n f) s).1 := congrArg Prod.fst h
  have h2 := (shf_congr (nx := nxg) dr_ok (o := 0) (N := n) (n - 1) (idn n f) (fun i => i) s (by omega) (fun j hj => by unfold idn; rw [if_pos (by omega)])).1 i hi
  rw [Nat.zero_add] at h2
  rw [h1, h2]
  rfl
theorem plO_lt {n : Nat} {s : Int64} : ∀ i, i < n → plO s n i < n := by
  intro i hi
  have h := shf_P (nx := nxg) dr_ok (P := fun x => x < n) (o := 0) (N := n) (n - 1) (fun i => i) s (by omega) (fun j hj => by show 0 + j < n; omega) i hi
  rw [Nat.zero_add] at h
  exact h
/-! LENGTHS -/
def insL (ln : Nat → Nat) (v lo : Nat) : Nat → (Nat → Nat) → (Nat → Nat)
  | 0, f => va_up f lo v
  | d + 1, f => if ln v < ln (f (lo + d)) then insL ln v lo d (va_up f (lo + (d + 1)) (f (lo + d))) else va_up f (lo + (d + 1)) v
def srtF (ln : Nat → Nat) (lo : Nat) : Nat → (Nat → Nat) → (Nat → Nat)
  | 0, f => f
  | c + 1, f => insL ln (srtF ln lo c f (lo + (c + 1))) lo (c + 1) (srtF ln lo c f)
def prt (ln : Nat → Nat) (grp n : Nat) : Nat → (Nat → Nat) → (Nat → Nat)
  | 0, f => f
  | t + 1, f => srtF ln (t * grp) (min n (t * grp + grp) - t * grp - 1) (prt ln grp n t f)
theorem insL_s (ln : Nat → Nat) (v lo d : Nat) (f : Nat → Nat) : insL ln v lo (d + 1) f = if ln v < ln (f (lo + d)) then insL ln v lo d (va_up f (lo + (d + 1)) (f (lo + d))) else va_up f (lo + (d + 1)) v := rfl
theorem insL_congr {ln : Nat → Nat} {v lo N : Nat} : ∀ (d : Nat) (f g : Nat → Nat), lo + d < N → (∀ i, i < N → f i = g i) → ∀ i, i < N → insL ln v lo d f i = insL ln v lo d g i := by
  intro d
  induction d with
  | zero => intro f g _ h i hi; show va_up f lo v i = va_up g lo v i; by_cases e : i = lo; (rw [e, up_same, up_same]); (rw [up_ne _ _ e, up_ne _ _ e, h i hi])
  | succ d ih =>
    intro f g hd h i hi
    rw [insL_s, insL_s, h (lo + d) (by omega)]
    by_cases c : ln v < ln (g (lo + d))
    · rw [if_pos c, if_pos c]
      exact ih _ _ (by omega) (fun j hj => by by_cases e : j = lo + (d + 1); (rw [e, up_same, up_same]); (rw [up_ne _ _ e, up_ne _ _ e, h j hj])) i hi
    · rw [if_neg c, if_neg c]
      by_cases e : i = lo + (d + 1)
      · rw [e, up_same, up_same]
      · rw [up_ne _ _ e, up_ne _ _ e, h i hi]
theorem insL_lt {ln : Nat → Nat} {v lo N : Nat} (hv : v < N) : ∀ (d : Nat) (f : Nat → Nat), lo + d < N → (∀ i, i < N → f i < N) → ∀ i, i < N → insL ln v lo d f i < N := by
  intro d
  induction d with
  | zero => intro f _ h i hi; show va_up f lo v i < N; by_cases e : i = lo; (rw [e, up_same]; exact hv); (rw [up_ne _ _ e]; exact h i hi)
  | succ d ih =>
    intro f hd h i hi
    rw [insL_s]
    by_cases c : ln v < ln (f (lo + d))
    · rw [if_pos c]
      exact ih _ (by omega) (fun j hj => by by_cases e : j = lo + (d + 1); (rw [e, up_same]; exact h _ (by omega)); (rw [up_ne _ _ e]; exact h j hj)) i hi
    · rw [if_neg c]
      by_cases e : i = lo + (d + 1)
      · rw [e, up_same]; exact hv
      · rw [up_ne _ _ e]; exact h i hi
theorem srtF_congr {ln : Nat → Nat} {lo N : Nat} : ∀ (c : Nat) (f g : Nat → Nat), (c = 0 ∨ lo + c < N) → (∀ i, i < N → f i = g i) → ∀ i, i < N → srtF ln lo c f i = srtF ln lo c g i := by
  intro c
  induction c with
  | zero => intro f g _ h; exact h
  | succ c ih =>
    intro f g hc h i hi
    have e := ih f g (by omega) h
    show insL ln (srtF ln lo c f (lo + (c + 1))) lo (c + 1) (srtF ln lo c f) i = insL ln (srtF ln lo c g (lo + (c + 1))) lo (c + 1) (srtF ln lo c g) i
    rw [e (lo + (c + 1)) (by omega)]
    exact insL_congr (c + 1) _ _ (by omega) e i hi
theorem srtF_lt {ln : Nat → Nat} {lo N : Nat} : ∀ (c : Nat) (f : Nat → Nat), (c = 0 ∨ lo + c < N) → (∀ i, i < N → f i < N) → ∀ i, i < N → srtF ln lo c f i < N := by
  intro c
  induction c with
  | zero => intro f _ h; exact h
  | succ c ih =>
    intro f hc h i hi
    have e := ih f (by omega) h
    exact insL_lt (e _ (by omega)) (c + 1) _ (by omega) e i hi
theorem prt_congr {ln : Nat → Nat} {grp n : Nat} : ∀ (t : Nat) (f g : Nat → Nat), (∀ i, i < n → f i = g i) → ∀ i, i < n → prt ln grp n t f i = prt ln grp n t g i := by
  intro t
  induction t with
  | zero => intro f g h; exact h
  | succ t ih => intro f g h i hi; exact srtF_congr _ _ _ (by omega) (ih f g h) i hi
theorem prt_lt {ln : Nat → Nat} {grp n : Nat} : ∀ (t : Nat) (f : Nat → Nat), (∀ i, i < n → f i < n) → ∀ i, i < n → prt ln grp n t f i < n := by
  intro t
  induction t with
  | zero => intro f h; exact h
  | succ t ih => intro f h i hi; exact srtF_lt _ _ (by omega) (ih f h) i hi
theorem prt_end {ln : Nat → Nat} {grp n t : Nat} (h : n ≤ t * grp) (f : Nat → Nat) : ∀ k, prt ln grp n (t + k) f = prt ln grp n t f := by
  intro k
  induction k with
  | zero => rfl
  | succ k ih =>
    have h2 : t * grp ≤ (t + k) * grp := Nat.mul_le_mul_right _ (by omega)
    show srtF ln ((t + k) * grp) (min n ((t + k) * grp + grp) - (t + k) * grp - 1) (prt ln grp n (t + k) f) = _
    rw [show min n ((t + k) * grp + grp) - (t + k) * grp - 1 = 0 by omega, ih]
    rfl
theorem prt_n {ln : Nat → Nat} {grp n t : Nat} (hg : 1 ≤ grp) (h : n ≤ t * grp) (h2 : t = 0 ∨ (t - 1) * grp < n) (f : Nat → Nat) : prt ln grp n t f = prt ln grp n n f := by
  have ht : t ≤ n := by
    rcases h2 with rfl | h2
    · exact Nat.zero_le _
    · have : (t - 1) * 1 ≤ (t - 1) * grp := Nat.mul_le_mul_left _ hg
      omega
  have := prt_end (ln := ln) h f (n - t)
  rw [show t + (n - t) = n by omega] at this
  exact this.symm
/-- LENGTHS: of n rows with lengths ln, in parts of grp -/
def leO (ln : Nat → Nat) (grp : Nat) (s : Int64) (n : Nat) : Nat → Nat := prt ln grp n n (plO s n)
theorem leO_lt {ln : Nat → Nat} {grp n : Nat} {s : Int64} : ∀ i, i < n → leO ln grp s n i < n := prt_lt n _ plO_lt
/-! WEIGHTED -/
def sIt (nx : Int64 → Int64) (s : Int64) : Nat → Int64
  | 0 => s
  | p + 1 => nx (sIt nx s p)
def isW (w : Nat → Nat) (n : Nat) (s : Int64) (g : Nat → Nat) : Prop := ∀ p, p < n → g p < n ∧ wsum w (g p) ≤ dr (sIt nxg s (p + 1)) (wsum w n) ∧ dr (sIt nxg s (p + 1)) (wsum w n) < wsum w (g p + 1)
theorem wsum_mono {w : Nat → Nat} {a b : Nat} (h : a ≤ b) : wsum w a ≤ wsum w b := by
  induction b with
  | zero => rw [show a = 0 by omega]; exact Nat.le_refl _
  | succ b ih =>
    by_cases e : a = b + 1
    · rw [e]; exact Nat.le_refl _
    · have := ih (by omega); show wsum w a ≤ wsum w b + w b; omega
theorem isW_uniq {w : Nat → Nat} {n : Nat} {s : Int64} {g h : Nat → Nat} (hg : isW w n s g) (hh : isW w n s h) : ∀ p, p < n → g p = h p := by
  intro p hp
  obtain ⟨-, a1, a2⟩ := hg p hp
  obtain ⟨-, b1, b2⟩ := hh p hp
  rcases Nat.lt_trichotomy (g p) (h p) with c | c | c
  · have := wsum_mono (w := w) (show g p + 1 ≤ h p from c); omega
  · exact c
  · have := wsum_mono (w := w) (show h p + 1 ≤ g p from c); omega
/-! BUFFERED: held, coming, state, buffer, order -/
def buf (dd : Int64 → Nat → Nat) (nx : Int64 → Int64) (n : Nat) (h : Nat) (s : Int64) (b g : Nat → Nat) : Nat → Nat × Nat × Int64 × (Nat → Nat) × (Nat → Nat)
  | 0 => (h, h, s, b, g)
  | p + 1 =>
    match buf dd nx n h s b g p with
    | (h1, c1, s1, b1, g1) =>
      if c1 < n then (h1, c1 + 1, nx s1, va_up b1 (dd (nx s1) h1) c1, va_up g1 p (b1 (dd (nx s1) h1)))
      else (h1 - 1, c1, nx s1, va_up b1 (dd (nx s1) h1) (b1 (h1 - 1)), va_up g1 p (b1 (dd (nx s1) h1)))
theorem buf_s1 {dd : Int64 → Nat → Nat} {nx : Int64 → Int64} {n h p h1 c1 d : Nat} {s s1 s2 : Int64} {b g b1 g1 : Nat → Nat} (e : buf dd nx n h s b g p = (h1, c1, s1, b1, g1)) (es : s2 = nx s1) (ed : d = dd s2 h1) (hc : c1 < n) : buf dd nx n h s b g (p + 1) = (h1, c1 + 1, s2, va_up b1 d c1, va_up g1 p (b1 d)) := by
  subst es; subst ed
  rw [buf, e]
  exact if_pos hc
theorem buf_s2 {dd : Int64 → Nat → Nat} {nx : Int64 → Int64} {n h p h1 c1 d : Nat} {s s1 s2 : Int64} {b g b1 g1 : Nat → Nat} (e : buf dd nx n h s b g p = (h1, c1, s1, b1, g1)) (es : s2 = nx s1) (ed : d = dd s2 h1) (hc : ¬ c1 < n) : buf dd nx n h s b g (p + 1) = (h1 - 1, c1, s2, va_up b1 d (b1 (h1 - 1)), va_up g1 p (b1 d)) := by
  subst es; subst ed
  rw [buf, e]
  exact if_neg hc
theorem buf_inv {dd : Int64 → Nat → Nat} {nx : Int64 → Int64} (hdd : ∀ s m, 0 < m → dd s m < m) {n h : Nat} {s : Int64} {b g : Nat → Nat} (hh : 1 ≤ h ∨ n = 0) (hn : h ≤ n) (hb : ∀ i, i < h → b i < n) : ∀ p, p ≤ n → ∃ h1 c1 s1 b1 g1, buf dd nx n h s b g p = (h1, c1, s1, b1, g1) ∧ h1 ≤ h ∧ c1 ≤ n ∧ h ≤ c1 ∧ h1 + (n - c1) + p = n ∧ (c1 < n → h1 = h) ∧ (∀ i, i < h → b1 i < n) ∧ (∀ i, i < p → g1 i < n) := by
  intro p
  induction p with
  | zero => intro _; exact ⟨h, h, s, b, g, rfl, Nat.le_refl _, hn, Nat.le_refl _, by omega, fun _ => rfl, hb, fun i hi => by omega⟩
  | succ p ih =>
    intro hp
    obtain ⟨h1, c1, s1, b1, g1, e, i1, i2, i3, i4, i5, i6, i7⟩ := ih (by omega)
    have h0 : 0 < h1 := by
      by_cases c : c1 < n
      · have := i5 c; omega
      · omega
    have hd := hdd (nx s1) h1 h0
    have hg : ∀ i, i < p + 1 → va_up g1 p (b1 (dd (nx s1) h1)) i < n := fun i hi => by
      by_cases q : i = p
      · rw [q, up_same]; exact i6 _ (by omega)
      · rw [up_ne _ _ q]; exact i7 i (by omega)
    by_cases c : c1 < n
    · refine ⟨_, _, _, _, _, buf_s1 e rfl rfl c, i1, by omega, by omega, by have := i5 c; omega, fun q => i5 c, fun i hi => ?_, hg⟩
      by_cases q : i = dd (nx s1) h1
      · rw [q, up_same]; exact c
      · rw [up_ne _ _ q]; exact i6 i hi
    · refine ⟨_, _, _, _, _, buf_s2 e rfl rfl c, by omega, i2, i3, by omega, fun q => absurd q c, fun i hi => ?_, hg⟩
      by_cases q : i = dd (nx s1) h1
      · rw [q, up_same]; exact i6 _ (by omega)
      · rw [up_ne _ _ q]; exact i6 i hi
theorem buf_congr {dd : Int64 → Nat → Nat} {nx : Int64 → Int64} (hdd : ∀ s m, 0 < m → dd s m < m) {n h : Nat} {s : Int64} {b b' g g' : Nat → Nat} (hh : 1 ≤ h ∨ n = 0) (hn : h ≤ n) (hb : ∀ i, i < h → b i < n) (he : ∀ i, i < h → b i = b' i) : ∀ p, p ≤ n → ∃ h1 c1 s1 b1 g1 b2 g2, buf dd nx n h s b g p = (h1, c1, s1, b1, g1) ∧ buf dd nx n h s b' g' p = (h1, c1, s1, b2, g2) ∧ (∀ i, i < h → b1 i = b2 i) ∧ (∀ i, i < p → g1 i = g2 i) := by
  intro p
  induction p with
  | zero => intro _; exact ⟨h, h, s, b, g, b', g', rfl, rfl, he, fun i hi => by omega⟩
  | succ p ih =>
    intro hp
    obtain ⟨h0, c0, s0, b0, g0, e0, i1, i2, i3, i4, i5, i6, i7⟩ := buf_inv (s := s) (g := g) hdd hh hn hb p (by omega)
    obtain ⟨h9, c9, s9, b9, g9, b2, g2, e1, e2, j1, j2⟩ := ih (by omega)
    have e3 := e0.symm.trans e1
    simp only [Prod.mk.injEq] at e3
    obtain ⟨q1, q2, q3, q4, q5⟩ := e3
    rw [← q1, ← q2, ← q3] at e2
    rw [← q4] at j1
    rw [← q5] at j2
    have hp0 : 0 < h0 := by
      by_cases c : c0 < n
      · have := i5 c; omega
      · omega
    have hd := hdd (nx s0) h0 hp0
    have hg : ∀ i, i < p + 1 → va_up g0 p (b0 (dd (nx s0) h0)) i = va_up g2 p (b2 (dd (nx s0) h0)) i := fun i hi => by
      by_cases q : i = p
      · rw [q, up_same, up_same]; exact j1 _ (by omega)
      · rw [up_ne _ _ q, up_ne _ _ q]; exact j2 i (by omega)
    by_cases c : c0 < n
    · refine ⟨_, _, _, _, _, _, _, buf_s1 e0 rfl rfl c, buf_s1 e2 rfl rfl c, fun i hi => ?_, hg⟩
      by_cases q : i = dd (nx s0) h0
      · rw [q, up_same, up_same]
      · rw [up_ne _ _ q, up_ne _ _ q]; exact j1 i hi
    · refine ⟨_, _, _, _, _, _, _, buf_s2 e0 rfl rfl c, buf_s2 e2 rfl rfl c, fun i hi => ?_, hg⟩
      by_cases q : i = dd (nx s0) h0
      · rw [q, up_same, up_same]; exact j1 _ (by omega)
      · rw [up_ne _ _ q, up_ne _ _ q]; exact j1 i hi
/-- BUFFERED: of n rows, a buffer of h of them (h = min n BUFFER) -/
def buO (n h : Nat) (s : Int64) : Nat → Nat := (buf dr nxg n h s (fun i => i) (fun _ => 0) n).2.2.2.2
theorem buO_of {n h h1 c1 : Nat} {s s1 : Int64} {f g b1 g1 : Nat → Nat} (hh : 1 ≤ h ∨ n = 0) (hn : h ≤ n) (e : buf dr nxg n h s (idn h f) g n = (h1, c1, s1, b1, g1)) : (∀ i, i < n → g1 i = buO n h s i) ∧ ∀ i, i < n → g1 i < n := by
  have hi : ∀ i, i < h → idn h f i = i := fun i hi => by unfold idn; rw [if_pos hi]
  obtain ⟨h2, c2, s2, b3, g3, b2, g2, e1, e2, -, j2⟩ := buf_congr (nx := nxg) (s := s) (b := idn h f) (g := g) (g' := fun _ => 0) (b' := fun i => i) dr_ok hh hn (fun i q => by rw [hi i q]; omega) hi n (Nat.le_refl n)
  have eg : g3 = g1 := by have q := e1.symm.trans e; simp only [Prod.mk.injEq] at q; exact q.2.2.2.2
  obtain ⟨h9, c9, s9, b9, g9, e9, -, -, -, -, -, -, i7⟩ := buf_inv (nx := nxg) (s := s) (b := idn h f) (g := g) dr_ok hh hn (fun i q => by rw [hi i q]; omega) n (Nat.le_refl n)
  refine ⟨fun i hi => ?_, ?_⟩
  · rw [← eg, j2 i hi]; unfold buO; rw [e2]
  · have q := e9.symm.trans e; simp only [Prod.mk.injEq] at q; rw [← q.2.2.2.2]; exact i7
