/-! the two systems side by side: what ties them -/
def Rel (ca : Nat → Nat) (n : Nat) (O : Nat → Option Nat) (I : Nat → Nat) (J : Nat → Int64) (F : Nat → Nat → Nat) (E : Nat → Nat → Int32) (K : Nat → Nat → Nat) (G : Nat → Nat → Int32) (I' : Nat → Nat) (J' : Nat → Int64) (F' : Nat → Nat → Nat) (G' : Nat → Nat → Int32) : Prop :=
  (n = I 3) ∧
  (I' 1 = I 3) ∧
  (I' 2 = I 4) ∧
  (I' 3 = I 5) ∧
  (I' 4 = I 6) ∧
  (I' 5 = I 7) ∧
  (I' 6 = I 0) ∧
  (I' 7 = I 1) ∧
  (I' 8 = I 2) ∧
  (I' 9 = I 9) ∧
  (I' 10 = I 12) ∧
  (I' 11 = I 10) ∧
  (I' 12 = I 11) ∧
  (J' 0 = J 0) ∧
  (F' 0 = K 0) ∧
  (F' 1 = F 0) ∧
  (F' 2 = F 1) ∧
  (F' 3 = K 3) ∧
  (F' 4 = K 1) ∧
  (F' 5 = K 2) ∧
  (I 0 ≤ 4) ∧
  (I 1 ≤ 1000) ∧
  (I 2 ≤ 60) ∧
  (I 3 ≤ 60) ∧
  (I 4 ≤ 20) ∧
  (1 ≤ I 5 ∧ I 5 ≤ 60) ∧
  (1 ≤ I 6 ∧ I 6 ≤ 60) ∧
  (I 7 ≤ 1) ∧
  (I 9 ≤ 2) ∧
  (I 10 ≤ 40) ∧
  (I 11 ≤ 40) ∧
  (I 12 ≤ 1600) ∧
  (∀ j, j < I 3 → O j = some (ca j)) ∧
  (∀ j, j < I 3 → K 3 j ≤ K 4 j ∧ K 4 j ≤ 1600) ∧
  (∀ j, j < I 3 → K 0 j ≤ 2 ∧ K 1 j ≤ 40 ∧ K 2 j ≤ 40) ∧
  (∀ j, j < I 3 → K 0 j = 0 → K 4 j = 40) ∧
  (∀ j, j < I 3 → F 0 j < 8) ∧
  (∀ j, j < I 3 → F 1 j ≤ 1000) ∧
  (∀ j, j < I 3 → K 0 j = 1 → 1 ≤ K 1 j ∧ 1 ≤ K 2 j ∧ K 3 j = K 1 j * K 2 j) ∧
  (∀ j, j < I 3 → K 0 j = 0 → K 1 j = 0 ∧ K 2 j = 0 ∧ K 3 j ≤ 40) ∧
  (∀ j, j < I 3 → K 0 j = 2 → K 1 j = 0 ∧ K 2 j = 0 ∧ K 3 j = 0) ∧
  (∀ j k, j < I 3 → k < K 3 j → G j k = G' 0 (1600 * j + k)) ∧
  (∀ k, k < I 12 → E 0 k = G' 1 k) ∧
  (I 9 = 2 → I 10 = 0 ∧ I 11 = 0 ∧ I 12 = 0)
section
variable {ca : Nat → Nat} {n : Nat} {O : Nat → Option Nat} {I : Nat → Nat} {J : Nat → Int64} {F : Nat → Nat → Nat} {E : Nat → Nat → Int32} {K : Nat → Nat → Nat} {G : Nat → Nat → Int32} {I' : Nat → Nat} {J' : Nat → Int64} {F' : Nat → Nat → Nat} {G' : Nat → Nat → Int32}
theorem Rel.en (h : Rel ca n O I J F E K G I' J' F' G') : n = I 3 := h.1
theorem Rel.e1 (h : Rel ca n O I J F E K G I' J' F' G') : I' 1 = I 3 := h.2.1
theorem Rel.e2 (h : Rel ca n O I J F E K G I' J' F' G') : I' 2 = I 4 := h.2.2.1
theorem Rel.e3 (h : Rel ca n O I J F E K G I' J' F' G') : I' 3 = I 5 := h.2.2.2.1
theorem Rel.e4 (h : Rel ca n O I J F E K G I' J' F' G') : I' 4 = I 6 := h.2.2.2.2.1
theorem Rel.e5 (h : Rel ca n O I J F E K G I' J' F' G') : I' 5 = I 7 := h.2.2.2.2.2.1
theorem Rel.e6 (h : Rel ca n O I J F E K G I' J' F' G') : I' 6 = I 0 := h.2.2.2.2.2.2.1
theorem Rel.e7 (h : Rel ca n O I J F E K G I' J' F' G') : I' 7 = I 1 := h.2.2.2.2.2.2.2.1
theorem Rel.e8 (h : Rel ca n O I J F E K G I' J' F' G') : I' 8 = I 2 := h.2.2.2.2.2.2.2.2.1
theorem Rel.e9 (h : Rel ca n O I J F E K G I' J' F' G') : I' 9 = I 9 := h.2.2.2.2.2.2.2.2.2.1
theorem Rel.e10 (h : Rel ca n O I J F E K G I' J' F' G') : I' 10 = I 12 := h.2.2.2.2.2.2.2.2.2.2.1
theorem Rel.e11 (h : Rel ca n O I J F E K G I' J' F' G') : I' 11 = I 10 := h.2.2.2.2.2.2.2.2.2.2.2.1
theorem Rel.e12 (h : Rel ca n O I J F E K G I' J' F' G') : I' 12 = I 11 := h.2.2.2.2.2.2.2.2.2.2.2.2.1
theorem Rel.eJ (h : Rel ca n O I J F E K G I' J' F' G') : J' 0 = J 0 := h.2.2.2.2.2.2.2.2.2.2.2.2.2.1
theorem Rel.f0 (h : Rel ca n O I J F E K G I' J' F' G') : F' 0 = K 0 := h.2.2.2.2.2.2.2.2.2.2.2.2.2.2.1
theorem Rel.f1 (h : Rel ca n O I J F E K G I' J' F' G') : F' 1 = F 0 := h.2.2.2.2.2.2.2.2.2.2.2.2.2.2.2.1
theorem Rel.f2 (h : Rel ca n O I J F E K G I' J' F' G') : F' 2 = F 1 := h.2.2.2.2.2.2.2.2.2.2.2.2.2.2.2.2.1
theorem Rel.f3 (h : Rel ca n O I J F E K G I' J' F' G') : F' 3 = K 3 := h.2.2.2.2.2.2.2.2.2.2.2.2.2.2.2.2.2.1
theorem Rel.f4 (h : Rel ca n O I J F E K G I' J' F' G') : F' 4 = K 1 := h.2.2.2.2.2.2.2.2.2.2.2.2.2.2.2.2.2.2.1
theorem Rel.f5 (h : Rel ca n O I J F E K G I' J' F' G') : F' 5 = K 2 := h.2.2.2.2.2.2.2.2.2.2.2.2.2.2.2.2.2.2.2.1
theorem Rel.b0 (h : Rel ca n O I J F E K G I' J' F' G') : I 0 ≤ 4 := h.2.2.2.2.2.2.2.2.2.2.2.2.2.2.2.2.2.2.2.2.1
theorem Rel.b1 (h : Rel ca n O I J F E K G I' J' F' G') : I 1 ≤ 1000 := h.2.2.2.2.2.2.2.2.2.2.2.2.2.2.2.2.2.2.2.2.2.1
theorem Rel.b2 (h : Rel ca n O I J F E K G I' J' F' G') : I 2 ≤ 60 := h.2.2.2.2.2.2.2.2.2.2.2.2.2.2.2.2.2.2.2.2.2.2.1
theorem Rel.b3 (h : Rel ca n O I J F E K G I' J' F' G') : I 3 ≤ 60 := h.2.2.2.2.2.2.2.2.2.2.2.2.2.2.2.2.2.2.2.2.2.2.2.1
theorem Rel.b4 (h : Rel ca n O I J F E K G I' J' F' G') : I 4 ≤ 20 := h.2.2.2.2.2.2.2.2.2.2.2.2.2.2.2.2.2.2.2.2.2.2.2.2.1
theorem Rel.b5 (h : Rel ca n O I J F E K G I' J' F' G') : 1 ≤ I 5 ∧ I 5 ≤ 60 := h.2.2.2.2.2.2.2.2.2.2.2.2.2.2.2.2.2.2.2.2.2.2.2.2.2.1
theorem Rel.b6 (h : Rel ca n O I J F E K G I' J' F' G') : 1 ≤ I 6 ∧ I 6 ≤ 60 := h.2.2.2.2.2.2.2.2.2.2.2.2.2.2.2.2.2.2.2.2.2.2.2.2.2.2.1
theorem Rel.b7 (h : Rel ca n O I J F E K G I' J' F' G') : I 7 ≤ 1 := h.2.2.2.2.2.2.2.2.2.2.2.2.2.2.2.2.2.2.2.2.2.2.2.2.2.2.2.1
theorem Rel.b9 (h : Rel ca n O I J F E K G I' J' F' G') : I 9 ≤ 2 := h.2.2.2.2.2.2.2.2.2.2.2.2.2.2.2.2.2.2.2.2.2.2.2.2.2.2.2.2.1
theorem Rel.b10 (h : Rel ca n O I J F E K G I' J' F' G') : I 10 ≤ 40 := h.2.2.2.2.2.2.2.2.2.2.2.2.2.2.2.2.2.2.2.2.2.2.2.2.2.2.2.2.2.1
theorem Rel.b11 (h : Rel ca n O I J F E K G I' J' F' G') : I 11 ≤ 40 := h.2.2.2.2.2.2.2.2.2.2.2.2.2.2.2.2.2.2.2.2.2.2.2.2.2.2.2.2.2.2.1
theorem Rel.b12 (h : Rel ca n O I J F E K G I' J' F' G') : I 12 ≤ 1600 := h.2.2.2.2.2.2.2.2.2.2.2.2.2.2.2.2.2.2.2.2.2.2.2.2.2.2.2.2.2.2.2.1
theorem Rel.hO (h : Rel ca n O I J F E K G I' J' F' G') : ∀ j, j < I 3 → O j = some (ca j) := h.2.2.2.2.2.2.2.2.2.2.2.2.2.2.2.2.2.2.2.2.2.2.2.2.2.2.2.2.2.2.2.2.1
theorem Rel.hRm (h : Rel ca n O I J F E K G I' J' F' G') : ∀ j, j < I 3 → K 3 j ≤ K 4 j ∧ K 4 j ≤ 1600 := h.2.2.2.2.2.2.2.2.2.2.2.2.2.2.2.2.2.2.2.2.2.2.2.2.2.2.2.2.2.2.2.2.2.1
theorem Rel.hK0 (h : Rel ca n O I J F E K G I' J' F' G') : ∀ j, j < I 3 → K 0 j ≤ 2 ∧ K 1 j ≤ 40 ∧ K 2 j ≤ 40 := h.2.2.2.2.2.2.2.2.2.2.2.2.2.2.2.2.2.2.2.2.2.2.2.2.2.2.2.2.2.2.2.2.2.2.1
theorem Rel.hR4 (h : Rel ca n O I J F E K G I' J' F' G') : ∀ j, j < I 3 → K 0 j = 0 → K 4 j = 40 := h.2.2.2.2.2.2.2.2.2.2.2.2.2.2.2.2.2.2.2.2.2.2.2.2.2.2.2.2.2.2.2.2.2.2.2.1
theorem Rel.hLb (h : Rel ca n O I J F E K G I' J' F' G') : ∀ j, j < I 3 → F 0 j < 8 := h.2.2.2.2.2.2.2.2.2.2.2.2.2.2.2.2.2.2.2.2.2.2.2.2.2.2.2.2.2.2.2.2.2.2.2.2.1
theorem Rel.hWt (h : Rel ca n O I J F E K G I' J' F' G') : ∀ j, j < I 3 → F 1 j ≤ 1000 := h.2.2.2.2.2.2.2.2.2.2.2.2.2.2.2.2.2.2.2.2.2.2.2.2.2.2.2.2.2.2.2.2.2.2.2.2.2.1
theorem Rel.hPc (h : Rel ca n O I J F E K G I' J' F' G') : ∀ j, j < I 3 → K 0 j = 1 → 1 ≤ K 1 j ∧ 1 ≤ K 2 j ∧ K 3 j = K 1 j * K 2 j := h.2.2.2.2.2.2.2.2.2.2.2.2.2.2.2.2.2.2.2.2.2.2.2.2.2.2.2.2.2.2.2.2.2.2.2.2.2.2.1
theorem Rel.hWd (h : Rel ca n O I J F E K G I' J' F' G') : ∀ j, j < I 3 → K 0 j = 0 → K 1 j = 0 ∧ K 2 j = 0 ∧ K 3 j ≤ 40 := h.2.2.2.2.2.2.2.2.2.2.2.2.2.2.2.2.2.2.2.2.2.2.2.2.2.2.2.2.2.2.2.2.2.2.2.2.2.2.2.1
theorem Rel.hN2 (h : Rel ca n O I J F E K G I' J' F' G') : ∀ j, j < I 3 → K 0 j = 2 → K 1 j = 0 ∧ K 2 j = 0 ∧ K 3 j = 0 := h.2.2.2.2.2.2.2.2.2.2.2.2.2.2.2.2.2.2.2.2.2.2.2.2.2.2.2.2.2.2.2.2.2.2.2.2.2.2.2.2.1
theorem Rel.it (h : Rel ca n O I J F E K G I' J' F' G') : ∀ j k, j < I 3 → k < K 3 j → G j k = G' 0 (1600 * j + k) := h.2.2.2.2.2.2.2.2.2.2.2.2.2.2.2.2.2.2.2.2.2.2.2.2.2.2.2.2.2.2.2.2.2.2.2.2.2.2.2.2.2.1
theorem Rel.ou (h : Rel ca n O I J F E K G I' J' F' G') : ∀ k, k < I 12 → E 0 k = G' 1 k := h.2.2.2.2.2.2.2.2.2.2.2.2.2.2.2.2.2.2.2.2.2.2.2.2.2.2.2.2.2.2.2.2.2.2.2.2.2.2.2.2.2.2.1
theorem Rel.nt (h : Rel ca n O I J F E K G I' J' F' G') : I 9 = 2 → I 10 = 0 ∧ I 11 = 0 ∧ I 12 = 0 := h.2.2.2.2.2.2.2.2.2.2.2.2.2.2.2.2.2.2.2.2.2.2.2.2.2.2.2.2.2.2.2.2.2.2.2.2.2.2.2.2.2.2.2
theorem Rel.mk' (en : n = I 3) (e1 : I' 1 = I 3) (e2 : I' 2 = I 4) (e3 : I' 3 = I 5) (e4 : I' 4 = I 6) (e5 : I' 5 = I 7) (e6 : I' 6 = I 0) (e7 : I' 7 = I 1) (e8 : I' 8 = I 2) (e9 : I' 9 = I 9) (e10 : I' 10 = I 12) (e11 : I' 11 = I 10) (e12 : I' 12 = I 11) (eJ : J' 0 = J 0) (f0 : F' 0 = K 0) (f1 : F' 1 = F 0) (f2 : F' 2 = F 1) (f3 : F' 3 = K 3) (f4 : F' 4 = K 1) (f5 : F' 5 = K 2) (b0 : I 0 ≤ 4) (b1 : I 1 ≤ 1000) (b2 : I 2 ≤ 60) (b3 : I 3 ≤ 60) (b4 : I 4 ≤ 20) (b5 : 1 ≤ I 5 ∧ I 5 ≤ 60) (b6 : 1 ≤ I 6 ∧ I 6 ≤ 60) (b7 : I 7 ≤ 1) (b9 : I 9 ≤ 2) (b10 : I 10 ≤ 40) (b11 : I 11 ≤ 40) (b12 : I 12 ≤ 1600) (hO : ∀ j, j < I 3 → O j = some (ca j)) (hRm : ∀ j, j < I 3 → K 3 j ≤ K 4 j ∧ K 4 j ≤ 1600) (hK0 : ∀ j, j < I 3 → K 0 j ≤ 2 ∧ K 1 j ≤ 40 ∧ K 2 j ≤ 40) (hR4 : ∀ j, j < I 3 → K 0 j = 0 → K 4 j = 40) (hLb : ∀ j, j < I 3 → F 0 j < 8) (hWt : ∀ j, j < I 3 → F 1 j ≤ 1000) (hPc : ∀ j, j < I 3 → K 0 j = 1 → 1 ≤ K 1 j ∧ 1 ≤ K 2 j ∧ K 3 j = K 1 j * K 2 j) (hWd : ∀ j, j < I 3 → K 0 j = 0 → K 1 j = 0 ∧ K 2 j = 0 ∧ K 3 j ≤ 40) (hN2 : ∀ j, j < I 3 → K 0 j = 2 → K 1 j = 0 ∧ K 2 j = 0 ∧ K 3 j = 0) (it : ∀ j k, j < I 3 → k < K 3 j → G j k = G' 0 (1600 * j + k)) (ou : ∀ k, k < I 12 → E 0 k = G' 1 k) (nt : I 9 = 2 → I 10 = 0 ∧ I 11 = 0 ∧ I 12 = 0) : Rel ca n O I J F E K G I' J' F' G' := ⟨en, e1, e2, e3, e4, e5, e6, e7, e8, e9, e10, e11, e12, eJ, f0, f1, f2, f3, f4, f5, b0, b1, b2, b3, b4, b5, b6, b7, b9, b10, b11, b12, hO, hRm, hK0, hR4, hLb, hWt, hPc, hWd, hN2, it, ou, nt⟩
end
def RelW (cI cO : ClassId) (a b : Nat → Nat) (w w' : va_W) : Prop := ∃ ca ia n O I J F E K G I' J' F' G', w = bW cI cO a ca ia n O I J F E K G ∧ w' = mW cI b I' J' F' G' ∧ Rel ca n O I J F E K G I' J' F' G'
section
variable {ca : Nat → Nat} {n : Nat} {O : Nat → Option Nat} {I : Nat → Nat} {J : Nat → Int64} {F : Nat → Nat → Nat} {E : Nat → Nat → Int32} {K : Nat → Nat → Nat} {G : Nat → Nat → Int32} {I' : Nat → Nat} {J' : Nat → Int64} {F' : Nat → Nat → Nat} {G' : Nat → Nat → Int32}
theorem Rel.thr (h : Rel ca n O I J F E K G I' J' F' G') (v : Nat) : Rel ca n O I J F E K G (va_up I' 0 v) J' F' G' := Rel.mk' h.en h.e1 h.e2 h.e3 h.e4 h.e5 h.e6 h.e7 h.e8 h.e9 h.e10 h.e11 h.e12 h.eJ h.f0 h.f1 h.f2 h.f3 h.f4 h.f5 h.b0 h.b1 h.b2 h.b3 h.b4 h.b5 h.b6 h.b7 h.b9 h.b10 h.b11 h.b12 h.hO h.hRm h.hK0 h.hR4 h.hLb h.hWt h.hPc h.hWd h.hN2 h.it h.ou h.nt
theorem Rel.scr (h : Rel ca n O I J F E K G I' J' F' G') {q2 q3 q4 q5 q6 q7 r6 r7 r8 r9 r10 r11 : Nat → Nat} {σ σ' : Int64} {v8 : Nat} : Rel ca n O (va_up I 8 v8) (va_up J 1 σ) (va_up (va_up (va_up (va_up (va_up (va_up F 2 q2) 3 q3) 4 q4) 5 q5) 6 q6) 7 q7) E K G (va_up I' 0 0) (va_up J' 1 σ') (va_up (va_up (va_up (va_up (va_up (va_up F' 6 r6) 7 r7) 8 r8) 9 r9) 10 r10) 11 r11) G' := Rel.mk' h.en h.e1 h.e2 h.e3 h.e4 h.e5 h.e6 h.e7 h.e8 h.e9 h.e10 h.e11 h.e12 h.eJ h.f0 h.f1 h.f2 h.f3 h.f4 h.f5 h.b0 h.b1 h.b2 h.b3 h.b4 h.b5 h.b6 h.b7 h.b9 h.b10 h.b11 h.b12 h.hO h.hRm h.hK0 h.hR4 h.hLb h.hWt h.hPc h.hWd h.hN2 h.it h.ou h.nt
theorem Rel.scr1 (h : Rel ca n O I J F E K G I' J' F' G') {r6 : Nat → Nat} {σ' : Int64} {v8 : Nat} : Rel ca n O (va_up I 8 v8) J F E K G (va_up I' 0 0) (va_up J' 1 σ') (va_up F' 6 r6) G' := Rel.mk' h.en h.e1 h.e2 h.e3 h.e4 h.e5 h.e6 h.e7 h.e8 h.e9 h.e10 h.e11 h.e12 h.eJ h.f0 h.f1 h.f2 h.f3 h.f4 h.f5 h.b0 h.b1 h.b2 h.b3 h.b4 h.b5 h.b6 h.b7 h.b9 h.b10 h.b11 h.b12 h.hO h.hRm h.hK0 h.hR4 h.hLb h.hWt h.hPc h.hWd h.hN2 h.it h.ou h.nt
theorem Rel.nxt (h : Rel ca n O I J F E K G I' J' F' G') {q2 q3 q4 q5 q6 q7 r6 r7 r8 r9 r10 r11 : Nat → Nat} {σ σ' : Int64} {v8 rd pl rd' pl' : Nat} (e1 : rd' = rd) (e2 : pl' = pl) (h1 : rd ≤ 1000) (h2 : pl ≤ 60) : Rel ca n O (va_up (va_up (va_up I 8 v8) 1 rd) 2 pl) (va_up J 1 σ) (va_up (va_up (va_up (va_up (va_up (va_up F 2 q2) 3 q3) 4 q4) 5 q5) 6 q6) 7 q7) E K G (va_up (va_up (va_up I' 0 0) 7 rd') 8 pl') (va_up J' 1 σ') (va_up (va_up (va_up (va_up (va_up (va_up F' 6 r6) 7 r7) 8 r8) 9 r9) 10 r10) 11 r11) G' := Rel.mk' h.en h.e1 h.e2 h.e3 h.e4 h.e5 h.e6 e1 e2 h.e9 h.e10 h.e11 h.e12 h.eJ h.f0 h.f1 h.f2 h.f3 h.f4 h.f5 h.b0 h1 h2 h.b3 h.b4 h.b5 h.b6 h.b7 h.b9 h.b10 h.b11 h.b12 h.hO h.hRm h.hK0 h.hR4 h.hLb h.hWt h.hPc h.hWd h.hN2 h.it h.ou h.nt
theorem Rel.sd (h : Rel ca n O I J F E K G I' J' F' G') {z : Int64} : Rel ca n O I (va_up J 0 z) F E K G (va_up I' 0 0) (va_up J' 0 z) F' G' := Rel.mk' h.en h.e1 h.e2 h.e3 h.e4 h.e5 h.e6 h.e7 h.e8 h.e9 h.e10 h.e11 h.e12 rfl h.f0 h.f1 h.f2 h.f3 h.f4 h.f5 h.b0 h.b1 h.b2 h.b3 h.b4 h.b5 h.b6 h.b7 h.b9 h.b10 h.b11 h.b12 h.hO h.hRm h.hK0 h.hR4 h.hLb h.hWt h.hPc h.hWd h.hN2 h.it h.ou h.nt
theorem Rel.set4 (h : Rel ca n O I J F E K G I' J' F' G') {v : Nat} (hv : v ≤ 20) : Rel ca n O (va_up I 4 v) J F E K G (va_up (va_up I' 0 0) 2 v) J' F' G' := Rel.mk' h.en h.e1 rfl h.e3 h.e4 h.e5 h.e6 h.e7 h.e8 h.e9 h.e10 h.e11 h.e12 h.eJ h.f0 h.f1 h.f2 h.f3 h.f4 h.f5 h.b0 h.b1 h.b2 h.b3 hv h.b5 h.b6 h.b7 h.b9 h.b10 h.b11 h.b12 h.hO h.hRm h.hK0 h.hR4 h.hLb h.hWt h.hPc h.hWd h.hN2 h.it h.ou h.nt
theorem Rel.set5 (h : Rel ca n O I J F E K G I' J' F' G') {v : Nat} (hv : 1 ≤ v ∧ v ≤ 60) : Rel ca n O (va_up I 5 v) J F E K G (va_up (va_up I' 0 0) 3 v) J' F' G' := Rel.mk' h.en h.e1 h.e2 rfl h.e4 h.e5 h.e6 h.e7 h.e8 h.e9 h.e10 h.e11 h.e12 h.eJ h.f0 h.f1 h.f2 h.f3 h.f4 h.f5 h.b0 h.b1 h.b2 h.b3 h.b4 hv h.b6 h.b7 h.b9 h.b10 h.b11 h.b12 h.hO h.hRm h.hK0 h.hR4 h.hLb h.hWt h.hPc h.hWd h.hN2 h.it h.ou h.nt
theorem Rel.set6 (h : Rel ca n O I J F E K G I' J' F' G') {v : Nat} (hv : 1 ≤ v ∧ v ≤ 60) : Rel ca n O (va_up I 6 v) J F E K G (va_up (va_up I' 0 0) 4 v) J' F' G' := Rel.mk' h.en h.e1 h.e2 h.e3 rfl h.e5 h.e6 h.e7 h.e8 h.e9 h.e10 h.e11 h.e12 h.eJ h.f0 h.f1 h.f2 h.f3 h.f4 h.f5 h.b0 h.b1 h.b2 h.b3 h.b4 h.b5 hv h.b7 h.b9 h.b10 h.b11 h.b12 h.hO h.hRm h.hK0 h.hR4 h.hLb h.hWt h.hPc h.hWd h.hN2 h.it h.ou h.nt
theorem Rel.set7 (h : Rel ca n O I J F E K G I' J' F' G') {v : Nat} (hv : v ≤ 1) : Rel ca n O (va_up I 7 v) J F E K G (va_up (va_up I' 0 0) 5 v) J' F' G' := Rel.mk' h.en h.e1 h.e2 h.e3 h.e4 rfl h.e6 h.e7 h.e8 h.e9 h.e10 h.e11 h.e12 h.eJ h.f0 h.f1 h.f2 h.f3 h.f4 h.f5 h.b0 h.b1 h.b2 h.b3 h.b4 h.b5 h.b6 hv h.b9 h.b10 h.b11 h.b12 h.hO h.hRm h.hK0 h.hR4 h.hLb h.hWt h.hPc h.hWd h.hN2 h.it h.ou h.nt
theorem Rel.res (h : Rel ca n O I J F E K G I' J' F' G') {x y z : Nat} (h1 : x ≤ 4) (h2 : y ≤ 1000) (h3 : z ≤ 60) : Rel ca n O (va_up (va_up (va_up I 0 x) 1 y) 2 z) J F E K G (va_up (va_up (va_up (va_up I' 0 0) 6 x) 7 y) 8 z) J' F' G' := Rel.mk' h.en h.e1 h.e2 h.e3 h.e4 h.e5 rfl rfl rfl h.e9 h.e10 h.e11 h.e12 h.eJ h.f0 h.f1 h.f2 h.f3 h.f4 h.f5 h1 h2 h3 h.b3 h.b4 h.b5 h.b6 h.b7 h.b9 h.b10 h.b11 h.b12 h.hO h.hRm h.hK0 h.hR4 h.hLb h.hWt h.hPc h.hWd h.hN2 h.it h.ou h.nt
theorem Rel.mk2 (h : Rel ca n O I J F E K G I' J' F' G') {x lb wt : Nat} (h1 : lb < 8) (h2 : wt ≤ 1000) : Rel ca n O I J (va_up (va_up F 0 (va_up (F 0) x lb)) 1 (va_up (F 1) x wt)) E K G (va_up I' 0 0) J' (va_up (va_up F' 1 (va_up (F' 1) x lb)) 2 (va_up (F' 2) x wt)) G' := Rel.mk' h.en h.e1 h.e2 h.e3 h.e4 h.e5 h.e6 h.e7 h.e8 h.e9 h.e10 h.e11 h.e12 h.eJ h.f0 (by show va_up (F' 1) x lb = va_up (F 0) x lb; rw [h.f1]) (by show va_up (F' 2) x wt = va_up (F 1) x wt; rw [h.f2]) h.f3 h.f4 h.f5 h.b0 h.b1 h.b2 h.b3 h.b4 h.b5 h.b6 h.b7 h.b9 h.b10 h.b11 h.b12 h.hO h.hRm h.hK0 h.hR4 (fun j hj => by show va_up (F 0) x lb j < 8; by_cases q : j = x; (rw [q, up_same]; exact h1); (rw [up_ne _ _ q]; exact h.hLb j hj)) (fun j hj => by show va_up (F 1) x wt j ≤ 1000; by_cases q : j = x; (rw [q, up_same]; exact h2); (rw [up_ne _ _ q]; exact h.hWt j hj)) h.hPc h.hWd h.hN2 h.it h.ou h.nt
theorem Rel.act (h : Rel ca n O I J F E K G I' J' F' G') {kd Ho Wo Lo kd' Ho' Wo' Lo' : Nat} {o o' g : Nat → Int32} {σ σ' : Int64} (e1 : kd' = kd) (e2 : Ho' = Ho) (e3 : Wo' = Wo) (e4 : Lo' = Lo) (ho : ∀ k, k < Lo → o k = o' k) (h1 : kd ≤ 1) (h2 : Lo ≤ 1600) (h3 : Ho ≤ 40) (h4 : Wo ≤ 40) : Rel ca n O (va_up (va_up (va_up (va_up I 9 kd) 10 Ho) 11 Wo) 12 Lo) (va_up J 1 σ) F (va_up E 0 o) K G (va_up (va_up (va_up (va_up (va_up I' 0 0) 9 kd') 10 Lo') 11 Ho') 12 Wo') (va_up J' 1 σ') F' (va_up (va_up G' 1 o') 2 g) := Rel.mk' h.en h.e1 h.e2 h.e3 h.e4 h.e5 h.e6 h.e7 h.e8 e1 e4 e2 e3 h.eJ h.f0 h.f1 h.f2 h.f3 h.f4 h.f5 h.b0 h.b1 h.b2 h.b3 h.b4 h.b5 h.b6 h.b7 (by show kd ≤ 2; omega) h3 h4 h2 h.hO h.hRm h.hK0 h.hR4 h.hLb h.hWt h.hPc h.hWd h.hN2 h.it ho (fun q => by have q : kd = 2 := q; omega)
theorem Rel.wrd (h : Rel ca n O I J F E K G I' J' F' G') {x : Nat} {v : Int32} (hx : x < I 3) (hk : K 0 x = 0) (hl : K 3 x < 40) : Rel ca n O I J F E (va_up K 3 (va_up (K 3) x (K 3 x + 1))) (va_up G x (upd (G x) (K 3 x) v)) (va_up I' 0 0) J' (va_up F' 3 (va_up (F' 3) x (F' 3 x + 1))) (va_up G' 0 (upd (G' 0) (1600 * x + F' 3 x) v)) := Rel.mk' h.en h.e1 h.e2 h.e3 h.e4 h.e5 h.e6 h.e7 h.e8 h.e9 h.e10 h.e11 h.e12 h.eJ h.f0 h.f1 h.f2 (by show va_up (F' 3) x (F' 3 x + 1) = va_up (K 3) x (K 3 x + 1); rw [h.f3]) h.f4 h.f5 h.b0 h.b1 h.b2 h.b3 h.b4 h.b5 h.b6 h.b7 h.b9 h.b10 h.b11 h.b12 h.hO (fun j hj => by show va_up (K 3) x (K 3 x + 1) j ≤ K 4 j ∧ K 4 j ≤ 1600; have z := h.hRm j hj; by_cases q : j = x; (subst q; rw [up_same]; have z2 := h.hR4 j hj hk; omega); (rw [up_ne _ _ q]; exact z)) h.hK0 h.hR4 h.hLb h.hWt (fun j hj e => by have e : K 0 j = 1 := e; show 1 ≤ K 1 j ∧ 1 ≤ K 2 j ∧ va_up (K 3) x (K 3 x + 1) j = K 1 j * K 2 j; rw [up_ne _ _ (fun q => by subst q; omega)]; exact h.hPc j hj e) (fun j hj e => by have e : K 0 j = 0 := e; show K 1 j = 0 ∧ K 2 j = 0 ∧ va_up (K 3) x (K 3 x + 1) j ≤ 40; have z := h.hWd j hj e; by_cases q : j = x; (subst q; rw [up_same]; omega); (rw [up_ne _ _ q]; exact z)) (fun j hj e => by have e : K 0 j = 2 := e; show K 1 j = 0 ∧ K 2 j = 0 ∧ va_up (K 3) x (K 3 x + 1) j = 0; rw [up_ne _ _ (fun q => by subst q; omega)]; exact h.hN2 j hj e) (fun j k hj hk2 => by have hk2 : k < va_up (K 3) x (K 3 x + 1) j := hk2; show va_up G x (upd (G x) (K 3 x) v) j k = upd (G' 0) (1600 * x + F' 3 x) v (1600 * j + k); rw [h.f3]; have z1 := h.hRm j hj; have z2 := h.hRm x hx; by_cases q : j = x; (subst q; rw [up_same] at hk2 ⊢; by_cases q2 : k = K 3 j; (subst q2; rw [pk_us, pk_us]); (rw [pk_un q2, pk_un (by omega)]; exact h.it j k hj (by omega))); (rw [up_ne _ _ q] at hk2 ⊢; rw [pk_un (by omega)]; exact h.it j k hj hk2)) h.ou h.nt
theorem Rel.pai (h : Rel ca n O I J F E K G I' J' F' G') {x y : Nat} {v : Int64} (hx : x < I 3) (hy : y < K 3 x) : Rel ca n O I J F E K (va_up G x (pnt y v (min 8 (K 3 x - y)) (G x))) (va_up I' 0 0) J' F' (va_up G' 0 (pnt (1600 * x + y) v (min 8 (F' 3 x - y)) (G' 0))) := Rel.mk' h.en h.e1 h.e2 h.e3 h.e4 h.e5 h.e6 h.e7 h.e8 h.e9 h.e10 h.e11 h.e12 h.eJ h.f0 h.f1 h.f2 h.f3 h.f4 h.f5 h.b0 h.b1 h.b2 h.b3 h.b4 h.b5 h.b6 h.b7 h.b9 h.b10 h.b11 h.b12 h.hO h.hRm h.hK0 h.hR4 h.hLb h.hWt h.hPc h.hWd h.hN2 (fun j k hj hk => by show va_up G x (pnt y v (min 8 (K 3 x - y)) (G x)) j k = pnt (1600 * x + y) v (min 8 (F' 3 x - y)) (G' 0) (1600 * j + k); rw [h.f3]; have z1 := h.hRm j hj; have z2 := h.hRm x hx; by_cases q : j = x; (subst q; rw [up_same]; unfold pnt; by_cases q2 : y ≤ k ∧ k < y + min 8 (K 3 j - y); (rw [if_pos q2, if_pos (by omega), show 1600 * j + k - (1600 * j + y) = k - y by omega]); (rw [if_neg q2, if_neg (by omega)]; exact h.it j k hj hk)); (rw [up_ne _ _ q]; unfold pnt; rw [if_neg (by omega)]; exact h.it j k hj hk)) h.ou h.nt
theorem Rel.push (h : Rel ca (I 3) O I J F E K G I' J' F' G') {q k0 k1 k2 k3 k4 lb wt : Nat} (h60 : I 3 < 60) (hlb : lb < 8) (hwt : wt ≤ 1000) (hk0 : k0 ≤ 2 ∧ k1 ≤ 40 ∧ k2 ≤ 40) (hk3 : k3 ≤ k4 ∧ k4 ≤ 1600) (h04 : k0 = 0 → k4 = 40) (hp : k0 = 1 → 1 ≤ k1 ∧ 1 ≤ k2 ∧ k3 = k1 * k2) (hw : k0 = 0 → k1 = 0 ∧ k2 = 0 ∧ k3 ≤ 40) (hn2 : k0 = 2 → k1 = 0 ∧ k2 = 0 ∧ k3 = 0) :
    Rel (va_up ca (I 3) q) (I 3 + 1) (va_up O (I 3) (some (va_up ca (I 3) q (I 3)))) (va_up I 3 (I 3 + 1)) J (va_up (va_up F 0 (va_up (F 0) (I 3) lb)) 1 (va_up (F 1) (I 3) wt)) E (kps K (I 3) k0 k1 k2 k3 k4) (va_up G (I 3) (fun _ => 0)) (va_up (va_up I' 0 0) 1 (I' 1 + 1)) J' (va_up (va_up (va_up (va_up (va_up (va_up F' 0 (va_up (F' 0) (I' 1) k0)) 1 (va_up (F' 1) (I' 1) lb)) 2 (va_up (F' 2) (I' 1) wt)) 3 (va_up (F' 3) (I' 1) k3)) 4 (va_up (F' 4) (I' 1) k1)) 5 (va_up (F' 5) (I' 1) k2)) (va_up G' 0 (zr (1600 * I' 1) 1600 (G' 0))) := by
  have up0 : ∀ {f : Nat → Nat} {v i : Nat}, i ≠ I 3 → va_up f (I 3) v i = f i := fun hh => up_ne _ _ hh
  have rw1 : ∀ {f : Nat → Nat} {v : Nat} (P : Nat → Nat → Prop), (∀ j, j < I 3 → P j (f j)) → P (I 3) v → ∀ j, j < I 3 + 1 → P j (va_up f (I 3) v j) := by
    intro f v P h1 h2 j hj
    by_cases e : j = I 3
    · subst e; rw [up_same]; exact h2
    · rw [up_ne _ _ e]; exact h1 j (by omega)
  have dd : ∀ {P : Nat → Prop}, (∀ j, j < I 3 → P j) → P (I 3) → ∀ j, j < I 3 + 1 → P j := by
    intro P h1 h2 j hj
    by_cases e : j = I 3
    · subst e; exact h2
    · exact h1 j (by omega)
  have kn : ∀ t, kps K (I 3) k0 k1 k2 k3 k4 t (I 3) = if t = 0 then k0 else if t = 1 then k1 else if t = 2 then k2 else if t = 3 then k3 else k4 := fun t => by unfold kps; rw [up_same]
  have ko : ∀ t j, j < I 3 → kps K (I 3) k0 k1 k2 k3 k4 t j = K t j := fun t j hj => by unfold kps; rw [up_ne _ _ (by omega)]
  refine Rel.mk' rfl (congrArg (· + 1) h.e1) h.e2 h.e3 h.e4 h.e5 h.e6 h.e7 h.e8 h.e9 h.e10 h.e11 h.e12 h.eJ (by show va_up (F' 0) (I' 1) k0 = va_up (K 0) (I 3) k0; rw [h.f0, h.e1]) (by show va_up (F' 1) (I' 1) lb = va_up (F 0) (I 3) lb; rw [h.f1, h.e1]) (by show va_up (F' 2) (I' 1) wt = va_up (F 1) (I 3) wt; rw [h.f2, h.e1]) (by show va_up (F' 3) (I' 1) k3 = va_up (K 3) (I 3) k3; rw [h.f3, h.e1]) (by show va_up (F' 4) (I' 1) k1 = va_up (K 1) (I 3) k1; rw [h.f4, h.e1]) (by show va_up (F' 5) (I' 1) k2 = va_up (K 2) (I 3) k2; rw [h.f5, h.e1]) h.b0 h.b1 h.b2 (by show I 3 + 1 ≤ 60; omega) h.b4 h.b5 h.b6 h.b7 h.b9 h.b10 h.b11 h.b12 (dd (fun j hj => by rw [up_ne _ _ (by omega), up_ne _ _ (by omega)]; exact h.hO j hj) (by rw [up_same])) (dd (fun j hj => by rw [ko 3 j hj, ko 4 j hj]; exact h.hRm j hj) (by rw [kn, kn]; exact hk3)) (dd (fun j hj => by rw [ko 0 j hj, ko 1 j hj, ko 2 j hj]; exact h.hK0 j hj) (by rw [kn, kn, kn]; exact hk0)) (dd (fun j hj => by rw [ko 0 j hj, ko 4 j hj]; exact h.hR4 j hj) (by rw [kn, kn]; exact h04)) (rw1 (fun _ z => z < 8) h.hLb hlb) (rw1 (fun _ z => z ≤ 1000) h.hWt hwt) (dd (fun j hj => by rw [ko 0 j hj, ko 1 j hj, ko 2 j hj, ko 3 j hj]; exact h.hPc j hj) (by rw [kn, kn, kn, kn]; exact hp)) (dd (fun j hj => by rw [ko 0 j hj, ko 1 j hj, ko 2 j hj, ko 3 j hj]; exact h.hWd j hj) (by rw [kn, kn, kn, kn]; exact hw)) (dd (fun j hj => by rw [ko 0 j hj, ko 1 j hj, ko 2 j hj, ko 3 j hj]; exact h.hN2 j hj) (by rw [kn, kn, kn, kn]; exact hn2)) (fun j k hj hk => by have hj : j < I 3 + 1 := hj; show va_up G (I 3) (fun _ => 0) j k = zr (1600 * I' 1) 1600 (G' 0) (1600 * j + k); rw [h.e1]; unfold zr; by_cases e : j = I 3; (subst e; rw [kn] at hk; have hk : k < k3 := hk; rw [up_same, if_pos (by omega)]); (rw [ko 3 j (by omega)] at hk; have z := h.hRm j (by omega); rw [up_ne _ _ e, if_neg (by omega)]; exact h.it j k (by omega) hk)) h.ou h.nt
end
