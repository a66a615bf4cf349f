set_option maxHeartbeats 4000000 in
theorem sim_row {cI cO : ClassId} {a b ca ia : Nat → Nat} {n : Nat} {O : Nat → Option Nat} {I : Nat → Nat} {J : Nat → Int64} {F : Nat → Nat → Nat} {E : Nat → Nat → Int32} {K : Nat → Nat → Nat} {G : Nat → Nat → Int32} {I' : Nat → Nat} {J' : Nat → Int64} {F' : Nat → Nat → Nat} {G' : Nat → Nat → Int32} (h : Rel ca n O I J F E K G I' J' F' G') {kd lb wt : Int32} {r r' : Int32} {w w' : va_W} (hc :  (¬ ((kd.toInt = 0 ∨ kd.toInt = 2) ∧ 0 ≤ lb.toInt ∧ lb.toInt ≤ 7 ∧ 0 ≤ wt.toInt ∧ wt.toInt ≤ 1000) ∧ r = -1 ∧ w = bW cI cO a ca ia n O I J F E K G) ∨ (((kd.toInt = 0 ∨ kd.toInt = 2) ∧ 0 ≤ lb.toInt ∧ lb.toInt ≤ 7 ∧ 0 ≤ wt.toInt ∧ wt.toInt ≤ 1000) ∧ I 3 = 60 ∧ r = -2 ∧ w = bW cI cO a ca ia n O I J F E K G) ∨ (((kd.toInt = 0 ∨ kd.toInt = 2) ∧ 0 ≤ lb.toInt ∧ lb.toInt ≤ 7 ∧ 0 ≤ wt.toInt ∧ wt.toInt ≤ 1000) ∧ I 3 < 60 ∧ r = nI (I 3) ∧ ∃ q q2, w = bW cI cO a (va_up ca n q) (va_up ia n q2) (n + 1) (va_up O (I 3) (some (va_up ca n q n))) (va_up I 3 (I 3 + 1)) J (va_up (va_up F 0 (va_up (F 0) (I 3) (tn lb))) 1 (va_up (F 1) (I 3) (tn wt))) E (kps K n (tn kd) 0 0 (0 * 0) (if tn kd = 0 then 40 else 0)) (va_up G n (fun _ => 0)))) (hm :  (¬ ((kd.toInt = 0 ∨ kd.toInt = 2) ∧ 0 ≤ lb.toInt ∧ lb.toInt ≤ 7 ∧ 0 ≤ wt.toInt ∧ wt.toInt ≤ 1000) ∧ r' = -1 ∧ w' = mW cI b (va_up I' 0 0) J' F' G') ∨ (((kd.toInt = 0 ∨ kd.toInt = 2) ∧ 0 ≤ lb.toInt ∧ lb.toInt ≤ 7 ∧ 0 ≤ wt.toInt ∧ wt.toInt ≤ 1000) ∧ I' 1 = 60 ∧ r' = -2 ∧ w' = mW cI b (va_up I' 0 0) J' F' G') ∨ (((kd.toInt = 0 ∨ kd.toInt = 2) ∧ 0 ≤ lb.toInt ∧ lb.toInt ≤ 7 ∧ 0 ≤ wt.toInt ∧ wt.toInt ≤ 1000) ∧ I' 1 < 60 ∧ r' = nI (I' 1) ∧ w' = mW cI b (va_up (va_up I' 0 0) 1 (I' 1 + 1)) J' (va_up (va_up (va_up (va_up (va_up (va_up F' 0 (va_up (F' 0) (I' 1) (tn kd))) 1 (va_up (F' 1) (I' 1) (tn lb))) 2 (va_up (F' 2) (I' 1) (tn wt))) 3 (va_up (F' 3) (I' 1) (0 * 0))) 4 (va_up (F' 4) (I' 1) 0)) 5 (va_up (F' 5) (I' 1) 0)) (va_up G' 0 (zr (1600 * I' 1) 1600 (G' 0))))) : r = r' ∧ RelW cI cO a b w w' := by
  have en := h.en
  subst en
  have e1 := h.e1
  have e2 := h.e2
  have e3 := h.e3
  have e4 := h.e4
  have e5 := h.e5
  have e6 := h.e6
  have e7 := h.e7
  have e8 := h.e8
  have b3 := h.b3
  have b4 := h.b4
  have b7 := h.b7
  rcases hc with ⟨k1, rfl, rfl⟩ | ⟨k1, k2, rfl, rfl⟩ | ⟨k1, k2, rfl, q, q2, rfl⟩ <;> rcases hm with ⟨g1, rfl, rfl⟩ | ⟨g1, g2, rfl, rfl⟩ | ⟨g1, g2, rfl, rfl⟩
  all_goals first
    | (exfalso; omega)
    | (exact ⟨rfl, _, _, _, _, _, _, _, _, _, _, _, _, _, _, rfl, rfl, h.thr 0⟩)
    | (have hkd : tn kd = 0 ∨ tn kd = 2 := by unfold tn; omega
       have hlb : tn lb < 8 := by unfold tn; omega
       have hwt : tn wt ≤ 1000 := by unfold tn; omega
       exact ⟨by rw [e1], _, _, _, _, _, _, _, _, _, _, _, _, _, _, rfl, rfl, h.push (by omega) hlb hwt (by omega) (by split <;> omega) (fun z => if_pos z) (fun z => by omega) (fun z => by omega) (fun z => by omega)⟩)
set_option maxHeartbeats 4000000 in
theorem sim_picture {cI cO : ClassId} {a b ca ia : Nat → Nat} {n : Nat} {O : Nat → Option Nat} {I : Nat → Nat} {J : Nat → Int64} {F : Nat → Nat → Nat} {E : Nat → Nat → Int32} {K : Nat → Nat → Nat} {G : Nat → Nat → Int32} {I' : Nat → Nat} {J' : Nat → Int64} {F' : Nat → Nat → Nat} {G' : Nat → Nat → Int32} (h : Rel ca n O I J F E K G I' J' F' G') {hi wi lb wt : Int32} {r r' : Int32} {w w' : va_W} (hc :  (¬ (1 ≤ hi.toInt ∧ hi.toInt ≤ 40 ∧ 1 ≤ wi.toInt ∧ wi.toInt ≤ 40 ∧ 0 ≤ lb.toInt ∧ lb.toInt ≤ 7 ∧ 0 ≤ wt.toInt ∧ wt.toInt ≤ 1000) ∧ r = -1 ∧ w = bW cI cO a ca ia n O I J F E K G) ∨ ((1 ≤ hi.toInt ∧ hi.toInt ≤ 40 ∧ 1 ≤ wi.toInt ∧ wi.toInt ≤ 40 ∧ 0 ≤ lb.toInt ∧ lb.toInt ≤ 7 ∧ 0 ≤ wt.toInt ∧ wt.toInt ≤ 1000) ∧ I 3 = 60 ∧ r = -2 ∧ w = bW cI cO a ca ia n O I J F E K G) ∨ ((1 ≤ hi.toInt ∧ hi.toInt ≤ 40 ∧ 1 ≤ wi.toInt ∧ wi.toInt ≤ 40 ∧ 0 ≤ lb.toInt ∧ lb.toInt ≤ 7 ∧ 0 ≤ wt.toInt ∧ wt.toInt ≤ 1000) ∧ I 3 < 60 ∧ r = nI (I 3) ∧ ∃ q q2, w = bW cI cO a (va_up ca n q) (va_up ia n q2) (n + 1) (va_up O (I 3) (some (va_up ca n q n))) (va_up I 3 (I 3 + 1)) J (va_up (va_up F 0 (va_up (F 0) (I 3) (tn lb))) 1 (va_up (F 1) (I 3) (tn wt))) E (kps K n 1 (tn hi) (tn wi) (tn hi * tn wi) (tn hi * tn wi)) (va_up G n (fun _ => 0)))) (hm :  (¬ (1 ≤ hi.toInt ∧ hi.toInt ≤ 40 ∧ 1 ≤ wi.toInt ∧ wi.toInt ≤ 40 ∧ 0 ≤ lb.toInt ∧ lb.toInt ≤ 7 ∧ 0 ≤ wt.toInt ∧ wt.toInt ≤ 1000) ∧ r' = -1 ∧ w' = mW cI b (va_up I' 0 0) J' F' G') ∨ ((1 ≤ hi.toInt ∧ hi.toInt ≤ 40 ∧ 1 ≤ wi.toInt ∧ wi.toInt ≤ 40 ∧ 0 ≤ lb.toInt ∧ lb.toInt ≤ 7 ∧ 0 ≤ wt.toInt ∧ wt.toInt ≤ 1000) ∧ I' 1 = 60 ∧ r' = -2 ∧ w' = mW cI b (va_up I' 0 0) J' F' G') ∨ ((1 ≤ hi.toInt ∧ hi.toInt ≤ 40 ∧ 1 ≤ wi.toInt ∧ wi.toInt ≤ 40 ∧ 0 ≤ lb.toInt ∧ lb.toInt ≤ 7 ∧ 0 ≤ wt.toInt ∧ wt.toInt ≤ 1000) ∧ I' 1 < 60 ∧ r' = nI (I' 1) ∧ w' = mW cI b (va_up (va_up I' 0 0) 1 (I' 1 + 1)) J' (va_up (va_up (va_up (va_up (va_up (va_up F' 0 (va_up (F' 0) (I' 1) 1)) 1 (va_up (F' 1) (I' 1) (tn lb))) 2 (va_up (F' 2) (I' 1) (tn wt))) 3 (va_up (F' 3) (I' 1) ((tn hi) * (tn wi)))) 4 (va_up (F' 4) (I' 1) (tn hi))) 5 (va_up (F' 5) (I' 1) (tn wi))) (va_up G' 0 (zr (1600 * I' 1) 1600 (G' 0))))) : r = r' ∧ RelW cI cO a b w w' := by
  have en := h.en
  subst en
  have e1 := h.e1
  have e2 := h.e2
  have e3 := h.e3
  have e4 := h.e4
  have e5 := h.e5
  have e6 := h.e6
  have e7 := h.e7
  have e8 := h.e8
  have b3 := h.b3
  have b4 := h.b4
  have b7 := h.b7
  rcases hc with ⟨k1, rfl, rfl⟩ | ⟨k1, k2, rfl, rfl⟩ | ⟨k1, k2, rfl, q, q2, rfl⟩ <;> rcases hm with ⟨g1, rfl, rfl⟩ | ⟨g1, g2, rfl, rfl⟩ | ⟨g1, g2, rfl, rfl⟩
  all_goals first
    | (exfalso; omega)
    | (exact ⟨rfl, _, _, _, _, _, _, _, _, _, _, _, _, _, _, rfl, rfl, h.thr 0⟩)
    | (have h1 : 1 ≤ tn hi ∧ tn hi ≤ 40 := by unfold tn; omega
       have h2 : 1 ≤ tn wi ∧ tn wi ≤ 40 := by unfold tn; omega
       have hp16 := prod_le h1.2 h2.2
       have hlb : tn lb < 8 := by unfold tn; omega
       have hwt : tn wt ≤ 1000 := by unfold tn; omega
       exact ⟨by rw [e1], _, _, _, _, _, _, _, _, _, _, _, _, _, _, rfl, rfl, h.push (by omega) hlb hwt (by omega) ⟨Nat.le_refl _, hp16⟩ (fun z => by omega) (fun _ => ⟨h1.1, h2.1, rfl⟩) (fun z => by omega) (fun z => by omega)⟩)
set_option maxHeartbeats 4000000 in
theorem sim_word {cI cO : ClassId} {a b ca ia : Nat → Nat} {n : Nat} {O : Nat → Option Nat} {I : Nat → Nat} {J : Nat → Int64} {F : Nat → Nat → Nat} {E : Nat → Nat → Int32} {K : Nat → Nat → Nat} {G : Nat → Nat → Int32} {I' : Nat → Nat} {J' : Nat → Int64} {F' : Nat → Nat → Nat} {G' : Nat → Nat → Int32} (h : Rel ca n O I J F E K G I' J' F' G') {x v : Int32} {r r' : Int32} {w w' : va_W} (hc :  (¬ (0 ≤ x.toInt ∧ x.toInt < I 3) ∧ r = -1 ∧ w = bW cI cO a ca ia n O I J F E K G) ∨ ((0 ≤ x.toInt ∧ x.toInt < I 3) ∧ K 0 (tn x) ≠ 0 ∧ r = -1 ∧ w = bW cI cO a ca ia n O I J F E K G) ∨ ((0 ≤ x.toInt ∧ x.toInt < I 3) ∧ K 0 (tn x) = 0 ∧ 40 ≤ K 3 (tn x) ∧ r = -2 ∧ w = bW cI cO a ca ia n O I J F E K G) ∨ ((0 ≤ x.toInt ∧ x.toInt < I 3) ∧ K 0 (tn x) = 0 ∧ K 3 (tn x) < 40 ∧ r = nI (K 3 (tn x) + 1) ∧ w = bW cI cO a ca ia n O I J F E (va_up K 3 (va_up (K 3) (tn x) (K 3 (tn x) + 1))) (va_up G (tn x) (upd (G (tn x)) (K 3 (tn x)) v)))) (hm :  (¬ (0 ≤ x.toInt ∧ x.toInt < I' 1) ∧ r' = -1 ∧ w' = mW cI b (va_up I' 0 0) J' F' G') ∨ ((0 ≤ x.toInt ∧ x.toInt < I' 1) ∧ F' 0 (tn x) ≠ 0 ∧ r' = -1 ∧ w' = mW cI b (va_up I' 0 0) J' F' G') ∨ ((0 ≤ x.toInt ∧ x.toInt < I' 1) ∧ F' 0 (tn x) = 0 ∧ F' 3 (tn x) = 40 ∧ r' = -2 ∧ w' = mW cI b (va_up I' 0 0) J' F' G') ∨ ((0 ≤ x.toInt ∧ x.toInt < I' 1) ∧ F' 0 (tn x) = 0 ∧ F' 3 (tn x) ≠ 40 ∧ r' = nI (F' 3 (tn x) + 1) ∧ w' = mW cI b (va_up I' 0 0) J' (va_up F' 3 (va_up (F' 3) (tn x) (F' 3 (tn x) + 1))) (va_up G' 0 (upd (G' 0) (1600 * tn x + F' 3 (tn x)) v)))) : r = r' ∧ RelW cI cO a b w w' := by
  have en := h.en
  subst en
  have e1 := h.e1
  have e2 := h.e2
  have e3 := h.e3
  have e4 := h.e4
  have e5 := h.e5
  have e6 := h.e6
  have e7 := h.e7
  have e8 := h.e8
  have b3 := h.b3
  have b4 := h.b4
  have b7 := h.b7
  have f0 := congrFun h.f0 (tn x)
  have f1 := congrFun h.f1 (tn x)
  have f2 := congrFun h.f2 (tn x)
  have f3 := congrFun h.f3 (tn x)
  have f4 := congrFun h.f4 (tn x)
  have f5 := congrFun h.f5 (tn x)
  have hw : (0 ≤ x.toInt ∧ x.toInt < I 3) → K 0 (tn x) = 0 → K 3 (tn x) ≤ 40 := fun z q => (h.hWd (tn x) (by unfold tn; omega) q).2.2
  rcases hc with ⟨k1, rfl, rfl⟩ | ⟨k1, k2, rfl, rfl⟩ | ⟨k1, k2, k3, rfl, rfl⟩ | ⟨k1, k2, k3, rfl, rfl⟩ <;> rcases hm with ⟨g1, rfl, rfl⟩ | ⟨g1, g2, rfl, rfl⟩ | ⟨g1, g2, g3, rfl, rfl⟩ | ⟨g1, g2, g3, rfl, rfl⟩
  all_goals first
    | (exfalso; omega)
    | (exact ⟨rfl, _, _, _, _, _, _, _, _, _, _, _, _, _, _, rfl, rfl, h.thr 0⟩)
    | (exact ⟨by rw [f3], _, _, _, _, _, _, _, _, _, _, _, _, _, _, rfl, rfl, h.wrd (by unfold tn; omega) k2 (by omega)⟩)
set_option maxHeartbeats 4000000 in
theorem sim_paint {cI cO : ClassId} {a b ca ia : Nat → Nat} {n : Nat} {O : Nat → Option Nat} {I : Nat → Nat} {J : Nat → Int64} {F : Nat → Nat → Nat} {E : Nat → Nat → Int32} {K : Nat → Nat → Nat} {G : Nat → Nat → Int32} {I' : Nat → Nat} {J' : Nat → Int64} {F' : Nat → Nat → Nat} {G' : Nat → Nat → Int32} (h : Rel ca n O I J F E K G I' J' F' G') {x y : Int32} {v : Int64} {r r' : Int32} {w w' : va_W} (hc :  (¬ (0 ≤ x.toInt ∧ x.toInt < I 3) ∧ r = -1 ∧ w = bW cI cO a ca ia n O I J F E K G) ∨ ((0 ≤ x.toInt ∧ x.toInt < I 3) ∧ K 0 (tn x) ≠ 1 ∧ r = -1 ∧ w = bW cI cO a ca ia n O I J F E K G) ∨ ((0 ≤ x.toInt ∧ x.toInt < I 3) ∧ K 0 (tn x) = 1 ∧ ¬ (0 ≤ y.toInt ∧ y.toInt < K 3 (tn x)) ∧ r = -1 ∧ w = bW cI cO a ca ia n O I J F E K G) ∨ ((0 ≤ x.toInt ∧ x.toInt < I 3) ∧ K 0 (tn x) = 1 ∧ (0 ≤ y.toInt ∧ y.toInt < K 3 (tn x)) ∧ r = 1 ∧ w = bW cI cO a ca ia n O I J F E K (va_up G (tn x) (pnt (tn y) v (min 8 (K 3 (tn x) - tn y)) (G (tn x)))))) (hm :  (¬ (0 ≤ x.toInt ∧ x.toInt < I' 1) ∧ r' = -1 ∧ w' = mW cI b (va_up I' 0 0) J' F' G') ∨ ((0 ≤ x.toInt ∧ x.toInt < I' 1) ∧ F' 0 (tn x) ≠ 1 ∧ r' = -1 ∧ w' = mW cI b (va_up I' 0 0) J' F' G') ∨ ((0 ≤ x.toInt ∧ x.toInt < I' 1) ∧ F' 0 (tn x) = 1 ∧ ¬ (0 ≤ y.toInt ∧ y.toInt < F' 3 (tn x)) ∧ r' = -1 ∧ w' = mW cI b (va_up I' 0 0) J' F' G') ∨ ((0 ≤ x.toInt ∧ x.toInt < I' 1) ∧ F' 0 (tn x) = 1 ∧ (0 ≤ y.toInt ∧ y.toInt < F' 3 (tn x)) ∧ r' = 1 ∧ w' = mW cI b (va_up I' 0 0) J' F' (va_up G' 0 (pnt (1600 * tn x + tn y) v (min 8 (F' 3 (tn x) - tn y)) (G' 0))))) : r = r' ∧ RelW cI cO a b w w' := by
  have en := h.en
  subst en
  have e1 := h.e1
  have e2 := h.e2
  have e3 := h.e3
  have e4 := h.e4
  have e5 := h.e5
  have e6 := h.e6
  have e7 := h.e7
  have e8 := h.e8
  have b3 := h.b3
  have b4 := h.b4
  have b7 := h.b7
  have f0 := congrFun h.f0 (tn x)
  have f1 := congrFun h.f1 (tn x)
  have f2 := congrFun h.f2 (tn x)
  have f3 := congrFun h.f3 (tn x)
  have f4 := congrFun h.f4 (tn x)
  have f5 := congrFun h.f5 (tn x)
  rcases hc with ⟨k1, rfl, rfl⟩ | ⟨k1, k2, rfl, rfl⟩ | ⟨k1, k2, k3, rfl, rfl⟩ | ⟨k1, k2, k3, rfl, rfl⟩ <;> rcases hm with ⟨g1, rfl, rfl⟩ | ⟨g1, g2, rfl, rfl⟩ | ⟨g1, g2, g3, rfl, rfl⟩ | ⟨g1, g2, g3, rfl, rfl⟩
  all_goals first
    | (exfalso; omega)
    | (exact ⟨rfl, _, _, _, _, _, _, _, _, _, _, _, _, _, _, rfl, rfl, h.thr 0⟩)
    | (exact ⟨rfl, _, _, _, _, _, _, _, _, _, _, _, _, _, _, rfl, rfl, h.pai (by unfold tn; omega) (by unfold tn at *; omega)⟩)
set_option maxHeartbeats 4000000 in
theorem sim_mark {cI cO : ClassId} {a b ca ia : Nat → Nat} {n : Nat} {O : Nat → Option Nat} {I : Nat → Nat} {J : Nat → Int64} {F : Nat → Nat → Nat} {E : Nat → Nat → Int32} {K : Nat → Nat → Nat} {G : Nat → Nat → Int32} {I' : Nat → Nat} {J' : Nat → Int64} {F' : Nat → Nat → Nat} {G' : Nat → Nat → Int32} (h : Rel ca n O I J F E K G I' J' F' G') {x lb wt : Int32} {r r' : Int32} {w w' : va_W} (hc :  (¬ (0 ≤ x.toInt ∧ x.toInt < I 3 ∧ 0 ≤ lb.toInt ∧ lb.toInt ≤ 7 ∧ 0 ≤ wt.toInt ∧ wt.toInt ≤ 1000) ∧ r = -1 ∧ w = bW cI cO a ca ia n O I J F E K G) ∨ ((0 ≤ x.toInt ∧ x.toInt < I 3 ∧ 0 ≤ lb.toInt ∧ lb.toInt ≤ 7 ∧ 0 ≤ wt.toInt ∧ wt.toInt ≤ 1000) ∧ r = 1 ∧ w = bW cI cO a ca ia n O I J (va_up (va_up F 0 (va_up (F 0) (tn x) (tn lb))) 1 (va_up (F 1) (tn x) (tn wt))) E K G)) (hm :  (¬ (0 ≤ x.toInt ∧ x.toInt < I' 1 ∧ 0 ≤ lb.toInt ∧ lb.toInt ≤ 7 ∧ 0 ≤ wt.toInt ∧ wt.toInt ≤ 1000) ∧ r' = -1 ∧ w' = mW cI b (va_up I' 0 0) J' F' G') ∨ ((0 ≤ x.toInt ∧ x.toInt < I' 1 ∧ 0 ≤ lb.toInt ∧ lb.toInt ≤ 7 ∧ 0 ≤ wt.toInt ∧ wt.toInt ≤ 1000) ∧ r' = 1 ∧ w' = mW cI b (va_up I' 0 0) J' (va_up (va_up F' 1 (va_up (F' 1) (tn x) (tn lb))) 2 (va_up (F' 2) (tn x) (tn wt))) G')) : r = r' ∧ RelW cI cO a b w w' := by
  have en := h.en
  subst en
  have e1 := h.e1
  have e2 := h.e2
  have e3 := h.e3
  have e4 := h.e4
  have e5 := h.e5
  have e6 := h.e6
  have e7 := h.e7
  have e8 := h.e8
  have b3 := h.b3
  have b4 := h.b4
  have b7 := h.b7
  rcases hc with ⟨k1, rfl, rfl⟩ | ⟨k1, rfl, rfl⟩ <;> rcases hm with ⟨g1, rfl, rfl⟩ | ⟨g1, rfl, rfl⟩
  all_goals first
    | (exfalso; omega)
    | (exact ⟨rfl, _, _, _, _, _, _, _, _, _, _, _, _, _, _, rfl, rfl, h.thr 0⟩)
    | (exact ⟨rfl, _, _, _, _, _, _, _, _, _, _, _, _, _, _, rfl, rfl, h.mk2 (by unfold tn; omega) (by unfold tn; omega)⟩)
set_option maxHeartbeats 4000000 in
theorem sim_of {cI cO : ClassId} {a b ca ia : Nat → Nat} {n : Nat} {O : Nat → Option Nat} {I : Nat → Nat} {J : Nat → Int64} {F : Nat → Nat → Nat} {E : Nat → Nat → Int32} {K : Nat → Nat → Nat} {G : Nat → Nat → Int32} {I' : Nat → Nat} {J' : Nat → Int64} {F' : Nat → Nat → Nat} {G' : Nat → Nat → Int32} (h : Rel ca n O I J F E K G I' J' F' G') {x y : Int32} {r r' : Int32} {w w' : va_W} (hc :  (¬ (0 ≤ x.toInt ∧ x.toInt < I 3) ∧ r = -1 ∧ w = bW cI cO a ca ia n O I J F E K G) ∨ ((0 ≤ x.toInt ∧ x.toInt < I 3) ∧ y = nI 0 ∧ r = nI (K 0 (tn x)) ∧ w = bW cI cO a ca ia n O I J F E K G) ∨ ((0 ≤ x.toInt ∧ x.toInt < I 3) ∧ y = nI 1 ∧ r = nI (F 0 (tn x)) ∧ w = bW cI cO a ca ia n O I J F E K G) ∨ ((0 ≤ x.toInt ∧ x.toInt < I 3) ∧ y = nI 2 ∧ r = nI (F 1 (tn x)) ∧ w = bW cI cO a ca ia n O I J F E K G) ∨ ((0 ≤ x.toInt ∧ x.toInt < I 3) ∧ y = nI 3 ∧ r = nI (K 3 (tn x)) ∧ w = bW cI cO a ca ia n O I J F E K G) ∨ ((0 ≤ x.toInt ∧ x.toInt < I 3) ∧ y = nI 4 ∧ r = nI (K 1 (tn x)) ∧ w = bW cI cO a ca ia n O I J F E K G) ∨ ((0 ≤ x.toInt ∧ x.toInt < I 3) ∧ y = nI 5 ∧ r = nI (K 2 (tn x)) ∧ w = bW cI cO a ca ia n O I J F E K G) ∨ ((0 ≤ x.toInt ∧ x.toInt < I 3) ∧ (y.toInt < 0 ∨ 5 < y.toInt) ∧ r = -1 ∧ w = bW cI cO a ca ia n O I J F E K G)) (hm :  (¬ (0 ≤ x.toInt ∧ x.toInt < I' 1) ∧ r' = -1 ∧ w' = mW cI b (va_up I' 0 0) J' F' G') ∨ ((0 ≤ x.toInt ∧ x.toInt < I' 1) ∧ y = nI 0 ∧ r' = nI (F' 0 (tn x)) ∧ w' = mW cI b (va_up I' 0 0) J' F' G') ∨ ((0 ≤ x.toInt ∧ x.toInt < I' 1) ∧ y = nI 1 ∧ r' = nI (F' 1 (tn x)) ∧ w' = mW cI b (va_up I' 0 0) J' F' G') ∨ ((0 ≤ x.toInt ∧ x.toInt < I' 1) ∧ y = nI 2 ∧ r' = nI (F' 2 (tn x)) ∧ w' = mW cI b (va_up I' 0 0) J' F' G') ∨ ((0 ≤ x.toInt ∧ x.toInt < I' 1) ∧ y = nI 3 ∧ r' = nI (F' 3 (tn x)) ∧ w' = mW cI b (va_up I' 0 0) J' F' G') ∨ ((0 ≤ x.toInt ∧ x.toInt < I' 1) ∧ y = nI 4 ∧ r' = nI (F' 4 (tn x)) ∧ w' = mW cI b (va_up I' 0 0) J' F' G') ∨ ((0 ≤ x.toInt ∧ x.toInt < I' 1) ∧ y = nI 5 ∧ r' = nI (F' 5 (tn x)) ∧ w' = mW cI b (va_up I' 0 0) J' F' G') ∨ ((0 ≤ x.toInt ∧ x.toInt < I' 1) ∧ (y.toInt < 0 ∨ 5 < y.toInt) ∧ r' = -1 ∧ w' = mW cI b (va_up I' 0 0) J' F' G')) : r = r' ∧ RelW cI cO a b w w' := by
  have en := h.en
  subst en
  have e1 := h.e1
  have e2 := h.e2
  have e3 := h.e3
  have e4 := h.e4
  have e5 := h.e5
  have e6 := h.e6
  have e7 := h.e7
  have e8 := h.e8
  have b3 := h.b3
  have b4 := h.b4
  have b7 := h.b7
  have f0 := congrFun h.f0 (tn x)
  have f1 := congrFun h.f1 (tn x)
  have f2 := congrFun h.f2 (tn x)
  have f3 := congrFun h.f3 (tn x)
  have f4 := congrFun h.f4 (tn x)
  have f5 := congrFun h.f5 (tn x)
  have z0 : (nI 0).toInt = 0 := by decide
  have z1 : (nI 1).toInt = 1 := by decide
  have z2 : (nI 2).toInt = 2 := by decide
  have z3 : (nI 3).toInt = 3 := by decide
  have z4 : (nI 4).toInt = 4 := by decide
  have z5 : (nI 5).toInt = 5 := by decide
  rcases hc with ⟨k1, rfl, rfl⟩ | ⟨k1, k2, rfl, rfl⟩ | ⟨k1, k2, rfl, rfl⟩ | ⟨k1, k2, rfl, rfl⟩ | ⟨k1, k2, rfl, rfl⟩ | ⟨k1, k2, rfl, rfl⟩ | ⟨k1, k2, rfl, rfl⟩ | ⟨k1, k2, rfl, rfl⟩ <;> rcases hm with ⟨g1, rfl, rfl⟩ | ⟨g1, g2, rfl, rfl⟩ | ⟨g1, g2, rfl, rfl⟩ | ⟨g1, g2, rfl, rfl⟩ | ⟨g1, g2, rfl, rfl⟩ | ⟨g1, g2, rfl, rfl⟩ | ⟨g1, g2, rfl, rfl⟩ | ⟨g1, g2, rfl, rfl⟩
  all_goals first
    | (exfalso; omega)
    | (exfalso; have u1 := congrArg Int32.toInt k2; have u2 := congrArg Int32.toInt g2; omega)
    | (exfalso; have u1 := congrArg Int32.toInt k2; omega)
    | (exfalso; have u2 := congrArg Int32.toInt g2; omega)
    | (exact ⟨rfl, _, _, _, _, _, _, _, _, _, _, _, _, _, _, rfl, rfl, h.thr 0⟩)
    | (exact ⟨by first | rw [f0] | rw [f1] | rw [f2] | rw [f3] | rw [f4] | rw [f5], _, _, _, _, _, _, _, _, _, _, _, _, _, _, rfl, rfl, h.thr 0⟩)
set_option maxHeartbeats 4000000 in
theorem sim_seed {cI cO : ClassId} {a b ca ia : Nat → Nat} {n : Nat} {O : Nat → Option Nat} {I : Nat → Nat} {J : Nat → Int64} {F : Nat → Nat → Nat} {E : Nat → Nat → Int32} {K : Nat → Nat → Nat} {G : Nat → Nat → Int32} {I' : Nat → Nat} {J' : Nat → Int64} {F' : Nat → Nat → Nat} {G' : Nat → Nat → Int32} (h : Rel ca n O I J F E K G I' J' F' G') {z : Int64} {r r' : Int64} {w w' : va_W} (hc :  r = J 0 ∧ w = bW cI cO a ca ia n O I (va_up J 0 z) F E K G) (hm :  r' = J' 0 ∧ w' = mW cI b (va_up I' 0 0) (va_up J' 0 z) F' G') : r = r' ∧ RelW cI cO a b w w' := by
  have en := h.en
  subst en
  have e1 := h.e1
  have e2 := h.e2
  have e3 := h.e3
  have e4 := h.e4
  have e5 := h.e5
  have e6 := h.e6
  have e7 := h.e7
  have e8 := h.e8
  have b3 := h.b3
  have b4 := h.b4
  have b7 := h.b7
  rcases hc with ⟨rfl, rfl⟩ <;> rcases hm with ⟨rfl, rfl⟩
  all_goals first
    | (exfalso; omega)
    | (exact ⟨h.eJ.symm, _, _, _, _, _, _, _, _, _, _, _, _, _, _, rfl, rfl, h.sd⟩)
set_option maxHeartbeats 4000000 in
theorem sim_set {cI cO : ClassId} {a b ca ia : Nat → Nat} {n : Nat} {O : Nat → Option Nat} {I : Nat → Nat} {J : Nat → Int64} {F : Nat → Nat → Nat} {E : Nat → Nat → Int32} {K : Nat → Nat → Nat} {G : Nat → Nat → Int32} {I' : Nat → Nat} {J' : Nat → Int64} {F' : Nat → Nat → Nat} {G' : Nat → Nat → Int32} (h : Rel ca n O I J F E K G I' J' F' G') {x y : Int32} {r r' : Int32} {w w' : va_W} (hc :  (x = nI 0 ∧ (0 ≤ y.toInt ∧ y.toInt ≤ 20) ∧ r = nI (I 4) ∧ w = bW cI cO a ca ia n O (va_up I 4 (tn y)) J F E K G) ∨ (x = nI 1 ∧ (1 ≤ y.toInt ∧ y.toInt ≤ 60) ∧ r = nI (I 5) ∧ w = bW cI cO a ca ia n O (va_up I 5 (tn y)) J F E K G) ∨ (x = nI 2 ∧ (1 ≤ y.toInt ∧ y.toInt ≤ 60) ∧ r = nI (I 6) ∧ w = bW cI cO a ca ia n O (va_up I 6 (tn y)) J F E K G) ∨ (x = nI 3 ∧ (0 ≤ y.toInt ∧ y.toInt ≤ 1) ∧ r = nI (I 7) ∧ w = bW cI cO a ca ia n O (va_up I 7 (tn y)) J F E K G) ∨ (¬ ((x.toInt = 0 ∧ 0 ≤ y.toInt ∧ y.toInt ≤ 20) ∨ (x.toInt = 1 ∧ 1 ≤ y.toInt ∧ y.toInt ≤ 60) ∨ (x.toInt = 2 ∧ 1 ≤ y.toInt ∧ y.toInt ≤ 60) ∨ (x.toInt = 3 ∧ 0 ≤ y.toInt ∧ y.toInt ≤ 1)) ∧ r = -1 ∧ w = bW cI cO a ca ia n O I J F E K G)) (hm :  (x = nI 0 ∧ (0 ≤ y.toInt ∧ y.toInt ≤ 20) ∧ r' = nI (I' 2) ∧ w' = mW cI b (va_up (va_up I' 0 0) 2 (tn y)) J' F' G') ∨ (x = nI 1 ∧ (1 ≤ y.toInt ∧ y.toInt ≤ 60) ∧ r' = nI (I' 3) ∧ w' = mW cI b (va_up (va_up I' 0 0) 3 (tn y)) J' F' G') ∨ (x = nI 2 ∧ (1 ≤ y.toInt ∧ y.toInt ≤ 60) ∧ r' = nI (I' 4) ∧ w' = mW cI b (va_up (va_up I' 0 0) 4 (tn y)) J' F' G') ∨ (x = nI 3 ∧ (0 ≤ y.toInt ∧ y.toInt ≤ 1) ∧ r' = nI (I' 5) ∧ w' = mW cI b (va_up (va_up I' 0 0) 5 (tn y)) J' F' G') ∨ (¬ ((x.toInt = 0 ∧ 0 ≤ y.toInt ∧ y.toInt ≤ 20) ∨ (x.toInt = 1 ∧ 1 ≤ y.toInt ∧ y.toInt ≤ 60) ∨ (x.toInt = 2 ∧ 1 ≤ y.toInt ∧ y.toInt ≤ 60) ∨ (x.toInt = 3 ∧ 0 ≤ y.toInt ∧ y.toInt ≤ 1)) ∧ r' = -1 ∧ w' = mW cI b (va_up I' 0 0) J' F' G')) : r = r' ∧ RelW cI cO a b w w' := by
  have en := h.en
  subst en
  have e1 := h.e1
  have e2 := h.e2
  have e3 := h.e3
  have e4 := h.e4
  have e5 := h.e5
  have e6 := h.e6
  have e7 := h.e7
  have e8 := h.e8
  have b3 := h.b3
  have b4 := h.b4
  have b7 := h.b7
  have z0 : (nI 0).toInt = 0 := by decide
  have z1 : (nI 1).toInt = 1 := by decide
  have z2 : (nI 2).toInt = 2 := by decide
  have z3 : (nI 3).toInt = 3 := by decide
  have z4 : (nI 4).toInt = 4 := by decide
  have z5 : (nI 5).toInt = 5 := by decide
  have ty : 0 ≤ y.toInt → (tn y : Int) = y.toInt := fun z => by unfold tn; omega
  rcases hc with ⟨k1, k2, rfl, rfl⟩ | ⟨k1, k2, rfl, rfl⟩ | ⟨k1, k2, rfl, rfl⟩ | ⟨k1, k2, rfl, rfl⟩ | ⟨k1, rfl, rfl⟩ <;> rcases hm with ⟨g1, g2, rfl, rfl⟩ | ⟨g1, g2, rfl, rfl⟩ | ⟨g1, g2, rfl, rfl⟩ | ⟨g1, g2, rfl, rfl⟩ | ⟨g1, rfl, rfl⟩
  all_goals first
    | (exfalso; omega)
    | (exfalso; have u1 := congrArg Int32.toInt k1; have u2 := congrArg Int32.toInt g1; omega)
    | (exfalso; have u1 := congrArg Int32.toInt k1; omega)
    | (exfalso; have u2 := congrArg Int32.toInt g1; omega)
    | (exact ⟨rfl, _, _, _, _, _, _, _, _, _, _, _, _, _, _, rfl, rfl, h.thr 0⟩)
    | (exact ⟨by rw [e2], _, _, _, _, _, _, _, _, _, _, _, _, _, _, rfl, rfl, h.set4 (by omega)⟩)
    | (exact ⟨by rw [e3], _, _, _, _, _, _, _, _, _, _, _, _, _, _, rfl, rfl, h.set5 (by omega)⟩)
    | (exact ⟨by rw [e4], _, _, _, _, _, _, _, _, _, _, _, _, _, _, rfl, rfl, h.set6 (by omega)⟩)
    | (exact ⟨by rw [e5], _, _, _, _, _, _, _, _, _, _, _, _, _, _, rfl, rfl, h.set7 (by omega)⟩)
set_option maxHeartbeats 4000000 in
theorem sim_resume {cI cO : ClassId} {a b ca ia : Nat → Nat} {n : Nat} {O : Nat → Option Nat} {I : Nat → Nat} {J : Nat → Int64} {F : Nat → Nat → Nat} {E : Nat → Nat → Int32} {K : Nat → Nat → Nat} {G : Nat → Nat → Int32} {I' : Nat → Nat} {J' : Nat → Int64} {F' : Nat → Nat → Nat} {G' : Nat → Nat → Int32} (h : Rel ca n O I J F E K G I' J' F' G') {x y z : Int32} {r r' : Int32} {w w' : va_W} (hc :  (¬ (0 ≤ x.toInt ∧ x.toInt ≤ 4 ∧ 0 ≤ y.toInt ∧ y.toInt ≤ 1000 ∧ 0 ≤ z.toInt ∧ z.toInt ≤ I 3) ∧ r = -1 ∧ w = bW cI cO a ca ia n O I J F E K G) ∨ ((0 ≤ x.toInt ∧ x.toInt ≤ 4 ∧ 0 ≤ y.toInt ∧ y.toInt ≤ 1000 ∧ 0 ≤ z.toInt ∧ z.toInt ≤ I 3) ∧ r = 1 ∧ w = bW cI cO a ca ia n O (va_up (va_up (va_up I 0 (tn x)) 1 (tn y)) 2 (tn z)) J F E K G)) (hm :  (¬ (0 ≤ x.toInt ∧ x.toInt ≤ 4 ∧ 0 ≤ y.toInt ∧ y.toInt ≤ 1000 ∧ 0 ≤ z.toInt ∧ z.toInt ≤ I' 1) ∧ r' = -1 ∧ w' = mW cI b (va_up I' 0 0) J' F' G') ∨ ((0 ≤ x.toInt ∧ x.toInt ≤ 4 ∧ 0 ≤ y.toInt ∧ y.toInt ≤ 1000 ∧ 0 ≤ z.toInt ∧ z.toInt ≤ I' 1) ∧ r' = 1 ∧ w' = mW cI b (va_up (va_up (va_up (va_up I' 0 0) 6 (tn x)) 7 (tn y)) 8 (tn z)) J' F' G')) : r = r' ∧ RelW cI cO a b w w' := by
  have en := h.en
  subst en
  have e1 := h.e1
  have e2 := h.e2
  have e3 := h.e3
  have e4 := h.e4
  have e5 := h.e5
  have e6 := h.e6
  have e7 := h.e7
  have e8 := h.e8
  have b3 := h.b3
  have b4 := h.b4
  have b7 := h.b7
  rcases hc with ⟨k1, rfl, rfl⟩ | ⟨k1, rfl, rfl⟩ <;> rcases hm with ⟨g1, rfl, rfl⟩ | ⟨g1, rfl, rfl⟩
  all_goals first
    | (exfalso; omega)
    | (exact ⟨rfl, _, _, _, _, _, _, _, _, _, _, _, _, _, _, rfl, rfl, h.thr 0⟩)
    | (exact ⟨rfl, _, _, _, _, _, _, _, _, _, _, _, _, _, _, rfl, rfl, h.res (by unfold tn; omega) (by unfold tn; omega) (by unfold tn; omega)⟩)
set_option maxHeartbeats 4000000 in
theorem sim_at {cI cO : ClassId} {a b ca ia : Nat → Nat} {n : Nat} {O : Nat → Option Nat} {I : Nat → Nat} {J : Nat → Int64} {F : Nat → Nat → Nat} {E : Nat → Nat → Int32} {K : Nat → Nat → Nat} {G : Nat → Nat → Int32} {I' : Nat → Nat} {J' : Nat → Int64} {F' : Nat → Nat → Nat} {G' : Nat → Nat → Int32} (h : Rel ca n O I J F E K G I' J' F' G') {x : Int32} {r r' : Int32} {w w' : va_W} (hc :  (x.toInt = 0 ∧ r = nI (I 0) ∧ w = bW cI cO a ca ia n O I J F E K G) ∨ (x.toInt = 1 ∧ r = nI (I 1) ∧ w = bW cI cO a ca ia n O I J F E K G) ∨ (x.toInt = 2 ∧ r = nI (I 2) ∧ w = bW cI cO a ca ia n O I J F E K G) ∨ ((x.toInt < 0 ∨ 2 < x.toInt) ∧ r = -1 ∧ w = bW cI cO a ca ia n O I J F E K G)) (hm :  (x.toInt = 0 ∧ r' = nI (I' 6) ∧ w' = mW cI b (va_up I' 0 0) J' F' G') ∨ (x.toInt = 1 ∧ r' = nI (I' 7) ∧ w' = mW cI b (va_up I' 0 0) J' F' G') ∨ (x.toInt = 2 ∧ r' = nI (I' 8) ∧ w' = mW cI b (va_up I' 0 0) J' F' G') ∨ ((x.toInt < 0 ∨ 2 < x.toInt) ∧ r' = -1 ∧ w' = mW cI b (va_up I' 0 0) J' F' G')) : r = r' ∧ RelW cI cO a b w w' := by
  have en := h.en
  subst en
  have e1 := h.e1
  have e2 := h.e2
  have e3 := h.e3
  have e4 := h.e4
  have e5 := h.e5
  have e6 := h.e6
  have e7 := h.e7
  have e8 := h.e8
  have b3 := h.b3
  have b4 := h.b4
  have b7 := h.b7
  rcases hc with ⟨k1, rfl, rfl⟩ | ⟨k1, rfl, rfl⟩ | ⟨k1, rfl, rfl⟩ | ⟨k1, rfl, rfl⟩ <;> rcases hm with ⟨g1, rfl, rfl⟩ | ⟨g1, rfl, rfl⟩ | ⟨g1, rfl, rfl⟩ | ⟨g1, rfl, rfl⟩
  all_goals first
    | (exfalso; omega)
    | (exact ⟨rfl, _, _, _, _, _, _, _, _, _, _, _, _, _, _, rfl, rfl, h.thr 0⟩)
    | (exact ⟨by rw [e6], _, _, _, _, _, _, _, _, _, _, _, _, _, _, rfl, rfl, h.thr 0⟩)
    | (exact ⟨by rw [e7], _, _, _, _, _, _, _, _, _, _, _, _, _, _, rfl, rfl, h.thr 0⟩)
    | (exact ⟨by rw [e8], _, _, _, _, _, _, _, _, _, _, _, _, _, _, rfl, rfl, h.thr 0⟩)
set_option maxHeartbeats 4000000 in
theorem sim_out {cI cO : ClassId} {a b ca ia : Nat → Nat} {n : Nat} {O : Nat → Option Nat} {I : Nat → Nat} {J : Nat → Int64} {F : Nat → Nat → Nat} {E : Nat → Nat → Int32} {K : Nat → Nat → Nat} {G : Nat → Nat → Int32} {I' : Nat → Nat} {J' : Nat → Int64} {F' : Nat → Nat → Nat} {G' : Nat → Nat → Int32} (h : Rel ca n O I J F E K G I' J' F' G') {x : Int32} {r r' : Int32} {w w' : va_W} (hc :  (I 9 = 2 ∧ r = -11 ∧ w = bW cI cO a ca ia n O I J F E K G) ∨ (I 9 ≠ 2 ∧ x = (-1) ∧ r = nI (I 12) ∧ w = bW cI cO a ca ia n O I J F E K G) ∨ (I 9 ≠ 2 ∧ x = (-2) ∧ r = nI (I 10) ∧ w = bW cI cO a ca ia n O I J F E K G) ∨ (I 9 ≠ 2 ∧ x = (-3) ∧ r = nI (I 11) ∧ w = bW cI cO a ca ia n O I J F E K G) ∨ (I 9 ≠ 2 ∧ (0 ≤ x.toInt ∧ x.toInt < I 12) ∧ r = E 0 (tn x) ∧ w = bW cI cO a ca ia n O I J F E K G) ∨ (I 9 ≠ 2 ∧ (x.toInt < (-3) ∨ (-1) < x.toInt) ∧ ¬ (0 ≤ x.toInt ∧ x.toInt < I 12) ∧ r = -13 ∧ w = bW cI cO a ca ia n O I J F E K G)) (hm :  (I' 9 = 2 ∧ r' = -11 ∧ w' = mW cI b (va_up I' 0 0) J' F' G') ∨ (I' 9 ≠ 2 ∧ x = (-1) ∧ r' = nI (I' 10) ∧ w' = mW cI b (va_up I' 0 0) J' F' G') ∨ (I' 9 ≠ 2 ∧ x = (-2) ∧ r' = nI (I' 11) ∧ w' = mW cI b (va_up I' 0 0) J' F' G') ∨ (I' 9 ≠ 2 ∧ x = (-3) ∧ r' = nI (I' 12) ∧ w' = mW cI b (va_up I' 0 0) J' F' G') ∨ (I' 9 ≠ 2 ∧ (0 ≤ x.toInt ∧ x.toInt < I' 10) ∧ r' = G' 1 (tn x) ∧ w' = mW cI b (va_up I' 0 0) J' F' G') ∨ (I' 9 ≠ 2 ∧ (x.toInt < (-3) ∨ (-1) < x.toInt) ∧ ¬ (0 ≤ x.toInt ∧ x.toInt < I' 10) ∧ r' = -13 ∧ w' = mW cI b (va_up I' 0 0) J' F' G')) : r = r' ∧ RelW cI cO a b w w' := by
  have en := h.en
  subst en
  have e1 := h.e1
  have e2 := h.e2
  have e3 := h.e3
  have e4 := h.e4
  have e5 := h.e5
  have e6 := h.e6
  have e7 := h.e7
  have e8 := h.e8
  have b3 := h.b3
  have b4 := h.b4
  have b7 := h.b7
  have zm1 : (-1 : Int32).toInt = -1 := by decide
  have zm2 : (-2 : Int32).toInt = -2 := by decide
  have zm3 : (-3 : Int32).toInt = -3 := by decide
  have e9 := h.e9
  have e10 := h.e10
  have e11 := h.e11
  have e12 := h.e12
  rcases hc with ⟨k1, rfl, rfl⟩ | ⟨k1, k2, rfl, rfl⟩ | ⟨k1, k2, rfl, rfl⟩ | ⟨k1, k2, rfl, rfl⟩ | ⟨k1, k2, rfl, rfl⟩ | ⟨k1, k2, k3, rfl, rfl⟩ <;> rcases hm with ⟨g1, rfl, rfl⟩ | ⟨g1, g2, rfl, rfl⟩ | ⟨g1, g2, rfl, rfl⟩ | ⟨g1, g2, rfl, rfl⟩ | ⟨g1, g2, rfl, rfl⟩ | ⟨g1, g2, g3, rfl, rfl⟩
  all_goals first
    | (exfalso; omega)
    | (exfalso; have u1 := congrArg Int32.toInt k2; have u2 := congrArg Int32.toInt g2; omega)
    | (exfalso; have u1 := congrArg Int32.toInt k2; omega)
    | (exfalso; have u2 := congrArg Int32.toInt g2; omega)
    | (exact ⟨rfl, _, _, _, _, _, _, _, _, _, _, _, _, _, _, rfl, rfl, h.thr 0⟩)
    | (exact ⟨by rw [e10], _, _, _, _, _, _, _, _, _, _, _, _, _, _, rfl, rfl, h.thr 0⟩)
    | (exact ⟨by rw [e11], _, _, _, _, _, _, _, _, _, _, _, _, _, _, rfl, rfl, h.thr 0⟩)
    | (exact ⟨by rw [e12], _, _, _, _, _, _, _, _, _, _, _, _, _, _, rfl, rfl, h.thr 0⟩)
    | (exact ⟨h.ou (tn x) (by unfold tn; omega), _, _, _, _, _, _, _, _, _, _, _, _, _, _, rfl, rfl, h.thr 0⟩)
set_option maxHeartbeats 4000000 in
theorem sim_like {cI cO : ClassId} {a b ca ia : Nat → Nat} {n : Nat} {O : Nat → Option Nat} {I : Nat → Nat} {J : Nat → Int64} {F : Nat → Nat → Nat} {E : Nat → Nat → Int32} {K : Nat → Nat → Nat} {G : Nat → Nat → Int32} {I' : Nat → Nat} {J' : Nat → Int64} {F' : Nat → Nat → Nat} {G' : Nat → Nat → Int32} (h : Rel ca n O I J F E K G I' J' F' G') {x : Int32} {r r' : Int32} {w w' : va_W} (hc :  (¬ (0 ≤ x.toInt ∧ x.toInt < I 3) ∧ r = -1 ∧ w = bW cI cO a ca ia n O I J F E K G) ∨ ((0 ≤ x.toInt ∧ x.toInt < I 3) ∧ (K 0 (tn x) = I 9 ∧ K 1 (tn x) = I 10 ∧ K 2 (tn x) = I 11 ∧ K 3 (tn x) = I 12 ∧ ∀ k, k < K 3 (tn x) → G (tn x) k = E 0 k) ∧ r = 1 ∧ w = bW cI cO a ca ia n O I J F E K G) ∨ ((0 ≤ x.toInt ∧ x.toInt < I 3) ∧ ¬ (K 0 (tn x) = I 9 ∧ K 1 (tn x) = I 10 ∧ K 2 (tn x) = I 11 ∧ K 3 (tn x) = I 12 ∧ ∀ k, k < K 3 (tn x) → G (tn x) k = E 0 k) ∧ r = 0 ∧ w = bW cI cO a ca ia n O I J F E K G)) (hm :  (¬ (0 ≤ x.toInt ∧ x.toInt < I' 1) ∧ r' = -1 ∧ w' = mW cI b (va_up I' 0 0) J' F' G') ∨ ((0 ≤ x.toInt ∧ x.toInt < I' 1) ∧ (I' 9 = F' 0 (tn x) ∧ (I' 9 = 2 ∨ (I' 10 = F' 3 (tn x) ∧ I' 11 = F' 4 (tn x) ∧ I' 12 = F' 5 (tn x))) ∧ ∀ k, k < F' 3 (tn x) → G' 1 k = G' 0 (1600 * tn x + k)) ∧ r' = 1 ∧ w' = mW cI b (va_up I' 0 0) J' F' G') ∨ ((0 ≤ x.toInt ∧ x.toInt < I' 1) ∧ ¬ (I' 9 = F' 0 (tn x) ∧ (I' 9 = 2 ∨ (I' 10 = F' 3 (tn x) ∧ I' 11 = F' 4 (tn x) ∧ I' 12 = F' 5 (tn x))) ∧ ∀ k, k < F' 3 (tn x) → G' 1 k = G' 0 (1600 * tn x + k)) ∧ r' = 0 ∧ w' = mW cI b (va_up I' 0 0) J' F' G')) : r = r' ∧ RelW cI cO a b w w' := by
  have en := h.en
  subst en
  have e1 := h.e1
  have e2 := h.e2
  have e3 := h.e3
  have e4 := h.e4
  have e5 := h.e5
  have e6 := h.e6
  have e7 := h.e7
  have e8 := h.e8
  have b3 := h.b3
  have b4 := h.b4
  have b7 := h.b7
  have f0 := congrFun h.f0 (tn x)
  have f1 := congrFun h.f1 (tn x)
  have f2 := congrFun h.f2 (tn x)
  have f3 := congrFun h.f3 (tn x)
  have f4 := congrFun h.f4 (tn x)
  have f5 := congrFun h.f5 (tn x)
  have e9 := h.e9
  have e10 := h.e10
  have e11 := h.e11
  have e12 := h.e12
  have hiff : (0 ≤ x.toInt ∧ x.toInt < I 3) → ((K 0 (tn x) = I 9 ∧ K 1 (tn x) = I 10 ∧ K 2 (tn x) = I 11 ∧ K 3 (tn x) = I 12 ∧ ∀ k, k < K 3 (tn x) → G (tn x) k = E 0 k) ↔ (I' 9 = F' 0 (tn x) ∧ (I' 9 = 2 ∨ (I' 10 = F' 3 (tn x) ∧ I' 11 = F' 4 (tn x) ∧ I' 12 = F' 5 (tn x))) ∧ ∀ k, k < F' 3 (tn x) → G' 1 k = G' 0 (1600 * tn x + k))) := by
    intro hx
    have hx1 : tn x < I 3 := by unfold tn; omega
    constructor
    · rintro ⟨p0, p1, p2, p3, p4⟩
      exact ⟨by omega, Or.inr (by omega), fun k hk => by rw [f3] at hk; rw [← h.it _ k hx1 hk, ← h.ou k (by omega)]; exact (p4 k hk).symm⟩
    · rintro ⟨p0, p1, p4⟩
      have q : K 0 (tn x) = I 9 ∧ K 1 (tn x) = I 10 ∧ K 2 (tn x) = I 11 ∧ K 3 (tn x) = I 12 := by
        rcases p1 with p1 | p1
        · have z1 := h.hN2 (tn x) hx1 (by omega)
          have z2 := h.nt (by omega)
          omega
        · omega
      exact ⟨q.1, q.2.1, q.2.2.1, q.2.2.2, fun k hk => by rw [h.it _ k hx1 hk, h.ou k (by omega)]; exact (p4 k (by omega)).symm⟩
  rcases hc with ⟨k1, rfl, rfl⟩ | ⟨k1, k2, rfl, rfl⟩ | ⟨k1, k2, rfl, rfl⟩ <;> rcases hm with ⟨g1, rfl, rfl⟩ | ⟨g1, g2, rfl, rfl⟩ | ⟨g1, g2, rfl, rfl⟩
  all_goals first
    | (exfalso; omega)
    | (exfalso; exact g2 ((hiff k1).mp k2))
    | (exfalso; exact k2 ((hiff k1).mpr g2))
    | (exact ⟨rfl, _, _, _, _, _, _, _, _, _, _, _, _, _, _, rfl, rfl, h.thr 0⟩)
theorem onceP_congr {n : Nat} {g g' : Nat → Nat} (h : ∀ i, i < n → g i = g' i) : onceP n g ↔ onceP n g' := by
  constructor
  · intro q i j hi hj e; exact q i j hi hj (by rw [h i hi, h j hj]; exact e)
  · intro q i j hi hj e; exact q i j hi hj (by rw [← h i hi, ← h j hj]; exact e)
set_option maxHeartbeats 4000000 in
theorem sim_batch {cI cO : ClassId} {a b ca ia : Nat → Nat} {n : Nat} {O : Nat → Option Nat} {I : Nat → Nat} {J : Nat → Int64} {F : Nat → Nat → Nat} {E : Nat → Nat → Int32} {K : Nat → Nat → Nat} {G : Nat → Nat → Int32} {I' : Nat → Nat} {J' : Nat → Int64} {F' : Nat → Nat → Nat} {G' : Nat → Nat → Int32} (h : Rel ca n O I J F E K G I' J' F' G') {x y k i : Int32} {r r' : Int32} {w w' : va_W} (hc :  (¬ (0 ≤ x.toInt ∧ x.toInt ≤ 4 ∧ 0 ≤ y.toInt ∧ y.toInt ≤ 1000 ∧ 0 ≤ k.toInt ∧ 0 ≤ i.toInt) ∧ r = -1 ∧ w = bW cI cO a ca ia n O I J F E K G) ∨ ((0 ≤ x.toInt ∧ x.toInt ≤ 4 ∧ 0 ≤ y.toInt ∧ y.toInt ≤ 1000 ∧ 0 ≤ k.toInt ∧ 0 ≤ i.toInt) ∧ I 4 = 0 ∧ r = -16 ∧ w = bW cI cO a ca ia n O I J F E K G) ∨ ((0 ≤ x.toInt ∧ x.toInt ≤ 4 ∧ 0 ≤ y.toInt ∧ y.toInt ≤ 1000 ∧ 0 ≤ k.toInt ∧ 0 ≤ i.toInt) ∧ I 4 ≠ 0 ∧ (tn x = 2 ∧ I 3 ≠ 0 ∧ wsum (F 1) (I 3) = 0) ∧ r = -16 ∧ w = bW cI cO a ca ia n O (va_up I 8 (I 3)) J F E K G) ∨ ((0 ≤ x.toInt ∧ x.toInt ≤ 4 ∧ 0 ≤ y.toInt ∧ y.toInt ≤ 1000 ∧ 0 ≤ k.toInt ∧ 0 ≤ i.toInt) ∧ I 4 ≠ 0 ∧ ¬ (tn x = 2 ∧ I 3 ≠ 0 ∧ wsum (F 1) (I 3) = 0) ∧ ∃ g q3 q4 q5 q6 q7 σ, OrdIs (I 3) (I 5) (I 6) (F 0) (F 1) (K 3) (J 0) (tn x) (tn y) g ∧ ((tn i < mof (I 3) (I 4) (I 7) (tn k) ∧ r = nI (g (tn k * I 4 + tn i))) ∨ (¬ tn i < mof (I 3) (I 4) (I 7) (tn k) ∧ r = -3)) ∧ w = bW cI cO a ca ia n O (va_up I 8 (I 3)) (va_up J 1 (σ)) (va_up (va_up (va_up (va_up (va_up (va_up F 2 g) 3 q3) 4 q4) 5 q5) 6 q6) 7 q7) E K G)) (hm :  (¬ (0 ≤ x.toInt ∧ x.toInt ≤ 4 ∧ 0 ≤ y.toInt ∧ y.toInt ≤ 1000 ∧ 0 ≤ k.toInt ∧ 0 ≤ i.toInt) ∧ r' = -1 ∧ w' = mW cI b (va_up I' 0 0) J' F' G') ∨ ((0 ≤ x.toInt ∧ x.toInt ≤ 4 ∧ 0 ≤ y.toInt ∧ y.toInt ≤ 1000 ∧ 0 ≤ k.toInt ∧ 0 ≤ i.toInt) ∧ I' 2 = 0 ∧ r' = -16 ∧ w' = mW cI b (va_up I' 0 0) J' F' G') ∨ ((0 ≤ x.toInt ∧ x.toInt ≤ 4 ∧ 0 ≤ y.toInt ∧ y.toInt ≤ 1000 ∧ 0 ≤ k.toInt ∧ 0 ≤ i.toInt) ∧ I' 2 ≠ 0 ∧ (tn x = 2 ∧ I' 1 ≠ 0 ∧ wsum (F' 2) (I' 1) = 0) ∧ r' = -16 ∧ ∃ g σ, w' = mW cI b (va_up I' 0 0) (va_up J' 1 (σ)) (va_up F' 6 g) G') ∨ ((0 ≤ x.toInt ∧ x.toInt ≤ 4 ∧ 0 ≤ y.toInt ∧ y.toInt ≤ 1000 ∧ 0 ≤ k.toInt ∧ 0 ≤ i.toInt) ∧ I' 2 ≠ 0 ∧ ¬ (tn x = 2 ∧ I' 1 ≠ 0 ∧ wsum (F' 2) (I' 1) = 0) ∧ ∃ g q7 q8 q9 q10 q11 σ, OrdIs (I' 1) (I' 3) (I' 4) (F' 1) (F' 2) (F' 3) (J' 0) (tn x) (tn y) g ∧ ((tn i < mof (I' 1) (I' 2) (I' 5) (tn k) ∧ r' = nI (g (tn k * I' 2 + tn i))) ∨ (¬ tn i < mof (I' 1) (I' 2) (I' 5) (tn k) ∧ r' = -3)) ∧ w' = mW cI b (va_up I' 0 0) (va_up J' 1 (σ)) (va_up (va_up (va_up (va_up (va_up (va_up F' 6 g) 7 q7) 8 q8) 9 q9) 10 q10) 11 q11) G')) : r = r' ∧ RelW cI cO a b w w' := by
  have en := h.en
  subst en
  have e1 := h.e1
  have e2 := h.e2
  have e3 := h.e3
  have e4 := h.e4
  have e5 := h.e5
  have e6 := h.e6
  have e7 := h.e7
  have e8 := h.e8
  have b3 := h.b3
  have b4 := h.b4
  have b7 := h.b7
  have ew : wsum (F' 2) (I' 1) = wsum (F 1) (I 3) := by rw [h.f2, e1]
  have em : mof (I' 1) (I' 2) (I' 5) (tn k) = mof (I 3) (I 4) (I 7) (tn k) := by rw [e1, e2, e5]
  rcases hc with ⟨k1, rfl, rfl⟩ | ⟨k1, k2, rfl, rfl⟩ | ⟨k1, k2, k3, rfl, rfl⟩ | ⟨k1, k2, k3, g, q3, q4, q5, q6, q7, σ, o1, (⟨t1, rfl⟩ | ⟨t1, rfl⟩), rfl⟩ <;> rcases hm with ⟨g1, rfl, rfl⟩ | ⟨g1, g2, rfl, rfl⟩ | ⟨g1, g2, g3, rfl, g', σ', rfl⟩ | ⟨g1, g2, g3, g', p7, p8, p9, p10, p11, σ', o2, (⟨u1, rfl⟩ | ⟨u1, rfl⟩), rfl⟩
  all_goals first
    | (exfalso; omega)
    | (exact ⟨rfl, _, _, _, _, _, _, _, _, _, _, _, _, _, _, rfl, rfl, h.thr 0⟩)
    | (exact ⟨rfl, _, _, _, _, _, _, _, _, _, _, _, _, _, _, rfl, rfl, h.scr1⟩)
    | (exact ⟨rfl, _, _, _, _, _, _, _, _, _, _, _, _, _, _, rfl, rfl, h.scr⟩)
    | (rw [h.e1, h.e3, h.e4, h.f1, h.f2, h.f3, h.eJ] at o2
       have hg := o1.uniq (by unfold tn; omega) o2
       have hi := ((mof_iff (by omega) b7).mp t1).2.2
       exact ⟨by rw [e2, hg _ hi], _, _, _, _, _, _, _, _, _, _, _, _, _, _, rfl, rfl, h.scr⟩)
set_option maxHeartbeats 4000000 in
theorem sim_share {cI cO : ClassId} {a b ca ia : Nat → Nat} {n : Nat} {O : Nat → Option Nat} {I : Nat → Nat} {J : Nat → Int64} {F : Nat → Nat → Nat} {E : Nat → Nat → Int32} {K : Nat → Nat → Nat} {G : Nat → Nat → Int32} {I' : Nat → Nat} {J' : Nat → Int64} {F' : Nat → Nat → Nat} {G' : Nat → Nat → Int32} (h : Rel ca n O I J F E K G I' J' F' G') {x y k u v i : Int32} {r r' : Int32} {w w' : va_W} (hc :  (¬ (0 ≤ x.toInt ∧ x.toInt ≤ 4 ∧ 0 ≤ y.toInt ∧ y.toInt ≤ 1000 ∧ 0 ≤ k.toInt ∧ 0 ≤ i.toInt ∧ 1 ≤ u.toInt ∧ u.toInt ≤ 8 ∧ 0 ≤ v.toInt ∧ v.toInt < u.toInt) ∧ r = -1 ∧ w = bW cI cO a ca ia n O I J F E K G) ∨ ((0 ≤ x.toInt ∧ x.toInt ≤ 4 ∧ 0 ≤ y.toInt ∧ y.toInt ≤ 1000 ∧ 0 ≤ k.toInt ∧ 0 ≤ i.toInt ∧ 1 ≤ u.toInt ∧ u.toInt ≤ 8 ∧ 0 ≤ v.toInt ∧ v.toInt < u.toInt) ∧ I 4 = 0 ∧ r = -16 ∧ w = bW cI cO a ca ia n O I J F E K G) ∨ ((0 ≤ x.toInt ∧ x.toInt ≤ 4 ∧ 0 ≤ y.toInt ∧ y.toInt ≤ 1000 ∧ 0 ≤ k.toInt ∧ 0 ≤ i.toInt ∧ 1 ≤ u.toInt ∧ u.toInt ≤ 8 ∧ 0 ≤ v.toInt ∧ v.toInt < u.toInt) ∧ I 4 ≠ 0 ∧ (tn x = 2 ∧ I 3 ≠ 0 ∧ wsum (F 1) (I 3) = 0) ∧ r = -16 ∧ w = bW cI cO a ca ia n O (va_up I 8 (I 3)) J F E K G) ∨ ((0 ≤ x.toInt ∧ x.toInt ≤ 4 ∧ 0 ≤ y.toInt ∧ y.toInt ≤ 1000 ∧ 0 ≤ k.toInt ∧ 0 ≤ i.toInt ∧ 1 ≤ u.toInt ∧ u.toInt ≤ 8 ∧ 0 ≤ v.toInt ∧ v.toInt < u.toInt) ∧ I 4 ≠ 0 ∧ ¬ (tn x = 2 ∧ I 3 ≠ 0 ∧ wsum (F 1) (I 3) = 0) ∧ ∃ g q3 q4 q5 q6 q7 σ, OrdIs (I 3) (I 5) (I 6) (F 0) (F 1) (K 3) (J 0) (tn x) (tn y) g ∧ (((tn i * tn u + tn v) < mof (I 3) (I 4) (I 7) (tn k) ∧ r = nI (g (tn k * I 4 + (tn i * tn u + tn v)))) ∨ (¬ (tn i * tn u + tn v) < mof (I 3) (I 4) (I 7) (tn k) ∧ r = -3)) ∧ w = bW cI cO a ca ia n O (va_up I 8 (I 3)) (va_up J 1 (σ)) (va_up (va_up (va_up (va_up (va_up (va_up F 2 g) 3 q3) 4 q4) 5 q5) 6 q6) 7 q7) E K G)) (hm :  (¬ (0 ≤ x.toInt ∧ x.toInt ≤ 4 ∧ 0 ≤ y.toInt ∧ y.toInt ≤ 1000 ∧ 0 ≤ k.toInt ∧ 0 ≤ i.toInt ∧ 1 ≤ u.toInt ∧ u.toInt ≤ 8 ∧ 0 ≤ v.toInt ∧ v.toInt < u.toInt) ∧ r' = -1 ∧ w' = mW cI b (va_up I' 0 0) J' F' G') ∨ ((0 ≤ x.toInt ∧ x.toInt ≤ 4 ∧ 0 ≤ y.toInt ∧ y.toInt ≤ 1000 ∧ 0 ≤ k.toInt ∧ 0 ≤ i.toInt ∧ 1 ≤ u.toInt ∧ u.toInt ≤ 8 ∧ 0 ≤ v.toInt ∧ v.toInt < u.toInt) ∧ I' 2 = 0 ∧ r' = -16 ∧ w' = mW cI b (va_up I' 0 0) J' F' G') ∨ ((0 ≤ x.toInt ∧ x.toInt ≤ 4 ∧ 0 ≤ y.toInt ∧ y.toInt ≤ 1000 ∧ 0 ≤ k.toInt ∧ 0 ≤ i.toInt ∧ 1 ≤ u.toInt ∧ u.toInt ≤ 8 ∧ 0 ≤ v.toInt ∧ v.toInt < u.toInt) ∧ I' 2 ≠ 0 ∧ (tn x = 2 ∧ I' 1 ≠ 0 ∧ wsum (F' 2) (I' 1) = 0) ∧ r' = -16 ∧ ∃ g σ, w' = mW cI b (va_up I' 0 0) (va_up J' 1 (σ)) (va_up F' 6 g) G') ∨ ((0 ≤ x.toInt ∧ x.toInt ≤ 4 ∧ 0 ≤ y.toInt ∧ y.toInt ≤ 1000 ∧ 0 ≤ k.toInt ∧ 0 ≤ i.toInt ∧ 1 ≤ u.toInt ∧ u.toInt ≤ 8 ∧ 0 ≤ v.toInt ∧ v.toInt < u.toInt) ∧ I' 2 ≠ 0 ∧ ¬ (tn x = 2 ∧ I' 1 ≠ 0 ∧ wsum (F' 2) (I' 1) = 0) ∧ ∃ g q7 q8 q9 q10 q11 σ, OrdIs (I' 1) (I' 3) (I' 4) (F' 1) (F' 2) (F' 3) (J' 0) (tn x) (tn y) g ∧ (((tn i * tn u + tn v) < mof (I' 1) (I' 2) (I' 5) (tn k) ∧ r' = nI (g (tn k * I' 2 + (tn i * tn u + tn v)))) ∨ (¬ (tn i * tn u + tn v) < mof (I' 1) (I' 2) (I' 5) (tn k) ∧ r' = -3)) ∧ w' = mW cI b (va_up I' 0 0) (va_up J' 1 (σ)) (va_up (va_up (va_up (va_up (va_up (va_up F' 6 g) 7 q7) 8 q8) 9 q9) 10 q10) 11 q11) G')) : r = r' ∧ RelW cI cO a b w w' := by
  have en := h.en
  subst en
  have e1 := h.e1
  have e2 := h.e2
  have e3 := h.e3
  have e4 := h.e4
  have e5 := h.e5
  have e6 := h.e6
  have e7 := h.e7
  have e8 := h.e8
  have b3 := h.b3
  have b4 := h.b4
  have b7 := h.b7
  have ew : wsum (F' 2) (I' 1) = wsum (F 1) (I 3) := by rw [h.f2, e1]
  have em : mof (I' 1) (I' 2) (I' 5) (tn k) = mof (I 3) (I 4) (I 7) (tn k) := by rw [e1, e2, e5]
  rcases hc with ⟨k1, rfl, rfl⟩ | ⟨k1, k2, rfl, rfl⟩ | ⟨k1, k2, k3, rfl, rfl⟩ | ⟨k1, k2, k3, g, q3, q4, q5, q6, q7, σ, o1, (⟨t1, rfl⟩ | ⟨t1, rfl⟩), rfl⟩ <;> rcases hm with ⟨g1, rfl, rfl⟩ | ⟨g1, g2, rfl, rfl⟩ | ⟨g1, g2, g3, rfl, g', σ', rfl⟩ | ⟨g1, g2, g3, g', p7, p8, p9, p10, p11, σ', o2, (⟨u1, rfl⟩ | ⟨u1, rfl⟩), rfl⟩
  all_goals first
    | (exfalso; omega)
    | (exact ⟨rfl, _, _, _, _, _, _, _, _, _, _, _, _, _, _, rfl, rfl, h.thr 0⟩)
    | (exact ⟨rfl, _, _, _, _, _, _, _, _, _, _, _, _, _, _, rfl, rfl, h.scr1⟩)
    | (exact ⟨rfl, _, _, _, _, _, _, _, _, _, _, _, _, _, _, rfl, rfl, h.scr⟩)
    | (rw [h.e1, h.e3, h.e4, h.f1, h.f2, h.f3, h.eJ] at o2
       have hg := o1.uniq (by unfold tn; omega) o2
       have hi := ((mof_iff (by omega) b7).mp t1).2.2
       exact ⟨by rw [e2, hg _ hi], _, _, _, _, _, _, _, _, _, _, _, _, _, _, rfl, rfl, h.scr⟩)
set_option maxHeartbeats 4000000 in
theorem sim_once {cI cO : ClassId} {a b ca ia : Nat → Nat} {n : Nat} {O : Nat → Option Nat} {I : Nat → Nat} {J : Nat → Int64} {F : Nat → Nat → Nat} {E : Nat → Nat → Int32} {K : Nat → Nat → Nat} {G : Nat → Nat → Int32} {I' : Nat → Nat} {J' : Nat → Int64} {F' : Nat → Nat → Nat} {G' : Nat → Nat → Int32} (h : Rel ca n O I J F E K G I' J' F' G') {x y : Int32} {r r' : Int32} {w w' : va_W} (hc :  (¬ (0 ≤ x.toInt ∧ x.toInt ≤ 4 ∧ 0 ≤ y.toInt ∧ y.toInt ≤ 1000) ∧ r = -1 ∧ w = bW cI cO a ca ia n O I J F E K G) ∨ ((0 ≤ x.toInt ∧ x.toInt ≤ 4 ∧ 0 ≤ y.toInt ∧ y.toInt ≤ 1000) ∧ (tn x = 2 ∧ I 3 ≠ 0 ∧ wsum (F 1) (I 3) = 0) ∧ r = -16 ∧ w = bW cI cO a ca ia n O (va_up I 8 (I 3)) J F E K G) ∨ ((0 ≤ x.toInt ∧ x.toInt ≤ 4 ∧ 0 ≤ y.toInt ∧ y.toInt ≤ 1000) ∧ ¬ (tn x = 2 ∧ I 3 ≠ 0 ∧ wsum (F 1) (I 3) = 0) ∧ ∃ g q3 q4 q5 q6 q7 σ, OrdIs (I 3) (I 5) (I 6) (F 0) (F 1) (K 3) (J 0) (tn x) (tn y) g ∧ ((onceP (I 3) g ∧ r = 1) ∨ (¬ onceP (I 3) g ∧ r = 0)) ∧ w = bW cI cO a ca ia n O (va_up I 8 (I 3)) (va_up J 1 (σ)) (va_up (va_up (va_up (va_up (va_up (va_up F 2 g) 3 q3) 4 q4) 5 q5) 6 q6) 7 q7) E K G)) (hm :  (¬ (0 ≤ x.toInt ∧ x.toInt ≤ 4 ∧ 0 ≤ y.toInt ∧ y.toInt ≤ 1000) ∧ r' = -1 ∧ w' = mW cI b (va_up I' 0 0) J' F' G') ∨ ((0 ≤ x.toInt ∧ x.toInt ≤ 4 ∧ 0 ≤ y.toInt ∧ y.toInt ≤ 1000) ∧ (tn x = 2 ∧ I' 1 ≠ 0 ∧ wsum (F' 2) (I' 1) = 0) ∧ r' = -16 ∧ ∃ g σ, w' = mW cI b (va_up I' 0 0) (va_up J' 1 (σ)) (va_up F' 6 g) G') ∨ ((0 ≤ x.toInt ∧ x.toInt ≤ 4 ∧ 0 ≤ y.toInt ∧ y.toInt ≤ 1000) ∧ ¬ (tn x = 2 ∧ I' 1 ≠ 0 ∧ wsum (F' 2) (I' 1) = 0) ∧ ∃ g q7 q8 q9 q10 q11 σ, OrdIs (I' 1) (I' 3) (I' 4) (F' 1) (F' 2) (F' 3) (J' 0) (tn x) (tn y) g ∧ ((onceP (I' 1) g ∧ r' = 1) ∨ (¬ onceP (I' 1) g ∧ r' = 0)) ∧ w' = mW cI b (va_up I' 0 0) (va_up J' 1 (σ)) (va_up (va_up (va_up (va_up (va_up (va_up F' 6 g) 7 q7) 8 q8) 9 q9) 10 q10) 11 q11) G')) : r = r' ∧ RelW cI cO a b w w' := by
  have en := h.en
  subst en
  have e1 := h.e1
  have e2 := h.e2
  have e3 := h.e3
  have e4 := h.e4
  have e5 := h.e5
  have e6 := h.e6
  have e7 := h.e7
  have e8 := h.e8
  have b3 := h.b3
  have b4 := h.b4
  have b7 := h.b7
  have ew : wsum (F' 2) (I' 1) = wsum (F 1) (I 3) := by rw [h.f2, e1]
  rcases hc with ⟨k1, rfl, rfl⟩ | ⟨k1, k2, rfl, rfl⟩ | ⟨k1, k2, g, q3, q4, q5, q6, q7, σ, o1, (⟨t1, rfl⟩ | ⟨t1, rfl⟩), rfl⟩ <;> rcases hm with ⟨g1, rfl, rfl⟩ | ⟨g1, g2, rfl, g', σ', rfl⟩ | ⟨g1, g2, g', p7, p8, p9, p10, p11, σ', o2, (⟨u1, rfl⟩ | ⟨u1, rfl⟩), rfl⟩
  all_goals first
    | (exfalso; omega)
    | (exact ⟨rfl, _, _, _, _, _, _, _, _, _, _, _, _, _, _, rfl, rfl, h.thr 0⟩)
    | (exact ⟨rfl, _, _, _, _, _, _, _, _, _, _, _, _, _, _, rfl, rfl, h.scr1⟩)
    | (exact ⟨rfl, _, _, _, _, _, _, _, _, _, _, _, _, _, _, rfl, rfl, h.scr⟩)
    | (exfalso
       rw [h.e1, h.e3, h.e4, h.f1, h.f2, h.f3, h.eJ] at o2
       have hg := o1.uniq (by unfold tn; omega) o2
       rw [e1] at u1
       exact u1 ((onceP_congr hg).mp t1))
    | (exfalso
       rw [h.e1, h.e3, h.e4, h.f1, h.f2, h.f3, h.eJ] at o2
       have hg := o1.uniq (by unfold tn; omega) o2
       rw [e1] at u1
       exact t1 ((onceP_congr hg).mpr u1))
set_option maxHeartbeats 4000000 in
theorem sim_next {cI cO : ClassId} {a b ca ia : Nat → Nat} {n : Nat} {O : Nat → Option Nat} {I : Nat → Nat} {J : Nat → Int64} {F : Nat → Nat → Nat} {E : Nat → Nat → Int32} {K : Nat → Nat → Nat} {G : Nat → Nat → Int32} {I' : Nat → Nat} {J' : Nat → Int64} {F' : Nat → Nat → Nat} {G' : Nat → Nat → Int32} (h : Rel ca n O I J F E K G I' J' F' G')  {r r' : Int32} {w w' : va_W} (hc :  (I 3 = 0 ∧ r = -3 ∧ w = bW cI cO a ca ia n O I J F E K G) ∨ (I 3 ≠ 0 ∧ (I 0 = 2 ∧ I 3 ≠ 0 ∧ wsum (F 1) (I 3) = 0) ∧ r = -16 ∧ w = bW cI cO a ca ia n O (va_up I 8 (I 3)) J F E K G) ∨ (I 3 ≠ 0 ∧ ¬ (I 0 = 2 ∧ I 3 ≠ 0 ∧ wsum (F 1) (I 3) = 0) ∧ ∃ g q3 q4 q5 q6 q7 σ, OrdIs (I 3) (I 5) (I 6) (F 0) (F 1) (K 3) (J 0) (I 0) (nxR (I 3) (I 1) (I 2)) g ∧ r = nI (g (nxP (I 3) (I 2))) ∧ w = bW cI cO a ca ia n O (va_up (va_up (va_up I 8 (I 3)) 1 (nxR (I 3) (I 1) (I 2))) 2 (nxP (I 3) (I 2) + 1)) (va_up J 1 (σ)) (va_up (va_up (va_up (va_up (va_up (va_up F 2 g) 3 q3) 4 q4) 5 q5) 6 q6) 7 q7) E K G)) (hm :  (I' 1 = 0 ∧ r' = -3 ∧ w' = mW cI b (va_up I' 0 0) J' F' G') ∨ (I' 1 ≠ 0 ∧ (I' 6 = 2 ∧ I' 1 ≠ 0 ∧ wsum (F' 2) (I' 1) = 0) ∧ r' = -16 ∧ ∃ g σ, w' = mW cI b (va_up I' 0 0) (va_up J' 1 (σ)) (va_up F' 6 g) G') ∨ (I' 1 ≠ 0 ∧ ¬ (I' 6 = 2 ∧ I' 1 ≠ 0 ∧ wsum (F' 2) (I' 1) = 0) ∧ ∃ g q7 q8 q9 q10 q11 σ, OrdIs (I' 1) (I' 3) (I' 4) (F' 1) (F' 2) (F' 3) (J' 0) (I' 6) (nxR (I' 1) (I' 7) (I' 8)) g ∧ r' = nI (g (nxP (I' 1) (I' 8))) ∧ w' = mW cI b (va_up (va_up (va_up I' 0 0) 7 (nxR (I' 1) (I' 7) (I' 8))) 8 (nxP (I' 1) (I' 8) + 1)) (va_up J' 1 (σ)) (va_up (va_up (va_up (va_up (va_up (va_up F' 6 g) 7 q7) 8 q8) 9 q9) 10 q10) 11 q11) G')) : r = r' ∧ RelW cI cO a b w w' := by
  have en := h.en
  subst en
  have e1 := h.e1
  have e2 := h.e2
  have e3 := h.e3
  have e4 := h.e4
  have e5 := h.e5
  have e6 := h.e6
  have e7 := h.e7
  have e8 := h.e8
  have b3 := h.b3
  have b4 := h.b4
  have b7 := h.b7
  have ew : wsum (F' 2) (I' 1) = wsum (F 1) (I 3) := by rw [h.f2, e1]
  have eR : nxR (I' 1) (I' 7) (I' 8) = nxR (I 3) (I 1) (I 2) := by rw [e1, e7, e8]
  have eP : nxP (I' 1) (I' 8) = nxP (I 3) (I 2) := by rw [e1, e8]
  rcases hc with ⟨k1, rfl, rfl⟩ | ⟨k1, k2, rfl, rfl⟩ | ⟨k1, k2, g, q3, q4, q5, q6, q7, σ, o1, rfl, rfl⟩ <;> rcases hm with ⟨g1, rfl, rfl⟩ | ⟨g1, g2, rfl, g', σ', rfl⟩ | ⟨g1, g2, g', p7, p8, p9, p10, p11, σ', o2, rfl, rfl⟩
  all_goals first
    | (exfalso; omega)
    | (exact ⟨rfl, _, _, _, _, _, _, _, _, _, _, _, _, _, _, rfl, rfl, h.thr 0⟩)
    | (exact ⟨rfl, _, _, _, _, _, _, _, _, _, _, _, _, _, _, rfl, rfl, h.scr1⟩)
    | (rw [eR, h.e1, h.e3, h.e4, h.e6, h.f1, h.f2, h.f3, h.eJ] at o2
       have hg := o1.uniq h.b0 o2
       have b1 := h.b1
       have b2 := h.b2
       have hi : nxP (I 3) (I 2) < I 3 := by unfold nxP; split <;> omega
       have hr : nxR (I 3) (I 1) (I 2) ≤ 1000 := by unfold nxR; split <;> (try split) <;> omega
       exact ⟨by rw [eP, hg _ hi], _, _, _, _, _, _, _, _, _, _, _, _, _, _, rfl, rfl, h.nxt eR (by rw [eP]) hr (by omega)⟩)
set_option maxHeartbeats 4000000 in
theorem sim_act {cI cO : ClassId} {a b ca ia : Nat → Nat} {n : Nat} {O : Nat → Option Nat} {I : Nat → Nat} {J : Nat → Int64} {F : Nat → Nat → Nat} {E : Nat → Nat → Int32} {K : Nat → Nat → Nat} {G : Nat → Nat → Int32} {I' : Nat → Nat} {J' : Nat → Int64} {F' : Nat → Nat → Nat} {G' : Nat → Nat → Int32} (h : Rel ca n O I J F E K G I' J' F' G') {x y z v : Int32} {r r' : Int32} {w w' : va_W} (hc :  (¬ (0 ≤ y.toInt ∧ y.toInt < I 3 ∧ 0 ≤ z.toInt ∧ z.toInt ≤ 1000 ∧ ((x.toInt = 0) ∨ (x.toInt = 1 ∧ v.toInt ≤ 40) ∨ (x.toInt = 2 ∧ 0 ≤ v.toInt ∧ v.toInt ≤ 256) ∨ (x.toInt = 3 ∧ 0 ≤ v.toInt ∧ v.toInt ≤ 100) ∨ (x.toInt = 4 ∧ 0 ≤ v.toInt ∧ v.toInt ≤ 50))) ∧ r = -1 ∧ w = bW cI cO a ca ia n O I J F E K G) ∨ ((0 ≤ y.toInt ∧ y.toInt < I 3 ∧ 0 ≤ z.toInt ∧ z.toInt ≤ 1000 ∧ ((x.toInt = 0) ∨ (x.toInt = 1 ∧ v.toInt ≤ 40) ∨ (x.toInt = 2 ∧ 0 ≤ v.toInt ∧ v.toInt ≤ 256) ∨ (x.toInt = 3 ∧ 0 ≤ v.toInt ∧ v.toInt ≤ 100) ∨ (x.toInt = 4 ∧ 0 ≤ v.toInt ∧ v.toInt ≤ 50))) ∧ flN (tn x) (K 0 (tn y)) (K 1 (tn y)) (K 2 (tn y)) (K 3 (tn y)) v.toInt = 1 ∧ r = -11 ∧ w = bW cI cO a ca ia n O I J F E K G) ∨ ((0 ≤ y.toInt ∧ y.toInt < I 3 ∧ 0 ≤ z.toInt ∧ z.toInt ≤ 1000 ∧ ((x.toInt = 0) ∨ (x.toInt = 1 ∧ v.toInt ≤ 40) ∨ (x.toInt = 2 ∧ 0 ≤ v.toInt ∧ v.toInt ≤ 256) ∨ (x.toInt = 3 ∧ 0 ≤ v.toInt ∧ v.toInt ≤ 100) ∨ (x.toInt = 4 ∧ 0 ≤ v.toInt ∧ v.toInt ≤ 50))) ∧ flN (tn x) (K 0 (tn y)) (K 1 (tn y)) (K 2 (tn y)) (K 3 (tn y)) v.toInt = 2 ∧ r = -12 ∧ w = bW cI cO a ca ia n O I J F E K G) ∨ ((0 ≤ y.toInt ∧ y.toInt < I 3 ∧ 0 ≤ z.toInt ∧ z.toInt ≤ 1000 ∧ ((x.toInt = 0) ∨ (x.toInt = 1 ∧ v.toInt ≤ 40) ∨ (x.toInt = 2 ∧ 0 ≤ v.toInt ∧ v.toInt ≤ 256) ∨ (x.toInt = 3 ∧ 0 ≤ v.toInt ∧ v.toInt ≤ 100) ∨ (x.toInt = 4 ∧ 0 ≤ v.toInt ∧ v.toInt ≤ 50))) ∧ flN (tn x) (K 0 (tn y)) (K 1 (tn y)) (K 2 (tn y)) (K 3 (tn y)) v.toInt = 3 ∧ r = -13 ∧ w = bW cI cO a ca ia n O I J F E K G) ∨ ((0 ≤ y.toInt ∧ y.toInt < I 3 ∧ 0 ≤ z.toInt ∧ z.toInt ≤ 1000 ∧ ((x.toInt = 0) ∨ (x.toInt = 1 ∧ v.toInt ≤ 40) ∨ (x.toInt = 2 ∧ 0 ≤ v.toInt ∧ v.toInt ≤ 256) ∨ (x.toInt = 3 ∧ 0 ≤ v.toInt ∧ v.toInt ≤ 100) ∨ (x.toInt = 4 ∧ 0 ≤ v.toInt ∧ v.toInt ≤ 50))) ∧ flN (tn x) (K 0 (tn y)) (K 1 (tn y)) (K 2 (tn y)) (K 3 (tn y)) v.toInt = 5 ∧ r = -15 ∧ w = bW cI cO a ca ia n O I J F E K G) ∨ ((0 ≤ y.toInt ∧ y.toInt < I 3 ∧ 0 ≤ z.toInt ∧ z.toInt ≤ 1000 ∧ ((x.toInt = 0) ∨ (x.toInt = 1 ∧ v.toInt ≤ 40) ∨ (x.toInt = 2 ∧ 0 ≤ v.toInt ∧ v.toInt ≤ 256) ∨ (x.toInt = 3 ∧ 0 ≤ v.toInt ∧ v.toInt ≤ 100) ∨ (x.toInt = 4 ∧ 0 ≤ v.toInt ∧ v.toInt ≤ 50))) ∧ flN (tn x) (K 0 (tn y)) (K 1 (tn y)) (K 2 (tn y)) (K 3 (tn y)) v.toInt = 6 ∧ r = -16 ∧ w = bW cI cO a ca ia n O I J F E K G) ∨ ((0 ≤ y.toInt ∧ y.toInt < I 3 ∧ 0 ≤ z.toInt ∧ z.toInt ≤ 1000 ∧ ((x.toInt = 0) ∨ (x.toInt = 1 ∧ v.toInt ≤ 40) ∨ (x.toInt = 2 ∧ 0 ≤ v.toInt ∧ v.toInt ≤ 256) ∨ (x.toInt = 3 ∧ 0 ≤ v.toInt ∧ v.toInt ≤ 100) ∨ (x.toInt = 4 ∧ 0 ≤ v.toInt ∧ v.toInt ≤ 50))) ∧ flN (tn x) (K 0 (tn y)) (K 1 (tn y)) (K 2 (tn y)) (K 3 (tn y)) v.toInt = 0 ∧ ∃ kd Ho Wo Lo o σ, ActIs (tn x) (tn v) (K 1 (tn y)) (K 2 (tn y)) (K 3 (tn y)) (actS (J 0) (tn y) (tn z) (tn x)) (G (tn y)) kd Ho Wo Lo o ∧ kd ≤ 1 ∧ Lo ≤ 1600 ∧ Ho ≤ 40 ∧ Wo ≤ 40 ∧ r = nI Lo ∧ w = bW cI cO a ca ia n O (va_up (va_up (va_up (va_up I 9 kd) 10 Ho) 11 Wo) 12 Lo) (va_up J 1 (σ)) F (va_up E 0 o) K G)) (hm :  (¬ (0 ≤ y.toInt ∧ y.toInt < I' 1 ∧ 0 ≤ z.toInt ∧ z.toInt ≤ 1000 ∧ ((x.toInt = 0) ∨ (x.toInt = 1 ∧ v.toInt ≤ 40) ∨ (x.toInt = 2 ∧ 0 ≤ v.toInt ∧ v.toInt ≤ 256) ∨ (x.toInt = 3 ∧ 0 ≤ v.toInt ∧ v.toInt ≤ 100) ∨ (x.toInt = 4 ∧ 0 ≤ v.toInt ∧ v.toInt ≤ 50))) ∧ r' = -1 ∧ w' = mW cI b (va_up I' 0 0) J' F' G') ∨ ((0 ≤ y.toInt ∧ y.toInt < I' 1 ∧ 0 ≤ z.toInt ∧ z.toInt ≤ 1000 ∧ ((x.toInt = 0) ∨ (x.toInt = 1 ∧ v.toInt ≤ 40) ∨ (x.toInt = 2 ∧ 0 ≤ v.toInt ∧ v.toInt ≤ 256) ∨ (x.toInt = 3 ∧ 0 ≤ v.toInt ∧ v.toInt ≤ 100) ∨ (x.toInt = 4 ∧ 0 ≤ v.toInt ∧ v.toInt ≤ 50))) ∧ flN (tn x) (F' 0 (tn y)) (F' 4 (tn y)) (F' 5 (tn y)) (F' 3 (tn y)) v.toInt = 1 ∧ r' = -11 ∧ w' = mW cI b (va_up I' 0 0) J' F' G') ∨ ((0 ≤ y.toInt ∧ y.toInt < I' 1 ∧ 0 ≤ z.toInt ∧ z.toInt ≤ 1000 ∧ ((x.toInt = 0) ∨ (x.toInt = 1 ∧ v.toInt ≤ 40) ∨ (x.toInt = 2 ∧ 0 ≤ v.toInt ∧ v.toInt ≤ 256) ∨ (x.toInt = 3 ∧ 0 ≤ v.toInt ∧ v.toInt ≤ 100) ∨ (x.toInt = 4 ∧ 0 ≤ v.toInt ∧ v.toInt ≤ 50))) ∧ flN (tn x) (F' 0 (tn y)) (F' 4 (tn y)) (F' 5 (tn y)) (F' 3 (tn y)) v.toInt = 2 ∧ r' = -12 ∧ w' = mW cI b (va_up I' 0 0) J' F' G') ∨ ((0 ≤ y.toInt ∧ y.toInt < I' 1 ∧ 0 ≤ z.toInt ∧ z.toInt ≤ 1000 ∧ ((x.toInt = 0) ∨ (x.toInt = 1 ∧ v.toInt ≤ 40) ∨ (x.toInt = 2 ∧ 0 ≤ v.toInt ∧ v.toInt ≤ 256) ∨ (x.toInt = 3 ∧ 0 ≤ v.toInt ∧ v.toInt ≤ 100) ∨ (x.toInt = 4 ∧ 0 ≤ v.toInt ∧ v.toInt ≤ 50))) ∧ flN (tn x) (F' 0 (tn y)) (F' 4 (tn y)) (F' 5 (tn y)) (F' 3 (tn y)) v.toInt = 3 ∧ r' = -13 ∧ w' = mW cI b (va_up I' 0 0) J' F' G') ∨ ((0 ≤ y.toInt ∧ y.toInt < I' 1 ∧ 0 ≤ z.toInt ∧ z.toInt ≤ 1000 ∧ ((x.toInt = 0) ∨ (x.toInt = 1 ∧ v.toInt ≤ 40) ∨ (x.toInt = 2 ∧ 0 ≤ v.toInt ∧ v.toInt ≤ 256) ∨ (x.toInt = 3 ∧ 0 ≤ v.toInt ∧ v.toInt ≤ 100) ∨ (x.toInt = 4 ∧ 0 ≤ v.toInt ∧ v.toInt ≤ 50))) ∧ flN (tn x) (F' 0 (tn y)) (F' 4 (tn y)) (F' 5 (tn y)) (F' 3 (tn y)) v.toInt = 5 ∧ r' = -15 ∧ w' = mW cI b (va_up I' 0 0) J' F' G') ∨ ((0 ≤ y.toInt ∧ y.toInt < I' 1 ∧ 0 ≤ z.toInt ∧ z.toInt ≤ 1000 ∧ ((x.toInt = 0) ∨ (x.toInt = 1 ∧ v.toInt ≤ 40) ∨ (x.toInt = 2 ∧ 0 ≤ v.toInt ∧ v.toInt ≤ 256) ∨ (x.toInt = 3 ∧ 0 ≤ v.toInt ∧ v.toInt ≤ 100) ∨ (x.toInt = 4 ∧ 0 ≤ v.toInt ∧ v.toInt ≤ 50))) ∧ flN (tn x) (F' 0 (tn y)) (F' 4 (tn y)) (F' 5 (tn y)) (F' 3 (tn y)) v.toInt = 6 ∧ r' = -16 ∧ w' = mW cI b (va_up I' 0 0) J' F' G') ∨ ((0 ≤ y.toInt ∧ y.toInt < I' 1 ∧ 0 ≤ z.toInt ∧ z.toInt ≤ 1000 ∧ ((x.toInt = 0) ∨ (x.toInt = 1 ∧ v.toInt ≤ 40) ∨ (x.toInt = 2 ∧ 0 ≤ v.toInt ∧ v.toInt ≤ 256) ∨ (x.toInt = 3 ∧ 0 ≤ v.toInt ∧ v.toInt ≤ 100) ∨ (x.toInt = 4 ∧ 0 ≤ v.toInt ∧ v.toInt ≤ 50))) ∧ flN (tn x) (F' 0 (tn y)) (F' 4 (tn y)) (F' 5 (tn y)) (F' 3 (tn y)) v.toInt = 0 ∧ ∃ kd Ho Wo Lo o g σ, ActIs (tn x) (tn v) (F' 4 (tn y)) (F' 5 (tn y)) (F' 3 (tn y)) (actS (J' 0) (tn y) (tn z) (tn x)) (fun k => G' 0 (1600 * tn y + k)) kd Ho Wo Lo o ∧ kd ≤ 1 ∧ Lo ≤ 1600 ∧ Ho ≤ 40 ∧ Wo ≤ 40 ∧ r' = nI Lo ∧ w' = mW cI b (va_up (va_up (va_up (va_up (va_up I' 0 0) 9 kd) 10 Lo) 11 Ho) 12 Wo) (va_up J' 1 (σ)) F' (va_up (va_up G' 1 o) 2 g))) : r = r' ∧ RelW cI cO a b w w' := by
  have en := h.en
  subst en
  have e1 := h.e1
  have e2 := h.e2
  have e3 := h.e3
  have e4 := h.e4
  have e5 := h.e5
  have e6 := h.e6
  have e7 := h.e7
  have e8 := h.e8
  have b3 := h.b3
  have b4 := h.b4
  have b7 := h.b7
  have ef : flN (tn x) (F' 0 (tn y)) (F' 4 (tn y)) (F' 5 (tn y)) (F' 3 (tn y)) v.toInt = flN (tn x) (K 0 (tn y)) (K 1 (tn y)) (K 2 (tn y)) (K 3 (tn y)) v.toInt := by rw [h.f0, h.f3, h.f4, h.f5]
  rcases hc with ⟨k1, rfl, rfl⟩ | ⟨k1, k2, rfl, rfl⟩ | ⟨k1, k2, rfl, rfl⟩ | ⟨k1, k2, rfl, rfl⟩ | ⟨k1, k2, rfl, rfl⟩ | ⟨k1, k2, rfl, rfl⟩ | ⟨k1, k2, kd, Ho, Wo, Lo, o, σ, a1, hb1, hb2, hb3, hb4, rfl, rfl⟩ <;> rcases hm with ⟨g1, rfl, rfl⟩ | ⟨g1, g2, rfl, rfl⟩ | ⟨g1, g2, rfl, rfl⟩ | ⟨g1, g2, rfl, rfl⟩ | ⟨g1, g2, rfl, rfl⟩ | ⟨g1, g2, rfl, rfl⟩ | ⟨g1, g2, kd', Ho', Wo', Lo', o', gg, σ', a2, hd1, hd2, hd3, hd4, rfl, rfl⟩
  all_goals first
    | (exfalso; omega)
    | (exact ⟨rfl, _, _, _, _, _, _, _, _, _, _, _, _, _, _, rfl, rfl, h.thr 0⟩)
    | (rw [h.f3, h.f4, h.f5, h.eJ] at a2
       have hf0 := fl0 k2
       have hy : tn y < I 3 := by unfold tn; omega
       have hv : (tn v : Int) = v.toInt ∨ v.toInt < 0 := by unfold tn; omega
       have hx : tn x ≤ 4 := by unfold tn; omega
       have hx2 : (tn x : Int) = x.toInt := by unfold tn; omega
       have hk0 := h.hK0 (tn y) hy
       have hpc := h.hPc (tn y) hy
       have hu := ActIs.uniq hx (fun z => by omega) (fun z => (hpc (by omega)).2.2) (fun z => by omega) (fun k hk => h.it (tn y) k hy hk) a1 a2
       exact ⟨congrArg nI hu.2.2.2.1, _, _, _, _, _, _, _, _, _, _, _, _, _, _, rfl, rfl, h.act hu.1.symm hu.2.1.symm hu.2.2.1.symm hu.2.2.2.1.symm hu.2.2.2.2 hb1 hb2 hb3 hb4⟩)
