set_option maxHeartbeats 4000000 in
set_option maxRecDepth 100000 in
theorem law_count {p : Program} (l : Launch) {e : Env} {s : State} {m : MethodId} {below : List Frame} {meth : Method} {c : Code} {H : Heap} {locs : List Loc} {cells slots : Nat} {Q : State → Prop} {ls : Array Slot} {bs L lo : Nat} {xs : Nat → Int32} {D : va_G} {cI cO cL : ClassId} {A : Nat → Prop} {a b : Nat → Nat} {g : Nat → Int64} {w w' : va_W} (hst : l.stackTraces = false) (hXF : XF A s) (C : Cx p s m c #[Value.ref bs] cL_law 7 wsL_law RL D (TY cI cO cL)) (hA : ∀ q : Nat, s.heap.size ≤ q → A q) (hX : va_X bs L xs s s.heap) (hbl : bs < s.heap.size) (hbA : ¬ A bs) (hL : L ≤ 3584) (i : Nat) (hi : i + 7 ≤ L) (hcs : cells + 3 ≤ 601024) (hss : slots + 1700 ≤ 7293034) (hR : RelW cI cO a b w w') (G : Wd A s.heap D (w ++ (w' ++ lgW cL lo g)) H locs) (hl : lv_has ls 7 [(0, .ref bs), (1, .ref (a 0)), (2, .ref (b 0)), (3, .ref lo), (4, .int (nI i))])
    (NEXT : ∀ (w1 w2 : va_W) (g' : Nat → Int64) (H1 : Heap) (locs1 : List Loc) (ls1 : Array Slot), RelW cI cO a b w1 w2 → Wd A s.heap D (w1 ++ (w2 ++ lgW cL lo g')) H1 locs1 → lv_has ls1 7 [(0, .ref bs), (1, .ref (a 0)), (2, .ref (b 0)), (3, .ref lo), (4, .int (nI i))] → W p l e room_1 s m #[Value.ref bs] below meth c H1 locs1 (cells + 3) (slots + 1700) Q (F0 m 964 ls1 [])) : W p l e room_1 s m #[Value.ref bs] below meth c H locs cells slots Q (F0 m 537 ls []) := by
  obtain ⟨ca, ia, n, O, I, J, F, E, K, G0, I', J', F', G', rfl, rfl, h⟩ := hR
  obtain ⟨⟨hx, hb, hml, hown, hts⟩, hK, hN⟩ := id C
  have e1 := h.e1
  have e2 := h.e2
  have e5 := h.e5
  have G := G.swap.comm
  refine lv_aload_n hx hb dL_law_537 rfl (lv_at hl 1 rfl) ?_
  refine lv_aload_n hx hb dL_law_538 rfl (lv_at hl 3 rfl) ?_
  refine r_aiL G hA (vx_runSW (As := [.ref (a 0), .ref lo]) (rest := []) C.1 (c_L_count l D cI cO cL hst lo g a ca ia n O I J F E K G0 h.b3 h.b4 h.b7 H.size) (vx_cwSW 2 hts gL_law_L_count rfl rfl rfl (by decide +kernel) ⟨Nat.le_of_ble_eq_true rfl, Nat.le_of_ble_eq_true rfl⟩) ⟨PreX.blind, fun U hU hW => ?_⟩ rfl rfl hl.1 rfl (lv_room (Nat.le_of_ble_eq_true rfl)) dL_law_539 ⟨by show cells + 1 ≤ 601024; omega, by show slots + 6 ≤ 7293034; omega⟩) (fun r1 w1 H1 locs1 hp1 G => ?_)
  · have h1 := G.left.pre C (av := [.ref (a 0), .ref lo]) hU hW
    exact ⟨h1.1, h1.2, hXF.to hW (fun q hq hn => by rw [hU]; exact G.2.2.2.1 q hq hn) (G.left.fr hA)⟩
  have G := G.comm
  refine lv_istore (lv' := [(5, .int r1), (0, .ref bs), (1, .ref (a 0)), (2, .ref (b 0)), (3, .ref lo), (4, .int (nI i))]) hx hb dL_law_542 hl (by decide) rfl (fun ls hl => ?_)
  refine lv_aload_n hx hb dL_law_544 rfl (lv_at hl 3 rfl) ?_
  refine r_aiL G hA (r_rV (na := 0) (As := []) (rest := []) C G.left (c_X7_count l D cI cO cL b I' J' F' G' h.m1 h.m2 h.m5) gL_law_X7_count rfl (by decide +kernel) ⟨Nat.le_of_ble_eq_true rfl, Nat.le_of_ble_eq_true rfl⟩ 0 rfl rfl rfl hl.1 rfl (Nat.le_of_ble_eq_true rfl) dL_law_545 ⟨by show cells + 1 + 0 ≤ 601024; omega, by show slots + 6 + 0 ≤ 7293034; omega⟩) (fun r2 w2 H2 locs2 hp2 G => ?_)
  refine lv_istore (lv' := [(6, .int r2), (5, .int r1), (0, .ref bs), (1, .ref (a 0)), (2, .ref (b 0)), (3, .ref lo), (4, .int (nI i))]) hx hb dL_law_548 hl (by decide) rfl (fun ls hl => ?_)
  refine lv_aload_n hx hb dL_law_550 rfl (lv_at hl 4 rfl) ?_
  rcases hp1 with ⟨k1, rfl, rfl⟩ | ⟨k1, rfl, g', eg, rfl⟩ <;> rcases hp2 with ⟨q1, rfl, rfl⟩ | ⟨q1, rfl, rfl⟩
  · refine r_aiL G hA (r_rV (na := 0) (As := []) (rest := []) C G.left (c_X7_thrown l D cI cO cL b (va_up I' 0 1) J' F' G') gL_law_X7_thrown rfl (by decide +kernel) ⟨Nat.le_of_ble_eq_true rfl, Nat.le_of_ble_eq_true rfl⟩ 0 rfl rfl rfl hl.1 rfl (Nat.le_of_ble_eq_true rfl) dL_law_551 ⟨by show cells + 1 + 0 + 0 ≤ 601024; omega, by show slots + 6 + 0 + 0 ≤ 7293034; omega⟩) (fun r3 w3 H3 locs3 hp3 G => ?_)
    obtain ⟨rfl, rfl⟩ := hp3
    refine lv_iload hx hb dL_law_554 (lv_at hl 1 rfl) ?_
    refine lv_icmp_eq (tgt := 561) hx hb dL_law_556 (by decide) (fun _ => ?_) (fun cq => absurd (show nI 1 = 1 by decide) cq)
    refine lv_iload hx hb dL_law_561 (lv_at hl 1 rfl) ?_
    refine lv_if_ne (tgt := 578) hx hb dL_law_563 (by decide) (fun _ => ?_) (fun cq => absurd cq (show ¬ ((1 : Int32) = 0) by decide))
    refine lv_goto (tgt := 964) hx hb dL_law_578 (by decide) ?_
    refine W.widen (k := cells + 3) (n := slots + 1700) (by show cells + 1 + 0 + 0 ≤ cells + 3; omega) (by show slots + 6 + 0 + 0 ≤ slots + 1700; omega) ?_
    exact NEXT _ _ _ _ _ _ ⟨ca, ia, n, O, I, J, F, E, K, G0, _, _, _, _, rfl, rfl, h.thr 1⟩ G.swap (lv_sub hl [2, 3, 4, 5, 6] rfl)
  · exact absurd (e2.trans k1) q1
  · exact absurd (e2.symm.trans q1) k1
  · refine r_aiL G hA (r_rV (na := 0) (As := []) (rest := []) C G.left (c_X7_thrown l D cI cO cL b (va_up I' 0 0) J' F' G') gL_law_X7_thrown rfl (by decide +kernel) ⟨Nat.le_of_ble_eq_true rfl, Nat.le_of_ble_eq_true rfl⟩ 0 rfl rfl rfl hl.1 rfl (Nat.le_of_ble_eq_true rfl) dL_law_551 ⟨by show cells + 1 + 0 + 0 ≤ 601024; omega, by show slots + 6 + 0 + 0 ≤ 7293034; omega⟩) (fun r3 w3 H3 locs3 hp3 G => ?_)
    obtain ⟨rfl, rfl⟩ := hp3
    refine lv_iload hx hb dL_law_554 (lv_at hl 1 rfl) ?_
    refine lv_icmp_eq (tgt := 561) hx hb dL_law_556 (by decide) (fun _ => ?_) (fun cq => absurd (show nI 0 = 0 by decide) cq)
    refine lv_iload hx hb dL_law_561 (lv_at hl 1 rfl) ?_
    refine lv_if_ne (tgt := 578) hx hb dL_law_563 (by decide) (fun cq => absurd rfl cq) (fun _ => ?_)
    refine lv_aload_n hx hb dL_law_566 rfl (lv_at hl 5 rfl) ?_
    refine lv_iconst (v := nI 0) hx hb dL_law_567 (by decide) ?_
    refine va_lald hx hb hK G.right.right.1 0 2 (cA := cL) (n := 1) (f := g') rfl rfl (vp_in_nI (by omega) (by omega)) dL_law_568 ?_
    refine lv_iload hx hb dL_law_569 (lv_at hl 0 rfl) ?_
    refine lv_i2l (v := lN (cnt (I' 1) (I' 2) (I' 5))) hx hb dL_law_571 (nI_l (Nat.lt_of_le_of_lt (cnt_le (by omega) h.m1) (by omega))) ?_
    refine W.lcmp hx hb dL_law_572 ?_
    refine lv_if_eq (tgt := 578) hx hb dL_law_573 (by decide) (fun _ => ?_) (fun cq => absurd ((lg_cmp_eq _ _).mpr (by rw [nI_clamp (by omega), eg, e1, e2, e5])) cq)
    refine lv_goto (tgt := 964) hx hb dL_law_578 (by decide) ?_
    refine W.widen (k := cells + 3) (n := slots + 1700) (by show cells + 1 + 0 + 0 ≤ cells + 3; omega) (by show slots + 6 + 0 + 0 ≤ slots + 1700; omega) ?_
    exact NEXT _ _ _ _ _ _ ⟨ca, ia, n, O, I, J, F, E, K, G0, _, _, _, _, rfl, rfl, h.thr 0⟩ G.swap (lv_sub hl [2, 3, 4, 5, 6] rfl)
