theorem nwF_in : ∀ t ∈ nwF, Cond.fieldLinkNest t.1 t.2.1 t.2.2.1 t.2.2.2.1 t.2.2.2.2 "BatchOrder" ∈ lw_tbl := by decide +kernel
theorem nwM_in : ∀ t ∈ nwM, Cond.methodLinkNest "BatchOrder" t.1 t.2 "BatchOrder" ∈ lw_tbl := by decide +kernel
section
variable {p : Program} {l : Launch} {e : Env} {R : Room} {s : State} {m : MethodId} {args : Array Value} {below : List Frame} {meth : Method} {c : Code} {H : Heap} {locs : List Loc} {cells slots : Nat} {Q : State → Prop}
variable {cc : ByteArray} {nL : Nat} {Ts : List Cond} {own : String} {pc : Nat} {ls : Array Slot} {rest : List Value} {D : va_G} {A : Nat → Prop} {tys : List (ClassId × FieldType)} {ws : va_W} {H0 : Heap}
theorem r_newl (C : Cx p s m c args cc nL Ts own D tys) (G : Wd A H0 D ws H locs) (hA : ∀ q : Nat, H0.size ≤ q → A q) (t0 : Nat) {cL : ClassId} (ht : tys[t0]? = some (cL, .long)) (harr : Cond.arrayClass .long ∈ Ts) {n : Nat} (hn : n < 2 ^ 26) (hcells : cells + 1 ≤ R.cells) (hslots : slots + n ≤ R.slots) (hdg : decode cc pc = .ok (.newarray .long, 2))
    (kk : ∀ (q : Nat) (H1 : Heap), Wd A H0 D (ws ++ [(q, .inl (cL, n, .inr (.inl (fun _ => 0))))]) H1 locs → W p l e R s m args below meth c H1 locs (cells + 1) (slots + n) Q (F0 m (pc + 2) ls (.ref q :: rest))) : W p l e R s m args below meth c H locs cells slots Q (F0 m pc ls (.int (nI n) :: rest)) := by
  refine va_newa (atype := .long) (ty := .long) (N' := n) (a0 := (n, .inr (.inl (fun _ => 0)))) C.1.1 C.1.2.1 (C.1.2.2.2.2 _ harr) rfl C.2.1 G.1 G.2.1 G.2.2 hA (fun cA => rfl) (nI_pos (by omega)) (nI_clamp (by omega)) (by show n * 8 ≤ _; omega) hcells hslots hdg (fun q cA H1 h1 h2 h3 h4 => ?_)
  have e1 : s.vm.findClass ("[" ++ FieldType.long.toString) = some cA := (h1.2 tys.length (cA, .long) (by simp)).2
  have e2 : s.vm.findClass ("[" ++ FieldType.long.toString) = some cL := (C.2.1.2 t0 _ ht).2
  have e3 : cA = cL := Option.some.inj (e1.symm.trans e2)
  subst e3
  exact kk q H1 ⟨h2, h3, h4⟩
end
theorem Rel0 : Rel (fun _ => 0) 0 (fun _ => none) (pick [0, 0, 0, 0, 4, 8, 5, 0, 0, 2, 0, 0, 0]) (fun _ => 0) (fun _ _ => 0) (fun _ _ => 0) (fun _ _ => 0) (fun _ _ => 0) (pick [0, 0, 4, 8, 5, 0, 0, 0, 0, 2, 0, 0, 0]) (fun _ => 0) (fun _ _ => 0) (fun _ _ => 0) := Rel.mk' rfl rfl rfl rfl rfl rfl rfl rfl rfl rfl rfl rfl rfl rfl rfl rfl rfl rfl rfl rfl (by decide) (by decide) (by decide) (by decide) (by decide) (by decide) (by decide) (by decide) (by decide) (by decide) (by decide) (by decide) (fun j hj => absurd hj (Nat.not_lt_zero j)) (fun j hj => absurd hj (Nat.not_lt_zero j)) (fun j hj => absurd hj (Nat.not_lt_zero j)) (fun j hj => absurd hj (Nat.not_lt_zero j)) (fun j hj => absurd hj (Nat.not_lt_zero j)) (fun j hj => absurd hj (Nat.not_lt_zero j)) (fun j hj => absurd hj (Nat.not_lt_zero j)) (fun j hj => absurd hj (Nat.not_lt_zero j)) (fun j hj => absurd hj (Nat.not_lt_zero j)) (fun j k hj => absurd hj (Nat.not_lt_zero j)) (fun k hk => absurd hk (Nat.not_lt_zero k)) (fun _ => ⟨rfl, rfl, rfl⟩)
set_option maxHeartbeats 4000000 in
set_option maxRecDepth 100000 in
/-- THE LAW, from its entry -/
theorem whole_start {p : Program} {e : Env} {s : State} {m : MethodId} {below : List Frame} {meth : Method} {c : Code} (l : Launch) (hst : l.stackTraces = false) {bs L : Nat} {xs : Nat → Int32} (hL : L ≤ 3584) (C0 : lw_At p s m meth c bs L xs) : W p l e room_1 s m #[Value.ref bs] below meth c s.heap [] 0 0 (lw_Z below #[Value.ref bs] s) (entryFrame m ([Value.ref bs] : List Value).toArray 7) := by
  obtain ⟨hx, hb, hr, hml, hown, hts, hX, hbl, hlocks, hgv⟩ := id C0
  have hA : ∀ q : Nat, s.heap.size ≤ q → (fun q : Nat => s.heap.size ≤ q) q := fun _ h => h
  have hbA : ¬ (fun q : Nat => s.heap.size ≤ q) bs := Nat.not_le.mpr hbl
  have hlow : ∀ q : Nat, q < s.heap.size → ¬ (fun q : Nat => s.heap.size ≤ q) q := fun q h => Nat.not_le.mpr h
  obtain ⟨c0, i0, hKn0⟩ := u_known (C := RX1) (T := TX1) (N := 5) (n := 5) hts inX1 (hts (.instantiable RX1 5) (by decide +kernel))
  obtain ⟨c1, i1, hKn1⟩ := u_known (C := RX2) (T := TX2) (N := 1) (n := 1) hts inX2 (hts (.instantiable RX2 1) (by decide +kernel))
  obtain ⟨c2, i2, hKn2⟩ := u_known (C := RX3) (T := TX3) (N := 10) (n := 10) hts inX3 (hts (.instantiable RX3 10) (by decide +kernel))
  obtain ⟨c3, i3, hKn3⟩ := u_known (C := RX4) (T := TX4) (N := 4) (n := 4) hts inX4 (hts (.instantiable RX4 4) (by decide +kernel))
  obtain ⟨c4, i4, hKn4⟩ := u_known (C := RX5) (T := TX5) (N := 5) (n := 5) hts inX5 (hts (.instantiable RX5 5) (by decide +kernel))
  obtain ⟨c5, i5, hKn5⟩ := u_known (C := RX6) (T := TX6) (N := 8) (n := 8) hts inX6 (hts (.instantiable RX6 8) (by decide +kernel))
  obtain ⟨c6, i6, hKn6⟩ := u_known (C := RX7) (T := TX7) (N := 30) (n := 30) hts inX7 (hts (.instantiable RX7 30) (by decide +kernel))
  obtain ⟨D, hKc⟩ : ∃ D : va_G, ∀ (k : Nat) (q : vw_C), vwCl[k]? = some q → u_Kn s q.1 q.2.1 q.2.2 (D.1 k) (D.2 k) := by
    refine ⟨(fun k => if k = 0 then c0 else if k = 1 then c1 else if k = 2 then c2 else if k = 3 then c3 else if k = 4 then c4 else if k = 5 then c5 else c6, fun k => if k = 0 then i0 else if k = 1 then i1 else if k = 2 then i2 else if k = 3 then i3 else if k = 4 then i4 else if k = 5 then i5 else i6), ?_⟩
    intro k q hq
    match k, hq with
    | 0, hq => cases hq; exact hKn0
    | 1, hq => cases hq; exact hKn1
    | 2, hq => cases hq; exact hKn2
    | 3, hq => cases hq; exact hKn3
    | 4, hq => cases hq; exact hKn4
    | 5, hq => cases hq; exact hKn5
    | 6, hq => cases hq; exact hKn6
    | k + 7, hq => simp [vwCl] at hq
  obtain ⟨cI, kI, oI, a1, a2, a3⟩ := Cond.arrayClass_spec (hts (.arrayClass .int) (by decide +kernel))
  obtain ⟨cL, kL, oL, l1, l2, l3⟩ := Cond.arrayClass_spec (hts (.arrayClass .long) (by decide +kernel))
  obtain ⟨oO, cO, kO, o1, o2, o3, o4, o5⟩ := Cond.arrayOver_spec (hts (.arrayOver (.object "BatchOrder$Content")) (by decide +kernel))
  have hK : va_K D vwCl (TY cI cO cL) s := by
    refine ⟨hKc, fun k q hq => ?_⟩
    match k, hq with
    | 0, hq => cases hq; exact ⟨fun n z => ⟨fun k h => (by cases h), kI, a2, oI, a3⟩, a1⟩
    | 1, hq => cases hq; exact ⟨fun n z => ⟨fun k h => (by cases h), kO, o3, oO, o4⟩, kO, oO, o3, o4, o1, o5⟩
    | 2, hq => cases hq; exact ⟨fun n z => ⟨fun k h => (by cases h), kL, l2, oL, l3⟩, l1⟩
    | k + 3, hq => simp at hq
  have hN : NW s := ⟨fun t ht => va_Nw.of rfl (hts _ (nwF_in t ht)), fun t ht => va_Nw.of rfl (hts _ (nwM_in t ht)), va_AO.of (hts (.arrayOver (.object "BatchOrder$Content")) (by decide +kernel))⟩
  have hfl := flat_of_before _ hgv
  obtain ⟨sa, -, -, -, hsa, -⟩ := Cond.exactly_spec (hfl (.exactly (.string "BatchOrder" 138) "java/lang/String") (by decide +kernel))
  have hXF : XF (fun q : Nat => s.heap.size ≤ q) s := ⟨vx_Zqof (hts (.laysStatic "java/lang/Throwable" "UNASSIGNED_STACK" "[Ljava/lang/StackTraceElement;") (by decide +kernel)) (hts (.initialized "java/lang/Throwable") (by decide +kernel)) (hfl (.isRef (.static "java/lang/Throwable" "UNASSIGNED_STACK" "[Ljava/lang/StackTraceElement;")) (by decide +kernel)) hlow,
    vx_Zqof (hts (.laysStatic "java/lang/Throwable" "SUPPRESSED_SENTINEL" "Ljava/util/List;") (by decide +kernel)) (hts (.initialized "java/lang/Throwable") (by decide +kernel)) (hfl (.isRef (.static "java/lang/Throwable" "SUPPRESSED_SENTINEL" "Ljava/util/List;")) (by decide +kernel)) hlow,
    ⟨sa, vk_R.of (hts (.stringRef "BatchOrder" 138 "SIZE is 0") (by decide +kernel)) hsa⟩, va_Nw.of rfl (hts _ (by decide +kernel)), va_Nw.of rfl (hts _ (by decide +kernel)), va_Nw.of rfl (hts _ (by decide +kernel)), va_Nw.of rfl (hts _ (by decide +kernel))⟩
  have C : Cx p s m c #[Value.ref bs] cL_law 7 wsL_law RL D (TY cI cO cL) := ⟨⟨hx, hb, hml, hown, fun w hw => hts w (wsL_law_in w hw)⟩, hK, hN⟩
  have G : Wd (fun q : Nat => s.heap.size ≤ q) s.heap D [] s.heap [] := ⟨fun k q h => by simp at h, ⟨fun i j p q h => by simp at h, fun k q h => by simp at h⟩, va_S.rf⟩
  have hl := lv_entry ([.ref bs]) (n := 7) (Nat.le_of_ble_eq_true rfl)
  rw [lg_entry_eq]
  generalize (lg_sl ([.ref bs]) ++ List.replicate (7 - (lg_sl ([.ref bs])).length) Slot.unset).toArray = ls at hl ⊢
  have hl : lv_has ls 7 [(0, .ref bs)] := hl
  refine r_new (ci := 5) (fs := [.null, .null, .null, .null, .null, .int (nI (0)), .int (nI (0)), .int (nI (0))]) C G hA inlX6 tyX6_ok (by decide +kernel) (by decide +kernel) (by decide +kernel) rfl (by decide) (by decide) (by decide) dL_law_0 (fun x0 H G => ?_)
  refine lv_dup hx hb dL_law_3 rfl ?_
  refine r_av (ws := [(x0, .inr (5, [.null, .null, .null, .null, .null, .int (nI (0)), .int (nI (0)), .int (nI (0))]))]) G hA (r_rI (na := 0) (As := []) (rest := [.ref x0]) C G (c_X6_init l D cI cO cL x0) gL_law_X6_init rfl (by decide +kernel) (by decide +kernel) (by decide +kernel) rfl (by decide +kernel) ⟨Nat.le_of_ble_eq_true rfl, Nat.le_of_ble_eq_true rfl⟩ rfl hl.1 rfl (Nat.le_of_ble_eq_true rfl) dL_law_4 ⟨by decide, by decide⟩) (fun w H locs hp G => ?_)
  obtain ⟨a, rfl, rfl⟩ := hp
  refine lv_astore_n (lv' := [(1, .ref (a 0)), (0, .ref bs)]) hx hb dL_law_7 rfl hl (by decide) rfl (fun ls hl => ?_)
  refine r_new (ci := 6) (fs := [.int (nI (0)), .long (0), .long (0), .int (nI (0)), .null, .null, .null, .null, .null, .null, .null, .int (nI (0)), .int (nI (0)), .int (nI (0)), .int (nI (0)), .null, .null, .null, .null, .null, .null, .int (nI (0)), .int (nI (0)), .int (nI (0)), .int (nI (0)), .int (nI (0)), .int (nI (0)), .int (nI (0)), .null, .null]) C G hA inlX7 tyX7_ok (by decide +kernel) (by decide +kernel) (by decide +kernel) rfl (by decide) (by decide) (by decide) dL_law_8 (fun y0 H G => ?_)
  refine lv_dup hx hb dL_law_11 rfl ?_
  have G := G.comm
  refine r_avL G hA (r_rI (na := 0) (As := []) (rest := [.ref y0]) C G.left (c_X7_init l D cI cO cL y0) gL_law_X7_init rfl (by decide +kernel) (by decide +kernel) (by decide +kernel) rfl (by decide +kernel) ⟨Nat.le_of_ble_eq_true rfl, Nat.le_of_ble_eq_true rfl⟩ rfl hl.1 rfl (Nat.le_of_ble_eq_true rfl) dL_law_12 ⟨by decide, by decide⟩) (fun w H locs hp G => ?_)
  obtain ⟨b, rfl, rfl⟩ := hp
  refine lv_astore_n (lv' := [(2, .ref (b 0)), (1, .ref (a 0)), (0, .ref bs)]) hx hb dL_law_15 rfl hl (by decide) rfl (fun ls hl => ?_)
  refine lv_iconst (v := nI 1) hx hb dL_law_16 (by decide) ?_
  refine r_newl (n := 1) C G hA 2 rfl (by decide +kernel) (by decide) (by decide) (by decide) dL_law_17 (fun lo H G => ?_)
  have G := (G.eq (List.append_assoc _ _ _)).swap
  refine lv_astore_n (lv' := [(3, .ref lo), (2, .ref (b 0)), (1, .ref (a 0)), (0, .ref bs)]) hx hb dL_law_19 rfl hl (by decide) rfl (fun ls hl => ?_)
  refine lv_iconst (v := nI 0) hx hb dL_law_20 (by decide) ?_
  refine lv_istore (lv' := [(4, .int (nI 0)), (3, .ref lo), (2, .ref (b 0)), (1, .ref (a 0)), (0, .ref bs)]) hx hb dL_law_21 hl (by decide) rfl (fun ls hl => ?_)
  refine W.widen (k := 40 + 3 * 0) (n := 102000 + 1700 * 0) (by decide) (by decide) ?_
  exact law_loop l hst hL C0 C hXF (L + 1) 0 0 _ _ _ _ _ ls rfl (Nat.zero_le _) (by omega) ⟨_, _, _, _, _, _, _, _, _, _, _, _, _, _, rfl, rfl, Rel0⟩ G (lv_sub hl [4, 3, 2, 1, 0] rfl)
