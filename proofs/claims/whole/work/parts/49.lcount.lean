set_option maxRecDepth 20000 in
theorem ggL_count_X6_count : GoodIn wsL_count wsX6_count := goodIn_ca (goodIn_r _ [6, 7, 8, 9, 10, 11, 12, 13, 14, 15, 16, 17, 18, 19, 20, 21, 22, 23, 24, 25, 26, 27, 28, 29, 30, 31, 32, 33, 34] (by decide +kernel) (by decide +kernel)) (goodIn_sub (fun _ h => List.mem_cons_of_mem _ (List.mem_append_right _ h)) (by decide +kernel))
set_option maxRecDepth 20000 in
theorem gL_count_X6_count : GoodIn wsL_count (wsV RL 7 RX6 yX6_count wsX6_count) := goodIn_app (goodIn_of _ (by decide +kernel)) ggL_count_X6_count
theorem dL_count_0 : decode cL_count 0 = .ok (.aload_n 1, 1) := by decide +kernel
theorem dL_count_1 : decode cL_count 1 = .ok (.iconst 0, 1) := by decide +kernel
theorem dL_count_2 : decode cL_count 2 = .ok (.aload_n 0, 1) := by decide +kernel
theorem dL_count_3 : decode cL_count 3 = .ok (.invokevirtual 7, 3) := by decide +kernel
theorem dL_count_6 : decode cL_count 6 = .ok (.i2l, 1) := by decide +kernel
theorem dL_count_7 : decode cL_count 7 = .ok (.lastore, 1) := by decide +kernel
theorem dL_count_8 : decode cL_count 8 = .ok (.goto 6, 3) := by decide +kernel
theorem dL_count_11 : decode cL_count 11 = .ok (.astore_n 2, 1) := by decide +kernel
theorem dL_count_12 : decode cL_count 12 = .ok (.iconst 1, 1) := by decide +kernel
theorem dL_count_13 : decode cL_count 13 = .ok (.ireturn, 1) := by decide +kernel
theorem dL_count_14 : decode cL_count 14 = .ok (.iconst 0, 1) := by decide +kernel
theorem dL_count_15 : decode cL_count 15 = .ok (.ireturn, 1) := by decide +kernel
theorem Met.ofWH {l : Launch} {y : MethodName} {ws ws' : List Cond} {rm : Room} {Pc : Array Value → State → Prop} {Qc : Array Value → State → Outcome → State → Prop} {mc ms : Nat} {free : Addr → Prop} {cc : ByteArray} {maxL : Nat} {ret : Option FieldType} {hh : List (Nat × Nat × Nat × Nat)}
    (hy : plainName y.cls = true) (hw : ws = Cond.codeWith y cc maxL ret hh :: ws')
    (body : ∀ p e s m args below meth c s₁, BodyLoose p l y (headSpec ws rm) cc maxL ret e s m args below meth c s₁ → c.maxLocals = maxL → Pc args s →
      W p l e (headSpec ws rm).room s m args below meth c s.heap [] 0 0 (MQ below Qc args s mc ms free) (entryFrame m args maxL)) : Met l y ws rm Pc Qc mc ms free := by
  refine MetFree.of_bodyS (code := cc) (maxLocals := maxL) (ret := ret) hy ?_ ?_
  · intro args s m h hn
    obtain ⟨m9, meth, c, hn9, h1, h2, h3, h4, -, h5, h6, -⟩ := Cond.codeWith_spec (atoms_spec (ws := ws) h _ (by rw [hw]; exact List.mem_cons_self))
    cases hn.symm.trans hn9
    exact ⟨meth, c, h1, h2, h3, h4, h5, h6⟩
  · intro p e s m args below meth c s₁ B hml hP _
    have hh0 : s₁.heap = s.heap := by rw [B.state]; rfl
    obtain ⟨t, a1, o, b1, b2, b3⟩ := body p e s m args below meth c s₁ B hml hP s₁ hh0 (Stand.of_body B)
    exact ⟨t, o, a1, b1, b2, b3⟩
abbrev lgW (cL : ClassId) (lo : Nat) (g : Nat → Int64) : va_W := [(lo, .inl (cL, 1, .inr (.inl g)))]
set_option maxHeartbeats 4000000 in
set_option maxRecDepth 100000 in
theorem c_L_count (l : Launch) (D : va_G) (cI cO cL : ClassId) (hst : l.stackTraces = false) (lo : Nat) (g : Nat → Int64) (a ca ia : Nat → Nat) (n : Nat) (O : Nat → Option Nat) (I : Nat → Nat) (J : Nat → Int64) (F : Nat → Nat → Nat) (E : Nat → Nat → Int32) (K : Nat → Nat → Nat) (G0 : Nat → Nat → Int32) (hn : I 3 ≤ 60) (h4 : I 4 ≤ 20) (h7 : I 7 ≤ 1) (sz : Nat) :
    Met l yL_count wsL_count { frames := 7, cells := 1, slots := 6, locals := 102 } (va_Pc [.ref (a 0), .ref lo] (PreX D (TY cI cO cL) (bW cI cO a ca ia n O I J F E K G0 ++ lgW cL lo g) sz)) (va_Qi (fun (r : Int32) (w : va_W) => (I 4 = 0 ∧ r = 1 ∧ w = bW cI cO a ca ia n O I J F E K G0 ++ lgW cL lo g) ∨ (I 4 ≠ 0 ∧ r = 0 ∧ ∃ g', g' 0 = lN (cnt (I 3) (I 4) (I 7)) ∧ w = bW cI cO a ca ia n O I J F E K G0 ++ lgW cL lo g')) (PostW D (TY cI cO cL) (bW cI cO a ca ia n O I J F E K G0 ++ lgW cL lo g) sz) (va_A (bW cI cO a ca ia n O I J F E K G0 ++ lgW cL lo g) sz)) 1 6 (va_A (bW cI cO a ca ia n O I J F E K G0 ++ lgW cL lo g) sz) := by
  refine Met.ofWH (cc := cL_count) (maxL := 3) (ret := some .int) (hh := [(0, 8, 11, 13)]) (by decide) rfl ?_
  intro p e s m args below meth c s₁ B hml hv
  obtain ⟨rfl, ⟨hsz, hP, hK, hD0, hN⟩, hX⟩ := hv
  subst hsz
  have hts := atoms_spec (ws := wsL_count) B.pre
  have htab := vx_table (x := yL_count) B (hts _ List.mem_cons_self)
  have hown : s.vm.findClass RL = some m.cls := findClass_of_methodNamed B.named
  have hD := hD0.self (sz := s.heap.size)
  obtain ⟨A, eA⟩ : ∃ A : Nat → Prop, A = va_A (bW cI cO a ca ia n O I J F E K G0 ++ lgW cL lo g) s.heap.size := ⟨_, rfl⟩
  have hA : ∀ q : Nat, s.heap.size ≤ q → A q := fun q h => by rw [eA]; exact Or.inr h
  have G : Wd A s.heap D (bW cI cO a ca ia n O I J F E K G0 ++ lgW cL lo g) s.heap [] := ⟨hP, by rw [eA]; exact hD, va_S.rf⟩
  have hx := B.exec
  have hb := B.bytes
  have C : Cx p s m c ([.ref (a 0), .ref lo] : List Value).toArray cL_count 3 wsL_count RL D (TY cI cO cL) := ⟨⟨hx, hb, hml, hown, hts⟩, hK, hN⟩
  rw [← eA] at hX ⊢
  rw [lg_entry_eq]
  have hl := lv_entry ([.ref (a 0), .ref lo]) (n := 3) (Nat.le_of_ble_eq_true rfl)
  generalize (lg_sl ([.ref (a 0), .ref lo]) ++ List.replicate (3 - (lg_sl ([.ref (a 0), .ref lo])).length) Slot.unset).toArray = ls at hl ⊢
  have hl : lv_has ls 3 [(0, .ref (a 0)), (1, .ref lo)] := hl
  refine lv_aload_n hx hb dL_count_0 rfl (lv_at hl 1 rfl) ?_
  refine lv_iconst (v := nI 0) hx hb dL_count_1 (by decide) ?_
  refine lv_aload_n hx hb dL_count_2 rfl (lv_at hl 0 rfl) ?_
  refine vx_calli (vx_runV (As := []) (rest := [.int (nI 0), .ref lo]) C.1 (c_X6_count l D cI cO cL hst a ca ia n O I J F E K G0 hn h4 h7 s.heap.size) (cwV 0 hts gL_count_X6_count rfl rfl rfl (by decide +kernel) ⟨Nat.le_of_ble_eq_true rfl, Nat.le_of_ble_eq_true rfl⟩) ⟨PreX.blind, va_recv hK G.left.1 (ci := 5) (q0 := 0) rfl rfl, fun U hU hW => ?_⟩ rfl rfl hl.1 rfl (lv_room (Nat.le_of_ble_eq_true rfl)) dL_count_3 ⟨Nat.le_of_ble_eq_true rfl, Nat.le_of_ble_eq_true rfl⟩) G.2.2 (fun q _ h => G.left.fr hA q h) (G.left.fr hA) (fun q _ h => G.left.fr hA q h) ?_ ?_
  · have h1 := G.left.pre C (av := [.ref (a 0)]) hU hW
    exact ⟨h1.1, h1.2, hX.to hW (fun q _ _ => by rw [hU]) (G.left.fr hA)⟩
  · intro E0 ce q9 u t H1 locs1 ht hvm hpx hB hz hk hS hcell hvm0 hcl
    obtain ⟨rfl, hB⟩ := hB
    obtain ⟨h40, rfl⟩ := hpx
    have G1 := G.step hA hk (by rw [← ht]; exact hB.1) hB.2.2 hS
    refine vx_catch hown [] ⟨0, 8, 11, 13⟩ [] htab (fun z hz => by cases hz) (by decide) (by decide) (hts (.classLink RL 13 "java/lang/ArithmeticException") (by decide +kernel)) (va_Nw.use rfl hX.2.2.2.2.2.2) hcell hvm0 hcl ?_
    refine lv_astore_n (lv' := [(2, .ref q9), (0, .ref (a 0)), (1, .ref lo)]) hx hb dL_count_11 rfl hl (by decide) rfl (fun ls hl => ?_)
    refine lv_iconst (v := 1) hx hb dL_count_12 (by decide) ?_
    refine W.widen (k := 1) (n := 6) (Nat.le_of_ble_eq_true rfl) (Nat.le_of_ble_eq_true rfl) ?_
    exact W.zret (ty := .int) B.exec B.bytes B.returns rfl (fun t ht hW => ⟨⟨1, _, rfl, Or.inl ⟨h40, rfl, rfl⟩, by rw [ht]; exact G1.1, va_K.moved hW.alike hK, by rw [← eA]; exact G1.2.1⟩, G1.2.2.F ht⟩) G1.2.2.2.2 dL_count_13 B.notSynchronized
  · intro r u t H1 locs1 ht hvm hp hB hz hk hS
    obtain ⟨h40, rfl, rfl⟩ := hp
    have G1 := (G.step hA hk (by rw [← ht]; exact hB.1) hB.2.2 hS).comm
    refine lv_i2l (v := lN (cnt (I 3) (I 4) (I 7))) hx hb dL_count_6 (nI_l (Nat.lt_of_le_of_lt (cnt_le (by omega) hn) (by omega))) ?_
    refine va_last hx hb hK G1.1 G1.2.1 G1.2.2 0 2 (cA := cL) (n := 1) (f := g) rfl rfl (vp_in_nI (by omega) (by omega)) dL_count_7 (fun H2 locs2 g1 g2 g3 => ?_)
    have G2 : Wd A s.heap D (lgW cL lo (vp_updL g (nI 0).toNatClampNeg (lN (cnt (I 3) (I 4) (I 7)))) ++ bW cI cO a ca ia n O I J F E K G0) H2 locs2 := ⟨g1, g2, g3⟩
    have G2 := G2.comm
    have e0 : vp_updL g (nI 0).toNatClampNeg (lN (cnt (I 3) (I 4) (I 7))) 0 = lN (cnt (I 3) (I 4) (I 7)) := by rw [nI_clamp (by omega)]; simp [vp_updL]
    refine lv_goto (tgt := 14) hx hb dL_count_8 (by decide) ?_
    refine lv_iconst (v := 0) hx hb dL_count_14 (by decide) ?_
    refine W.widen (k := 1) (n := 6) (Nat.le_of_ble_eq_true rfl) (Nat.le_of_ble_eq_true rfl) ?_
    exact W.zret (ty := .int) B.exec B.bytes B.returns rfl (fun t ht hW => ⟨⟨0, _, rfl, Or.inr ⟨h40, rfl, _, e0, rfl⟩, by rw [ht]; exact G2.1, va_K.moved hW.alike hK, by rw [← eA]; exact G2.2.1⟩, G2.2.2.F ht⟩) G2.2.2.2.2 dL_count_15 B.notSynchronized
