/-! two systems side by side: a call moves its own cells, the others stay -/
section
variable {D : va_G} {A : Nat → Prop} {H0 H H1 : Heap} {locs locs1 : List Loc} {wa wb w x y z : va_W}
theorem ap_l {k : Nat} {q : Nat × va_E} (h : wa[k]? = some q) : (wa ++ wb)[k]? = some q := by
  rw [List.getElem?_append_left (List.getElem?_eq_some_iff.mp h).1]; exact h
theorem ap_r {k : Nat} {q : Nat × va_E} (h : wb[k]? = some q) : (wa ++ wb)[wa.length + k]? = some q := ap_get k h
theorem ap_c {k : Nat} {q : Nat × va_E} (h : (wa ++ wb)[k]? = some q) : wa[k]? = some q ∨ ∃ j, wb[j]? = some q ∧ k = wa.length + j := by
  by_cases c : k < wa.length
  · rw [List.getElem?_append_left c] at h; exact Or.inl h
  · rw [List.getElem?_append_right (by omega)] at h; exact Or.inr ⟨k - wa.length, h, by omega⟩
theorem Wd.left (G : Wd A H0 D (wa ++ wb) H locs) : Wd A H0 D wa H locs := ⟨fun k q h => G.1 k q (ap_l h), ⟨fun i j p q h1 h2 e => G.2.1.1 i j p q (ap_l h1) (ap_l h2) e, fun k q h => G.2.1.2 k q (ap_l h)⟩, G.2.2⟩
theorem Wd.right (G : Wd A H0 D (wa ++ wb) H locs) : Wd A H0 D wb H locs := ⟨fun k q h => G.1 _ q (ap_r h), ⟨fun i j p q h1 h2 e => by have := G.2.1.1 _ _ p q (ap_r h1) (ap_r h2) e; omega, fun k q h => G.2.1.2 _ q (ap_r h)⟩, G.2.2⟩
theorem Wd.apart (G : Wd A H0 D (wa ++ wb) H locs) {i j : Nat} {p q : Nat × va_E} (h1 : wa[i]? = some p) (h2 : wb[j]? = some q) : p.1 ≠ q.1 := fun e => by
  have h3 := G.2.1.1 _ _ _ _ (ap_l h1) (ap_r h2) e
  have h4 := (List.getElem?_eq_some_iff.mp h1).1
  omega
theorem Wd.join (Ga : Wd A H0 D wa H locs) (Gb : Wd A H0 D wb H locs) (hx : ∀ (i j : Nat) (p q : Nat × va_E), wa[i]? = some p → wb[j]? = some q → p.1 ≠ q.1) : Wd A H0 D (wa ++ wb) H locs := ⟨Ga.1.app Gb.1, Ga.2.1.app Gb.2.1 hx, Ga.2.2⟩
theorem Wd.comm (G : Wd A H0 D (wa ++ wb) H locs) : Wd A H0 D (wb ++ wa) H locs := G.right.join G.left (fun _ _ _ _ h1 h2 e => G.apart h2 h1 e.symm)
theorem Wd.swap (G : Wd A H0 D (x ++ (y ++ z)) H locs) : Wd A H0 D (y ++ (x ++ z)) H locs :=
  G.right.left.join (G.left.join G.right.right (fun _ _ _ _ h1 h2 => G.apart h1 (ap_r h2))) (fun i j p q h1 h2 => by
    rcases ap_c h2 with h | ⟨j', h, _⟩
    · exact fun e => G.apart h (ap_l h1) e.symm
    · exact G.right.apart h1 h)
theorem Wd.step (G : Wd A H0 D (wa ++ wb) H locs) (hA : ∀ q : Nat, H0.size ≤ q → A q) (hk : ∀ q : Nat, q < H.size → ¬ va_A wa H.size q → H1[q]? = H[q]?) (hP : va_P D vwCl w H1) (hD : va_D (va_A wa H.size) w) (hS : va_S A H0 H1 locs1) : Wd A H0 D (w ++ wb) H1 locs1 := by
  have far : ∀ (j : Nat) (q : Nat × va_E), wb[j]? = some q → q.1 < H.size ∧ ¬ va_A wa H.size q.1 := fun j q h => by
    have h0 := (G.1 _ _ (ap_r h)).lt
    refine ⟨h0, ?_⟩
    rintro (⟨k, e, hk⟩ | h')
    · exact G.apart hk h rfl
    · omega
  exact ⟨hP.app (G.right.1.kept (fun k q h => hk _ (far k q h).1 (far k q h).2)), (hD.weaken (fun k q _ h => G.left.fr hA q.1 h)).app G.right.2.1 (fun i j p q h1 h2 e => (far j q h2).2 (e ▸ hD.2 i p h1)), hS⟩
end
section
variable {p : Program} {l : Launch} {e : Env} {R : Room} {s : State} {m : MethodId} {args : Array Value} {below : List Frame} {meth : Method} {c : Code} {H : Heap} {locs : List Loc} {cells slots : Nat} {Q : State → Prop}
variable {pc : Nat} {ls : Array Slot} {rest st0 : List Value} {D : va_G} {A : Nat → Prop} {tys : List (ClassId × FieldType)} {wa wb : va_W} {H0 : Heap}
theorem r_aiL {post : Int32 → va_W → Prop} {mc ms : Nat} {av : Array Value} (G : Wd A H0 D (wa ++ wb) H locs) (hA : ∀ q : Nat, H0.size ≤ q → A q) (hr : va_Run p l e R s m args below meth c H locs cells slots mc ms (F0 m pc ls st0) rest (va_Qi post (PostW D tys wa H.size) (va_A wa H.size) av) (va_A wa H.size))
    (kk : ∀ (r : Int32) (w : va_W) (H1 : Heap) (locs1 : List Loc), post r w → Wd A H0 D (w ++ wb) H1 locs1 → W p l e R s m args below meth c H1 locs1 (cells + mc) (slots + ms) Q (F0 m (pc + 3) ls (.int r :: rest))) : W p l e R s m args below meth c H locs cells slots Q (F0 m pc ls st0) :=
  va_calli hr G.2.2 (fun q _ h => G.left.fr hA q h) (G.left.fr hA) (fun r w t H1 locs1 ht hvm hp hB hz hk hS => kk r w H1 locs1 hp (G.step hA hk (by rw [← ht]; exact hB.1) hB.2.2 hS))
theorem r_alL {post : Int64 → va_W → Prop} {mc ms : Nat} {av : Array Value} (G : Wd A H0 D (wa ++ wb) H locs) (hA : ∀ q : Nat, H0.size ≤ q → A q) (hr : va_Run p l e R s m args below meth c H locs cells slots mc ms (F0 m pc ls st0) rest (va_Ql post (PostW D tys wa H.size) (va_A wa H.size) av) (va_A wa H.size))
    (kk : ∀ (r : Int64) (w : va_W) (H1 : Heap) (locs1 : List Loc), post r w → Wd A H0 D (w ++ wb) H1 locs1 → W p l e R s m args below meth c H1 locs1 (cells + mc) (slots + ms) Q (F0 m (pc + 3) ls (.long r :: rest))) : W p l e R s m args below meth c H locs cells slots Q (F0 m pc ls st0) :=
  va_calll hr G.2.2 (fun q _ h => G.left.fr hA q h) (G.left.fr hA) (fun r w t H1 locs1 ht hvm hp hB hz hk hS => kk r w H1 locs1 hp (G.step hA hk (by rw [← ht]; exact hB.1) hB.2.2 hS))
theorem r_avL {post : va_W → Prop} {mc ms : Nat} {av : Array Value} (G : Wd A H0 D (wa ++ wb) H locs) (hA : ∀ q : Nat, H0.size ≤ q → A q) (hr : va_Run p l e R s m args below meth c H locs cells slots mc ms (F0 m pc ls st0) rest (va_Qv post (PostW D tys wa H.size) (va_A wa H.size) av) (va_A wa H.size))
    (kk : ∀ (w : va_W) (H1 : Heap) (locs1 : List Loc), post w → Wd A H0 D (w ++ wb) H1 locs1 → W p l e R s m args below meth c H1 locs1 (cells + mc) (slots + ms) Q (F0 m (pc + 3) ls rest)) : W p l e R s m args below meth c H locs cells slots Q (F0 m pc ls st0) :=
  va_callv hr G.2.2 (fun q _ h => G.left.fr hA q h) (G.left.fr hA) (fun w t H1 locs1 ht hvm hp hB hz hk hS => kk w H1 locs1 hp (G.step hA hk (by rw [← ht]; exact hB.1) hB.2.2 hS))
end
/-! what the throw of COUNT stands on -/
def AE : String := "java/lang/ArithmeticException"
def iS (X : String) : MethodName := ⟨X, "<init>", "(Ljava/lang/String;)V"⟩
def XF (P : Nat → Prop) (U : State) : Prop := vx_Zq Bundle.tN "UNASSIGNED_STACK" Bundle.steD P U U.heap ∧ vx_Zq Bundle.tN "SUPPRESSED_SENTINEL" Bundle.listD P U U.heap ∧ (∃ sa, vk_R RX6 138 "SIZE is 0" sa U) ∧ va_Nw (.declares (iS "java/lang/RuntimeException")) U ∧ va_Nw (.declares (iS "java/lang/Exception")) U ∧ va_Nw (.declares (iS "java/lang/Throwable")) U ∧ va_Nw (.castable "java/lang/ArithmeticException" "java/lang/ArithmeticException") U
theorem XF.to {P B : Nat → Prop} {s U : State} (h : XF P s) (hW : s.WarmedH U.vm) (hk : ∀ a : Nat, a < s.heap.size → ¬ P a → U.heap[a]? = s.heap[a]?) (hn : ∀ q, B q → P q) : XF B U := by
  obtain ⟨h1, h2, ⟨sa, h3⟩, h4, h5, h6, h7⟩ := h
  exact ⟨vx_Zq.moved hW.alike ((h1.kept hk).narrow hn), vx_Zq.moved hW.alike ((h2.kept hk).narrow hn), ⟨sa, vk_R.warm hW h3⟩, va_Nw.warmD hW h4, va_Nw.warmD hW h5, va_Nw.warmD hW h6, va_Nw.warmC hW h7⟩
theorem XF.same {P : Nat → Prop} {u U : State} (hv : u.vm = U.vm) (hh : u.heap = U.heap) (h : XF P u) : XF P U := by
  obtain ⟨h1, h2, ⟨sa, h3⟩, h4, h5, h6, h7⟩ := h
  have ha : u.vm.Alike U.vm := by rw [hv]; exact Vm.Alike.refl _
  exact ⟨by rw [← hh]; exact vx_Zq.moved ha h1, by rw [← hh]; exact vx_Zq.moved ha h2, ⟨sa, vk_R.same hv.symm h3⟩, va_Nw.same rfl hv h4, va_Nw.same rfl hv h5, va_Nw.same rfl hv h6, va_Nw.same rfl hv h7⟩
def PreX (D : va_G) (tys : List (ClassId × FieldType)) (ws : va_W) (sz : Nat) (U : State) : Prop := PreW D tys ws sz U ∧ XF (va_A ws sz) U
theorem PreX.blind {D : va_G} {tys : List (ClassId × FieldType)} {av : List Value} {ws : va_W} {sz : Nat} : FrameBlind (va_Pc av (PreX D tys ws sz)) := fun a U g mk q => by
  obtain ⟨q0, ⟨q1, qP, qK, qD, qN⟩, qX⟩ := q
  exact ⟨q0, ⟨q1, qP, va_K.moved (u := U) (U := U.calling g mk a) (Vm.Alike.refl U.vm) qK, qD, NW.same (u := U) (U := U.calling g mk a) rfl qN⟩, XF.same (u := U) (U := U.calling g mk a) rfl rfl qX⟩
/-- COUNT: an answer, or the throw -/
def KiX (l : Launch) (y : MethodName) (wds : List Cond) (rm : Room) (D : va_G) (tys : List (ClassId × FieldType)) (av : List Value) (ws : va_W) (post : Int32 → va_W → Prop) (px : va_W → Prop) : Prop := ∀ sz : Nat, vx_Met l y wds rm (va_Pc av (PreX D tys ws sz)) (va_Qi post (PostW D tys ws sz) (va_A ws sz)) (vx_X px (fun E w t => E = AE ∧ PostW D tys ws sz w t) (va_A ws sz)) rm.cells rm.slots (va_A ws sz)
theorem atS_bad : ∀ w ∈ (vx_atS RX6 140 "java/lang/ArithmeticException" ["java/lang/RuntimeException", "java/lang/Exception"]).filter (fun w => !goodWord w), w ∈ ([.declares (iS "java/lang/RuntimeException"), .declares (iS "java/lang/Exception"), .declares (iS "java/lang/Throwable"), .castable "java/lang/ArithmeticException" "java/lang/ArithmeticException"] : List Cond) := by decide +kernel
theorem atS_ot : ∀ w ∈ Cond.classLink RX6 136 "java/lang/ArithmeticException" :: Cond.initialized "java/lang/ArithmeticException" :: vx_atS RX6 140 "java/lang/ArithmeticException" ["java/lang/RuntimeException", "java/lang/Exception"], vx_ot w = true := by decide +kernel
theorem fit2 : ∀ n ∈ ["java/lang/RuntimeException", "java/lang/Exception"], Bundle.fit n = true := by decide +kernel
theorem KiX.mk {l : Launch} {rm : Room} {D : va_G} {tys : List (ClassId × FieldType)} {av : List Value} {ws : va_W} {post : Int32 → va_W → Prop} {px : va_W → Prop} (hst : l.stackTraces = false) (hfr : 5 < rm.frames) (hlo : 82 ≤ rm.locals) (hlen : (lg_sl av).length ≤ 1)
    (body : ∀ (p : Program) (e : Env) (s : State) (m : MethodId) (below : List Frame) (meth : Method) (c : Code) (A : Nat → Prop) (Q : State → Prop) (ls : Array Slot), Cx p s m c av.toArray cX6_count 1 wsX6_count RX6 D tys → meth.name = yX6_count.name → (∀ q : Nat, s.heap.size ≤ q → A q) → Wd A s.heap D ws s.heap [] → lv_has ls 1 (lv_args 0 av) → RETi p l e rm s m av.toArray below meth c A D cX6_count .int post Q →
      (∀ (w : va_W) (H : Heap) (locs : List Loc) (ls : Array Slot) (cells slots : Nat), px w → Wd A s.heap D w H locs → ls.size = 1 → cells + 1 ≤ rm.cells → slots + 6 ≤ rm.slots → W p l e rm s m av.toArray below meth c H locs cells slots Q (F0 m 10 ls [])) →
      W p l e rm s m av.toArray below meth c s.heap [] 0 0 Q (F0 m 0 ls [])) : KiX l yX6_count wsX6_count rm D tys av ws post px := by
  intro sz
  refine vx_ofW (cc := cX6_count) (maxL := 1) (ret := some .int) (by decide) rfl ?_
  intro p e s m args below meth c s₁ B hml hout hv
  obtain ⟨rfl, ⟨hsz, hP, hK, hD0, hN⟩, hX⟩ := hv
  subst hsz
  have hts := atoms_spec (ws := wsX6_count) B.pre
  have hown : s.vm.findClass RX6 = some m.cls := findClass_of_methodNamed B.named
  have hD := hD0.self (sz := s.heap.size)
  rw [lg_entry_eq]
  refine body p e s m below meth c (va_A ws s.heap.size) _ _ ⟨⟨B.exec, B.bytes, hml, hown, hts⟩, hK, hN⟩ (name_of_methodNamed B.named B.method).1 (fun q h => Or.inr h) ⟨hP, hD, va_S.rf⟩ (lv_entry av hlen) ?_ ?_
  · intro v w H locs ls pc cells slots hp G h1 h2 hn hdg
    refine W.widen h1 h2 ?_
    refine vx_ret ?_
    exact W.zret (ty := .int) B.exec B.bytes B.returns hn (fun t ht hW => ⟨⟨v, w, rfl, hp, by rw [ht]; exact G.1, va_K.moved hW.alike hK, G.2.1⟩, G.2.2.F ht⟩) G.2.2.2.2 hdg B.notSynchronized
  · intro w H locs ls cells slots hp G hls h1 h2
    obtain ⟨x1, x2, ⟨sa, x3⟩, x4, x5, x6, x7⟩ := hX
    refine vx_throwS (cls := "java/lang/ArithmeticException") (names := ["java/lang/RuntimeException", "java/lang/Exception"]) (A := va_A ws s.heap.size) (ik := 136) (is := 138) (ic := 140) B.exec B.bytes hst hown (by decide +kernel) fit2 (hts _ (by decide +kernel)) (hts _ (by decide +kernel)) x3 ?_ atS_ot x1 x2 G.2.2 (hls.trans hml.symm) dX6_count_10 dX6_count_13 dX6_count_14 dX6_count_16 dX6_count_19 (fun x hx => absurd (hout x hx) not_false) hfr (by simpa using hlo) h1 h2 B.notSynchronized ?_ G.2.2.2.2 h1 h2
    · refine vx_hat (fun w hw => hts w ?_) atS_bad (vx_c (va_Nw.use rfl x4) (vx_c (va_Nw.use rfl x5) (vx_c (va_Nw.use rfl x6) (vx_c (va_Nw.use rfl x7) vx_n))))
      exact List.mem_cons_of_mem _ (List.mem_append_right _ hw)
    · intro t hal hsz hk
      exact ⟨w, hp, ⟨rfl, G.1.kept (fun k q hq => hk _ (G.1 k q hq).lt), va_K.moved hal hK, G.2.1⟩, Nat.le_trans G.2.2.1 hsz, fun q hq hn => (hk q (Nat.lt_of_lt_of_le hq G.2.2.1)).trans (G.2.2.2.1 q hq hn)⟩
set_option maxHeartbeats 4000000 in
set_option maxRecDepth 100000 in
theorem c_X6_count (l : Launch) (D : va_G) (cI cO cL : ClassId) (hst : l.stackTraces = false) (a ca ia : Nat → Nat) (n : Nat) (O : Nat → Option Nat) (I : Nat → Nat) (J : Nat → Int64) (F : Nat → Nat → Nat) (E : Nat → Nat → Int32) (K : Nat → Nat → Nat) (G0 : Nat → Nat → Int32) (hn : I 3 ≤ 60) (h4 : I 4 ≤ 20) (h7 : I 7 ≤ 1) : KiX l yX6_count wsX6_count { frames := 6, cells := 1, slots := 6, locals := 82 } D (TY cI cO cL) [.ref (a 0)] (bW cI cO a ca ia n O I J F E K G0) (fun r w => I 4 ≠ 0 ∧ r = nI (cnt (I 3) (I 4) (I 7)) ∧ w = bW cI cO a ca ia n O I J F E K G0) (fun w => I 4 = 0 ∧ w = bW cI cO a ca ia n O I J F E K G0) := by
  refine KiX.mk hst (by decide) (by decide) (Nat.le_of_ble_eq_true rfl) ?_
  intro p e s m below meth c A Q ls C hname hA G hl RET THR
  obtain ⟨⟨hx, hb, hml, hown, hts⟩, hK, hN⟩ := id C
  have hl : lv_has ls 1 [(0, .ref (a 0))] := hl
  have hX4 : ∀ w ∈ u_ws RX4 TX4 4, w ∈ wsX6_count := by decide +kernel
  have hX5 : ∀ w ∈ u_ws RX5 TX5 5, w ∈ wsX6_count := by decide +kernel
  have hX6 : ∀ w ∈ u_ws RX6 TX6 8, w ∈ wsX6_count := by decide +kernel
  refine lv_aload_n hx hb dX6_count_0 rfl (lv_at hl 0 rfl) ?_
  refine r_get (v := .ref (a 2)) C G hX6 0 rfl rfl 1 (by decide) (by decide +kernel) rfl dX6_count_1 ?_
  refine r_getN (v := .int (nI (I 4))) C G hX5 2 rfl rfl 1 (by decide) (by decide +kernel) rfl dX6_count_4 ?_
  refine lv_if_ne (tgt := 20) hx hb dX6_count_7 (by decide) (fun c7 => ?_) (fun c7 => ?_)
  · skip
    replace c7 : ¬ ((I 4 : Nat) : Int) = (0) := fun h => c7 ((cv_eq (nI_toInt (by omega)) (by decide)).mpr h)
    refine lv_aload_n hx hb dX6_count_20 rfl (lv_at hl 0 rfl) ?_
    refine r_get (v := .ref (a 2)) C G hX6 0 rfl rfl 1 (by decide) (by decide +kernel) rfl dX6_count_21 ?_
    refine lv_aload_n hx hb dX6_count_24 rfl (lv_at hl 0 rfl) ?_
    refine r_get (v := .ref (a 1)) C G hX6 0 rfl rfl 0 (by decide) (by decide +kernel) rfl dX6_count_25 ?_
    refine r_getN (v := .int (nI (I 3))) C G hX4 1 rfl rfl 3 (by decide) (by decide +kernel) rfl dX6_count_28 ?_
    refine r_ai G hA (r_rV (na := 1) (As := [.int (nI (I 3))]) (rest := []) C G (c_X5_batchesOf l D cI cO cL a ca ia n O I J F E K G0 (I 3) (by omega) h4 h7) gX6_count_X5_batchesOf rfl (by decide +kernel) ⟨Nat.le_of_ble_eq_true rfl, Nat.le_of_ble_eq_true rfl⟩ 2 rfl rfl rfl hl.1 rfl (Nat.le_of_ble_eq_true rfl) dX6_count_31 ⟨by first | (simp only []; omega) | decide, by first | (simp only []; omega) | decide⟩) (fun r31 w31 H locs hp31 G => ?_)
    obtain ⟨er31, rfl⟩ := hp31
    rw [if_neg (show ¬ I 4 = 0 by omega)] at er31; subst er31
    refine r_top (y := nI (cnt (I 3) (I 4) (I 7))) rfl ?_
    exact RET (nI (cnt (I 3) (I 4) (I 7))) (bW cI cO a ca ia n O I J F E K G0) _ _ ls _ _ _ (⟨by omega, rfl, rfl⟩) G (by first | (simp only []; omega) | decide) (by first | (simp only []; omega) | decide) rfl dX6_count_34
  · skip
    replace c7 : ((I 4 : Nat) : Int) = (0) := (cv_eq (nI_toInt (by omega)) (by decide)).mp c7
    exact THR _ _ _ ls _ _ ⟨by omega, rfl⟩ G hl.1 (by first | (simp only []; omega) | decide) (by first | (simp only []; omega) | decide)
