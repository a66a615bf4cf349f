/-! THE CLAIM OUT OF ONE WALK OF THE LAW'S BODY. Your part is whole_start (and what it stands on); all else here is the same for every law, but numbers. -/
def R_law : String := "BatchOrderLaw"
def lw_P (b : Addr) (xs : List Int32) (args : Array Value) (s : State) : Prop := args = #[.ref b] ∧ s.IntsAt b xs ∧ xs.length ≤ 3584 ∧ (Jvm.Cond.and given_1 narrow_1).before args s = true
def lw_Q (_ : Array Value) (s : State) (o : Outcome) (t : State) : Prop := o = .returned (some (.int 1)) ∧ Framed s o t [] 601024 7293034
def lw_Z (below : List Frame) (a : Array Value) (s : State) : State → Prop := fun t => ∃ o, t.status = .running ∧ Ended t below o ∧ lw_Q a s o t
/-- the law's own end, with 1 on the stack, nothing written that was there before, its room as the claim has it -/
theorem lw_ret {p : Program} {l : Launch} {e : Env} {s : State} {m : MethodId} {below : List Frame} {meth : Method} {c : Code} {b : Nat} (hx : p.tables.exec = Jvm.exec) (hb : c.code = code) (hr : meth.sig.returnType = ret) (hlocks : meth.locks = false) {pc : Nat} {H : Heap} {ls : Array Slot} (hdg : decode code pc = .ok (.ireturn, 1)) : W p l e room_1 s m #[Value.ref b] below meth c H [] 601024 7293034 (lw_Z below #[Value.ref b] s) (F0 m pc ls [.int 1]) := by
  intro T hT X
  obtain ⟨fs, hret, hrun, hended, hW, hframe⟩ := X.leave (v := some (.int 1)) (hlocks := hlocks) (fun h => by rw [hr] at h; cases h)
  have hmeth' : T.vm.method? m = some meth := X.method'
  refine ⟨T.setFrames fs, ?_, .returned (some (.int 1)), hrun, hended, rfl, ⟨_, rfl⟩, hW, hframe⟩
  jvm_step X.here [X.here.top, hx, hb, hdg, hmeth', hr, ret, narrow_b1]
  (try refine ⟨rfl, ?_⟩); (try refine ⟨rfl, ?_⟩)
  first | (intro acts; rw [hret _ acts rfl rfl rfl]) | rw [hret _ _ rfl rfl rfl]
  exact Steps.refl _
/-- what holds at the law's entry: the machine, the code, the tables' words (any of lw_tbl by 'hts w (by decide +kernel)'), the script of L ints xs at the cell b, what the Statement gives of the start (any of its parts by flat_of_before) -/
def lw_At (p : Program) (s : State) (m : MethodId) (meth : Method) (c : Code) (b L : Nat) (xs : Nat → Int32) : Prop :=
  p.tables.exec = Jvm.exec ∧ c.code = code ∧ meth.sig.returnType = ret ∧ c.maxLocals = 7 ∧ s.vm.findClass R_law = some m.cls ∧ (∀ w ∈ lw_tbl, w.before #[Value.ref b] s = true) ∧ va_X b L xs s s.heap ∧ b < s.heap.size ∧ meth.locks = false ∧ (Jvm.Cond.and given_1 narrow_1).before #[Value.ref b] s = true
set_option maxHeartbeats 4000000 in
set_option maxRecDepth 100000 in
theorem law_loop {p : Program} (l : Launch) {e : Env} {s : State} {m : MethodId} {below : List Frame} {meth : Method} {c : Code} {bs L lo : Nat} {xs : Nat → Int32} {D : va_G} {cI cO cL : ClassId} {a b : Nat → Nat} (hst : l.stackTraces = false) (hL : L ≤ 3584) (C0 : lw_At p s m meth c bs L xs) (C : Cx p s m c #[Value.ref bs] cL_law 7 wsL_law RL D (TY cI cO cL)) (hXF : XF (fun q : Nat => s.heap.size ≤ q) s) :
    ∀ (f t i : Nat) (w w' : va_W) (g : Nat → Int64) (H : Heap) (locs : List Loc) (ls : Array Slot), i = 7 * t → i ≤ L → L + 1 ≤ i + f → RelW cI cO a b w w' → Wd (fun q : Nat => s.heap.size ≤ q) s.heap D (w ++ (w' ++ lgW cL lo g)) H locs → lv_has ls 7 [(0, .ref bs), (1, .ref (a 0)), (2, .ref (b 0)), (3, .ref lo), (4, .int (nI i))] → W p l e room_1 s m #[Value.ref bs] below meth c H locs (40 + 3 * t) (102000 + 1700 * t) (lw_Z below #[Value.ref bs] s) (F0 m 23 ls []) := by
  obtain ⟨hx, hb, hr, hml, hown, hts, hX, hbl, hlocks, hgv⟩ := id C0
  have hA : ∀ q : Nat, s.heap.size ≤ q → (fun q : Nat => s.heap.size ≤ q) q := fun _ h => h
  have hbA : ¬ (fun q : Nat => s.heap.size ≤ q) bs := Nat.not_le.mpr hbl
  intro f
  induction f with
  | zero => intro t i w w' g H locs ls h1 h2 h3; exact absurd h3 (by omega)
  | succ f ih =>
    intro t i w w' g H locs ls ei hi hf hR G hl
    refine lv_iload hx hb dL_law_23 (lv_at hl 4 rfl) ?_
    refine lv_aload_n hx hb dL_law_25 rfl (lv_at hl 0 rfl) ?_
    refine va_slen hx hb hX hbl hbA G.2.2 dL_law_26 ?_
    refine lv_bipush (v := nI 7) hx hb dL_law_27 (by decide) ?_
    refine lv_isub hx hb dL_law_29 ?_
    refine lv_icmp_gt (tgt := 970) hx hb dL_law_30 (by decide) (fun _ => ?_) (fun cq => ?_)
    · refine lv_iconst (v := 1) hx hb dL_law_970 (by decide) ?_
      refine va_forget (fun q hq => G.2.2.2.2 q hq) ?_
      refine W.widen (k := 601024) (n := 7293034) (by omega) (by omega) ?_
      exact lw_ret hx hb hr hlocks dL_law_971
    · have hi7 : i + 7 ≤ L := by
        have z : ¬ ((L : Int) - ((7 : Nat) : Int) < (i : Int)) := fun q => cq ((cv_lt (pk_sub_toInt (a := L) (b := 7) (by omega) (by omega)) (nI_toInt (by omega))).mpr q)
        omega
      refine lv_aload_n hx hb dL_law_33 rfl (lv_at hl 0 rfl) ?_
      refine lv_iload hx hb dL_law_34 (lv_at hl 4 rfl) ?_
      refine r_sld C hX hbl hbA G (j := i) rfl (by omega) (by omega) dL_law_36 ?_
      refine lv_bipush (v := 31) hx hb dL_law_37 (by decide) ?_
      refine lv_iand hx hb dL_law_39 ?_
      generalize xs i &&& 31 = y
      have NEXT : ∀ (w1 w2 : va_W) (g' : Nat → Int64) (H1 : Heap) (locs1 : List Loc) (ls1 : Array Slot), RelW cI cO a b w1 w2 → Wd (fun q : Nat => s.heap.size ≤ q) s.heap D (w1 ++ (w2 ++ lgW cL lo g')) H1 locs1 → lv_has ls1 7 [(0, .ref bs), (1, .ref (a 0)), (2, .ref (b 0)), (3, .ref lo), (4, .int (nI i))] → W p l e room_1 s m #[Value.ref bs] below meth c H1 locs1 (40 + 3 * t + 3) (102000 + 1700 * t + 1700) (lw_Z below #[Value.ref bs] s) (F0 m 964 ls1 []) := by
        intro w1 w2 g' H1 locs1 ls1 hR G hl
        refine lv_iinc (v := nI (i + 7)) (lv' := [(4, .int (nI (i + 7))), (0, .ref bs), (1, .ref (a 0)), (2, .ref (b 0)), (3, .ref lo)]) hx hb dL_law_964 hl (k := 4) rfl (inc_n _ 7) (by decide) rfl (fun ls hl => ?_)
        refine lv_goto (tgt := 23) hx hb dL_law_967 (by decide) ?_
        refine W.widen (k := 40 + 3 * (t + 1)) (n := 102000 + 1700 * (t + 1)) (by omega) (by omega) ?_
        exact ih (t + 1) (i + 7) w1 w2 g' H1 locs1 ls (by omega) (by omega) (by omega) hR G (lv_sub hl [1, 2, 3, 4, 0] rfl)
      by_cases k0 : y = nI 0
      · refine r_top (y := nI 0) k0 ?_
        refine lv_tableIn (off := (88)) (tgt := 128) hx hb dL_law_40 (by decide) (by decide) (by decide) (by decide) ?_
        exact law_row l C hA hX hbl hbA hL i hi7 (by omega) (by omega) hR G hl NEXT
      by_cases k1 : y = nI 1
      · refine r_top (y := nI 1) k1 ?_
        refine lv_tableIn (off := (137)) (tgt := 177) hx hb dL_law_40 (by decide) (by decide) (by decide) (by decide) ?_
        exact law_picture l C hA hX hbl hbA hL i hi7 (by omega) (by omega) hR G hl NEXT
      by_cases k2 : y = nI 2
      · refine r_top (y := nI 2) k2 ?_
        refine lv_tableIn (off := (198)) (tgt := 238) hx hb dL_law_40 (by decide) (by decide) (by decide) (by decide) ?_
        exact law_word l C hA hX hbl hbA hL i hi7 (by omega) (by omega) hR G hl NEXT
      by_cases k3 : y = nI 3
      · refine r_top (y := nI 3) k3 ?_
        refine lv_tableIn (off := (235)) (tgt := 275) hx hb dL_law_40 (by decide) (by decide) (by decide) (by decide) ?_
        exact law_paint l C hA hX hbl hbA hL i hi7 (by omega) (by omega) hR G hl NEXT
      by_cases k4 : y = nI 4
      · refine r_top (y := nI 4) k4 ?_
        refine lv_tableIn (off := (316)) (tgt := 356) hx hb dL_law_40 (by decide) (by decide) (by decide) (by decide) ?_
        exact law_mark l C hA hX hbl hbA hL i hi7 (by omega) (by omega) hR G hl NEXT
      by_cases k5 : y = nI 5
      · refine r_top (y := nI 5) k5 ?_
        refine lv_tableIn (off := (365)) (tgt := 405) hx hb dL_law_40 (by decide) (by decide) (by decide) (by decide) ?_
        exact law_of l C hA hX hbl hbA hL i hi7 (by omega) (by omega) hR G hl NEXT
      by_cases k6 : y = nI 6
      · refine r_top (y := nI 6) k6 ?_
        refine lv_tableIn (off := (402)) (tgt := 442) hx hb dL_law_40 (by decide) (by decide) (by decide) (by decide) ?_
        exact law_seed l C hA hX hbl hbA hL i hi7 (by omega) (by omega) hR G hl NEXT
      by_cases k7 : y = nI 7
      · refine r_top (y := nI 7) k7 ?_
        refine lv_tableIn (off := (460)) (tgt := 500) hx hb dL_law_40 (by decide) (by decide) (by decide) (by decide) ?_
        exact law_set l C hA hX hbl hbA hL i hi7 (by omega) (by omega) hR G hl NEXT
      by_cases k8 : y = nI 8
      · refine r_top (y := nI 8) k8 ?_
        refine lv_tableIn (off := (497)) (tgt := 537) hx hb dL_law_40 (by decide) (by decide) (by decide) (by decide) ?_
        exact law_count l hst hXF C hA hX hbl hbA hL i hi7 (by omega) (by omega) hR G hl NEXT
      by_cases k9 : y = nI 9
      · refine r_top (y := nI 9) k9 ?_
        refine lv_tableIn (off := (541)) (tgt := 581) hx hb dL_law_40 (by decide) (by decide) (by decide) (by decide) ?_
        exact law_batch l C hA hX hbl hbA hL i hi7 (by omega) (by omega) hR G hl NEXT
      by_cases k10 : y = nI 10
      · refine r_top (y := nI 10) k10 ?_
        refine lv_tableIn (off := (602)) (tgt := 642) hx hb dL_law_40 (by decide) (by decide) (by decide) (by decide) ?_
        exact law_share l C hA hX hbl hbA hL i hi7 (by omega) (by omega) hR G hl NEXT
      by_cases k11 : y = nI 11
      · refine r_top (y := nI 11) k11 ?_
        refine lv_tableIn (off := (689)) (tgt := 729) hx hb dL_law_40 (by decide) (by decide) (by decide) (by decide) ?_
        exact law_once l C hA hX hbl hbA hL i hi7 (by omega) (by omega) hR G hl NEXT
      by_cases k12 : y = nI 12
      · refine r_top (y := nI 12) k12 ?_
        refine lv_tableIn (off := (726)) (tgt := 766) hx hb dL_law_40 (by decide) (by decide) (by decide) (by decide) ?_
        exact law_resume l C hA hX hbl hbA hL i hi7 (by omega) (by omega) hR G hl NEXT
      by_cases k13 : y = nI 13
      · refine r_top (y := nI 13) k13 ?_
        refine lv_tableIn (off := (775)) (tgt := 815) hx hb dL_law_40 (by decide) (by decide) (by decide) (by decide) ?_
        exact law_next l C hA hX hbl hbA hL i hi7 (by omega) (by omega) hR G hl NEXT
      by_cases k14 : y = nI 14
      · refine r_top (y := nI 14) k14 ?_
        refine lv_tableIn (off := (788)) (tgt := 828) hx hb dL_law_40 (by decide) (by decide) (by decide) (by decide) ?_
        exact law_at l C hA hX hbl hbA hL i hi7 (by omega) (by omega) hR G hl NEXT
      by_cases k15 : y = nI 15
      · refine r_top (y := nI 15) k15 ?_
        refine lv_tableIn (off := (813)) (tgt := 853) hx hb dL_law_40 (by decide) (by decide) (by decide) (by decide) ?_
        exact law_act l C hA hX hbl hbA hL i hi7 (by omega) (by omega) hR G hl NEXT
      by_cases k16 : y = nI 16
      · refine r_top (y := nI 16) k16 ?_
        refine lv_tableIn (off := (874)) (tgt := 914) hx hb dL_law_40 (by decide) (by decide) (by decide) (by decide) ?_
        exact law_out l C hA hX hbl hbA hL i hi7 (by omega) (by omega) hR G hl NEXT
      by_cases k17 : y = nI 17
      · refine r_top (y := nI 17) k17 ?_
        refine lv_tableIn (off := (899)) (tgt := 939) hx hb dL_law_40 (by decide) (by decide) (by decide) (by decide) ?_
        exact law_like l C hA hX hbl hbA hL i hi7 (by omega) (by omega) hR G hl NEXT
      have ko : y.toInt < 0 ∨ 17 < y.toInt := by
        have z0 := lv_neT (a := (0)) k0 (by decide)
        have z1 := lv_neT (a := (1)) k1 (by decide)
        have z2 := lv_neT (a := (2)) k2 (by decide)
        have z3 := lv_neT (a := (3)) k3 (by decide)
        have z4 := lv_neT (a := (4)) k4 (by decide)
        have z5 := lv_neT (a := (5)) k5 (by decide)
        have z6 := lv_neT (a := (6)) k6 (by decide)
        have z7 := lv_neT (a := (7)) k7 (by decide)
        have z8 := lv_neT (a := (8)) k8 (by decide)
        have z9 := lv_neT (a := (9)) k9 (by decide)
        have z10 := lv_neT (a := (10)) k10 (by decide)
        have z11 := lv_neT (a := (11)) k11 (by decide)
        have z12 := lv_neT (a := (12)) k12 (by decide)
        have z13 := lv_neT (a := (13)) k13 (by decide)
        have z14 := lv_neT (a := (14)) k14 (by decide)
        have z15 := lv_neT (a := (15)) k15 (by decide)
        have z16 := lv_neT (a := (16)) k16 (by decide)
        have z17 := lv_neT (a := (17)) k17 (by decide)
        omega
      refine lv_tableOut (tgt := 964) hx hb dL_law_40 ko (by decide) ?_
      refine W.widen (k := 40 + 3 * t + 3) (n := 102000 + 1700 * t + 1700) (by omega) (by omega) ?_
      exact NEXT w w' g H locs ls hR G hl
