/-! base: one world a system; contracts over it; rows of our own over the kit's -/
def nwF : List (String × Nat × String × String × String) := [("BatchOrder$Order", 46, "BatchOrder$Rows", "many", "I"), ("BatchOrder", 143, "BatchOrder$Rows", "many", "I"), ("BatchOrder$Order", 79, "BatchOrder$Settings", "start", "J"), ("BatchOrder", 122, "BatchOrder$Settings", "start", "J"), ("BatchOrder", 133, "BatchOrder$Settings", "size", "I"), ("BatchOrder$Order", 98, "BatchOrder$Settings", "group", "I"), ("BatchOrder$Order", 132, "BatchOrder$Settings", "buffer", "I"), ("BatchOrder$Acts", 11, "BatchOrder$Content", "kind", "I"), ("BatchOrder", 80, "BatchOrder$Content", "kind", "I"), ("BatchOrder$Acts", 27, "BatchOrder$Content", "high", "I"), ("BatchOrder", 116, "BatchOrder$Content", "high", "I"), ("BatchOrder$Acts", 30, "BatchOrder$Content", "wide", "I"), ("BatchOrder", 119, "BatchOrder$Content", "wide", "I"), ("BatchOrder$Acts", 21, "BatchOrder$Content", "length", "I"), ("BatchOrder", 83, "BatchOrder$Content", "length", "I"), ("BatchOrder$Rows", 44, "BatchOrder$Content", "length", "I")]
def nwM : List (Nat × MethodName) := [(9, yX4_init), (18, yX5_init), (25, yX2_init)]
def NW (U : State) : Prop := (∀ t ∈ nwF, va_Nw (.fieldLinkNest t.1 t.2.1 t.2.2.1 t.2.2.2.1 t.2.2.2.2 "BatchOrder") U) ∧ (∀ t ∈ nwM, va_Nw (.methodLinkNest "BatchOrder" t.1 t.2 "BatchOrder") U) ∧ va_AO "BatchOrder$Content" U
theorem NW.warm {s U : State} (hW : s.WarmedH U.vm) (h : NW s) : NW U := ⟨fun t ht => va_Nw.warmF hW (h.1 t ht), fun t ht => va_Nw.warmM hW (h.2.1 t ht), va_AO.moved hW.alike h.2.2⟩
theorem NW.same {u U : State} (hv : u.vm = U.vm) (h : NW u) : NW U := ⟨fun t ht => va_Nw.same rfl hv (h.1 t ht), fun t ht => va_Nw.same rfl hv (h.2.1 t ht), va_AO.moved (by rw [hv]; exact Vm.Alike.refl _) h.2.2⟩
def Cx (p : Program) (s : State) (m : MethodId) (c : Code) (args : Array Value) (cc : ByteArray) (nL : Nat) (Ts : List Cond) (own : String) (D : va_G) (tys : List (ClassId × FieldType)) : Prop := CallFix p m c cc nL s args Ts own ∧ va_K D vwCl tys s ∧ NW s
def Wd (A : Nat → Prop) (H0 : Heap) (D : va_G) (ws : va_W) (H : Heap) (locs : List Loc) : Prop := va_P D vwCl ws H ∧ va_D A ws ∧ va_S A H0 H locs
def PreW (D : va_G) (tys : List (ClassId × FieldType)) (ws : va_W) (sz : Nat) (U : State) : Prop := U.heap.size = sz ∧ va_P D vwCl ws U.heap ∧ va_K D vwCl tys U ∧ va_D (fun _ => True) ws ∧ NW U
def PostW (D : va_G) (tys : List (ClassId × FieldType)) (ws : va_W) (sz : Nat) (w : va_W) (t : State) : Prop := va_P D vwCl w t.heap ∧ va_K D vwCl tys t ∧ va_D (va_A ws sz) w
def Ki (l : Launch) (y : MethodName) (wds : List Cond) (rm : Room) (D : va_G) (tys : List (ClassId × FieldType)) (av : List Value) (ws : va_W) (post : Int32 → va_W → Prop) : Prop := ∀ sz : Nat, Met l y wds rm (va_Pc av (PreW D tys ws sz)) (va_Qi post (PostW D tys ws sz) (va_A ws sz)) rm.cells rm.slots (va_A ws sz)
def Kl (l : Launch) (y : MethodName) (wds : List Cond) (rm : Room) (D : va_G) (tys : List (ClassId × FieldType)) (av : List Value) (ws : va_W) (post : Int64 → va_W → Prop) : Prop := ∀ sz : Nat, Met l y wds rm (va_Pc av (PreW D tys ws sz)) (va_Ql post (PostW D tys ws sz) (va_A ws sz)) rm.cells rm.slots (va_A ws sz)
def Kv (l : Launch) (y : MethodName) (wds : List Cond) (rm : Room) (D : va_G) (tys : List (ClassId × FieldType)) (av : List Value) (ws : va_W) (post : va_W → Prop) : Prop := ∀ sz : Nat, Met l y wds rm (va_Pc av (PreW D tys ws sz)) (va_Qv post (PostW D tys ws sz) (va_A ws sz)) rm.cells rm.slots (va_A ws sz)
def Kq (l : Launch) (y : MethodName) (wds : List Cond) (rm : Room) (D : va_G) (tys : List (ClassId × FieldType)) (av : List Value) (ws : va_W) (post : Option Nat → va_W → Prop) : Prop := ∀ sz : Nat, Met l y wds rm (va_Pc av (PreW D tys ws sz)) (va_Qq post (PostW D tys ws sz) (va_A ws sz)) rm.cells rm.slots (va_A ws sz)
theorem PreW.blind {D : va_G} {tys : List (ClassId × FieldType)} {av : List Value} {ws : va_W} {sz : Nat} : FrameBlind (va_Pc av (PreW D tys ws sz)) := fun a U g mk q => by
  obtain ⟨q0, q1, qP, qK, qD, qN⟩ := q
  exact ⟨q0, q1, qP, va_K.moved (u := U) (U := U.calling g mk a) (Vm.Alike.refl U.vm) qK, qD, NW.same (u := U) (U := U.calling g mk a) rfl qN⟩
section
variable {p : Program} {l : Launch} {e : Env} {R : Room} {s : State} {m : MethodId} {args : Array Value} {below : List Frame} {meth : Method} {c : Code} {H : Heap} {locs : List Loc} {cells slots : Nat} {Q : State → Prop}
variable {cc : ByteArray} {nL : Nat} {Ts : List Cond} {own : String} {pc : Nat} {ls : Array Slot} {rest st0 : List Value} {D : va_G} {A : Nat → Prop} {a : Nat} {tys : List (ClassId × FieldType)} {ws ws' : va_W} {H0 : Heap}
theorem Wd.pre (C : Cx p s m c args cc nL Ts own D tys) (G : Wd A H0 D ws H locs) {av : List Value} {U : State} (hU : U.heap = H) (hW : s.WarmedH U.vm) : va_Pc av (PreW D tys ws H.size) av.toArray U := ⟨rfl, by rw [hU], by rw [hU]; exact G.1, va_K.moved hW.alike C.2.1, G.2.1.weaken (fun _ _ _ _ => trivial), NW.warm hW C.2.2⟩
theorem Wd.fr (G : Wd A H0 D ws H locs) (hA : ∀ q : Nat, H0.size ≤ q → A q) : ∀ q, va_A ws H.size q → A q := by
  intro q h
  rcases h with ⟨k, e, h⟩ | h
  · exact G.2.1.2 k _ h
  · exact hA q (Nat.le_trans G.2.2.1 h)
theorem r_ai {post : Int32 → va_W → Prop} {mc ms : Nat} {av : Array Value} (G : Wd A H0 D ws H locs) (hA : ∀ q : Nat, H0.size ≤ q → A q) (hr : va_Run p l e R s m args below meth c H locs cells slots mc ms (F0 m pc ls st0) rest (va_Qi post (PostW D tys ws H.size) (va_A ws H.size) av) (va_A ws H.size))
    (kk : ∀ (r : Int32) (w : va_W) (H1 : Heap) (locs1 : List Loc), post r w → Wd A H0 D w H1 locs1 → W p l e R s m args below meth c H1 locs1 (cells + mc) (slots + ms) Q (F0 m (pc + 3) ls (.int r :: rest))) : W p l e R s m args below meth c H locs cells slots Q (F0 m pc ls st0) :=
  va_calli hr G.2.2 (fun q _ h => G.fr hA q h) (G.fr hA) (fun r w t H1 locs1 ht hvm hp hB hz hk hS => kk r w H1 locs1 hp ⟨by rw [← ht]; exact hB.1, hB.2.2.weaken (fun k q _ h => G.fr hA q.1 h), hS⟩)
theorem r_al {post : Int64 → va_W → Prop} {mc ms : Nat} {av : Array Value} (G : Wd A H0 D ws H locs) (hA : ∀ q : Nat, H0.size ≤ q → A q) (hr : va_Run p l e R s m args below meth c H locs cells slots mc ms (F0 m pc ls st0) rest (va_Ql post (PostW D tys ws H.size) (va_A ws H.size) av) (va_A ws H.size))
    (kk : ∀ (r : Int64) (w : va_W) (H1 : Heap) (locs1 : List Loc), post r w → Wd A H0 D w H1 locs1 → W p l e R s m args below meth c H1 locs1 (cells + mc) (slots + ms) Q (F0 m (pc + 3) ls (.long r :: rest))) : W p l e R s m args below meth c H locs cells slots Q (F0 m pc ls st0) :=
  va_calll hr G.2.2 (fun q _ h => G.fr hA q h) (G.fr hA) (fun r w t H1 locs1 ht hvm hp hB hz hk hS => kk r w H1 locs1 hp ⟨by rw [← ht]; exact hB.1, hB.2.2.weaken (fun k q _ h => G.fr hA q.1 h), hS⟩)
theorem r_av {post : va_W → Prop} {mc ms : Nat} {av : Array Value} (G : Wd A H0 D ws H locs) (hA : ∀ q : Nat, H0.size ≤ q → A q) (hr : va_Run p l e R s m args below meth c H locs cells slots mc ms (F0 m pc ls st0) rest (va_Qv post (PostW D tys ws H.size) (va_A ws H.size) av) (va_A ws H.size))
    (kk : ∀ (w : va_W) (H1 : Heap) (locs1 : List Loc), post w → Wd A H0 D w H1 locs1 → W p l e R s m args below meth c H1 locs1 (cells + mc) (slots + ms) Q (F0 m (pc + 3) ls rest)) : W p l e R s m args below meth c H locs cells slots Q (F0 m pc ls st0) :=
  va_callv hr G.2.2 (fun q _ h => G.fr hA q h) (G.fr hA) (fun w t H1 locs1 ht hvm hp hB hz hk hS => kk w H1 locs1 hp ⟨by rw [← ht]; exact hB.1, hB.2.2.weaken (fun k q _ h => G.fr hA q.1 h), hS⟩)
theorem r_aq {post : Option Nat → va_W → Prop} {mc ms : Nat} {av : Array Value} (G : Wd A H0 D ws H locs) (hA : ∀ q : Nat, H0.size ≤ q → A q) (hr : va_Run p l e R s m args below meth c H locs cells slots mc ms (F0 m pc ls st0) rest (va_Qq post (PostW D tys ws H.size) (va_A ws H.size) av) (va_A ws H.size))
    (kk : ∀ (r : Option Nat) (w : va_W) (H1 : Heap) (locs1 : List Loc), post r w → Wd A H0 D w H1 locs1 → W p l e R s m args below meth c H1 locs1 (cells + mc) (slots + ms) Q (F0 m (pc + 3) ls (va_rf r :: rest))) : W p l e R s m args below meth c H locs cells slots Q (F0 m pc ls st0) :=
  va_callq hr G.2.2 (fun q _ h => G.fr hA q h) (G.fr hA) (fun r w t H1 locs1 ht hvm hp hB hz hk hS => kk r w H1 locs1 hp ⟨by rw [← ht]; exact hB.1, hB.2.2.weaken (fun k q _ h => G.fr hA q.1 h), hS⟩)
variable {y : MethodName} {bytes : ByteArray} {maxL index ci b q0 : Nat} {ret : Option FieldType} {wds wds' : List Cond} {rm : Room} {Cn : String} {T : u_T} {N na : Nat} {fs As : List Value} {Qc : Nat → Array Value → State → Outcome → State → Prop} {fr : Nat → Addr → Prop}
theorem r_rV (C : Cx p s m c args cc nL Ts own D tys) (G : Wd A H0 D ws H locs) (hM : ∀ sz : Nat, Met l y wds rm (va_Pc (.ref b :: As) (PreW D tys ws sz)) (Qc sz) rm.cells rm.slots (fr sz)) (hT : GoodIn Ts (wsV own index Cn y wds)) (hw : wds = Cond.code y bytes maxL ret :: wds')
    (hd : y.cls = Cn ∧ y.cls ≠ "java/lang/invoke/MethodHandle" ∧ y.cls ≠ "java/lang/invoke/VarHandle" ∧ (parseMethodDescriptor y.desc).map (fun d => d.parameters.length) = some na) (hR : rm.frames + 1 ≤ R.frames ∧ 8 + (maxL + 11) + rm.locals ≤ R.locals) (q0 : Nat) (he : ws[q0]? = some (b, .inr (ci, fs))) (hc : vwCl[ci]? = some (Cn, T, N))
    (hna : As.length = na) (hsz : ls.size = nL) (hst : st0 = As.reverse ++ .ref b :: rest) (hW : (rest.map fun v => v.category).sum ≤ 8) (hdg : decode cc pc = .ok (.invokevirtual index, 3)) (hf : cells + rm.cells ≤ R.cells ∧ slots + rm.slots ≤ R.slots) :
    va_Run p l e R s m args below meth c H locs cells slots rm.cells rm.slots (F0 m pc ls st0) rest (Qc H.size (Value.ref b :: As).toArray) (fr H.size) :=
  va_runV (C := Cn) (bytes := bytes) (maxL := maxL) (ret := ret) C.1 (hM H.size) (cwV na C.1.2.2.2.2 hT hw rfl rfl hd hR) ⟨PreW.blind, va_recv C.2.1 G.1 hc he, fun U hU hW => G.pre C hU hW⟩ rfl hna hsz hst (lv_room hW) hdg hf
theorem r_rS (C : Cx p s m c args cc nL Ts own D tys) (G : Wd A H0 D ws H locs) (hM : ∀ sz : Nat, Met l y wds rm (va_Pc As (PreW D tys ws sz)) (Qc sz) rm.cells rm.slots (fr sz)) (hT : GoodIn Ts (va_wsS own index y wds)) (hw : wds = Cond.code y bytes maxL ret :: wds')
    (hd : y.cls ≠ "java/lang/invoke/MethodHandle" ∧ y.cls ≠ "java/lang/invoke/VarHandle" ∧ (parseMethodDescriptor y.desc).map (fun d => d.parameters.length) = some na) (hR : rm.frames + 1 ≤ R.frames ∧ 8 + (maxL + 11) + rm.locals ≤ R.locals)
    (hna : As.length = na) (hsz : ls.size = nL) (hst : st0 = As.reverse ++ rest) (hW : (rest.map fun v => v.category).sum ≤ 8) (hdg : decode cc pc = .ok (.invokestatic index, 3)) (hf : cells + rm.cells ≤ R.cells ∧ slots + rm.slots ≤ R.slots) :
    va_Run p l e R s m args below meth c H locs cells slots rm.cells rm.slots (F0 m pc ls st0) rest (Qc H.size As.toArray) (fr H.size) :=
  va_runS (bytes := bytes) (maxL := maxL) (ret := ret) C.1 (hM H.size) (va_cwS na C.1.2.2.2.2 hT hw rfl rfl hd hR) ⟨PreW.blind, fun U hU hW => G.pre C hU hW⟩ rfl hna hsz hst (lv_room hW) hdg hf
theorem r_rI (C : Cx p s m c args cc nL Ts own D tys) (G : Wd A H0 D ws H locs) (hM : ∀ sz : Nat, Met l y wds rm (va_Pc (.ref b :: As) (PreW D tys ws sz)) (Qc sz) rm.cells rm.slots (fr sz)) (hT : GoodIn Ts wds) (hw : wds = Cond.code y bytes maxL none :: wds')
    (hini : Cond.initialized y.cls ∈ Ts) (hl : Cond.methodLink own index y ∈ Ts) (hin : Cond.instanceMethod y ∈ Ts) (hy1 : y.name = "<init>")
    (hd : y.cls ≠ "java/lang/invoke/MethodHandle" ∧ y.cls ≠ "java/lang/invoke/VarHandle" ∧ (parseMethodDescriptor y.desc).map (fun d => d.parameters.length) = some na) (hR : rm.frames + 1 ≤ R.frames ∧ 8 + (maxL + 11) + rm.locals ≤ R.locals)
    (hna : As.length = na) (hsz : ls.size = nL) (hst : st0 = As.reverse ++ .ref b :: rest) (hW : (rest.map fun v => v.category).sum ≤ 8) (hdg : decode cc pc = .ok (.invokespecial index, 3)) (hf : cells + rm.cells ≤ R.cells ∧ slots + rm.slots ≤ R.slots) :
    va_Run p l e R s m args below meth c H locs cells slots rm.cells rm.slots (F0 m pc ls st0) rest (Qc H.size (Value.ref b :: As).toArray) (fr H.size) :=
  va_runI (bytes := bytes) (maxL := maxL) C.1 (hM H.size) (cwI na C.1.2.2.2.2 hT hw rfl rfl (C.1.2.2.2.2 _ hini) (C.1.2.2.2.2 _ hl) (C.1.2.2.2.2 _ hin) hy1 hd hR) ⟨PreW.blind, fun U hU hW => G.pre C hU hW⟩ rfl hna hsz hst (lv_room hW) hdg hf
theorem r_rN (C : Cx p s m c args cc nL Ts own D tys) (G : Wd A H0 D ws H locs) (ho : own = "BatchOrder") (hM : ∀ sz : Nat, Met l y wds rm (va_Pc (.ref b :: As) (PreW D tys ws sz)) (Qc sz) rm.cells rm.slots (fr sz)) (hT : GoodIn Ts wds) (hw : wds = Cond.code y bytes maxL none :: wds')
    (hini : Cond.initialized y.cls ∈ Ts) (hl : (index, y) ∈ nwM) (hin : Cond.instanceMethod y ∈ Ts) (hy1 : y.name = "<init>")
    (hd : y.cls ≠ "java/lang/invoke/MethodHandle" ∧ y.cls ≠ "java/lang/invoke/VarHandle" ∧ (parseMethodDescriptor y.desc).map (fun d => d.parameters.length) = some na) (hR : rm.frames + 1 ≤ R.frames ∧ 8 + (maxL + 11) + rm.locals ≤ R.locals)
    (hna : As.length = na) (hsz : ls.size = nL) (hst : st0 = As.reverse ++ .ref b :: rest) (hW : (rest.map fun v => v.category).sum ≤ 8) (hdg : decode cc pc = .ok (.invokespecial index, 3)) (hf : cells + rm.cells ≤ R.cells ∧ slots + rm.slots ≤ R.slots) :
    va_Run p l e R s m args below meth c H locs cells slots rm.cells rm.slots (F0 m pc ls st0) rest (Qc H.size (Value.ref b :: As).toArray) (fr H.size) := by
  subst ho
  exact va_runIN (host := "BatchOrder") (bytes := bytes) (maxL := maxL) C.1 (hM H.size) ⟨va_cnB na C.1.2.2.2.2 hT hw rfl rfl (C.2.2.2.1 _ hl) (C.1.2.2.2.2 _ hini) hd hR, hy1, C.1.2.2.2.2 _ hin⟩ ⟨PreW.blind, fun U hU hW => G.pre C hU hW⟩ rfl hna hsz hst (lv_room hW) hdg hf
theorem r_get (C : Cx p s m c args cc nL Ts own D tys) (G : Wd A H0 D ws H locs) {v : Value} (hin : ∀ w ∈ u_ws Cn T N, w ∈ Ts) (q0 : Nat) (he : ws[q0]? = some (a, .inr (ci, fs))) (hc : vwCl[ci]? = some (Cn, T, N)) (k : Nat) (hk : k < N) (hlink : Cond.fieldLink own index (T k).1 (T k).2.1 (T k).2.2.1 ∈ Ts) (hv : fs[k]? = some v) (hdg : decode cc pc = .ok (.getfield index, 3))
    (kk : W p l e R s m args below meth c H locs cells slots Q (F0 m (pc + 3) ls (v :: rest))) : W p l e R s m args below meth c H locs cells slots Q (F0 m pc ls (.ref a :: rest)) :=
  va_get C.1.1 C.1.2.1 C.1.2.2.2.2 hin C.1.2.2.2.1 C.2.1 G.1 q0 he hc k hk (C.1.2.2.2.2 _ hlink) (fun _ h => h) hv hdg kk
theorem r_getN (C : Cx p s m c args cc nL Ts own D tys) (G : Wd A H0 D ws H locs) {v : Value} (hin : ∀ w ∈ u_ws Cn T N, w ∈ Ts) (q0 : Nat) (he : ws[q0]? = some (a, .inr (ci, fs))) (hc : vwCl[ci]? = some (Cn, T, N)) (k : Nat) (hk : k < N) (hlink : (own, index, (T k).1, (T k).2.1, (T k).2.2.1) ∈ nwF) (hv : fs[k]? = some v) (hdg : decode cc pc = .ok (.getfield index, 3))
    (kk : W p l e R s m args below meth c H locs cells slots Q (F0 m (pc + 3) ls (v :: rest))) : W p l e R s m args below meth c H locs cells slots Q (F0 m pc ls (.ref a :: rest)) :=
  va_getN (host := "BatchOrder") C.1.1 C.1.2.1 C.1.2.2.2.2 hin C.1.2.2.2.1 C.2.1 G.1 q0 he hc k hk (va_Nw.use rfl (C.2.2.1 _ hlink)) (fun _ h => h) hv hdg kk
theorem r_put (C : Cx p s m c args cc nL Ts own D tys) (G : Wd A H0 D ws H locs) {v : Value} {ty0 : Nat → FieldType} (hin : ∀ w ∈ u_ws Cn T N, w ∈ Ts) (hty : ∀ k, k < N → parseFieldDescriptor (T k).2.2.1 = some (ty0 k)) (hnm : ∀ a, a < N → ∀ b, b < N → a ≠ b → (T a).2.1 ≠ (T b).2.1) (q0 : Nat) (he : ws[q0]? = some (a, .inr (ci, fs))) (hc : vwCl[ci]? = some (Cn, T, N)) (k : Nat) (hk : k < N) (hlink : Cond.fieldLink own index (T k).1 (T k).2.1 (T k).2.2.1 ∈ Ts) (hfin : (T k).2.2.2 = false) (hn : narrow (ty0 k) v = v) (hfit : fits (ty0 k) v = true) (hl : k < fs.length) (hdg : decode cc pc = .ok (.putfield index, 3)) (hw : ws.set q0 (a, .inr (ci, fs.set k v)) = ws')
    (kk : ∀ (H1 : Heap) (locs1 : List Loc), Wd A H0 D ws' H1 locs1 → W p l e R s m args below meth c H1 locs1 cells slots Q (F0 m (pc + 3) ls rest)) : W p l e R s m args below meth c H locs cells slots Q (F0 m pc ls (v :: .ref a :: rest)) :=
  va_put C.1.1 C.1.2.1 C.1.2.2.2.2 hin ty0 hty hnm C.1.2.2.2.1 C.2.1 G.1 G.2.1 G.2.2 q0 he hc k hk (C.1.2.2.2.2 _ hlink) (fun _ h => h) hfin (hty k hk) hn hfit hl hdg (fun H1 locs1 h1 h2 h3 => kk H1 locs1 ⟨by rw [← hw]; exact h1, by rw [← hw]; exact h2, h3⟩)
theorem r_putN (C : Cx p s m c args cc nL Ts own D tys) (G : Wd A H0 D ws H locs) {v : Value} {ty0 : Nat → FieldType} (hin : ∀ w ∈ u_ws Cn T N, w ∈ Ts) (hty : ∀ k, k < N → parseFieldDescriptor (T k).2.2.1 = some (ty0 k)) (hnm : ∀ a, a < N → ∀ b, b < N → a ≠ b → (T a).2.1 ≠ (T b).2.1) (q0 : Nat) (he : ws[q0]? = some (a, .inr (ci, fs))) (hc : vwCl[ci]? = some (Cn, T, N)) (k : Nat) (hk : k < N) (hlink : (own, index, (T k).1, (T k).2.1, (T k).2.2.1) ∈ nwF) (hfin : (T k).2.2.2 = false) (hn : narrow (ty0 k) v = v) (hfit : fits (ty0 k) v = true) (hl : k < fs.length) (hdg : decode cc pc = .ok (.putfield index, 3)) (hw : ws.set q0 (a, .inr (ci, fs.set k v)) = ws')
    (kk : ∀ (H1 : Heap) (locs1 : List Loc), Wd A H0 D ws' H1 locs1 → W p l e R s m args below meth c H1 locs1 cells slots Q (F0 m (pc + 3) ls rest)) : W p l e R s m args below meth c H locs cells slots Q (F0 m pc ls (v :: .ref a :: rest)) :=
  va_putN (host := "BatchOrder") C.1.1 C.1.2.1 C.1.2.2.2.2 hin ty0 hty hnm C.1.2.2.2.1 C.2.1 G.1 G.2.1 G.2.2 q0 he hc k hk (va_Nw.use rfl (C.2.2.1 _ hlink)) (fun _ h => h) hfin (hty k hk) hn hfit hl hdg (fun H1 locs1 h1 h2 h3 => kk H1 locs1 ⟨by rw [← hw]; exact h1, by rw [← hw]; exact h2, h3⟩)
theorem r_putF (C : Cx p s m c args cc nL Ts own D tys) (G : Wd A H0 D ws H locs) {v : Value} {ty0 : Nat → FieldType} (hname : meth.name = "<init>") (hin : ∀ w ∈ u_ws Cn T N, w ∈ Ts) (hty : ∀ k, k < N → parseFieldDescriptor (T k).2.2.1 = some (ty0 k)) (hnm : ∀ a, a < N → ∀ b, b < N → a ≠ b → (T a).2.1 ≠ (T b).2.1) (q0 : Nat) (he : ws[q0]? = some (a, .inr (ci, fs))) (hc : vwCl[ci]? = some (Cn, T, N)) (k : Nat) (hk : k < N) (hlink : Cond.fieldLink own index (T k).1 (T k).2.1 (T k).2.2.1 ∈ Ts) (hfin : (T k).2.2.2 = true) (hdecl : (T k).1 = own) (hn : narrow (ty0 k) v = v) (hfit : fits (ty0 k) v = true) (hl : k < fs.length) (hdg : decode cc pc = .ok (.putfield index, 3)) (hw : ws.set q0 (a, .inr (ci, fs.set k v)) = ws')
    (kk : ∀ (H1 : Heap) (locs1 : List Loc), Wd A H0 D ws' H1 locs1 → W p l e R s m args below meth c H1 locs1 cells slots Q (F0 m (pc + 3) ls rest)) : W p l e R s m args below meth c H locs cells slots Q (F0 m pc ls (v :: .ref a :: rest)) :=
  va_putF C.1.1 C.1.2.1 C.1.2.2.2.2 hin ty0 hty hnm C.1.2.2.2.1 C.2.1 G.1 G.2.1 G.2.2 q0 he hc k hk (C.1.2.2.2.2 _ hlink) (fun _ h => h) hfin hname hdecl (hty k hk) hn hfit hl hdg (fun H1 locs1 h1 h2 h3 => kk H1 locs1 ⟨by rw [← hw]; exact h1, by rw [← hw]; exact h2, h3⟩)
theorem in_of {i : Int32} {j n : Nat} (hi : i = nI j) (hj : j < n) (hn : n < 2 ^ 31) : vp_in i n ∧ i.toNatClampNeg = j := by
  subst hi
  exact ⟨vp_in_nI hj hn, nI_clamp (by omega)⟩
theorem r_iald (C : Cx p s m c args cc nL Ts own D tys) (G : Wd A H0 D ws H locs) (q0 t0 : Nat) {cA : ClassId} {n : Nat} {f : Nat → Int32} (ha : ws[q0]? = some (a, .inl (cA, n, .inl f))) (ht : tys[t0]? = some (cA, .int)) {i v : Int32} (j : Nat) (hi : i = nI j) (hj : j < n) (hn : n < 2 ^ 31) (hv : f j = v) (hdg : decode cc pc = .ok (.iaload, 1))
    (kk : W p l e R s m args below meth c H locs cells slots Q (F0 m (pc + 1) ls (.int v :: rest))) : W p l e R s m args below meth c H locs cells slots Q (F0 m pc ls (.int i :: .ref a :: rest)) := by
  obtain ⟨h1, h2⟩ := in_of hi hj hn
  refine va_iald C.1.1 C.1.2.1 C.2.1 G.1 q0 t0 ha ht h1 hdg ?_
  rw [h2, hv]
  exact kk
theorem r_iast (C : Cx p s m c args cc nL Ts own D tys) (G : Wd A H0 D ws H locs) (q0 t0 : Nat) {cA : ClassId} {n : Nat} {f f' : Nat → Int32} (ha : ws[q0]? = some (a, .inl (cA, n, .inl f))) (ht : tys[t0]? = some (cA, .int)) {i x : Int32} (j : Nat) (hi : i = nI j) (hj : j < n) (hn : n < 2 ^ 31) (hv : upd f j x = f') (hdg : decode cc pc = .ok (.iastore, 1)) (hw : ws.set q0 (a, .inl (cA, n, .inl f')) = ws')
    (kk : ∀ (H1 : Heap) (locs1 : List Loc), Wd A H0 D ws' H1 locs1 → W p l e R s m args below meth c H1 locs1 cells slots Q (F0 m (pc + 1) ls rest)) : W p l e R s m args below meth c H locs cells slots Q (F0 m pc ls (.int x :: .int i :: .ref a :: rest)) := by
  obtain ⟨h1, h2⟩ := in_of hi hj hn
  refine va_iast C.1.1 C.1.2.1 C.2.1 G.1 G.2.1 G.2.2 q0 t0 ha ht h1 hdg (fun H1 locs1 g1 g2 g3 => kk H1 locs1 ?_)
  rw [h2, hv, hw] at g1 g2
  exact ⟨g1, g2, g3⟩
theorem r_alen (C : Cx p s m c args cc nL Ts own D tys) (G : Wd A H0 D ws H locs) (q0 t0 : Nat) {cA : ClassId} {x : vp_A} (ha : ws[q0]? = some (a, .inl (cA, x))) {ty : FieldType} (ht : tys[t0]? = some (cA, ty)) (hdg : decode cc pc = .ok (.arraylength, 1))
    (kk : W p l e R s m args below meth c H locs cells slots Q (F0 m (pc + 1) ls (.int (nI x.1) :: rest))) : W p l e R s m args below meth c H locs cells slots Q (F0 m pc ls (.ref a :: rest)) :=
  va_alen C.1.1 C.1.2.1 C.2.1 G.1 q0 t0 ha ht rfl hdg kk
theorem r_aald (C : Cx p s m c args cc nL Ts own D tys) (G : Wd A H0 D ws H locs) (q0 t0 : Nat) {cA : ClassId} {Co : String} {n : Nat} {f : Nat → Option Nat} (ha : ws[q0]? = some (a, .inl (cA, n, .inr (.inr (.inr (.inr f)))))) (ht : tys[t0]? = some (cA, .object Co)) {i : Int32} {v : Option Nat} (j : Nat) (hi : i = nI j) (hj : j < n) (hn : n < 2 ^ 31) (hv : f j = v) (hdg : decode cc pc = .ok (.aaload, 1))
    (kk : W p l e R s m args below meth c H locs cells slots Q (F0 m (pc + 1) ls (va_rf v :: rest))) : W p l e R s m args below meth c H locs cells slots Q (F0 m pc ls (.int i :: .ref a :: rest)) := by
  obtain ⟨h1, h2⟩ := in_of hi hj hn
  refine va_aldq C.1.1 C.1.2.1 C.2.1 G.1 q0 t0 ha ht h1 hdg ?_
  rw [h2, hv]
  exact kk
theorem r_aast (C : Cx p s m c args cc nL Ts own D tys) (G : Wd A H0 D ws H locs) (q0 t0 qk ck : Nat) {cA : ClassId} {r : vw_C} {n v : Nat} {vs : List Value} {f f' : Nat → Option Nat} (ha : ws[q0]? = some (a, .inl (cA, n, .inr (.inr (.inr (.inr f)))))) (ht : tys[t0]? = some (cA, .object r.1)) (hv : ws[qk]? = some (v, .inr (ck, vs))) (hc : vwCl[ck]? = some r) {i : Int32} (j : Nat) (hi : i = nI j) (hj : j < n) (hn : n < 2 ^ 31) (hf : va_up f j (some v) = f') (hdg : decode cc pc = .ok (.aastore, 1)) (hw : ws.set q0 (a, .inl (cA, n, .inr (.inr (.inr (.inr f'))))) = ws')
    (kk : ∀ (H1 : Heap) (locs1 : List Loc), Wd A H0 D ws' H1 locs1 → W p l e R s m args below meth c H1 locs1 cells slots Q (F0 m (pc + 1) ls rest)) : W p l e R s m args below meth c H locs cells slots Q (F0 m pc ls (.ref v :: .int i :: .ref a :: rest)) := by
  obtain ⟨h1, h2⟩ := in_of hi hj hn
  refine va_astq C.1.1 C.1.2.1 C.2.1 G.1 G.2.1 G.2.2 q0 t0 qk ck ha ht hv hc h1 hdg (fun H1 locs1 g1 g2 g3 => kk H1 locs1 ?_)
  rw [h2, hf, hw] at g1 g2
  exact ⟨g1, g2, g3⟩
theorem r_newi (C : Cx p s m c args cc nL Ts own D tys) (G : Wd A H0 D ws H locs) (hA : ∀ q : Nat, H0.size ≤ q → A q) (t0 : Nat) {cI : ClassId} (ht : tys[t0]? = some (cI, .int)) (harr : Cond.arrayClass .int ∈ Ts) {n : Nat} (hn : n < 2 ^ 27) (hcells : cells + 1 ≤ R.cells) (hslots : slots + n ≤ R.slots) (hdg : decode cc pc = .ok (.newarray .int, 2))
    (kk : ∀ (q : Nat) (H1 : Heap), Wd A H0 D (ws ++ [(q, .inl (cI, n, .inl (fun _ => 0)))]) H1 locs → W p l e R s m args below meth c H1 locs (cells + 1) (slots + n) Q (F0 m (pc + 2) ls (.ref q :: rest))) : W p l e R s m args below meth c H locs cells slots Q (F0 m pc ls (.int (nI n) :: rest)) := by
  refine va_newa (atype := .int) (ty := .int) (N' := n) (a0 := (n, .inl (fun _ => 0))) C.1.1 C.1.2.1 (C.1.2.2.2.2 _ harr) rfl C.2.1 G.1 G.2.1 G.2.2 hA (fun cA => rfl) (nI_pos (by omega)) (nI_clamp (by omega)) (by show n * 4 ≤ _; omega) hcells hslots hdg (fun q cA H1 h1 h2 h3 h4 => ?_)
  have e1 : s.vm.findClass ("[" ++ FieldType.int.toString) = some cA := (h1.2 tys.length (cA, .int) (by simp)).2
  have e2 : s.vm.findClass ("[" ++ FieldType.int.toString) = some cI := (C.2.1.2 t0 _ ht).2
  have e3 : cA = cI := Option.some.inj (e1.symm.trans e2)
  subst e3
  exact kk q H1 ⟨h2, h3, h4⟩
end
theorem cv_lt {x y : Int32} {X Y : Int} (hx : x.toInt = X) (hy : y.toInt = Y) : x < y ↔ X < Y := by rw [Int32.lt_iff_toInt_lt, hx, hy]
theorem cv_le {x y : Int32} {X Y : Int} (hx : x.toInt = X) (hy : y.toInt = Y) : x ≤ y ↔ X ≤ Y := by rw [Int32.le_iff_toInt_le, hx, hy]
theorem cv_eq {x y : Int32} {X Y : Int} (hx : x.toInt = X) (hy : y.toInt = Y) : x = y ↔ X = Y := by rw [← Int32.toInt_inj, hx, hy]
/-- a method's end, for an answer that is an int (or a boolean) -/
def RETi (p : Program) (l : Launch) (e : Env) (rm : Room) (s : State) (m : MethodId) (args : Array Value) (below : List Frame) (meth : Method) (c : Code) (A : Nat → Prop) (D : va_G) (cc : ByteArray) (rt : FieldType) (post : Int32 → va_W → Prop) (Q : State → Prop) : Prop :=
  ∀ (v : Int32) (w : va_W) (H : Heap) (locs : List Loc) (ls : Array Slot) (pc cells slots : Nat), post v w → Wd A s.heap D w H locs → cells ≤ rm.cells → slots ≤ rm.slots → narrow rt (.int v) = .int v → decode cc pc = .ok (.ireturn, 1) → W p l e rm s m args below meth c H locs cells slots Q (F0 m pc ls [.int v])
def RETl (p : Program) (l : Launch) (e : Env) (rm : Room) (s : State) (m : MethodId) (args : Array Value) (below : List Frame) (meth : Method) (c : Code) (A : Nat → Prop) (D : va_G) (cc : ByteArray) (post : Int64 → va_W → Prop) (Q : State → Prop) : Prop :=
  ∀ (v : Int64) (w : va_W) (H : Heap) (locs : List Loc) (ls : Array Slot) (pc cells slots : Nat), post v w → Wd A s.heap D w H locs → cells ≤ rm.cells → slots ≤ rm.slots → decode cc pc = .ok (.lreturn, 1) → W p l e rm s m args below meth c H locs cells slots Q (F0 m pc ls [.long v])
def RETv (p : Program) (l : Launch) (e : Env) (rm : Room) (s : State) (m : MethodId) (args : Array Value) (below : List Frame) (meth : Method) (c : Code) (A : Nat → Prop) (D : va_G) (cc : ByteArray) (post : va_W → Prop) (Q : State → Prop) : Prop :=
  ∀ (w : va_W) (H : Heap) (locs : List Loc) (ls : Array Slot) (pc cells slots : Nat), post w → Wd A s.heap D w H locs → cells ≤ rm.cells → slots ≤ rm.slots → decode cc pc = .ok (.return_, 1) → W p l e rm s m args below meth c H locs cells slots Q (F0 m pc ls [])
def RETq (p : Program) (l : Launch) (e : Env) (rm : Room) (s : State) (m : MethodId) (args : Array Value) (below : List Frame) (meth : Method) (c : Code) (A : Nat → Prop) (D : va_G) (cc : ByteArray) (post : Option Nat → va_W → Prop) (Q : State → Prop) : Prop :=
  ∀ (v : Option Nat) (w : va_W) (H : Heap) (locs : List Loc) (ls : Array Slot) (pc cells slots : Nat), post v w → Wd A s.heap D w H locs → cells ≤ rm.cells → slots ≤ rm.slots → decode cc pc = .ok (.areturn, 1) → W p l e rm s m args below meth c H locs cells slots Q (F0 m pc ls [va_rf v])
section
variable {l : Launch} {y : MethodName} {wds wds' : List Cond} {rm : Room} {D : va_G} {tys : List (ClassId × FieldType)} {av : List Value} {ws : va_W} {cc : ByteArray} {maxL : Nat} {rt : FieldType} {own : String}
theorem Ki.mk {post : Int32 → va_W → Prop} (hy : plainName y.cls = true) (hw : wds = Cond.code y cc maxL (some rt) :: wds') (ho : y.cls = own) (hlen : (lg_sl av).length ≤ maxL)
    (body : ∀ (p : Program) (e : Env) (s : State) (m : MethodId) (below : List Frame) (meth : Method) (c : Code) (A : Nat → Prop) (Q : State → Prop) (ls : Array Slot), Cx p s m c av.toArray cc maxL wds own D tys → meth.name = y.name → (∀ q : Nat, s.heap.size ≤ q → A q) → Wd A s.heap D ws s.heap [] → lv_has ls maxL (lv_args 0 av) → RETi p l e rm s m av.toArray below meth c A D cc rt post Q →
      W p l e rm s m av.toArray below meth c s.heap [] 0 0 Q (F0 m 0 ls [])) : Ki l y wds rm D tys av ws post := by
  intro sz
  refine Met.ofW (cc := cc) (maxL := maxL) (ret := some rt) hy hw ?_
  intro p e s m args below meth c s₁ B hml hv
  obtain ⟨rfl, hsz, hP, hK, hD0, hN⟩ := hv
  subst hsz
  have hts := atoms_spec (ws := wds) B.pre
  have hown : s.vm.findClass own = some m.cls := by rw [← ho]; exact findClass_of_methodNamed B.named
  have hD := hD0.self (sz := s.heap.size)
  rw [lg_entry_eq]
  refine body p e s m below meth c (va_A ws s.heap.size) _ _ ⟨⟨B.exec, B.bytes, hml, hown, hts⟩, hK, hN⟩ (name_of_methodNamed B.named B.method).1 (fun q h => Or.inr h) ⟨hP, hD, va_S.rf⟩ (lv_entry av hlen) ?_
  intro v w H locs ls pc cells slots hp G h1 h2 hn hdg
  refine W.widen h1 h2 ?_
  exact W.zret (ty := rt) B.exec B.bytes B.returns hn (fun t ht hW => ⟨⟨v, w, rfl, hp, by rw [ht]; exact G.1, va_K.moved hW.alike hK, G.2.1⟩, G.2.2.F ht⟩) G.2.2.2.2 hdg B.notSynchronized
theorem Kl.mk {post : Int64 → va_W → Prop} (hy : plainName y.cls = true) (hw : wds = Cond.code y cc maxL (some .long) :: wds') (ho : y.cls = own) (hlen : (lg_sl av).length ≤ maxL)
    (body : ∀ (p : Program) (e : Env) (s : State) (m : MethodId) (below : List Frame) (meth : Method) (c : Code) (A : Nat → Prop) (Q : State → Prop) (ls : Array Slot), Cx p s m c av.toArray cc maxL wds own D tys → meth.name = y.name → (∀ q : Nat, s.heap.size ≤ q → A q) → Wd A s.heap D ws s.heap [] → lv_has ls maxL (lv_args 0 av) → RETl p l e rm s m av.toArray below meth c A D cc post Q →
      W p l e rm s m av.toArray below meth c s.heap [] 0 0 Q (F0 m 0 ls [])) : Kl l y wds rm D tys av ws post := by
  intro sz
  refine Met.ofW (cc := cc) (maxL := maxL) (ret := some .long) hy hw ?_
  intro p e s m args below meth c s₁ B hml hv
  obtain ⟨rfl, hsz, hP, hK, hD0, hN⟩ := hv
  subst hsz
  have hts := atoms_spec (ws := wds) B.pre
  have hown : s.vm.findClass own = some m.cls := by rw [← ho]; exact findClass_of_methodNamed B.named
  have hD := hD0.self (sz := s.heap.size)
  rw [lg_entry_eq]
  refine body p e s m below meth c (va_A ws s.heap.size) _ _ ⟨⟨B.exec, B.bytes, hml, hown, hts⟩, hK, hN⟩ (name_of_methodNamed B.named B.method).1 (fun q h => Or.inr h) ⟨hP, hD, va_S.rf⟩ (lv_entry av hlen) ?_
  intro v w H locs ls pc cells slots hp G h1 h2 hdg
  refine W.widen h1 h2 ?_
  exact W.lret B.exec B.bytes B.returns (fun t ht hW => ⟨⟨v, w, rfl, hp, by rw [ht]; exact G.1, va_K.moved hW.alike hK, G.2.1⟩, G.2.2.F ht⟩) G.2.2.2.2 hdg B.notSynchronized
theorem Kv.mk {post : va_W → Prop} (hy : plainName y.cls = true) (hw : wds = Cond.code y cc maxL none :: wds') (ho : y.cls = own) (hlen : (lg_sl av).length ≤ maxL)
    (body : ∀ (p : Program) (e : Env) (s : State) (m : MethodId) (below : List Frame) (meth : Method) (c : Code) (A : Nat → Prop) (Q : State → Prop) (ls : Array Slot), Cx p s m c av.toArray cc maxL wds own D tys → meth.name = y.name → (∀ q : Nat, s.heap.size ≤ q → A q) → Wd A s.heap D ws s.heap [] → lv_has ls maxL (lv_args 0 av) → RETv p l e rm s m av.toArray below meth c A D cc post Q →
      W p l e rm s m av.toArray below meth c s.heap [] 0 0 Q (F0 m 0 ls [])) : Kv l y wds rm D tys av ws post := by
  intro sz
  refine Met.ofW (cc := cc) (maxL := maxL) (ret := none) hy hw ?_
  intro p e s m args below meth c s₁ B hml hv
  obtain ⟨rfl, hsz, hP, hK, hD0, hN⟩ := hv
  subst hsz
  have hts := atoms_spec (ws := wds) B.pre
  have hown : s.vm.findClass own = some m.cls := by rw [← ho]; exact findClass_of_methodNamed B.named
  have hD := hD0.self (sz := s.heap.size)
  rw [lg_entry_eq]
  refine body p e s m below meth c (va_A ws s.heap.size) _ _ ⟨⟨B.exec, B.bytes, hml, hown, hts⟩, hK, hN⟩ (name_of_methodNamed B.named B.method).1 (fun q h => Or.inr h) ⟨hP, hD, va_S.rf⟩ (lv_entry av hlen) ?_
  intro w H locs ls pc cells slots hp G h1 h2 hdg
  refine W.widen h1 h2 ?_
  exact W.vret B.exec B.bytes B.returns (fun t ht hW => ⟨⟨w, rfl, hp, by rw [ht]; exact G.1, va_K.moved hW.alike hK, G.2.1⟩, G.2.2.F ht⟩) G.2.2.2.2 hdg B.notSynchronized
theorem Kq.mk {post : Option Nat → va_W → Prop} (hy : plainName y.cls = true) (hw : wds = Cond.code y cc maxL (some rt) :: wds') (hrt : ∃ n, rt = .object n) (ho : y.cls = own) (hlen : (lg_sl av).length ≤ maxL)
    (body : ∀ (p : Program) (e : Env) (s : State) (m : MethodId) (below : List Frame) (meth : Method) (c : Code) (A : Nat → Prop) (Q : State → Prop) (ls : Array Slot), Cx p s m c av.toArray cc maxL wds own D tys → meth.name = y.name → (∀ q : Nat, s.heap.size ≤ q → A q) → Wd A s.heap D ws s.heap [] → lv_has ls maxL (lv_args 0 av) → RETq p l e rm s m av.toArray below meth c A D cc post Q →
      W p l e rm s m av.toArray below meth c s.heap [] 0 0 Q (F0 m 0 ls [])) : Kq l y wds rm D tys av ws post := by
  intro sz
  refine Met.ofW (cc := cc) (maxL := maxL) (ret := some rt) hy hw ?_
  intro p e s m args below meth c s₁ B hml hv
  obtain ⟨rfl, hsz, hP, hK, hD0, hN⟩ := hv
  subst hsz
  have hts := atoms_spec (ws := wds) B.pre
  have hown : s.vm.findClass own = some m.cls := by rw [← ho]; exact findClass_of_methodNamed B.named
  have hD := hD0.self (sz := s.heap.size)
  rw [lg_entry_eq]
  refine body p e s m below meth c (va_A ws s.heap.size) _ _ ⟨⟨B.exec, B.bytes, hml, hown, hts⟩, hK, hN⟩ (name_of_methodNamed B.named B.method).1 (fun q h => Or.inr h) ⟨hP, hD, va_S.rf⟩ (lv_entry av hlen) ?_
  intro v w H locs ls pc cells slots hp G h1 h2 hdg
  refine W.widen h1 h2 ?_
  exact W.aret (rt := rt) B.exec B.bytes B.returns (Or.inl hrt) (va_rf_or v) (fun t ht hW => ⟨⟨v, w, rfl, hp, by rw [ht]; exact G.1, va_K.moved hW.alike hK, G.2.1⟩, G.2.2.F ht⟩) G.2.2.2.2 hdg B.notSynchronized
end
section
variable {p : Program} {l : Launch} {e : Env} {R : Room} {s : State} {m : MethodId} {args : Array Value} {below : List Frame} {meth : Method} {c : Code} {H : Heap} {locs : List Loc} {cells slots : Nat} {Q : State → Prop}
variable {cc : ByteArray} {pc : Nat} {ls : Array Slot} {rest : List Value}
theorem r_iadd (hx : p.tables.exec = Jvm.exec) (hb : c.code = cc) {a b : Nat} (hdg : decode cc pc = .ok (.iadd, 1)) (k : W p l e R s m args below meth c H locs cells slots Q (F0 m (pc + 1) ls (.int (nI (a + b)) :: rest))) : W p l e R s m args below meth c H locs cells slots Q (F0 m pc ls (.int (nI b) :: .int (nI a) :: rest)) := lv_iadd hx hb hdg (by rw [nI_add]; exact k)
theorem r_isub (hx : p.tables.exec = Jvm.exec) (hb : c.code = cc) {a b : Nat} (h : b ≤ a) (hdg : decode cc pc = .ok (.isub, 1)) (k : W p l e R s m args below meth c H locs cells slots Q (F0 m (pc + 1) ls (.int (nI (a - b)) :: rest))) : W p l e R s m args below meth c H locs cells slots Q (F0 m pc ls (.int (nI b) :: .int (nI a) :: rest)) := lv_isub hx hb hdg (by rw [pk_sub h]; exact k)
theorem r_imul (hx : p.tables.exec = Jvm.exec) (hb : c.code = cc) {a b : Nat} (hdg : decode cc pc = .ok (.imul, 1)) (k : W p l e R s m args below meth c H locs cells slots Q (F0 m (pc + 1) ls (.int (nI (a * b)) :: rest))) : W p l e R s m args below meth c H locs cells slots Q (F0 m pc ls (.int (nI b) :: .int (nI a) :: rest)) := lv_imul hx hb hdg (by rw [pk_mul]; exact k)
theorem r_idiv (hx : p.tables.exec = Jvm.exec) (hb : c.code = cc) {a d : Nat} (ha : a < 2 ^ 31) (h0 : 0 < d) (hd : d < 2 ^ 31) (hdg : decode cc pc = .ok (.idiv, 1)) (k : W p l e R s m args below meth c H locs cells slots Q (F0 m (pc + 1) ls (.int (nI (a / d)) :: rest))) : W p l e R s m args below meth c H locs cells slots Q (F0 m pc ls (.int (nI d) :: .int (nI a) :: rest)) := lv_idiv hx hb hdg (nI_ne0 h0 hd) (by rw [pk_div ha h0 hd]; exact k)
theorem r_irem (hx : p.tables.exec = Jvm.exec) (hb : c.code = cc) {a d : Nat} (ha : a < 2 ^ 31) (h0 : 0 < d) (hd : d < 2 ^ 31) (hdg : decode cc pc = .ok (.irem, 1)) (k : W p l e R s m args below meth c H locs cells slots Q (F0 m (pc + 1) ls (.int (nI (a % d)) :: rest))) : W p l e R s m args below meth c H locs cells slots Q (F0 m pc ls (.int (nI d) :: .int (nI a) :: rest)) := lv_irem hx hb hdg (nI_ne0 h0 hd) (by rw [pk_rem ha h0 hd]; exact k)
theorem r_top {x y : Int32} (h : x = y) (k : W p l e R s m args below meth c H locs cells slots Q (F0 m pc ls (.int y :: rest))) : W p l e R s m args below meth c H locs cells slots Q (F0 m pc ls (.int x :: rest)) := by rw [h]; exact k
theorem r_topl {x y : Int64} (h : x = y) (k : W p l e R s m args below meth c H locs cells slots Q (F0 m pc ls (.long y :: rest))) : W p l e R s m args below meth c H locs cells slots Q (F0 m pc ls (.long x :: rest)) := by rw [h]; exact k
theorem r_st {st st' : List Value} (h : st = st') (k : W p l e R s m args below meth c H locs cells slots Q (F0 m pc ls st')) : W p l e R s m args below meth c H locs cells slots Q (F0 m pc ls st) := by rw [h]; exact k
end
theorem Wd.eq {A : Nat → Prop} {H0 : Heap} {D : va_G} {ws ws' : va_W} {H : Heap} {locs : List Loc} (G : Wd A H0 D ws H locs) (h : ws = ws') : Wd A H0 D ws' H locs := h ▸ G
theorem inc_n (t n : Nat) : nI t + Int32.ofInt (n : Int) = nI (t + n) := by rw [← nI_add]; rfl
theorem nI_upd (f : Nat → Nat) (j v : Nat) : upd (fun i => nI (f i)) j (nI v) = fun i => nI (va_up f j v i) := by
  funext i
  by_cases h : i = j
  · subst h; simp [upd, va_up]
  · simp [upd, va_up, h]
theorem up_same {α : Type} (f : Nat → α) (k : Nat) (v : α) : va_up f k v k = v := by simp [va_up]
theorem up_ne {α : Type} (f : Nat → α) {k j : Nat} (v : α) (h : j ≠ k) : va_up f k v j = f j := by simp [va_up, h]
abbrev TY (cI cO cL : ClassId) : List (ClassId × FieldType) := [(cI, .int), (cO, .object "BatchOrder$Content"), (cL, .long)]
