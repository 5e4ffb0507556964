/-! rows of my own over the kit: one list of words for all methods, one world for a walk, a contract's form, opening, return, call -/
section PW
variable {p : Program} {l : Launch} {e : Env} {R : Room} {s : State} {m : MethodId} {args : Array Value} {below : List Frame} {meth : Method} {c : Code} {H : Heap} {locs : List Loc} {cells slots : Nat} {Q : State → Prop} {pc : Nat} {ls : Array Slot} {rest : List Value} {cc : ByteArray} {nL : Nat} {own : String} {D : va_G} {tys : List (ClassId × FieldType)} {A B : Nat → Prop} {ws wa wb wc : va_W} {mc ms : Nat}
def pw_T : List Cond := lw_tbl.filter goodWord
theorem pw_in {w : Cond} (h : w ∈ lw_tbl) (g : goodWord w = true) : w ∈ pw_T := List.mem_filter.mpr ⟨h, g⟩
/-- the tables' words at the law's start, from which this state comes; two statics of Throwable -/
def pw_Z (A : Nat → Prop) (U : State) (H : Heap) : Prop := (∃ (s0 : State) (a0 : Array Value), s0.WarmedH U.vm ∧ (∀ w ∈ lw_tbl, w.before a0 s0 = true) ∧ (Jvm.Cond.and given_1 narrow_1).before a0 s0 = true) ∧ vx_Zq Bundle.tN "UNASSIGNED_STACK" Bundle.steD A U H ∧ vx_Zq Bundle.tN "SUPPRESSED_SENTINEL" Bundle.listD A U H
theorem pw_Z.warm {U : State} (hW : s.WarmedH U.vm) (h : pw_Z A s H) : pw_Z A U H := by
  obtain ⟨⟨s0, a0, h1, h2, h3⟩, h4, h5⟩ := h
  exact ⟨⟨s0, a0, State.WarmedH.trans h1 hW, h2, h3⟩, h4.moved hW.alike, h5.moved hW.alike⟩
theorem pw_Z.call {U : State} {g : JFrame} {mk : MethodId} {a : Array Value} (h : pw_Z A U H) : pw_Z A (U.calling g mk a) H := by
  obtain ⟨⟨s0, a0, h1, h2, h3⟩, h4, h5⟩ := h
  exact ⟨⟨s0, a0, h1, h2, h3⟩, h4.moved (u := U) (U := U.calling g mk a) (Vm.Alike.refl U.vm), h5.moved (u := U) (U := U.calling g mk a) (Vm.Alike.refl U.vm)⟩
theorem pw_Z.cut (h : pw_Z A s s.heap) (hS : va_S A s.heap H locs) (hAB : ∀ q, B q → A q) : pw_Z B s H := by
  obtain ⟨h1, h4, h5⟩ := h
  exact ⟨h1, (h4.kept (fun a h0 hn => hS.2.1 a h0 hn)).narrow hAB, (h5.kept (fun a h0 hn => hS.2.1 a h0 hn)).narrow hAB⟩
theorem pw_Z.w (h : pw_Z A s H) {w : Cond} (hw : w ∈ pw_T) : w.before args s = true := by
  obtain ⟨⟨s0, a0, h1, h2, -⟩, -⟩ := h
  obtain ⟨a1, a2⟩ := List.mem_filter.mp hw
  exact word_at h1 (good_of_word a2) (h2 w a1)
theorem pw_Z.nF (h : pw_Z A s H) {a : String} {i : Nat} {b n d hh : String} (hw : Cond.fieldLinkNest a i b n d hh ∈ lw_tbl) : va_Nw (.fieldLinkNest a i b n d hh) s := by
  obtain ⟨⟨s0, a0, h1, h2, -⟩, -⟩ := h
  exact va_Nw.warmF h1 (va_Nw.of rfl (h2 _ hw))
theorem pw_Z.nM (h : pw_Z A s H) {a : String} {i : Nat} {x : MethodName} {hh : String} (hw : Cond.methodLinkNest a i x hh ∈ lw_tbl) : va_Nw (.methodLinkNest a i x hh) s := by
  obtain ⟨⟨s0, a0, h1, h2, -⟩, -⟩ := h
  exact va_Nw.warmM h1 (va_Nw.of rfl (h2 _ hw))
theorem pw_Z.nC (h : pw_Z A s H) {C T : String} (hw : Cond.castable C T ∈ lw_tbl) : va_Nw (.castable C T) s := by
  obtain ⟨⟨s0, a0, h1, h2, -⟩, -⟩ := h
  exact va_Nw.warmC h1 (va_Nw.of rfl (h2 _ hw))
theorem pw_Z.nD (h : pw_Z A s H) {x : MethodName} (hw : Cond.declares x ∈ lw_tbl) : va_Nw (.declares x) s := by
  obtain ⟨⟨s0, a0, h1, h2, -⟩, -⟩ := h
  exact va_Nw.warmD h1 (va_Nw.of rfl (h2 _ hw))
theorem pw_Z.ao (h : pw_Z A s H) {C : String} (hw : Cond.arrayOver (.object C) ∈ lw_tbl) : va_AO C s := by
  obtain ⟨⟨s0, a0, h1, h2, -⟩, -⟩ := h
  exact (va_AO.of (h2 _ hw)).moved h1.alike
theorem pw_str {o : String} {k : Nat} {tx : String} {a0 : Array Value} {s0 : State} (h : (Cond.stringRef o k tx).before a0 s0 = true) : ∃ a, vk_R o k tx a s0 := by
  cases hc : s0.vm.findClass o with
  | none => simp [Cond.before, Cond.holds, Cond.value, hc] at h
  | some cur =>
    obtain ⟨k9, cf, i, a, -, -, -, -, -, h2⟩ := Cond.stringRef_spec hc h
    exact ⟨a, vk_R.of h h2⟩
theorem pw_Z.str (h : pw_Z A s H) {o : String} {k : Nat} {tx : String} (hw : Cond.stringRef o k tx ∈ lw_tbl) : ∃ a, vk_R o k tx a s := by
  obtain ⟨⟨s0, a0, h1, h2, -⟩, -⟩ := h
  obtain ⟨a, ha⟩ := pw_str (h2 _ hw)
  exact ⟨a, ha.warm h1⟩
/-- what a walk holds of its cells -/
def pw_S (D : va_G) (tys : List (ClassId × FieldType)) (A : Nat → Prop) (ws : va_W) (s : State) (H : Heap) (locs : List Loc) : Prop :=
  va_K D vwCl tys s ∧ va_P D vwCl ws H ∧ va_D A ws ∧ va_S A s.heap H locs ∧ (∀ q : Nat, s.heap.size ≤ q → A q) ∧ pw_Z A s s.heap
theorem pw_S.to {ws' : va_W} (w : pw_S D tys A ws s H locs) (h : ws = ws') : pw_S D tys A ws' s H locs := h ▸ w
/-- a class of the worlds -/
def pw_C (ci : Nat) (C : String) (T : u_T) (N : Nat) (ty : Nat → FieldType) : Prop := vwCl[ci]? = some (C, T, N) ∧ (∀ w ∈ u_ws C T N, w ∈ pw_T) ∧ (∀ k, k < N → parseFieldDescriptor (T k).2.2.1 = some (ty k)) ∧ (∀ a, a < N → ∀ b, b < N → a ≠ b → (T a).2.1 ≠ (T b).2.1)
abbrev pw_Fx (p : Program) (m : MethodId) (c : Code) (cc : ByteArray) (nL : Nat) (s : State) (args : Array Value) (own : String) : Prop := CallFix p m c cc nL s args pw_T own
theorem pw_top {x y : Int32} (h : x = y) (k : W p l e R s m args below meth c H locs cells slots Q (F0 m pc ls (.int y :: rest))) : W p l e R s m args below meth c H locs cells slots Q (F0 m pc ls (.int x :: rest)) := h ▸ k
theorem pw_get (S : pw_Fx p m c cc nL s args own) (w : pw_S D tys A ws s H locs) {ci N : Nat} {C : String} {T : u_T} {ty : Nat → FieldType} (F : pw_C ci C T N ty) (q0 : Nat) {a : Nat} {fs : List Value} (he : ws[q0]? = some (a, .inr (ci, fs))) (k : Nat) (hk : k < N) {index : Nat}
    (hlink : Cond.fieldLink own index (T k).1 (T k).2.1 (T k).2.2.1 ∈ pw_T) {v : Value} (hv : fs[k]? = some v) (hdg : decode cc pc = .ok (.getfield index, 3))
    (kk : W p l e R s m args below meth c H locs cells slots Q (F0 m (pc + 3) ls (v :: rest))) : W p l e R s m args below meth c H locs cells slots Q (F0 m pc ls (.ref a :: rest)) :=
  va_get S.1 S.2.1 S.2.2.2.2 F.2.1 S.2.2.2.1 w.1 w.2.1 q0 he F.1 k hk (S.2.2.2.2 _ hlink) (fun _ h => h) hv hdg kk
theorem pw_getN (S : pw_Fx p m c cc nL s args own) (w : pw_S D tys A ws s H locs) {ci N : Nat} {C : String} {T : u_T} {ty : Nat → FieldType} (F : pw_C ci C T N ty) (q0 : Nat) {a : Nat} {fs : List Value} (he : ws[q0]? = some (a, .inr (ci, fs))) (k : Nat) (hk : k < N) {index : Nat} {host : String}
    (hlink : Cond.fieldLinkNest own index (T k).1 (T k).2.1 (T k).2.2.1 host ∈ lw_tbl) {v : Value} (hv : fs[k]? = some v) (hdg : decode cc pc = .ok (.getfield index, 3))
    (kk : W p l e R s m args below meth c H locs cells slots Q (F0 m (pc + 3) ls (v :: rest))) : W p l e R s m args below meth c H locs cells slots Q (F0 m pc ls (.ref a :: rest)) :=
  va_getN S.1 S.2.1 S.2.2.2.2 F.2.1 S.2.2.2.1 w.1 w.2.1 q0 he F.1 k hk (va_Nw.use rfl (w.2.2.2.2.2.nF hlink)) (fun _ h => h) hv hdg kk
theorem pw_put (S : pw_Fx p m c cc nL s args own) (w : pw_S D tys A ws s H locs) {ci N : Nat} {C : String} {T : u_T} {ty : Nat → FieldType} (F : pw_C ci C T N ty) (q0 : Nat) {a : Nat} {fs : List Value} (he : ws[q0]? = some (a, .inr (ci, fs))) (k : Nat) (hk : k < N) {index : Nat}
    (hlink : Cond.fieldLink own index (T k).1 (T k).2.1 (T k).2.2.1 ∈ pw_T) (hfin : (T k).2.2.2 = false) {v : Value} (hn : narrow (ty k) v = v) (hfit : fits (ty k) v = true) (hl : k < fs.length) (hdg : decode cc pc = .ok (.putfield index, 3))
    (kk : ∀ (H1 : Heap) (locs1 : List Loc), pw_S D tys A (ws.set q0 (a, .inr (ci, fs.set k v))) s H1 locs1 → W p l e R s m args below meth c H1 locs1 cells slots Q (F0 m (pc + 3) ls rest)) : W p l e R s m args below meth c H locs cells slots Q (F0 m pc ls (v :: .ref a :: rest)) :=
  va_put S.1 S.2.1 S.2.2.2.2 F.2.1 ty F.2.2.1 F.2.2.2 S.2.2.2.1 w.1 w.2.1 w.2.2.1 w.2.2.2.1 q0 he F.1 k hk (S.2.2.2.2 _ hlink) (fun _ h => h) hfin (F.2.2.1 k hk) hn hfit hl hdg (fun H1 locs1 hP hD hS => kk H1 locs1 ⟨w.1, hP, hD, hS, w.2.2.2.2⟩)
theorem pw_putF (S : pw_Fx p m c cc nL s args own) (w : pw_S D tys A ws s H locs) {ci N : Nat} {C : String} {T : u_T} {ty : Nat → FieldType} (F : pw_C ci C T N ty) (q0 : Nat) {a : Nat} {fs : List Value} (he : ws[q0]? = some (a, .inr (ci, fs))) (k : Nat) (hk : k < N) {index : Nat}
    (hlink : Cond.fieldLink own index (T k).1 (T k).2.1 (T k).2.2.1 ∈ pw_T) (hfin : (T k).2.2.2 = true) (hin2 : meth.name = "<init>") (hdecl : (T k).1 = own) {v : Value} (hn : narrow (ty k) v = v) (hfit : fits (ty k) v = true) (hl : k < fs.length) (hdg : decode cc pc = .ok (.putfield index, 3))
    (kk : ∀ (H1 : Heap) (locs1 : List Loc), pw_S D tys A (ws.set q0 (a, .inr (ci, fs.set k v))) s H1 locs1 → W p l e R s m args below meth c H1 locs1 cells slots Q (F0 m (pc + 3) ls rest)) : W p l e R s m args below meth c H locs cells slots Q (F0 m pc ls (v :: .ref a :: rest)) :=
  va_putF S.1 S.2.1 S.2.2.2.2 F.2.1 ty F.2.2.1 F.2.2.2 S.2.2.2.1 w.1 w.2.1 w.2.2.1 w.2.2.2.1 q0 he F.1 k hk (S.2.2.2.2 _ hlink) (fun _ h => h) hfin hin2 hdecl (F.2.2.1 k hk) hn hfit hl hdg (fun H1 locs1 hP hD hS => kk H1 locs1 ⟨w.1, hP, hD, hS, w.2.2.2.2⟩)
theorem pw_iald (S : pw_Fx p m c cc nL s args own) (w : pw_S D tys A ws s H locs) (q0 t0 : Nat) {a : Nat} {cA : ClassId} {n : Nat} {f : Nat → Int32} (ha : ws[q0]? = some (a, .inl (cA, n, .inl f))) (ht : tys[t0]? = some (cA, .int)) {j : Nat} (hj : j < n) (hn : n < 2 ^ 31) (hdg : decode cc pc = .ok (.iaload, 1))
    (kk : W p l e R s m args below meth c H locs cells slots Q (F0 m (pc + 1) ls (.int (f j) :: rest))) : W p l e R s m args below meth c H locs cells slots Q (F0 m pc ls (.int (nI j) :: .ref a :: rest)) := by
  refine va_iald S.1 S.2.1 w.1 w.2.1 q0 t0 ha ht (vp_in_nI hj hn) hdg ?_
  rw [nI_clamp (by omega)]
  exact kk
theorem pw_iast (S : pw_Fx p m c cc nL s args own) (w : pw_S D tys A ws s H locs) (q0 t0 : Nat) {a : Nat} {cA : ClassId} {n : Nat} {f : Nat → Int32} (ha : ws[q0]? = some (a, .inl (cA, n, .inl f))) (ht : tys[t0]? = some (cA, .int)) {j : Nat} {x : Int32} (hj : j < n) (hn : n < 2 ^ 31) (hdg : decode cc pc = .ok (.iastore, 1))
    (kk : ∀ (H1 : Heap) (locs1 : List Loc), pw_S D tys A (ws.set q0 (a, .inl (cA, n, .inl (upd f j x)))) s H1 locs1 → W p l e R s m args below meth c H1 locs1 cells slots Q (F0 m (pc + 1) ls rest)) : W p l e R s m args below meth c H locs cells slots Q (F0 m pc ls (.int x :: .int (nI j) :: .ref a :: rest)) := by
  refine va_iast S.1 S.2.1 w.1 w.2.1 w.2.2.1 w.2.2.2.1 q0 t0 ha ht (vp_in_nI hj hn) hdg ?_
  rw [nI_clamp (by omega)]
  exact fun H1 locs1 hP hD hS => kk H1 locs1 ⟨w.1, hP, hD, hS, w.2.2.2.2⟩
theorem pw_aald (S : pw_Fx p m c cc nL s args own) (w : pw_S D tys A ws s H locs) (q0 t0 : Nat) {a : Nat} {cA : ClassId} {C : String} {n v : Nat} {f : Nat → Option Nat} (ha : ws[q0]? = some (a, .inl (cA, n, .inr (.inr (.inr (.inr f)))))) (ht : tys[t0]? = some (cA, .object C)) {j : Nat} (hj : j < n) (hn : n < 2 ^ 31) (hv : f j = some v) (hdg : decode cc pc = .ok (.aaload, 1))
    (kk : W p l e R s m args below meth c H locs cells slots Q (F0 m (pc + 1) ls (.ref v :: rest))) : W p l e R s m args below meth c H locs cells slots Q (F0 m pc ls (.int (nI j) :: .ref a :: rest)) := by
  refine va_aldq S.1 S.2.1 w.1 w.2.1 q0 t0 ha ht (vp_in_nI hj hn) hdg ?_
  rw [nI_clamp (by omega), hv]
  exact kk
theorem pw_aast (S : pw_Fx p m c cc nL s args own) (w : pw_S D tys A ws s H locs) (q0 t0 qk ci : Nat) {a : Nat} {cA : ClassId} {r : vw_C} {n v : Nat} {vs : List Value} {f : Nat → Option Nat} (ha : ws[q0]? = some (a, .inl (cA, n, .inr (.inr (.inr (.inr f)))))) (ht : tys[t0]? = some (cA, .object r.1)) (hv : ws[qk]? = some (v, .inr (ci, vs))) (hc : vwCl[ci]? = some r) {j : Nat} (hj : j < n) (hn : n < 2 ^ 31) (hdg : decode cc pc = .ok (.aastore, 1))
    (kk : ∀ (H1 : Heap) (locs1 : List Loc), pw_S D tys A (ws.set q0 (a, .inl (cA, n, .inr (.inr (.inr (.inr (va_up f j (some v)))))))) s H1 locs1 → W p l e R s m args below meth c H1 locs1 cells slots Q (F0 m (pc + 1) ls rest)) : W p l e R s m args below meth c H locs cells slots Q (F0 m pc ls (.ref v :: .int (nI j) :: .ref a :: rest)) := by
  refine va_astq S.1 S.2.1 w.1 w.2.1 w.2.2.1 w.2.2.2.1 q0 t0 qk ci ha ht hv hc (vp_in_nI hj hn) hdg ?_
  rw [nI_clamp (by omega)]
  exact fun H1 locs1 hP hD hS => kk H1 locs1 ⟨w.1, hP, hD, hS, w.2.2.2.2⟩
/-! contracts -/
def pw_Pc (D : va_G) (tys : List (ClassId × FieldType)) (av : List Value) (w0 : va_W) (sz : Nat) : Array Value → State → Prop :=
  va_Pc av (fun U => U.heap.size = sz ∧ va_P D vwCl w0 U.heap ∧ va_K D vwCl tys U ∧ va_D (fun _ => True) w0 ∧ pw_Z (va_A w0 sz) U U.heap)
theorem pw_blind {av : List Value} {w0 : va_W} {sz : Nat} : FrameBlind (pw_Pc D tys av w0 sz) := by
  intro a U g mk q
  obtain ⟨q0, q1, qP, qK, qD, qZ⟩ := q
  exact ⟨q0, q1, qP, va_K.moved (u := U) (U := U.calling g mk a) (Vm.Alike.refl U.vm) qK, qD, qZ.call⟩
def pw_B (D : va_G) {σ : Type} (W1 : σ → va_W) (T1 : σ → List (ClassId × FieldType)) (B : Nat → Prop) : σ → State → Prop := fun u t => va_P D vwCl (W1 u) t.heap ∧ va_K D vwCl (T1 u) t ∧ va_D B (W1 u)
abbrev pw_Mi (l : Launch) (y : MethodName) (cc : ByteArray) (mL : Nat) (rt : FieldType) (rm : Room) (D : va_G) (tys : List (ClassId × FieldType)) (av : List Value) (w0 : va_W) (sz : Nat) {σ : Type} (post : Int32 → σ → Prop) (W1 : σ → va_W) (mc ms : Nat) : Prop :=
  Met l y [.code y cc mL (some rt)] rm (pw_Pc D tys av w0 sz) (va_Qi post (pw_B D W1 (fun _ => tys) (va_A w0 sz)) (va_A w0 sz)) mc ms (va_A w0 sz)
abbrev pw_Mv (l : Launch) (y : MethodName) (cc : ByteArray) (mL : Nat) (rm : Room) (D : va_G) (tys : List (ClassId × FieldType)) (av : List Value) (w0 : va_W) (sz : Nat) {σ : Type} (post : σ → Prop) (W1 : σ → va_W) (T1 : σ → List (ClassId × FieldType)) (mc ms : Nat) : Prop :=
  Met l y [.code y cc mL none] rm (pw_Pc D tys av w0 sz) (va_Qv post (pw_B D W1 T1 (va_A w0 sz)) (va_A w0 sz)) mc ms (va_A w0 sz)
theorem pw_openI {y : MethodName} {mL : Nat} {rt : FieldType} {rm : Room} {av : List Value} {w0 : va_W} {sz : Nat} {σ : Type} {post : Int32 → σ → Prop} {W1 : σ → va_W} (hy : plainName y.cls = true) (hav : (lg_sl av).length ≤ mL)
    (body : ∀ (p : Program) (e : Env) (s : State) (m : MethodId) (below : List Frame) (meth : Method) (c : Code) (ls : Array Slot), pw_Fx p m c cc mL s av.toArray y.cls → meth.sig.returnType = some rt → meth.locks = false → lv_has ls mL (lv_args 0 av) → s.heap.size = sz → pw_S D tys (va_A w0 sz) w0 s s.heap [] →
      W p l e rm s m av.toArray below meth c s.heap [] 0 0 (MQ below (va_Qi post (pw_B D W1 (fun _ => tys) (va_A w0 sz)) (va_A w0 sz)) av.toArray s mc ms (va_A w0 sz)) (F0 m 0 ls [])) : pw_Mi l y cc mL rt rm D tys av w0 sz post W1 mc ms := by
  refine Met.ofW (cc := cc) (maxL := mL) (ret := some rt) hy rfl ?_
  intro p e s m args below meth c s₁ B hml hv
  obtain ⟨rfl, hsz, hP, hK, hD0, hZ⟩ := hv
  rw [lg_entry_eq]
  exact body p e s m below meth c _ ⟨B.exec, B.bytes, hml, findClass_of_methodNamed B.named, fun w h => hZ.w h⟩ B.returns B.notSynchronized (lv_entry av hav) hsz ⟨hK, hP, hD0.self, va_S.rf, fun q h => Or.inr (hsz ▸ h), hZ⟩
theorem pw_openV {y : MethodName} {mL : Nat} {rm : Room} {av : List Value} {w0 : va_W} {sz : Nat} {σ : Type} {post : σ → Prop} {W1 : σ → va_W} {T1 : σ → List (ClassId × FieldType)} (hy : plainName y.cls = true) (hav : (lg_sl av).length ≤ mL)
    (body : ∀ (p : Program) (e : Env) (s : State) (m : MethodId) (below : List Frame) (meth : Method) (c : Code) (ls : Array Slot), pw_Fx p m c cc mL s av.toArray y.cls → meth.sig.returnType = none → meth.locks = false → meth.name = y.name → lv_has ls mL (lv_args 0 av) → s.heap.size = sz → pw_S D tys (va_A w0 sz) w0 s s.heap [] →
      W p l e rm s m av.toArray below meth c s.heap [] 0 0 (MQ below (va_Qv post (pw_B D W1 T1 (va_A w0 sz)) (va_A w0 sz)) av.toArray s mc ms (va_A w0 sz)) (F0 m 0 ls [])) : pw_Mv l y cc mL rm D tys av w0 sz post W1 T1 mc ms := by
  refine Met.ofW (cc := cc) (maxL := mL) (ret := none) hy rfl ?_
  intro p e s m args below meth c s₁ B hml hv
  obtain ⟨rfl, hsz, hP, hK, hD0, hZ⟩ := hv
  rw [lg_entry_eq]
  exact body p e s m below meth c _ ⟨B.exec, B.bytes, hml, findClass_of_methodNamed B.named, fun w h => hZ.w h⟩ B.returns B.notSynchronized (name_of_methodNamed B.named B.method).1 (lv_entry av hav) hsz ⟨hK, hP, hD0.self, va_S.rf, fun q h => Or.inr (hsz ▸ h), hZ⟩
/-! ends -/
theorem pw_reti {σ : Type} {post : Int32 → σ → Prop} {W1 : σ → va_W} (S : pw_Fx p m c cc nL s args own) (hr : meth.sig.returnType = some .int) (hlk : meth.locks = false) (u : σ) {v : Int32} (w : pw_S D tys A (W1 u) s H locs) (hp : post v u) (h1 : cells ≤ mc) (h2 : slots ≤ ms) (hdg : decode cc pc = .ok (.ireturn, 1)) :
    W p l e R s m args below meth c H locs cells slots (MQ below (va_Qi post (pw_B D W1 (fun _ => tys) A) A) args s mc ms A) (F0 m pc ls [.int v]) := by
  refine W.widen h1 h2 ?_
  exact W.iret S.1 S.2.1 hr (fun t ht hW => ⟨⟨v, u, rfl, hp, by rw [ht]; exact w.2.1, va_K.moved hW.alike w.1, w.2.2.1⟩, w.2.2.2.1.F ht⟩) w.2.2.2.1.2.2 hdg hlk
theorem pw_retz {σ : Type} {post : Int32 → σ → Prop} {W1 : σ → va_W} (S : pw_Fx p m c cc nL s args own) (hr : meth.sig.returnType = some .boolean) (hlk : meth.locks = false) (u : σ) {v : Int32} (hv : narrow .boolean (.int v) = .int v) (w : pw_S D tys A (W1 u) s H locs) (hp : post v u) (h1 : cells ≤ mc) (h2 : slots ≤ ms) (hdg : decode cc pc = .ok (.ireturn, 1)) :
    W p l e R s m args below meth c H locs cells slots (MQ below (va_Qi post (pw_B D W1 (fun _ => tys) A) A) args s mc ms A) (F0 m pc ls [.int v]) := by
  refine W.widen h1 h2 ?_
  exact W.zret S.1 S.2.1 hr hv (fun t ht hW => ⟨⟨v, u, rfl, hp, by rw [ht]; exact w.2.1, va_K.moved hW.alike w.1, w.2.2.1⟩, w.2.2.2.1.F ht⟩) w.2.2.2.1.2.2 hdg hlk
theorem pw_retv {σ : Type} {post : σ → Prop} {W1 : σ → va_W} {T1 : σ → List (ClassId × FieldType)} (S : pw_Fx p m c cc nL s args own) (hr : meth.sig.returnType = none) (hlk : meth.locks = false) (u : σ) (w : pw_S D (T1 u) A (W1 u) s H locs) (hp : post u) (h1 : cells ≤ mc) (h2 : slots ≤ ms) (hdg : decode cc pc = .ok (.return_, 1)) :
    W p l e R s m args below meth c H locs cells slots (MQ below (va_Qv post (pw_B D W1 T1 A) A) args s mc ms A) (F0 m pc ls []) := by
  refine W.widen h1 h2 ?_
  exact W.vret S.1 S.2.1 hr (fun t ht hW => ⟨⟨u, rfl, hp, by rw [ht]; exact w.2.1, va_K.moved hW.alike w.1, w.2.2.1⟩, w.2.2.2.1.F ht⟩) w.2.2.2.1.2.2 hdg hlk
/-! worlds as lists of cells: a part goes to a callee, the rest stays -/
theorem pw_P {cl : List vw_C} : va_P D cl ws H ↔ ∀ q ∈ ws, va_at D cl q H :=
  ⟨fun h q hq => by obtain ⟨k, hk⟩ := List.getElem?_of_mem hq; exact h k q hk, fun h k q hk => h q (List.mem_of_getElem? hk)⟩
theorem pw_D : va_D A ws ↔ (ws.map Prod.fst).Nodup ∧ ∀ q ∈ ws, A q.1 := by
  constructor
  · intro h
    refine ⟨List.pairwise_iff_getElem.mpr (fun i j hi hj hij he => ?_), fun q hq => ?_⟩
    · simp only [List.length_map] at hi hj
      simp only [List.getElem_map] at he
      have := h.1 i j ws[i] ws[j] (List.getElem?_eq_getElem hi) (List.getElem?_eq_getElem hj) he
      omega
    · obtain ⟨k, hk⟩ := List.getElem?_of_mem hq
      exact h.2 k q hk
  · rintro ⟨h1, h2⟩
    refine ⟨fun i j p q hi hj he => ?_, fun k q hk => h2 q (List.mem_of_getElem? hk)⟩
    obtain ⟨hi', ei⟩ := List.getElem?_eq_some_iff.mp hi
    obtain ⟨hj', ej⟩ := List.getElem?_eq_some_iff.mp hj
    have hw := List.pairwise_iff_getElem.mp h1
    rcases Nat.lt_trichotomy i j with h | h | h
    · exact (hw i j (by simpa using hi') (by simpa using hj') h (by simp [ei, ej, he])).elim
    · exact h
    · exact (hw j i (by simpa using hj') (by simpa using hi') h (by simp [ei, ej, he])).elim
theorem pw_A {q : Nat} {sz : Nat} : va_A ws sz q ↔ (∃ x ∈ ws, x.1 = q) ∨ sz ≤ q := by
  unfold va_A
  constructor
  · rintro (⟨k, e9, h⟩ | h)
    · exact Or.inl ⟨_, List.mem_of_getElem? h, rfl⟩
    · exact Or.inr h
  · rintro (⟨x, hx, rfl⟩ | h)
    · obtain ⟨k, hk⟩ := List.getElem?_of_mem hx
      exact Or.inl ⟨k, x.2, hk⟩
    · exact Or.inr h
theorem pw_free (w : pw_S D tys A (wa ++ (wb ++ wc)) s H locs) : ∀ q, va_A wb H.size q → A q := by
  intro q h
  rcases pw_A.mp h with ⟨x, hx, rfl⟩ | h
  · exact (pw_D.mp w.2.2.1).2 x (by simp [hx])
  · exact w.2.2.2.2.1 q (Nat.le_trans w.2.2.2.1.1 h)
theorem pw_pre {tc : List (ClassId × FieldType)} {av : List Value} (w : pw_S D tys A (wa ++ (wb ++ wc)) s H locs) (hK : va_K D vwCl tc s) : ∀ U : State, U.heap = H → s.WarmedH U.vm → pw_Pc D tc av wb H.size av.toArray U := by
  intro U hU hW
  refine ⟨rfl, by rw [hU], ?_, va_K.moved hW.alike hK, ?_, ?_⟩
  · rw [hU]
    exact pw_P.mpr (fun q hq => pw_P.mp w.2.1 q (by simp [hq]))
  · refine pw_D.mpr ⟨?_, fun _ _ => trivial⟩
    have h := (pw_D.mp w.2.2.1).1
    simp only [List.map_append] at h
    exact (List.nodup_append.mp (List.nodup_append.mp h).2.1).1
  · rw [hU]
    exact (w.2.2.2.2.2.cut w.2.2.2.1 (pw_free w)).warm hW
theorem pw_post {σ : Type} {W1 : σ → va_W} {T1 : σ → List (ClassId × FieldType)} {u : σ} {t : State} {H1 : Heap} {locs1 : List Loc} (w : pw_S D tys A (wa ++ (wb ++ wc)) s H locs) (ht : t.heap = H1) (hk : ∀ q : Nat, q < H.size → ¬ va_A wb H.size q → H1[q]? = H[q]?) (hS : va_S A s.heap H1 locs1) (hB : pw_B D W1 T1 (va_A wb H.size) u t) :
    pw_S D tys A (wa ++ (W1 u ++ wc)) s H1 locs1 := by
  obtain ⟨hP1, -, hD1⟩ := hB
  rw [ht] at hP1
  have hP := pw_P.mp w.2.1
  have hD := pw_D.mp w.2.2.1
  have hnd := hD.1
  simp only [List.map_append] at hnd
  obtain ⟨na, nbc, dab⟩ := List.nodup_append.mp hnd
  obtain ⟨nb, nc, dbc⟩ := List.nodup_append.mp nbc
  have hlt : ∀ q ∈ wa ++ (wb ++ wc), q.1 < H.size := fun q hq => (hP q hq).lt
  have out : ∀ q, q ∈ wa ∨ q ∈ wc → ¬ va_A wb H.size q.1 := by
    intro q hq h
    rcases pw_A.mp h with ⟨x, hx, hxq⟩ | h
    · rcases hq with hq | hq
      · exact dab q.1 (List.mem_map.mpr ⟨q, hq, rfl⟩) x.1 (List.mem_append_left _ (List.mem_map.mpr ⟨x, hx, rfl⟩)) hxq.symm
      · exact dbc x.1 (List.mem_map.mpr ⟨x, hx, rfl⟩) q.1 (List.mem_map.mpr ⟨q, hq, rfl⟩) hxq
    · have : q.1 < H.size := by
        rcases hq with hq | hq
        · exact hlt q (by simp [hq])
        · exact hlt q (by simp [hq])
      omega
  have keep : ∀ q, q ∈ wa ∨ q ∈ wc → va_at D vwCl q H1 := by
    intro q hq
    have hm : q ∈ wa ++ (wb ++ wc) := by rcases hq with hq | hq <;> simp [hq]
    exact (hP q hm).kept (hk q.1 (hlt q hm) (out q hq))
  have hD1' := pw_D.mp hD1
  refine ⟨w.1, pw_P.mpr (fun q hq => ?_), pw_D.mpr ⟨?_, fun q hq => ?_⟩, hS, w.2.2.2.2⟩
  · rcases List.mem_append.mp hq with h | h
    · exact keep q (Or.inl h)
    · rcases List.mem_append.mp h with h | h
      · exact pw_P.mp hP1 q h
      · exact keep q (Or.inr h)
  · simp only [List.map_append]
    refine List.nodup_append.mpr ⟨na, List.nodup_append.mpr ⟨hD1'.1, nc, ?_⟩, ?_⟩
    · intro a ha b hb hab
      obtain ⟨x, hx, rfl⟩ := List.mem_map.mp ha
      obtain ⟨z, hz, rfl⟩ := List.mem_map.mp hb
      exact out z (Or.inr hz) (hab ▸ hD1'.2 x hx)
    · intro a ha b hb hab
      obtain ⟨x, hx, rfl⟩ := List.mem_map.mp ha
      rcases List.mem_append.mp hb with hb | hb
      · obtain ⟨z, hz, rfl⟩ := List.mem_map.mp hb
        exact out x (Or.inl hx) (hab ▸ hD1'.2 z hz)
      · exact dab x.1 (List.mem_map.mpr ⟨x, hx, rfl⟩) b (List.mem_append_right _ hb) hab
  · rcases List.mem_append.mp hq with h | h
    · exact hD.2 q (by simp [h])
    · rcases List.mem_append.mp h with h | h
      · exact pw_free w q.1 (hD1'.2 q h)
      · exact hD.2 q (by simp [h])
variable {st0 : List Value} {a : Array Value}
theorem pw_goi {σ : Type} {post : Int32 → σ → Prop} {W1 : σ → va_W} {T1 : σ → List (ClassId × FieldType)} (w : pw_S D tys A (wa ++ (wb ++ wc)) s H locs) (hr : va_Run p l e R s m args below meth c H locs cells slots mc ms (F0 m pc ls st0) rest (va_Qi post (pw_B D W1 T1 (va_A wb H.size)) (va_A wb H.size) a) (va_A wb H.size))
    (kk : ∀ (r : Int32) (u : σ) (H1 : Heap) (locs1 : List Loc), post r u → pw_S D tys A (wa ++ (W1 u ++ wc)) s H1 locs1 → W p l e R s m args below meth c H1 locs1 (cells + mc) (slots + ms) Q (F0 m (pc + 3) ls (.int r :: rest))) : W p l e R s m args below meth c H locs cells slots Q (F0 m pc ls st0) :=
  va_calli hr w.2.2.2.1 (fun q _ h => pw_free w q h) (pw_free w) (fun r u t H1 locs1 ht _ hp hB _ hk hS => kk r u H1 locs1 hp (pw_post w ht hk hS hB))
theorem pw_gov {σ : Type} {post : σ → Prop} {W1 : σ → va_W} {T1 : σ → List (ClassId × FieldType)} (w : pw_S D tys A (wa ++ (wb ++ wc)) s H locs) (hr : va_Run p l e R s m args below meth c H locs cells slots mc ms (F0 m pc ls st0) rest (va_Qv post (pw_B D W1 T1 (va_A wb H.size)) (va_A wb H.size) a) (va_A wb H.size))
    (kk : ∀ (u : σ) (H1 : Heap) (locs1 : List Loc), post u → va_K D vwCl (T1 u) s → pw_S D tys A (wa ++ (W1 u ++ wc)) s H1 locs1 → W p l e R s m args below meth c H1 locs1 (cells + mc) (slots + ms) Q (F0 m (pc + 3) ls rest)) : W p l e R s m args below meth c H locs cells slots Q (F0 m pc ls st0) :=
  va_callv hr w.2.2.2.1 (fun q _ h => pw_free w q h) (pw_free w) (fun u t H1 locs1 ht hvm hp hB _ hk hS => kk u H1 locs1 hp (va_K.moved hvm.symm hB.2.1) (pw_post w ht hk hS hB))
/-- the whole world goes along -/
theorem pw_S.all (w : pw_S D tys A ws s H locs) : pw_S D tys A ([] ++ (ws ++ [])) s H locs := w.to (by simp)
theorem pw_S.one (w : pw_S D tys A ([] ++ (ws ++ [])) s H locs) : pw_S D tys A ws s H locs := w.to (by simp)
/-- a call's words -/
theorem pw_cw {y : MethodName} {bytes : ByteArray} {maxL n index : Nat} {ret : Option FieldType} {rm : Room} {C : String} (S : pw_Fx p m c cc nL s args own) (hl : Cond.methodLink own index y ∈ pw_T) (hi : Cond.instanceMethod y ∈ pw_T) (hse : Cond.selects C y y ∈ pw_T) (hini : Cond.initialized y.cls ∈ pw_T) (hcode : Cond.code y bytes maxL ret ∈ pw_T) (hrc : rm.cells = mc) (hrs : rm.slots = ms)
    (hd : y.cls ≠ "java/lang/invoke/MethodHandle" ∧ y.cls ≠ "java/lang/invoke/VarHandle" ∧ (parseMethodDescriptor y.desc).map (fun d => d.parameters.length) = some n) (hR : rm.frames + 1 ≤ R.frames ∧ 8 + (maxL + 11) + rm.locals ≤ R.locals) :
    CallW R s args own C index y bytes maxL ret [.code y bytes maxL ret] rm mc ms n := by
  have hG : GoodIn pw_T [.code y bytes maxL ret] := fun w h => by
    rw [List.mem_singleton.mp h]
    exact ⟨hcode, good_of_word (List.mem_filter.mp hcode).2⟩
  exact ⟨callB_of n S.2.2.2.2 hG rfl hrc hrs (S.2.2.2.2 _ hini) (S.2.2.2.2 _ hl) hd hR, S.2.2.2.2 _ hi, S.2.2.2.2 _ hse⟩
theorem pw_cs {y : MethodName} {bytes : ByteArray} {maxL n index : Nat} {ret : Option FieldType} {rm : Room} (S : pw_Fx p m c cc nL s args own) (hl : Cond.methodLink own index y ∈ pw_T) (hi : Cond.static y ∈ pw_T) (hini : Cond.initialized y.cls ∈ pw_T) (hcode : Cond.code y bytes maxL ret ∈ pw_T) (hrc : rm.cells = mc) (hrs : rm.slots = ms)
    (hd : y.cls ≠ "java/lang/invoke/MethodHandle" ∧ y.cls ≠ "java/lang/invoke/VarHandle" ∧ (parseMethodDescriptor y.desc).map (fun d => d.parameters.length) = some n) (hR : rm.frames + 1 ≤ R.frames ∧ 8 + (maxL + 11) + rm.locals ≤ R.locals) :
    CallB R s args own index y bytes maxL ret [.code y bytes maxL ret] rm mc ms n ∧ (Cond.static y).before args s = true := by
  have hG : GoodIn pw_T [.code y bytes maxL ret] := fun w h => by
    rw [List.mem_singleton.mp h]
    exact ⟨hcode, good_of_word (List.mem_filter.mp hcode).2⟩
  exact ⟨callB_of n S.2.2.2.2 hG rfl hrc hrs (S.2.2.2.2 _ hini) (S.2.2.2.2 _ hl) hd hR, S.2.2.2.2 _ hi⟩
theorem pw_ci {y : MethodName} {bytes : ByteArray} {maxL n index : Nat} {rm : Room} (S : pw_Fx p m c cc nL s args own) (hl : Cond.methodLink own index y ∈ pw_T) (hi : Cond.instanceMethod y ∈ pw_T) (hini : Cond.initialized y.cls ∈ pw_T) (hcode : Cond.code y bytes maxL none ∈ pw_T) (hrc : rm.cells = mc) (hrs : rm.slots = ms) (hy1 : y.name = "<init>")
    (hd : y.cls ≠ "java/lang/invoke/MethodHandle" ∧ y.cls ≠ "java/lang/invoke/VarHandle" ∧ (parseMethodDescriptor y.desc).map (fun d => d.parameters.length) = some n) (hR : rm.frames + 1 ≤ R.frames ∧ 8 + (maxL + 11) + rm.locals ≤ R.locals) :
    CallB R s args own index y bytes maxL none [.code y bytes maxL none] rm mc ms n ∧ y.name = "<init>" ∧ (Cond.instanceMethod y).before args s = true := by
  have hG : GoodIn pw_T [.code y bytes maxL none] := fun w h => by
    rw [List.mem_singleton.mp h]
    exact ⟨hcode, good_of_word (List.mem_filter.mp hcode).2⟩
  exact ⟨callB_of n S.2.2.2.2 hG rfl hrc hrs (S.2.2.2.2 _ hini) (S.2.2.2.2 _ hl) hd hR, hy1, S.2.2.2.2 _ hi⟩
theorem pw_cn {y : MethodName} {bytes : ByteArray} {maxL n index : Nat} {ret : Option FieldType} {rm : Room} {host : String} (S : pw_Fx p m c cc nL s args own) (hZ : pw_Z A s s.heap) (hl : Cond.methodLinkNest own index y host ∈ lw_tbl) (hini : Cond.initialized y.cls ∈ pw_T) (hcode : Cond.code y bytes maxL ret ∈ pw_T) (hrc : rm.cells = mc) (hrs : rm.slots = ms)
    (hd : y.cls ≠ "java/lang/invoke/MethodHandle" ∧ y.cls ≠ "java/lang/invoke/VarHandle" ∧ (parseMethodDescriptor y.desc).map (fun d => d.parameters.length) = some n) (hR : rm.frames + 1 ≤ R.frames ∧ 8 + (maxL + 11) + rm.locals ≤ R.locals) :
    va_CN R s args own index y host bytes maxL ret [.code y bytes maxL ret] rm mc ms n := by
  have hG : GoodIn pw_T [.code y bytes maxL ret] := fun w h => by
    rw [List.mem_singleton.mp h]
    exact ⟨hcode, good_of_word (List.mem_filter.mp hcode).2⟩
  exact va_cnB n S.2.2.2.2 hG rfl hrc hrs (hZ.nM hl) (S.2.2.2.2 _ hini) hd hR
/-- calls that make nothing -/
theorem pw_goi0 {σ : Type} {post : Int32 → σ → Prop} {W1 : σ → va_W} {T1 : σ → List (ClassId × FieldType)} (w : pw_S D tys A (wa ++ (wb ++ wc)) s H locs) (hr : va_Run p l e R s m args below meth c H locs cells slots 0 0 (F0 m pc ls st0) rest (va_Qi post (pw_B D W1 T1 (va_A wb H.size)) (va_A wb H.size) a) (va_A wb H.size))
    (kk : ∀ (r : Int32) (u : σ) (H1 : Heap) (locs1 : List Loc), post r u → pw_S D tys A (wa ++ (W1 u ++ wc)) s H1 locs1 → W p l e R s m args below meth c H1 locs1 cells slots Q (F0 m (pc + 3) ls (.int r :: rest))) : W p l e R s m args below meth c H locs cells slots Q (F0 m pc ls st0) := pw_goi w hr kk
theorem pw_gov0 {σ : Type} {post : σ → Prop} {W1 : σ → va_W} {T1 : σ → List (ClassId × FieldType)} (w : pw_S D tys A (wa ++ (wb ++ wc)) s H locs) (hr : va_Run p l e R s m args below meth c H locs cells slots 0 0 (F0 m pc ls st0) rest (va_Qv post (pw_B D W1 T1 (va_A wb H.size)) (va_A wb H.size) a) (va_A wb H.size))
    (kk : ∀ (u : σ) (H1 : Heap) (locs1 : List Loc), post u → va_K D vwCl (T1 u) s → pw_S D tys A (wa ++ (W1 u ++ wc)) s H1 locs1 → W p l e R s m args below meth c H1 locs1 cells slots Q (F0 m (pc + 3) ls rest)) : W p l e R s m args below meth c H locs cells slots Q (F0 m pc ls st0) := pw_gov w hr kk
/-! what is made -/
theorem pw_oinit (S : pw_Fx p m c cc nL s args own) {idx x : Nat} (h1 : Cond.methodLink own idx Lib.objectInit ∈ pw_T) (h2 : Cond.instanceMethod Lib.objectInit ∈ pw_T) (h3 : Cond.code Lib.objectInit ⟨#[0xb1]⟩ 1 none ∈ pw_T) (hls : ls.size = nL) (hR : 1 ≤ R.frames) (hR2 : (rest.map fun v => v.category).sum + 12 ≤ R.locals) (hdg : decode cc pc = .ok (.invokespecial idx, 3))
    (kk : W p l e R s m args below meth c H locs cells slots Q (F0 m (pc + 3) ls rest)) : W p l e R s m args below meth c H locs cells slots Q (F0 m pc ls (.ref x :: rest)) :=
  W.objInit S.1 S.2.1 S.2.2.2.1 (S.2.2.2.2 _ h1) (S.2.2.2.2 _ h2) (S.2.2.2.2 _ h3) rfl (by rw [S.2.2.1]; exact hls) rfl hdg hR (show 2 * 0 + _ + 12 ≤ _ by omega) kk
theorem pw_newi (S : pw_Fx p m c cc nL s args own) (w : pw_S D tys A ws s H locs) (harr : Cond.arrayClass .int ∈ pw_T) {n : Int32} {N : Nat} (hn : ¬ n < 0) (hN : n.toNatClampNeg = N) (hbytes : N * componentBytes .int ≤ 536870912) (hcells : cells + 1 ≤ R.cells) (hslots : slots + N ≤ R.slots) (hdg : decode cc pc = .ok (.newarray .int, 2))
    (kk : ∀ (q : Nat) (cA : ClassId) (H1 : Heap), pw_S D (tys ++ [(cA, .int)]) A (ws ++ [(q, .inl (cA, N, .inl (fun _ => 0)))]) s H1 locs → W p l e R s m args below meth c H1 locs (cells + 1) (slots + N) Q (F0 m (pc + 2) ls (.ref q :: rest))) : W p l e R s m args below meth c H locs cells slots Q (F0 m pc ls (.int n :: rest)) :=
  va_newa (atype := .int) S.1 S.2.1 (S.2.2.2.2 _ harr) rfl w.1 w.2.1 w.2.2.1 w.2.2.2.1 w.2.2.2.2.1 (a0 := (N, .inl (fun _ => 0))) (fun _ => rfl) hn hN hbytes hcells hslots hdg (fun q cA H1 hK hP hD hS => kk q cA H1 ⟨hK, hP, hD, hS, w.2.2.2.2⟩)
theorem pw_newl (S : pw_Fx p m c cc nL s args own) (w : pw_S D tys A ws s H locs) (harr : Cond.arrayClass .long ∈ pw_T) {n : Int32} {N : Nat} (hn : ¬ n < 0) (hN : n.toNatClampNeg = N) (hbytes : N * componentBytes .long ≤ 536870912) (hcells : cells + 1 ≤ R.cells) (hslots : slots + N ≤ R.slots) (hdg : decode cc pc = .ok (.newarray .long, 2))
    (kk : ∀ (q : Nat) (cA : ClassId) (H1 : Heap), pw_S D (tys ++ [(cA, .long)]) A (ws ++ [(q, .inl (cA, N, .inr (.inl (fun _ => 0))))]) s H1 locs → W p l e R s m args below meth c H1 locs (cells + 1) (slots + N) Q (F0 m (pc + 2) ls (.ref q :: rest))) : W p l e R s m args below meth c H locs cells slots Q (F0 m pc ls (.int n :: rest)) :=
  va_newa (atype := .long) S.1 S.2.1 (S.2.2.2.2 _ harr) rfl w.1 w.2.1 w.2.2.1 w.2.2.2.1 w.2.2.2.2.1 (a0 := (N, .inr (.inl (fun _ => 0)))) (fun _ => rfl) hn hN hbytes hcells hslots hdg (fun q cA H1 hK hP hD hS => kk q cA H1 ⟨hK, hP, hD, hS, w.2.2.2.2⟩)
theorem pw_newr (S : pw_Fx p m c cc nL s args own) (w : pw_S D tys A ws s H locs) {C : String} {index : Nat} (hcl : Cond.classLink own index C ∈ pw_T) (hao : va_AO C s) {n : Int32} {N : Nat} (hn : ¬ n < 0) (hN : n.toNatClampNeg = N) (hbytes : N * 4 ≤ 536870912) (hcells : cells + 1 ≤ R.cells) (hslots : slots + N ≤ R.slots) (hdg : decode cc pc = .ok (.anewarray index, 3))
    (kk : ∀ (q : Nat) (cA : ClassId) (H1 : Heap), pw_S D (tys ++ [(cA, .object C)]) A (ws ++ [(q, .inl (cA, N, .inr (.inr (.inr (.inr (fun _ => none))))))]) s H1 locs → W p l e R s m args below meth c H1 locs (cells + 1) (slots + N) Q (F0 m (pc + 3) ls (.ref q :: rest))) : W p l e R s m args below meth c H locs cells slots Q (F0 m pc ls (.int n :: rest)) :=
  va_newq S.1 S.2.1 S.2.2.2.1 (S.2.2.2.2 _ hcl) hao w.1 w.2.1 w.2.2.1 w.2.2.2.1 w.2.2.2.2.1 hn hN hbytes hcells hslots hdg (fun q cA H1 hK hP hD hS => kk q cA H1 ⟨hK, hP, hD, hS, w.2.2.2.2⟩)
theorem pw_new (S : pw_Fx p m c cc nL s args own) (w : pw_S D tys A ws s H locs) {ci N : Nat} {C : String} {T : u_T} {ty : Nat → FieldType} (F : pw_C ci C T N ty) {index : Nat} (hcl : Cond.classLink own index C ∈ pw_T) (hi : Cond.instantiable C N ∈ pw_T) (hini : Cond.initialized C ∈ pw_T) {fs : List Value} (hfs : ∀ j, j < N → defaultValue (ty j) = vp_V fs j) (hcells : cells + 1 ≤ R.cells) (hslots : slots + N ≤ R.slots) (hdg : decode cc pc = .ok (.new index, 3))
    (kk : ∀ (q : Nat) (H1 : Heap), pw_S D tys A (ws ++ [(q, .inr (ci, fs))]) s H1 locs → W p l e R s m args below meth c H1 locs (cells + 1) (slots + N) Q (F0 m (pc + 3) ls (.ref q :: rest))) : W p l e R s m args below meth c H locs cells slots Q (F0 m pc ls rest) :=
  va_new S.1 S.2.1 S.2.2.2.2 F.2.1 ty F.2.2.1 S.2.2.2.1 (S.2.2.2.2 _ hcl) (S.2.2.2.2 _ hi) (S.2.2.2.2 _ hini) w.1 w.2.1 w.2.2.1 w.2.2.2.1 w.2.2.2.2.1 F.1 hfs hcells hslots hdg (fun q H1 hP hD hS => kk q H1 ⟨w.1, hP, hD, hS, w.2.2.2.2⟩)
/-- one class of int arrays -/
theorem pw_cI {t2 : List (ClassId × FieldType)} {i j : Nat} {c1 c2 : ClassId} (h1 : va_K D vwCl tys s) (h2 : va_K D vwCl t2 s) (e1 : tys[i]? = some (c1, .int)) (e2 : t2[j]? = some (c2, .int)) : c1 = c2 :=
  Option.some.inj ((h1.2 i _ e1).2.symm.trans (h2.2 j _ e2).2)
/-! methods that may throw -/
def pw_cd : Cond → Bool
  | .castable _ _ => true
  | .declares _ => true
  | _ => false
theorem pw_Z.any (h : pw_Z A s H) {w : Cond} (hw : w ∈ lw_tbl) (hk : (goodWord w || pw_cd w) = true) : w.before args s = true := by
  by_cases g : goodWord w = true
  · exact h.w (pw_in hw g)
  · have hc : pw_cd w = true := by
      rcases Bool.or_eq_true_iff.mp hk with q | q
      · exact absurd q g
      · exact q
    cases w with
    | castable C T => exact va_Nw.use rfl (h.nC hw)
    | declares x => exact va_Nw.use rfl (h.nD hw)
    | _ => cases hc
abbrev pw_X (D : va_G) (w0 : va_W) (XP : String → Prop) (A : Nat → Prop) : String → State → State → Prop := vx_X (S := Unit) (fun _ => True) (fun E _ t => XP E ∧ va_P D vwCl w0 t.heap) A
abbrev pw_Xi (l : Launch) (y : MethodName) (cc : ByteArray) (mL : Nat) (rt : FieldType) (rm : Room) (D : va_G) (tys : List (ClassId × FieldType)) (av : List Value) (w0 : va_W) (sz : Nat) {σ : Type} (post : Int32 → σ → Prop) (W1 : σ → va_W) (XP : String → Prop) (mc ms : Nat) : Prop :=
  vx_Met l y [.code y cc mL (some rt)] rm (pw_Pc D tys av w0 sz) (va_Qi post (pw_B D W1 (fun _ => tys) (va_A w0 sz)) (va_A w0 sz)) (pw_X D w0 XP (va_A w0 sz)) mc ms (va_A w0 sz)
theorem pw_openX {y : MethodName} {mL : Nat} {rt : FieldType} {rm : Room} {av : List Value} {w0 : va_W} {sz : Nat} {σ : Type} {post : Int32 → σ → Prop} {W1 : σ → va_W} {XP : String → Prop} (hy : plainName y.cls = true) (hav : (lg_sl av).length ≤ mL)
    (body : ∀ (p : Program) (e : Env) (s : State) (m : MethodId) (below : List Frame) (meth : Method) (c : Code) (ls : Array Slot), pw_Fx p m c cc mL s av.toArray y.cls → meth.sig.returnType = some rt → meth.locks = false → (∀ x ∈ c.exceptionTable.toList, False) → lv_has ls mL (lv_args 0 av) → s.heap.size = sz → pw_S D tys (va_A w0 sz) w0 s s.heap [] →
      W p l e rm s m av.toArray below meth c s.heap [] 0 0 (vx_MQ below (va_Qi post (pw_B D W1 (fun _ => tys) (va_A w0 sz)) (va_A w0 sz)) (pw_X D w0 XP (va_A w0 sz)) av.toArray s mc ms (va_A w0 sz)) (F0 m 0 ls [])) : pw_Xi l y cc mL rt rm D tys av w0 sz post W1 XP mc ms := by
  refine vx_ofW (cc := cc) (maxL := mL) (ret := some rt) hy rfl ?_
  intro p e s m args below meth c s₁ B hml htb hv
  obtain ⟨rfl, hsz, hP, hK, hD0, hZ⟩ := hv
  rw [lg_entry_eq]
  exact body p e s m below meth c _ ⟨B.exec, B.bytes, hml, findClass_of_methodNamed B.named, fun w h => hZ.w h⟩ B.returns B.notSynchronized htb (lv_entry av hav) hsz ⟨hK, hP, hD0.self, va_S.rf, fun q h => Or.inr (hsz ▸ h), hZ⟩
theorem pw_throw {cls text : String} {names : List String} {ik is ic : Nat} {XP : String → Prop} {Qc : Array Value → State → Outcome → State → Prop} (S : pw_Fx p m c cc nL s args own) (hl9 : l.stackTraces = false) (w : pw_S D tys A ws s H locs) (hcls : Bundle.fit cls = true) (hnames : ∀ n ∈ names, Bundle.fit n = true)
    (hk : Cond.classLink own ik cls ∈ pw_T) (hini : Cond.initialized cls ∈ pw_T) (hstr : Cond.stringRef own is text ∈ lw_tbl) (hat : ∀ w ∈ vx_atS own ic cls names, w ∈ lw_tbl ∧ (goodWord w || pw_cd w) = true) (hgood : ∀ w ∈ Cond.classLink own ik cls :: Cond.initialized cls :: vx_atS own ic cls names, vx_ot w = true)
    (hsize : ls.size = nL) (d0 : decode cc pc = .ok (.new ik, 3)) (d3 : decode cc (pc + 3) = .ok (.dup, 1)) (d4 : decode cc (pc + 4) = .ok (.ldc is, 2)) (d6 : decode cc (pc + 6) = .ok (.invokespecial ic, 3)) (d9 : decode cc (pc + 9) = .ok (.athrow, 1)) (htb : ∀ x ∈ c.exceptionTable.toList, False)
    (hRf : names.length + 3 < R.frames) (hRl : (rest.map fun v => v.category).sum + (13 * (names.length + 1) + 43) ≤ R.locals) (hRc : cells + 1 ≤ R.cells) (hRs : slots + 6 ≤ R.slots) (hlk : meth.locks = false) (hXP : XP cls) (hc : cells + 1 ≤ mc) (hs : slots + 6 ≤ ms) :
    W p l e R s m args below meth c H locs cells slots (vx_MQ below Qc (pw_X D ws XP A) args s mc ms A) (F0 m pc ls rest) := by
  obtain ⟨sa, hsa⟩ := w.2.2.2.2.2.str hstr
  refine vx_throwS (A := A) (names := names) S.1 S.2.1 hl9 S.2.2.2.1 hcls hnames (S.2.2.2.2 _ hk) (S.2.2.2.2 _ hini) hsa (fun w9 h9 => w.2.2.2.2.2.any (hat w9 h9).1 (hat w9 h9).2) hgood w.2.2.2.2.2.2.1 w.2.2.2.2.2.2.2 w.2.2.2.1 (hsize.trans S.2.2.1.symm) d0 d3 d4 d6 d9 (fun x hx => (htb x hx).elim) hRf hRl hRc hRs hlk ?_ w.2.2.2.1.2.2 hc hs
  intro t _ hz hq
  refine ⟨(), trivial, ⟨hXP, pw_P.mpr (fun q h => ?_)⟩, Nat.le_trans w.2.2.2.1.1 hz, fun q h1 h2 => ?_⟩
  · have hat1 := pw_P.mp w.2.1 q h
    exact hat1.kept (hq q.1 hat1.lt)
  · rw [hq q (Nat.lt_of_lt_of_le h1 w.2.2.2.1.1)]
    exact w.2.2.2.1.2.1 q h1 h2
theorem pw_Z.nN (h : pw_Z A s H) {C T : String} (hw : Cond.not (.castable C T) ∈ flatC (Jvm.Cond.and given_1 narrow_1)) : va_Nc C T s := by
  obtain ⟨⟨s0, a0, h1, -, h3⟩, -⟩ := h
  exact (va_Nc.of (flat_of_before _ h3 _ hw)).moved h1.alike
/-- a call that may throw: the world is the old one then -/
theorem pw_gox {σ : Type} {post : Int32 → σ → Prop} {W1 : σ → va_W} {T1 : σ → List (ClassId × FieldType)} {XP : String → Prop} (w : pw_S D tys A (wa ++ (wb ++ wc)) s H locs) (hr : vx_Run p l e R s m args below meth c H locs cells slots mc ms (F0 m pc ls st0) rest (va_Qi post (pw_B D W1 T1 (va_A wb H.size)) (va_A wb H.size) a) (pw_X D wb XP (va_A wb H.size)) (va_A wb H.size))
    (kx : ∀ (E : String) (ce : Cell) (q9 : Addr) (H1 : Heap) (locs1 : List Loc), XP E → pw_S D tys A (wa ++ (wb ++ wc)) s H1 locs1 → H1[q9]? = some ce → ce.vm = .none → s.vm.findClass E = some ce.cls → vx_W p l e R s m args below meth c H1 locs1 (cells + mc) (slots + ms) Q (F0 m pc ls rest) q9)
    (kk : ∀ (r : Int32) (u : σ) (H1 : Heap) (locs1 : List Loc), post r u → pw_S D tys A (wa ++ (W1 u ++ wc)) s H1 locs1 → W p l e R s m args below meth c H1 locs1 (cells + mc) (slots + ms) Q (F0 m (pc + 3) ls (.int r :: rest))) : W p l e R s m args below meth c H locs cells slots Q (F0 m pc ls st0) := by
  have hDb : va_D (va_A wb H.size) wb := by
    refine va_D.self (A := A) (pw_D.mpr ⟨?_, fun q hq => (pw_D.mp w.2.2.1).2 q (by simp [hq])⟩)
    have h := (pw_D.mp w.2.2.1).1
    simp only [List.map_append] at h
    exact (List.nodup_append.mp (List.nodup_append.mp h).2.1).1
  refine vx_calli hr w.2.2.2.1 (fun q _ h => pw_free w q h) (pw_free w) (fun q _ h => pw_free w q h) (fun E ce q9 u t H1 locs1 ht hvm _ hB _ hk hS h1 h2 h3 => ?_) (fun r u t H1 locs1 ht _ hp hB _ hk hS => kk r u H1 locs1 hp (pw_post w ht hk hS hB))
  exact kx E ce q9 H1 locs1 hB.1 (pw_post (W1 := fun _ : Unit => wb) (T1 := fun _ => tys) (u := ()) w ht hk hS ⟨hB.2, va_K.moved hvm w.1, hDb⟩) h1 h2 h3
/-- a static method with a table of handlers, which returns -/
abbrev pw_MW (l : Launch) (y : MethodName) (cc : ByteArray) (mL : Nat) (rt : FieldType) (hh : List (Nat × Nat × Nat × Nat)) (rm : Room) (D : va_G) (tys : List (ClassId × FieldType)) (av : List Value) (w0 : va_W) (sz : Nat) {σ : Type} (post : Int32 → σ → Prop) (W1 : σ → va_W) (mc ms : Nat) : Prop :=
  Met l y [.codeWith y cc mL (some rt) hh] rm (pw_Pc D tys av w0 sz) (va_Qi post (pw_B D W1 (fun _ => tys) (va_A w0 sz)) (va_A w0 sz)) mc ms (va_A w0 sz)
theorem pw_openW {y : MethodName} {mL : Nat} {rt : FieldType} {hh : List (Nat × Nat × Nat × Nat)} {rm : Room} {av : List Value} {w0 : va_W} {sz : Nat} {σ : Type} {post : Int32 → σ → Prop} {W1 : σ → va_W} (hy : plainName y.cls = true) (hav : (lg_sl av).length ≤ mL)
    (body : ∀ (p : Program) (e : Env) (s : State) (m : MethodId) (below : List Frame) (meth : Method) (c : Code) (ls : Array Slot), pw_Fx p m c cc mL s av.toArray y.cls → meth.sig.returnType = some rt → meth.locks = false → c.exceptionTable.toList = tableOf hh → lv_has ls mL (lv_args 0 av) → s.heap.size = sz → pw_S D tys (va_A w0 sz) w0 s s.heap [] →
      W p l e rm s m av.toArray below meth c s.heap [] 0 0 (MQ below (va_Qi post (pw_B D W1 (fun _ => tys) (va_A w0 sz)) (va_A w0 sz)) av.toArray s mc ms (va_A w0 sz)) (F0 m 0 ls [])) : pw_MW l y cc mL rt hh rm D tys av w0 sz post W1 mc ms := by
  refine va_MetW (cc := cc) (maxL := mL) (ret := some rt) (hh := hh) hy rfl ?_
  intro p e s m args below meth c s₁ B hml hv
  obtain ⟨rfl, hsz, hP, hK, hD0, hZ⟩ := hv
  have hTab := vx_table (x := y) B (atoms_spec (ws := [.codeWith y cc mL (some rt) hh]) B.pre _ List.mem_cons_self)
  rw [lg_entry_eq]
  exact body p e s m below meth c _ ⟨B.exec, B.bytes, hml, findClass_of_methodNamed B.named, fun w h => hZ.w h⟩ B.returns B.notSynchronized hTab (lv_entry av hav) hsz ⟨hK, hP, hD0.self, va_S.rf, fun q h => Or.inr (hsz ▸ h), hZ⟩
theorem pw_cW {y : MethodName} {bytes : ByteArray} {maxL n index : Nat} {ret : Option FieldType} {hh : List (Nat × Nat × Nat × Nat)} {rm : Room} (S : pw_Fx p m c cc nL s args own) (hl : Cond.methodLink own index y ∈ pw_T) (hi : Cond.static y ∈ pw_T) (hini : Cond.initialized y.cls ∈ pw_T) (hcode : Cond.codeWith y bytes maxL ret hh ∈ pw_T) (hrc : rm.cells = mc) (hrs : rm.slots = ms)
    (hd : y.cls ≠ "java/lang/invoke/MethodHandle" ∧ y.cls ≠ "java/lang/invoke/VarHandle" ∧ (parseMethodDescriptor y.desc).map (fun d => d.parameters.length) = some n) (hR : rm.frames + 1 ≤ R.frames ∧ 8 + (maxL + 11) + rm.locals ≤ R.locals) :
    vx_CSW R s args own index y bytes maxL ret hh [.codeWith y bytes maxL ret hh] rm mc ms n := by
  refine ⟨⟨hrc, hrs, hR.1, hR.2, pay_in S.2.2.2.2 (fun w h => ?_), List.mem_singleton.mpr rfl⟩, S.2.2.2.2 _ hcode, S.2.2.2.2 _ hini, ⟨hd.1, hd.2.1⟩, fun sig h => ?_, S.2.2.2.2 _ hl, S.2.2.2.2 _ hi⟩
  · rw [List.mem_singleton.mp h]
    exact ⟨hcode, good_of_word (List.mem_filter.mp hcode).2⟩
  · have h2 := hd.2.2
    rw [h] at h2
    exact (Option.some.inj h2).symm
theorem pw_lald (S : pw_Fx p m c cc nL s args own) (w : pw_S D tys A ws s H locs) (q0 t0 : Nat) {x : Nat} {cA : ClassId} {n : Nat} {f : Nat → Int64} (ha : ws[q0]? = some (x, .inl (cA, n, .inr (.inl f)))) (ht : tys[t0]? = some (cA, .long)) {j : Nat} (hj : j < n) (hn : n < 2 ^ 31) (hdg : decode cc pc = .ok (.laload, 1))
    (kk : W p l e R s m args below meth c H locs cells slots Q (F0 m (pc + 1) ls (.long (f j) :: rest))) : W p l e R s m args below meth c H locs cells slots Q (F0 m pc ls (.int (nI j) :: .ref x :: rest)) := by
  refine va_lald S.1 S.2.1 w.1 w.2.1 q0 t0 ha ht (vp_in_nI hj hn) hdg ?_
  rw [nI_clamp (by omega)]
  exact kk
theorem pw_last (S : pw_Fx p m c cc nL s args own) (w : pw_S D tys A ws s H locs) (q0 t0 : Nat) {x : Nat} {cA : ClassId} {n : Nat} {f : Nat → Int64} (ha : ws[q0]? = some (x, .inl (cA, n, .inr (.inl f)))) (ht : tys[t0]? = some (cA, .long)) {j : Nat} {v : Int64} (hj : j < n) (hn : n < 2 ^ 31) (hdg : decode cc pc = .ok (.lastore, 1))
    (kk : ∀ (H1 : Heap) (locs1 : List Loc), pw_S D tys A (ws.set q0 (x, .inl (cA, n, .inr (.inl (vp_updL f j v))))) s H1 locs1 → W p l e R s m args below meth c H1 locs1 cells slots Q (F0 m (pc + 1) ls rest)) : W p l e R s m args below meth c H locs cells slots Q (F0 m pc ls (.long v :: .int (nI j) :: .ref x :: rest)) := by
  refine va_last S.1 S.2.1 w.1 w.2.1 w.2.2.1 w.2.2.2.1 q0 t0 ha ht (vp_in_nI hj hn) hdg ?_
  rw [nI_clamp (by omega)]
  exact fun H1 locs1 hP hD hS => kk H1 locs1 ⟨w.1, hP, hD, hS, w.2.2.2.2⟩
end PW
